section
-- ===== PART A: goes FIRST, ahead of the names: the tables' words, and 'selects' of the private methods out of them =====
/-- a private method of a class that the tables say can be made, by its rows of tables_1 -/
def lw_okq (q : MethodName × Nat) : Prop := (q.1.cls ≠ "java/lang/invoke/MethodHandle" ∧ q.1.cls ≠ "java/lang/invoke/VarHandle") ∧ Cond.instantiable q.1.cls q.2 ∈ tables_1 ∧ Cond.privateMethod q.1 ∈ tables_1 ∧ Cond.instanceMethod q.1 ∈ tables_1
theorem lw_p0 : lw_okq (⟨"BitStreams$Exchanges", "exchange", "(II)V"⟩, 5) := ⟨⟨by decide +kernel, by decide +kernel⟩, List.mem_of_getElem? (i := 100) (by decide +kernel), List.mem_of_getElem? (i := 186) (by decide +kernel), List.mem_of_getElem? (i := 187) (by decide +kernel)⟩
theorem lw_p1 : lw_okq (⟨"BitStreams$ThreeThatStop", "feed", "(I)V"⟩, 3) := ⟨⟨by decide +kernel, by decide +kernel⟩, List.mem_of_getElem? (i := 82) (by decide +kernel), List.mem_of_getElem? (i := 224) (by decide +kernel), List.mem_of_getElem? (i := 225) (by decide +kernel)⟩
theorem lw_p2 : lw_okq (⟨"BitStreams$ThreeThatStop", "goX", "()V"⟩, 3) := ⟨⟨by decide +kernel, by decide +kernel⟩, List.mem_of_getElem? (i := 82) (by decide +kernel), List.mem_of_getElem? (i := 228) (by decide +kernel), List.mem_of_getElem? (i := 229) (by decide +kernel)⟩
theorem lw_p3 : lw_okq (⟨"BitStreams$ThreeThatStop", "goY", "()V"⟩, 3) := ⟨⟨by decide +kernel, by decide +kernel⟩, List.mem_of_getElem? (i := 82) (by decide +kernel), List.mem_of_getElem? (i := 234) (by decide +kernel), List.mem_of_getElem? (i := 235) (by decide +kernel)⟩
theorem lw_p4 : lw_okq (⟨"BitStreams$ThreeThatStop", "goZ", "()V"⟩, 3) := ⟨⟨by decide +kernel, by decide +kernel⟩, List.mem_of_getElem? (i := 82) (by decide +kernel), List.mem_of_getElem? (i := 238) (by decide +kernel), List.mem_of_getElem? (i := 239) (by decide +kernel)⟩
theorem lw_p5 : lw_okq (⟨"BitStreams$TwoRegisters", "output", "()I"⟩, 2) := ⟨⟨by decide +kernel, by decide +kernel⟩, List.mem_of_getElem? (i := 67) (by decide +kernel), List.mem_of_getElem? (i := 253) (by decide +kernel), List.mem_of_getElem? (i := 254) (by decide +kernel)⟩
theorem lw_p6 : lw_okq (⟨"BitStreams$TwoRegisters", "move", "(I)V"⟩, 2) := ⟨⟨by decide +kernel, by decide +kernel⟩, List.mem_of_getElem? (i := 67) (by decide +kernel), List.mem_of_getElem? (i := 258) (by decide +kernel), List.mem_of_getElem? (i := 259) (by decide +kernel)⟩
theorem lw_p7 : lw_okq (⟨"BitStreams$TwoRegisters", "newBitOfS", "()I"⟩, 2) := ⟨⟨by decide +kernel, by decide +kernel⟩, List.mem_of_getElem? (i := 67) (by decide +kernel), List.mem_of_getElem? (i := 262) (by decide +kernel), List.mem_of_getElem? (i := 263) (by decide +kernel)⟩
theorem lw_p8 : lw_okq (⟨"BitStreams$TwoRegisters", "newBitOfB", "()I"⟩, 2) := ⟨⟨by decide +kernel, by decide +kernel⟩, List.mem_of_getElem? (i := 67) (by decide +kernel), List.mem_of_getElem? (i := 266) (by decide +kernel), List.mem_of_getElem? (i := 267) (by decide +kernel)⟩
theorem lw_p9 : lw_okq (⟨"BitStreams$Exchanges", "nextByte", "()I"⟩, 5) := ⟨⟨by decide +kernel, by decide +kernel⟩, List.mem_of_getElem? (i := 100) (by decide +kernel), List.mem_of_getElem? (i := 292) (by decide +kernel), List.mem_of_getElem? (i := 293) (by decide +kernel)⟩
theorem lw_p10 : lw_okq (⟨"BitStreamsModel", "fits", "(I)Z"⟩, 13) := ⟨⟨by decide +kernel, by decide +kernel⟩, List.mem_of_getElem? (i := 311) (by decide +kernel), List.mem_of_getElem? (i := 370) (by decide +kernel), List.mem_of_getElem? (i := 371) (by decide +kernel)⟩
theorem lw_p11 : lw_okq (⟨"BitStreamsModel", "clean", "()V"⟩, 13) := ⟨⟨by decide +kernel, by decide +kernel⟩, List.mem_of_getElem? (i := 311) (by decide +kernel), List.mem_of_getElem? (i := 374) (by decide +kernel), List.mem_of_getElem? (i := 375) (by decide +kernel)⟩
theorem lw_p12 : lw_okq (⟨"BitStreamsModel", "beginRings", "()V"⟩, 13) := ⟨⟨by decide +kernel, by decide +kernel⟩, List.mem_of_getElem? (i := 311) (by decide +kernel), List.mem_of_getElem? (i := 378) (by decide +kernel), List.mem_of_getElem? (i := 379) (by decide +kernel)⟩
theorem lw_p13 : lw_okq (⟨"BitStreamsModel", "keyBit", "(I)I"⟩, 13) := ⟨⟨by decide +kernel, by decide +kernel⟩, List.mem_of_getElem? (i := 311) (by decide +kernel), List.mem_of_getElem? (i := 382) (by decide +kernel), List.mem_of_getElem? (i := 383) (by decide +kernel)⟩
theorem lw_p14 : lw_okq (⟨"BitStreamsModel", "put", "(III)V"⟩, 13) := ⟨⟨by decide +kernel, by decide +kernel⟩, List.mem_of_getElem? (i := 311) (by decide +kernel), List.mem_of_getElem? (i := 386) (by decide +kernel), List.mem_of_getElem? (i := 387) (by decide +kernel)⟩
theorem lw_p15 : lw_okq (⟨"BitStreamsModel", "startBit", "(I)I"⟩, 13) := ⟨⟨by decide +kernel, by decide +kernel⟩, List.mem_of_getElem? (i := 311) (by decide +kernel), List.mem_of_getElem? (i := 390) (by decide +kernel), List.mem_of_getElem? (i := 391) (by decide +kernel)⟩
def lw_privs_1 : List (MethodName × Nat) := [(⟨"BitStreams$Exchanges", "exchange", "(II)V"⟩, 5), (⟨"BitStreams$ThreeThatStop", "feed", "(I)V"⟩, 3), (⟨"BitStreams$ThreeThatStop", "goX", "()V"⟩, 3), (⟨"BitStreams$ThreeThatStop", "goY", "()V"⟩, 3), (⟨"BitStreams$ThreeThatStop", "goZ", "()V"⟩, 3), (⟨"BitStreams$TwoRegisters", "output", "()I"⟩, 2), (⟨"BitStreams$TwoRegisters", "move", "(I)V"⟩, 2), (⟨"BitStreams$TwoRegisters", "newBitOfS", "()I"⟩, 2), (⟨"BitStreams$TwoRegisters", "newBitOfB", "()I"⟩, 2), (⟨"BitStreams$Exchanges", "nextByte", "()I"⟩, 5), (⟨"BitStreamsModel", "fits", "(I)Z"⟩, 13), (⟨"BitStreamsModel", "clean", "()V"⟩, 13), (⟨"BitStreamsModel", "beginRings", "()V"⟩, 13), (⟨"BitStreamsModel", "keyBit", "(I)I"⟩, 13), (⟨"BitStreamsModel", "put", "(III)V"⟩, 13), (⟨"BitStreamsModel", "startBit", "(I)I"⟩, 13)]
theorem lw_r1 : ∀ q ∈ lw_privs_1, lw_okq q := List.forall_mem_cons.mpr ⟨lw_p0, List.forall_mem_cons.mpr ⟨lw_p1, List.forall_mem_cons.mpr ⟨lw_p2, List.forall_mem_cons.mpr ⟨lw_p3, List.forall_mem_cons.mpr ⟨lw_p4, List.forall_mem_cons.mpr ⟨lw_p5, List.forall_mem_cons.mpr ⟨lw_p6, List.forall_mem_cons.mpr ⟨lw_p7, List.forall_mem_cons.mpr ⟨lw_p8, List.forall_mem_cons.mpr ⟨lw_p9, List.forall_mem_cons.mpr ⟨lw_p10, List.forall_mem_cons.mpr ⟨lw_p11, List.forall_mem_cons.mpr ⟨lw_p12, List.forall_mem_cons.mpr ⟨lw_p13, List.forall_mem_cons.mpr ⟨lw_p14, List.forall_mem_cons.mpr ⟨lw_p15, fun _ h => absurd h List.not_mem_nil⟩⟩⟩⟩⟩⟩⟩⟩⟩⟩⟩⟩⟩⟩⟩⟩
theorem lw_p16 : lw_okq (⟨"BitStreamsModel", "stepRings", "()I"⟩, 13) := ⟨⟨by decide +kernel, by decide +kernel⟩, List.mem_of_getElem? (i := 311) (by decide +kernel), List.mem_of_getElem? (i := 394) (by decide +kernel), List.mem_of_getElem? (i := 395) (by decide +kernel)⟩
theorem lw_p17 : lw_okq (⟨"BitStreamsModel", "s", "(I)I"⟩, 13) := ⟨⟨by decide +kernel, by decide +kernel⟩, List.mem_of_getElem? (i := 311) (by decide +kernel), List.mem_of_getElem? (i := 398) (by decide +kernel), List.mem_of_getElem? (i := 399) (by decide +kernel)⟩
theorem lw_p18 : lw_okq (⟨"BitStreamsModel", "cell", "(II)I"⟩, 13) := ⟨⟨by decide +kernel, by decide +kernel⟩, List.mem_of_getElem? (i := 311) (by decide +kernel), List.mem_of_getElem? (i := 402) (by decide +kernel), List.mem_of_getElem? (i := 403) (by decide +kernel)⟩
theorem lw_p19 : lw_okq (⟨"BitStreamsModel", "up", "(II)V"⟩, 13) := ⟨⟨by decide +kernel, by decide +kernel⟩, List.mem_of_getElem? (i := 311) (by decide +kernel), List.mem_of_getElem? (i := 406) (by decide +kernel), List.mem_of_getElem? (i := 407) (by decide +kernel)⟩
theorem lw_p20 : lw_okq (⟨"BitStreamsModel", "beginTwo", "()V"⟩, 13) := ⟨⟨by decide +kernel, by decide +kernel⟩, List.mem_of_getElem? (i := 311) (by decide +kernel), List.mem_of_getElem? (i := 410) (by decide +kernel), List.mem_of_getElem? (i := 411) (by decide +kernel)⟩
theorem lw_p21 : lw_okq (⟨"BitStreamsModel", "stepTwo", "(Z)I"⟩, 13) := ⟨⟨by decide +kernel, by decide +kernel⟩, List.mem_of_getElem? (i := 311) (by decide +kernel), List.mem_of_getElem? (i := 414) (by decide +kernel), List.mem_of_getElem? (i := 415) (by decide +kernel)⟩
theorem lw_p22 : lw_okq (⟨"BitStreamsModel", "b", "(I)I"⟩, 13) := ⟨⟨by decide +kernel, by decide +kernel⟩, List.mem_of_getElem? (i := 311) (by decide +kernel), List.mem_of_getElem? (i := 418) (by decide +kernel), List.mem_of_getElem? (i := 419) (by decide +kernel)⟩
theorem lw_p23 : lw_okq (⟨"BitStreamsModel", "t", "(I)I"⟩, 13) := ⟨⟨by decide +kernel, by decide +kernel⟩, List.mem_of_getElem? (i := 311) (by decide +kernel), List.mem_of_getElem? (i := 422) (by decide +kernel), List.mem_of_getElem? (i := 423) (by decide +kernel)⟩
theorem lw_p24 : lw_okq (⟨"BitStreamsModel", "down", "(II)V"⟩, 13) := ⟨⟨by decide +kernel, by decide +kernel⟩, List.mem_of_getElem? (i := 311) (by decide +kernel), List.mem_of_getElem? (i := 426) (by decide +kernel), List.mem_of_getElem? (i := 427) (by decide +kernel)⟩
theorem lw_p25 : lw_okq (⟨"BitStreamsModel", "beginStops", "()V"⟩, 13) := ⟨⟨by decide +kernel, by decide +kernel⟩, List.mem_of_getElem? (i := 311) (by decide +kernel), List.mem_of_getElem? (i := 430) (by decide +kernel), List.mem_of_getElem? (i := 431) (by decide +kernel)⟩
theorem lw_p26 : lw_okq (⟨"BitStreamsModel", "feed", "(I)V"⟩, 13) := ⟨⟨by decide +kernel, by decide +kernel⟩, List.mem_of_getElem? (i := 311) (by decide +kernel), List.mem_of_getElem? (i := 434) (by decide +kernel), List.mem_of_getElem? (i := 435) (by decide +kernel)⟩
theorem lw_p27 : lw_okq (⟨"BitStreamsModel", "goes", "(I)V"⟩, 13) := ⟨⟨by decide +kernel, by decide +kernel⟩, List.mem_of_getElem? (i := 311) (by decide +kernel), List.mem_of_getElem? (i := 438) (by decide +kernel), List.mem_of_getElem? (i := 439) (by decide +kernel)⟩
theorem lw_p28 : lw_okq (⟨"BitStreamsModel", "stepStops", "()I"⟩, 13) := ⟨⟨by decide +kernel, by decide +kernel⟩, List.mem_of_getElem? (i := 311) (by decide +kernel), List.mem_of_getElem? (i := 442) (by decide +kernel), List.mem_of_getElem? (i := 443) (by decide +kernel)⟩
theorem lw_p29 : lw_okq (⟨"BitStreamsModel", "beginRow", "()V"⟩, 13) := ⟨⟨by decide +kernel, by decide +kernel⟩, List.mem_of_getElem? (i := 311) (by decide +kernel), List.mem_of_getElem? (i := 446) (by decide +kernel), List.mem_of_getElem? (i := 447) (by decide +kernel)⟩
theorem lw_p30 : lw_okq (⟨"BitStreamsModel", "exchange", "(II)V"⟩, 13) := ⟨⟨by decide +kernel, by decide +kernel⟩, List.mem_of_getElem? (i := 311) (by decide +kernel), List.mem_of_getElem? (i := 450) (by decide +kernel), List.mem_of_getElem? (i := 451) (by decide +kernel)⟩
theorem lw_p31 : lw_okq (⟨"BitStreamsModel", "next", "()I"⟩, 13) := ⟨⟨by decide +kernel, by decide +kernel⟩, List.mem_of_getElem? (i := 311) (by decide +kernel), List.mem_of_getElem? (i := 462) (by decide +kernel), List.mem_of_getElem? (i := 463) (by decide +kernel)⟩
def lw_privs_2 : List (MethodName × Nat) := [(⟨"BitStreamsModel", "stepRings", "()I"⟩, 13), (⟨"BitStreamsModel", "s", "(I)I"⟩, 13), (⟨"BitStreamsModel", "cell", "(II)I"⟩, 13), (⟨"BitStreamsModel", "up", "(II)V"⟩, 13), (⟨"BitStreamsModel", "beginTwo", "()V"⟩, 13), (⟨"BitStreamsModel", "stepTwo", "(Z)I"⟩, 13), (⟨"BitStreamsModel", "b", "(I)I"⟩, 13), (⟨"BitStreamsModel", "t", "(I)I"⟩, 13), (⟨"BitStreamsModel", "down", "(II)V"⟩, 13), (⟨"BitStreamsModel", "beginStops", "()V"⟩, 13), (⟨"BitStreamsModel", "feed", "(I)V"⟩, 13), (⟨"BitStreamsModel", "goes", "(I)V"⟩, 13), (⟨"BitStreamsModel", "stepStops", "()I"⟩, 13), (⟨"BitStreamsModel", "beginRow", "()V"⟩, 13), (⟨"BitStreamsModel", "exchange", "(II)V"⟩, 13), (⟨"BitStreamsModel", "next", "()I"⟩, 13)]
theorem lw_r2 : ∀ q ∈ lw_privs_2, lw_okq q := List.forall_mem_cons.mpr ⟨lw_p16, List.forall_mem_cons.mpr ⟨lw_p17, List.forall_mem_cons.mpr ⟨lw_p18, List.forall_mem_cons.mpr ⟨lw_p19, List.forall_mem_cons.mpr ⟨lw_p20, List.forall_mem_cons.mpr ⟨lw_p21, List.forall_mem_cons.mpr ⟨lw_p22, List.forall_mem_cons.mpr ⟨lw_p23, List.forall_mem_cons.mpr ⟨lw_p24, List.forall_mem_cons.mpr ⟨lw_p25, List.forall_mem_cons.mpr ⟨lw_p26, List.forall_mem_cons.mpr ⟨lw_p27, List.forall_mem_cons.mpr ⟨lw_p28, List.forall_mem_cons.mpr ⟨lw_p29, List.forall_mem_cons.mpr ⟨lw_p30, List.forall_mem_cons.mpr ⟨lw_p31, fun _ h => absurd h List.not_mem_nil⟩⟩⟩⟩⟩⟩⟩⟩⟩⟩⟩⟩⟩⟩⟩⟩
theorem lw_p32 : lw_okq (⟨"BitStreamsModel", "stepByte", "()I"⟩, 13) := ⟨⟨by decide +kernel, by decide +kernel⟩, List.mem_of_getElem? (i := 311) (by decide +kernel), List.mem_of_getElem? (i := 466) (by decide +kernel), List.mem_of_getElem? (i := 467) (by decide +kernel)⟩
def lw_privs_3 : List (MethodName × Nat) := [(⟨"BitStreamsModel", "stepByte", "()I"⟩, 13)]
theorem lw_r3 : ∀ q ∈ lw_privs_3, lw_okq q := List.forall_mem_cons.mpr ⟨lw_p32, fun _ h => absurd h List.not_mem_nil⟩
def lw_privs : List (MethodName × Nat) := lw_privs_1 ++ (lw_privs_2 ++ (lw_privs_3))
def lw_tbl : List Cond := k2_sels lw_privs ++ tables_1
theorem lw_privs_ok : ∀ q ∈ lw_privs, lw_okq q := by
  show ∀ q ∈ lw_privs_1 ++ (lw_privs_2 ++ (lw_privs_3)), lw_okq q
  exact List.forall_mem_append.mpr ⟨lw_r1, List.forall_mem_append.mpr ⟨lw_r2, lw_r3⟩⟩
-- ===== end of PART A; then your names; then what follows =====
end
section
/-! ===== BEGIN words of one list among another's, by their places ===== -/
theorem goodIn_r {big : List Cond} (ws : List Cond) (ps : List Nat) (hp : ws = ps.filterMap (fun i => big[i]?)) (h : ws.all goodWord = true) : GoodIn big ws := by
  intro w hw
  have h1 := List.all_eq_true.mp h w hw
  rw [hp] at hw
  obtain ⟨i, -, hi⟩ := List.mem_filterMap.mp hw
  have hm : w ∈ big := by first | exact List.mem_of_getElem? hi | exact List.getElem?_mem hi
  exact ⟨hm, good_of_word h1⟩
theorem goodIn_app {big a b : List Cond} (ha : GoodIn big a) (hb : GoodIn big b) : GoodIn big (a ++ b) := fun w h => (List.mem_append.mp h).elim (ha w) (hb w)
theorem goodIn_ca {big a b : List Cond} {c : Cond} (ha : GoodIn big (c :: a)) (hb : GoodIn big b) : GoodIn big (c :: (a ++ b)) := fun w h => (List.mem_cons.mp h).elim (fun e => ha w (List.mem_cons.mpr (Or.inl e))) (fun h => (List.mem_append.mp h).elim (fun h => ha w (List.mem_cons.mpr (Or.inr h))) (hb w))
theorem goodIn_sub {big ws : List Cond} (hm : ∀ w ∈ ws, w ∈ big) (h : ws.all goodWord = true) : GoodIn big ws := fun w hw => ⟨hm w hw, good_of_word (List.all_eq_true.mp h w hw)⟩
/-! ===== END ===== -/

/-! ===== BEGIN printed: names, fields, word lists, decode rows ===== -/
def RX0 : String := "BitStreams$Bytes"
def TX0 : u_T := fun k => match k with
  | 0 => ("BitStreams$Bytes", "held", "[I", true)
  | _ => ("BitStreams$Bytes", "size", "I", false)
def tyX0 : Nat → FieldType := fun k => match k with
  | 0 => .array .int
  | _ => .int
abbrev wsX00 : List Cond := u_ws RX0 TX0 2
theorem nmX0 : ∀ a, a < 2 → ∀ b, b < 2 → a ≠ b → (TX0 a).2.1 ≠ (TX0 b).2.1 := by decide +kernel
theorem tyX0_ok : ∀ k, k < 2 → parseFieldDescriptor (TX0 k).2.2.1 = some (tyX0 k) := by decide +kernel
abbrev cX0_init : ByteArray := prog_2_method_1_code
def yX0_init : MethodName := ⟨RX0, "<init>", "(I)V"⟩
abbrev cX0_append : ByteArray := prog_2_method_2_code
def yX0_append : MethodName := ⟨RX0, "append", "(JI)Z"⟩
abbrev cX0_clear : ByteArray := prog_2_method_3_code
def yX0_clear : MethodName := ⟨RX0, "clear", "()V"⟩
abbrev cX0_size : ByteArray := prog_2_method_4_code
def yX0_size : MethodName := ⟨RX0, "size", "()I"⟩
abbrev cX0_at : ByteArray := prog_2_method_5_code
def yX0_at : MethodName := ⟨RX0, "at", "(I)I"⟩
abbrev cX0_bit : ByteArray := prog_2_method_6_code
def yX0_bit : MethodName := ⟨RX0, "bit", "(I)I"⟩
def RX1 : String := "BitStreams$Cells"
def TX1 : u_T := fun k => match k with
  | 0 => ("BitStreams$Cells", "low", "J", false)
  | _ => ("BitStreams$Cells", "high", "J", false)
def tyX1 : Nat → FieldType := fun k => match k with
  | 0 => .long
  | _ => .long
abbrev wsX10 : List Cond := u_ws RX1 TX1 2
theorem nmX1 : ∀ a, a < 2 → ∀ b, b < 2 → a ≠ b → (TX1 a).2.1 ≠ (TX1 b).2.1 := by decide +kernel
theorem tyX1_ok : ∀ k, k < 2 → parseFieldDescriptor (TX1 k).2.2.1 = some (tyX1 k) := by decide +kernel
abbrev cX1_init : ByteArray := prog_3_method_1_code
def yX1_init : MethodName := ⟨RX1, "<init>", "()V"⟩
abbrev cX1_clear : ByteArray := prog_3_method_2_code
def yX1_clear : MethodName := ⟨RX1, "clear", "()V"⟩
abbrev cX1_at : ByteArray := prog_3_method_3_code
def yX1_at : MethodName := ⟨RX1, "at", "(I)I"⟩
abbrev cX1_add : ByteArray := prog_3_method_4_code
def yX1_add : MethodName := ⟨RX1, "add", "(II)V"⟩
abbrev cX1_moveUp : ByteArray := prog_3_method_5_code
def yX1_moveUp : MethodName := ⟨RX1, "moveUp", "(I)V"⟩
abbrev cX1_moveDown : ByteArray := prog_3_method_6_code
def yX1_moveDown : MethodName := ⟨RX1, "moveDown", "(I)V"⟩
def RX2 : String := "BitStreams$Exchanges"
def TX2 : u_T := fun k => match k with
  | 0 => ("BitStreams$Exchanges", "row", "[I", true)
  | 1 => ("BitStreams$Exchanges", "i", "I", false)
  | 2 => ("BitStreams$Exchanges", "j", "I", false)
  | 3 => ("BitStreams$Exchanges", "givenByte", "I", false)
  | _ => ("BitStreams$Exchanges", "bitsLeft", "I", false)
def tyX2 : Nat → FieldType := fun k => match k with
  | 0 => .array .int
  | 1 => .int
  | 2 => .int
  | 3 => .int
  | _ => .int
abbrev wsX20 : List Cond := u_ws RX2 TX2 5
theorem nmX2 : ∀ a, a < 5 → ∀ b, b < 5 → a ≠ b → (TX2 a).2.1 ≠ (TX2 b).2.1 := by decide +kernel
theorem tyX2_ok : ∀ k, k < 5 → parseFieldDescriptor (TX2 k).2.2.1 = some (tyX2 k) := by decide +kernel
abbrev cX2_init : ByteArray := prog_4_method_1_code
def yX2_init : MethodName := ⟨RX2, "<init>", "()V"⟩
abbrev cX2_takes : ByteArray := prog_4_method_2_code
def yX2_takes : MethodName := ⟨RX2, "takes", "(II)Z"⟩
abbrev cX2_load : ByteArray := prog_4_method_3_code
def yX2_load : MethodName := ⟨RX2, "load", "(LBitStreams$Bytes;LBitStreams$Bytes;)V"⟩
abbrev cX2_nextBit : ByteArray := prog_4_method_4_code
def yX2_nextBit : MethodName := ⟨RX2, "nextBit", "()I"⟩
abbrev cX2_nextByte : ByteArray := prog_4_method_5_code
def yX2_nextByte : MethodName := ⟨RX2, "nextByte", "()I"⟩
abbrev cX2_exchange : ByteArray := prog_4_method_6_code
def yX2_exchange : MethodName := ⟨RX2, "exchange", "(II)V"⟩
def RX3 : String := "BitStreams$Machine"
def TX3 : u_T := fun k => match k with
  | _ => ("", "", "", false)
def tyX3 : Nat → FieldType := fun k => match k with
  | _ => .int
abbrev wsX30 : List Cond := u_ws RX3 TX3 0
theorem nmX3 : ∀ a, a < 0 → ∀ b, b < 0 → a ≠ b → (TX3 a).2.1 ≠ (TX3 b).2.1 := by decide +kernel
theorem tyX3_ok : ∀ k, k < 0 → parseFieldDescriptor (TX3 k).2.2.1 = some (tyX3 k) := by decide +kernel
abbrev cX3_init : ByteArray := prog_5_method_1_code
def yX3_init : MethodName := ⟨RX3, "<init>", "()V"⟩
def RX4 : String := "BitStreams$ThreeRings"
def TX4 : u_T := fun k => match k with
  | 0 => ("BitStreams$ThreeRings", "a", "LBitStreams$Cells;", true)
  | 1 => ("BitStreams$ThreeRings", "b", "LBitStreams$Cells;", true)
  | _ => ("BitStreams$ThreeRings", "c", "LBitStreams$Cells;", true)
def tyX4 : Nat → FieldType := fun k => match k with
  | 0 => .object "BitStreams$Cells"
  | 1 => .object "BitStreams$Cells"
  | _ => .object "BitStreams$Cells"
abbrev wsX40 : List Cond := u_ws RX4 TX4 3
theorem nmX4 : ∀ a, a < 3 → ∀ b, b < 3 → a ≠ b → (TX4 a).2.1 ≠ (TX4 b).2.1 := by decide +kernel
theorem tyX4_ok : ∀ k, k < 3 → parseFieldDescriptor (TX4 k).2.2.1 = some (tyX4 k) := by decide +kernel
abbrev cX4_init : ByteArray := prog_6_method_1_code
def yX4_init : MethodName := ⟨RX4, "<init>", "()V"⟩
abbrev cX4_takes : ByteArray := prog_6_method_2_code
def yX4_takes : MethodName := ⟨RX4, "takes", "(II)Z"⟩
abbrev cX4_load : ByteArray := prog_6_method_3_code
def yX4_load : MethodName := ⟨RX4, "load", "(LBitStreams$Bytes;LBitStreams$Bytes;)V"⟩
abbrev cX4_nextBit : ByteArray := prog_6_method_4_code
def yX4_nextBit : MethodName := ⟨RX4, "nextBit", "()I"⟩
def RX5 : String := "BitStreams$ThreeThatStop"
def TX5 : u_T := fun k => match k with
  | 0 => ("BitStreams$ThreeThatStop", "x", "LBitStreams$Cells;", true)
  | 1 => ("BitStreams$ThreeThatStop", "y", "LBitStreams$Cells;", true)
  | _ => ("BitStreams$ThreeThatStop", "z", "LBitStreams$Cells;", true)
def tyX5 : Nat → FieldType := fun k => match k with
  | 0 => .object "BitStreams$Cells"
  | 1 => .object "BitStreams$Cells"
  | _ => .object "BitStreams$Cells"
abbrev wsX50 : List Cond := u_ws RX5 TX5 3
theorem nmX5 : ∀ a, a < 3 → ∀ b, b < 3 → a ≠ b → (TX5 a).2.1 ≠ (TX5 b).2.1 := by decide +kernel
theorem tyX5_ok : ∀ k, k < 3 → parseFieldDescriptor (TX5 k).2.2.1 = some (tyX5 k) := by decide +kernel
abbrev cX5_init : ByteArray := prog_7_method_1_code
def yX5_init : MethodName := ⟨RX5, "<init>", "()V"⟩
abbrev cX5_takes : ByteArray := prog_7_method_2_code
def yX5_takes : MethodName := ⟨RX5, "takes", "(II)Z"⟩
abbrev cX5_load : ByteArray := prog_7_method_3_code
def yX5_load : MethodName := ⟨RX5, "load", "(LBitStreams$Bytes;LBitStreams$Bytes;)V"⟩
abbrev cX5_nextBit : ByteArray := prog_7_method_4_code
def yX5_nextBit : MethodName := ⟨RX5, "nextBit", "()I"⟩
abbrev cX5_feed : ByteArray := prog_7_method_5_code
def yX5_feed : MethodName := ⟨RX5, "feed", "(I)V"⟩
abbrev cX5_goX : ByteArray := prog_7_method_6_code
def yX5_goX : MethodName := ⟨RX5, "goX", "()V"⟩
abbrev cX5_goY : ByteArray := prog_7_method_7_code
def yX5_goY : MethodName := ⟨RX5, "goY", "()V"⟩
abbrev cX5_goZ : ByteArray := prog_7_method_8_code
def yX5_goZ : MethodName := ⟨RX5, "goZ", "()V"⟩
def RX6 : String := "BitStreams$TwoRegisters"
def TX6 : u_T := fun k => match k with
  | 0 => ("BitStreams$TwoRegisters", "b", "LBitStreams$Cells;", true)
  | _ => ("BitStreams$TwoRegisters", "s", "LBitStreams$Cells;", true)
def tyX6 : Nat → FieldType := fun k => match k with
  | 0 => .object "BitStreams$Cells"
  | _ => .object "BitStreams$Cells"
abbrev wsX60 : List Cond := u_ws RX6 TX6 2
theorem nmX6 : ∀ a, a < 2 → ∀ b, b < 2 → a ≠ b → (TX6 a).2.1 ≠ (TX6 b).2.1 := by decide +kernel
theorem tyX6_ok : ∀ k, k < 2 → parseFieldDescriptor (TX6 k).2.2.1 = some (tyX6 k) := by decide +kernel
abbrev cX6_init : ByteArray := prog_8_method_1_code
def yX6_init : MethodName := ⟨RX6, "<init>", "()V"⟩
abbrev cX6_takes : ByteArray := prog_8_method_2_code
def yX6_takes : MethodName := ⟨RX6, "takes", "(II)Z"⟩
abbrev cX6_load : ByteArray := prog_8_method_3_code
def yX6_load : MethodName := ⟨RX6, "load", "(LBitStreams$Bytes;LBitStreams$Bytes;)V"⟩
abbrev cX6_nextBit : ByteArray := prog_8_method_4_code
def yX6_nextBit : MethodName := ⟨RX6, "nextBit", "()I"⟩
abbrev cX6_output : ByteArray := prog_8_method_5_code
def yX6_output : MethodName := ⟨RX6, "output", "()I"⟩
abbrev cX6_move : ByteArray := prog_8_method_6_code
def yX6_move : MethodName := ⟨RX6, "move", "(I)V"⟩
abbrev cX6_newBitOfS : ByteArray := prog_8_method_7_code
def yX6_newBitOfS : MethodName := ⟨RX6, "newBitOfS", "()I"⟩
abbrev cX6_newBitOfB : ByteArray := prog_8_method_8_code
def yX6_newBitOfB : MethodName := ⟨RX6, "newBitOfB", "()I"⟩
def RX7 : String := "BitStreams"
def TX7 : u_T := fun k => match k with
  | 0 => ("BitStreams", "keyBytes", "LBitStreams$Bytes;", true)
  | 1 => ("BitStreams", "startBytes", "LBitStreams$Bytes;", true)
  | 2 => ("BitStreams", "machines", "[LBitStreams$Machine;", true)
  | 3 => ("BitStreams", "running", "LBitStreams$Machine;", false)
  | 4 => ("BitStreams", "runningNumber", "I", false)
  | _ => ("BitStreams", "used", "I", false)
def tyX7 : Nat → FieldType := fun k => match k with
  | 0 => .object "BitStreams$Bytes"
  | 1 => .object "BitStreams$Bytes"
  | 2 => .array (.object "BitStreams$Machine")
  | 3 => .object "BitStreams$Machine"
  | 4 => .int
  | _ => .int
abbrev wsX70 : List Cond := u_ws RX7 TX7 6
theorem nmX7 : ∀ a, a < 6 → ∀ b, b < 6 → a ≠ b → (TX7 a).2.1 ≠ (TX7 b).2.1 := by decide +kernel
theorem tyX7_ok : ∀ k, k < 6 → parseFieldDescriptor (TX7 k).2.2.1 = some (tyX7 k) := by decide +kernel
abbrev cX7_init : ByteArray := prog_1_method_1_code
def yX7_init : MethodName := ⟨RX7, "<init>", "()V"⟩
abbrev cX7_key : ByteArray := prog_1_method_2_code
def yX7_key : MethodName := ⟨RX7, "key", "(JI)Z"⟩
abbrev cX7_start : ByteArray := prog_1_method_3_code
def yX7_start : MethodName := ⟨RX7, "start", "(JI)Z"⟩
abbrev cX7_begin : ByteArray := prog_1_method_4_code
def yX7_begin : MethodName := ⟨RX7, "begin", "(I)Z"⟩
abbrev cX7_bits : ByteArray := prog_1_method_5_code
def yX7_bits : MethodName := ⟨RX7, "bits", "(I)J"⟩
abbrev cX7_skip : ByteArray := prog_1_method_6_code
def yX7_skip : MethodName := ⟨RX7, "skip", "(I)Z"⟩
abbrev cX7_mix : ByteArray := prog_1_method_7_code
def yX7_mix : MethodName := ⟨RX7, "mix", "(JI)J"⟩
abbrev cX7_count : ByteArray := prog_1_method_8_code
def yX7_count : MethodName := ⟨RX7, "count", "(I)I"⟩
def RX8 : String := "BitStreamsModel"
def TX8 : u_T := fun k => match k with
  | 0 => ("BitStreamsModel", "key", "[I", true)
  | 1 => ("BitStreamsModel", "start", "[I", true)
  | 2 => ("BitStreamsModel", "keySize", "I", false)
  | 3 => ("BitStreamsModel", "startSize", "I", false)
  | 4 => ("BitStreamsModel", "machine", "I", false)
  | 5 => ("BitStreamsModel", "given", "I", false)
  | 6 => ("BitStreamsModel", "cells", "[I", true)
  | 7 => ("BitStreamsModel", "tops", "[I", true)
  | 8 => ("BitStreamsModel", "row", "[I", true)
  | 9 => ("BitStreamsModel", "i", "I", false)
  | 10 => ("BitStreamsModel", "j", "I", false)
  | 11 => ("BitStreamsModel", "byteNow", "I", false)
  | _ => ("BitStreamsModel", "left", "I", false)
def tyX8 : Nat → FieldType := fun k => match k with
  | 0 => .array .int
  | 1 => .array .int
  | 2 => .int
  | 3 => .int
  | 4 => .int
  | 5 => .int
  | 6 => .array .int
  | 7 => .array .int
  | 8 => .array .int
  | 9 => .int
  | 10 => .int
  | 11 => .int
  | _ => .int
abbrev wsX80 : List Cond := u_ws RX8 TX8 13
theorem nmX8 : ∀ a, a < 13 → ∀ b, b < 13 → a ≠ b → (TX8 a).2.1 ≠ (TX8 b).2.1 := by decide +kernel
theorem tyX8_ok : ∀ k, k < 13 → parseFieldDescriptor (TX8 k).2.2.1 = some (tyX8 k) := by decide +kernel
abbrev cX8_init : ByteArray := prog_10_method_1_code
def yX8_init : MethodName := ⟨RX8, "<init>", "()V"⟩
abbrev cX8_key : ByteArray := prog_10_method_2_code
def yX8_key : MethodName := ⟨RX8, "key", "(JI)Z"⟩
abbrev cX8_start : ByteArray := prog_10_method_3_code
def yX8_start : MethodName := ⟨RX8, "start", "(JI)Z"⟩
abbrev cX8_keyBit : ByteArray := prog_10_method_4_code
def yX8_keyBit : MethodName := ⟨RX8, "keyBit", "(I)I"⟩
abbrev cX8_startBit : ByteArray := prog_10_method_5_code
def yX8_startBit : MethodName := ⟨RX8, "startBit", "(I)I"⟩
abbrev cX8_cell : ByteArray := prog_10_method_6_code
def yX8_cell : MethodName := ⟨RX8, "cell", "(II)I"⟩
abbrev cX8_put : ByteArray := prog_10_method_7_code
def yX8_put : MethodName := ⟨RX8, "put", "(III)V"⟩
abbrev cX8_up : ByteArray := prog_10_method_8_code
def yX8_up : MethodName := ⟨RX8, "up", "(II)V"⟩
abbrev cX8_down : ByteArray := prog_10_method_9_code
def yX8_down : MethodName := ⟨RX8, "down", "(II)V"⟩
abbrev cX8_clean : ByteArray := prog_10_method_10_code
def yX8_clean : MethodName := ⟨RX8, "clean", "()V"⟩
abbrev cX8_s : ByteArray := prog_10_method_11_code
def yX8_s : MethodName := ⟨RX8, "s", "(I)I"⟩
abbrev cX8_stepRings : ByteArray := prog_10_method_12_code
def yX8_stepRings : MethodName := ⟨RX8, "stepRings", "()I"⟩
abbrev cX8_b : ByteArray := prog_10_method_13_code
def yX8_b : MethodName := ⟨RX8, "b", "(I)I"⟩
abbrev cX8_t : ByteArray := prog_10_method_14_code
def yX8_t : MethodName := ⟨RX8, "t", "(I)I"⟩
abbrev cX8_stepTwo : ByteArray := prog_10_method_15_code
def yX8_stepTwo : MethodName := ⟨RX8, "stepTwo", "(Z)I"⟩
abbrev cX8_goes : ByteArray := prog_10_method_16_code
def yX8_goes : MethodName := ⟨RX8, "goes", "(I)V"⟩
abbrev cX8_feed : ByteArray := prog_10_method_17_code
def yX8_feed : MethodName := ⟨RX8, "feed", "(I)V"⟩
abbrev cX8_stepStops : ByteArray := prog_10_method_18_code
def yX8_stepStops : MethodName := ⟨RX8, "stepStops", "()I"⟩
abbrev cX8_exchange : ByteArray := prog_10_method_19_code
def yX8_exchange : MethodName := ⟨RX8, "exchange", "(II)V"⟩
abbrev cX8_stepByte : ByteArray := prog_10_method_20_code
def yX8_stepByte : MethodName := ⟨RX8, "stepByte", "()I"⟩
abbrev cX8_fits : ByteArray := prog_10_method_21_code
def yX8_fits : MethodName := ⟨RX8, "fits", "(I)Z"⟩
abbrev cX8_begin : ByteArray := prog_10_method_22_code
def yX8_begin : MethodName := ⟨RX8, "begin", "(I)Z"⟩
abbrev cX8_beginRings : ByteArray := prog_10_method_23_code
def yX8_beginRings : MethodName := ⟨RX8, "beginRings", "()V"⟩
abbrev cX8_beginTwo : ByteArray := prog_10_method_24_code
def yX8_beginTwo : MethodName := ⟨RX8, "beginTwo", "()V"⟩
abbrev cX8_beginStops : ByteArray := prog_10_method_25_code
def yX8_beginStops : MethodName := ⟨RX8, "beginStops", "()V"⟩
abbrev cX8_beginRow : ByteArray := prog_10_method_26_code
def yX8_beginRow : MethodName := ⟨RX8, "beginRow", "()V"⟩
abbrev cX8_next : ByteArray := prog_10_method_27_code
def yX8_next : MethodName := ⟨RX8, "next", "()I"⟩
abbrev cX8_bits : ByteArray := prog_10_method_28_code
def yX8_bits : MethodName := ⟨RX8, "bits", "(I)J"⟩
abbrev cX8_skip : ByteArray := prog_10_method_29_code
def yX8_skip : MethodName := ⟨RX8, "skip", "(I)Z"⟩
abbrev cX8_mix : ByteArray := prog_10_method_30_code
def yX8_mix : MethodName := ⟨RX8, "mix", "(JI)J"⟩
abbrev cX8_count : ByteArray := prog_10_method_31_code
def yX8_count : MethodName := ⟨RX8, "count", "(I)I"⟩
def RL : String := "BitStreamsLaw"
abbrev cL_law : ByteArray := code
def yL_law : MethodName := ⟨RL, "law", "([I)Z"⟩
def wsX0_init : List Cond := .code yX0_init cX0_init 2 none :: ([.methodLink RX0 3 objectInit, .instanceMethod objectInit, .code objectInit ⟨#[0xb1]⟩ 1 none, .arrayClass .int, .fieldLink RX0 9 "BitStreams$Bytes" "held" "[I", .fieldLink RX0 15 "BitStreams$Bytes" "size" "I"] ++ wsX00)
def wsX0_append : List Cond := .code yX0_append cX0_append 5 (some .boolean) :: ([.fieldLink RX0 15 "BitStreams$Bytes" "size" "I", .fieldLink RX0 9 "BitStreams$Bytes" "held" "[I"] ++ wsX00)
def wsX0_clear : List Cond := .code yX0_clear cX0_clear 1 none :: ([.fieldLink RX0 15 "BitStreams$Bytes" "size" "I"] ++ wsX00)
def wsX0_size : List Cond := .code yX0_size cX0_size 1 (some .int) :: ([.fieldLink RX0 15 "BitStreams$Bytes" "size" "I"] ++ wsX00)
def wsX0_at : List Cond := .code yX0_at cX0_at 2 (some .int) :: ([.fieldLink RX0 15 "BitStreams$Bytes" "size" "I", .fieldLink RX0 9 "BitStreams$Bytes" "held" "[I"] ++ wsX00)
def wsX0_bit : List Cond := .code yX0_bit cX0_bit 2 (some .int) :: ([.methodLink RX0 19 yX0_at, .instanceMethod yX0_at, .selects RX0 yX0_at yX0_at, .initialized RX0, .code yX0_at cX0_at 2 (some .int), .fieldLink RX0 15 "BitStreams$Bytes" "size" "I", .fieldLink RX0 9 "BitStreams$Bytes" "held" "[I"] ++ wsX00)
def wsX1_init : List Cond := .code yX1_init cX1_init 1 none :: ([.methodLink RX1 3 objectInit, .instanceMethod objectInit, .code objectInit ⟨#[0xb1]⟩ 1 none, .fieldLink RX1 9 "BitStreams$Cells" "low" "J", .fieldLink RX1 15 "BitStreams$Cells" "high" "J"] ++ wsX10)
def wsX1_clear : List Cond := .code yX1_clear cX1_clear 1 none :: ([.fieldLink RX1 9 "BitStreams$Cells" "low" "J", .fieldLink RX1 15 "BitStreams$Cells" "high" "J"] ++ wsX10)
def wsX1_at : List Cond := .code yX1_at cX1_at 2 (some .int) :: ([.fieldLink RX1 9 "BitStreams$Cells" "low" "J", .fieldLink RX1 15 "BitStreams$Cells" "high" "J"] ++ wsX10)
def wsX1_add : List Cond := .code yX1_add cX1_add 3 none :: ([.fieldLink RX1 9 "BitStreams$Cells" "low" "J", .fieldLink RX1 15 "BitStreams$Cells" "high" "J"] ++ wsX10)
def wsX1_moveUp : List Cond := .code yX1_moveUp cX1_moveUp 2 none :: ([.fieldLink RX1 15 "BitStreams$Cells" "high" "J", .fieldLink RX1 9 "BitStreams$Cells" "low" "J"] ++ wsX10)
def wsX1_moveDown : List Cond := .code yX1_moveDown cX1_moveDown 2 none :: ([.fieldLink RX1 9 "BitStreams$Cells" "low" "J", .fieldLink RX1 15 "BitStreams$Cells" "high" "J"] ++ wsX10)
def wsX3_init : List Cond := .code yX3_init cX3_init 1 none :: ([.methodLink RX3 1 objectInit, .instanceMethod objectInit, .code objectInit ⟨#[0xb1]⟩ 1 none])
def wsX2_init : List Cond := .code yX2_init cX2_init 1 none :: ([.arrayClass .int, .fieldLink RX2 11 "BitStreams$Exchanges" "row" "[I", .fieldLink RX2 15 "BitStreams$Exchanges" "i" "I", .fieldLink RX2 19 "BitStreams$Exchanges" "j" "I", .fieldLink RX2 22 "BitStreams$Exchanges" "givenByte" "I", .fieldLink RX2 25 "BitStreams$Exchanges" "bitsLeft" "I", .instanceMethod yX3_init, .initialized RX3, .code yX3_init cX3_init 1 none, .methodLink RX3 1 objectInit, .instanceMethod objectInit, .code objectInit ⟨#[0xb1]⟩ 1 none] ++ wsX20)
def wsX2_takes : List Cond := .code yX2_takes cX2_takes 3 (some .boolean) :: ([])
def wsX2_exchange : List Cond := .code yX2_exchange cX2_exchange 4 none :: ([.fieldLink RX2 11 "BitStreams$Exchanges" "row" "[I"] ++ wsX20)
def wsX2_load : List Cond := .code yX2_load cX2_load 6 none :: ([.fieldLink RX2 11 "BitStreams$Exchanges" "row" "[I", .fieldLink RX2 15 "BitStreams$Exchanges" "i" "I", .fieldLink RX2 19 "BitStreams$Exchanges" "j" "I", .fieldLink RX2 25 "BitStreams$Exchanges" "bitsLeft" "I", .methodLink RX2 28 yX0_at, .instanceMethod yX0_at, .selects RX0 yX0_at yX0_at, .initialized RX0, .code yX0_at cX0_at 2 (some .int), .fieldLink RX0 15 "BitStreams$Bytes" "size" "I", .fieldLink RX0 9 "BitStreams$Bytes" "held" "[I", .methodLink RX2 34 yX2_exchange, .instanceMethod yX2_exchange, .selects RX2 yX2_exchange yX2_exchange, .initialized RX2, .code yX2_exchange cX2_exchange 4 none, .methodLink RX2 38 yX0_size, .instanceMethod yX0_size, .selects RX0 yX0_size yX0_size, .code yX0_size cX0_size 1 (some .int)] ++ wsX20 ++ wsX00)
def wsX2_nextByte : List Cond := .code yX2_nextByte cX2_nextByte 1 (some .int) :: ([.fieldLink RX2 15 "BitStreams$Exchanges" "i" "I", .fieldLink RX2 19 "BitStreams$Exchanges" "j" "I", .fieldLink RX2 11 "BitStreams$Exchanges" "row" "[I", .methodLink RX2 34 yX2_exchange, .instanceMethod yX2_exchange, .selects RX2 yX2_exchange yX2_exchange, .initialized RX2, .code yX2_exchange cX2_exchange 4 none] ++ wsX20)
def wsX2_nextBit : List Cond := .code yX2_nextBit cX2_nextBit 1 (some .int) :: ([.fieldLink RX2 25 "BitStreams$Exchanges" "bitsLeft" "I", .fieldLink RX2 22 "BitStreams$Exchanges" "givenByte" "I", .methodLink RX2 42 yX2_nextByte, .instanceMethod yX2_nextByte, .selects RX2 yX2_nextByte yX2_nextByte, .initialized RX2, .code yX2_nextByte cX2_nextByte 1 (some .int), .fieldLink RX2 15 "BitStreams$Exchanges" "i" "I", .fieldLink RX2 19 "BitStreams$Exchanges" "j" "I", .fieldLink RX2 11 "BitStreams$Exchanges" "row" "[I", .methodLink RX2 34 yX2_exchange, .instanceMethod yX2_exchange, .selects RX2 yX2_exchange yX2_exchange, .code yX2_exchange cX2_exchange 4 none] ++ wsX20)
def wsX4_init : List Cond := .code yX4_init cX4_init 1 none :: ([.classLink RX4 7 RX1, .instantiable RX1 2, .initialized RX1, .fieldLink RX4 10 "BitStreams$ThreeRings" "a" "LBitStreams$Cells;", .fieldLink RX4 16 "BitStreams$ThreeRings" "b" "LBitStreams$Cells;", .fieldLink RX4 19 "BitStreams$ThreeRings" "c" "LBitStreams$Cells;", .instanceMethod yX3_init, .initialized RX3, .code yX3_init cX3_init 1 none, .methodLink RX3 1 objectInit, .instanceMethod objectInit, .code objectInit ⟨#[0xb1]⟩ 1 none, .methodLink RX4 9 yX1_init, .instanceMethod yX1_init, .code yX1_init cX1_init 1 none, .methodLink RX1 3 objectInit, .fieldLink RX1 9 "BitStreams$Cells" "low" "J", .fieldLink RX1 15 "BitStreams$Cells" "high" "J"] ++ wsX10 ++ wsX40)
def wsX4_takes : List Cond := .code yX4_takes cX4_takes 3 (some .boolean) :: ([])
def wsX4_nextBit : List Cond := .code yX4_nextBit cX4_nextBit 5 (some .int) :: ([.fieldLink RX4 10 "BitStreams$ThreeRings" "a" "LBitStreams$Cells;", .fieldLink RX4 16 "BitStreams$ThreeRings" "b" "LBitStreams$Cells;", .fieldLink RX4 19 "BitStreams$ThreeRings" "c" "LBitStreams$Cells;", .methodLink RX4 39 yX1_at, .instanceMethod yX1_at, .selects RX1 yX1_at yX1_at, .initialized RX1, .code yX1_at cX1_at 2 (some .int), .fieldLink RX1 9 "BitStreams$Cells" "low" "J", .fieldLink RX1 15 "BitStreams$Cells" "high" "J", .methodLink RX4 42 yX1_moveUp, .instanceMethod yX1_moveUp, .selects RX1 yX1_moveUp yX1_moveUp, .code yX1_moveUp cX1_moveUp 2 none] ++ wsX40 ++ wsX10)
def wsX4_load_r1 : List Cond := [Cond.fieldLink RX4 10 "BitStreams$ThreeRings" "a" "LBitStreams$Cells;", Cond.fieldLink RX4 16 "BitStreams$ThreeRings" "b" "LBitStreams$Cells;", Cond.fieldLink RX4 19 "BitStreams$ThreeRings" "c" "LBitStreams$Cells;", Cond.methodLink RX4 22 yX1_clear, Cond.instanceMethod yX1_clear, Cond.selects RX1 yX1_clear yX1_clear, Cond.initialized RX1, Cond.code yX1_clear cX1_clear 1 none, Cond.fieldLink RX1 9 "BitStreams$Cells" "low" "J", Cond.fieldLink RX1 15 "BitStreams$Cells" "high" "J", Cond.methodLink RX4 25 yX0_bit, Cond.instanceMethod yX0_bit, Cond.selects RX0 yX0_bit yX0_bit, Cond.initialized RX0, Cond.code yX0_bit cX0_bit 2 (some .int), Cond.methodLink RX0 19 yX0_at, Cond.instanceMethod yX0_at, Cond.selects RX0 yX0_at yX0_at, Cond.code yX0_at cX0_at 2 (some .int), Cond.fieldLink RX0 15 "BitStreams$Bytes" "size" "I", Cond.fieldLink RX0 9 "BitStreams$Bytes" "held" "[I", Cond.methodLink RX4 31 yX1_add, Cond.instanceMethod yX1_add, Cond.selects RX1 yX1_add yX1_add]
def wsX4_load_r2 : List Cond := [Cond.code yX1_add cX1_add 3 none, Cond.methodLink RX4 35 yX4_nextBit, Cond.instanceMethod yX4_nextBit, Cond.selects RX4 yX4_nextBit yX4_nextBit, Cond.initialized RX4, Cond.code yX4_nextBit cX4_nextBit 5 (some .int), Cond.methodLink RX4 39 yX1_at, Cond.instanceMethod yX1_at, Cond.selects RX1 yX1_at yX1_at, Cond.code yX1_at cX1_at 2 (some .int), Cond.methodLink RX4 42 yX1_moveUp, Cond.instanceMethod yX1_moveUp, Cond.selects RX1 yX1_moveUp yX1_moveUp, Cond.code yX1_moveUp cX1_moveUp 2 none]
def wsX4_load : List Cond := .code yX4_load cX4_load 4 none :: ((wsX4_load_r1 ++ wsX4_load_r2) ++ wsX40 ++ wsX10 ++ wsX00)
def wsX5_init : List Cond := .code yX5_init cX5_init 1 none :: ([.classLink RX5 7 RX1, .instantiable RX1 2, .initialized RX1, .fieldLink RX5 10 "BitStreams$ThreeThatStop" "x" "LBitStreams$Cells;", .fieldLink RX5 16 "BitStreams$ThreeThatStop" "y" "LBitStreams$Cells;", .fieldLink RX5 19 "BitStreams$ThreeThatStop" "z" "LBitStreams$Cells;", .instanceMethod yX3_init, .initialized RX3, .code yX3_init cX3_init 1 none, .methodLink RX3 1 objectInit, .instanceMethod objectInit, .code objectInit ⟨#[0xb1]⟩ 1 none, .methodLink RX5 9 yX1_init, .instanceMethod yX1_init, .code yX1_init cX1_init 1 none, .methodLink RX1 3 objectInit, .fieldLink RX1 9 "BitStreams$Cells" "low" "J", .fieldLink RX1 15 "BitStreams$Cells" "high" "J"] ++ wsX10 ++ wsX50)
def wsX5_takes : List Cond := .code yX5_takes cX5_takes 3 (some .boolean) :: ([])
def wsX5_goX : List Cond := .code yX5_goX cX5_goX 1 none :: ([.fieldLink RX5 10 "BitStreams$ThreeThatStop" "x" "LBitStreams$Cells;", .methodLink RX5 39 yX1_at, .instanceMethod yX1_at, .selects RX1 yX1_at yX1_at, .initialized RX1, .code yX1_at cX1_at 2 (some .int), .fieldLink RX1 9 "BitStreams$Cells" "low" "J", .fieldLink RX1 15 "BitStreams$Cells" "high" "J", .methodLink RX5 55 yX1_moveUp, .instanceMethod yX1_moveUp, .selects RX1 yX1_moveUp yX1_moveUp, .code yX1_moveUp cX1_moveUp 2 none] ++ wsX50 ++ wsX10)
def wsX5_goY : List Cond := .code yX5_goY cX5_goY 1 none :: ([.fieldLink RX5 16 "BitStreams$ThreeThatStop" "y" "LBitStreams$Cells;", .methodLink RX5 39 yX1_at, .instanceMethod yX1_at, .selects RX1 yX1_at yX1_at, .initialized RX1, .code yX1_at cX1_at 2 (some .int), .fieldLink RX1 9 "BitStreams$Cells" "low" "J", .fieldLink RX1 15 "BitStreams$Cells" "high" "J", .methodLink RX5 55 yX1_moveUp, .instanceMethod yX1_moveUp, .selects RX1 yX1_moveUp yX1_moveUp, .code yX1_moveUp cX1_moveUp 2 none] ++ wsX50 ++ wsX10)
def wsX5_goZ : List Cond := .code yX5_goZ cX5_goZ 1 none :: ([.fieldLink RX5 19 "BitStreams$ThreeThatStop" "z" "LBitStreams$Cells;", .methodLink RX5 39 yX1_at, .instanceMethod yX1_at, .selects RX1 yX1_at yX1_at, .initialized RX1, .code yX1_at cX1_at 2 (some .int), .fieldLink RX1 9 "BitStreams$Cells" "low" "J", .fieldLink RX1 15 "BitStreams$Cells" "high" "J", .methodLink RX5 55 yX1_moveUp, .instanceMethod yX1_moveUp, .selects RX1 yX1_moveUp yX1_moveUp, .code yX1_moveUp cX1_moveUp 2 none] ++ wsX50 ++ wsX10)
def wsX5_feed_r1 : List Cond := [Cond.fieldLink RX5 10 "BitStreams$ThreeThatStop" "x" "LBitStreams$Cells;", Cond.fieldLink RX5 16 "BitStreams$ThreeThatStop" "y" "LBitStreams$Cells;", Cond.fieldLink RX5 19 "BitStreams$ThreeThatStop" "z" "LBitStreams$Cells;", Cond.methodLink RX5 42 yX5_goX, Cond.instanceMethod yX5_goX, Cond.selects RX5 yX5_goX yX5_goX, Cond.initialized RX5, Cond.code yX5_goX cX5_goX 1 none, Cond.methodLink RX5 39 yX1_at, Cond.instanceMethod yX1_at, Cond.selects RX1 yX1_at yX1_at, Cond.initialized RX1, Cond.code yX1_at cX1_at 2 (some .int), Cond.fieldLink RX1 9 "BitStreams$Cells" "low" "J", Cond.fieldLink RX1 15 "BitStreams$Cells" "high" "J", Cond.methodLink RX5 55 yX1_moveUp, Cond.instanceMethod yX1_moveUp, Cond.selects RX1 yX1_moveUp yX1_moveUp, Cond.code yX1_moveUp cX1_moveUp 2 none, Cond.methodLink RX5 45 yX5_goY, Cond.instanceMethod yX5_goY, Cond.selects RX5 yX5_goY yX5_goY, Cond.code yX5_goY cX5_goY 1 none, Cond.methodLink RX5 48 yX5_goZ]
def wsX5_feed_r2 : List Cond := [Cond.instanceMethod yX5_goZ, Cond.selects RX5 yX5_goZ yX5_goZ, Cond.code yX5_goZ cX5_goZ 1 none, Cond.methodLink RX5 51 yX1_add, Cond.instanceMethod yX1_add, Cond.selects RX1 yX1_add yX1_add, Cond.code yX1_add cX1_add 3 none]
def wsX5_feed : List Cond := .code yX5_feed cX5_feed 2 none :: ((wsX5_feed_r1 ++ wsX5_feed_r2) ++ wsX50 ++ wsX10)
def wsX5_nextBit_r1 : List Cond := [Cond.fieldLink RX5 10 "BitStreams$ThreeThatStop" "x" "LBitStreams$Cells;", Cond.fieldLink RX5 16 "BitStreams$ThreeThatStop" "y" "LBitStreams$Cells;", Cond.fieldLink RX5 19 "BitStreams$ThreeThatStop" "z" "LBitStreams$Cells;", Cond.methodLink RX5 39 yX1_at, Cond.instanceMethod yX1_at, Cond.selects RX1 yX1_at yX1_at, Cond.initialized RX1, Cond.code yX1_at cX1_at 2 (some .int), Cond.fieldLink RX1 9 "BitStreams$Cells" "low" "J", Cond.fieldLink RX1 15 "BitStreams$Cells" "high" "J", Cond.methodLink RX5 42 yX5_goX, Cond.instanceMethod yX5_goX, Cond.selects RX5 yX5_goX yX5_goX, Cond.initialized RX5, Cond.code yX5_goX cX5_goX 1 none, Cond.methodLink RX5 55 yX1_moveUp, Cond.instanceMethod yX1_moveUp, Cond.selects RX1 yX1_moveUp yX1_moveUp, Cond.code yX1_moveUp cX1_moveUp 2 none, Cond.methodLink RX5 45 yX5_goY, Cond.instanceMethod yX5_goY, Cond.selects RX5 yX5_goY yX5_goY, Cond.code yX5_goY cX5_goY 1 none, Cond.methodLink RX5 48 yX5_goZ]
def wsX5_nextBit_r2 : List Cond := [Cond.instanceMethod yX5_goZ, Cond.selects RX5 yX5_goZ yX5_goZ, Cond.code yX5_goZ cX5_goZ 1 none]
def wsX5_nextBit : List Cond := .code yX5_nextBit cX5_nextBit 5 (some .int) :: ((wsX5_nextBit_r1 ++ wsX5_nextBit_r2) ++ wsX50 ++ wsX10)
def wsX5_load_r1 : List Cond := [Cond.fieldLink RX5 10 "BitStreams$ThreeThatStop" "x" "LBitStreams$Cells;", Cond.fieldLink RX5 16 "BitStreams$ThreeThatStop" "y" "LBitStreams$Cells;", Cond.fieldLink RX5 19 "BitStreams$ThreeThatStop" "z" "LBitStreams$Cells;", Cond.methodLink RX5 22 yX1_clear, Cond.instanceMethod yX1_clear, Cond.selects RX1 yX1_clear yX1_clear, Cond.initialized RX1, Cond.code yX1_clear cX1_clear 1 none, Cond.fieldLink RX1 9 "BitStreams$Cells" "low" "J", Cond.fieldLink RX1 15 "BitStreams$Cells" "high" "J", Cond.methodLink RX5 25 yX0_bit, Cond.instanceMethod yX0_bit, Cond.selects RX0 yX0_bit yX0_bit, Cond.initialized RX0, Cond.code yX0_bit cX0_bit 2 (some .int), Cond.methodLink RX0 19 yX0_at, Cond.instanceMethod yX0_at, Cond.selects RX0 yX0_at yX0_at, Cond.code yX0_at cX0_at 2 (some .int), Cond.fieldLink RX0 15 "BitStreams$Bytes" "size" "I", Cond.fieldLink RX0 9 "BitStreams$Bytes" "held" "[I", Cond.methodLink RX5 31 yX5_feed, Cond.instanceMethod yX5_feed, Cond.selects RX5 yX5_feed yX5_feed]
def wsX5_load_r2 : List Cond := [Cond.initialized RX5, Cond.code yX5_feed cX5_feed 2 none, Cond.methodLink RX5 42 yX5_goX, Cond.instanceMethod yX5_goX, Cond.selects RX5 yX5_goX yX5_goX, Cond.code yX5_goX cX5_goX 1 none, Cond.methodLink RX5 39 yX1_at, Cond.instanceMethod yX1_at, Cond.selects RX1 yX1_at yX1_at, Cond.code yX1_at cX1_at 2 (some .int), Cond.methodLink RX5 55 yX1_moveUp, Cond.instanceMethod yX1_moveUp, Cond.selects RX1 yX1_moveUp yX1_moveUp, Cond.code yX1_moveUp cX1_moveUp 2 none, Cond.methodLink RX5 45 yX5_goY, Cond.instanceMethod yX5_goY, Cond.selects RX5 yX5_goY yX5_goY, Cond.code yX5_goY cX5_goY 1 none, Cond.methodLink RX5 48 yX5_goZ, Cond.instanceMethod yX5_goZ, Cond.selects RX5 yX5_goZ yX5_goZ, Cond.code yX5_goZ cX5_goZ 1 none, Cond.methodLink RX5 51 yX1_add, Cond.instanceMethod yX1_add]
def wsX5_load_r3 : List Cond := [Cond.selects RX1 yX1_add yX1_add, Cond.code yX1_add cX1_add 3 none, Cond.methodLink RX5 35 yX5_nextBit, Cond.instanceMethod yX5_nextBit, Cond.selects RX5 yX5_nextBit yX5_nextBit, Cond.code yX5_nextBit cX5_nextBit 5 (some .int)]
def wsX5_load : List Cond := .code yX5_load cX5_load 4 none :: ((wsX5_load_r1 ++ (wsX5_load_r2 ++ wsX5_load_r3)) ++ wsX50 ++ wsX10 ++ wsX00)
def wsX6_init : List Cond := .code yX6_init cX6_init 1 none :: ([.classLink RX6 7 RX1, .instantiable RX1 2, .initialized RX1, .fieldLink RX6 10 "BitStreams$TwoRegisters" "b" "LBitStreams$Cells;", .fieldLink RX6 16 "BitStreams$TwoRegisters" "s" "LBitStreams$Cells;", .instanceMethod yX3_init, .initialized RX3, .code yX3_init cX3_init 1 none, .methodLink RX3 1 objectInit, .instanceMethod objectInit, .code objectInit ⟨#[0xb1]⟩ 1 none, .methodLink RX6 9 yX1_init, .instanceMethod yX1_init, .code yX1_init cX1_init 1 none, .methodLink RX1 3 objectInit, .fieldLink RX1 9 "BitStreams$Cells" "low" "J", .fieldLink RX1 15 "BitStreams$Cells" "high" "J"] ++ wsX10 ++ wsX60)
def wsX6_takes : List Cond := .code yX6_takes cX6_takes 3 (some .boolean) :: ([])
def wsX6_output : List Cond := .code yX6_output cX6_output 1 (some .int) :: ([.fieldLink RX6 10 "BitStreams$TwoRegisters" "b" "LBitStreams$Cells;", .fieldLink RX6 16 "BitStreams$TwoRegisters" "s" "LBitStreams$Cells;", .methodLink RX6 40 yX1_at, .instanceMethod yX1_at, .selects RX1 yX1_at yX1_at, .initialized RX1, .code yX1_at cX1_at 2 (some .int), .fieldLink RX1 9 "BitStreams$Cells" "low" "J", .fieldLink RX1 15 "BitStreams$Cells" "high" "J"] ++ wsX60 ++ wsX10)
def wsX6_newBitOfS : List Cond := .code yX6_newBitOfS cX6_newBitOfS 1 (some .int) :: ([.fieldLink RX6 16 "BitStreams$TwoRegisters" "s" "LBitStreams$Cells;", .methodLink RX6 40 yX1_at, .instanceMethod yX1_at, .selects RX1 yX1_at yX1_at, .initialized RX1, .code yX1_at cX1_at 2 (some .int), .fieldLink RX1 9 "BitStreams$Cells" "low" "J", .fieldLink RX1 15 "BitStreams$Cells" "high" "J"] ++ wsX60 ++ wsX10)
def wsX6_newBitOfB : List Cond := .code yX6_newBitOfB cX6_newBitOfB 1 (some .int) :: ([.fieldLink RX6 16 "BitStreams$TwoRegisters" "s" "LBitStreams$Cells;", .fieldLink RX6 10 "BitStreams$TwoRegisters" "b" "LBitStreams$Cells;", .methodLink RX6 40 yX1_at, .instanceMethod yX1_at, .selects RX1 yX1_at yX1_at, .initialized RX1, .code yX1_at cX1_at 2 (some .int), .fieldLink RX1 9 "BitStreams$Cells" "low" "J", .fieldLink RX1 15 "BitStreams$Cells" "high" "J"] ++ wsX60 ++ wsX10)
def wsX6_move : List Cond := .code yX6_move cX6_move 4 none :: ([.fieldLink RX6 16 "BitStreams$TwoRegisters" "s" "LBitStreams$Cells;", .fieldLink RX6 10 "BitStreams$TwoRegisters" "b" "LBitStreams$Cells;", .methodLink RX6 43 yX6_newBitOfS, .instanceMethod yX6_newBitOfS, .selects RX6 yX6_newBitOfS yX6_newBitOfS, .initialized RX6, .code yX6_newBitOfS cX6_newBitOfS 1 (some .int), .methodLink RX6 40 yX1_at, .instanceMethod yX1_at, .selects RX1 yX1_at yX1_at, .initialized RX1, .code yX1_at cX1_at 2 (some .int), .fieldLink RX1 9 "BitStreams$Cells" "low" "J", .fieldLink RX1 15 "BitStreams$Cells" "high" "J", .methodLink RX6 46 yX6_newBitOfB, .instanceMethod yX6_newBitOfB, .selects RX6 yX6_newBitOfB yX6_newBitOfB, .code yX6_newBitOfB cX6_newBitOfB 1 (some .int), .methodLink RX6 49 yX1_moveDown, .instanceMethod yX1_moveDown, .selects RX1 yX1_moveDown yX1_moveDown, .code yX1_moveDown cX1_moveDown 2 none] ++ wsX60 ++ wsX10)
def wsX6_load_r1 : List Cond := [Cond.fieldLink RX6 10 "BitStreams$TwoRegisters" "b" "LBitStreams$Cells;", Cond.fieldLink RX6 16 "BitStreams$TwoRegisters" "s" "LBitStreams$Cells;", Cond.methodLink RX6 19 yX1_clear, Cond.instanceMethod yX1_clear, Cond.selects RX1 yX1_clear yX1_clear, Cond.initialized RX1, Cond.code yX1_clear cX1_clear 1 none, Cond.fieldLink RX1 9 "BitStreams$Cells" "low" "J", Cond.fieldLink RX1 15 "BitStreams$Cells" "high" "J", Cond.methodLink RX6 22 yX0_bit, Cond.instanceMethod yX0_bit, Cond.selects RX0 yX0_bit yX0_bit, Cond.initialized RX0, Cond.code yX0_bit cX0_bit 2 (some .int), Cond.methodLink RX0 19 yX0_at, Cond.instanceMethod yX0_at, Cond.selects RX0 yX0_at yX0_at, Cond.code yX0_at cX0_at 2 (some .int), Cond.fieldLink RX0 15 "BitStreams$Bytes" "size" "I", Cond.fieldLink RX0 9 "BitStreams$Bytes" "held" "[I", Cond.methodLink RX6 28 yX1_add, Cond.instanceMethod yX1_add, Cond.selects RX1 yX1_add yX1_add, Cond.code yX1_add cX1_add 3 none]
def wsX6_load_r2 : List Cond := [Cond.methodLink RX6 32 yX6_output, Cond.instanceMethod yX6_output, Cond.selects RX6 yX6_output yX6_output, Cond.initialized RX6, Cond.code yX6_output cX6_output 1 (some .int), Cond.methodLink RX6 40 yX1_at, Cond.instanceMethod yX1_at, Cond.selects RX1 yX1_at yX1_at, Cond.code yX1_at cX1_at 2 (some .int), Cond.methodLink RX6 36 yX6_move, Cond.instanceMethod yX6_move, Cond.selects RX6 yX6_move yX6_move, Cond.code yX6_move cX6_move 4 none, Cond.methodLink RX6 43 yX6_newBitOfS, Cond.instanceMethod yX6_newBitOfS, Cond.selects RX6 yX6_newBitOfS yX6_newBitOfS, Cond.code yX6_newBitOfS cX6_newBitOfS 1 (some .int), Cond.methodLink RX6 46 yX6_newBitOfB, Cond.instanceMethod yX6_newBitOfB, Cond.selects RX6 yX6_newBitOfB yX6_newBitOfB, Cond.code yX6_newBitOfB cX6_newBitOfB 1 (some .int), Cond.methodLink RX6 49 yX1_moveDown, Cond.instanceMethod yX1_moveDown, Cond.selects RX1 yX1_moveDown yX1_moveDown]
def wsX6_load_r3 : List Cond := [Cond.code yX1_moveDown cX1_moveDown 2 none]
def wsX6_load : List Cond := .code yX6_load cX6_load 4 none :: ((wsX6_load_r1 ++ (wsX6_load_r2 ++ wsX6_load_r3)) ++ wsX60 ++ wsX10 ++ wsX00)
def wsX6_nextBit_r1 : List Cond := [Cond.methodLink RX6 32 yX6_output, Cond.instanceMethod yX6_output, Cond.selects RX6 yX6_output yX6_output, Cond.initialized RX6, Cond.code yX6_output cX6_output 1 (some .int), Cond.fieldLink RX6 10 "BitStreams$TwoRegisters" "b" "LBitStreams$Cells;", Cond.fieldLink RX6 16 "BitStreams$TwoRegisters" "s" "LBitStreams$Cells;", Cond.methodLink RX6 40 yX1_at, Cond.instanceMethod yX1_at, Cond.selects RX1 yX1_at yX1_at, Cond.initialized RX1, Cond.code yX1_at cX1_at 2 (some .int), Cond.fieldLink RX1 9 "BitStreams$Cells" "low" "J", Cond.fieldLink RX1 15 "BitStreams$Cells" "high" "J", Cond.methodLink RX6 36 yX6_move, Cond.instanceMethod yX6_move, Cond.selects RX6 yX6_move yX6_move, Cond.code yX6_move cX6_move 4 none, Cond.methodLink RX6 43 yX6_newBitOfS, Cond.instanceMethod yX6_newBitOfS, Cond.selects RX6 yX6_newBitOfS yX6_newBitOfS, Cond.code yX6_newBitOfS cX6_newBitOfS 1 (some .int), Cond.methodLink RX6 46 yX6_newBitOfB, Cond.instanceMethod yX6_newBitOfB]
def wsX6_nextBit_r2 : List Cond := [Cond.selects RX6 yX6_newBitOfB yX6_newBitOfB, Cond.code yX6_newBitOfB cX6_newBitOfB 1 (some .int), Cond.methodLink RX6 49 yX1_moveDown, Cond.instanceMethod yX1_moveDown, Cond.selects RX1 yX1_moveDown yX1_moveDown, Cond.code yX1_moveDown cX1_moveDown 2 none]
def wsX6_nextBit : List Cond := .code yX6_nextBit cX6_nextBit 2 (some .int) :: ((wsX6_nextBit_r1 ++ wsX6_nextBit_r2) ++ wsX60 ++ wsX10)
def wsX7_init_r1 : List Cond := [Cond.methodLink RX7 1 objectInit, Cond.instanceMethod objectInit, Cond.code objectInit ⟨#[0xb1]⟩ 1 none, Cond.classLink RX7 7 RX0, Cond.instantiable RX0 2, Cond.initialized RX0, Cond.fieldLink RX7 14 "BitStreams" "keyBytes" "LBitStreams$Bytes;", Cond.fieldLink RX7 18 "BitStreams" "startBytes" "LBitStreams$Bytes;", Cond.classLink RX7 21 RX3, Cond.classLink RX7 23 RX4, Cond.instantiable RX4 3, Cond.initialized RX4, Cond.classLink RX7 26 RX6, Cond.instantiable RX6 2, Cond.initialized RX6, Cond.classLink RX7 29 RX5, Cond.instantiable RX5 3, Cond.initialized RX5, Cond.classLink RX7 32 RX2, Cond.instantiable RX2 5, Cond.initialized RX2, Cond.fieldLink RX7 35 "BitStreams" "machines" "[LBitStreams$Machine;", Cond.fieldLink RX7 39 "BitStreams" "running" "LBitStreams$Machine;", Cond.fieldLink RX7 43 "BitStreams" "runningNumber" "I"]
def wsX7_init_r2 : List Cond := [Cond.fieldLink RX7 47 "BitStreams" "used" "I", Cond.methodLink RX7 11 yX0_init, Cond.instanceMethod yX0_init, Cond.code yX0_init cX0_init 2 none, Cond.methodLink RX0 3 objectInit, Cond.arrayClass .int, Cond.fieldLink RX0 9 "BitStreams$Bytes" "held" "[I", Cond.fieldLink RX0 15 "BitStreams$Bytes" "size" "I", Cond.methodLink RX7 25 yX4_init, Cond.instanceMethod yX4_init, Cond.code yX4_init cX4_init 1 none, Cond.classLink RX4 7 RX1, Cond.instantiable RX1 2, Cond.initialized RX1, Cond.fieldLink RX4 10 "BitStreams$ThreeRings" "a" "LBitStreams$Cells;", Cond.fieldLink RX4 16 "BitStreams$ThreeRings" "b" "LBitStreams$Cells;", Cond.fieldLink RX4 19 "BitStreams$ThreeRings" "c" "LBitStreams$Cells;", Cond.instanceMethod yX3_init, Cond.initialized RX3, Cond.code yX3_init cX3_init 1 none, Cond.methodLink RX3 1 objectInit, Cond.methodLink RX4 9 yX1_init, Cond.instanceMethod yX1_init, Cond.code yX1_init cX1_init 1 none]
def wsX7_init_r3 : List Cond := [Cond.methodLink RX1 3 objectInit, Cond.fieldLink RX1 9 "BitStreams$Cells" "low" "J", Cond.fieldLink RX1 15 "BitStreams$Cells" "high" "J", Cond.methodLink RX7 28 yX6_init, Cond.instanceMethod yX6_init, Cond.code yX6_init cX6_init 1 none, Cond.classLink RX6 7 RX1, Cond.fieldLink RX6 10 "BitStreams$TwoRegisters" "b" "LBitStreams$Cells;", Cond.fieldLink RX6 16 "BitStreams$TwoRegisters" "s" "LBitStreams$Cells;", Cond.methodLink RX6 9 yX1_init, Cond.methodLink RX7 31 yX5_init, Cond.instanceMethod yX5_init, Cond.code yX5_init cX5_init 1 none, Cond.classLink RX5 7 RX1, Cond.fieldLink RX5 10 "BitStreams$ThreeThatStop" "x" "LBitStreams$Cells;", Cond.fieldLink RX5 16 "BitStreams$ThreeThatStop" "y" "LBitStreams$Cells;", Cond.fieldLink RX5 19 "BitStreams$ThreeThatStop" "z" "LBitStreams$Cells;", Cond.methodLink RX5 9 yX1_init, Cond.methodLink RX7 34 yX2_init, Cond.instanceMethod yX2_init, Cond.code yX2_init cX2_init 1 none, Cond.fieldLink RX2 11 "BitStreams$Exchanges" "row" "[I", Cond.fieldLink RX2 15 "BitStreams$Exchanges" "i" "I", Cond.fieldLink RX2 19 "BitStreams$Exchanges" "j" "I"]
def wsX7_init_r4 : List Cond := [Cond.fieldLink RX2 22 "BitStreams$Exchanges" "givenByte" "I", Cond.fieldLink RX2 25 "BitStreams$Exchanges" "bitsLeft" "I"]
def wsX7_init : List Cond := .code yX7_init cX7_init 1 none :: ((wsX7_init_r1 ++ (wsX7_init_r2 ++ (wsX7_init_r3 ++ wsX7_init_r4))) ++ wsX00 ++ wsX70 ++ wsX40 ++ wsX60 ++ wsX50 ++ wsX20 ++ wsX10)
def wsX7_key : List Cond := .code yX7_key cX7_key 4 (some .boolean) :: ([.fieldLink RX7 14 "BitStreams" "keyBytes" "LBitStreams$Bytes;", .methodLink RX7 50 yX0_append, .instanceMethod yX0_append, .selects RX0 yX0_append yX0_append, .initialized RX0, .code yX0_append cX0_append 5 (some .boolean), .fieldLink RX0 15 "BitStreams$Bytes" "size" "I", .fieldLink RX0 9 "BitStreams$Bytes" "held" "[I"] ++ wsX70 ++ wsX00)
def wsX7_start : List Cond := .code yX7_start cX7_start 4 (some .boolean) :: ([.fieldLink RX7 18 "BitStreams" "startBytes" "LBitStreams$Bytes;", .methodLink RX7 50 yX0_append, .instanceMethod yX0_append, .selects RX0 yX0_append yX0_append, .initialized RX0, .code yX0_append cX0_append 5 (some .boolean), .fieldLink RX0 15 "BitStreams$Bytes" "size" "I", .fieldLink RX0 9 "BitStreams$Bytes" "held" "[I"] ++ wsX70 ++ wsX00)
def wsX7_begin_r1 : List Cond := [Cond.fieldLink RX7 35 "BitStreams" "machines" "[LBitStreams$Machine;", Cond.fieldLink RX7 14 "BitStreams" "keyBytes" "LBitStreams$Bytes;", Cond.fieldLink RX7 18 "BitStreams" "startBytes" "LBitStreams$Bytes;", Cond.fieldLink RX7 39 "BitStreams" "running" "LBitStreams$Machine;", Cond.fieldLink RX7 43 "BitStreams" "runningNumber" "I", Cond.fieldLink RX7 47 "BitStreams" "used" "I", Cond.methodLink RX7 54 yX0_size, Cond.instanceMethod yX0_size, Cond.selects RX0 yX0_size yX0_size, Cond.initialized RX0, Cond.code yX0_size cX0_size 1 (some .int), Cond.fieldLink RX0 15 "BitStreams$Bytes" "size" "I", Cond.methodLink RX7 58 ⟨"BitStreams$Machine", "takes", "(II)Z"⟩, Cond.sameMethod "BitStreams$Machine" "BitStreams$Machine" "takes" "(II)Z", Cond.selects RX2 ⟨"BitStreams$Machine", "takes", "(II)Z"⟩ yX2_takes, Cond.instanceMethod yX2_takes, Cond.initialized RX2, Cond.code yX2_takes cX2_takes 3 (some .boolean), Cond.selects RX4 ⟨"BitStreams$Machine", "takes", "(II)Z"⟩ yX4_takes, Cond.instanceMethod yX4_takes, Cond.initialized RX4, Cond.code yX4_takes cX4_takes 3 (some .boolean), Cond.selects RX5 ⟨"BitStreams$Machine", "takes", "(II)Z"⟩ yX5_takes, Cond.instanceMethod yX5_takes]
def wsX7_begin_r2 : List Cond := [Cond.initialized RX5, Cond.code yX5_takes cX5_takes 3 (some .boolean), Cond.selects RX6 ⟨"BitStreams$Machine", "takes", "(II)Z"⟩ yX6_takes, Cond.instanceMethod yX6_takes, Cond.initialized RX6, Cond.code yX6_takes cX6_takes 3 (some .boolean), Cond.methodLink RX7 62 ⟨"BitStreams$Machine", "load", "(LBitStreams$Bytes;LBitStreams$Bytes;)V"⟩, Cond.sameMethod "BitStreams$Machine" "BitStreams$Machine" "load" "(LBitStreams$Bytes;LBitStreams$Bytes;)V", Cond.selects RX2 ⟨"BitStreams$Machine", "load", "(LBitStreams$Bytes;LBitStreams$Bytes;)V"⟩ yX2_load, Cond.instanceMethod yX2_load, Cond.code yX2_load cX2_load 6 none, Cond.fieldLink RX2 11 "BitStreams$Exchanges" "row" "[I", Cond.fieldLink RX2 15 "BitStreams$Exchanges" "i" "I", Cond.fieldLink RX2 19 "BitStreams$Exchanges" "j" "I", Cond.fieldLink RX2 25 "BitStreams$Exchanges" "bitsLeft" "I", Cond.methodLink RX2 28 yX0_at, Cond.instanceMethod yX0_at, Cond.selects RX0 yX0_at yX0_at, Cond.code yX0_at cX0_at 2 (some .int), Cond.fieldLink RX0 9 "BitStreams$Bytes" "held" "[I", Cond.methodLink RX2 34 yX2_exchange, Cond.instanceMethod yX2_exchange, Cond.selects RX2 yX2_exchange yX2_exchange, Cond.code yX2_exchange cX2_exchange 4 none]
def wsX7_begin_r3 : List Cond := [Cond.methodLink RX2 38 yX0_size, Cond.selects RX4 ⟨"BitStreams$Machine", "load", "(LBitStreams$Bytes;LBitStreams$Bytes;)V"⟩ yX4_load, Cond.instanceMethod yX4_load, Cond.code yX4_load cX4_load 4 none, Cond.fieldLink RX4 10 "BitStreams$ThreeRings" "a" "LBitStreams$Cells;", Cond.fieldLink RX4 16 "BitStreams$ThreeRings" "b" "LBitStreams$Cells;", Cond.fieldLink RX4 19 "BitStreams$ThreeRings" "c" "LBitStreams$Cells;", Cond.methodLink RX4 22 yX1_clear, Cond.instanceMethod yX1_clear, Cond.selects RX1 yX1_clear yX1_clear, Cond.initialized RX1, Cond.code yX1_clear cX1_clear 1 none, Cond.fieldLink RX1 9 "BitStreams$Cells" "low" "J", Cond.fieldLink RX1 15 "BitStreams$Cells" "high" "J", Cond.methodLink RX4 25 yX0_bit, Cond.instanceMethod yX0_bit, Cond.selects RX0 yX0_bit yX0_bit, Cond.code yX0_bit cX0_bit 2 (some .int), Cond.methodLink RX0 19 yX0_at, Cond.methodLink RX4 31 yX1_add, Cond.instanceMethod yX1_add, Cond.selects RX1 yX1_add yX1_add, Cond.code yX1_add cX1_add 3 none, Cond.methodLink RX4 35 yX4_nextBit]
def wsX7_begin_r4 : List Cond := [Cond.instanceMethod yX4_nextBit, Cond.selects RX4 yX4_nextBit yX4_nextBit, Cond.code yX4_nextBit cX4_nextBit 5 (some .int), Cond.methodLink RX4 39 yX1_at, Cond.instanceMethod yX1_at, Cond.selects RX1 yX1_at yX1_at, Cond.code yX1_at cX1_at 2 (some .int), Cond.methodLink RX4 42 yX1_moveUp, Cond.instanceMethod yX1_moveUp, Cond.selects RX1 yX1_moveUp yX1_moveUp, Cond.code yX1_moveUp cX1_moveUp 2 none, Cond.selects RX5 ⟨"BitStreams$Machine", "load", "(LBitStreams$Bytes;LBitStreams$Bytes;)V"⟩ yX5_load, Cond.instanceMethod yX5_load, Cond.code yX5_load cX5_load 4 none, Cond.fieldLink RX5 10 "BitStreams$ThreeThatStop" "x" "LBitStreams$Cells;", Cond.fieldLink RX5 16 "BitStreams$ThreeThatStop" "y" "LBitStreams$Cells;", Cond.fieldLink RX5 19 "BitStreams$ThreeThatStop" "z" "LBitStreams$Cells;", Cond.methodLink RX5 22 yX1_clear, Cond.methodLink RX5 25 yX0_bit, Cond.methodLink RX5 31 yX5_feed, Cond.instanceMethod yX5_feed, Cond.selects RX5 yX5_feed yX5_feed, Cond.code yX5_feed cX5_feed 2 none, Cond.methodLink RX5 42 yX5_goX]
def wsX7_begin_r5 : List Cond := [Cond.instanceMethod yX5_goX, Cond.selects RX5 yX5_goX yX5_goX, Cond.code yX5_goX cX5_goX 1 none, Cond.methodLink RX5 39 yX1_at, Cond.methodLink RX5 55 yX1_moveUp, Cond.methodLink RX5 45 yX5_goY, Cond.instanceMethod yX5_goY, Cond.selects RX5 yX5_goY yX5_goY, Cond.code yX5_goY cX5_goY 1 none, Cond.methodLink RX5 48 yX5_goZ, Cond.instanceMethod yX5_goZ, Cond.selects RX5 yX5_goZ yX5_goZ, Cond.code yX5_goZ cX5_goZ 1 none, Cond.methodLink RX5 51 yX1_add, Cond.methodLink RX5 35 yX5_nextBit, Cond.instanceMethod yX5_nextBit, Cond.selects RX5 yX5_nextBit yX5_nextBit, Cond.code yX5_nextBit cX5_nextBit 5 (some .int), Cond.selects RX6 ⟨"BitStreams$Machine", "load", "(LBitStreams$Bytes;LBitStreams$Bytes;)V"⟩ yX6_load, Cond.instanceMethod yX6_load, Cond.code yX6_load cX6_load 4 none, Cond.fieldLink RX6 10 "BitStreams$TwoRegisters" "b" "LBitStreams$Cells;", Cond.fieldLink RX6 16 "BitStreams$TwoRegisters" "s" "LBitStreams$Cells;", Cond.methodLink RX6 19 yX1_clear]
def wsX7_begin_r6 : List Cond := [Cond.methodLink RX6 22 yX0_bit, Cond.methodLink RX6 28 yX1_add, Cond.methodLink RX6 32 yX6_output, Cond.instanceMethod yX6_output, Cond.selects RX6 yX6_output yX6_output, Cond.code yX6_output cX6_output 1 (some .int), Cond.methodLink RX6 40 yX1_at, Cond.methodLink RX6 36 yX6_move, Cond.instanceMethod yX6_move, Cond.selects RX6 yX6_move yX6_move, Cond.code yX6_move cX6_move 4 none, Cond.methodLink RX6 43 yX6_newBitOfS, Cond.instanceMethod yX6_newBitOfS, Cond.selects RX6 yX6_newBitOfS yX6_newBitOfS, Cond.code yX6_newBitOfS cX6_newBitOfS 1 (some .int), Cond.methodLink RX6 46 yX6_newBitOfB, Cond.instanceMethod yX6_newBitOfB, Cond.selects RX6 yX6_newBitOfB yX6_newBitOfB, Cond.code yX6_newBitOfB cX6_newBitOfB 1 (some .int), Cond.methodLink RX6 49 yX1_moveDown, Cond.instanceMethod yX1_moveDown, Cond.selects RX1 yX1_moveDown yX1_moveDown, Cond.code yX1_moveDown cX1_moveDown 2 none, Cond.methodLink RX7 66 yX0_clear]
def wsX7_begin_r7 : List Cond := [Cond.instanceMethod yX0_clear, Cond.selects RX0 yX0_clear yX0_clear, Cond.code yX0_clear cX0_clear 1 none]
def wsX7_begin : List Cond := .code yX7_begin cX7_begin 3 (some .boolean) :: ((wsX7_begin_r1 ++ (wsX7_begin_r2 ++ (wsX7_begin_r3 ++ (wsX7_begin_r4 ++ (wsX7_begin_r5 ++ (wsX7_begin_r6 ++ wsX7_begin_r7)))))) ++ wsX70 ++ wsX00 ++ wsX20 ++ wsX40 ++ wsX10 ++ wsX50 ++ wsX60)
def wsX7_mix_r1 : List Cond := [Cond.fieldLink RX7 39 "BitStreams" "running" "LBitStreams$Machine;", Cond.fieldLink RX7 47 "BitStreams" "used" "I", Cond.constantLong RX7 76 (-1), Cond.methodLink RX7 73 ⟨"BitStreams$Machine", "nextBit", "()I"⟩, Cond.sameMethod "BitStreams$Machine" "BitStreams$Machine" "nextBit" "()I", Cond.selects RX2 ⟨"BitStreams$Machine", "nextBit", "()I"⟩ yX2_nextBit, Cond.instanceMethod yX2_nextBit, Cond.initialized RX2, Cond.code yX2_nextBit cX2_nextBit 1 (some .int), Cond.fieldLink RX2 25 "BitStreams$Exchanges" "bitsLeft" "I", Cond.fieldLink RX2 22 "BitStreams$Exchanges" "givenByte" "I", Cond.methodLink RX2 42 yX2_nextByte, Cond.instanceMethod yX2_nextByte, Cond.selects RX2 yX2_nextByte yX2_nextByte, Cond.code yX2_nextByte cX2_nextByte 1 (some .int), Cond.fieldLink RX2 15 "BitStreams$Exchanges" "i" "I", Cond.fieldLink RX2 19 "BitStreams$Exchanges" "j" "I", Cond.fieldLink RX2 11 "BitStreams$Exchanges" "row" "[I", Cond.methodLink RX2 34 yX2_exchange, Cond.instanceMethod yX2_exchange, Cond.selects RX2 yX2_exchange yX2_exchange, Cond.code yX2_exchange cX2_exchange 4 none, Cond.selects RX4 ⟨"BitStreams$Machine", "nextBit", "()I"⟩ yX4_nextBit, Cond.instanceMethod yX4_nextBit]
def wsX7_mix_r2 : List Cond := [Cond.initialized RX4, Cond.code yX4_nextBit cX4_nextBit 5 (some .int), Cond.fieldLink RX4 10 "BitStreams$ThreeRings" "a" "LBitStreams$Cells;", Cond.fieldLink RX4 16 "BitStreams$ThreeRings" "b" "LBitStreams$Cells;", Cond.fieldLink RX4 19 "BitStreams$ThreeRings" "c" "LBitStreams$Cells;", Cond.methodLink RX4 39 yX1_at, Cond.instanceMethod yX1_at, Cond.selects RX1 yX1_at yX1_at, Cond.initialized RX1, Cond.code yX1_at cX1_at 2 (some .int), Cond.fieldLink RX1 9 "BitStreams$Cells" "low" "J", Cond.fieldLink RX1 15 "BitStreams$Cells" "high" "J", Cond.methodLink RX4 42 yX1_moveUp, Cond.instanceMethod yX1_moveUp, Cond.selects RX1 yX1_moveUp yX1_moveUp, Cond.code yX1_moveUp cX1_moveUp 2 none, Cond.selects RX5 ⟨"BitStreams$Machine", "nextBit", "()I"⟩ yX5_nextBit, Cond.instanceMethod yX5_nextBit, Cond.initialized RX5, Cond.code yX5_nextBit cX5_nextBit 5 (some .int), Cond.fieldLink RX5 10 "BitStreams$ThreeThatStop" "x" "LBitStreams$Cells;", Cond.fieldLink RX5 16 "BitStreams$ThreeThatStop" "y" "LBitStreams$Cells;", Cond.fieldLink RX5 19 "BitStreams$ThreeThatStop" "z" "LBitStreams$Cells;", Cond.methodLink RX5 39 yX1_at]
def wsX7_mix_r3 : List Cond := [Cond.methodLink RX5 42 yX5_goX, Cond.instanceMethod yX5_goX, Cond.selects RX5 yX5_goX yX5_goX, Cond.code yX5_goX cX5_goX 1 none, Cond.methodLink RX5 55 yX1_moveUp, Cond.methodLink RX5 45 yX5_goY, Cond.instanceMethod yX5_goY, Cond.selects RX5 yX5_goY yX5_goY, Cond.code yX5_goY cX5_goY 1 none, Cond.methodLink RX5 48 yX5_goZ, Cond.instanceMethod yX5_goZ, Cond.selects RX5 yX5_goZ yX5_goZ, Cond.code yX5_goZ cX5_goZ 1 none, Cond.selects RX6 ⟨"BitStreams$Machine", "nextBit", "()I"⟩ yX6_nextBit, Cond.instanceMethod yX6_nextBit, Cond.initialized RX6, Cond.code yX6_nextBit cX6_nextBit 2 (some .int), Cond.methodLink RX6 32 yX6_output, Cond.instanceMethod yX6_output, Cond.selects RX6 yX6_output yX6_output, Cond.code yX6_output cX6_output 1 (some .int), Cond.fieldLink RX6 10 "BitStreams$TwoRegisters" "b" "LBitStreams$Cells;", Cond.fieldLink RX6 16 "BitStreams$TwoRegisters" "s" "LBitStreams$Cells;", Cond.methodLink RX6 40 yX1_at]
def wsX7_mix_r4 : List Cond := [Cond.methodLink RX6 36 yX6_move, Cond.instanceMethod yX6_move, Cond.selects RX6 yX6_move yX6_move, Cond.code yX6_move cX6_move 4 none, Cond.methodLink RX6 43 yX6_newBitOfS, Cond.instanceMethod yX6_newBitOfS, Cond.selects RX6 yX6_newBitOfS yX6_newBitOfS, Cond.code yX6_newBitOfS cX6_newBitOfS 1 (some .int), Cond.methodLink RX6 46 yX6_newBitOfB, Cond.instanceMethod yX6_newBitOfB, Cond.selects RX6 yX6_newBitOfB yX6_newBitOfB, Cond.code yX6_newBitOfB cX6_newBitOfB 1 (some .int), Cond.methodLink RX6 49 yX1_moveDown, Cond.instanceMethod yX1_moveDown, Cond.selects RX1 yX1_moveDown yX1_moveDown, Cond.code yX1_moveDown cX1_moveDown 2 none]
def wsX7_mix : List Cond := .code yX7_mix cX7_mix 8 (some .long) :: ((wsX7_mix_r1 ++ (wsX7_mix_r2 ++ (wsX7_mix_r3 ++ wsX7_mix_r4))) ++ wsX70 ++ wsX20 ++ wsX40 ++ wsX10 ++ wsX50 ++ wsX60)
def wsX7_bits_r1 : List Cond := [Cond.methodLink RX7 69 yX7_mix, Cond.instanceMethod yX7_mix, Cond.selects RX7 yX7_mix yX7_mix, Cond.initialized RX7, Cond.code yX7_mix cX7_mix 8 (some .long), Cond.fieldLink RX7 39 "BitStreams" "running" "LBitStreams$Machine;", Cond.fieldLink RX7 47 "BitStreams" "used" "I", Cond.constantLong RX7 76 (-1), Cond.methodLink RX7 73 ⟨"BitStreams$Machine", "nextBit", "()I"⟩, Cond.sameMethod "BitStreams$Machine" "BitStreams$Machine" "nextBit" "()I", Cond.selects RX2 ⟨"BitStreams$Machine", "nextBit", "()I"⟩ yX2_nextBit, Cond.instanceMethod yX2_nextBit, Cond.initialized RX2, Cond.code yX2_nextBit cX2_nextBit 1 (some .int), Cond.fieldLink RX2 25 "BitStreams$Exchanges" "bitsLeft" "I", Cond.fieldLink RX2 22 "BitStreams$Exchanges" "givenByte" "I", Cond.methodLink RX2 42 yX2_nextByte, Cond.instanceMethod yX2_nextByte, Cond.selects RX2 yX2_nextByte yX2_nextByte, Cond.code yX2_nextByte cX2_nextByte 1 (some .int), Cond.fieldLink RX2 15 "BitStreams$Exchanges" "i" "I", Cond.fieldLink RX2 19 "BitStreams$Exchanges" "j" "I", Cond.fieldLink RX2 11 "BitStreams$Exchanges" "row" "[I", Cond.methodLink RX2 34 yX2_exchange]
def wsX7_bits_r2 : List Cond := [Cond.instanceMethod yX2_exchange, Cond.selects RX2 yX2_exchange yX2_exchange, Cond.code yX2_exchange cX2_exchange 4 none, Cond.selects RX4 ⟨"BitStreams$Machine", "nextBit", "()I"⟩ yX4_nextBit, Cond.instanceMethod yX4_nextBit, Cond.initialized RX4, Cond.code yX4_nextBit cX4_nextBit 5 (some .int), Cond.fieldLink RX4 10 "BitStreams$ThreeRings" "a" "LBitStreams$Cells;", Cond.fieldLink RX4 16 "BitStreams$ThreeRings" "b" "LBitStreams$Cells;", Cond.fieldLink RX4 19 "BitStreams$ThreeRings" "c" "LBitStreams$Cells;", Cond.methodLink RX4 39 yX1_at, Cond.instanceMethod yX1_at, Cond.selects RX1 yX1_at yX1_at, Cond.initialized RX1, Cond.code yX1_at cX1_at 2 (some .int), Cond.fieldLink RX1 9 "BitStreams$Cells" "low" "J", Cond.fieldLink RX1 15 "BitStreams$Cells" "high" "J", Cond.methodLink RX4 42 yX1_moveUp, Cond.instanceMethod yX1_moveUp, Cond.selects RX1 yX1_moveUp yX1_moveUp, Cond.code yX1_moveUp cX1_moveUp 2 none, Cond.selects RX5 ⟨"BitStreams$Machine", "nextBit", "()I"⟩ yX5_nextBit, Cond.instanceMethod yX5_nextBit, Cond.initialized RX5]
def wsX7_bits_r3 : List Cond := [Cond.code yX5_nextBit cX5_nextBit 5 (some .int), Cond.fieldLink RX5 10 "BitStreams$ThreeThatStop" "x" "LBitStreams$Cells;", Cond.fieldLink RX5 16 "BitStreams$ThreeThatStop" "y" "LBitStreams$Cells;", Cond.fieldLink RX5 19 "BitStreams$ThreeThatStop" "z" "LBitStreams$Cells;", Cond.methodLink RX5 39 yX1_at, Cond.methodLink RX5 42 yX5_goX, Cond.instanceMethod yX5_goX, Cond.selects RX5 yX5_goX yX5_goX, Cond.code yX5_goX cX5_goX 1 none, Cond.methodLink RX5 55 yX1_moveUp, Cond.methodLink RX5 45 yX5_goY, Cond.instanceMethod yX5_goY, Cond.selects RX5 yX5_goY yX5_goY, Cond.code yX5_goY cX5_goY 1 none, Cond.methodLink RX5 48 yX5_goZ, Cond.instanceMethod yX5_goZ, Cond.selects RX5 yX5_goZ yX5_goZ, Cond.code yX5_goZ cX5_goZ 1 none, Cond.selects RX6 ⟨"BitStreams$Machine", "nextBit", "()I"⟩ yX6_nextBit, Cond.instanceMethod yX6_nextBit, Cond.initialized RX6, Cond.code yX6_nextBit cX6_nextBit 2 (some .int), Cond.methodLink RX6 32 yX6_output, Cond.instanceMethod yX6_output]
def wsX7_bits_r4 : List Cond := [Cond.selects RX6 yX6_output yX6_output, Cond.code yX6_output cX6_output 1 (some .int), Cond.fieldLink RX6 10 "BitStreams$TwoRegisters" "b" "LBitStreams$Cells;", Cond.fieldLink RX6 16 "BitStreams$TwoRegisters" "s" "LBitStreams$Cells;", Cond.methodLink RX6 40 yX1_at, Cond.methodLink RX6 36 yX6_move, Cond.instanceMethod yX6_move, Cond.selects RX6 yX6_move yX6_move, Cond.code yX6_move cX6_move 4 none, Cond.methodLink RX6 43 yX6_newBitOfS, Cond.instanceMethod yX6_newBitOfS, Cond.selects RX6 yX6_newBitOfS yX6_newBitOfS, Cond.code yX6_newBitOfS cX6_newBitOfS 1 (some .int), Cond.methodLink RX6 46 yX6_newBitOfB, Cond.instanceMethod yX6_newBitOfB, Cond.selects RX6 yX6_newBitOfB yX6_newBitOfB, Cond.code yX6_newBitOfB cX6_newBitOfB 1 (some .int), Cond.methodLink RX6 49 yX1_moveDown, Cond.instanceMethod yX1_moveDown, Cond.selects RX1 yX1_moveDown yX1_moveDown, Cond.code yX1_moveDown cX1_moveDown 2 none]
def wsX7_bits : List Cond := .code yX7_bits cX7_bits 2 (some .long) :: ((wsX7_bits_r1 ++ (wsX7_bits_r2 ++ (wsX7_bits_r3 ++ wsX7_bits_r4))) ++ wsX70 ++ wsX20 ++ wsX40 ++ wsX10 ++ wsX50 ++ wsX60)
def wsX7_skip_r1 : List Cond := [Cond.fieldLink RX7 39 "BitStreams" "running" "LBitStreams$Machine;", Cond.fieldLink RX7 47 "BitStreams" "used" "I", Cond.methodLink RX7 73 ⟨"BitStreams$Machine", "nextBit", "()I"⟩, Cond.sameMethod "BitStreams$Machine" "BitStreams$Machine" "nextBit" "()I", Cond.selects RX2 ⟨"BitStreams$Machine", "nextBit", "()I"⟩ yX2_nextBit, Cond.instanceMethod yX2_nextBit, Cond.initialized RX2, Cond.code yX2_nextBit cX2_nextBit 1 (some .int), Cond.fieldLink RX2 25 "BitStreams$Exchanges" "bitsLeft" "I", Cond.fieldLink RX2 22 "BitStreams$Exchanges" "givenByte" "I", Cond.methodLink RX2 42 yX2_nextByte, Cond.instanceMethod yX2_nextByte, Cond.selects RX2 yX2_nextByte yX2_nextByte, Cond.code yX2_nextByte cX2_nextByte 1 (some .int), Cond.fieldLink RX2 15 "BitStreams$Exchanges" "i" "I", Cond.fieldLink RX2 19 "BitStreams$Exchanges" "j" "I", Cond.fieldLink RX2 11 "BitStreams$Exchanges" "row" "[I", Cond.methodLink RX2 34 yX2_exchange, Cond.instanceMethod yX2_exchange, Cond.selects RX2 yX2_exchange yX2_exchange, Cond.code yX2_exchange cX2_exchange 4 none, Cond.selects RX4 ⟨"BitStreams$Machine", "nextBit", "()I"⟩ yX4_nextBit, Cond.instanceMethod yX4_nextBit, Cond.initialized RX4]
def wsX7_skip_r2 : List Cond := [Cond.code yX4_nextBit cX4_nextBit 5 (some .int), Cond.fieldLink RX4 10 "BitStreams$ThreeRings" "a" "LBitStreams$Cells;", Cond.fieldLink RX4 16 "BitStreams$ThreeRings" "b" "LBitStreams$Cells;", Cond.fieldLink RX4 19 "BitStreams$ThreeRings" "c" "LBitStreams$Cells;", Cond.methodLink RX4 39 yX1_at, Cond.instanceMethod yX1_at, Cond.selects RX1 yX1_at yX1_at, Cond.initialized RX1, Cond.code yX1_at cX1_at 2 (some .int), Cond.fieldLink RX1 9 "BitStreams$Cells" "low" "J", Cond.fieldLink RX1 15 "BitStreams$Cells" "high" "J", Cond.methodLink RX4 42 yX1_moveUp, Cond.instanceMethod yX1_moveUp, Cond.selects RX1 yX1_moveUp yX1_moveUp, Cond.code yX1_moveUp cX1_moveUp 2 none, Cond.selects RX5 ⟨"BitStreams$Machine", "nextBit", "()I"⟩ yX5_nextBit, Cond.instanceMethod yX5_nextBit, Cond.initialized RX5, Cond.code yX5_nextBit cX5_nextBit 5 (some .int), Cond.fieldLink RX5 10 "BitStreams$ThreeThatStop" "x" "LBitStreams$Cells;", Cond.fieldLink RX5 16 "BitStreams$ThreeThatStop" "y" "LBitStreams$Cells;", Cond.fieldLink RX5 19 "BitStreams$ThreeThatStop" "z" "LBitStreams$Cells;", Cond.methodLink RX5 39 yX1_at, Cond.methodLink RX5 42 yX5_goX]
def wsX7_skip_r3 : List Cond := [Cond.instanceMethod yX5_goX, Cond.selects RX5 yX5_goX yX5_goX, Cond.code yX5_goX cX5_goX 1 none, Cond.methodLink RX5 55 yX1_moveUp, Cond.methodLink RX5 45 yX5_goY, Cond.instanceMethod yX5_goY, Cond.selects RX5 yX5_goY yX5_goY, Cond.code yX5_goY cX5_goY 1 none, Cond.methodLink RX5 48 yX5_goZ, Cond.instanceMethod yX5_goZ, Cond.selects RX5 yX5_goZ yX5_goZ, Cond.code yX5_goZ cX5_goZ 1 none, Cond.selects RX6 ⟨"BitStreams$Machine", "nextBit", "()I"⟩ yX6_nextBit, Cond.instanceMethod yX6_nextBit, Cond.initialized RX6, Cond.code yX6_nextBit cX6_nextBit 2 (some .int), Cond.methodLink RX6 32 yX6_output, Cond.instanceMethod yX6_output, Cond.selects RX6 yX6_output yX6_output, Cond.code yX6_output cX6_output 1 (some .int), Cond.fieldLink RX6 10 "BitStreams$TwoRegisters" "b" "LBitStreams$Cells;", Cond.fieldLink RX6 16 "BitStreams$TwoRegisters" "s" "LBitStreams$Cells;", Cond.methodLink RX6 40 yX1_at, Cond.methodLink RX6 36 yX6_move]
def wsX7_skip_r4 : List Cond := [Cond.instanceMethod yX6_move, Cond.selects RX6 yX6_move yX6_move, Cond.code yX6_move cX6_move 4 none, Cond.methodLink RX6 43 yX6_newBitOfS, Cond.instanceMethod yX6_newBitOfS, Cond.selects RX6 yX6_newBitOfS yX6_newBitOfS, Cond.code yX6_newBitOfS cX6_newBitOfS 1 (some .int), Cond.methodLink RX6 46 yX6_newBitOfB, Cond.instanceMethod yX6_newBitOfB, Cond.selects RX6 yX6_newBitOfB yX6_newBitOfB, Cond.code yX6_newBitOfB cX6_newBitOfB 1 (some .int), Cond.methodLink RX6 49 yX1_moveDown, Cond.instanceMethod yX1_moveDown, Cond.selects RX1 yX1_moveDown yX1_moveDown, Cond.code yX1_moveDown cX1_moveDown 2 none]
def wsX7_skip : List Cond := .code yX7_skip cX7_skip 3 (some .boolean) :: ((wsX7_skip_r1 ++ (wsX7_skip_r2 ++ (wsX7_skip_r3 ++ wsX7_skip_r4))) ++ wsX70 ++ wsX20 ++ wsX40 ++ wsX10 ++ wsX50 ++ wsX60)
def wsX7_count : List Cond := .code yX7_count cX7_count 2 (some .int) :: ([.fieldLink RX7 14 "BitStreams" "keyBytes" "LBitStreams$Bytes;", .fieldLink RX7 18 "BitStreams" "startBytes" "LBitStreams$Bytes;", .fieldLink RX7 43 "BitStreams" "runningNumber" "I", .fieldLink RX7 47 "BitStreams" "used" "I", .methodLink RX7 54 yX0_size, .instanceMethod yX0_size, .selects RX0 yX0_size yX0_size, .initialized RX0, .code yX0_size cX0_size 1 (some .int), .fieldLink RX0 15 "BitStreams$Bytes" "size" "I"] ++ wsX70 ++ wsX00)
def wsX8_init : List Cond := .code yX8_init cX8_init 1 none :: ([.methodLink RX8 1 objectInit, .instanceMethod objectInit, .code objectInit ⟨#[0xb1]⟩ 1 none, .arrayClass .int, .fieldLink RX8 7 "BitStreamsModel" "key" "[I", .fieldLink RX8 13 "BitStreamsModel" "start" "[I", .fieldLink RX8 16 "BitStreamsModel" "machine" "I", .fieldLink RX8 20 "BitStreamsModel" "cells" "[I", .fieldLink RX8 23 "BitStreamsModel" "tops" "[I", .fieldLink RX8 26 "BitStreamsModel" "row" "[I"] ++ wsX80)
def wsX8_key : List Cond := .code yX8_key cX8_key 5 (some .boolean) :: ([.fieldLink RX8 29 "BitStreamsModel" "keySize" "I", .fieldLink RX8 7 "BitStreamsModel" "key" "[I", .constantLong RX8 32 (255)] ++ wsX80)
def wsX8_start : List Cond := .code yX8_start cX8_start 5 (some .boolean) :: ([.fieldLink RX8 34 "BitStreamsModel" "startSize" "I", .fieldLink RX8 13 "BitStreamsModel" "start" "[I", .constantLong RX8 32 (255)] ++ wsX80)
def wsX8_keyBit : List Cond := .code yX8_keyBit cX8_keyBit 2 (some .int) :: ([.fieldLink RX8 7 "BitStreamsModel" "key" "[I"] ++ wsX80)
def wsX8_startBit : List Cond := .code yX8_startBit cX8_startBit 2 (some .int) :: ([.fieldLink RX8 13 "BitStreamsModel" "start" "[I"] ++ wsX80)
def wsX8_cell : List Cond := .code yX8_cell cX8_cell 3 (some .int) :: ([.fieldLink RX8 20 "BitStreamsModel" "cells" "[I", .fieldLink RX8 23 "BitStreamsModel" "tops" "[I"] ++ wsX80)
def wsX8_put : List Cond := .code yX8_put cX8_put 4 none :: ([.fieldLink RX8 20 "BitStreamsModel" "cells" "[I", .fieldLink RX8 23 "BitStreamsModel" "tops" "[I"] ++ wsX80)
def wsX8_up : List Cond := .code yX8_up cX8_up 3 none :: ([.fieldLink RX8 23 "BitStreamsModel" "tops" "[I", .methodLink RX8 37 yX8_put, .instanceMethod yX8_put, .selects RX8 yX8_put yX8_put, .initialized RX8, .code yX8_put cX8_put 4 none, .fieldLink RX8 20 "BitStreamsModel" "cells" "[I"] ++ wsX80)
def wsX8_down : List Cond := .code yX8_down cX8_down 3 none :: ([.fieldLink RX8 23 "BitStreamsModel" "tops" "[I", .methodLink RX8 37 yX8_put, .instanceMethod yX8_put, .selects RX8 yX8_put yX8_put, .initialized RX8, .code yX8_put cX8_put 4 none, .fieldLink RX8 20 "BitStreamsModel" "cells" "[I"] ++ wsX80)
def wsX8_clean : List Cond := .code yX8_clean cX8_clean 2 none :: ([.fieldLink RX8 20 "BitStreamsModel" "cells" "[I", .fieldLink RX8 23 "BitStreamsModel" "tops" "[I"] ++ wsX80)
def wsX8_s : List Cond := .code yX8_s cX8_s 2 (some .int) :: ([.methodLink RX8 41 yX8_cell, .instanceMethod yX8_cell, .selects RX8 yX8_cell yX8_cell, .initialized RX8, .code yX8_cell cX8_cell 3 (some .int), .fieldLink RX8 20 "BitStreamsModel" "cells" "[I", .fieldLink RX8 23 "BitStreamsModel" "tops" "[I"] ++ wsX80)
def wsX8_stepRings : List Cond := .code yX8_stepRings cX8_stepRings 5 (some .int) :: ([.methodLink RX8 45 yX8_s, .instanceMethod yX8_s, .selects RX8 yX8_s yX8_s, .initialized RX8, .code yX8_s cX8_s 2 (some .int), .methodLink RX8 41 yX8_cell, .instanceMethod yX8_cell, .selects RX8 yX8_cell yX8_cell, .code yX8_cell cX8_cell 3 (some .int), .fieldLink RX8 20 "BitStreamsModel" "cells" "[I", .fieldLink RX8 23 "BitStreamsModel" "tops" "[I", .methodLink RX8 49 yX8_up, .instanceMethod yX8_up, .selects RX8 yX8_up yX8_up, .code yX8_up cX8_up 3 none, .methodLink RX8 37 yX8_put, .instanceMethod yX8_put, .selects RX8 yX8_put yX8_put, .code yX8_put cX8_put 4 none] ++ wsX80)
def wsX8_b : List Cond := .code yX8_b cX8_b 2 (some .int) :: ([.methodLink RX8 41 yX8_cell, .instanceMethod yX8_cell, .selects RX8 yX8_cell yX8_cell, .initialized RX8, .code yX8_cell cX8_cell 3 (some .int), .fieldLink RX8 20 "BitStreamsModel" "cells" "[I", .fieldLink RX8 23 "BitStreamsModel" "tops" "[I"] ++ wsX80)
def wsX8_t : List Cond := .code yX8_t cX8_t 2 (some .int) :: ([.methodLink RX8 41 yX8_cell, .instanceMethod yX8_cell, .selects RX8 yX8_cell yX8_cell, .initialized RX8, .code yX8_cell cX8_cell 3 (some .int), .fieldLink RX8 20 "BitStreamsModel" "cells" "[I", .fieldLink RX8 23 "BitStreamsModel" "tops" "[I"] ++ wsX80)
def wsX8_stepTwo : List Cond := .code yX8_stepTwo cX8_stepTwo 5 (some .int) :: ([.methodLink RX8 53 yX8_b, .instanceMethod yX8_b, .selects RX8 yX8_b yX8_b, .initialized RX8, .code yX8_b cX8_b 2 (some .int), .methodLink RX8 41 yX8_cell, .instanceMethod yX8_cell, .selects RX8 yX8_cell yX8_cell, .code yX8_cell cX8_cell 3 (some .int), .fieldLink RX8 20 "BitStreamsModel" "cells" "[I", .fieldLink RX8 23 "BitStreamsModel" "tops" "[I", .methodLink RX8 56 yX8_t, .instanceMethod yX8_t, .selects RX8 yX8_t yX8_t, .code yX8_t cX8_t 2 (some .int), .methodLink RX8 59 yX8_down, .instanceMethod yX8_down, .selects RX8 yX8_down yX8_down, .code yX8_down cX8_down 3 none, .methodLink RX8 37 yX8_put, .instanceMethod yX8_put, .selects RX8 yX8_put yX8_put, .code yX8_put cX8_put 4 none] ++ wsX80)
def wsX8_goes : List Cond := .code yX8_goes cX8_goes 3 none :: ([.methodLink RX8 41 yX8_cell, .instanceMethod yX8_cell, .selects RX8 yX8_cell yX8_cell, .initialized RX8, .code yX8_cell cX8_cell 3 (some .int), .fieldLink RX8 20 "BitStreamsModel" "cells" "[I", .fieldLink RX8 23 "BitStreamsModel" "tops" "[I", .methodLink RX8 49 yX8_up, .instanceMethod yX8_up, .selects RX8 yX8_up yX8_up, .code yX8_up cX8_up 3 none, .methodLink RX8 37 yX8_put, .instanceMethod yX8_put, .selects RX8 yX8_put yX8_put, .code yX8_put cX8_put 4 none] ++ wsX80)
def wsX8_feed : List Cond := .code yX8_feed cX8_feed 3 none :: ([.methodLink RX8 62 yX8_goes, .instanceMethod yX8_goes, .selects RX8 yX8_goes yX8_goes, .initialized RX8, .code yX8_goes cX8_goes 3 none, .methodLink RX8 41 yX8_cell, .instanceMethod yX8_cell, .selects RX8 yX8_cell yX8_cell, .code yX8_cell cX8_cell 3 (some .int), .fieldLink RX8 20 "BitStreamsModel" "cells" "[I", .fieldLink RX8 23 "BitStreamsModel" "tops" "[I", .methodLink RX8 49 yX8_up, .instanceMethod yX8_up, .selects RX8 yX8_up yX8_up, .code yX8_up cX8_up 3 none, .methodLink RX8 37 yX8_put, .instanceMethod yX8_put, .selects RX8 yX8_put yX8_put, .code yX8_put cX8_put 4 none] ++ wsX80)
def wsX8_stepStops : List Cond := .code yX8_stepStops cX8_stepStops 5 (some .int) :: ([.methodLink RX8 41 yX8_cell, .instanceMethod yX8_cell, .selects RX8 yX8_cell yX8_cell, .initialized RX8, .code yX8_cell cX8_cell 3 (some .int), .fieldLink RX8 20 "BitStreamsModel" "cells" "[I", .fieldLink RX8 23 "BitStreamsModel" "tops" "[I", .methodLink RX8 62 yX8_goes, .instanceMethod yX8_goes, .selects RX8 yX8_goes yX8_goes, .code yX8_goes cX8_goes 3 none, .methodLink RX8 49 yX8_up, .instanceMethod yX8_up, .selects RX8 yX8_up yX8_up, .code yX8_up cX8_up 3 none, .methodLink RX8 37 yX8_put, .instanceMethod yX8_put, .selects RX8 yX8_put yX8_put, .code yX8_put cX8_put 4 none] ++ wsX80)
def wsX8_exchange : List Cond := .code yX8_exchange cX8_exchange 4 none :: ([.fieldLink RX8 26 "BitStreamsModel" "row" "[I"] ++ wsX80)
def wsX8_stepByte : List Cond := .code yX8_stepByte cX8_stepByte 1 (some .int) :: ([.fieldLink RX8 66 "BitStreamsModel" "i" "I", .fieldLink RX8 69 "BitStreamsModel" "j" "I", .fieldLink RX8 26 "BitStreamsModel" "row" "[I", .methodLink RX8 72 yX8_exchange, .instanceMethod yX8_exchange, .selects RX8 yX8_exchange yX8_exchange, .initialized RX8, .code yX8_exchange cX8_exchange 4 none] ++ wsX80)
def wsX8_fits : List Cond := .code yX8_fits cX8_fits 2 (some .boolean) :: ([.fieldLink RX8 29 "BitStreamsModel" "keySize" "I", .fieldLink RX8 34 "BitStreamsModel" "startSize" "I"] ++ wsX80)
def wsX8_beginRings_r1 : List Cond := [Cond.methodLink RX8 97 yX8_keyBit, Cond.instanceMethod yX8_keyBit, Cond.selects RX8 yX8_keyBit yX8_keyBit, Cond.initialized RX8, Cond.code yX8_keyBit cX8_keyBit 2 (some .int), Cond.fieldLink RX8 7 "BitStreamsModel" "key" "[I", Cond.methodLink RX8 37 yX8_put, Cond.instanceMethod yX8_put, Cond.selects RX8 yX8_put yX8_put, Cond.code yX8_put cX8_put 4 none, Cond.fieldLink RX8 20 "BitStreamsModel" "cells" "[I", Cond.fieldLink RX8 23 "BitStreamsModel" "tops" "[I", Cond.methodLink RX8 100 yX8_startBit, Cond.instanceMethod yX8_startBit, Cond.selects RX8 yX8_startBit yX8_startBit, Cond.code yX8_startBit cX8_startBit 2 (some .int), Cond.fieldLink RX8 13 "BitStreamsModel" "start" "[I", Cond.methodLink RX8 103 yX8_stepRings, Cond.instanceMethod yX8_stepRings, Cond.selects RX8 yX8_stepRings yX8_stepRings, Cond.code yX8_stepRings cX8_stepRings 5 (some .int), Cond.methodLink RX8 45 yX8_s, Cond.instanceMethod yX8_s, Cond.selects RX8 yX8_s yX8_s]
def wsX8_beginRings_r2 : List Cond := [Cond.code yX8_s cX8_s 2 (some .int), Cond.methodLink RX8 41 yX8_cell, Cond.instanceMethod yX8_cell, Cond.selects RX8 yX8_cell yX8_cell, Cond.code yX8_cell cX8_cell 3 (some .int), Cond.methodLink RX8 49 yX8_up, Cond.instanceMethod yX8_up, Cond.selects RX8 yX8_up yX8_up, Cond.code yX8_up cX8_up 3 none]
def wsX8_beginRings : List Cond := .code yX8_beginRings cX8_beginRings 2 none :: ((wsX8_beginRings_r1 ++ wsX8_beginRings_r2) ++ wsX80)
def wsX8_beginTwo_r1 : List Cond := [Cond.methodLink RX8 97 yX8_keyBit, Cond.instanceMethod yX8_keyBit, Cond.selects RX8 yX8_keyBit yX8_keyBit, Cond.initialized RX8, Cond.code yX8_keyBit cX8_keyBit 2 (some .int), Cond.fieldLink RX8 7 "BitStreamsModel" "key" "[I", Cond.methodLink RX8 37 yX8_put, Cond.instanceMethod yX8_put, Cond.selects RX8 yX8_put yX8_put, Cond.code yX8_put cX8_put 4 none, Cond.fieldLink RX8 20 "BitStreamsModel" "cells" "[I", Cond.fieldLink RX8 23 "BitStreamsModel" "tops" "[I", Cond.methodLink RX8 100 yX8_startBit, Cond.instanceMethod yX8_startBit, Cond.selects RX8 yX8_startBit yX8_startBit, Cond.code yX8_startBit cX8_startBit 2 (some .int), Cond.fieldLink RX8 13 "BitStreamsModel" "start" "[I", Cond.methodLink RX8 107 yX8_stepTwo, Cond.instanceMethod yX8_stepTwo, Cond.selects RX8 yX8_stepTwo yX8_stepTwo, Cond.code yX8_stepTwo cX8_stepTwo 5 (some .int), Cond.methodLink RX8 53 yX8_b, Cond.instanceMethod yX8_b, Cond.selects RX8 yX8_b yX8_b]
def wsX8_beginTwo_r2 : List Cond := [Cond.code yX8_b cX8_b 2 (some .int), Cond.methodLink RX8 41 yX8_cell, Cond.instanceMethod yX8_cell, Cond.selects RX8 yX8_cell yX8_cell, Cond.code yX8_cell cX8_cell 3 (some .int), Cond.methodLink RX8 56 yX8_t, Cond.instanceMethod yX8_t, Cond.selects RX8 yX8_t yX8_t, Cond.code yX8_t cX8_t 2 (some .int), Cond.methodLink RX8 59 yX8_down, Cond.instanceMethod yX8_down, Cond.selects RX8 yX8_down yX8_down, Cond.code yX8_down cX8_down 3 none]
def wsX8_beginTwo : List Cond := .code yX8_beginTwo cX8_beginTwo 2 none :: ((wsX8_beginTwo_r1 ++ wsX8_beginTwo_r2) ++ wsX80)
def wsX8_beginStops_r1 : List Cond := [Cond.methodLink RX8 97 yX8_keyBit, Cond.instanceMethod yX8_keyBit, Cond.selects RX8 yX8_keyBit yX8_keyBit, Cond.initialized RX8, Cond.code yX8_keyBit cX8_keyBit 2 (some .int), Cond.fieldLink RX8 7 "BitStreamsModel" "key" "[I", Cond.methodLink RX8 111 yX8_feed, Cond.instanceMethod yX8_feed, Cond.selects RX8 yX8_feed yX8_feed, Cond.code yX8_feed cX8_feed 3 none, Cond.methodLink RX8 62 yX8_goes, Cond.instanceMethod yX8_goes, Cond.selects RX8 yX8_goes yX8_goes, Cond.code yX8_goes cX8_goes 3 none, Cond.methodLink RX8 41 yX8_cell, Cond.instanceMethod yX8_cell, Cond.selects RX8 yX8_cell yX8_cell, Cond.code yX8_cell cX8_cell 3 (some .int), Cond.fieldLink RX8 20 "BitStreamsModel" "cells" "[I", Cond.fieldLink RX8 23 "BitStreamsModel" "tops" "[I", Cond.methodLink RX8 49 yX8_up, Cond.instanceMethod yX8_up, Cond.selects RX8 yX8_up yX8_up, Cond.code yX8_up cX8_up 3 none]
def wsX8_beginStops_r2 : List Cond := [Cond.methodLink RX8 37 yX8_put, Cond.instanceMethod yX8_put, Cond.selects RX8 yX8_put yX8_put, Cond.code yX8_put cX8_put 4 none, Cond.methodLink RX8 100 yX8_startBit, Cond.instanceMethod yX8_startBit, Cond.selects RX8 yX8_startBit yX8_startBit, Cond.code yX8_startBit cX8_startBit 2 (some .int), Cond.fieldLink RX8 13 "BitStreamsModel" "start" "[I", Cond.methodLink RX8 114 yX8_stepStops, Cond.instanceMethod yX8_stepStops, Cond.selects RX8 yX8_stepStops yX8_stepStops, Cond.code yX8_stepStops cX8_stepStops 5 (some .int)]
def wsX8_beginStops : List Cond := .code yX8_beginStops cX8_beginStops 2 none :: ((wsX8_beginStops_r1 ++ wsX8_beginStops_r2) ++ wsX80)
def wsX8_beginRow : List Cond := .code yX8_beginRow cX8_beginRow 2 none :: ([.fieldLink RX8 26 "BitStreamsModel" "row" "[I", .fieldLink RX8 69 "BitStreamsModel" "j" "I", .fieldLink RX8 7 "BitStreamsModel" "key" "[I", .fieldLink RX8 29 "BitStreamsModel" "keySize" "I", .fieldLink RX8 66 "BitStreamsModel" "i" "I", .fieldLink RX8 117 "BitStreamsModel" "left" "I", .methodLink RX8 72 yX8_exchange, .instanceMethod yX8_exchange, .selects RX8 yX8_exchange yX8_exchange, .initialized RX8, .code yX8_exchange cX8_exchange 4 none] ++ wsX80)
def wsX8_begin_r1 : List Cond := [Cond.fieldLink RX8 16 "BitStreamsModel" "machine" "I", Cond.fieldLink RX8 79 "BitStreamsModel" "given" "I", Cond.fieldLink RX8 29 "BitStreamsModel" "keySize" "I", Cond.fieldLink RX8 34 "BitStreamsModel" "startSize" "I", Cond.methodLink RX8 75 yX8_fits, Cond.instanceMethod yX8_fits, Cond.selects RX8 yX8_fits yX8_fits, Cond.initialized RX8, Cond.code yX8_fits cX8_fits 2 (some .boolean), Cond.methodLink RX8 82 yX8_clean, Cond.instanceMethod yX8_clean, Cond.selects RX8 yX8_clean yX8_clean, Cond.code yX8_clean cX8_clean 2 none, Cond.fieldLink RX8 20 "BitStreamsModel" "cells" "[I", Cond.fieldLink RX8 23 "BitStreamsModel" "tops" "[I", Cond.methodLink RX8 85 yX8_beginRings, Cond.instanceMethod yX8_beginRings, Cond.selects RX8 yX8_beginRings yX8_beginRings, Cond.code yX8_beginRings cX8_beginRings 2 none, Cond.methodLink RX8 97 yX8_keyBit, Cond.instanceMethod yX8_keyBit, Cond.selects RX8 yX8_keyBit yX8_keyBit, Cond.code yX8_keyBit cX8_keyBit 2 (some .int), Cond.fieldLink RX8 7 "BitStreamsModel" "key" "[I"]
def wsX8_begin_r2 : List Cond := [Cond.methodLink RX8 37 yX8_put, Cond.instanceMethod yX8_put, Cond.selects RX8 yX8_put yX8_put, Cond.code yX8_put cX8_put 4 none, Cond.methodLink RX8 100 yX8_startBit, Cond.instanceMethod yX8_startBit, Cond.selects RX8 yX8_startBit yX8_startBit, Cond.code yX8_startBit cX8_startBit 2 (some .int), Cond.fieldLink RX8 13 "BitStreamsModel" "start" "[I", Cond.methodLink RX8 103 yX8_stepRings, Cond.instanceMethod yX8_stepRings, Cond.selects RX8 yX8_stepRings yX8_stepRings, Cond.code yX8_stepRings cX8_stepRings 5 (some .int), Cond.methodLink RX8 45 yX8_s, Cond.instanceMethod yX8_s, Cond.selects RX8 yX8_s yX8_s, Cond.code yX8_s cX8_s 2 (some .int), Cond.methodLink RX8 41 yX8_cell, Cond.instanceMethod yX8_cell, Cond.selects RX8 yX8_cell yX8_cell, Cond.code yX8_cell cX8_cell 3 (some .int), Cond.methodLink RX8 49 yX8_up, Cond.instanceMethod yX8_up, Cond.selects RX8 yX8_up yX8_up]
def wsX8_begin_r3 : List Cond := [Cond.code yX8_up cX8_up 3 none, Cond.methodLink RX8 88 yX8_beginTwo, Cond.instanceMethod yX8_beginTwo, Cond.selects RX8 yX8_beginTwo yX8_beginTwo, Cond.code yX8_beginTwo cX8_beginTwo 2 none, Cond.methodLink RX8 107 yX8_stepTwo, Cond.instanceMethod yX8_stepTwo, Cond.selects RX8 yX8_stepTwo yX8_stepTwo, Cond.code yX8_stepTwo cX8_stepTwo 5 (some .int), Cond.methodLink RX8 53 yX8_b, Cond.instanceMethod yX8_b, Cond.selects RX8 yX8_b yX8_b, Cond.code yX8_b cX8_b 2 (some .int), Cond.methodLink RX8 56 yX8_t, Cond.instanceMethod yX8_t, Cond.selects RX8 yX8_t yX8_t, Cond.code yX8_t cX8_t 2 (some .int), Cond.methodLink RX8 59 yX8_down, Cond.instanceMethod yX8_down, Cond.selects RX8 yX8_down yX8_down, Cond.code yX8_down cX8_down 3 none, Cond.methodLink RX8 91 yX8_beginStops, Cond.instanceMethod yX8_beginStops, Cond.selects RX8 yX8_beginStops yX8_beginStops]
def wsX8_begin_r4 : List Cond := [Cond.code yX8_beginStops cX8_beginStops 2 none, Cond.methodLink RX8 111 yX8_feed, Cond.instanceMethod yX8_feed, Cond.selects RX8 yX8_feed yX8_feed, Cond.code yX8_feed cX8_feed 3 none, Cond.methodLink RX8 62 yX8_goes, Cond.instanceMethod yX8_goes, Cond.selects RX8 yX8_goes yX8_goes, Cond.code yX8_goes cX8_goes 3 none, Cond.methodLink RX8 114 yX8_stepStops, Cond.instanceMethod yX8_stepStops, Cond.selects RX8 yX8_stepStops yX8_stepStops, Cond.code yX8_stepStops cX8_stepStops 5 (some .int), Cond.methodLink RX8 94 yX8_beginRow, Cond.instanceMethod yX8_beginRow, Cond.selects RX8 yX8_beginRow yX8_beginRow, Cond.code yX8_beginRow cX8_beginRow 2 none, Cond.fieldLink RX8 26 "BitStreamsModel" "row" "[I", Cond.fieldLink RX8 69 "BitStreamsModel" "j" "I", Cond.fieldLink RX8 66 "BitStreamsModel" "i" "I", Cond.fieldLink RX8 117 "BitStreamsModel" "left" "I", Cond.methodLink RX8 72 yX8_exchange, Cond.instanceMethod yX8_exchange, Cond.selects RX8 yX8_exchange yX8_exchange]
def wsX8_begin_r5 : List Cond := [Cond.code yX8_exchange cX8_exchange 4 none]
def wsX8_begin : List Cond := .code yX8_begin cX8_begin 2 (some .boolean) :: ((wsX8_begin_r1 ++ (wsX8_begin_r2 ++ (wsX8_begin_r3 ++ (wsX8_begin_r4 ++ wsX8_begin_r5)))) ++ wsX80)
def wsX8_next_r1 : List Cond := [Cond.fieldLink RX8 79 "BitStreamsModel" "given" "I", Cond.fieldLink RX8 16 "BitStreamsModel" "machine" "I", Cond.fieldLink RX8 117 "BitStreamsModel" "left" "I", Cond.fieldLink RX8 123 "BitStreamsModel" "byteNow" "I", Cond.methodLink RX8 103 yX8_stepRings, Cond.instanceMethod yX8_stepRings, Cond.selects RX8 yX8_stepRings yX8_stepRings, Cond.initialized RX8, Cond.code yX8_stepRings cX8_stepRings 5 (some .int), Cond.methodLink RX8 45 yX8_s, Cond.instanceMethod yX8_s, Cond.selects RX8 yX8_s yX8_s, Cond.code yX8_s cX8_s 2 (some .int), Cond.methodLink RX8 41 yX8_cell, Cond.instanceMethod yX8_cell, Cond.selects RX8 yX8_cell yX8_cell, Cond.code yX8_cell cX8_cell 3 (some .int), Cond.fieldLink RX8 20 "BitStreamsModel" "cells" "[I", Cond.fieldLink RX8 23 "BitStreamsModel" "tops" "[I", Cond.methodLink RX8 49 yX8_up, Cond.instanceMethod yX8_up, Cond.selects RX8 yX8_up yX8_up, Cond.code yX8_up cX8_up 3 none, Cond.methodLink RX8 37 yX8_put]
def wsX8_next_r2 : List Cond := [Cond.instanceMethod yX8_put, Cond.selects RX8 yX8_put yX8_put, Cond.code yX8_put cX8_put 4 none, Cond.methodLink RX8 107 yX8_stepTwo, Cond.instanceMethod yX8_stepTwo, Cond.selects RX8 yX8_stepTwo yX8_stepTwo, Cond.code yX8_stepTwo cX8_stepTwo 5 (some .int), Cond.methodLink RX8 53 yX8_b, Cond.instanceMethod yX8_b, Cond.selects RX8 yX8_b yX8_b, Cond.code yX8_b cX8_b 2 (some .int), Cond.methodLink RX8 56 yX8_t, Cond.instanceMethod yX8_t, Cond.selects RX8 yX8_t yX8_t, Cond.code yX8_t cX8_t 2 (some .int), Cond.methodLink RX8 59 yX8_down, Cond.instanceMethod yX8_down, Cond.selects RX8 yX8_down yX8_down, Cond.code yX8_down cX8_down 3 none, Cond.methodLink RX8 114 yX8_stepStops, Cond.instanceMethod yX8_stepStops, Cond.selects RX8 yX8_stepStops yX8_stepStops, Cond.code yX8_stepStops cX8_stepStops 5 (some .int), Cond.methodLink RX8 62 yX8_goes]
def wsX8_next_r3 : List Cond := [Cond.instanceMethod yX8_goes, Cond.selects RX8 yX8_goes yX8_goes, Cond.code yX8_goes cX8_goes 3 none, Cond.methodLink RX8 120 yX8_stepByte, Cond.instanceMethod yX8_stepByte, Cond.selects RX8 yX8_stepByte yX8_stepByte, Cond.code yX8_stepByte cX8_stepByte 1 (some .int), Cond.fieldLink RX8 66 "BitStreamsModel" "i" "I", Cond.fieldLink RX8 69 "BitStreamsModel" "j" "I", Cond.fieldLink RX8 26 "BitStreamsModel" "row" "[I", Cond.methodLink RX8 72 yX8_exchange, Cond.instanceMethod yX8_exchange, Cond.selects RX8 yX8_exchange yX8_exchange, Cond.code yX8_exchange cX8_exchange 4 none]
def wsX8_next : List Cond := .code yX8_next cX8_next 1 (some .int) :: ((wsX8_next_r1 ++ (wsX8_next_r2 ++ wsX8_next_r3)) ++ wsX80)
def wsX8_mix_r1 : List Cond := [Cond.fieldLink RX8 16 "BitStreamsModel" "machine" "I", Cond.methodLink RX8 130 yX8_next, Cond.instanceMethod yX8_next, Cond.selects RX8 yX8_next yX8_next, Cond.initialized RX8, Cond.code yX8_next cX8_next 1 (some .int), Cond.fieldLink RX8 79 "BitStreamsModel" "given" "I", Cond.fieldLink RX8 117 "BitStreamsModel" "left" "I", Cond.fieldLink RX8 123 "BitStreamsModel" "byteNow" "I", Cond.methodLink RX8 103 yX8_stepRings, Cond.instanceMethod yX8_stepRings, Cond.selects RX8 yX8_stepRings yX8_stepRings, Cond.code yX8_stepRings cX8_stepRings 5 (some .int), Cond.methodLink RX8 45 yX8_s, Cond.instanceMethod yX8_s, Cond.selects RX8 yX8_s yX8_s, Cond.code yX8_s cX8_s 2 (some .int), Cond.methodLink RX8 41 yX8_cell, Cond.instanceMethod yX8_cell, Cond.selects RX8 yX8_cell yX8_cell, Cond.code yX8_cell cX8_cell 3 (some .int), Cond.fieldLink RX8 20 "BitStreamsModel" "cells" "[I", Cond.fieldLink RX8 23 "BitStreamsModel" "tops" "[I", Cond.methodLink RX8 49 yX8_up]
def wsX8_mix_r2 : List Cond := [Cond.instanceMethod yX8_up, Cond.selects RX8 yX8_up yX8_up, Cond.code yX8_up cX8_up 3 none, Cond.methodLink RX8 37 yX8_put, Cond.instanceMethod yX8_put, Cond.selects RX8 yX8_put yX8_put, Cond.code yX8_put cX8_put 4 none, Cond.methodLink RX8 107 yX8_stepTwo, Cond.instanceMethod yX8_stepTwo, Cond.selects RX8 yX8_stepTwo yX8_stepTwo, Cond.code yX8_stepTwo cX8_stepTwo 5 (some .int), Cond.methodLink RX8 53 yX8_b, Cond.instanceMethod yX8_b, Cond.selects RX8 yX8_b yX8_b, Cond.code yX8_b cX8_b 2 (some .int), Cond.methodLink RX8 56 yX8_t, Cond.instanceMethod yX8_t, Cond.selects RX8 yX8_t yX8_t, Cond.code yX8_t cX8_t 2 (some .int), Cond.methodLink RX8 59 yX8_down, Cond.instanceMethod yX8_down, Cond.selects RX8 yX8_down yX8_down, Cond.code yX8_down cX8_down 3 none, Cond.methodLink RX8 114 yX8_stepStops]
def wsX8_mix_r3 : List Cond := [Cond.instanceMethod yX8_stepStops, Cond.selects RX8 yX8_stepStops yX8_stepStops, Cond.code yX8_stepStops cX8_stepStops 5 (some .int), Cond.methodLink RX8 62 yX8_goes, Cond.instanceMethod yX8_goes, Cond.selects RX8 yX8_goes yX8_goes, Cond.code yX8_goes cX8_goes 3 none, Cond.methodLink RX8 120 yX8_stepByte, Cond.instanceMethod yX8_stepByte, Cond.selects RX8 yX8_stepByte yX8_stepByte, Cond.code yX8_stepByte cX8_stepByte 1 (some .int), Cond.fieldLink RX8 66 "BitStreamsModel" "i" "I", Cond.fieldLink RX8 69 "BitStreamsModel" "j" "I", Cond.fieldLink RX8 26 "BitStreamsModel" "row" "[I", Cond.methodLink RX8 72 yX8_exchange, Cond.instanceMethod yX8_exchange, Cond.selects RX8 yX8_exchange yX8_exchange, Cond.code yX8_exchange cX8_exchange 4 none]
def wsX8_mix : List Cond := .code yX8_mix cX8_mix 7 (some .long) :: ((wsX8_mix_r1 ++ (wsX8_mix_r2 ++ wsX8_mix_r3)) ++ wsX80)
def wsX8_bits_r1 : List Cond := [Cond.methodLink RX8 126 yX8_mix, Cond.instanceMethod yX8_mix, Cond.selects RX8 yX8_mix yX8_mix, Cond.initialized RX8, Cond.code yX8_mix cX8_mix 7 (some .long), Cond.fieldLink RX8 16 "BitStreamsModel" "machine" "I", Cond.methodLink RX8 130 yX8_next, Cond.instanceMethod yX8_next, Cond.selects RX8 yX8_next yX8_next, Cond.code yX8_next cX8_next 1 (some .int), Cond.fieldLink RX8 79 "BitStreamsModel" "given" "I", Cond.fieldLink RX8 117 "BitStreamsModel" "left" "I", Cond.fieldLink RX8 123 "BitStreamsModel" "byteNow" "I", Cond.methodLink RX8 103 yX8_stepRings, Cond.instanceMethod yX8_stepRings, Cond.selects RX8 yX8_stepRings yX8_stepRings, Cond.code yX8_stepRings cX8_stepRings 5 (some .int), Cond.methodLink RX8 45 yX8_s, Cond.instanceMethod yX8_s, Cond.selects RX8 yX8_s yX8_s, Cond.code yX8_s cX8_s 2 (some .int), Cond.methodLink RX8 41 yX8_cell, Cond.instanceMethod yX8_cell, Cond.selects RX8 yX8_cell yX8_cell]
def wsX8_bits_r2 : List Cond := [Cond.code yX8_cell cX8_cell 3 (some .int), Cond.fieldLink RX8 20 "BitStreamsModel" "cells" "[I", Cond.fieldLink RX8 23 "BitStreamsModel" "tops" "[I", Cond.methodLink RX8 49 yX8_up, Cond.instanceMethod yX8_up, Cond.selects RX8 yX8_up yX8_up, Cond.code yX8_up cX8_up 3 none, Cond.methodLink RX8 37 yX8_put, Cond.instanceMethod yX8_put, Cond.selects RX8 yX8_put yX8_put, Cond.code yX8_put cX8_put 4 none, Cond.methodLink RX8 107 yX8_stepTwo, Cond.instanceMethod yX8_stepTwo, Cond.selects RX8 yX8_stepTwo yX8_stepTwo, Cond.code yX8_stepTwo cX8_stepTwo 5 (some .int), Cond.methodLink RX8 53 yX8_b, Cond.instanceMethod yX8_b, Cond.selects RX8 yX8_b yX8_b, Cond.code yX8_b cX8_b 2 (some .int), Cond.methodLink RX8 56 yX8_t, Cond.instanceMethod yX8_t, Cond.selects RX8 yX8_t yX8_t, Cond.code yX8_t cX8_t 2 (some .int), Cond.methodLink RX8 59 yX8_down]
def wsX8_bits_r3 : List Cond := [Cond.instanceMethod yX8_down, Cond.selects RX8 yX8_down yX8_down, Cond.code yX8_down cX8_down 3 none, Cond.methodLink RX8 114 yX8_stepStops, Cond.instanceMethod yX8_stepStops, Cond.selects RX8 yX8_stepStops yX8_stepStops, Cond.code yX8_stepStops cX8_stepStops 5 (some .int), Cond.methodLink RX8 62 yX8_goes, Cond.instanceMethod yX8_goes, Cond.selects RX8 yX8_goes yX8_goes, Cond.code yX8_goes cX8_goes 3 none, Cond.methodLink RX8 120 yX8_stepByte, Cond.instanceMethod yX8_stepByte, Cond.selects RX8 yX8_stepByte yX8_stepByte, Cond.code yX8_stepByte cX8_stepByte 1 (some .int), Cond.fieldLink RX8 66 "BitStreamsModel" "i" "I", Cond.fieldLink RX8 69 "BitStreamsModel" "j" "I", Cond.fieldLink RX8 26 "BitStreamsModel" "row" "[I", Cond.methodLink RX8 72 yX8_exchange, Cond.instanceMethod yX8_exchange, Cond.selects RX8 yX8_exchange yX8_exchange, Cond.code yX8_exchange cX8_exchange 4 none]
def wsX8_bits : List Cond := .code yX8_bits cX8_bits 2 (some .long) :: ((wsX8_bits_r1 ++ (wsX8_bits_r2 ++ wsX8_bits_r3)) ++ wsX80)
def wsX8_skip_r1 : List Cond := [Cond.fieldLink RX8 16 "BitStreamsModel" "machine" "I", Cond.methodLink RX8 130 yX8_next, Cond.instanceMethod yX8_next, Cond.selects RX8 yX8_next yX8_next, Cond.initialized RX8, Cond.code yX8_next cX8_next 1 (some .int), Cond.fieldLink RX8 79 "BitStreamsModel" "given" "I", Cond.fieldLink RX8 117 "BitStreamsModel" "left" "I", Cond.fieldLink RX8 123 "BitStreamsModel" "byteNow" "I", Cond.methodLink RX8 103 yX8_stepRings, Cond.instanceMethod yX8_stepRings, Cond.selects RX8 yX8_stepRings yX8_stepRings, Cond.code yX8_stepRings cX8_stepRings 5 (some .int), Cond.methodLink RX8 45 yX8_s, Cond.instanceMethod yX8_s, Cond.selects RX8 yX8_s yX8_s, Cond.code yX8_s cX8_s 2 (some .int), Cond.methodLink RX8 41 yX8_cell, Cond.instanceMethod yX8_cell, Cond.selects RX8 yX8_cell yX8_cell, Cond.code yX8_cell cX8_cell 3 (some .int), Cond.fieldLink RX8 20 "BitStreamsModel" "cells" "[I", Cond.fieldLink RX8 23 "BitStreamsModel" "tops" "[I", Cond.methodLink RX8 49 yX8_up]
def wsX8_skip_r2 : List Cond := [Cond.instanceMethod yX8_up, Cond.selects RX8 yX8_up yX8_up, Cond.code yX8_up cX8_up 3 none, Cond.methodLink RX8 37 yX8_put, Cond.instanceMethod yX8_put, Cond.selects RX8 yX8_put yX8_put, Cond.code yX8_put cX8_put 4 none, Cond.methodLink RX8 107 yX8_stepTwo, Cond.instanceMethod yX8_stepTwo, Cond.selects RX8 yX8_stepTwo yX8_stepTwo, Cond.code yX8_stepTwo cX8_stepTwo 5 (some .int), Cond.methodLink RX8 53 yX8_b, Cond.instanceMethod yX8_b, Cond.selects RX8 yX8_b yX8_b, Cond.code yX8_b cX8_b 2 (some .int), Cond.methodLink RX8 56 yX8_t, Cond.instanceMethod yX8_t, Cond.selects RX8 yX8_t yX8_t, Cond.code yX8_t cX8_t 2 (some .int), Cond.methodLink RX8 59 yX8_down, Cond.instanceMethod yX8_down, Cond.selects RX8 yX8_down yX8_down, Cond.code yX8_down cX8_down 3 none, Cond.methodLink RX8 114 yX8_stepStops]
def wsX8_skip_r3 : List Cond := [Cond.instanceMethod yX8_stepStops, Cond.selects RX8 yX8_stepStops yX8_stepStops, Cond.code yX8_stepStops cX8_stepStops 5 (some .int), Cond.methodLink RX8 62 yX8_goes, Cond.instanceMethod yX8_goes, Cond.selects RX8 yX8_goes yX8_goes, Cond.code yX8_goes cX8_goes 3 none, Cond.methodLink RX8 120 yX8_stepByte, Cond.instanceMethod yX8_stepByte, Cond.selects RX8 yX8_stepByte yX8_stepByte, Cond.code yX8_stepByte cX8_stepByte 1 (some .int), Cond.fieldLink RX8 66 "BitStreamsModel" "i" "I", Cond.fieldLink RX8 69 "BitStreamsModel" "j" "I", Cond.fieldLink RX8 26 "BitStreamsModel" "row" "[I", Cond.methodLink RX8 72 yX8_exchange, Cond.instanceMethod yX8_exchange, Cond.selects RX8 yX8_exchange yX8_exchange, Cond.code yX8_exchange cX8_exchange 4 none]
def wsX8_skip : List Cond := .code yX8_skip cX8_skip 3 (some .boolean) :: ((wsX8_skip_r1 ++ (wsX8_skip_r2 ++ wsX8_skip_r3)) ++ wsX80)
def wsX8_count : List Cond := .code yX8_count cX8_count 2 (some .int) :: ([.fieldLink RX8 29 "BitStreamsModel" "keySize" "I", .fieldLink RX8 34 "BitStreamsModel" "startSize" "I", .fieldLink RX8 16 "BitStreamsModel" "machine" "I", .fieldLink RX8 79 "BitStreamsModel" "given" "I"] ++ wsX80)
def wsL_law_r1 : List Cond := [Cond.classLink RL 7 RX7, Cond.instantiable RX7 6, Cond.initialized RX7, Cond.classLink RL 10 RX8, Cond.instantiable RX8 13, Cond.initialized RX8, Cond.constantLong RL 13 (4294967295), Cond.methodLink RL 9 yX7_init, Cond.instanceMethod yX7_init, Cond.code yX7_init cX7_init 1 none, Cond.methodLink RX7 1 objectInit, Cond.instanceMethod objectInit, Cond.code objectInit ⟨#[0xb1]⟩ 1 none, Cond.classLink RX7 7 RX0, Cond.instantiable RX0 2, Cond.initialized RX0, Cond.fieldLink RX7 14 "BitStreams" "keyBytes" "LBitStreams$Bytes;", Cond.fieldLink RX7 18 "BitStreams" "startBytes" "LBitStreams$Bytes;", Cond.classLink RX7 21 RX3, Cond.classLink RX7 23 RX4, Cond.instantiable RX4 3, Cond.initialized RX4, Cond.classLink RX7 26 RX6, Cond.instantiable RX6 2]
def wsL_law_r2 : List Cond := [Cond.initialized RX6, Cond.classLink RX7 29 RX5, Cond.instantiable RX5 3, Cond.initialized RX5, Cond.classLink RX7 32 RX2, Cond.instantiable RX2 5, Cond.initialized RX2, Cond.fieldLink RX7 35 "BitStreams" "machines" "[LBitStreams$Machine;", Cond.fieldLink RX7 39 "BitStreams" "running" "LBitStreams$Machine;", Cond.fieldLink RX7 43 "BitStreams" "runningNumber" "I", Cond.fieldLink RX7 47 "BitStreams" "used" "I", Cond.methodLink RX7 11 yX0_init, Cond.instanceMethod yX0_init, Cond.code yX0_init cX0_init 2 none, Cond.methodLink RX0 3 objectInit, Cond.arrayClass .int, Cond.fieldLink RX0 9 "BitStreams$Bytes" "held" "[I", Cond.fieldLink RX0 15 "BitStreams$Bytes" "size" "I", Cond.methodLink RX7 25 yX4_init, Cond.instanceMethod yX4_init, Cond.code yX4_init cX4_init 1 none, Cond.classLink RX4 7 RX1, Cond.instantiable RX1 2, Cond.initialized RX1]
def wsL_law_r3 : List Cond := [Cond.fieldLink RX4 10 "BitStreams$ThreeRings" "a" "LBitStreams$Cells;", Cond.fieldLink RX4 16 "BitStreams$ThreeRings" "b" "LBitStreams$Cells;", Cond.fieldLink RX4 19 "BitStreams$ThreeRings" "c" "LBitStreams$Cells;", Cond.instanceMethod yX3_init, Cond.initialized RX3, Cond.code yX3_init cX3_init 1 none, Cond.methodLink RX3 1 objectInit, Cond.methodLink RX4 9 yX1_init, Cond.instanceMethod yX1_init, Cond.code yX1_init cX1_init 1 none, Cond.methodLink RX1 3 objectInit, Cond.fieldLink RX1 9 "BitStreams$Cells" "low" "J", Cond.fieldLink RX1 15 "BitStreams$Cells" "high" "J", Cond.methodLink RX7 28 yX6_init, Cond.instanceMethod yX6_init, Cond.code yX6_init cX6_init 1 none, Cond.classLink RX6 7 RX1, Cond.fieldLink RX6 10 "BitStreams$TwoRegisters" "b" "LBitStreams$Cells;", Cond.fieldLink RX6 16 "BitStreams$TwoRegisters" "s" "LBitStreams$Cells;", Cond.methodLink RX6 9 yX1_init, Cond.methodLink RX7 31 yX5_init, Cond.instanceMethod yX5_init, Cond.code yX5_init cX5_init 1 none, Cond.classLink RX5 7 RX1]
def wsL_law_r4 : List Cond := [Cond.fieldLink RX5 10 "BitStreams$ThreeThatStop" "x" "LBitStreams$Cells;", Cond.fieldLink RX5 16 "BitStreams$ThreeThatStop" "y" "LBitStreams$Cells;", Cond.fieldLink RX5 19 "BitStreams$ThreeThatStop" "z" "LBitStreams$Cells;", Cond.methodLink RX5 9 yX1_init, Cond.methodLink RX7 34 yX2_init, Cond.instanceMethod yX2_init, Cond.code yX2_init cX2_init 1 none, Cond.fieldLink RX2 11 "BitStreams$Exchanges" "row" "[I", Cond.fieldLink RX2 15 "BitStreams$Exchanges" "i" "I", Cond.fieldLink RX2 19 "BitStreams$Exchanges" "j" "I", Cond.fieldLink RX2 22 "BitStreams$Exchanges" "givenByte" "I", Cond.fieldLink RX2 25 "BitStreams$Exchanges" "bitsLeft" "I", Cond.methodLink RL 12 yX8_init, Cond.instanceMethod yX8_init, Cond.code yX8_init cX8_init 1 none, Cond.methodLink RX8 1 objectInit, Cond.fieldLink RX8 7 "BitStreamsModel" "key" "[I", Cond.fieldLink RX8 13 "BitStreamsModel" "start" "[I", Cond.fieldLink RX8 16 "BitStreamsModel" "machine" "I", Cond.fieldLink RX8 20 "BitStreamsModel" "cells" "[I", Cond.fieldLink RX8 23 "BitStreamsModel" "tops" "[I", Cond.fieldLink RX8 26 "BitStreamsModel" "row" "[I", Cond.methodLink RL 15 yX7_key, Cond.instanceMethod yX7_key]
def wsL_law_r5 : List Cond := [Cond.selects RX7 yX7_key yX7_key, Cond.code yX7_key cX7_key 4 (some .boolean), Cond.methodLink RX7 50 yX0_append, Cond.instanceMethod yX0_append, Cond.selects RX0 yX0_append yX0_append, Cond.code yX0_append cX0_append 5 (some .boolean), Cond.methodLink RL 19 yX8_key, Cond.instanceMethod yX8_key, Cond.selects RX8 yX8_key yX8_key, Cond.code yX8_key cX8_key 5 (some .boolean), Cond.fieldLink RX8 29 "BitStreamsModel" "keySize" "I", Cond.constantLong RX8 32 (255), Cond.methodLink RL 20 yX7_start, Cond.instanceMethod yX7_start, Cond.selects RX7 yX7_start yX7_start, Cond.code yX7_start cX7_start 4 (some .boolean), Cond.methodLink RL 23 yX8_start, Cond.instanceMethod yX8_start, Cond.selects RX8 yX8_start yX8_start, Cond.code yX8_start cX8_start 5 (some .boolean), Cond.fieldLink RX8 34 "BitStreamsModel" "startSize" "I", Cond.methodLink RL 24 yX7_begin, Cond.instanceMethod yX7_begin, Cond.selects RX7 yX7_begin yX7_begin]
def wsL_law_r6 : List Cond := [Cond.code yX7_begin cX7_begin 3 (some .boolean), Cond.methodLink RX7 54 yX0_size, Cond.instanceMethod yX0_size, Cond.selects RX0 yX0_size yX0_size, Cond.code yX0_size cX0_size 1 (some .int), Cond.methodLink RX7 58 ⟨"BitStreams$Machine", "takes", "(II)Z"⟩, Cond.sameMethod "BitStreams$Machine" "BitStreams$Machine" "takes" "(II)Z", Cond.selects RX2 ⟨"BitStreams$Machine", "takes", "(II)Z"⟩ yX2_takes, Cond.instanceMethod yX2_takes, Cond.code yX2_takes cX2_takes 3 (some .boolean), Cond.selects RX4 ⟨"BitStreams$Machine", "takes", "(II)Z"⟩ yX4_takes, Cond.instanceMethod yX4_takes, Cond.code yX4_takes cX4_takes 3 (some .boolean), Cond.selects RX5 ⟨"BitStreams$Machine", "takes", "(II)Z"⟩ yX5_takes, Cond.instanceMethod yX5_takes, Cond.code yX5_takes cX5_takes 3 (some .boolean), Cond.selects RX6 ⟨"BitStreams$Machine", "takes", "(II)Z"⟩ yX6_takes, Cond.instanceMethod yX6_takes, Cond.code yX6_takes cX6_takes 3 (some .boolean), Cond.methodLink RX7 62 ⟨"BitStreams$Machine", "load", "(LBitStreams$Bytes;LBitStreams$Bytes;)V"⟩, Cond.sameMethod "BitStreams$Machine" "BitStreams$Machine" "load" "(LBitStreams$Bytes;LBitStreams$Bytes;)V", Cond.selects RX2 ⟨"BitStreams$Machine", "load", "(LBitStreams$Bytes;LBitStreams$Bytes;)V"⟩ yX2_load, Cond.instanceMethod yX2_load, Cond.code yX2_load cX2_load 6 none]
def wsL_law_r7 : List Cond := [Cond.methodLink RX2 28 yX0_at, Cond.instanceMethod yX0_at, Cond.selects RX0 yX0_at yX0_at, Cond.code yX0_at cX0_at 2 (some .int), Cond.methodLink RX2 34 yX2_exchange, Cond.instanceMethod yX2_exchange, Cond.selects RX2 yX2_exchange yX2_exchange, Cond.code yX2_exchange cX2_exchange 4 none, Cond.methodLink RX2 38 yX0_size, Cond.selects RX4 ⟨"BitStreams$Machine", "load", "(LBitStreams$Bytes;LBitStreams$Bytes;)V"⟩ yX4_load, Cond.instanceMethod yX4_load, Cond.code yX4_load cX4_load 4 none, Cond.methodLink RX4 22 yX1_clear, Cond.instanceMethod yX1_clear, Cond.selects RX1 yX1_clear yX1_clear, Cond.code yX1_clear cX1_clear 1 none, Cond.methodLink RX4 25 yX0_bit, Cond.instanceMethod yX0_bit, Cond.selects RX0 yX0_bit yX0_bit, Cond.code yX0_bit cX0_bit 2 (some .int), Cond.methodLink RX0 19 yX0_at, Cond.methodLink RX4 31 yX1_add, Cond.instanceMethod yX1_add, Cond.selects RX1 yX1_add yX1_add]
def wsL_law_r8 : List Cond := [Cond.code yX1_add cX1_add 3 none, Cond.methodLink RX4 35 yX4_nextBit, Cond.instanceMethod yX4_nextBit, Cond.selects RX4 yX4_nextBit yX4_nextBit, Cond.code yX4_nextBit cX4_nextBit 5 (some .int), Cond.methodLink RX4 39 yX1_at, Cond.instanceMethod yX1_at, Cond.selects RX1 yX1_at yX1_at, Cond.code yX1_at cX1_at 2 (some .int), Cond.methodLink RX4 42 yX1_moveUp, Cond.instanceMethod yX1_moveUp, Cond.selects RX1 yX1_moveUp yX1_moveUp, Cond.code yX1_moveUp cX1_moveUp 2 none, Cond.selects RX5 ⟨"BitStreams$Machine", "load", "(LBitStreams$Bytes;LBitStreams$Bytes;)V"⟩ yX5_load, Cond.instanceMethod yX5_load, Cond.code yX5_load cX5_load 4 none, Cond.methodLink RX5 22 yX1_clear, Cond.methodLink RX5 25 yX0_bit, Cond.methodLink RX5 31 yX5_feed, Cond.instanceMethod yX5_feed, Cond.selects RX5 yX5_feed yX5_feed, Cond.code yX5_feed cX5_feed 2 none, Cond.methodLink RX5 42 yX5_goX, Cond.instanceMethod yX5_goX]
def wsL_law_r9 : List Cond := [Cond.selects RX5 yX5_goX yX5_goX, Cond.code yX5_goX cX5_goX 1 none, Cond.methodLink RX5 39 yX1_at, Cond.methodLink RX5 55 yX1_moveUp, Cond.methodLink RX5 45 yX5_goY, Cond.instanceMethod yX5_goY, Cond.selects RX5 yX5_goY yX5_goY, Cond.code yX5_goY cX5_goY 1 none, Cond.methodLink RX5 48 yX5_goZ, Cond.instanceMethod yX5_goZ, Cond.selects RX5 yX5_goZ yX5_goZ, Cond.code yX5_goZ cX5_goZ 1 none, Cond.methodLink RX5 51 yX1_add, Cond.methodLink RX5 35 yX5_nextBit, Cond.instanceMethod yX5_nextBit, Cond.selects RX5 yX5_nextBit yX5_nextBit, Cond.code yX5_nextBit cX5_nextBit 5 (some .int), Cond.selects RX6 ⟨"BitStreams$Machine", "load", "(LBitStreams$Bytes;LBitStreams$Bytes;)V"⟩ yX6_load, Cond.instanceMethod yX6_load, Cond.code yX6_load cX6_load 4 none, Cond.methodLink RX6 19 yX1_clear, Cond.methodLink RX6 22 yX0_bit, Cond.methodLink RX6 28 yX1_add, Cond.methodLink RX6 32 yX6_output]
def wsL_law_r10 : List Cond := [Cond.instanceMethod yX6_output, Cond.selects RX6 yX6_output yX6_output, Cond.code yX6_output cX6_output 1 (some .int), Cond.methodLink RX6 40 yX1_at, Cond.methodLink RX6 36 yX6_move, Cond.instanceMethod yX6_move, Cond.selects RX6 yX6_move yX6_move, Cond.code yX6_move cX6_move 4 none, Cond.methodLink RX6 43 yX6_newBitOfS, Cond.instanceMethod yX6_newBitOfS, Cond.selects RX6 yX6_newBitOfS yX6_newBitOfS, Cond.code yX6_newBitOfS cX6_newBitOfS 1 (some .int), Cond.methodLink RX6 46 yX6_newBitOfB, Cond.instanceMethod yX6_newBitOfB, Cond.selects RX6 yX6_newBitOfB yX6_newBitOfB, Cond.code yX6_newBitOfB cX6_newBitOfB 1 (some .int), Cond.methodLink RX6 49 yX1_moveDown, Cond.instanceMethod yX1_moveDown, Cond.selects RX1 yX1_moveDown yX1_moveDown, Cond.code yX1_moveDown cX1_moveDown 2 none, Cond.methodLink RX7 66 yX0_clear, Cond.instanceMethod yX0_clear, Cond.selects RX0 yX0_clear yX0_clear, Cond.code yX0_clear cX0_clear 1 none]
def wsL_law_r11 : List Cond := [Cond.methodLink RL 28 yX8_begin, Cond.instanceMethod yX8_begin, Cond.selects RX8 yX8_begin yX8_begin, Cond.code yX8_begin cX8_begin 2 (some .boolean), Cond.fieldLink RX8 79 "BitStreamsModel" "given" "I", Cond.methodLink RX8 75 yX8_fits, Cond.instanceMethod yX8_fits, Cond.selects RX8 yX8_fits yX8_fits, Cond.code yX8_fits cX8_fits 2 (some .boolean), Cond.methodLink RX8 82 yX8_clean, Cond.instanceMethod yX8_clean, Cond.selects RX8 yX8_clean yX8_clean, Cond.code yX8_clean cX8_clean 2 none, Cond.methodLink RX8 85 yX8_beginRings, Cond.instanceMethod yX8_beginRings, Cond.selects RX8 yX8_beginRings yX8_beginRings, Cond.code yX8_beginRings cX8_beginRings 2 none, Cond.methodLink RX8 97 yX8_keyBit, Cond.instanceMethod yX8_keyBit, Cond.selects RX8 yX8_keyBit yX8_keyBit, Cond.code yX8_keyBit cX8_keyBit 2 (some .int), Cond.methodLink RX8 37 yX8_put, Cond.instanceMethod yX8_put, Cond.selects RX8 yX8_put yX8_put]
def wsL_law_r12 : List Cond := [Cond.code yX8_put cX8_put 4 none, Cond.methodLink RX8 100 yX8_startBit, Cond.instanceMethod yX8_startBit, Cond.selects RX8 yX8_startBit yX8_startBit, Cond.code yX8_startBit cX8_startBit 2 (some .int), Cond.methodLink RX8 103 yX8_stepRings, Cond.instanceMethod yX8_stepRings, Cond.selects RX8 yX8_stepRings yX8_stepRings, Cond.code yX8_stepRings cX8_stepRings 5 (some .int), Cond.methodLink RX8 45 yX8_s, Cond.instanceMethod yX8_s, Cond.selects RX8 yX8_s yX8_s, Cond.code yX8_s cX8_s 2 (some .int), Cond.methodLink RX8 41 yX8_cell, Cond.instanceMethod yX8_cell, Cond.selects RX8 yX8_cell yX8_cell, Cond.code yX8_cell cX8_cell 3 (some .int), Cond.methodLink RX8 49 yX8_up, Cond.instanceMethod yX8_up, Cond.selects RX8 yX8_up yX8_up, Cond.code yX8_up cX8_up 3 none, Cond.methodLink RX8 88 yX8_beginTwo, Cond.instanceMethod yX8_beginTwo, Cond.selects RX8 yX8_beginTwo yX8_beginTwo]
def wsL_law_r13 : List Cond := [Cond.code yX8_beginTwo cX8_beginTwo 2 none, Cond.methodLink RX8 107 yX8_stepTwo, Cond.instanceMethod yX8_stepTwo, Cond.selects RX8 yX8_stepTwo yX8_stepTwo, Cond.code yX8_stepTwo cX8_stepTwo 5 (some .int), Cond.methodLink RX8 53 yX8_b, Cond.instanceMethod yX8_b, Cond.selects RX8 yX8_b yX8_b, Cond.code yX8_b cX8_b 2 (some .int), Cond.methodLink RX8 56 yX8_t, Cond.instanceMethod yX8_t, Cond.selects RX8 yX8_t yX8_t, Cond.code yX8_t cX8_t 2 (some .int), Cond.methodLink RX8 59 yX8_down, Cond.instanceMethod yX8_down, Cond.selects RX8 yX8_down yX8_down, Cond.code yX8_down cX8_down 3 none, Cond.methodLink RX8 91 yX8_beginStops, Cond.instanceMethod yX8_beginStops, Cond.selects RX8 yX8_beginStops yX8_beginStops, Cond.code yX8_beginStops cX8_beginStops 2 none, Cond.methodLink RX8 111 yX8_feed, Cond.instanceMethod yX8_feed, Cond.selects RX8 yX8_feed yX8_feed]
def wsL_law_r14 : List Cond := [Cond.code yX8_feed cX8_feed 3 none, Cond.methodLink RX8 62 yX8_goes, Cond.instanceMethod yX8_goes, Cond.selects RX8 yX8_goes yX8_goes, Cond.code yX8_goes cX8_goes 3 none, Cond.methodLink RX8 114 yX8_stepStops, Cond.instanceMethod yX8_stepStops, Cond.selects RX8 yX8_stepStops yX8_stepStops, Cond.code yX8_stepStops cX8_stepStops 5 (some .int), Cond.methodLink RX8 94 yX8_beginRow, Cond.instanceMethod yX8_beginRow, Cond.selects RX8 yX8_beginRow yX8_beginRow, Cond.code yX8_beginRow cX8_beginRow 2 none, Cond.fieldLink RX8 69 "BitStreamsModel" "j" "I", Cond.fieldLink RX8 66 "BitStreamsModel" "i" "I", Cond.fieldLink RX8 117 "BitStreamsModel" "left" "I", Cond.methodLink RX8 72 yX8_exchange, Cond.instanceMethod yX8_exchange, Cond.selects RX8 yX8_exchange yX8_exchange, Cond.code yX8_exchange cX8_exchange 4 none, Cond.methodLink RL 29 yX7_bits, Cond.instanceMethod yX7_bits, Cond.selects RX7 yX7_bits yX7_bits, Cond.code yX7_bits cX7_bits 2 (some .long)]
def wsL_law_r15 : List Cond := [Cond.methodLink RX7 69 yX7_mix, Cond.instanceMethod yX7_mix, Cond.selects RX7 yX7_mix yX7_mix, Cond.code yX7_mix cX7_mix 8 (some .long), Cond.constantLong RX7 76 (-1), Cond.methodLink RX7 73 ⟨"BitStreams$Machine", "nextBit", "()I"⟩, Cond.sameMethod "BitStreams$Machine" "BitStreams$Machine" "nextBit" "()I", Cond.selects RX2 ⟨"BitStreams$Machine", "nextBit", "()I"⟩ yX2_nextBit, Cond.instanceMethod yX2_nextBit, Cond.code yX2_nextBit cX2_nextBit 1 (some .int), Cond.methodLink RX2 42 yX2_nextByte, Cond.instanceMethod yX2_nextByte, Cond.selects RX2 yX2_nextByte yX2_nextByte, Cond.code yX2_nextByte cX2_nextByte 1 (some .int), Cond.selects RX4 ⟨"BitStreams$Machine", "nextBit", "()I"⟩ yX4_nextBit, Cond.selects RX5 ⟨"BitStreams$Machine", "nextBit", "()I"⟩ yX5_nextBit, Cond.selects RX6 ⟨"BitStreams$Machine", "nextBit", "()I"⟩ yX6_nextBit, Cond.instanceMethod yX6_nextBit, Cond.code yX6_nextBit cX6_nextBit 2 (some .int), Cond.methodLink RL 33 yX8_bits, Cond.instanceMethod yX8_bits, Cond.selects RX8 yX8_bits yX8_bits, Cond.code yX8_bits cX8_bits 2 (some .long), Cond.methodLink RX8 126 yX8_mix]
def wsL_law_r16 : List Cond := [Cond.instanceMethod yX8_mix, Cond.selects RX8 yX8_mix yX8_mix, Cond.code yX8_mix cX8_mix 7 (some .long), Cond.methodLink RX8 130 yX8_next, Cond.instanceMethod yX8_next, Cond.selects RX8 yX8_next yX8_next, Cond.code yX8_next cX8_next 1 (some .int), Cond.fieldLink RX8 123 "BitStreamsModel" "byteNow" "I", Cond.methodLink RX8 120 yX8_stepByte, Cond.instanceMethod yX8_stepByte, Cond.selects RX8 yX8_stepByte yX8_stepByte, Cond.code yX8_stepByte cX8_stepByte 1 (some .int), Cond.methodLink RL 34 yX7_skip, Cond.instanceMethod yX7_skip, Cond.selects RX7 yX7_skip yX7_skip, Cond.code yX7_skip cX7_skip 3 (some .boolean), Cond.methodLink RL 37 yX8_skip, Cond.instanceMethod yX8_skip, Cond.selects RX8 yX8_skip yX8_skip, Cond.code yX8_skip cX8_skip 3 (some .boolean), Cond.methodLink RL 38 yX7_mix, Cond.methodLink RL 42 yX8_mix, Cond.methodLink RL 43 yX7_count, Cond.instanceMethod yX7_count]
def wsL_law_r17 : List Cond := [Cond.selects RX7 yX7_count yX7_count, Cond.code yX7_count cX7_count 2 (some .int), Cond.methodLink RL 47 yX8_count, Cond.instanceMethod yX8_count, Cond.selects RX8 yX8_count yX8_count, Cond.code yX8_count cX8_count 2 (some .int)]
def wsL_law : List Cond := (wsL_law_r1 ++ (wsL_law_r2 ++ (wsL_law_r3 ++ (wsL_law_r4 ++ (wsL_law_r5 ++ (wsL_law_r6 ++ (wsL_law_r7 ++ (wsL_law_r8 ++ (wsL_law_r9 ++ (wsL_law_r10 ++ (wsL_law_r11 ++ (wsL_law_r12 ++ (wsL_law_r13 ++ (wsL_law_r14 ++ (wsL_law_r15 ++ (wsL_law_r16 ++ wsL_law_r17)))))))))))))))) ++ wsX70 ++ wsX80 ++ wsX00 ++ wsX40 ++ wsX60 ++ wsX50 ++ wsX20 ++ wsX10 ++ ([] : List Cond)
abbrev vwCl : List vw_C := [(RX0, TX0, 2), (RX1, TX1, 2), (RX2, TX2, 5), (RX4, TX4, 3), (RX5, TX5, 3), (RX6, TX6, 2), (RX7, TX7, 6), (RX8, TX8, 13)]
end
section
theorem dX0_init_0 : decode cX0_init 0 = .ok (.aload_n 0, 1) := by decide +kernel
theorem dX0_init_1 : decode cX0_init 1 = .ok (.invokespecial 3, 3) := by decide +kernel
theorem dX0_init_4 : decode cX0_init 4 = .ok (.aload_n 0, 1) := by decide +kernel
theorem dX0_init_5 : decode cX0_init 5 = .ok (.iload_n 1, 1) := by decide +kernel
theorem dX0_init_6 : decode cX0_init 6 = .ok (.newarray .int, 2) := by decide +kernel
theorem dX0_init_8 : decode cX0_init 8 = .ok (.putfield 9, 3) := by decide +kernel
theorem dX0_init_11 : decode cX0_init 11 = .ok (.aload_n 0, 1) := by decide +kernel
theorem dX0_init_12 : decode cX0_init 12 = .ok (.iconst 0, 1) := by decide +kernel
theorem dX0_init_13 : decode cX0_init 13 = .ok (.putfield 15, 3) := by decide +kernel
theorem dX0_init_16 : decode cX0_init 16 = .ok (.return_, 1) := by decide +kernel
theorem dX0_append_0 : decode cX0_append 0 = .ok (.iload_n 3, 1) := by decide +kernel
theorem dX0_append_1 : decode cX0_append 1 = .ok (.iconst 1, 1) := by decide +kernel
theorem dX0_append_2 : decode cX0_append 2 = .ok (.if_icmp .lt 23, 3) := by decide +kernel
theorem dX0_append_5 : decode cX0_append 5 = .ok (.iload_n 3, 1) := by decide +kernel
theorem dX0_append_6 : decode cX0_append 6 = .ok (.bipush 8, 2) := by decide +kernel
theorem dX0_append_8 : decode cX0_append 8 = .ok (.if_icmp .gt 17, 3) := by decide +kernel
theorem dX0_append_11 : decode cX0_append 11 = .ok (.aload_n 0, 1) := by decide +kernel
theorem dX0_append_12 : decode cX0_append 12 = .ok (.getfield 15, 3) := by decide +kernel
theorem dX0_append_15 : decode cX0_append 15 = .ok (.iload_n 3, 1) := by decide +kernel
theorem dX0_append_16 : decode cX0_append 16 = .ok (.iadd, 1) := by decide +kernel
theorem dX0_append_17 : decode cX0_append 17 = .ok (.aload_n 0, 1) := by decide +kernel
theorem dX0_append_18 : decode cX0_append 18 = .ok (.getfield 9, 3) := by decide +kernel
theorem dX0_append_21 : decode cX0_append 21 = .ok (.arraylength, 1) := by decide +kernel
theorem dX0_append_22 : decode cX0_append 22 = .ok (.if_icmp .le 5, 3) := by decide +kernel
theorem dX0_append_25 : decode cX0_append 25 = .ok (.iconst 0, 1) := by decide +kernel
theorem dX0_append_26 : decode cX0_append 26 = .ok (.ireturn, 1) := by decide +kernel
theorem dX0_append_27 : decode cX0_append 27 = .ok (.iload_n 3, 1) := by decide +kernel
theorem dX0_append_28 : decode cX0_append 28 = .ok (.iconst 1, 1) := by decide +kernel
theorem dX0_append_29 : decode cX0_append 29 = .ok (.isub, 1) := by decide +kernel
theorem dX0_append_30 : decode cX0_append 30 = .ok (.istore 4, 2) := by decide +kernel
theorem dX0_append_32 : decode cX0_append 32 = .ok (.iload 4, 2) := by decide +kernel
theorem dX0_append_34 : decode cX0_append 34 = .ok (.ifCond .lt 40, 3) := by decide +kernel
theorem dX0_append_37 : decode cX0_append 37 = .ok (.aload_n 0, 1) := by decide +kernel
theorem dX0_append_38 : decode cX0_append 38 = .ok (.getfield 9, 3) := by decide +kernel
theorem dX0_append_41 : decode cX0_append 41 = .ok (.aload_n 0, 1) := by decide +kernel
theorem dX0_append_42 : decode cX0_append 42 = .ok (.getfield 15, 3) := by decide +kernel
theorem dX0_append_45 : decode cX0_append 45 = .ok (.lload_n 1, 1) := by decide +kernel
theorem dX0_append_46 : decode cX0_append 46 = .ok (.bipush 8, 2) := by decide +kernel
theorem dX0_append_48 : decode cX0_append 48 = .ok (.iload 4, 2) := by decide +kernel
theorem dX0_append_50 : decode cX0_append 50 = .ok (.imul, 1) := by decide +kernel
theorem dX0_append_51 : decode cX0_append 51 = .ok (.lushr, 1) := by decide +kernel
theorem dX0_append_52 : decode cX0_append 52 = .ok (.l2i, 1) := by decide +kernel
theorem dX0_append_53 : decode cX0_append 53 = .ok (.sipush 255, 3) := by decide +kernel
theorem dX0_append_56 : decode cX0_append 56 = .ok (.iand, 1) := by decide +kernel
theorem dX0_append_57 : decode cX0_append 57 = .ok (.iastore, 1) := by decide +kernel
theorem dX0_append_58 : decode cX0_append 58 = .ok (.aload_n 0, 1) := by decide +kernel
theorem dX0_append_59 : decode cX0_append 59 = .ok (.dup, 1) := by decide +kernel
theorem dX0_append_60 : decode cX0_append 60 = .ok (.getfield 15, 3) := by decide +kernel
theorem dX0_append_63 : decode cX0_append 63 = .ok (.iconst 1, 1) := by decide +kernel
theorem dX0_append_64 : decode cX0_append 64 = .ok (.iadd, 1) := by decide +kernel
theorem dX0_append_65 : decode cX0_append 65 = .ok (.putfield 15, 3) := by decide +kernel
theorem dX0_append_68 : decode cX0_append 68 = .ok (.iinc 4 (-1), 3) := by decide +kernel
theorem dX0_append_71 : decode cX0_append 71 = .ok (.goto (-39), 3) := by decide +kernel
theorem dX0_append_74 : decode cX0_append 74 = .ok (.iconst 1, 1) := by decide +kernel
theorem dX0_append_75 : decode cX0_append 75 = .ok (.ireturn, 1) := by decide +kernel
theorem dX0_clear_0 : decode cX0_clear 0 = .ok (.aload_n 0, 1) := by decide +kernel
theorem dX0_clear_1 : decode cX0_clear 1 = .ok (.iconst 0, 1) := by decide +kernel
theorem dX0_clear_2 : decode cX0_clear 2 = .ok (.putfield 15, 3) := by decide +kernel
theorem dX0_clear_5 : decode cX0_clear 5 = .ok (.return_, 1) := by decide +kernel
theorem dX0_size_0 : decode cX0_size 0 = .ok (.aload_n 0, 1) := by decide +kernel
theorem dX0_size_1 : decode cX0_size 1 = .ok (.getfield 15, 3) := by decide +kernel
theorem dX0_size_4 : decode cX0_size 4 = .ok (.ireturn, 1) := by decide +kernel
theorem dX0_at_0 : decode cX0_at 0 = .ok (.iload_n 1, 1) := by decide +kernel
theorem dX0_at_1 : decode cX0_at 1 = .ok (.ifCond .lt 20, 3) := by decide +kernel
theorem dX0_at_4 : decode cX0_at 4 = .ok (.iload_n 1, 1) := by decide +kernel
theorem dX0_at_5 : decode cX0_at 5 = .ok (.aload_n 0, 1) := by decide +kernel
theorem dX0_at_6 : decode cX0_at 6 = .ok (.getfield 15, 3) := by decide +kernel
theorem dX0_at_9 : decode cX0_at 9 = .ok (.if_icmp .ge 12, 3) := by decide +kernel
theorem dX0_at_12 : decode cX0_at 12 = .ok (.aload_n 0, 1) := by decide +kernel
theorem dX0_at_13 : decode cX0_at 13 = .ok (.getfield 9, 3) := by decide +kernel
theorem dX0_at_16 : decode cX0_at 16 = .ok (.iload_n 1, 1) := by decide +kernel
theorem dX0_at_17 : decode cX0_at 17 = .ok (.iaload, 1) := by decide +kernel
theorem dX0_at_18 : decode cX0_at 18 = .ok (.goto 4, 3) := by decide +kernel
theorem dX0_at_21 : decode cX0_at 21 = .ok (.iconst 0, 1) := by decide +kernel
theorem dX0_at_22 : decode cX0_at 22 = .ok (.ireturn, 1) := by decide +kernel
theorem dX0_bit_0 : decode cX0_bit 0 = .ok (.aload_n 0, 1) := by decide +kernel
theorem dX0_bit_1 : decode cX0_bit 1 = .ok (.iload_n 1, 1) := by decide +kernel
theorem dX0_bit_2 : decode cX0_bit 2 = .ok (.iconst 3, 1) := by decide +kernel
theorem dX0_bit_3 : decode cX0_bit 3 = .ok (.ishr, 1) := by decide +kernel
theorem dX0_bit_4 : decode cX0_bit 4 = .ok (.invokevirtual 19, 3) := by decide +kernel
theorem dX0_bit_7 : decode cX0_bit 7 = .ok (.bipush 7, 2) := by decide +kernel
theorem dX0_bit_9 : decode cX0_bit 9 = .ok (.iload_n 1, 1) := by decide +kernel
theorem dX0_bit_10 : decode cX0_bit 10 = .ok (.bipush 7, 2) := by decide +kernel
theorem dX0_bit_12 : decode cX0_bit 12 = .ok (.iand, 1) := by decide +kernel
theorem dX0_bit_13 : decode cX0_bit 13 = .ok (.isub, 1) := by decide +kernel
theorem dX0_bit_14 : decode cX0_bit 14 = .ok (.ishr, 1) := by decide +kernel
theorem dX0_bit_15 : decode cX0_bit 15 = .ok (.iconst 1, 1) := by decide +kernel
theorem dX0_bit_16 : decode cX0_bit 16 = .ok (.iand, 1) := by decide +kernel
theorem dX0_bit_17 : decode cX0_bit 17 = .ok (.ireturn, 1) := by decide +kernel
theorem dX1_init_0 : decode cX1_init 0 = .ok (.aload_n 0, 1) := by decide +kernel
theorem dX1_init_1 : decode cX1_init 1 = .ok (.invokespecial 3, 3) := by decide +kernel
theorem dX1_init_4 : decode cX1_init 4 = .ok (.aload_n 0, 1) := by decide +kernel
theorem dX1_init_5 : decode cX1_init 5 = .ok (.lconst 0, 1) := by decide +kernel
theorem dX1_init_6 : decode cX1_init 6 = .ok (.putfield 9, 3) := by decide +kernel
theorem dX1_init_9 : decode cX1_init 9 = .ok (.aload_n 0, 1) := by decide +kernel
theorem dX1_init_10 : decode cX1_init 10 = .ok (.lconst 0, 1) := by decide +kernel
theorem dX1_init_11 : decode cX1_init 11 = .ok (.putfield 15, 3) := by decide +kernel
theorem dX1_init_14 : decode cX1_init 14 = .ok (.return_, 1) := by decide +kernel
theorem dX1_clear_0 : decode cX1_clear 0 = .ok (.aload_n 0, 1) := by decide +kernel
theorem dX1_clear_1 : decode cX1_clear 1 = .ok (.lconst 0, 1) := by decide +kernel
theorem dX1_clear_2 : decode cX1_clear 2 = .ok (.putfield 9, 3) := by decide +kernel
theorem dX1_clear_5 : decode cX1_clear 5 = .ok (.aload_n 0, 1) := by decide +kernel
theorem dX1_clear_6 : decode cX1_clear 6 = .ok (.lconst 0, 1) := by decide +kernel
theorem dX1_clear_7 : decode cX1_clear 7 = .ok (.putfield 15, 3) := by decide +kernel
theorem dX1_clear_10 : decode cX1_clear 10 = .ok (.return_, 1) := by decide +kernel
theorem dX1_at_0 : decode cX1_at 0 = .ok (.iload_n 1, 1) := by decide +kernel
theorem dX1_at_1 : decode cX1_at 1 = .ok (.bipush 64, 2) := by decide +kernel
theorem dX1_at_3 : decode cX1_at 3 = .ok (.if_icmp .ge 10, 3) := by decide +kernel
theorem dX1_at_6 : decode cX1_at 6 = .ok (.aload_n 0, 1) := by decide +kernel
theorem dX1_at_7 : decode cX1_at 7 = .ok (.getfield 9, 3) := by decide +kernel
theorem dX1_at_10 : decode cX1_at 10 = .ok (.goto 7, 3) := by decide +kernel
theorem dX1_at_13 : decode cX1_at 13 = .ok (.aload_n 0, 1) := by decide +kernel
theorem dX1_at_14 : decode cX1_at 14 = .ok (.getfield 15, 3) := by decide +kernel
theorem dX1_at_17 : decode cX1_at 17 = .ok (.iload_n 1, 1) := by decide +kernel
theorem dX1_at_18 : decode cX1_at 18 = .ok (.lushr, 1) := by decide +kernel
theorem dX1_at_19 : decode cX1_at 19 = .ok (.l2i, 1) := by decide +kernel
theorem dX1_at_20 : decode cX1_at 20 = .ok (.iconst 1, 1) := by decide +kernel
theorem dX1_at_21 : decode cX1_at 21 = .ok (.iand, 1) := by decide +kernel
theorem dX1_at_22 : decode cX1_at 22 = .ok (.ireturn, 1) := by decide +kernel
theorem dX1_add_0 : decode cX1_add 0 = .ok (.iload_n 1, 1) := by decide +kernel
theorem dX1_add_1 : decode cX1_add 1 = .ok (.bipush 64, 2) := by decide +kernel
theorem dX1_add_3 : decode cX1_add 3 = .ok (.if_icmp .ge 19, 3) := by decide +kernel
theorem dX1_add_6 : decode cX1_add 6 = .ok (.aload_n 0, 1) := by decide +kernel
theorem dX1_add_7 : decode cX1_add 7 = .ok (.dup, 1) := by decide +kernel
theorem dX1_add_8 : decode cX1_add 8 = .ok (.getfield 9, 3) := by decide +kernel
theorem dX1_add_11 : decode cX1_add 11 = .ok (.iload_n 2, 1) := by decide +kernel
theorem dX1_add_12 : decode cX1_add 12 = .ok (.i2l, 1) := by decide +kernel
theorem dX1_add_13 : decode cX1_add 13 = .ok (.iload_n 1, 1) := by decide +kernel
theorem dX1_add_14 : decode cX1_add 14 = .ok (.lshl, 1) := by decide +kernel
theorem dX1_add_15 : decode cX1_add 15 = .ok (.lxor, 1) := by decide +kernel
theorem dX1_add_16 : decode cX1_add 16 = .ok (.putfield 9, 3) := by decide +kernel
theorem dX1_add_19 : decode cX1_add 19 = .ok (.goto 16, 3) := by decide +kernel
theorem dX1_add_22 : decode cX1_add 22 = .ok (.aload_n 0, 1) := by decide +kernel
theorem dX1_add_23 : decode cX1_add 23 = .ok (.dup, 1) := by decide +kernel
theorem dX1_add_24 : decode cX1_add 24 = .ok (.getfield 15, 3) := by decide +kernel
theorem dX1_add_27 : decode cX1_add 27 = .ok (.iload_n 2, 1) := by decide +kernel
theorem dX1_add_28 : decode cX1_add 28 = .ok (.i2l, 1) := by decide +kernel
theorem dX1_add_29 : decode cX1_add 29 = .ok (.iload_n 1, 1) := by decide +kernel
theorem dX1_add_30 : decode cX1_add 30 = .ok (.lshl, 1) := by decide +kernel
theorem dX1_add_31 : decode cX1_add 31 = .ok (.lxor, 1) := by decide +kernel
theorem dX1_add_32 : decode cX1_add 32 = .ok (.putfield 15, 3) := by decide +kernel
theorem dX1_add_35 : decode cX1_add 35 = .ok (.return_, 1) := by decide +kernel
theorem dX1_moveUp_0 : decode cX1_moveUp 0 = .ok (.aload_n 0, 1) := by decide +kernel
theorem dX1_moveUp_1 : decode cX1_moveUp 1 = .ok (.aload_n 0, 1) := by decide +kernel
theorem dX1_moveUp_2 : decode cX1_moveUp 2 = .ok (.getfield 15, 3) := by decide +kernel
theorem dX1_moveUp_5 : decode cX1_moveUp 5 = .ok (.iconst 1, 1) := by decide +kernel
theorem dX1_moveUp_6 : decode cX1_moveUp 6 = .ok (.lshl, 1) := by decide +kernel
theorem dX1_moveUp_7 : decode cX1_moveUp 7 = .ok (.aload_n 0, 1) := by decide +kernel
theorem dX1_moveUp_8 : decode cX1_moveUp 8 = .ok (.getfield 9, 3) := by decide +kernel
theorem dX1_moveUp_11 : decode cX1_moveUp 11 = .ok (.bipush 63, 2) := by decide +kernel
theorem dX1_moveUp_13 : decode cX1_moveUp 13 = .ok (.lushr, 1) := by decide +kernel
theorem dX1_moveUp_14 : decode cX1_moveUp 14 = .ok (.lor, 1) := by decide +kernel
theorem dX1_moveUp_15 : decode cX1_moveUp 15 = .ok (.putfield 15, 3) := by decide +kernel
theorem dX1_moveUp_18 : decode cX1_moveUp 18 = .ok (.aload_n 0, 1) := by decide +kernel
theorem dX1_moveUp_19 : decode cX1_moveUp 19 = .ok (.aload_n 0, 1) := by decide +kernel
theorem dX1_moveUp_20 : decode cX1_moveUp 20 = .ok (.getfield 9, 3) := by decide +kernel
theorem dX1_moveUp_23 : decode cX1_moveUp 23 = .ok (.iconst 1, 1) := by decide +kernel
theorem dX1_moveUp_24 : decode cX1_moveUp 24 = .ok (.lshl, 1) := by decide +kernel
theorem dX1_moveUp_25 : decode cX1_moveUp 25 = .ok (.iload_n 1, 1) := by decide +kernel
theorem dX1_moveUp_26 : decode cX1_moveUp 26 = .ok (.i2l, 1) := by decide +kernel
theorem dX1_moveUp_27 : decode cX1_moveUp 27 = .ok (.lor, 1) := by decide +kernel
theorem dX1_moveUp_28 : decode cX1_moveUp 28 = .ok (.putfield 9, 3) := by decide +kernel
theorem dX1_moveUp_31 : decode cX1_moveUp 31 = .ok (.return_, 1) := by decide +kernel
theorem dX1_moveDown_0 : decode cX1_moveDown 0 = .ok (.aload_n 0, 1) := by decide +kernel
theorem dX1_moveDown_1 : decode cX1_moveDown 1 = .ok (.aload_n 0, 1) := by decide +kernel
theorem dX1_moveDown_2 : decode cX1_moveDown 2 = .ok (.getfield 9, 3) := by decide +kernel
theorem dX1_moveDown_5 : decode cX1_moveDown 5 = .ok (.iconst 1, 1) := by decide +kernel
theorem dX1_moveDown_6 : decode cX1_moveDown 6 = .ok (.lushr, 1) := by decide +kernel
theorem dX1_moveDown_7 : decode cX1_moveDown 7 = .ok (.aload_n 0, 1) := by decide +kernel
theorem dX1_moveDown_8 : decode cX1_moveDown 8 = .ok (.getfield 15, 3) := by decide +kernel
theorem dX1_moveDown_11 : decode cX1_moveDown 11 = .ok (.bipush 63, 2) := by decide +kernel
theorem dX1_moveDown_13 : decode cX1_moveDown 13 = .ok (.lshl, 1) := by decide +kernel
theorem dX1_moveDown_14 : decode cX1_moveDown 14 = .ok (.lor, 1) := by decide +kernel
theorem dX1_moveDown_15 : decode cX1_moveDown 15 = .ok (.putfield 9, 3) := by decide +kernel
theorem dX1_moveDown_18 : decode cX1_moveDown 18 = .ok (.aload_n 0, 1) := by decide +kernel
theorem dX1_moveDown_19 : decode cX1_moveDown 19 = .ok (.aload_n 0, 1) := by decide +kernel
theorem dX1_moveDown_20 : decode cX1_moveDown 20 = .ok (.getfield 15, 3) := by decide +kernel
theorem dX1_moveDown_23 : decode cX1_moveDown 23 = .ok (.iconst 1, 1) := by decide +kernel
theorem dX1_moveDown_24 : decode cX1_moveDown 24 = .ok (.lushr, 1) := by decide +kernel
theorem dX1_moveDown_25 : decode cX1_moveDown 25 = .ok (.iload_n 1, 1) := by decide +kernel
theorem dX1_moveDown_26 : decode cX1_moveDown 26 = .ok (.i2l, 1) := by decide +kernel
theorem dX1_moveDown_27 : decode cX1_moveDown 27 = .ok (.bipush 63, 2) := by decide +kernel
theorem dX1_moveDown_29 : decode cX1_moveDown 29 = .ok (.lshl, 1) := by decide +kernel
theorem dX1_moveDown_30 : decode cX1_moveDown 30 = .ok (.lor, 1) := by decide +kernel
theorem dX1_moveDown_31 : decode cX1_moveDown 31 = .ok (.putfield 15, 3) := by decide +kernel
theorem dX1_moveDown_34 : decode cX1_moveDown 34 = .ok (.return_, 1) := by decide +kernel
theorem dX2_init_0 : decode cX2_init 0 = .ok (.aload_n 0, 1) := by decide +kernel
theorem dX2_init_1 : decode cX2_init 1 = .ok (.invokespecial 5, 3) := by decide +kernel
theorem dX2_init_4 : decode cX2_init 4 = .ok (.aload_n 0, 1) := by decide +kernel
theorem dX2_init_5 : decode cX2_init 5 = .ok (.sipush 256, 3) := by decide +kernel
theorem dX2_init_8 : decode cX2_init 8 = .ok (.newarray .int, 2) := by decide +kernel
theorem dX2_init_10 : decode cX2_init 10 = .ok (.putfield 11, 3) := by decide +kernel
theorem dX2_init_13 : decode cX2_init 13 = .ok (.aload_n 0, 1) := by decide +kernel
theorem dX2_init_14 : decode cX2_init 14 = .ok (.iconst 0, 1) := by decide +kernel
theorem dX2_init_15 : decode cX2_init 15 = .ok (.putfield 15, 3) := by decide +kernel
theorem dX2_init_18 : decode cX2_init 18 = .ok (.aload_n 0, 1) := by decide +kernel
theorem dX2_init_19 : decode cX2_init 19 = .ok (.iconst 0, 1) := by decide +kernel
theorem dX2_init_20 : decode cX2_init 20 = .ok (.putfield 19, 3) := by decide +kernel
theorem dX2_init_23 : decode cX2_init 23 = .ok (.aload_n 0, 1) := by decide +kernel
theorem dX2_init_24 : decode cX2_init 24 = .ok (.iconst 0, 1) := by decide +kernel
theorem dX2_init_25 : decode cX2_init 25 = .ok (.putfield 22, 3) := by decide +kernel
theorem dX2_init_28 : decode cX2_init 28 = .ok (.aload_n 0, 1) := by decide +kernel
theorem dX2_init_29 : decode cX2_init 29 = .ok (.iconst 0, 1) := by decide +kernel
theorem dX2_init_30 : decode cX2_init 30 = .ok (.putfield 25, 3) := by decide +kernel
theorem dX2_init_33 : decode cX2_init 33 = .ok (.return_, 1) := by decide +kernel
theorem dX2_takes_0 : decode cX2_takes 0 = .ok (.iload_n 1, 1) := by decide +kernel
theorem dX2_takes_1 : decode cX2_takes 1 = .ok (.iconst 5, 1) := by decide +kernel
theorem dX2_takes_2 : decode cX2_takes 2 = .ok (.if_icmp .lt 17, 3) := by decide +kernel
theorem dX2_takes_5 : decode cX2_takes 5 = .ok (.iload_n 1, 1) := by decide +kernel
theorem dX2_takes_6 : decode cX2_takes 6 = .ok (.bipush 32, 2) := by decide +kernel
theorem dX2_takes_8 : decode cX2_takes 8 = .ok (.if_icmp .gt 11, 3) := by decide +kernel
theorem dX2_takes_11 : decode cX2_takes 11 = .ok (.iload_n 2, 1) := by decide +kernel
theorem dX2_takes_12 : decode cX2_takes 12 = .ok (.ifCond .ne 7, 3) := by decide +kernel
theorem dX2_takes_15 : decode cX2_takes 15 = .ok (.iconst 1, 1) := by decide +kernel
theorem dX2_takes_16 : decode cX2_takes 16 = .ok (.goto 4, 3) := by decide +kernel
theorem dX2_takes_19 : decode cX2_takes 19 = .ok (.iconst 0, 1) := by decide +kernel
theorem dX2_takes_20 : decode cX2_takes 20 = .ok (.ireturn, 1) := by decide +kernel
theorem dX2_load_0 : decode cX2_load 0 = .ok (.iconst 0, 1) := by decide +kernel
theorem dX2_load_1 : decode cX2_load 1 = .ok (.istore_n 3, 1) := by decide +kernel
theorem dX2_load_2 : decode cX2_load 2 = .ok (.iload_n 3, 1) := by decide +kernel
theorem dX2_load_3 : decode cX2_load 3 = .ok (.sipush 256, 3) := by decide +kernel
theorem dX2_load_6 : decode cX2_load 6 = .ok (.if_icmp .ge 16, 3) := by decide +kernel
theorem dX2_load_9 : decode cX2_load 9 = .ok (.aload_n 0, 1) := by decide +kernel
theorem dX2_load_10 : decode cX2_load 10 = .ok (.getfield 11, 3) := by decide +kernel
theorem dX2_load_13 : decode cX2_load 13 = .ok (.iload_n 3, 1) := by decide +kernel
theorem dX2_load_14 : decode cX2_load 14 = .ok (.iload_n 3, 1) := by decide +kernel
theorem dX2_load_15 : decode cX2_load 15 = .ok (.iastore, 1) := by decide +kernel
theorem dX2_load_16 : decode cX2_load 16 = .ok (.iinc 3 1, 3) := by decide +kernel
theorem dX2_load_19 : decode cX2_load 19 = .ok (.goto (-17), 3) := by decide +kernel
theorem dX2_load_22 : decode cX2_load 22 = .ok (.iconst 0, 1) := by decide +kernel
theorem dX2_load_23 : decode cX2_load 23 = .ok (.istore_n 3, 1) := by decide +kernel
theorem dX2_load_24 : decode cX2_load 24 = .ok (.iconst 0, 1) := by decide +kernel
theorem dX2_load_25 : decode cX2_load 25 = .ok (.istore 4, 2) := by decide +kernel
theorem dX2_load_27 : decode cX2_load 27 = .ok (.iconst 0, 1) := by decide +kernel
theorem dX2_load_28 : decode cX2_load 28 = .ok (.istore 5, 2) := by decide +kernel
theorem dX2_load_30 : decode cX2_load 30 = .ok (.iload 5, 2) := by decide +kernel
theorem dX2_load_32 : decode cX2_load 32 = .ok (.sipush 256, 3) := by decide +kernel
theorem dX2_load_35 : decode cX2_load 35 = .ok (.if_icmp .ge 58, 3) := by decide +kernel
theorem dX2_load_38 : decode cX2_load 38 = .ok (.iload_n 3, 1) := by decide +kernel
theorem dX2_load_39 : decode cX2_load 39 = .ok (.aload_n 0, 1) := by decide +kernel
theorem dX2_load_40 : decode cX2_load 40 = .ok (.getfield 11, 3) := by decide +kernel
theorem dX2_load_43 : decode cX2_load 43 = .ok (.iload 5, 2) := by decide +kernel
theorem dX2_load_45 : decode cX2_load 45 = .ok (.iaload, 1) := by decide +kernel
theorem dX2_load_46 : decode cX2_load 46 = .ok (.iadd, 1) := by decide +kernel
theorem dX2_load_47 : decode cX2_load 47 = .ok (.aload_n 1, 1) := by decide +kernel
theorem dX2_load_48 : decode cX2_load 48 = .ok (.iload 4, 2) := by decide +kernel
theorem dX2_load_50 : decode cX2_load 50 = .ok (.invokevirtual 28, 3) := by decide +kernel
theorem dX2_load_53 : decode cX2_load 53 = .ok (.iadd, 1) := by decide +kernel
theorem dX2_load_54 : decode cX2_load 54 = .ok (.sipush 255, 3) := by decide +kernel
theorem dX2_load_57 : decode cX2_load 57 = .ok (.iand, 1) := by decide +kernel
theorem dX2_load_58 : decode cX2_load 58 = .ok (.istore_n 3, 1) := by decide +kernel
theorem dX2_load_59 : decode cX2_load 59 = .ok (.aload_n 0, 1) := by decide +kernel
theorem dX2_load_60 : decode cX2_load 60 = .ok (.iload 5, 2) := by decide +kernel
theorem dX2_load_62 : decode cX2_load 62 = .ok (.iload_n 3, 1) := by decide +kernel
theorem dX2_load_63 : decode cX2_load 63 = .ok (.invokevirtual 34, 3) := by decide +kernel
theorem dX2_load_66 : decode cX2_load 66 = .ok (.iload 4, 2) := by decide +kernel
theorem dX2_load_68 : decode cX2_load 68 = .ok (.iconst 1, 1) := by decide +kernel
theorem dX2_load_69 : decode cX2_load 69 = .ok (.iadd, 1) := by decide +kernel
theorem dX2_load_70 : decode cX2_load 70 = .ok (.aload_n 1, 1) := by decide +kernel
theorem dX2_load_71 : decode cX2_load 71 = .ok (.invokevirtual 38, 3) := by decide +kernel
theorem dX2_load_74 : decode cX2_load 74 = .ok (.if_icmp .ge 10, 3) := by decide +kernel
theorem dX2_load_77 : decode cX2_load 77 = .ok (.iload 4, 2) := by decide +kernel
theorem dX2_load_79 : decode cX2_load 79 = .ok (.iconst 1, 1) := by decide +kernel
theorem dX2_load_80 : decode cX2_load 80 = .ok (.iadd, 1) := by decide +kernel
theorem dX2_load_81 : decode cX2_load 81 = .ok (.goto 4, 3) := by decide +kernel
theorem dX2_load_84 : decode cX2_load 84 = .ok (.iconst 0, 1) := by decide +kernel
theorem dX2_load_85 : decode cX2_load 85 = .ok (.istore 4, 2) := by decide +kernel
theorem dX2_load_87 : decode cX2_load 87 = .ok (.iinc 5 1, 3) := by decide +kernel
theorem dX2_load_90 : decode cX2_load 90 = .ok (.goto (-60), 3) := by decide +kernel
theorem dX2_load_93 : decode cX2_load 93 = .ok (.aload_n 0, 1) := by decide +kernel
theorem dX2_load_94 : decode cX2_load 94 = .ok (.iconst 0, 1) := by decide +kernel
theorem dX2_load_95 : decode cX2_load 95 = .ok (.putfield 15, 3) := by decide +kernel
theorem dX2_load_98 : decode cX2_load 98 = .ok (.aload_n 0, 1) := by decide +kernel
theorem dX2_load_99 : decode cX2_load 99 = .ok (.iconst 0, 1) := by decide +kernel
theorem dX2_load_100 : decode cX2_load 100 = .ok (.putfield 19, 3) := by decide +kernel
theorem dX2_load_103 : decode cX2_load 103 = .ok (.aload_n 0, 1) := by decide +kernel
theorem dX2_load_104 : decode cX2_load 104 = .ok (.iconst 0, 1) := by decide +kernel
theorem dX2_load_105 : decode cX2_load 105 = .ok (.putfield 25, 3) := by decide +kernel
theorem dX2_load_108 : decode cX2_load 108 = .ok (.return_, 1) := by decide +kernel
theorem dX2_nextBit_0 : decode cX2_nextBit 0 = .ok (.aload_n 0, 1) := by decide +kernel
theorem dX2_nextBit_1 : decode cX2_nextBit 1 = .ok (.getfield 25, 3) := by decide +kernel
theorem dX2_nextBit_4 : decode cX2_nextBit 4 = .ok (.ifCond .ne 17, 3) := by decide +kernel
theorem dX2_nextBit_7 : decode cX2_nextBit 7 = .ok (.aload_n 0, 1) := by decide +kernel
theorem dX2_nextBit_8 : decode cX2_nextBit 8 = .ok (.aload_n 0, 1) := by decide +kernel
theorem dX2_nextBit_9 : decode cX2_nextBit 9 = .ok (.invokevirtual 42, 3) := by decide +kernel
theorem dX2_nextBit_12 : decode cX2_nextBit 12 = .ok (.putfield 22, 3) := by decide +kernel
theorem dX2_nextBit_15 : decode cX2_nextBit 15 = .ok (.aload_n 0, 1) := by decide +kernel
theorem dX2_nextBit_16 : decode cX2_nextBit 16 = .ok (.bipush 8, 2) := by decide +kernel
theorem dX2_nextBit_18 : decode cX2_nextBit 18 = .ok (.putfield 25, 3) := by decide +kernel
theorem dX2_nextBit_21 : decode cX2_nextBit 21 = .ok (.aload_n 0, 1) := by decide +kernel
theorem dX2_nextBit_22 : decode cX2_nextBit 22 = .ok (.dup, 1) := by decide +kernel
theorem dX2_nextBit_23 : decode cX2_nextBit 23 = .ok (.getfield 25, 3) := by decide +kernel
theorem dX2_nextBit_26 : decode cX2_nextBit 26 = .ok (.iconst 1, 1) := by decide +kernel
theorem dX2_nextBit_27 : decode cX2_nextBit 27 = .ok (.isub, 1) := by decide +kernel
theorem dX2_nextBit_28 : decode cX2_nextBit 28 = .ok (.putfield 25, 3) := by decide +kernel
theorem dX2_nextBit_31 : decode cX2_nextBit 31 = .ok (.aload_n 0, 1) := by decide +kernel
theorem dX2_nextBit_32 : decode cX2_nextBit 32 = .ok (.getfield 22, 3) := by decide +kernel
theorem dX2_nextBit_35 : decode cX2_nextBit 35 = .ok (.aload_n 0, 1) := by decide +kernel
theorem dX2_nextBit_36 : decode cX2_nextBit 36 = .ok (.getfield 25, 3) := by decide +kernel
theorem dX2_nextBit_39 : decode cX2_nextBit 39 = .ok (.ishr, 1) := by decide +kernel
theorem dX2_nextBit_40 : decode cX2_nextBit 40 = .ok (.iconst 1, 1) := by decide +kernel
theorem dX2_nextBit_41 : decode cX2_nextBit 41 = .ok (.iand, 1) := by decide +kernel
theorem dX2_nextBit_42 : decode cX2_nextBit 42 = .ok (.ireturn, 1) := by decide +kernel
theorem dX2_nextByte_0 : decode cX2_nextByte 0 = .ok (.aload_n 0, 1) := by decide +kernel
theorem dX2_nextByte_1 : decode cX2_nextByte 1 = .ok (.aload_n 0, 1) := by decide +kernel
theorem dX2_nextByte_2 : decode cX2_nextByte 2 = .ok (.getfield 15, 3) := by decide +kernel
theorem dX2_nextByte_5 : decode cX2_nextByte 5 = .ok (.iconst 1, 1) := by decide +kernel
theorem dX2_nextByte_6 : decode cX2_nextByte 6 = .ok (.iadd, 1) := by decide +kernel
theorem dX2_nextByte_7 : decode cX2_nextByte 7 = .ok (.sipush 255, 3) := by decide +kernel
theorem dX2_nextByte_10 : decode cX2_nextByte 10 = .ok (.iand, 1) := by decide +kernel
theorem dX2_nextByte_11 : decode cX2_nextByte 11 = .ok (.putfield 15, 3) := by decide +kernel
theorem dX2_nextByte_14 : decode cX2_nextByte 14 = .ok (.aload_n 0, 1) := by decide +kernel
theorem dX2_nextByte_15 : decode cX2_nextByte 15 = .ok (.aload_n 0, 1) := by decide +kernel
theorem dX2_nextByte_16 : decode cX2_nextByte 16 = .ok (.getfield 19, 3) := by decide +kernel
theorem dX2_nextByte_19 : decode cX2_nextByte 19 = .ok (.aload_n 0, 1) := by decide +kernel
theorem dX2_nextByte_20 : decode cX2_nextByte 20 = .ok (.getfield 11, 3) := by decide +kernel
theorem dX2_nextByte_23 : decode cX2_nextByte 23 = .ok (.aload_n 0, 1) := by decide +kernel
theorem dX2_nextByte_24 : decode cX2_nextByte 24 = .ok (.getfield 15, 3) := by decide +kernel
theorem dX2_nextByte_27 : decode cX2_nextByte 27 = .ok (.iaload, 1) := by decide +kernel
theorem dX2_nextByte_28 : decode cX2_nextByte 28 = .ok (.iadd, 1) := by decide +kernel
theorem dX2_nextByte_29 : decode cX2_nextByte 29 = .ok (.sipush 255, 3) := by decide +kernel
theorem dX2_nextByte_32 : decode cX2_nextByte 32 = .ok (.iand, 1) := by decide +kernel
theorem dX2_nextByte_33 : decode cX2_nextByte 33 = .ok (.putfield 19, 3) := by decide +kernel
theorem dX2_nextByte_36 : decode cX2_nextByte 36 = .ok (.aload_n 0, 1) := by decide +kernel
theorem dX2_nextByte_37 : decode cX2_nextByte 37 = .ok (.aload_n 0, 1) := by decide +kernel
theorem dX2_nextByte_38 : decode cX2_nextByte 38 = .ok (.getfield 15, 3) := by decide +kernel
theorem dX2_nextByte_41 : decode cX2_nextByte 41 = .ok (.aload_n 0, 1) := by decide +kernel
theorem dX2_nextByte_42 : decode cX2_nextByte 42 = .ok (.getfield 19, 3) := by decide +kernel
theorem dX2_nextByte_45 : decode cX2_nextByte 45 = .ok (.invokevirtual 34, 3) := by decide +kernel
theorem dX2_nextByte_48 : decode cX2_nextByte 48 = .ok (.aload_n 0, 1) := by decide +kernel
theorem dX2_nextByte_49 : decode cX2_nextByte 49 = .ok (.getfield 11, 3) := by decide +kernel
theorem dX2_nextByte_52 : decode cX2_nextByte 52 = .ok (.aload_n 0, 1) := by decide +kernel
theorem dX2_nextByte_53 : decode cX2_nextByte 53 = .ok (.getfield 11, 3) := by decide +kernel
theorem dX2_nextByte_56 : decode cX2_nextByte 56 = .ok (.aload_n 0, 1) := by decide +kernel
theorem dX2_nextByte_57 : decode cX2_nextByte 57 = .ok (.getfield 15, 3) := by decide +kernel
theorem dX2_nextByte_60 : decode cX2_nextByte 60 = .ok (.iaload, 1) := by decide +kernel
theorem dX2_nextByte_61 : decode cX2_nextByte 61 = .ok (.aload_n 0, 1) := by decide +kernel
theorem dX2_nextByte_62 : decode cX2_nextByte 62 = .ok (.getfield 11, 3) := by decide +kernel
theorem dX2_nextByte_65 : decode cX2_nextByte 65 = .ok (.aload_n 0, 1) := by decide +kernel
theorem dX2_nextByte_66 : decode cX2_nextByte 66 = .ok (.getfield 19, 3) := by decide +kernel
theorem dX2_nextByte_69 : decode cX2_nextByte 69 = .ok (.iaload, 1) := by decide +kernel
theorem dX2_nextByte_70 : decode cX2_nextByte 70 = .ok (.iadd, 1) := by decide +kernel
theorem dX2_nextByte_71 : decode cX2_nextByte 71 = .ok (.sipush 255, 3) := by decide +kernel
theorem dX2_nextByte_74 : decode cX2_nextByte 74 = .ok (.iand, 1) := by decide +kernel
theorem dX2_nextByte_75 : decode cX2_nextByte 75 = .ok (.iaload, 1) := by decide +kernel
theorem dX2_nextByte_76 : decode cX2_nextByte 76 = .ok (.ireturn, 1) := by decide +kernel
theorem dX2_exchange_0 : decode cX2_exchange 0 = .ok (.aload_n 0, 1) := by decide +kernel
theorem dX2_exchange_1 : decode cX2_exchange 1 = .ok (.getfield 11, 3) := by decide +kernel
theorem dX2_exchange_4 : decode cX2_exchange 4 = .ok (.iload_n 1, 1) := by decide +kernel
theorem dX2_exchange_5 : decode cX2_exchange 5 = .ok (.sipush 255, 3) := by decide +kernel
theorem dX2_exchange_8 : decode cX2_exchange 8 = .ok (.iand, 1) := by decide +kernel
theorem dX2_exchange_9 : decode cX2_exchange 9 = .ok (.iaload, 1) := by decide +kernel
theorem dX2_exchange_10 : decode cX2_exchange 10 = .ok (.istore_n 3, 1) := by decide +kernel
theorem dX2_exchange_11 : decode cX2_exchange 11 = .ok (.aload_n 0, 1) := by decide +kernel
theorem dX2_exchange_12 : decode cX2_exchange 12 = .ok (.getfield 11, 3) := by decide +kernel
theorem dX2_exchange_15 : decode cX2_exchange 15 = .ok (.iload_n 1, 1) := by decide +kernel
theorem dX2_exchange_16 : decode cX2_exchange 16 = .ok (.sipush 255, 3) := by decide +kernel
theorem dX2_exchange_19 : decode cX2_exchange 19 = .ok (.iand, 1) := by decide +kernel
theorem dX2_exchange_20 : decode cX2_exchange 20 = .ok (.aload_n 0, 1) := by decide +kernel
theorem dX2_exchange_21 : decode cX2_exchange 21 = .ok (.getfield 11, 3) := by decide +kernel
theorem dX2_exchange_24 : decode cX2_exchange 24 = .ok (.iload_n 2, 1) := by decide +kernel
theorem dX2_exchange_25 : decode cX2_exchange 25 = .ok (.sipush 255, 3) := by decide +kernel
theorem dX2_exchange_28 : decode cX2_exchange 28 = .ok (.iand, 1) := by decide +kernel
theorem dX2_exchange_29 : decode cX2_exchange 29 = .ok (.iaload, 1) := by decide +kernel
theorem dX2_exchange_30 : decode cX2_exchange 30 = .ok (.iastore, 1) := by decide +kernel
theorem dX2_exchange_31 : decode cX2_exchange 31 = .ok (.aload_n 0, 1) := by decide +kernel
theorem dX2_exchange_32 : decode cX2_exchange 32 = .ok (.getfield 11, 3) := by decide +kernel
theorem dX2_exchange_35 : decode cX2_exchange 35 = .ok (.iload_n 2, 1) := by decide +kernel
theorem dX2_exchange_36 : decode cX2_exchange 36 = .ok (.sipush 255, 3) := by decide +kernel
theorem dX2_exchange_39 : decode cX2_exchange 39 = .ok (.iand, 1) := by decide +kernel
theorem dX2_exchange_40 : decode cX2_exchange 40 = .ok (.iload_n 3, 1) := by decide +kernel
theorem dX2_exchange_41 : decode cX2_exchange 41 = .ok (.iastore, 1) := by decide +kernel
theorem dX2_exchange_42 : decode cX2_exchange 42 = .ok (.return_, 1) := by decide +kernel
theorem dX3_init_0 : decode cX3_init 0 = .ok (.aload_n 0, 1) := by decide +kernel
theorem dX3_init_1 : decode cX3_init 1 = .ok (.invokespecial 1, 3) := by decide +kernel
theorem dX3_init_4 : decode cX3_init 4 = .ok (.return_, 1) := by decide +kernel
theorem dX4_init_0 : decode cX4_init 0 = .ok (.aload_n 0, 1) := by decide +kernel
theorem dX4_init_1 : decode cX4_init 1 = .ok (.invokespecial 1, 3) := by decide +kernel
theorem dX4_init_4 : decode cX4_init 4 = .ok (.aload_n 0, 1) := by decide +kernel
theorem dX4_init_5 : decode cX4_init 5 = .ok (.new 7, 3) := by decide +kernel
theorem dX4_init_8 : decode cX4_init 8 = .ok (.dup, 1) := by decide +kernel
theorem dX4_init_9 : decode cX4_init 9 = .ok (.invokespecial 9, 3) := by decide +kernel
theorem dX4_init_12 : decode cX4_init 12 = .ok (.putfield 10, 3) := by decide +kernel
theorem dX4_init_15 : decode cX4_init 15 = .ok (.aload_n 0, 1) := by decide +kernel
theorem dX4_init_16 : decode cX4_init 16 = .ok (.new 7, 3) := by decide +kernel
theorem dX4_init_19 : decode cX4_init 19 = .ok (.dup, 1) := by decide +kernel
theorem dX4_init_20 : decode cX4_init 20 = .ok (.invokespecial 9, 3) := by decide +kernel
theorem dX4_init_23 : decode cX4_init 23 = .ok (.putfield 16, 3) := by decide +kernel
theorem dX4_init_26 : decode cX4_init 26 = .ok (.aload_n 0, 1) := by decide +kernel
theorem dX4_init_27 : decode cX4_init 27 = .ok (.new 7, 3) := by decide +kernel
theorem dX4_init_30 : decode cX4_init 30 = .ok (.dup, 1) := by decide +kernel
theorem dX4_init_31 : decode cX4_init 31 = .ok (.invokespecial 9, 3) := by decide +kernel
theorem dX4_init_34 : decode cX4_init 34 = .ok (.putfield 19, 3) := by decide +kernel
theorem dX4_init_37 : decode cX4_init 37 = .ok (.return_, 1) := by decide +kernel
theorem dX4_takes_0 : decode cX4_takes 0 = .ok (.iload_n 1, 1) := by decide +kernel
theorem dX4_takes_1 : decode cX4_takes 1 = .ok (.bipush 10, 2) := by decide +kernel
theorem dX4_takes_3 : decode cX4_takes 3 = .ok (.if_icmp .ne 13, 3) := by decide +kernel
theorem dX4_takes_6 : decode cX4_takes 6 = .ok (.iload_n 2, 1) := by decide +kernel
theorem dX4_takes_7 : decode cX4_takes 7 = .ok (.bipush 10, 2) := by decide +kernel
theorem dX4_takes_9 : decode cX4_takes 9 = .ok (.if_icmp .ne 7, 3) := by decide +kernel
theorem dX4_takes_12 : decode cX4_takes 12 = .ok (.iconst 1, 1) := by decide +kernel
theorem dX4_takes_13 : decode cX4_takes 13 = .ok (.goto 4, 3) := by decide +kernel
theorem dX4_takes_16 : decode cX4_takes 16 = .ok (.iconst 0, 1) := by decide +kernel
theorem dX4_takes_17 : decode cX4_takes 17 = .ok (.ireturn, 1) := by decide +kernel
theorem dX4_load_0 : decode cX4_load 0 = .ok (.aload_n 0, 1) := by decide +kernel
theorem dX4_load_1 : decode cX4_load 1 = .ok (.getfield 10, 3) := by decide +kernel
theorem dX4_load_4 : decode cX4_load 4 = .ok (.invokevirtual 22, 3) := by decide +kernel
theorem dX4_load_7 : decode cX4_load 7 = .ok (.aload_n 0, 1) := by decide +kernel
theorem dX4_load_8 : decode cX4_load 8 = .ok (.getfield 16, 3) := by decide +kernel
theorem dX4_load_11 : decode cX4_load 11 = .ok (.invokevirtual 22, 3) := by decide +kernel
theorem dX4_load_14 : decode cX4_load 14 = .ok (.aload_n 0, 1) := by decide +kernel
theorem dX4_load_15 : decode cX4_load 15 = .ok (.getfield 19, 3) := by decide +kernel
theorem dX4_load_18 : decode cX4_load 18 = .ok (.invokevirtual 22, 3) := by decide +kernel
theorem dX4_load_21 : decode cX4_load 21 = .ok (.iconst 0, 1) := by decide +kernel
theorem dX4_load_22 : decode cX4_load 22 = .ok (.istore_n 3, 1) := by decide +kernel
theorem dX4_load_23 : decode cX4_load 23 = .ok (.iload_n 3, 1) := by decide +kernel
theorem dX4_load_24 : decode cX4_load 24 = .ok (.bipush 80, 2) := by decide +kernel
theorem dX4_load_26 : decode cX4_load 26 = .ok (.if_icmp .ge 35, 3) := by decide +kernel
theorem dX4_load_29 : decode cX4_load 29 = .ok (.aload_n 0, 1) := by decide +kernel
theorem dX4_load_30 : decode cX4_load 30 = .ok (.getfield 10, 3) := by decide +kernel
theorem dX4_load_33 : decode cX4_load 33 = .ok (.iload_n 3, 1) := by decide +kernel
theorem dX4_load_34 : decode cX4_load 34 = .ok (.aload_n 1, 1) := by decide +kernel
theorem dX4_load_35 : decode cX4_load 35 = .ok (.iload_n 3, 1) := by decide +kernel
theorem dX4_load_36 : decode cX4_load 36 = .ok (.invokevirtual 25, 3) := by decide +kernel
theorem dX4_load_39 : decode cX4_load 39 = .ok (.invokevirtual 31, 3) := by decide +kernel
theorem dX4_load_42 : decode cX4_load 42 = .ok (.aload_n 0, 1) := by decide +kernel
theorem dX4_load_43 : decode cX4_load 43 = .ok (.getfield 16, 3) := by decide +kernel
theorem dX4_load_46 : decode cX4_load 46 = .ok (.iload_n 3, 1) := by decide +kernel
theorem dX4_load_47 : decode cX4_load 47 = .ok (.aload_n 2, 1) := by decide +kernel
theorem dX4_load_48 : decode cX4_load 48 = .ok (.iload_n 3, 1) := by decide +kernel
theorem dX4_load_49 : decode cX4_load 49 = .ok (.invokevirtual 25, 3) := by decide +kernel
theorem dX4_load_52 : decode cX4_load 52 = .ok (.invokevirtual 31, 3) := by decide +kernel
theorem dX4_load_55 : decode cX4_load 55 = .ok (.iinc 3 1, 3) := by decide +kernel
theorem dX4_load_58 : decode cX4_load 58 = .ok (.goto (-35), 3) := by decide +kernel
theorem dX4_load_61 : decode cX4_load 61 = .ok (.aload_n 0, 1) := by decide +kernel
theorem dX4_load_62 : decode cX4_load 62 = .ok (.getfield 19, 3) := by decide +kernel
theorem dX4_load_65 : decode cX4_load 65 = .ok (.bipush 108, 2) := by decide +kernel
theorem dX4_load_67 : decode cX4_load 67 = .ok (.iconst 1, 1) := by decide +kernel
theorem dX4_load_68 : decode cX4_load 68 = .ok (.invokevirtual 31, 3) := by decide +kernel
theorem dX4_load_71 : decode cX4_load 71 = .ok (.aload_n 0, 1) := by decide +kernel
theorem dX4_load_72 : decode cX4_load 72 = .ok (.getfield 19, 3) := by decide +kernel
theorem dX4_load_75 : decode cX4_load 75 = .ok (.bipush 109, 2) := by decide +kernel
theorem dX4_load_77 : decode cX4_load 77 = .ok (.iconst 1, 1) := by decide +kernel
theorem dX4_load_78 : decode cX4_load 78 = .ok (.invokevirtual 31, 3) := by decide +kernel
theorem dX4_load_81 : decode cX4_load 81 = .ok (.aload_n 0, 1) := by decide +kernel
theorem dX4_load_82 : decode cX4_load 82 = .ok (.getfield 19, 3) := by decide +kernel
theorem dX4_load_85 : decode cX4_load 85 = .ok (.bipush 110, 2) := by decide +kernel
theorem dX4_load_87 : decode cX4_load 87 = .ok (.iconst 1, 1) := by decide +kernel
theorem dX4_load_88 : decode cX4_load 88 = .ok (.invokevirtual 31, 3) := by decide +kernel
theorem dX4_load_91 : decode cX4_load 91 = .ok (.iconst 0, 1) := by decide +kernel
theorem dX4_load_92 : decode cX4_load 92 = .ok (.istore_n 3, 1) := by decide +kernel
theorem dX4_load_93 : decode cX4_load 93 = .ok (.iload_n 3, 1) := by decide +kernel
theorem dX4_load_94 : decode cX4_load 94 = .ok (.sipush 1152, 3) := by decide +kernel
theorem dX4_load_97 : decode cX4_load 97 = .ok (.if_icmp .ge 14, 3) := by decide +kernel
theorem dX4_load_100 : decode cX4_load 100 = .ok (.aload_n 0, 1) := by decide +kernel
theorem dX4_load_101 : decode cX4_load 101 = .ok (.invokevirtual 35, 3) := by decide +kernel
theorem dX4_load_104 : decode cX4_load 104 = .ok (.pop, 1) := by decide +kernel
theorem dX4_load_105 : decode cX4_load 105 = .ok (.iinc 3 1, 3) := by decide +kernel
theorem dX4_load_108 : decode cX4_load 108 = .ok (.goto (-15), 3) := by decide +kernel
theorem dX4_load_111 : decode cX4_load 111 = .ok (.return_, 1) := by decide +kernel
theorem dX4_nextBit_0 : decode cX4_nextBit 0 = .ok (.aload_n 0, 1) := by decide +kernel
theorem dX4_nextBit_1 : decode cX4_nextBit 1 = .ok (.getfield 10, 3) := by decide +kernel
theorem dX4_nextBit_4 : decode cX4_nextBit 4 = .ok (.bipush 65, 2) := by decide +kernel
theorem dX4_nextBit_6 : decode cX4_nextBit 6 = .ok (.invokevirtual 39, 3) := by decide +kernel
theorem dX4_nextBit_9 : decode cX4_nextBit 9 = .ok (.aload_n 0, 1) := by decide +kernel
theorem dX4_nextBit_10 : decode cX4_nextBit 10 = .ok (.getfield 10, 3) := by decide +kernel
theorem dX4_nextBit_13 : decode cX4_nextBit 13 = .ok (.bipush 92, 2) := by decide +kernel
theorem dX4_nextBit_15 : decode cX4_nextBit 15 = .ok (.invokevirtual 39, 3) := by decide +kernel
theorem dX4_nextBit_18 : decode cX4_nextBit 18 = .ok (.ixor, 1) := by decide +kernel
theorem dX4_nextBit_19 : decode cX4_nextBit 19 = .ok (.istore_n 1, 1) := by decide +kernel
theorem dX4_nextBit_20 : decode cX4_nextBit 20 = .ok (.aload_n 0, 1) := by decide +kernel
theorem dX4_nextBit_21 : decode cX4_nextBit 21 = .ok (.getfield 16, 3) := by decide +kernel
theorem dX4_nextBit_24 : decode cX4_nextBit 24 = .ok (.bipush 68, 2) := by decide +kernel
theorem dX4_nextBit_26 : decode cX4_nextBit 26 = .ok (.invokevirtual 39, 3) := by decide +kernel
theorem dX4_nextBit_29 : decode cX4_nextBit 29 = .ok (.aload_n 0, 1) := by decide +kernel
theorem dX4_nextBit_30 : decode cX4_nextBit 30 = .ok (.getfield 16, 3) := by decide +kernel
theorem dX4_nextBit_33 : decode cX4_nextBit 33 = .ok (.bipush 83, 2) := by decide +kernel
theorem dX4_nextBit_35 : decode cX4_nextBit 35 = .ok (.invokevirtual 39, 3) := by decide +kernel
theorem dX4_nextBit_38 : decode cX4_nextBit 38 = .ok (.ixor, 1) := by decide +kernel
theorem dX4_nextBit_39 : decode cX4_nextBit 39 = .ok (.istore_n 2, 1) := by decide +kernel
theorem dX4_nextBit_40 : decode cX4_nextBit 40 = .ok (.aload_n 0, 1) := by decide +kernel
theorem dX4_nextBit_41 : decode cX4_nextBit 41 = .ok (.getfield 19, 3) := by decide +kernel
theorem dX4_nextBit_44 : decode cX4_nextBit 44 = .ok (.bipush 65, 2) := by decide +kernel
theorem dX4_nextBit_46 : decode cX4_nextBit 46 = .ok (.invokevirtual 39, 3) := by decide +kernel
theorem dX4_nextBit_49 : decode cX4_nextBit 49 = .ok (.aload_n 0, 1) := by decide +kernel
theorem dX4_nextBit_50 : decode cX4_nextBit 50 = .ok (.getfield 19, 3) := by decide +kernel
theorem dX4_nextBit_53 : decode cX4_nextBit 53 = .ok (.bipush 110, 2) := by decide +kernel
theorem dX4_nextBit_55 : decode cX4_nextBit 55 = .ok (.invokevirtual 39, 3) := by decide +kernel
theorem dX4_nextBit_58 : decode cX4_nextBit 58 = .ok (.ixor, 1) := by decide +kernel
theorem dX4_nextBit_59 : decode cX4_nextBit 59 = .ok (.istore_n 3, 1) := by decide +kernel
theorem dX4_nextBit_60 : decode cX4_nextBit 60 = .ok (.iload_n 1, 1) := by decide +kernel
theorem dX4_nextBit_61 : decode cX4_nextBit 61 = .ok (.iload_n 2, 1) := by decide +kernel
theorem dX4_nextBit_62 : decode cX4_nextBit 62 = .ok (.ixor, 1) := by decide +kernel
theorem dX4_nextBit_63 : decode cX4_nextBit 63 = .ok (.iload_n 3, 1) := by decide +kernel
theorem dX4_nextBit_64 : decode cX4_nextBit 64 = .ok (.ixor, 1) := by decide +kernel
theorem dX4_nextBit_65 : decode cX4_nextBit 65 = .ok (.istore 4, 2) := by decide +kernel
theorem dX4_nextBit_67 : decode cX4_nextBit 67 = .ok (.iload_n 1, 1) := by decide +kernel
theorem dX4_nextBit_68 : decode cX4_nextBit 68 = .ok (.aload_n 0, 1) := by decide +kernel
theorem dX4_nextBit_69 : decode cX4_nextBit 69 = .ok (.getfield 10, 3) := by decide +kernel
theorem dX4_nextBit_72 : decode cX4_nextBit 72 = .ok (.bipush 90, 2) := by decide +kernel
theorem dX4_nextBit_74 : decode cX4_nextBit 74 = .ok (.invokevirtual 39, 3) := by decide +kernel
theorem dX4_nextBit_77 : decode cX4_nextBit 77 = .ok (.aload_n 0, 1) := by decide +kernel
theorem dX4_nextBit_78 : decode cX4_nextBit 78 = .ok (.getfield 10, 3) := by decide +kernel
theorem dX4_nextBit_81 : decode cX4_nextBit 81 = .ok (.bipush 91, 2) := by decide +kernel
theorem dX4_nextBit_83 : decode cX4_nextBit 83 = .ok (.invokevirtual 39, 3) := by decide +kernel
theorem dX4_nextBit_86 : decode cX4_nextBit 86 = .ok (.iand, 1) := by decide +kernel
theorem dX4_nextBit_87 : decode cX4_nextBit 87 = .ok (.aload_n 0, 1) := by decide +kernel
theorem dX4_nextBit_88 : decode cX4_nextBit 88 = .ok (.getfield 16, 3) := by decide +kernel
theorem dX4_nextBit_91 : decode cX4_nextBit 91 = .ok (.bipush 77, 2) := by decide +kernel
theorem dX4_nextBit_93 : decode cX4_nextBit 93 = .ok (.invokevirtual 39, 3) := by decide +kernel
theorem dX4_nextBit_96 : decode cX4_nextBit 96 = .ok (.ixor, 1) := by decide +kernel
theorem dX4_nextBit_97 : decode cX4_nextBit 97 = .ok (.ixor, 1) := by decide +kernel
theorem dX4_nextBit_98 : decode cX4_nextBit 98 = .ok (.istore_n 1, 1) := by decide +kernel
theorem dX4_nextBit_99 : decode cX4_nextBit 99 = .ok (.iload_n 2, 1) := by decide +kernel
theorem dX4_nextBit_100 : decode cX4_nextBit 100 = .ok (.aload_n 0, 1) := by decide +kernel
theorem dX4_nextBit_101 : decode cX4_nextBit 101 = .ok (.getfield 16, 3) := by decide +kernel
theorem dX4_nextBit_104 : decode cX4_nextBit 104 = .ok (.bipush 81, 2) := by decide +kernel
theorem dX4_nextBit_106 : decode cX4_nextBit 106 = .ok (.invokevirtual 39, 3) := by decide +kernel
theorem dX4_nextBit_109 : decode cX4_nextBit 109 = .ok (.aload_n 0, 1) := by decide +kernel
theorem dX4_nextBit_110 : decode cX4_nextBit 110 = .ok (.getfield 16, 3) := by decide +kernel
theorem dX4_nextBit_113 : decode cX4_nextBit 113 = .ok (.bipush 82, 2) := by decide +kernel
theorem dX4_nextBit_115 : decode cX4_nextBit 115 = .ok (.invokevirtual 39, 3) := by decide +kernel
theorem dX4_nextBit_118 : decode cX4_nextBit 118 = .ok (.iand, 1) := by decide +kernel
theorem dX4_nextBit_119 : decode cX4_nextBit 119 = .ok (.aload_n 0, 1) := by decide +kernel
theorem dX4_nextBit_120 : decode cX4_nextBit 120 = .ok (.getfield 19, 3) := by decide +kernel
theorem dX4_nextBit_123 : decode cX4_nextBit 123 = .ok (.bipush 86, 2) := by decide +kernel
theorem dX4_nextBit_125 : decode cX4_nextBit 125 = .ok (.invokevirtual 39, 3) := by decide +kernel
theorem dX4_nextBit_128 : decode cX4_nextBit 128 = .ok (.ixor, 1) := by decide +kernel
theorem dX4_nextBit_129 : decode cX4_nextBit 129 = .ok (.ixor, 1) := by decide +kernel
theorem dX4_nextBit_130 : decode cX4_nextBit 130 = .ok (.istore_n 2, 1) := by decide +kernel
theorem dX4_nextBit_131 : decode cX4_nextBit 131 = .ok (.iload_n 3, 1) := by decide +kernel
theorem dX4_nextBit_132 : decode cX4_nextBit 132 = .ok (.aload_n 0, 1) := by decide +kernel
theorem dX4_nextBit_133 : decode cX4_nextBit 133 = .ok (.getfield 19, 3) := by decide +kernel
theorem dX4_nextBit_136 : decode cX4_nextBit 136 = .ok (.bipush 108, 2) := by decide +kernel
theorem dX4_nextBit_138 : decode cX4_nextBit 138 = .ok (.invokevirtual 39, 3) := by decide +kernel
theorem dX4_nextBit_141 : decode cX4_nextBit 141 = .ok (.aload_n 0, 1) := by decide +kernel
theorem dX4_nextBit_142 : decode cX4_nextBit 142 = .ok (.getfield 19, 3) := by decide +kernel
theorem dX4_nextBit_145 : decode cX4_nextBit 145 = .ok (.bipush 109, 2) := by decide +kernel
theorem dX4_nextBit_147 : decode cX4_nextBit 147 = .ok (.invokevirtual 39, 3) := by decide +kernel
theorem dX4_nextBit_150 : decode cX4_nextBit 150 = .ok (.iand, 1) := by decide +kernel
theorem dX4_nextBit_151 : decode cX4_nextBit 151 = .ok (.aload_n 0, 1) := by decide +kernel
theorem dX4_nextBit_152 : decode cX4_nextBit 152 = .ok (.getfield 10, 3) := by decide +kernel
theorem dX4_nextBit_155 : decode cX4_nextBit 155 = .ok (.bipush 68, 2) := by decide +kernel
theorem dX4_nextBit_157 : decode cX4_nextBit 157 = .ok (.invokevirtual 39, 3) := by decide +kernel
theorem dX4_nextBit_160 : decode cX4_nextBit 160 = .ok (.ixor, 1) := by decide +kernel
theorem dX4_nextBit_161 : decode cX4_nextBit 161 = .ok (.ixor, 1) := by decide +kernel
theorem dX4_nextBit_162 : decode cX4_nextBit 162 = .ok (.istore_n 3, 1) := by decide +kernel
theorem dX4_nextBit_163 : decode cX4_nextBit 163 = .ok (.aload_n 0, 1) := by decide +kernel
theorem dX4_nextBit_164 : decode cX4_nextBit 164 = .ok (.getfield 10, 3) := by decide +kernel
theorem dX4_nextBit_167 : decode cX4_nextBit 167 = .ok (.iload_n 3, 1) := by decide +kernel
theorem dX4_nextBit_168 : decode cX4_nextBit 168 = .ok (.invokevirtual 42, 3) := by decide +kernel
theorem dX4_nextBit_171 : decode cX4_nextBit 171 = .ok (.aload_n 0, 1) := by decide +kernel
theorem dX4_nextBit_172 : decode cX4_nextBit 172 = .ok (.getfield 16, 3) := by decide +kernel
theorem dX4_nextBit_175 : decode cX4_nextBit 175 = .ok (.iload_n 1, 1) := by decide +kernel
theorem dX4_nextBit_176 : decode cX4_nextBit 176 = .ok (.invokevirtual 42, 3) := by decide +kernel
theorem dX4_nextBit_179 : decode cX4_nextBit 179 = .ok (.aload_n 0, 1) := by decide +kernel
theorem dX4_nextBit_180 : decode cX4_nextBit 180 = .ok (.getfield 19, 3) := by decide +kernel
theorem dX4_nextBit_183 : decode cX4_nextBit 183 = .ok (.iload_n 2, 1) := by decide +kernel
theorem dX4_nextBit_184 : decode cX4_nextBit 184 = .ok (.invokevirtual 42, 3) := by decide +kernel
theorem dX4_nextBit_187 : decode cX4_nextBit 187 = .ok (.iload 4, 2) := by decide +kernel
theorem dX4_nextBit_189 : decode cX4_nextBit 189 = .ok (.ireturn, 1) := by decide +kernel
theorem dX5_init_0 : decode cX5_init 0 = .ok (.aload_n 0, 1) := by decide +kernel
theorem dX5_init_1 : decode cX5_init 1 = .ok (.invokespecial 1, 3) := by decide +kernel
theorem dX5_init_4 : decode cX5_init 4 = .ok (.aload_n 0, 1) := by decide +kernel
theorem dX5_init_5 : decode cX5_init 5 = .ok (.new 7, 3) := by decide +kernel
theorem dX5_init_8 : decode cX5_init 8 = .ok (.dup, 1) := by decide +kernel
theorem dX5_init_9 : decode cX5_init 9 = .ok (.invokespecial 9, 3) := by decide +kernel
theorem dX5_init_12 : decode cX5_init 12 = .ok (.putfield 10, 3) := by decide +kernel
theorem dX5_init_15 : decode cX5_init 15 = .ok (.aload_n 0, 1) := by decide +kernel
theorem dX5_init_16 : decode cX5_init 16 = .ok (.new 7, 3) := by decide +kernel
theorem dX5_init_19 : decode cX5_init 19 = .ok (.dup, 1) := by decide +kernel
theorem dX5_init_20 : decode cX5_init 20 = .ok (.invokespecial 9, 3) := by decide +kernel
theorem dX5_init_23 : decode cX5_init 23 = .ok (.putfield 16, 3) := by decide +kernel
theorem dX5_init_26 : decode cX5_init 26 = .ok (.aload_n 0, 1) := by decide +kernel
theorem dX5_init_27 : decode cX5_init 27 = .ok (.new 7, 3) := by decide +kernel
theorem dX5_init_30 : decode cX5_init 30 = .ok (.dup, 1) := by decide +kernel
theorem dX5_init_31 : decode cX5_init 31 = .ok (.invokespecial 9, 3) := by decide +kernel
theorem dX5_init_34 : decode cX5_init 34 = .ok (.putfield 19, 3) := by decide +kernel
theorem dX5_init_37 : decode cX5_init 37 = .ok (.return_, 1) := by decide +kernel
theorem dX5_takes_0 : decode cX5_takes 0 = .ok (.iload_n 1, 1) := by decide +kernel
theorem dX5_takes_1 : decode cX5_takes 1 = .ok (.bipush 8, 2) := by decide +kernel
theorem dX5_takes_3 : decode cX5_takes 3 = .ok (.if_icmp .ne 12, 3) := by decide +kernel
theorem dX5_takes_6 : decode cX5_takes 6 = .ok (.iload_n 2, 1) := by decide +kernel
theorem dX5_takes_7 : decode cX5_takes 7 = .ok (.iconst 3, 1) := by decide +kernel
theorem dX5_takes_8 : decode cX5_takes 8 = .ok (.if_icmp .ne 7, 3) := by decide +kernel
theorem dX5_takes_11 : decode cX5_takes 11 = .ok (.iconst 1, 1) := by decide +kernel
theorem dX5_takes_12 : decode cX5_takes 12 = .ok (.goto 4, 3) := by decide +kernel
theorem dX5_takes_15 : decode cX5_takes 15 = .ok (.iconst 0, 1) := by decide +kernel
theorem dX5_takes_16 : decode cX5_takes 16 = .ok (.ireturn, 1) := by decide +kernel
theorem dX5_load_0 : decode cX5_load 0 = .ok (.aload_n 0, 1) := by decide +kernel
theorem dX5_load_1 : decode cX5_load 1 = .ok (.getfield 10, 3) := by decide +kernel
theorem dX5_load_4 : decode cX5_load 4 = .ok (.invokevirtual 22, 3) := by decide +kernel
theorem dX5_load_7 : decode cX5_load 7 = .ok (.aload_n 0, 1) := by decide +kernel
theorem dX5_load_8 : decode cX5_load 8 = .ok (.getfield 16, 3) := by decide +kernel
theorem dX5_load_11 : decode cX5_load 11 = .ok (.invokevirtual 22, 3) := by decide +kernel
theorem dX5_load_14 : decode cX5_load 14 = .ok (.aload_n 0, 1) := by decide +kernel
theorem dX5_load_15 : decode cX5_load 15 = .ok (.getfield 19, 3) := by decide +kernel
theorem dX5_load_18 : decode cX5_load 18 = .ok (.invokevirtual 22, 3) := by decide +kernel
theorem dX5_load_21 : decode cX5_load 21 = .ok (.iconst 0, 1) := by decide +kernel
theorem dX5_load_22 : decode cX5_load 22 = .ok (.istore_n 3, 1) := by decide +kernel
theorem dX5_load_23 : decode cX5_load 23 = .ok (.iload_n 3, 1) := by decide +kernel
theorem dX5_load_24 : decode cX5_load 24 = .ok (.bipush 64, 2) := by decide +kernel
theorem dX5_load_26 : decode cX5_load 26 = .ok (.if_icmp .ge 18, 3) := by decide +kernel
theorem dX5_load_29 : decode cX5_load 29 = .ok (.aload_n 0, 1) := by decide +kernel
theorem dX5_load_30 : decode cX5_load 30 = .ok (.aload_n 1, 1) := by decide +kernel
theorem dX5_load_31 : decode cX5_load 31 = .ok (.iload_n 3, 1) := by decide +kernel
theorem dX5_load_32 : decode cX5_load 32 = .ok (.invokevirtual 25, 3) := by decide +kernel
theorem dX5_load_35 : decode cX5_load 35 = .ok (.invokevirtual 31, 3) := by decide +kernel
theorem dX5_load_38 : decode cX5_load 38 = .ok (.iinc 3 1, 3) := by decide +kernel
theorem dX5_load_41 : decode cX5_load 41 = .ok (.goto (-18), 3) := by decide +kernel
theorem dX5_load_44 : decode cX5_load 44 = .ok (.iconst 2, 1) := by decide +kernel
theorem dX5_load_45 : decode cX5_load 45 = .ok (.istore_n 3, 1) := by decide +kernel
theorem dX5_load_46 : decode cX5_load 46 = .ok (.iload_n 3, 1) := by decide +kernel
theorem dX5_load_47 : decode cX5_load 47 = .ok (.bipush 24, 2) := by decide +kernel
theorem dX5_load_49 : decode cX5_load 49 = .ok (.if_icmp .ge 18, 3) := by decide +kernel
theorem dX5_load_52 : decode cX5_load 52 = .ok (.aload_n 0, 1) := by decide +kernel
theorem dX5_load_53 : decode cX5_load 53 = .ok (.aload_n 2, 1) := by decide +kernel
theorem dX5_load_54 : decode cX5_load 54 = .ok (.iload_n 3, 1) := by decide +kernel
theorem dX5_load_55 : decode cX5_load 55 = .ok (.invokevirtual 25, 3) := by decide +kernel
theorem dX5_load_58 : decode cX5_load 58 = .ok (.invokevirtual 31, 3) := by decide +kernel
theorem dX5_load_61 : decode cX5_load 61 = .ok (.iinc 3 1, 3) := by decide +kernel
theorem dX5_load_64 : decode cX5_load 64 = .ok (.goto (-18), 3) := by decide +kernel
theorem dX5_load_67 : decode cX5_load 67 = .ok (.iconst 0, 1) := by decide +kernel
theorem dX5_load_68 : decode cX5_load 68 = .ok (.istore_n 3, 1) := by decide +kernel
theorem dX5_load_69 : decode cX5_load 69 = .ok (.iload_n 3, 1) := by decide +kernel
theorem dX5_load_70 : decode cX5_load 70 = .ok (.bipush 100, 2) := by decide +kernel
theorem dX5_load_72 : decode cX5_load 72 = .ok (.if_icmp .ge 14, 3) := by decide +kernel
theorem dX5_load_75 : decode cX5_load 75 = .ok (.aload_n 0, 1) := by decide +kernel
theorem dX5_load_76 : decode cX5_load 76 = .ok (.invokevirtual 35, 3) := by decide +kernel
theorem dX5_load_79 : decode cX5_load 79 = .ok (.pop, 1) := by decide +kernel
theorem dX5_load_80 : decode cX5_load 80 = .ok (.iinc 3 1, 3) := by decide +kernel
theorem dX5_load_83 : decode cX5_load 83 = .ok (.goto (-14), 3) := by decide +kernel
theorem dX5_load_86 : decode cX5_load 86 = .ok (.return_, 1) := by decide +kernel
theorem dX5_nextBit_0 : decode cX5_nextBit 0 = .ok (.aload_n 0, 1) := by decide +kernel
theorem dX5_nextBit_1 : decode cX5_nextBit 1 = .ok (.getfield 10, 3) := by decide +kernel
theorem dX5_nextBit_4 : decode cX5_nextBit 4 = .ok (.bipush 8, 2) := by decide +kernel
theorem dX5_nextBit_6 : decode cX5_nextBit 6 = .ok (.invokevirtual 39, 3) := by decide +kernel
theorem dX5_nextBit_9 : decode cX5_nextBit 9 = .ok (.istore_n 1, 1) := by decide +kernel
theorem dX5_nextBit_10 : decode cX5_nextBit 10 = .ok (.aload_n 0, 1) := by decide +kernel
theorem dX5_nextBit_11 : decode cX5_nextBit 11 = .ok (.getfield 16, 3) := by decide +kernel
theorem dX5_nextBit_14 : decode cX5_nextBit 14 = .ok (.bipush 10, 2) := by decide +kernel
theorem dX5_nextBit_16 : decode cX5_nextBit 16 = .ok (.invokevirtual 39, 3) := by decide +kernel
theorem dX5_nextBit_19 : decode cX5_nextBit 19 = .ok (.istore_n 2, 1) := by decide +kernel
theorem dX5_nextBit_20 : decode cX5_nextBit 20 = .ok (.aload_n 0, 1) := by decide +kernel
theorem dX5_nextBit_21 : decode cX5_nextBit 21 = .ok (.getfield 19, 3) := by decide +kernel
theorem dX5_nextBit_24 : decode cX5_nextBit 24 = .ok (.bipush 10, 2) := by decide +kernel
theorem dX5_nextBit_26 : decode cX5_nextBit 26 = .ok (.invokevirtual 39, 3) := by decide +kernel
theorem dX5_nextBit_29 : decode cX5_nextBit 29 = .ok (.istore_n 3, 1) := by decide +kernel
theorem dX5_nextBit_30 : decode cX5_nextBit 30 = .ok (.iload_n 1, 1) := by decide +kernel
theorem dX5_nextBit_31 : decode cX5_nextBit 31 = .ok (.iload_n 2, 1) := by decide +kernel
theorem dX5_nextBit_32 : decode cX5_nextBit 32 = .ok (.iadd, 1) := by decide +kernel
theorem dX5_nextBit_33 : decode cX5_nextBit 33 = .ok (.iload_n 3, 1) := by decide +kernel
theorem dX5_nextBit_34 : decode cX5_nextBit 34 = .ok (.iadd, 1) := by decide +kernel
theorem dX5_nextBit_35 : decode cX5_nextBit 35 = .ok (.iconst 2, 1) := by decide +kernel
theorem dX5_nextBit_36 : decode cX5_nextBit 36 = .ok (.if_icmp .lt 7, 3) := by decide +kernel
theorem dX5_nextBit_39 : decode cX5_nextBit 39 = .ok (.iconst 1, 1) := by decide +kernel
theorem dX5_nextBit_40 : decode cX5_nextBit 40 = .ok (.goto 4, 3) := by decide +kernel
theorem dX5_nextBit_43 : decode cX5_nextBit 43 = .ok (.iconst 0, 1) := by decide +kernel
theorem dX5_nextBit_44 : decode cX5_nextBit 44 = .ok (.istore 4, 2) := by decide +kernel
theorem dX5_nextBit_46 : decode cX5_nextBit 46 = .ok (.iload_n 1, 1) := by decide +kernel
theorem dX5_nextBit_47 : decode cX5_nextBit 47 = .ok (.iload 4, 2) := by decide +kernel
theorem dX5_nextBit_49 : decode cX5_nextBit 49 = .ok (.if_icmp .ne 7, 3) := by decide +kernel
theorem dX5_nextBit_52 : decode cX5_nextBit 52 = .ok (.aload_n 0, 1) := by decide +kernel
theorem dX5_nextBit_53 : decode cX5_nextBit 53 = .ok (.invokevirtual 42, 3) := by decide +kernel
theorem dX5_nextBit_56 : decode cX5_nextBit 56 = .ok (.iload_n 2, 1) := by decide +kernel
theorem dX5_nextBit_57 : decode cX5_nextBit 57 = .ok (.iload 4, 2) := by decide +kernel
theorem dX5_nextBit_59 : decode cX5_nextBit 59 = .ok (.if_icmp .ne 7, 3) := by decide +kernel
theorem dX5_nextBit_62 : decode cX5_nextBit 62 = .ok (.aload_n 0, 1) := by decide +kernel
theorem dX5_nextBit_63 : decode cX5_nextBit 63 = .ok (.invokevirtual 45, 3) := by decide +kernel
theorem dX5_nextBit_66 : decode cX5_nextBit 66 = .ok (.iload_n 3, 1) := by decide +kernel
theorem dX5_nextBit_67 : decode cX5_nextBit 67 = .ok (.iload 4, 2) := by decide +kernel
theorem dX5_nextBit_69 : decode cX5_nextBit 69 = .ok (.if_icmp .ne 7, 3) := by decide +kernel
theorem dX5_nextBit_72 : decode cX5_nextBit 72 = .ok (.aload_n 0, 1) := by decide +kernel
theorem dX5_nextBit_73 : decode cX5_nextBit 73 = .ok (.invokevirtual 48, 3) := by decide +kernel
theorem dX5_nextBit_76 : decode cX5_nextBit 76 = .ok (.aload_n 0, 1) := by decide +kernel
theorem dX5_nextBit_77 : decode cX5_nextBit 77 = .ok (.getfield 10, 3) := by decide +kernel
theorem dX5_nextBit_80 : decode cX5_nextBit 80 = .ok (.bipush 18, 2) := by decide +kernel
theorem dX5_nextBit_82 : decode cX5_nextBit 82 = .ok (.invokevirtual 39, 3) := by decide +kernel
theorem dX5_nextBit_85 : decode cX5_nextBit 85 = .ok (.aload_n 0, 1) := by decide +kernel
theorem dX5_nextBit_86 : decode cX5_nextBit 86 = .ok (.getfield 16, 3) := by decide +kernel
theorem dX5_nextBit_89 : decode cX5_nextBit 89 = .ok (.bipush 21, 2) := by decide +kernel
theorem dX5_nextBit_91 : decode cX5_nextBit 91 = .ok (.invokevirtual 39, 3) := by decide +kernel
theorem dX5_nextBit_94 : decode cX5_nextBit 94 = .ok (.ixor, 1) := by decide +kernel
theorem dX5_nextBit_95 : decode cX5_nextBit 95 = .ok (.aload_n 0, 1) := by decide +kernel
theorem dX5_nextBit_96 : decode cX5_nextBit 96 = .ok (.getfield 19, 3) := by decide +kernel
theorem dX5_nextBit_99 : decode cX5_nextBit 99 = .ok (.bipush 22, 2) := by decide +kernel
theorem dX5_nextBit_101 : decode cX5_nextBit 101 = .ok (.invokevirtual 39, 3) := by decide +kernel
theorem dX5_nextBit_104 : decode cX5_nextBit 104 = .ok (.ixor, 1) := by decide +kernel
theorem dX5_nextBit_105 : decode cX5_nextBit 105 = .ok (.ireturn, 1) := by decide +kernel
theorem dX5_feed_0 : decode cX5_feed 0 = .ok (.aload_n 0, 1) := by decide +kernel
theorem dX5_feed_1 : decode cX5_feed 1 = .ok (.invokevirtual 42, 3) := by decide +kernel
theorem dX5_feed_4 : decode cX5_feed 4 = .ok (.aload_n 0, 1) := by decide +kernel
theorem dX5_feed_5 : decode cX5_feed 5 = .ok (.invokevirtual 45, 3) := by decide +kernel
theorem dX5_feed_8 : decode cX5_feed 8 = .ok (.aload_n 0, 1) := by decide +kernel
theorem dX5_feed_9 : decode cX5_feed 9 = .ok (.invokevirtual 48, 3) := by decide +kernel
theorem dX5_feed_12 : decode cX5_feed 12 = .ok (.aload_n 0, 1) := by decide +kernel
theorem dX5_feed_13 : decode cX5_feed 13 = .ok (.getfield 10, 3) := by decide +kernel
theorem dX5_feed_16 : decode cX5_feed 16 = .ok (.iconst 0, 1) := by decide +kernel
theorem dX5_feed_17 : decode cX5_feed 17 = .ok (.iload_n 1, 1) := by decide +kernel
theorem dX5_feed_18 : decode cX5_feed 18 = .ok (.invokevirtual 51, 3) := by decide +kernel
theorem dX5_feed_21 : decode cX5_feed 21 = .ok (.aload_n 0, 1) := by decide +kernel
theorem dX5_feed_22 : decode cX5_feed 22 = .ok (.getfield 16, 3) := by decide +kernel
theorem dX5_feed_25 : decode cX5_feed 25 = .ok (.iconst 0, 1) := by decide +kernel
theorem dX5_feed_26 : decode cX5_feed 26 = .ok (.iload_n 1, 1) := by decide +kernel
theorem dX5_feed_27 : decode cX5_feed 27 = .ok (.invokevirtual 51, 3) := by decide +kernel
theorem dX5_feed_30 : decode cX5_feed 30 = .ok (.aload_n 0, 1) := by decide +kernel
theorem dX5_feed_31 : decode cX5_feed 31 = .ok (.getfield 19, 3) := by decide +kernel
theorem dX5_feed_34 : decode cX5_feed 34 = .ok (.iconst 0, 1) := by decide +kernel
theorem dX5_feed_35 : decode cX5_feed 35 = .ok (.iload_n 1, 1) := by decide +kernel
theorem dX5_feed_36 : decode cX5_feed 36 = .ok (.invokevirtual 51, 3) := by decide +kernel
theorem dX5_feed_39 : decode cX5_feed 39 = .ok (.return_, 1) := by decide +kernel
theorem dX5_goX_0 : decode cX5_goX 0 = .ok (.aload_n 0, 1) := by decide +kernel
theorem dX5_goX_1 : decode cX5_goX 1 = .ok (.getfield 10, 3) := by decide +kernel
theorem dX5_goX_4 : decode cX5_goX 4 = .ok (.aload_n 0, 1) := by decide +kernel
theorem dX5_goX_5 : decode cX5_goX 5 = .ok (.getfield 10, 3) := by decide +kernel
theorem dX5_goX_8 : decode cX5_goX 8 = .ok (.bipush 13, 2) := by decide +kernel
theorem dX5_goX_10 : decode cX5_goX 10 = .ok (.invokevirtual 39, 3) := by decide +kernel
theorem dX5_goX_13 : decode cX5_goX 13 = .ok (.aload_n 0, 1) := by decide +kernel
theorem dX5_goX_14 : decode cX5_goX 14 = .ok (.getfield 10, 3) := by decide +kernel
theorem dX5_goX_17 : decode cX5_goX 17 = .ok (.bipush 16, 2) := by decide +kernel
theorem dX5_goX_19 : decode cX5_goX 19 = .ok (.invokevirtual 39, 3) := by decide +kernel
theorem dX5_goX_22 : decode cX5_goX 22 = .ok (.ixor, 1) := by decide +kernel
theorem dX5_goX_23 : decode cX5_goX 23 = .ok (.aload_n 0, 1) := by decide +kernel
theorem dX5_goX_24 : decode cX5_goX 24 = .ok (.getfield 10, 3) := by decide +kernel
theorem dX5_goX_27 : decode cX5_goX 27 = .ok (.bipush 17, 2) := by decide +kernel
theorem dX5_goX_29 : decode cX5_goX 29 = .ok (.invokevirtual 39, 3) := by decide +kernel
theorem dX5_goX_32 : decode cX5_goX 32 = .ok (.ixor, 1) := by decide +kernel
theorem dX5_goX_33 : decode cX5_goX 33 = .ok (.aload_n 0, 1) := by decide +kernel
theorem dX5_goX_34 : decode cX5_goX 34 = .ok (.getfield 10, 3) := by decide +kernel
theorem dX5_goX_37 : decode cX5_goX 37 = .ok (.bipush 18, 2) := by decide +kernel
theorem dX5_goX_39 : decode cX5_goX 39 = .ok (.invokevirtual 39, 3) := by decide +kernel
theorem dX5_goX_42 : decode cX5_goX 42 = .ok (.ixor, 1) := by decide +kernel
theorem dX5_goX_43 : decode cX5_goX 43 = .ok (.invokevirtual 55, 3) := by decide +kernel
theorem dX5_goX_46 : decode cX5_goX 46 = .ok (.return_, 1) := by decide +kernel
theorem dX5_goY_0 : decode cX5_goY 0 = .ok (.aload_n 0, 1) := by decide +kernel
theorem dX5_goY_1 : decode cX5_goY 1 = .ok (.getfield 16, 3) := by decide +kernel
theorem dX5_goY_4 : decode cX5_goY 4 = .ok (.aload_n 0, 1) := by decide +kernel
theorem dX5_goY_5 : decode cX5_goY 5 = .ok (.getfield 16, 3) := by decide +kernel
theorem dX5_goY_8 : decode cX5_goY 8 = .ok (.bipush 20, 2) := by decide +kernel
theorem dX5_goY_10 : decode cX5_goY 10 = .ok (.invokevirtual 39, 3) := by decide +kernel
theorem dX5_goY_13 : decode cX5_goY 13 = .ok (.aload_n 0, 1) := by decide +kernel
theorem dX5_goY_14 : decode cX5_goY 14 = .ok (.getfield 16, 3) := by decide +kernel
theorem dX5_goY_17 : decode cX5_goY 17 = .ok (.bipush 21, 2) := by decide +kernel
theorem dX5_goY_19 : decode cX5_goY 19 = .ok (.invokevirtual 39, 3) := by decide +kernel
theorem dX5_goY_22 : decode cX5_goY 22 = .ok (.ixor, 1) := by decide +kernel
theorem dX5_goY_23 : decode cX5_goY 23 = .ok (.invokevirtual 55, 3) := by decide +kernel
theorem dX5_goY_26 : decode cX5_goY 26 = .ok (.return_, 1) := by decide +kernel
theorem dX5_goZ_0 : decode cX5_goZ 0 = .ok (.aload_n 0, 1) := by decide +kernel
theorem dX5_goZ_1 : decode cX5_goZ 1 = .ok (.getfield 19, 3) := by decide +kernel
theorem dX5_goZ_4 : decode cX5_goZ 4 = .ok (.aload_n 0, 1) := by decide +kernel
theorem dX5_goZ_5 : decode cX5_goZ 5 = .ok (.getfield 19, 3) := by decide +kernel
theorem dX5_goZ_8 : decode cX5_goZ 8 = .ok (.bipush 7, 2) := by decide +kernel
theorem dX5_goZ_10 : decode cX5_goZ 10 = .ok (.invokevirtual 39, 3) := by decide +kernel
theorem dX5_goZ_13 : decode cX5_goZ 13 = .ok (.aload_n 0, 1) := by decide +kernel
theorem dX5_goZ_14 : decode cX5_goZ 14 = .ok (.getfield 19, 3) := by decide +kernel
theorem dX5_goZ_17 : decode cX5_goZ 17 = .ok (.bipush 20, 2) := by decide +kernel
theorem dX5_goZ_19 : decode cX5_goZ 19 = .ok (.invokevirtual 39, 3) := by decide +kernel
theorem dX5_goZ_22 : decode cX5_goZ 22 = .ok (.ixor, 1) := by decide +kernel
theorem dX5_goZ_23 : decode cX5_goZ 23 = .ok (.aload_n 0, 1) := by decide +kernel
theorem dX5_goZ_24 : decode cX5_goZ 24 = .ok (.getfield 19, 3) := by decide +kernel
theorem dX5_goZ_27 : decode cX5_goZ 27 = .ok (.bipush 21, 2) := by decide +kernel
theorem dX5_goZ_29 : decode cX5_goZ 29 = .ok (.invokevirtual 39, 3) := by decide +kernel
theorem dX5_goZ_32 : decode cX5_goZ 32 = .ok (.ixor, 1) := by decide +kernel
theorem dX5_goZ_33 : decode cX5_goZ 33 = .ok (.aload_n 0, 1) := by decide +kernel
theorem dX5_goZ_34 : decode cX5_goZ 34 = .ok (.getfield 19, 3) := by decide +kernel
theorem dX5_goZ_37 : decode cX5_goZ 37 = .ok (.bipush 22, 2) := by decide +kernel
theorem dX5_goZ_39 : decode cX5_goZ 39 = .ok (.invokevirtual 39, 3) := by decide +kernel
theorem dX5_goZ_42 : decode cX5_goZ 42 = .ok (.ixor, 1) := by decide +kernel
theorem dX5_goZ_43 : decode cX5_goZ 43 = .ok (.invokevirtual 55, 3) := by decide +kernel
theorem dX5_goZ_46 : decode cX5_goZ 46 = .ok (.return_, 1) := by decide +kernel
theorem dX6_init_0 : decode cX6_init 0 = .ok (.aload_n 0, 1) := by decide +kernel
theorem dX6_init_1 : decode cX6_init 1 = .ok (.invokespecial 1, 3) := by decide +kernel
theorem dX6_init_4 : decode cX6_init 4 = .ok (.aload_n 0, 1) := by decide +kernel
theorem dX6_init_5 : decode cX6_init 5 = .ok (.new 7, 3) := by decide +kernel
theorem dX6_init_8 : decode cX6_init 8 = .ok (.dup, 1) := by decide +kernel
theorem dX6_init_9 : decode cX6_init 9 = .ok (.invokespecial 9, 3) := by decide +kernel
theorem dX6_init_12 : decode cX6_init 12 = .ok (.putfield 10, 3) := by decide +kernel
theorem dX6_init_15 : decode cX6_init 15 = .ok (.aload_n 0, 1) := by decide +kernel
theorem dX6_init_16 : decode cX6_init 16 = .ok (.new 7, 3) := by decide +kernel
theorem dX6_init_19 : decode cX6_init 19 = .ok (.dup, 1) := by decide +kernel
theorem dX6_init_20 : decode cX6_init 20 = .ok (.invokespecial 9, 3) := by decide +kernel
theorem dX6_init_23 : decode cX6_init 23 = .ok (.putfield 16, 3) := by decide +kernel
theorem dX6_init_26 : decode cX6_init 26 = .ok (.return_, 1) := by decide +kernel
theorem dX6_takes_0 : decode cX6_takes 0 = .ok (.iload_n 1, 1) := by decide +kernel
theorem dX6_takes_1 : decode cX6_takes 1 = .ok (.bipush 16, 2) := by decide +kernel
theorem dX6_takes_3 : decode cX6_takes 3 = .ok (.if_icmp .ne 13, 3) := by decide +kernel
theorem dX6_takes_6 : decode cX6_takes 6 = .ok (.iload_n 2, 1) := by decide +kernel
theorem dX6_takes_7 : decode cX6_takes 7 = .ok (.bipush 12, 2) := by decide +kernel
theorem dX6_takes_9 : decode cX6_takes 9 = .ok (.if_icmp .ne 7, 3) := by decide +kernel
theorem dX6_takes_12 : decode cX6_takes 12 = .ok (.iconst 1, 1) := by decide +kernel
theorem dX6_takes_13 : decode cX6_takes 13 = .ok (.goto 4, 3) := by decide +kernel
theorem dX6_takes_16 : decode cX6_takes 16 = .ok (.iconst 0, 1) := by decide +kernel
theorem dX6_takes_17 : decode cX6_takes 17 = .ok (.ireturn, 1) := by decide +kernel
theorem dX6_load_0 : decode cX6_load 0 = .ok (.aload_n 0, 1) := by decide +kernel
theorem dX6_load_1 : decode cX6_load 1 = .ok (.getfield 10, 3) := by decide +kernel
theorem dX6_load_4 : decode cX6_load 4 = .ok (.invokevirtual 19, 3) := by decide +kernel
theorem dX6_load_7 : decode cX6_load 7 = .ok (.aload_n 0, 1) := by decide +kernel
theorem dX6_load_8 : decode cX6_load 8 = .ok (.getfield 16, 3) := by decide +kernel
theorem dX6_load_11 : decode cX6_load 11 = .ok (.invokevirtual 19, 3) := by decide +kernel
theorem dX6_load_14 : decode cX6_load 14 = .ok (.iconst 0, 1) := by decide +kernel
theorem dX6_load_15 : decode cX6_load 15 = .ok (.istore_n 3, 1) := by decide +kernel
theorem dX6_load_16 : decode cX6_load 16 = .ok (.iload_n 3, 1) := by decide +kernel
theorem dX6_load_17 : decode cX6_load 17 = .ok (.sipush 128, 3) := by decide +kernel
theorem dX6_load_20 : decode cX6_load 20 = .ok (.if_icmp .ge 22, 3) := by decide +kernel
theorem dX6_load_23 : decode cX6_load 23 = .ok (.aload_n 0, 1) := by decide +kernel
theorem dX6_load_24 : decode cX6_load 24 = .ok (.getfield 10, 3) := by decide +kernel
theorem dX6_load_27 : decode cX6_load 27 = .ok (.iload_n 3, 1) := by decide +kernel
theorem dX6_load_28 : decode cX6_load 28 = .ok (.aload_n 1, 1) := by decide +kernel
theorem dX6_load_29 : decode cX6_load 29 = .ok (.iload_n 3, 1) := by decide +kernel
theorem dX6_load_30 : decode cX6_load 30 = .ok (.invokevirtual 22, 3) := by decide +kernel
theorem dX6_load_33 : decode cX6_load 33 = .ok (.invokevirtual 28, 3) := by decide +kernel
theorem dX6_load_36 : decode cX6_load 36 = .ok (.iinc 3 1, 3) := by decide +kernel
theorem dX6_load_39 : decode cX6_load 39 = .ok (.goto (-23), 3) := by decide +kernel
theorem dX6_load_42 : decode cX6_load 42 = .ok (.iconst 0, 1) := by decide +kernel
theorem dX6_load_43 : decode cX6_load 43 = .ok (.istore_n 3, 1) := by decide +kernel
theorem dX6_load_44 : decode cX6_load 44 = .ok (.iload_n 3, 1) := by decide +kernel
theorem dX6_load_45 : decode cX6_load 45 = .ok (.bipush 96, 2) := by decide +kernel
theorem dX6_load_47 : decode cX6_load 47 = .ok (.if_icmp .ge 22, 3) := by decide +kernel
theorem dX6_load_50 : decode cX6_load 50 = .ok (.aload_n 0, 1) := by decide +kernel
theorem dX6_load_51 : decode cX6_load 51 = .ok (.getfield 16, 3) := by decide +kernel
theorem dX6_load_54 : decode cX6_load 54 = .ok (.iload_n 3, 1) := by decide +kernel
theorem dX6_load_55 : decode cX6_load 55 = .ok (.aload_n 2, 1) := by decide +kernel
theorem dX6_load_56 : decode cX6_load 56 = .ok (.iload_n 3, 1) := by decide +kernel
theorem dX6_load_57 : decode cX6_load 57 = .ok (.invokevirtual 22, 3) := by decide +kernel
theorem dX6_load_60 : decode cX6_load 60 = .ok (.invokevirtual 28, 3) := by decide +kernel
theorem dX6_load_63 : decode cX6_load 63 = .ok (.iinc 3 1, 3) := by decide +kernel
theorem dX6_load_66 : decode cX6_load 66 = .ok (.goto (-22), 3) := by decide +kernel
theorem dX6_load_69 : decode cX6_load 69 = .ok (.bipush 96, 2) := by decide +kernel
theorem dX6_load_71 : decode cX6_load 71 = .ok (.istore_n 3, 1) := by decide +kernel
theorem dX6_load_72 : decode cX6_load 72 = .ok (.iload_n 3, 1) := by decide +kernel
theorem dX6_load_73 : decode cX6_load 73 = .ok (.bipush 127, 2) := by decide +kernel
theorem dX6_load_75 : decode cX6_load 75 = .ok (.if_icmp .ge 18, 3) := by decide +kernel
theorem dX6_load_78 : decode cX6_load 78 = .ok (.aload_n 0, 1) := by decide +kernel
theorem dX6_load_79 : decode cX6_load 79 = .ok (.getfield 16, 3) := by decide +kernel
theorem dX6_load_82 : decode cX6_load 82 = .ok (.iload_n 3, 1) := by decide +kernel
theorem dX6_load_83 : decode cX6_load 83 = .ok (.iconst 1, 1) := by decide +kernel
theorem dX6_load_84 : decode cX6_load 84 = .ok (.invokevirtual 28, 3) := by decide +kernel
theorem dX6_load_87 : decode cX6_load 87 = .ok (.iinc 3 1, 3) := by decide +kernel
theorem dX6_load_90 : decode cX6_load 90 = .ok (.goto (-18), 3) := by decide +kernel
theorem dX6_load_93 : decode cX6_load 93 = .ok (.iconst 0, 1) := by decide +kernel
theorem dX6_load_94 : decode cX6_load 94 = .ok (.istore_n 3, 1) := by decide +kernel
theorem dX6_load_95 : decode cX6_load 95 = .ok (.iload_n 3, 1) := by decide +kernel
theorem dX6_load_96 : decode cX6_load 96 = .ok (.sipush 256, 3) := by decide +kernel
theorem dX6_load_99 : decode cX6_load 99 = .ok (.if_icmp .ge 17, 3) := by decide +kernel
theorem dX6_load_102 : decode cX6_load 102 = .ok (.aload_n 0, 1) := by decide +kernel
theorem dX6_load_103 : decode cX6_load 103 = .ok (.aload_n 0, 1) := by decide +kernel
theorem dX6_load_104 : decode cX6_load 104 = .ok (.invokevirtual 32, 3) := by decide +kernel
theorem dX6_load_107 : decode cX6_load 107 = .ok (.invokevirtual 36, 3) := by decide +kernel
theorem dX6_load_110 : decode cX6_load 110 = .ok (.iinc 3 1, 3) := by decide +kernel
theorem dX6_load_113 : decode cX6_load 113 = .ok (.goto (-18), 3) := by decide +kernel
theorem dX6_load_116 : decode cX6_load 116 = .ok (.return_, 1) := by decide +kernel
theorem dX6_nextBit_0 : decode cX6_nextBit 0 = .ok (.aload_n 0, 1) := by decide +kernel
theorem dX6_nextBit_1 : decode cX6_nextBit 1 = .ok (.invokevirtual 32, 3) := by decide +kernel
theorem dX6_nextBit_4 : decode cX6_nextBit 4 = .ok (.istore_n 1, 1) := by decide +kernel
theorem dX6_nextBit_5 : decode cX6_nextBit 5 = .ok (.aload_n 0, 1) := by decide +kernel
theorem dX6_nextBit_6 : decode cX6_nextBit 6 = .ok (.iconst 0, 1) := by decide +kernel
theorem dX6_nextBit_7 : decode cX6_nextBit 7 = .ok (.invokevirtual 36, 3) := by decide +kernel
theorem dX6_nextBit_10 : decode cX6_nextBit 10 = .ok (.iload_n 1, 1) := by decide +kernel
theorem dX6_nextBit_11 : decode cX6_nextBit 11 = .ok (.ireturn, 1) := by decide +kernel
theorem dX6_output_0 : decode cX6_output 0 = .ok (.aload_n 0, 1) := by decide +kernel
theorem dX6_output_1 : decode cX6_output 1 = .ok (.getfield 10, 3) := by decide +kernel
theorem dX6_output_4 : decode cX6_output 4 = .ok (.bipush 12, 2) := by decide +kernel
theorem dX6_output_6 : decode cX6_output 6 = .ok (.invokevirtual 40, 3) := by decide +kernel
theorem dX6_output_9 : decode cX6_output 9 = .ok (.aload_n 0, 1) := by decide +kernel
theorem dX6_output_10 : decode cX6_output 10 = .ok (.getfield 16, 3) := by decide +kernel
theorem dX6_output_13 : decode cX6_output 13 = .ok (.bipush 8, 2) := by decide +kernel
theorem dX6_output_15 : decode cX6_output 15 = .ok (.invokevirtual 40, 3) := by decide +kernel
theorem dX6_output_18 : decode cX6_output 18 = .ok (.iand, 1) := by decide +kernel
theorem dX6_output_19 : decode cX6_output 19 = .ok (.aload_n 0, 1) := by decide +kernel
theorem dX6_output_20 : decode cX6_output 20 = .ok (.getfield 16, 3) := by decide +kernel
theorem dX6_output_23 : decode cX6_output 23 = .ok (.bipush 13, 2) := by decide +kernel
theorem dX6_output_25 : decode cX6_output 25 = .ok (.invokevirtual 40, 3) := by decide +kernel
theorem dX6_output_28 : decode cX6_output 28 = .ok (.aload_n 0, 1) := by decide +kernel
theorem dX6_output_29 : decode cX6_output 29 = .ok (.getfield 16, 3) := by decide +kernel
theorem dX6_output_32 : decode cX6_output 32 = .ok (.bipush 20, 2) := by decide +kernel
theorem dX6_output_34 : decode cX6_output 34 = .ok (.invokevirtual 40, 3) := by decide +kernel
theorem dX6_output_37 : decode cX6_output 37 = .ok (.iand, 1) := by decide +kernel
theorem dX6_output_38 : decode cX6_output 38 = .ok (.ixor, 1) := by decide +kernel
theorem dX6_output_39 : decode cX6_output 39 = .ok (.aload_n 0, 1) := by decide +kernel
theorem dX6_output_40 : decode cX6_output 40 = .ok (.getfield 10, 3) := by decide +kernel
theorem dX6_output_43 : decode cX6_output 43 = .ok (.bipush 95, 2) := by decide +kernel
theorem dX6_output_45 : decode cX6_output 45 = .ok (.invokevirtual 40, 3) := by decide +kernel
theorem dX6_output_48 : decode cX6_output 48 = .ok (.aload_n 0, 1) := by decide +kernel
theorem dX6_output_49 : decode cX6_output 49 = .ok (.getfield 16, 3) := by decide +kernel
theorem dX6_output_52 : decode cX6_output 52 = .ok (.bipush 42, 2) := by decide +kernel
theorem dX6_output_54 : decode cX6_output 54 = .ok (.invokevirtual 40, 3) := by decide +kernel
theorem dX6_output_57 : decode cX6_output 57 = .ok (.iand, 1) := by decide +kernel
theorem dX6_output_58 : decode cX6_output 58 = .ok (.ixor, 1) := by decide +kernel
theorem dX6_output_59 : decode cX6_output 59 = .ok (.aload_n 0, 1) := by decide +kernel
theorem dX6_output_60 : decode cX6_output 60 = .ok (.getfield 16, 3) := by decide +kernel
theorem dX6_output_63 : decode cX6_output 63 = .ok (.bipush 60, 2) := by decide +kernel
theorem dX6_output_65 : decode cX6_output 65 = .ok (.invokevirtual 40, 3) := by decide +kernel
theorem dX6_output_68 : decode cX6_output 68 = .ok (.aload_n 0, 1) := by decide +kernel
theorem dX6_output_69 : decode cX6_output 69 = .ok (.getfield 16, 3) := by decide +kernel
theorem dX6_output_72 : decode cX6_output 72 = .ok (.bipush 79, 2) := by decide +kernel
theorem dX6_output_74 : decode cX6_output 74 = .ok (.invokevirtual 40, 3) := by decide +kernel
theorem dX6_output_77 : decode cX6_output 77 = .ok (.iand, 1) := by decide +kernel
theorem dX6_output_78 : decode cX6_output 78 = .ok (.ixor, 1) := by decide +kernel
theorem dX6_output_79 : decode cX6_output 79 = .ok (.aload_n 0, 1) := by decide +kernel
theorem dX6_output_80 : decode cX6_output 80 = .ok (.getfield 10, 3) := by decide +kernel
theorem dX6_output_83 : decode cX6_output 83 = .ok (.bipush 12, 2) := by decide +kernel
theorem dX6_output_85 : decode cX6_output 85 = .ok (.invokevirtual 40, 3) := by decide +kernel
theorem dX6_output_88 : decode cX6_output 88 = .ok (.aload_n 0, 1) := by decide +kernel
theorem dX6_output_89 : decode cX6_output 89 = .ok (.getfield 10, 3) := by decide +kernel
theorem dX6_output_92 : decode cX6_output 92 = .ok (.bipush 95, 2) := by decide +kernel
theorem dX6_output_94 : decode cX6_output 94 = .ok (.invokevirtual 40, 3) := by decide +kernel
theorem dX6_output_97 : decode cX6_output 97 = .ok (.iand, 1) := by decide +kernel
theorem dX6_output_98 : decode cX6_output 98 = .ok (.aload_n 0, 1) := by decide +kernel
theorem dX6_output_99 : decode cX6_output 99 = .ok (.getfield 16, 3) := by decide +kernel
theorem dX6_output_102 : decode cX6_output 102 = .ok (.bipush 94, 2) := by decide +kernel
theorem dX6_output_104 : decode cX6_output 104 = .ok (.invokevirtual 40, 3) := by decide +kernel
theorem dX6_output_107 : decode cX6_output 107 = .ok (.iand, 1) := by decide +kernel
theorem dX6_output_108 : decode cX6_output 108 = .ok (.ixor, 1) := by decide +kernel
theorem dX6_output_109 : decode cX6_output 109 = .ok (.aload_n 0, 1) := by decide +kernel
theorem dX6_output_110 : decode cX6_output 110 = .ok (.getfield 16, 3) := by decide +kernel
theorem dX6_output_113 : decode cX6_output 113 = .ok (.bipush 93, 2) := by decide +kernel
theorem dX6_output_115 : decode cX6_output 115 = .ok (.invokevirtual 40, 3) := by decide +kernel
theorem dX6_output_118 : decode cX6_output 118 = .ok (.ixor, 1) := by decide +kernel
theorem dX6_output_119 : decode cX6_output 119 = .ok (.aload_n 0, 1) := by decide +kernel
theorem dX6_output_120 : decode cX6_output 120 = .ok (.getfield 10, 3) := by decide +kernel
theorem dX6_output_123 : decode cX6_output 123 = .ok (.iconst 2, 1) := by decide +kernel
theorem dX6_output_124 : decode cX6_output 124 = .ok (.invokevirtual 40, 3) := by decide +kernel
theorem dX6_output_127 : decode cX6_output 127 = .ok (.ixor, 1) := by decide +kernel
theorem dX6_output_128 : decode cX6_output 128 = .ok (.aload_n 0, 1) := by decide +kernel
theorem dX6_output_129 : decode cX6_output 129 = .ok (.getfield 10, 3) := by decide +kernel
theorem dX6_output_132 : decode cX6_output 132 = .ok (.bipush 15, 2) := by decide +kernel
theorem dX6_output_134 : decode cX6_output 134 = .ok (.invokevirtual 40, 3) := by decide +kernel
theorem dX6_output_137 : decode cX6_output 137 = .ok (.ixor, 1) := by decide +kernel
theorem dX6_output_138 : decode cX6_output 138 = .ok (.aload_n 0, 1) := by decide +kernel
theorem dX6_output_139 : decode cX6_output 139 = .ok (.getfield 10, 3) := by decide +kernel
theorem dX6_output_142 : decode cX6_output 142 = .ok (.bipush 36, 2) := by decide +kernel
theorem dX6_output_144 : decode cX6_output 144 = .ok (.invokevirtual 40, 3) := by decide +kernel
theorem dX6_output_147 : decode cX6_output 147 = .ok (.ixor, 1) := by decide +kernel
theorem dX6_output_148 : decode cX6_output 148 = .ok (.aload_n 0, 1) := by decide +kernel
theorem dX6_output_149 : decode cX6_output 149 = .ok (.getfield 10, 3) := by decide +kernel
theorem dX6_output_152 : decode cX6_output 152 = .ok (.bipush 45, 2) := by decide +kernel
theorem dX6_output_154 : decode cX6_output 154 = .ok (.invokevirtual 40, 3) := by decide +kernel
theorem dX6_output_157 : decode cX6_output 157 = .ok (.ixor, 1) := by decide +kernel
theorem dX6_output_158 : decode cX6_output 158 = .ok (.aload_n 0, 1) := by decide +kernel
theorem dX6_output_159 : decode cX6_output 159 = .ok (.getfield 10, 3) := by decide +kernel
theorem dX6_output_162 : decode cX6_output 162 = .ok (.bipush 64, 2) := by decide +kernel
theorem dX6_output_164 : decode cX6_output 164 = .ok (.invokevirtual 40, 3) := by decide +kernel
theorem dX6_output_167 : decode cX6_output 167 = .ok (.ixor, 1) := by decide +kernel
theorem dX6_output_168 : decode cX6_output 168 = .ok (.aload_n 0, 1) := by decide +kernel
theorem dX6_output_169 : decode cX6_output 169 = .ok (.getfield 10, 3) := by decide +kernel
theorem dX6_output_172 : decode cX6_output 172 = .ok (.bipush 73, 2) := by decide +kernel
theorem dX6_output_174 : decode cX6_output 174 = .ok (.invokevirtual 40, 3) := by decide +kernel
theorem dX6_output_177 : decode cX6_output 177 = .ok (.ixor, 1) := by decide +kernel
theorem dX6_output_178 : decode cX6_output 178 = .ok (.aload_n 0, 1) := by decide +kernel
theorem dX6_output_179 : decode cX6_output 179 = .ok (.getfield 10, 3) := by decide +kernel
theorem dX6_output_182 : decode cX6_output 182 = .ok (.bipush 89, 2) := by decide +kernel
theorem dX6_output_184 : decode cX6_output 184 = .ok (.invokevirtual 40, 3) := by decide +kernel
theorem dX6_output_187 : decode cX6_output 187 = .ok (.ixor, 1) := by decide +kernel
theorem dX6_output_188 : decode cX6_output 188 = .ok (.ireturn, 1) := by decide +kernel
theorem dX6_move_0 : decode cX6_move 0 = .ok (.aload_n 0, 1) := by decide +kernel
theorem dX6_move_1 : decode cX6_move 1 = .ok (.invokevirtual 43, 3) := by decide +kernel
theorem dX6_move_4 : decode cX6_move 4 = .ok (.iload_n 1, 1) := by decide +kernel
theorem dX6_move_5 : decode cX6_move 5 = .ok (.ixor, 1) := by decide +kernel
theorem dX6_move_6 : decode cX6_move 6 = .ok (.istore_n 2, 1) := by decide +kernel
theorem dX6_move_7 : decode cX6_move 7 = .ok (.aload_n 0, 1) := by decide +kernel
theorem dX6_move_8 : decode cX6_move 8 = .ok (.invokevirtual 46, 3) := by decide +kernel
theorem dX6_move_11 : decode cX6_move 11 = .ok (.iload_n 1, 1) := by decide +kernel
theorem dX6_move_12 : decode cX6_move 12 = .ok (.ixor, 1) := by decide +kernel
theorem dX6_move_13 : decode cX6_move 13 = .ok (.istore_n 3, 1) := by decide +kernel
theorem dX6_move_14 : decode cX6_move 14 = .ok (.aload_n 0, 1) := by decide +kernel
theorem dX6_move_15 : decode cX6_move 15 = .ok (.getfield 16, 3) := by decide +kernel
theorem dX6_move_18 : decode cX6_move 18 = .ok (.iload_n 2, 1) := by decide +kernel
theorem dX6_move_19 : decode cX6_move 19 = .ok (.invokevirtual 49, 3) := by decide +kernel
theorem dX6_move_22 : decode cX6_move 22 = .ok (.aload_n 0, 1) := by decide +kernel
theorem dX6_move_23 : decode cX6_move 23 = .ok (.getfield 10, 3) := by decide +kernel
theorem dX6_move_26 : decode cX6_move 26 = .ok (.iload_n 3, 1) := by decide +kernel
theorem dX6_move_27 : decode cX6_move 27 = .ok (.invokevirtual 49, 3) := by decide +kernel
theorem dX6_move_30 : decode cX6_move 30 = .ok (.return_, 1) := by decide +kernel
theorem dX6_newBitOfS_0 : decode cX6_newBitOfS 0 = .ok (.aload_n 0, 1) := by decide +kernel
theorem dX6_newBitOfS_1 : decode cX6_newBitOfS 1 = .ok (.getfield 16, 3) := by decide +kernel
theorem dX6_newBitOfS_4 : decode cX6_newBitOfS 4 = .ok (.iconst 0, 1) := by decide +kernel
theorem dX6_newBitOfS_5 : decode cX6_newBitOfS 5 = .ok (.invokevirtual 40, 3) := by decide +kernel
theorem dX6_newBitOfS_8 : decode cX6_newBitOfS 8 = .ok (.aload_n 0, 1) := by decide +kernel
theorem dX6_newBitOfS_9 : decode cX6_newBitOfS 9 = .ok (.getfield 16, 3) := by decide +kernel
theorem dX6_newBitOfS_12 : decode cX6_newBitOfS 12 = .ok (.bipush 7, 2) := by decide +kernel
theorem dX6_newBitOfS_14 : decode cX6_newBitOfS 14 = .ok (.invokevirtual 40, 3) := by decide +kernel
theorem dX6_newBitOfS_17 : decode cX6_newBitOfS 17 = .ok (.ixor, 1) := by decide +kernel
theorem dX6_newBitOfS_18 : decode cX6_newBitOfS 18 = .ok (.aload_n 0, 1) := by decide +kernel
theorem dX6_newBitOfS_19 : decode cX6_newBitOfS 19 = .ok (.getfield 16, 3) := by decide +kernel
theorem dX6_newBitOfS_22 : decode cX6_newBitOfS 22 = .ok (.bipush 38, 2) := by decide +kernel
theorem dX6_newBitOfS_24 : decode cX6_newBitOfS 24 = .ok (.invokevirtual 40, 3) := by decide +kernel
theorem dX6_newBitOfS_27 : decode cX6_newBitOfS 27 = .ok (.ixor, 1) := by decide +kernel
theorem dX6_newBitOfS_28 : decode cX6_newBitOfS 28 = .ok (.aload_n 0, 1) := by decide +kernel
theorem dX6_newBitOfS_29 : decode cX6_newBitOfS 29 = .ok (.getfield 16, 3) := by decide +kernel
theorem dX6_newBitOfS_32 : decode cX6_newBitOfS 32 = .ok (.bipush 70, 2) := by decide +kernel
theorem dX6_newBitOfS_34 : decode cX6_newBitOfS 34 = .ok (.invokevirtual 40, 3) := by decide +kernel
theorem dX6_newBitOfS_37 : decode cX6_newBitOfS 37 = .ok (.ixor, 1) := by decide +kernel
theorem dX6_newBitOfS_38 : decode cX6_newBitOfS 38 = .ok (.aload_n 0, 1) := by decide +kernel
theorem dX6_newBitOfS_39 : decode cX6_newBitOfS 39 = .ok (.getfield 16, 3) := by decide +kernel
theorem dX6_newBitOfS_42 : decode cX6_newBitOfS 42 = .ok (.bipush 81, 2) := by decide +kernel
theorem dX6_newBitOfS_44 : decode cX6_newBitOfS 44 = .ok (.invokevirtual 40, 3) := by decide +kernel
theorem dX6_newBitOfS_47 : decode cX6_newBitOfS 47 = .ok (.ixor, 1) := by decide +kernel
theorem dX6_newBitOfS_48 : decode cX6_newBitOfS 48 = .ok (.aload_n 0, 1) := by decide +kernel
theorem dX6_newBitOfS_49 : decode cX6_newBitOfS 49 = .ok (.getfield 16, 3) := by decide +kernel
theorem dX6_newBitOfS_52 : decode cX6_newBitOfS 52 = .ok (.bipush 96, 2) := by decide +kernel
theorem dX6_newBitOfS_54 : decode cX6_newBitOfS 54 = .ok (.invokevirtual 40, 3) := by decide +kernel
theorem dX6_newBitOfS_57 : decode cX6_newBitOfS 57 = .ok (.ixor, 1) := by decide +kernel
theorem dX6_newBitOfS_58 : decode cX6_newBitOfS 58 = .ok (.ireturn, 1) := by decide +kernel
theorem dX6_newBitOfB_0 : decode cX6_newBitOfB 0 = .ok (.aload_n 0, 1) := by decide +kernel
theorem dX6_newBitOfB_1 : decode cX6_newBitOfB 1 = .ok (.getfield 16, 3) := by decide +kernel
theorem dX6_newBitOfB_4 : decode cX6_newBitOfB 4 = .ok (.iconst 0, 1) := by decide +kernel
theorem dX6_newBitOfB_5 : decode cX6_newBitOfB 5 = .ok (.invokevirtual 40, 3) := by decide +kernel
theorem dX6_newBitOfB_8 : decode cX6_newBitOfB 8 = .ok (.aload_n 0, 1) := by decide +kernel
theorem dX6_newBitOfB_9 : decode cX6_newBitOfB 9 = .ok (.getfield 10, 3) := by decide +kernel
theorem dX6_newBitOfB_12 : decode cX6_newBitOfB 12 = .ok (.iconst 0, 1) := by decide +kernel
theorem dX6_newBitOfB_13 : decode cX6_newBitOfB 13 = .ok (.invokevirtual 40, 3) := by decide +kernel
theorem dX6_newBitOfB_16 : decode cX6_newBitOfB 16 = .ok (.ixor, 1) := by decide +kernel
theorem dX6_newBitOfB_17 : decode cX6_newBitOfB 17 = .ok (.aload_n 0, 1) := by decide +kernel
theorem dX6_newBitOfB_18 : decode cX6_newBitOfB 18 = .ok (.getfield 10, 3) := by decide +kernel
theorem dX6_newBitOfB_21 : decode cX6_newBitOfB 21 = .ok (.bipush 26, 2) := by decide +kernel
theorem dX6_newBitOfB_23 : decode cX6_newBitOfB 23 = .ok (.invokevirtual 40, 3) := by decide +kernel
theorem dX6_newBitOfB_26 : decode cX6_newBitOfB 26 = .ok (.ixor, 1) := by decide +kernel
theorem dX6_newBitOfB_27 : decode cX6_newBitOfB 27 = .ok (.aload_n 0, 1) := by decide +kernel
theorem dX6_newBitOfB_28 : decode cX6_newBitOfB 28 = .ok (.getfield 10, 3) := by decide +kernel
theorem dX6_newBitOfB_31 : decode cX6_newBitOfB 31 = .ok (.bipush 56, 2) := by decide +kernel
theorem dX6_newBitOfB_33 : decode cX6_newBitOfB 33 = .ok (.invokevirtual 40, 3) := by decide +kernel
theorem dX6_newBitOfB_36 : decode cX6_newBitOfB 36 = .ok (.ixor, 1) := by decide +kernel
theorem dX6_newBitOfB_37 : decode cX6_newBitOfB 37 = .ok (.aload_n 0, 1) := by decide +kernel
theorem dX6_newBitOfB_38 : decode cX6_newBitOfB 38 = .ok (.getfield 10, 3) := by decide +kernel
theorem dX6_newBitOfB_41 : decode cX6_newBitOfB 41 = .ok (.bipush 91, 2) := by decide +kernel
theorem dX6_newBitOfB_43 : decode cX6_newBitOfB 43 = .ok (.invokevirtual 40, 3) := by decide +kernel
theorem dX6_newBitOfB_46 : decode cX6_newBitOfB 46 = .ok (.ixor, 1) := by decide +kernel
theorem dX6_newBitOfB_47 : decode cX6_newBitOfB 47 = .ok (.aload_n 0, 1) := by decide +kernel
theorem dX6_newBitOfB_48 : decode cX6_newBitOfB 48 = .ok (.getfield 10, 3) := by decide +kernel
theorem dX6_newBitOfB_51 : decode cX6_newBitOfB 51 = .ok (.bipush 96, 2) := by decide +kernel
theorem dX6_newBitOfB_53 : decode cX6_newBitOfB 53 = .ok (.invokevirtual 40, 3) := by decide +kernel
theorem dX6_newBitOfB_56 : decode cX6_newBitOfB 56 = .ok (.ixor, 1) := by decide +kernel
theorem dX6_newBitOfB_57 : decode cX6_newBitOfB 57 = .ok (.aload_n 0, 1) := by decide +kernel
theorem dX6_newBitOfB_58 : decode cX6_newBitOfB 58 = .ok (.getfield 10, 3) := by decide +kernel
theorem dX6_newBitOfB_61 : decode cX6_newBitOfB 61 = .ok (.iconst 3, 1) := by decide +kernel
theorem dX6_newBitOfB_62 : decode cX6_newBitOfB 62 = .ok (.invokevirtual 40, 3) := by decide +kernel
theorem dX6_newBitOfB_65 : decode cX6_newBitOfB 65 = .ok (.aload_n 0, 1) := by decide +kernel
theorem dX6_newBitOfB_66 : decode cX6_newBitOfB 66 = .ok (.getfield 10, 3) := by decide +kernel
theorem dX6_newBitOfB_69 : decode cX6_newBitOfB 69 = .ok (.bipush 67, 2) := by decide +kernel
theorem dX6_newBitOfB_71 : decode cX6_newBitOfB 71 = .ok (.invokevirtual 40, 3) := by decide +kernel
theorem dX6_newBitOfB_74 : decode cX6_newBitOfB 74 = .ok (.iand, 1) := by decide +kernel
theorem dX6_newBitOfB_75 : decode cX6_newBitOfB 75 = .ok (.ixor, 1) := by decide +kernel
theorem dX6_newBitOfB_76 : decode cX6_newBitOfB 76 = .ok (.aload_n 0, 1) := by decide +kernel
theorem dX6_newBitOfB_77 : decode cX6_newBitOfB 77 = .ok (.getfield 10, 3) := by decide +kernel
theorem dX6_newBitOfB_80 : decode cX6_newBitOfB 80 = .ok (.bipush 11, 2) := by decide +kernel
theorem dX6_newBitOfB_82 : decode cX6_newBitOfB 82 = .ok (.invokevirtual 40, 3) := by decide +kernel
theorem dX6_newBitOfB_85 : decode cX6_newBitOfB 85 = .ok (.aload_n 0, 1) := by decide +kernel
theorem dX6_newBitOfB_86 : decode cX6_newBitOfB 86 = .ok (.getfield 10, 3) := by decide +kernel
theorem dX6_newBitOfB_89 : decode cX6_newBitOfB 89 = .ok (.bipush 13, 2) := by decide +kernel
theorem dX6_newBitOfB_91 : decode cX6_newBitOfB 91 = .ok (.invokevirtual 40, 3) := by decide +kernel
theorem dX6_newBitOfB_94 : decode cX6_newBitOfB 94 = .ok (.iand, 1) := by decide +kernel
theorem dX6_newBitOfB_95 : decode cX6_newBitOfB 95 = .ok (.ixor, 1) := by decide +kernel
theorem dX6_newBitOfB_96 : decode cX6_newBitOfB 96 = .ok (.aload_n 0, 1) := by decide +kernel
theorem dX6_newBitOfB_97 : decode cX6_newBitOfB 97 = .ok (.getfield 10, 3) := by decide +kernel
theorem dX6_newBitOfB_100 : decode cX6_newBitOfB 100 = .ok (.bipush 17, 2) := by decide +kernel
theorem dX6_newBitOfB_102 : decode cX6_newBitOfB 102 = .ok (.invokevirtual 40, 3) := by decide +kernel
theorem dX6_newBitOfB_105 : decode cX6_newBitOfB 105 = .ok (.aload_n 0, 1) := by decide +kernel
theorem dX6_newBitOfB_106 : decode cX6_newBitOfB 106 = .ok (.getfield 10, 3) := by decide +kernel
theorem dX6_newBitOfB_109 : decode cX6_newBitOfB 109 = .ok (.bipush 18, 2) := by decide +kernel
theorem dX6_newBitOfB_111 : decode cX6_newBitOfB 111 = .ok (.invokevirtual 40, 3) := by decide +kernel
theorem dX6_newBitOfB_114 : decode cX6_newBitOfB 114 = .ok (.iand, 1) := by decide +kernel
theorem dX6_newBitOfB_115 : decode cX6_newBitOfB 115 = .ok (.ixor, 1) := by decide +kernel
theorem dX6_newBitOfB_116 : decode cX6_newBitOfB 116 = .ok (.aload_n 0, 1) := by decide +kernel
theorem dX6_newBitOfB_117 : decode cX6_newBitOfB 117 = .ok (.getfield 10, 3) := by decide +kernel
theorem dX6_newBitOfB_120 : decode cX6_newBitOfB 120 = .ok (.bipush 27, 2) := by decide +kernel
theorem dX6_newBitOfB_122 : decode cX6_newBitOfB 122 = .ok (.invokevirtual 40, 3) := by decide +kernel
theorem dX6_newBitOfB_125 : decode cX6_newBitOfB 125 = .ok (.aload_n 0, 1) := by decide +kernel
theorem dX6_newBitOfB_126 : decode cX6_newBitOfB 126 = .ok (.getfield 10, 3) := by decide +kernel
theorem dX6_newBitOfB_129 : decode cX6_newBitOfB 129 = .ok (.bipush 59, 2) := by decide +kernel
theorem dX6_newBitOfB_131 : decode cX6_newBitOfB 131 = .ok (.invokevirtual 40, 3) := by decide +kernel
theorem dX6_newBitOfB_134 : decode cX6_newBitOfB 134 = .ok (.iand, 1) := by decide +kernel
theorem dX6_newBitOfB_135 : decode cX6_newBitOfB 135 = .ok (.ixor, 1) := by decide +kernel
theorem dX6_newBitOfB_136 : decode cX6_newBitOfB 136 = .ok (.aload_n 0, 1) := by decide +kernel
theorem dX6_newBitOfB_137 : decode cX6_newBitOfB 137 = .ok (.getfield 10, 3) := by decide +kernel
theorem dX6_newBitOfB_140 : decode cX6_newBitOfB 140 = .ok (.bipush 40, 2) := by decide +kernel
theorem dX6_newBitOfB_142 : decode cX6_newBitOfB 142 = .ok (.invokevirtual 40, 3) := by decide +kernel
theorem dX6_newBitOfB_145 : decode cX6_newBitOfB 145 = .ok (.aload_n 0, 1) := by decide +kernel
theorem dX6_newBitOfB_146 : decode cX6_newBitOfB 146 = .ok (.getfield 10, 3) := by decide +kernel
theorem dX6_newBitOfB_149 : decode cX6_newBitOfB 149 = .ok (.bipush 48, 2) := by decide +kernel
theorem dX6_newBitOfB_151 : decode cX6_newBitOfB 151 = .ok (.invokevirtual 40, 3) := by decide +kernel
theorem dX6_newBitOfB_154 : decode cX6_newBitOfB 154 = .ok (.iand, 1) := by decide +kernel
theorem dX6_newBitOfB_155 : decode cX6_newBitOfB 155 = .ok (.ixor, 1) := by decide +kernel
theorem dX6_newBitOfB_156 : decode cX6_newBitOfB 156 = .ok (.aload_n 0, 1) := by decide +kernel
theorem dX6_newBitOfB_157 : decode cX6_newBitOfB 157 = .ok (.getfield 10, 3) := by decide +kernel
theorem dX6_newBitOfB_160 : decode cX6_newBitOfB 160 = .ok (.bipush 61, 2) := by decide +kernel
theorem dX6_newBitOfB_162 : decode cX6_newBitOfB 162 = .ok (.invokevirtual 40, 3) := by decide +kernel
theorem dX6_newBitOfB_165 : decode cX6_newBitOfB 165 = .ok (.aload_n 0, 1) := by decide +kernel
theorem dX6_newBitOfB_166 : decode cX6_newBitOfB 166 = .ok (.getfield 10, 3) := by decide +kernel
theorem dX6_newBitOfB_169 : decode cX6_newBitOfB 169 = .ok (.bipush 65, 2) := by decide +kernel
theorem dX6_newBitOfB_171 : decode cX6_newBitOfB 171 = .ok (.invokevirtual 40, 3) := by decide +kernel
theorem dX6_newBitOfB_174 : decode cX6_newBitOfB 174 = .ok (.iand, 1) := by decide +kernel
theorem dX6_newBitOfB_175 : decode cX6_newBitOfB 175 = .ok (.ixor, 1) := by decide +kernel
theorem dX6_newBitOfB_176 : decode cX6_newBitOfB 176 = .ok (.aload_n 0, 1) := by decide +kernel
theorem dX6_newBitOfB_177 : decode cX6_newBitOfB 177 = .ok (.getfield 10, 3) := by decide +kernel
theorem dX6_newBitOfB_180 : decode cX6_newBitOfB 180 = .ok (.bipush 68, 2) := by decide +kernel
theorem dX6_newBitOfB_182 : decode cX6_newBitOfB 182 = .ok (.invokevirtual 40, 3) := by decide +kernel
theorem dX6_newBitOfB_185 : decode cX6_newBitOfB 185 = .ok (.aload_n 0, 1) := by decide +kernel
theorem dX6_newBitOfB_186 : decode cX6_newBitOfB 186 = .ok (.getfield 10, 3) := by decide +kernel
theorem dX6_newBitOfB_189 : decode cX6_newBitOfB 189 = .ok (.bipush 84, 2) := by decide +kernel
theorem dX6_newBitOfB_191 : decode cX6_newBitOfB 191 = .ok (.invokevirtual 40, 3) := by decide +kernel
theorem dX6_newBitOfB_194 : decode cX6_newBitOfB 194 = .ok (.iand, 1) := by decide +kernel
theorem dX6_newBitOfB_195 : decode cX6_newBitOfB 195 = .ok (.ixor, 1) := by decide +kernel
theorem dX6_newBitOfB_196 : decode cX6_newBitOfB 196 = .ok (.aload_n 0, 1) := by decide +kernel
theorem dX6_newBitOfB_197 : decode cX6_newBitOfB 197 = .ok (.getfield 10, 3) := by decide +kernel
theorem dX6_newBitOfB_200 : decode cX6_newBitOfB 200 = .ok (.bipush 88, 2) := by decide +kernel
theorem dX6_newBitOfB_202 : decode cX6_newBitOfB 202 = .ok (.invokevirtual 40, 3) := by decide +kernel
theorem dX6_newBitOfB_205 : decode cX6_newBitOfB 205 = .ok (.aload_n 0, 1) := by decide +kernel
theorem dX6_newBitOfB_206 : decode cX6_newBitOfB 206 = .ok (.getfield 10, 3) := by decide +kernel
theorem dX6_newBitOfB_209 : decode cX6_newBitOfB 209 = .ok (.bipush 92, 2) := by decide +kernel
theorem dX6_newBitOfB_211 : decode cX6_newBitOfB 211 = .ok (.invokevirtual 40, 3) := by decide +kernel
theorem dX6_newBitOfB_214 : decode cX6_newBitOfB 214 = .ok (.iand, 1) := by decide +kernel
theorem dX6_newBitOfB_215 : decode cX6_newBitOfB 215 = .ok (.aload_n 0, 1) := by decide +kernel
theorem dX6_newBitOfB_216 : decode cX6_newBitOfB 216 = .ok (.getfield 10, 3) := by decide +kernel
theorem dX6_newBitOfB_219 : decode cX6_newBitOfB 219 = .ok (.bipush 93, 2) := by decide +kernel
theorem dX6_newBitOfB_221 : decode cX6_newBitOfB 221 = .ok (.invokevirtual 40, 3) := by decide +kernel
theorem dX6_newBitOfB_224 : decode cX6_newBitOfB 224 = .ok (.iand, 1) := by decide +kernel
theorem dX6_newBitOfB_225 : decode cX6_newBitOfB 225 = .ok (.aload_n 0, 1) := by decide +kernel
theorem dX6_newBitOfB_226 : decode cX6_newBitOfB 226 = .ok (.getfield 10, 3) := by decide +kernel
theorem dX6_newBitOfB_229 : decode cX6_newBitOfB 229 = .ok (.bipush 95, 2) := by decide +kernel
theorem dX6_newBitOfB_231 : decode cX6_newBitOfB 231 = .ok (.invokevirtual 40, 3) := by decide +kernel
theorem dX6_newBitOfB_234 : decode cX6_newBitOfB 234 = .ok (.iand, 1) := by decide +kernel
theorem dX6_newBitOfB_235 : decode cX6_newBitOfB 235 = .ok (.ixor, 1) := by decide +kernel
theorem dX6_newBitOfB_236 : decode cX6_newBitOfB 236 = .ok (.aload_n 0, 1) := by decide +kernel
theorem dX6_newBitOfB_237 : decode cX6_newBitOfB 237 = .ok (.getfield 10, 3) := by decide +kernel
theorem dX6_newBitOfB_240 : decode cX6_newBitOfB 240 = .ok (.bipush 22, 2) := by decide +kernel
theorem dX6_newBitOfB_242 : decode cX6_newBitOfB 242 = .ok (.invokevirtual 40, 3) := by decide +kernel
theorem dX6_newBitOfB_245 : decode cX6_newBitOfB 245 = .ok (.aload_n 0, 1) := by decide +kernel
theorem dX6_newBitOfB_246 : decode cX6_newBitOfB 246 = .ok (.getfield 10, 3) := by decide +kernel
theorem dX6_newBitOfB_249 : decode cX6_newBitOfB 249 = .ok (.bipush 24, 2) := by decide +kernel
theorem dX6_newBitOfB_251 : decode cX6_newBitOfB 251 = .ok (.invokevirtual 40, 3) := by decide +kernel
theorem dX6_newBitOfB_254 : decode cX6_newBitOfB 254 = .ok (.iand, 1) := by decide +kernel
theorem dX6_newBitOfB_255 : decode cX6_newBitOfB 255 = .ok (.aload_n 0, 1) := by decide +kernel
theorem dX6_newBitOfB_256 : decode cX6_newBitOfB 256 = .ok (.getfield 10, 3) := by decide +kernel
theorem dX6_newBitOfB_259 : decode cX6_newBitOfB 259 = .ok (.bipush 25, 2) := by decide +kernel
theorem dX6_newBitOfB_261 : decode cX6_newBitOfB 261 = .ok (.invokevirtual 40, 3) := by decide +kernel
theorem dX6_newBitOfB_264 : decode cX6_newBitOfB 264 = .ok (.iand, 1) := by decide +kernel
theorem dX6_newBitOfB_265 : decode cX6_newBitOfB 265 = .ok (.ixor, 1) := by decide +kernel
theorem dX6_newBitOfB_266 : decode cX6_newBitOfB 266 = .ok (.aload_n 0, 1) := by decide +kernel
theorem dX6_newBitOfB_267 : decode cX6_newBitOfB 267 = .ok (.getfield 10, 3) := by decide +kernel
theorem dX6_newBitOfB_270 : decode cX6_newBitOfB 270 = .ok (.bipush 70, 2) := by decide +kernel
theorem dX6_newBitOfB_272 : decode cX6_newBitOfB 272 = .ok (.invokevirtual 40, 3) := by decide +kernel
theorem dX6_newBitOfB_275 : decode cX6_newBitOfB 275 = .ok (.aload_n 0, 1) := by decide +kernel
theorem dX6_newBitOfB_276 : decode cX6_newBitOfB 276 = .ok (.getfield 10, 3) := by decide +kernel
theorem dX6_newBitOfB_279 : decode cX6_newBitOfB 279 = .ok (.bipush 78, 2) := by decide +kernel
theorem dX6_newBitOfB_281 : decode cX6_newBitOfB 281 = .ok (.invokevirtual 40, 3) := by decide +kernel
theorem dX6_newBitOfB_284 : decode cX6_newBitOfB 284 = .ok (.iand, 1) := by decide +kernel
theorem dX6_newBitOfB_285 : decode cX6_newBitOfB 285 = .ok (.aload_n 0, 1) := by decide +kernel
theorem dX6_newBitOfB_286 : decode cX6_newBitOfB 286 = .ok (.getfield 10, 3) := by decide +kernel
theorem dX6_newBitOfB_289 : decode cX6_newBitOfB 289 = .ok (.bipush 82, 2) := by decide +kernel
theorem dX6_newBitOfB_291 : decode cX6_newBitOfB 291 = .ok (.invokevirtual 40, 3) := by decide +kernel
theorem dX6_newBitOfB_294 : decode cX6_newBitOfB 294 = .ok (.iand, 1) := by decide +kernel
theorem dX6_newBitOfB_295 : decode cX6_newBitOfB 295 = .ok (.ixor, 1) := by decide +kernel
theorem dX6_newBitOfB_296 : decode cX6_newBitOfB 296 = .ok (.ireturn, 1) := by decide +kernel
theorem dX7_init_0 : decode cX7_init 0 = .ok (.aload_n 0, 1) := by decide +kernel
theorem dX7_init_1 : decode cX7_init 1 = .ok (.invokespecial 1, 3) := by decide +kernel
theorem dX7_init_4 : decode cX7_init 4 = .ok (.aload_n 0, 1) := by decide +kernel
theorem dX7_init_5 : decode cX7_init 5 = .ok (.new 7, 3) := by decide +kernel
theorem dX7_init_8 : decode cX7_init 8 = .ok (.dup, 1) := by decide +kernel
theorem dX7_init_9 : decode cX7_init 9 = .ok (.bipush 32, 2) := by decide +kernel
theorem dX7_init_11 : decode cX7_init 11 = .ok (.invokespecial 11, 3) := by decide +kernel
theorem dX7_init_14 : decode cX7_init 14 = .ok (.putfield 14, 3) := by decide +kernel
theorem dX7_init_17 : decode cX7_init 17 = .ok (.aload_n 0, 1) := by decide +kernel
theorem dX7_init_18 : decode cX7_init 18 = .ok (.new 7, 3) := by decide +kernel
theorem dX7_init_21 : decode cX7_init 21 = .ok (.dup, 1) := by decide +kernel
theorem dX7_init_22 : decode cX7_init 22 = .ok (.bipush 12, 2) := by decide +kernel
theorem dX7_init_24 : decode cX7_init 24 = .ok (.invokespecial 11, 3) := by decide +kernel
theorem dX7_init_27 : decode cX7_init 27 = .ok (.putfield 18, 3) := by decide +kernel
theorem dX7_init_30 : decode cX7_init 30 = .ok (.aload_n 0, 1) := by decide +kernel
theorem dX7_init_31 : decode cX7_init 31 = .ok (.iconst 4, 1) := by decide +kernel
theorem dX7_init_32 : decode cX7_init 32 = .ok (.anewarray 21, 3) := by decide +kernel
theorem dX7_init_35 : decode cX7_init 35 = .ok (.dup, 1) := by decide +kernel
theorem dX7_init_36 : decode cX7_init 36 = .ok (.iconst 0, 1) := by decide +kernel
theorem dX7_init_37 : decode cX7_init 37 = .ok (.new 23, 3) := by decide +kernel
theorem dX7_init_40 : decode cX7_init 40 = .ok (.dup, 1) := by decide +kernel
theorem dX7_init_41 : decode cX7_init 41 = .ok (.invokespecial 25, 3) := by decide +kernel
theorem dX7_init_44 : decode cX7_init 44 = .ok (.aastore, 1) := by decide +kernel
theorem dX7_init_45 : decode cX7_init 45 = .ok (.dup, 1) := by decide +kernel
theorem dX7_init_46 : decode cX7_init 46 = .ok (.iconst 1, 1) := by decide +kernel
theorem dX7_init_47 : decode cX7_init 47 = .ok (.new 26, 3) := by decide +kernel
theorem dX7_init_50 : decode cX7_init 50 = .ok (.dup, 1) := by decide +kernel
theorem dX7_init_51 : decode cX7_init 51 = .ok (.invokespecial 28, 3) := by decide +kernel
theorem dX7_init_54 : decode cX7_init 54 = .ok (.aastore, 1) := by decide +kernel
theorem dX7_init_55 : decode cX7_init 55 = .ok (.dup, 1) := by decide +kernel
theorem dX7_init_56 : decode cX7_init 56 = .ok (.iconst 2, 1) := by decide +kernel
theorem dX7_init_57 : decode cX7_init 57 = .ok (.new 29, 3) := by decide +kernel
theorem dX7_init_60 : decode cX7_init 60 = .ok (.dup, 1) := by decide +kernel
theorem dX7_init_61 : decode cX7_init 61 = .ok (.invokespecial 31, 3) := by decide +kernel
theorem dX7_init_64 : decode cX7_init 64 = .ok (.aastore, 1) := by decide +kernel
theorem dX7_init_65 : decode cX7_init 65 = .ok (.dup, 1) := by decide +kernel
theorem dX7_init_66 : decode cX7_init 66 = .ok (.iconst 3, 1) := by decide +kernel
theorem dX7_init_67 : decode cX7_init 67 = .ok (.new 32, 3) := by decide +kernel
theorem dX7_init_70 : decode cX7_init 70 = .ok (.dup, 1) := by decide +kernel
theorem dX7_init_71 : decode cX7_init 71 = .ok (.invokespecial 34, 3) := by decide +kernel
theorem dX7_init_74 : decode cX7_init 74 = .ok (.aastore, 1) := by decide +kernel
theorem dX7_init_75 : decode cX7_init 75 = .ok (.putfield 35, 3) := by decide +kernel
theorem dX7_init_78 : decode cX7_init 78 = .ok (.aload_n 0, 1) := by decide +kernel
theorem dX7_init_79 : decode cX7_init 79 = .ok (.aconst_null, 1) := by decide +kernel
theorem dX7_init_80 : decode cX7_init 80 = .ok (.putfield 39, 3) := by decide +kernel
theorem dX7_init_83 : decode cX7_init 83 = .ok (.aload_n 0, 1) := by decide +kernel
theorem dX7_init_84 : decode cX7_init 84 = .ok (.iconst (-1), 1) := by decide +kernel
theorem dX7_init_85 : decode cX7_init 85 = .ok (.putfield 43, 3) := by decide +kernel
theorem dX7_init_88 : decode cX7_init 88 = .ok (.aload_n 0, 1) := by decide +kernel
theorem dX7_init_89 : decode cX7_init 89 = .ok (.iconst 0, 1) := by decide +kernel
theorem dX7_init_90 : decode cX7_init 90 = .ok (.putfield 47, 3) := by decide +kernel
theorem dX7_init_93 : decode cX7_init 93 = .ok (.return_, 1) := by decide +kernel
theorem dX7_key_0 : decode cX7_key 0 = .ok (.aload_n 0, 1) := by decide +kernel
theorem dX7_key_1 : decode cX7_key 1 = .ok (.getfield 14, 3) := by decide +kernel
theorem dX7_key_4 : decode cX7_key 4 = .ok (.lload_n 1, 1) := by decide +kernel
theorem dX7_key_5 : decode cX7_key 5 = .ok (.iload_n 3, 1) := by decide +kernel
theorem dX7_key_6 : decode cX7_key 6 = .ok (.invokevirtual 50, 3) := by decide +kernel
theorem dX7_key_9 : decode cX7_key 9 = .ok (.ireturn, 1) := by decide +kernel
theorem dX7_start_0 : decode cX7_start 0 = .ok (.aload_n 0, 1) := by decide +kernel
theorem dX7_start_1 : decode cX7_start 1 = .ok (.getfield 18, 3) := by decide +kernel
theorem dX7_start_4 : decode cX7_start 4 = .ok (.lload_n 1, 1) := by decide +kernel
theorem dX7_start_5 : decode cX7_start 5 = .ok (.iload_n 3, 1) := by decide +kernel
theorem dX7_start_6 : decode cX7_start 6 = .ok (.invokevirtual 50, 3) := by decide +kernel
theorem dX7_start_9 : decode cX7_start 9 = .ok (.ireturn, 1) := by decide +kernel
theorem dX7_begin_0 : decode cX7_begin 0 = .ok (.iload_n 1, 1) := by decide +kernel
theorem dX7_begin_1 : decode cX7_begin 1 = .ok (.ifCond .lt 12, 3) := by decide +kernel
theorem dX7_begin_4 : decode cX7_begin 4 = .ok (.iload_n 1, 1) := by decide +kernel
theorem dX7_begin_5 : decode cX7_begin 5 = .ok (.aload_n 0, 1) := by decide +kernel
theorem dX7_begin_6 : decode cX7_begin 6 = .ok (.getfield 35, 3) := by decide +kernel
theorem dX7_begin_9 : decode cX7_begin 9 = .ok (.arraylength, 1) := by decide +kernel
theorem dX7_begin_10 : decode cX7_begin 10 = .ok (.if_icmp .lt 5, 3) := by decide +kernel
theorem dX7_begin_13 : decode cX7_begin 13 = .ok (.iconst 0, 1) := by decide +kernel
theorem dX7_begin_14 : decode cX7_begin 14 = .ok (.ireturn, 1) := by decide +kernel
theorem dX7_begin_15 : decode cX7_begin 15 = .ok (.aload_n 0, 1) := by decide +kernel
theorem dX7_begin_16 : decode cX7_begin 16 = .ok (.getfield 35, 3) := by decide +kernel
theorem dX7_begin_19 : decode cX7_begin 19 = .ok (.iload_n 1, 1) := by decide +kernel
theorem dX7_begin_20 : decode cX7_begin 20 = .ok (.aaload, 1) := by decide +kernel
theorem dX7_begin_21 : decode cX7_begin 21 = .ok (.astore_n 2, 1) := by decide +kernel
theorem dX7_begin_22 : decode cX7_begin 22 = .ok (.aload_n 2, 1) := by decide +kernel
theorem dX7_begin_23 : decode cX7_begin 23 = .ok (.aload_n 0, 1) := by decide +kernel
theorem dX7_begin_24 : decode cX7_begin 24 = .ok (.getfield 14, 3) := by decide +kernel
theorem dX7_begin_27 : decode cX7_begin 27 = .ok (.invokevirtual 54, 3) := by decide +kernel
theorem dX7_begin_30 : decode cX7_begin 30 = .ok (.aload_n 0, 1) := by decide +kernel
theorem dX7_begin_31 : decode cX7_begin 31 = .ok (.getfield 18, 3) := by decide +kernel
theorem dX7_begin_34 : decode cX7_begin 34 = .ok (.invokevirtual 54, 3) := by decide +kernel
theorem dX7_begin_37 : decode cX7_begin 37 = .ok (.invokevirtual 58, 3) := by decide +kernel
theorem dX7_begin_40 : decode cX7_begin 40 = .ok (.ifCond .ne 5, 3) := by decide +kernel
theorem dX7_begin_43 : decode cX7_begin 43 = .ok (.iconst 0, 1) := by decide +kernel
theorem dX7_begin_44 : decode cX7_begin 44 = .ok (.ireturn, 1) := by decide +kernel
theorem dX7_begin_45 : decode cX7_begin 45 = .ok (.aload_n 2, 1) := by decide +kernel
theorem dX7_begin_46 : decode cX7_begin 46 = .ok (.aload_n 0, 1) := by decide +kernel
theorem dX7_begin_47 : decode cX7_begin 47 = .ok (.getfield 14, 3) := by decide +kernel
theorem dX7_begin_50 : decode cX7_begin 50 = .ok (.aload_n 0, 1) := by decide +kernel
theorem dX7_begin_51 : decode cX7_begin 51 = .ok (.getfield 18, 3) := by decide +kernel
theorem dX7_begin_54 : decode cX7_begin 54 = .ok (.invokevirtual 62, 3) := by decide +kernel
theorem dX7_begin_57 : decode cX7_begin 57 = .ok (.aload_n 0, 1) := by decide +kernel
theorem dX7_begin_58 : decode cX7_begin 58 = .ok (.getfield 14, 3) := by decide +kernel
theorem dX7_begin_61 : decode cX7_begin 61 = .ok (.invokevirtual 66, 3) := by decide +kernel
theorem dX7_begin_64 : decode cX7_begin 64 = .ok (.aload_n 0, 1) := by decide +kernel
theorem dX7_begin_65 : decode cX7_begin 65 = .ok (.getfield 18, 3) := by decide +kernel
theorem dX7_begin_68 : decode cX7_begin 68 = .ok (.invokevirtual 66, 3) := by decide +kernel
theorem dX7_begin_71 : decode cX7_begin 71 = .ok (.aload_n 0, 1) := by decide +kernel
theorem dX7_begin_72 : decode cX7_begin 72 = .ok (.aload_n 2, 1) := by decide +kernel
theorem dX7_begin_73 : decode cX7_begin 73 = .ok (.putfield 39, 3) := by decide +kernel
theorem dX7_begin_76 : decode cX7_begin 76 = .ok (.aload_n 0, 1) := by decide +kernel
theorem dX7_begin_77 : decode cX7_begin 77 = .ok (.iload_n 1, 1) := by decide +kernel
theorem dX7_begin_78 : decode cX7_begin 78 = .ok (.putfield 43, 3) := by decide +kernel
theorem dX7_begin_81 : decode cX7_begin 81 = .ok (.aload_n 0, 1) := by decide +kernel
theorem dX7_begin_82 : decode cX7_begin 82 = .ok (.iconst 0, 1) := by decide +kernel
theorem dX7_begin_83 : decode cX7_begin 83 = .ok (.putfield 47, 3) := by decide +kernel
theorem dX7_begin_86 : decode cX7_begin 86 = .ok (.iconst 1, 1) := by decide +kernel
theorem dX7_begin_87 : decode cX7_begin 87 = .ok (.ireturn, 1) := by decide +kernel
theorem dX7_bits_0 : decode cX7_bits 0 = .ok (.aload_n 0, 1) := by decide +kernel
theorem dX7_bits_1 : decode cX7_bits 1 = .ok (.lconst 0, 1) := by decide +kernel
theorem dX7_bits_2 : decode cX7_bits 2 = .ok (.iload_n 1, 1) := by decide +kernel
theorem dX7_bits_3 : decode cX7_bits 3 = .ok (.invokevirtual 69, 3) := by decide +kernel
theorem dX7_bits_6 : decode cX7_bits 6 = .ok (.lreturn, 1) := by decide +kernel
theorem dX7_skip_0 : decode cX7_skip 0 = .ok (.aload_n 0, 1) := by decide +kernel
theorem dX7_skip_1 : decode cX7_skip 1 = .ok (.getfield 39, 3) := by decide +kernel
theorem dX7_skip_4 : decode cX7_skip 4 = .ok (.ifnull 14, 3) := by decide +kernel
theorem dX7_skip_7 : decode cX7_skip 7 = .ok (.iload_n 1, 1) := by decide +kernel
theorem dX7_skip_8 : decode cX7_skip 8 = .ok (.ifCond .lt 10, 3) := by decide +kernel
theorem dX7_skip_11 : decode cX7_skip 11 = .ok (.iload_n 1, 1) := by decide +kernel
theorem dX7_skip_12 : decode cX7_skip 12 = .ok (.sipush 5000, 3) := by decide +kernel
theorem dX7_skip_15 : decode cX7_skip 15 = .ok (.if_icmp .le 5, 3) := by decide +kernel
theorem dX7_skip_18 : decode cX7_skip 18 = .ok (.iconst 0, 1) := by decide +kernel
theorem dX7_skip_19 : decode cX7_skip 19 = .ok (.ireturn, 1) := by decide +kernel
theorem dX7_skip_20 : decode cX7_skip 20 = .ok (.iconst 0, 1) := by decide +kernel
theorem dX7_skip_21 : decode cX7_skip 21 = .ok (.istore_n 2, 1) := by decide +kernel
theorem dX7_skip_22 : decode cX7_skip 22 = .ok (.iload_n 2, 1) := by decide +kernel
theorem dX7_skip_23 : decode cX7_skip 23 = .ok (.iload_n 1, 1) := by decide +kernel
theorem dX7_skip_24 : decode cX7_skip 24 = .ok (.if_icmp .ge 17, 3) := by decide +kernel
theorem dX7_skip_27 : decode cX7_skip 27 = .ok (.aload_n 0, 1) := by decide +kernel
theorem dX7_skip_28 : decode cX7_skip 28 = .ok (.getfield 39, 3) := by decide +kernel
theorem dX7_skip_31 : decode cX7_skip 31 = .ok (.invokevirtual 73, 3) := by decide +kernel
theorem dX7_skip_34 : decode cX7_skip 34 = .ok (.pop, 1) := by decide +kernel
theorem dX7_skip_35 : decode cX7_skip 35 = .ok (.iinc 2 1, 3) := by decide +kernel
theorem dX7_skip_38 : decode cX7_skip 38 = .ok (.goto (-16), 3) := by decide +kernel
theorem dX7_skip_41 : decode cX7_skip 41 = .ok (.aload_n 0, 1) := by decide +kernel
theorem dX7_skip_42 : decode cX7_skip 42 = .ok (.dup, 1) := by decide +kernel
theorem dX7_skip_43 : decode cX7_skip 43 = .ok (.getfield 47, 3) := by decide +kernel
theorem dX7_skip_46 : decode cX7_skip 46 = .ok (.iload_n 1, 1) := by decide +kernel
theorem dX7_skip_47 : decode cX7_skip 47 = .ok (.iadd, 1) := by decide +kernel
theorem dX7_skip_48 : decode cX7_skip 48 = .ok (.putfield 47, 3) := by decide +kernel
theorem dX7_skip_51 : decode cX7_skip 51 = .ok (.iconst 1, 1) := by decide +kernel
theorem dX7_skip_52 : decode cX7_skip 52 = .ok (.ireturn, 1) := by decide +kernel
theorem dX7_mix_0 : decode cX7_mix 0 = .ok (.aload_n 0, 1) := by decide +kernel
theorem dX7_mix_1 : decode cX7_mix 1 = .ok (.getfield 39, 3) := by decide +kernel
theorem dX7_mix_4 : decode cX7_mix 4 = .ok (.ifnull 14, 3) := by decide +kernel
theorem dX7_mix_7 : decode cX7_mix 7 = .ok (.iload_n 3, 1) := by decide +kernel
theorem dX7_mix_8 : decode cX7_mix 8 = .ok (.iconst 1, 1) := by decide +kernel
theorem dX7_mix_9 : decode cX7_mix 9 = .ok (.if_icmp .lt 9, 3) := by decide +kernel
theorem dX7_mix_12 : decode cX7_mix 12 = .ok (.iload_n 3, 1) := by decide +kernel
theorem dX7_mix_13 : decode cX7_mix 13 = .ok (.bipush 64, 2) := by decide +kernel
theorem dX7_mix_15 : decode cX7_mix 15 = .ok (.if_icmp .le 5, 3) := by decide +kernel
theorem dX7_mix_18 : decode cX7_mix 18 = .ok (.lconst 0, 1) := by decide +kernel
theorem dX7_mix_19 : decode cX7_mix 19 = .ok (.lreturn, 1) := by decide +kernel
theorem dX7_mix_20 : decode cX7_mix 20 = .ok (.lconst 0, 1) := by decide +kernel
theorem dX7_mix_21 : decode cX7_mix 21 = .ok (.lstore 4, 2) := by decide +kernel
theorem dX7_mix_23 : decode cX7_mix 23 = .ok (.iconst 0, 1) := by decide +kernel
theorem dX7_mix_24 : decode cX7_mix 24 = .ok (.istore 6, 2) := by decide +kernel
theorem dX7_mix_26 : decode cX7_mix 26 = .ok (.iload 6, 2) := by decide +kernel
theorem dX7_mix_28 : decode cX7_mix 28 = .ok (.iload_n 3, 1) := by decide +kernel
theorem dX7_mix_29 : decode cX7_mix 29 = .ok (.if_icmp .ge 24, 3) := by decide +kernel
theorem dX7_mix_32 : decode cX7_mix 32 = .ok (.lload 4, 2) := by decide +kernel
theorem dX7_mix_34 : decode cX7_mix 34 = .ok (.iconst 1, 1) := by decide +kernel
theorem dX7_mix_35 : decode cX7_mix 35 = .ok (.lshl, 1) := by decide +kernel
theorem dX7_mix_36 : decode cX7_mix 36 = .ok (.aload_n 0, 1) := by decide +kernel
theorem dX7_mix_37 : decode cX7_mix 37 = .ok (.getfield 39, 3) := by decide +kernel
theorem dX7_mix_40 : decode cX7_mix 40 = .ok (.invokevirtual 73, 3) := by decide +kernel
theorem dX7_mix_43 : decode cX7_mix 43 = .ok (.i2l, 1) := by decide +kernel
theorem dX7_mix_44 : decode cX7_mix 44 = .ok (.lor, 1) := by decide +kernel
theorem dX7_mix_45 : decode cX7_mix 45 = .ok (.lstore 4, 2) := by decide +kernel
theorem dX7_mix_47 : decode cX7_mix 47 = .ok (.iinc 6 1, 3) := by decide +kernel
theorem dX7_mix_50 : decode cX7_mix 50 = .ok (.goto (-24), 3) := by decide +kernel
theorem dX7_mix_53 : decode cX7_mix 53 = .ok (.aload_n 0, 1) := by decide +kernel
theorem dX7_mix_54 : decode cX7_mix 54 = .ok (.dup, 1) := by decide +kernel
theorem dX7_mix_55 : decode cX7_mix 55 = .ok (.getfield 47, 3) := by decide +kernel
theorem dX7_mix_58 : decode cX7_mix 58 = .ok (.iload_n 3, 1) := by decide +kernel
theorem dX7_mix_59 : decode cX7_mix 59 = .ok (.iadd, 1) := by decide +kernel
theorem dX7_mix_60 : decode cX7_mix 60 = .ok (.putfield 47, 3) := by decide +kernel
theorem dX7_mix_63 : decode cX7_mix 63 = .ok (.ldc2_w 76, 3) := by decide +kernel
theorem dX7_mix_66 : decode cX7_mix 66 = .ok (.bipush 64, 2) := by decide +kernel
theorem dX7_mix_68 : decode cX7_mix 68 = .ok (.iload_n 3, 1) := by decide +kernel
theorem dX7_mix_69 : decode cX7_mix 69 = .ok (.isub, 1) := by decide +kernel
theorem dX7_mix_70 : decode cX7_mix 70 = .ok (.lushr, 1) := by decide +kernel
theorem dX7_mix_71 : decode cX7_mix 71 = .ok (.lstore 6, 2) := by decide +kernel
theorem dX7_mix_73 : decode cX7_mix 73 = .ok (.lload_n 1, 1) := by decide +kernel
theorem dX7_mix_74 : decode cX7_mix 74 = .ok (.lload 6, 2) := by decide +kernel
theorem dX7_mix_76 : decode cX7_mix 76 = .ok (.land, 1) := by decide +kernel
theorem dX7_mix_77 : decode cX7_mix 77 = .ok (.lload 4, 2) := by decide +kernel
theorem dX7_mix_79 : decode cX7_mix 79 = .ok (.lxor, 1) := by decide +kernel
theorem dX7_mix_80 : decode cX7_mix 80 = .ok (.lreturn, 1) := by decide +kernel
theorem dX7_count_0 : decode cX7_count 0 = .ok (.iload_n 1, 1) := by decide +kernel
theorem dX7_count_1 : decode cX7_count 1 = .ok (.tableswitch 57 0 3 #[31, 39, 47, 52], 31) := by decide +kernel
theorem dX7_count_32 : decode cX7_count 32 = .ok (.aload_n 0, 1) := by decide +kernel
theorem dX7_count_33 : decode cX7_count 33 = .ok (.getfield 14, 3) := by decide +kernel
theorem dX7_count_36 : decode cX7_count 36 = .ok (.invokevirtual 54, 3) := by decide +kernel
theorem dX7_count_39 : decode cX7_count 39 = .ok (.ireturn, 1) := by decide +kernel
theorem dX7_count_40 : decode cX7_count 40 = .ok (.aload_n 0, 1) := by decide +kernel
theorem dX7_count_41 : decode cX7_count 41 = .ok (.getfield 18, 3) := by decide +kernel
theorem dX7_count_44 : decode cX7_count 44 = .ok (.invokevirtual 54, 3) := by decide +kernel
theorem dX7_count_47 : decode cX7_count 47 = .ok (.ireturn, 1) := by decide +kernel
theorem dX7_count_48 : decode cX7_count 48 = .ok (.aload_n 0, 1) := by decide +kernel
theorem dX7_count_49 : decode cX7_count 49 = .ok (.getfield 43, 3) := by decide +kernel
theorem dX7_count_52 : decode cX7_count 52 = .ok (.ireturn, 1) := by decide +kernel
theorem dX7_count_53 : decode cX7_count 53 = .ok (.aload_n 0, 1) := by decide +kernel
theorem dX7_count_54 : decode cX7_count 54 = .ok (.getfield 47, 3) := by decide +kernel
theorem dX7_count_57 : decode cX7_count 57 = .ok (.ireturn, 1) := by decide +kernel
theorem dX7_count_58 : decode cX7_count 58 = .ok (.iconst (-1), 1) := by decide +kernel
theorem dX7_count_59 : decode cX7_count 59 = .ok (.ireturn, 1) := by decide +kernel
end
section
theorem dX8_init_0 : decode cX8_init 0 = .ok (.aload_n 0, 1) := by decide +kernel
theorem dX8_init_1 : decode cX8_init 1 = .ok (.invokespecial 1, 3) := by decide +kernel
theorem dX8_init_4 : decode cX8_init 4 = .ok (.aload_n 0, 1) := by decide +kernel
theorem dX8_init_5 : decode cX8_init 5 = .ok (.bipush 32, 2) := by decide +kernel
theorem dX8_init_7 : decode cX8_init 7 = .ok (.newarray .int, 2) := by decide +kernel
theorem dX8_init_9 : decode cX8_init 9 = .ok (.putfield 7, 3) := by decide +kernel
theorem dX8_init_12 : decode cX8_init 12 = .ok (.aload_n 0, 1) := by decide +kernel
theorem dX8_init_13 : decode cX8_init 13 = .ok (.bipush 12, 2) := by decide +kernel
theorem dX8_init_15 : decode cX8_init 15 = .ok (.newarray .int, 2) := by decide +kernel
theorem dX8_init_17 : decode cX8_init 17 = .ok (.putfield 13, 3) := by decide +kernel
theorem dX8_init_20 : decode cX8_init 20 = .ok (.aload_n 0, 1) := by decide +kernel
theorem dX8_init_21 : decode cX8_init 21 = .ok (.iconst (-1), 1) := by decide +kernel
theorem dX8_init_22 : decode cX8_init 22 = .ok (.putfield 16, 3) := by decide +kernel
theorem dX8_init_25 : decode cX8_init 25 = .ok (.aload_n 0, 1) := by decide +kernel
theorem dX8_init_26 : decode cX8_init 26 = .ok (.sipush 384, 3) := by decide +kernel
theorem dX8_init_29 : decode cX8_init 29 = .ok (.newarray .int, 2) := by decide +kernel
theorem dX8_init_31 : decode cX8_init 31 = .ok (.putfield 20, 3) := by decide +kernel
theorem dX8_init_34 : decode cX8_init 34 = .ok (.aload_n 0, 1) := by decide +kernel
theorem dX8_init_35 : decode cX8_init 35 = .ok (.iconst 3, 1) := by decide +kernel
theorem dX8_init_36 : decode cX8_init 36 = .ok (.newarray .int, 2) := by decide +kernel
theorem dX8_init_38 : decode cX8_init 38 = .ok (.putfield 23, 3) := by decide +kernel
theorem dX8_init_41 : decode cX8_init 41 = .ok (.aload_n 0, 1) := by decide +kernel
theorem dX8_init_42 : decode cX8_init 42 = .ok (.sipush 256, 3) := by decide +kernel
theorem dX8_init_45 : decode cX8_init 45 = .ok (.newarray .int, 2) := by decide +kernel
theorem dX8_init_47 : decode cX8_init 47 = .ok (.putfield 26, 3) := by decide +kernel
theorem dX8_init_50 : decode cX8_init 50 = .ok (.return_, 1) := by decide +kernel
theorem dX8_key_0 : decode cX8_key 0 = .ok (.iload_n 3, 1) := by decide +kernel
theorem dX8_key_1 : decode cX8_key 1 = .ok (.iconst 1, 1) := by decide +kernel
theorem dX8_key_2 : decode cX8_key 2 = .ok (.if_icmp .lt 20, 3) := by decide +kernel
theorem dX8_key_5 : decode cX8_key 5 = .ok (.iload_n 3, 1) := by decide +kernel
theorem dX8_key_6 : decode cX8_key 6 = .ok (.bipush 8, 2) := by decide +kernel
theorem dX8_key_8 : decode cX8_key 8 = .ok (.if_icmp .gt 14, 3) := by decide +kernel
theorem dX8_key_11 : decode cX8_key 11 = .ok (.aload_n 0, 1) := by decide +kernel
theorem dX8_key_12 : decode cX8_key 12 = .ok (.getfield 29, 3) := by decide +kernel
theorem dX8_key_15 : decode cX8_key 15 = .ok (.iload_n 3, 1) := by decide +kernel
theorem dX8_key_16 : decode cX8_key 16 = .ok (.iadd, 1) := by decide +kernel
theorem dX8_key_17 : decode cX8_key 17 = .ok (.bipush 32, 2) := by decide +kernel
theorem dX8_key_19 : decode cX8_key 19 = .ok (.if_icmp .le 5, 3) := by decide +kernel
theorem dX8_key_22 : decode cX8_key 22 = .ok (.iconst 0, 1) := by decide +kernel
theorem dX8_key_23 : decode cX8_key 23 = .ok (.ireturn, 1) := by decide +kernel
theorem dX8_key_24 : decode cX8_key 24 = .ok (.iload_n 3, 1) := by decide +kernel
theorem dX8_key_25 : decode cX8_key 25 = .ok (.iconst 1, 1) := by decide +kernel
theorem dX8_key_26 : decode cX8_key 26 = .ok (.isub, 1) := by decide +kernel
theorem dX8_key_27 : decode cX8_key 27 = .ok (.istore 4, 2) := by decide +kernel
theorem dX8_key_29 : decode cX8_key 29 = .ok (.iload 4, 2) := by decide +kernel
theorem dX8_key_31 : decode cX8_key 31 = .ok (.ifCond .lt 40, 3) := by decide +kernel
theorem dX8_key_34 : decode cX8_key 34 = .ok (.aload_n 0, 1) := by decide +kernel
theorem dX8_key_35 : decode cX8_key 35 = .ok (.getfield 7, 3) := by decide +kernel
theorem dX8_key_38 : decode cX8_key 38 = .ok (.aload_n 0, 1) := by decide +kernel
theorem dX8_key_39 : decode cX8_key 39 = .ok (.getfield 29, 3) := by decide +kernel
theorem dX8_key_42 : decode cX8_key 42 = .ok (.lload_n 1, 1) := by decide +kernel
theorem dX8_key_43 : decode cX8_key 43 = .ok (.bipush 8, 2) := by decide +kernel
theorem dX8_key_45 : decode cX8_key 45 = .ok (.iload 4, 2) := by decide +kernel
theorem dX8_key_47 : decode cX8_key 47 = .ok (.imul, 1) := by decide +kernel
theorem dX8_key_48 : decode cX8_key 48 = .ok (.lshr, 1) := by decide +kernel
theorem dX8_key_49 : decode cX8_key 49 = .ok (.ldc2_w 32, 3) := by decide +kernel
theorem dX8_key_52 : decode cX8_key 52 = .ok (.land, 1) := by decide +kernel
theorem dX8_key_53 : decode cX8_key 53 = .ok (.l2i, 1) := by decide +kernel
theorem dX8_key_54 : decode cX8_key 54 = .ok (.iastore, 1) := by decide +kernel
theorem dX8_key_55 : decode cX8_key 55 = .ok (.aload_n 0, 1) := by decide +kernel
theorem dX8_key_56 : decode cX8_key 56 = .ok (.dup, 1) := by decide +kernel
theorem dX8_key_57 : decode cX8_key 57 = .ok (.getfield 29, 3) := by decide +kernel
theorem dX8_key_60 : decode cX8_key 60 = .ok (.iconst 1, 1) := by decide +kernel
theorem dX8_key_61 : decode cX8_key 61 = .ok (.iadd, 1) := by decide +kernel
theorem dX8_key_62 : decode cX8_key 62 = .ok (.putfield 29, 3) := by decide +kernel
theorem dX8_key_65 : decode cX8_key 65 = .ok (.iinc 4 (-1), 3) := by decide +kernel
theorem dX8_key_68 : decode cX8_key 68 = .ok (.goto (-39), 3) := by decide +kernel
theorem dX8_key_71 : decode cX8_key 71 = .ok (.iconst 1, 1) := by decide +kernel
theorem dX8_key_72 : decode cX8_key 72 = .ok (.ireturn, 1) := by decide +kernel
theorem dX8_start_0 : decode cX8_start 0 = .ok (.iload_n 3, 1) := by decide +kernel
theorem dX8_start_1 : decode cX8_start 1 = .ok (.iconst 1, 1) := by decide +kernel
theorem dX8_start_2 : decode cX8_start 2 = .ok (.if_icmp .lt 20, 3) := by decide +kernel
theorem dX8_start_5 : decode cX8_start 5 = .ok (.iload_n 3, 1) := by decide +kernel
theorem dX8_start_6 : decode cX8_start 6 = .ok (.bipush 8, 2) := by decide +kernel
theorem dX8_start_8 : decode cX8_start 8 = .ok (.if_icmp .gt 14, 3) := by decide +kernel
theorem dX8_start_11 : decode cX8_start 11 = .ok (.aload_n 0, 1) := by decide +kernel
theorem dX8_start_12 : decode cX8_start 12 = .ok (.getfield 34, 3) := by decide +kernel
theorem dX8_start_15 : decode cX8_start 15 = .ok (.iload_n 3, 1) := by decide +kernel
theorem dX8_start_16 : decode cX8_start 16 = .ok (.iadd, 1) := by decide +kernel
theorem dX8_start_17 : decode cX8_start 17 = .ok (.bipush 12, 2) := by decide +kernel
theorem dX8_start_19 : decode cX8_start 19 = .ok (.if_icmp .le 5, 3) := by decide +kernel
theorem dX8_start_22 : decode cX8_start 22 = .ok (.iconst 0, 1) := by decide +kernel
theorem dX8_start_23 : decode cX8_start 23 = .ok (.ireturn, 1) := by decide +kernel
theorem dX8_start_24 : decode cX8_start 24 = .ok (.iload_n 3, 1) := by decide +kernel
theorem dX8_start_25 : decode cX8_start 25 = .ok (.iconst 1, 1) := by decide +kernel
theorem dX8_start_26 : decode cX8_start 26 = .ok (.isub, 1) := by decide +kernel
theorem dX8_start_27 : decode cX8_start 27 = .ok (.istore 4, 2) := by decide +kernel
theorem dX8_start_29 : decode cX8_start 29 = .ok (.iload 4, 2) := by decide +kernel
theorem dX8_start_31 : decode cX8_start 31 = .ok (.ifCond .lt 40, 3) := by decide +kernel
theorem dX8_start_34 : decode cX8_start 34 = .ok (.aload_n 0, 1) := by decide +kernel
theorem dX8_start_35 : decode cX8_start 35 = .ok (.getfield 13, 3) := by decide +kernel
theorem dX8_start_38 : decode cX8_start 38 = .ok (.aload_n 0, 1) := by decide +kernel
theorem dX8_start_39 : decode cX8_start 39 = .ok (.getfield 34, 3) := by decide +kernel
theorem dX8_start_42 : decode cX8_start 42 = .ok (.lload_n 1, 1) := by decide +kernel
theorem dX8_start_43 : decode cX8_start 43 = .ok (.bipush 8, 2) := by decide +kernel
theorem dX8_start_45 : decode cX8_start 45 = .ok (.iload 4, 2) := by decide +kernel
theorem dX8_start_47 : decode cX8_start 47 = .ok (.imul, 1) := by decide +kernel
theorem dX8_start_48 : decode cX8_start 48 = .ok (.lshr, 1) := by decide +kernel
theorem dX8_start_49 : decode cX8_start 49 = .ok (.ldc2_w 32, 3) := by decide +kernel
theorem dX8_start_52 : decode cX8_start 52 = .ok (.land, 1) := by decide +kernel
theorem dX8_start_53 : decode cX8_start 53 = .ok (.l2i, 1) := by decide +kernel
theorem dX8_start_54 : decode cX8_start 54 = .ok (.iastore, 1) := by decide +kernel
theorem dX8_start_55 : decode cX8_start 55 = .ok (.aload_n 0, 1) := by decide +kernel
theorem dX8_start_56 : decode cX8_start 56 = .ok (.dup, 1) := by decide +kernel
theorem dX8_start_57 : decode cX8_start 57 = .ok (.getfield 34, 3) := by decide +kernel
theorem dX8_start_60 : decode cX8_start 60 = .ok (.iconst 1, 1) := by decide +kernel
theorem dX8_start_61 : decode cX8_start 61 = .ok (.iadd, 1) := by decide +kernel
theorem dX8_start_62 : decode cX8_start 62 = .ok (.putfield 34, 3) := by decide +kernel
theorem dX8_start_65 : decode cX8_start 65 = .ok (.iinc 4 (-1), 3) := by decide +kernel
theorem dX8_start_68 : decode cX8_start 68 = .ok (.goto (-39), 3) := by decide +kernel
theorem dX8_start_71 : decode cX8_start 71 = .ok (.iconst 1, 1) := by decide +kernel
theorem dX8_start_72 : decode cX8_start 72 = .ok (.ireturn, 1) := by decide +kernel
theorem dX8_keyBit_0 : decode cX8_keyBit 0 = .ok (.aload_n 0, 1) := by decide +kernel
theorem dX8_keyBit_1 : decode cX8_keyBit 1 = .ok (.getfield 7, 3) := by decide +kernel
theorem dX8_keyBit_4 : decode cX8_keyBit 4 = .ok (.iload_n 1, 1) := by decide +kernel
theorem dX8_keyBit_5 : decode cX8_keyBit 5 = .ok (.bipush 8, 2) := by decide +kernel
theorem dX8_keyBit_7 : decode cX8_keyBit 7 = .ok (.idiv, 1) := by decide +kernel
theorem dX8_keyBit_8 : decode cX8_keyBit 8 = .ok (.iaload, 1) := by decide +kernel
theorem dX8_keyBit_9 : decode cX8_keyBit 9 = .ok (.bipush 7, 2) := by decide +kernel
theorem dX8_keyBit_11 : decode cX8_keyBit 11 = .ok (.iload_n 1, 1) := by decide +kernel
theorem dX8_keyBit_12 : decode cX8_keyBit 12 = .ok (.bipush 8, 2) := by decide +kernel
theorem dX8_keyBit_14 : decode cX8_keyBit 14 = .ok (.irem, 1) := by decide +kernel
theorem dX8_keyBit_15 : decode cX8_keyBit 15 = .ok (.isub, 1) := by decide +kernel
theorem dX8_keyBit_16 : decode cX8_keyBit 16 = .ok (.ishr, 1) := by decide +kernel
theorem dX8_keyBit_17 : decode cX8_keyBit 17 = .ok (.iconst 1, 1) := by decide +kernel
theorem dX8_keyBit_18 : decode cX8_keyBit 18 = .ok (.iand, 1) := by decide +kernel
theorem dX8_keyBit_19 : decode cX8_keyBit 19 = .ok (.ireturn, 1) := by decide +kernel
theorem dX8_startBit_0 : decode cX8_startBit 0 = .ok (.aload_n 0, 1) := by decide +kernel
theorem dX8_startBit_1 : decode cX8_startBit 1 = .ok (.getfield 13, 3) := by decide +kernel
theorem dX8_startBit_4 : decode cX8_startBit 4 = .ok (.iload_n 1, 1) := by decide +kernel
theorem dX8_startBit_5 : decode cX8_startBit 5 = .ok (.bipush 8, 2) := by decide +kernel
theorem dX8_startBit_7 : decode cX8_startBit 7 = .ok (.idiv, 1) := by decide +kernel
theorem dX8_startBit_8 : decode cX8_startBit 8 = .ok (.iaload, 1) := by decide +kernel
theorem dX8_startBit_9 : decode cX8_startBit 9 = .ok (.bipush 7, 2) := by decide +kernel
theorem dX8_startBit_11 : decode cX8_startBit 11 = .ok (.iload_n 1, 1) := by decide +kernel
theorem dX8_startBit_12 : decode cX8_startBit 12 = .ok (.bipush 8, 2) := by decide +kernel
theorem dX8_startBit_14 : decode cX8_startBit 14 = .ok (.irem, 1) := by decide +kernel
theorem dX8_startBit_15 : decode cX8_startBit 15 = .ok (.isub, 1) := by decide +kernel
theorem dX8_startBit_16 : decode cX8_startBit 16 = .ok (.ishr, 1) := by decide +kernel
theorem dX8_startBit_17 : decode cX8_startBit 17 = .ok (.iconst 1, 1) := by decide +kernel
theorem dX8_startBit_18 : decode cX8_startBit 18 = .ok (.iand, 1) := by decide +kernel
theorem dX8_startBit_19 : decode cX8_startBit 19 = .ok (.ireturn, 1) := by decide +kernel
theorem dX8_cell_0 : decode cX8_cell 0 = .ok (.aload_n 0, 1) := by decide +kernel
theorem dX8_cell_1 : decode cX8_cell 1 = .ok (.getfield 20, 3) := by decide +kernel
theorem dX8_cell_4 : decode cX8_cell 4 = .ok (.sipush 128, 3) := by decide +kernel
theorem dX8_cell_7 : decode cX8_cell 7 = .ok (.iload_n 1, 1) := by decide +kernel
theorem dX8_cell_8 : decode cX8_cell 8 = .ok (.imul, 1) := by decide +kernel
theorem dX8_cell_9 : decode cX8_cell 9 = .ok (.aload_n 0, 1) := by decide +kernel
theorem dX8_cell_10 : decode cX8_cell 10 = .ok (.getfield 23, 3) := by decide +kernel
theorem dX8_cell_13 : decode cX8_cell 13 = .ok (.iload_n 1, 1) := by decide +kernel
theorem dX8_cell_14 : decode cX8_cell 14 = .ok (.iaload, 1) := by decide +kernel
theorem dX8_cell_15 : decode cX8_cell 15 = .ok (.iload_n 2, 1) := by decide +kernel
theorem dX8_cell_16 : decode cX8_cell 16 = .ok (.iadd, 1) := by decide +kernel
theorem dX8_cell_17 : decode cX8_cell 17 = .ok (.bipush 127, 2) := by decide +kernel
theorem dX8_cell_19 : decode cX8_cell 19 = .ok (.iand, 1) := by decide +kernel
theorem dX8_cell_20 : decode cX8_cell 20 = .ok (.iadd, 1) := by decide +kernel
theorem dX8_cell_21 : decode cX8_cell 21 = .ok (.iaload, 1) := by decide +kernel
theorem dX8_cell_22 : decode cX8_cell 22 = .ok (.ireturn, 1) := by decide +kernel
theorem dX8_put_0 : decode cX8_put 0 = .ok (.aload_n 0, 1) := by decide +kernel
theorem dX8_put_1 : decode cX8_put 1 = .ok (.getfield 20, 3) := by decide +kernel
theorem dX8_put_4 : decode cX8_put 4 = .ok (.sipush 128, 3) := by decide +kernel
theorem dX8_put_7 : decode cX8_put 7 = .ok (.iload_n 1, 1) := by decide +kernel
theorem dX8_put_8 : decode cX8_put 8 = .ok (.imul, 1) := by decide +kernel
theorem dX8_put_9 : decode cX8_put 9 = .ok (.aload_n 0, 1) := by decide +kernel
theorem dX8_put_10 : decode cX8_put 10 = .ok (.getfield 23, 3) := by decide +kernel
theorem dX8_put_13 : decode cX8_put 13 = .ok (.iload_n 1, 1) := by decide +kernel
theorem dX8_put_14 : decode cX8_put 14 = .ok (.iaload, 1) := by decide +kernel
theorem dX8_put_15 : decode cX8_put 15 = .ok (.iload_n 2, 1) := by decide +kernel
theorem dX8_put_16 : decode cX8_put 16 = .ok (.iadd, 1) := by decide +kernel
theorem dX8_put_17 : decode cX8_put 17 = .ok (.bipush 127, 2) := by decide +kernel
theorem dX8_put_19 : decode cX8_put 19 = .ok (.iand, 1) := by decide +kernel
theorem dX8_put_20 : decode cX8_put 20 = .ok (.iadd, 1) := by decide +kernel
theorem dX8_put_21 : decode cX8_put 21 = .ok (.iload_n 3, 1) := by decide +kernel
theorem dX8_put_22 : decode cX8_put 22 = .ok (.iastore, 1) := by decide +kernel
theorem dX8_put_23 : decode cX8_put 23 = .ok (.return_, 1) := by decide +kernel
theorem dX8_up_0 : decode cX8_up 0 = .ok (.aload_n 0, 1) := by decide +kernel
theorem dX8_up_1 : decode cX8_up 1 = .ok (.getfield 23, 3) := by decide +kernel
theorem dX8_up_4 : decode cX8_up 4 = .ok (.iload_n 1, 1) := by decide +kernel
theorem dX8_up_5 : decode cX8_up 5 = .ok (.aload_n 0, 1) := by decide +kernel
theorem dX8_up_6 : decode cX8_up 6 = .ok (.getfield 23, 3) := by decide +kernel
theorem dX8_up_9 : decode cX8_up 9 = .ok (.iload_n 1, 1) := by decide +kernel
theorem dX8_up_10 : decode cX8_up 10 = .ok (.iaload, 1) := by decide +kernel
theorem dX8_up_11 : decode cX8_up 11 = .ok (.iconst 1, 1) := by decide +kernel
theorem dX8_up_12 : decode cX8_up 12 = .ok (.isub, 1) := by decide +kernel
theorem dX8_up_13 : decode cX8_up 13 = .ok (.bipush 127, 2) := by decide +kernel
theorem dX8_up_15 : decode cX8_up 15 = .ok (.iand, 1) := by decide +kernel
theorem dX8_up_16 : decode cX8_up 16 = .ok (.iastore, 1) := by decide +kernel
theorem dX8_up_17 : decode cX8_up 17 = .ok (.aload_n 0, 1) := by decide +kernel
theorem dX8_up_18 : decode cX8_up 18 = .ok (.iload_n 1, 1) := by decide +kernel
theorem dX8_up_19 : decode cX8_up 19 = .ok (.iconst 0, 1) := by decide +kernel
theorem dX8_up_20 : decode cX8_up 20 = .ok (.iload_n 2, 1) := by decide +kernel
theorem dX8_up_21 : decode cX8_up 21 = .ok (.invokevirtual 37, 3) := by decide +kernel
theorem dX8_up_24 : decode cX8_up 24 = .ok (.return_, 1) := by decide +kernel
theorem dX8_down_0 : decode cX8_down 0 = .ok (.aload_n 0, 1) := by decide +kernel
theorem dX8_down_1 : decode cX8_down 1 = .ok (.getfield 23, 3) := by decide +kernel
theorem dX8_down_4 : decode cX8_down 4 = .ok (.iload_n 1, 1) := by decide +kernel
theorem dX8_down_5 : decode cX8_down 5 = .ok (.aload_n 0, 1) := by decide +kernel
theorem dX8_down_6 : decode cX8_down 6 = .ok (.getfield 23, 3) := by decide +kernel
theorem dX8_down_9 : decode cX8_down 9 = .ok (.iload_n 1, 1) := by decide +kernel
theorem dX8_down_10 : decode cX8_down 10 = .ok (.iaload, 1) := by decide +kernel
theorem dX8_down_11 : decode cX8_down 11 = .ok (.iconst 1, 1) := by decide +kernel
theorem dX8_down_12 : decode cX8_down 12 = .ok (.iadd, 1) := by decide +kernel
theorem dX8_down_13 : decode cX8_down 13 = .ok (.bipush 127, 2) := by decide +kernel
theorem dX8_down_15 : decode cX8_down 15 = .ok (.iand, 1) := by decide +kernel
theorem dX8_down_16 : decode cX8_down 16 = .ok (.iastore, 1) := by decide +kernel
theorem dX8_down_17 : decode cX8_down 17 = .ok (.aload_n 0, 1) := by decide +kernel
theorem dX8_down_18 : decode cX8_down 18 = .ok (.iload_n 1, 1) := by decide +kernel
theorem dX8_down_19 : decode cX8_down 19 = .ok (.bipush 127, 2) := by decide +kernel
theorem dX8_down_21 : decode cX8_down 21 = .ok (.iload_n 2, 1) := by decide +kernel
theorem dX8_down_22 : decode cX8_down 22 = .ok (.invokevirtual 37, 3) := by decide +kernel
theorem dX8_down_25 : decode cX8_down 25 = .ok (.return_, 1) := by decide +kernel
theorem dX8_clean_0 : decode cX8_clean 0 = .ok (.iconst 0, 1) := by decide +kernel
theorem dX8_clean_1 : decode cX8_clean 1 = .ok (.istore_n 1, 1) := by decide +kernel
theorem dX8_clean_2 : decode cX8_clean 2 = .ok (.iload_n 1, 1) := by decide +kernel
theorem dX8_clean_3 : decode cX8_clean 3 = .ok (.sipush 384, 3) := by decide +kernel
theorem dX8_clean_6 : decode cX8_clean 6 = .ok (.if_icmp .ge 16, 3) := by decide +kernel
theorem dX8_clean_9 : decode cX8_clean 9 = .ok (.aload_n 0, 1) := by decide +kernel
theorem dX8_clean_10 : decode cX8_clean 10 = .ok (.getfield 20, 3) := by decide +kernel
theorem dX8_clean_13 : decode cX8_clean 13 = .ok (.iload_n 1, 1) := by decide +kernel
theorem dX8_clean_14 : decode cX8_clean 14 = .ok (.iconst 0, 1) := by decide +kernel
theorem dX8_clean_15 : decode cX8_clean 15 = .ok (.iastore, 1) := by decide +kernel
theorem dX8_clean_16 : decode cX8_clean 16 = .ok (.iinc 1 1, 3) := by decide +kernel
theorem dX8_clean_19 : decode cX8_clean 19 = .ok (.goto (-17), 3) := by decide +kernel
theorem dX8_clean_22 : decode cX8_clean 22 = .ok (.iconst 0, 1) := by decide +kernel
theorem dX8_clean_23 : decode cX8_clean 23 = .ok (.istore_n 1, 1) := by decide +kernel
theorem dX8_clean_24 : decode cX8_clean 24 = .ok (.iload_n 1, 1) := by decide +kernel
theorem dX8_clean_25 : decode cX8_clean 25 = .ok (.iconst 3, 1) := by decide +kernel
theorem dX8_clean_26 : decode cX8_clean 26 = .ok (.if_icmp .ge 16, 3) := by decide +kernel
theorem dX8_clean_29 : decode cX8_clean 29 = .ok (.aload_n 0, 1) := by decide +kernel
theorem dX8_clean_30 : decode cX8_clean 30 = .ok (.getfield 23, 3) := by decide +kernel
theorem dX8_clean_33 : decode cX8_clean 33 = .ok (.iload_n 1, 1) := by decide +kernel
theorem dX8_clean_34 : decode cX8_clean 34 = .ok (.iconst 0, 1) := by decide +kernel
theorem dX8_clean_35 : decode cX8_clean 35 = .ok (.iastore, 1) := by decide +kernel
theorem dX8_clean_36 : decode cX8_clean 36 = .ok (.iinc 1 1, 3) := by decide +kernel
theorem dX8_clean_39 : decode cX8_clean 39 = .ok (.goto (-15), 3) := by decide +kernel
theorem dX8_clean_42 : decode cX8_clean 42 = .ok (.return_, 1) := by decide +kernel
theorem dX8_s_0 : decode cX8_s 0 = .ok (.iload_n 1, 1) := by decide +kernel
theorem dX8_s_1 : decode cX8_s 1 = .ok (.bipush 93, 2) := by decide +kernel
theorem dX8_s_3 : decode cX8_s 3 = .ok (.if_icmp .gt 14, 3) := by decide +kernel
theorem dX8_s_6 : decode cX8_s 6 = .ok (.aload_n 0, 1) := by decide +kernel
theorem dX8_s_7 : decode cX8_s 7 = .ok (.iconst 0, 1) := by decide +kernel
theorem dX8_s_8 : decode cX8_s 8 = .ok (.iload_n 1, 1) := by decide +kernel
theorem dX8_s_9 : decode cX8_s 9 = .ok (.iconst 1, 1) := by decide +kernel
theorem dX8_s_10 : decode cX8_s 10 = .ok (.isub, 1) := by decide +kernel
theorem dX8_s_11 : decode cX8_s 11 = .ok (.invokevirtual 41, 3) := by decide +kernel
theorem dX8_s_14 : decode cX8_s 14 = .ok (.goto 32, 3) := by decide +kernel
theorem dX8_s_17 : decode cX8_s 17 = .ok (.iload_n 1, 1) := by decide +kernel
theorem dX8_s_18 : decode cX8_s 18 = .ok (.sipush 177, 3) := by decide +kernel
theorem dX8_s_21 : decode cX8_s 21 = .ok (.if_icmp .gt 15, 3) := by decide +kernel
theorem dX8_s_24 : decode cX8_s 24 = .ok (.aload_n 0, 1) := by decide +kernel
theorem dX8_s_25 : decode cX8_s 25 = .ok (.iconst 1, 1) := by decide +kernel
theorem dX8_s_26 : decode cX8_s 26 = .ok (.iload_n 1, 1) := by decide +kernel
theorem dX8_s_27 : decode cX8_s 27 = .ok (.bipush 94, 2) := by decide +kernel
theorem dX8_s_29 : decode cX8_s 29 = .ok (.isub, 1) := by decide +kernel
theorem dX8_s_30 : decode cX8_s 30 = .ok (.invokevirtual 41, 3) := by decide +kernel
theorem dX8_s_33 : decode cX8_s 33 = .ok (.goto 13, 3) := by decide +kernel
theorem dX8_s_36 : decode cX8_s 36 = .ok (.aload_n 0, 1) := by decide +kernel
theorem dX8_s_37 : decode cX8_s 37 = .ok (.iconst 2, 1) := by decide +kernel
theorem dX8_s_38 : decode cX8_s 38 = .ok (.iload_n 1, 1) := by decide +kernel
theorem dX8_s_39 : decode cX8_s 39 = .ok (.sipush 178, 3) := by decide +kernel
theorem dX8_s_42 : decode cX8_s 42 = .ok (.isub, 1) := by decide +kernel
theorem dX8_s_43 : decode cX8_s 43 = .ok (.invokevirtual 41, 3) := by decide +kernel
theorem dX8_s_46 : decode cX8_s 46 = .ok (.ireturn, 1) := by decide +kernel
theorem dX8_stepRings_0 : decode cX8_stepRings 0 = .ok (.aload_n 0, 1) := by decide +kernel
theorem dX8_stepRings_1 : decode cX8_stepRings 1 = .ok (.bipush 66, 2) := by decide +kernel
theorem dX8_stepRings_3 : decode cX8_stepRings 3 = .ok (.invokevirtual 45, 3) := by decide +kernel
theorem dX8_stepRings_6 : decode cX8_stepRings 6 = .ok (.aload_n 0, 1) := by decide +kernel
theorem dX8_stepRings_7 : decode cX8_stepRings 7 = .ok (.bipush 93, 2) := by decide +kernel
theorem dX8_stepRings_9 : decode cX8_stepRings 9 = .ok (.invokevirtual 45, 3) := by decide +kernel
theorem dX8_stepRings_12 : decode cX8_stepRings 12 = .ok (.ixor, 1) := by decide +kernel
theorem dX8_stepRings_13 : decode cX8_stepRings 13 = .ok (.istore_n 1, 1) := by decide +kernel
theorem dX8_stepRings_14 : decode cX8_stepRings 14 = .ok (.aload_n 0, 1) := by decide +kernel
theorem dX8_stepRings_15 : decode cX8_stepRings 15 = .ok (.sipush 162, 3) := by decide +kernel
theorem dX8_stepRings_18 : decode cX8_stepRings 18 = .ok (.invokevirtual 45, 3) := by decide +kernel
theorem dX8_stepRings_21 : decode cX8_stepRings 21 = .ok (.aload_n 0, 1) := by decide +kernel
theorem dX8_stepRings_22 : decode cX8_stepRings 22 = .ok (.sipush 177, 3) := by decide +kernel
theorem dX8_stepRings_25 : decode cX8_stepRings 25 = .ok (.invokevirtual 45, 3) := by decide +kernel
theorem dX8_stepRings_28 : decode cX8_stepRings 28 = .ok (.ixor, 1) := by decide +kernel
theorem dX8_stepRings_29 : decode cX8_stepRings 29 = .ok (.istore_n 2, 1) := by decide +kernel
theorem dX8_stepRings_30 : decode cX8_stepRings 30 = .ok (.aload_n 0, 1) := by decide +kernel
theorem dX8_stepRings_31 : decode cX8_stepRings 31 = .ok (.sipush 243, 3) := by decide +kernel
theorem dX8_stepRings_34 : decode cX8_stepRings 34 = .ok (.invokevirtual 45, 3) := by decide +kernel
theorem dX8_stepRings_37 : decode cX8_stepRings 37 = .ok (.aload_n 0, 1) := by decide +kernel
theorem dX8_stepRings_38 : decode cX8_stepRings 38 = .ok (.sipush 288, 3) := by decide +kernel
theorem dX8_stepRings_41 : decode cX8_stepRings 41 = .ok (.invokevirtual 45, 3) := by decide +kernel
theorem dX8_stepRings_44 : decode cX8_stepRings 44 = .ok (.ixor, 1) := by decide +kernel
theorem dX8_stepRings_45 : decode cX8_stepRings 45 = .ok (.istore_n 3, 1) := by decide +kernel
theorem dX8_stepRings_46 : decode cX8_stepRings 46 = .ok (.iload_n 1, 1) := by decide +kernel
theorem dX8_stepRings_47 : decode cX8_stepRings 47 = .ok (.iload_n 2, 1) := by decide +kernel
theorem dX8_stepRings_48 : decode cX8_stepRings 48 = .ok (.ixor, 1) := by decide +kernel
theorem dX8_stepRings_49 : decode cX8_stepRings 49 = .ok (.iload_n 3, 1) := by decide +kernel
theorem dX8_stepRings_50 : decode cX8_stepRings 50 = .ok (.ixor, 1) := by decide +kernel
theorem dX8_stepRings_51 : decode cX8_stepRings 51 = .ok (.istore 4, 2) := by decide +kernel
theorem dX8_stepRings_53 : decode cX8_stepRings 53 = .ok (.iload_n 1, 1) := by decide +kernel
theorem dX8_stepRings_54 : decode cX8_stepRings 54 = .ok (.aload_n 0, 1) := by decide +kernel
theorem dX8_stepRings_55 : decode cX8_stepRings 55 = .ok (.bipush 91, 2) := by decide +kernel
theorem dX8_stepRings_57 : decode cX8_stepRings 57 = .ok (.invokevirtual 45, 3) := by decide +kernel
theorem dX8_stepRings_60 : decode cX8_stepRings 60 = .ok (.aload_n 0, 1) := by decide +kernel
theorem dX8_stepRings_61 : decode cX8_stepRings 61 = .ok (.bipush 92, 2) := by decide +kernel
theorem dX8_stepRings_63 : decode cX8_stepRings 63 = .ok (.invokevirtual 45, 3) := by decide +kernel
theorem dX8_stepRings_66 : decode cX8_stepRings 66 = .ok (.iand, 1) := by decide +kernel
theorem dX8_stepRings_67 : decode cX8_stepRings 67 = .ok (.ixor, 1) := by decide +kernel
theorem dX8_stepRings_68 : decode cX8_stepRings 68 = .ok (.aload_n 0, 1) := by decide +kernel
theorem dX8_stepRings_69 : decode cX8_stepRings 69 = .ok (.sipush 171, 3) := by decide +kernel
theorem dX8_stepRings_72 : decode cX8_stepRings 72 = .ok (.invokevirtual 45, 3) := by decide +kernel
theorem dX8_stepRings_75 : decode cX8_stepRings 75 = .ok (.ixor, 1) := by decide +kernel
theorem dX8_stepRings_76 : decode cX8_stepRings 76 = .ok (.istore_n 1, 1) := by decide +kernel
theorem dX8_stepRings_77 : decode cX8_stepRings 77 = .ok (.iload_n 2, 1) := by decide +kernel
theorem dX8_stepRings_78 : decode cX8_stepRings 78 = .ok (.aload_n 0, 1) := by decide +kernel
theorem dX8_stepRings_79 : decode cX8_stepRings 79 = .ok (.sipush 175, 3) := by decide +kernel
theorem dX8_stepRings_82 : decode cX8_stepRings 82 = .ok (.invokevirtual 45, 3) := by decide +kernel
theorem dX8_stepRings_85 : decode cX8_stepRings 85 = .ok (.aload_n 0, 1) := by decide +kernel
theorem dX8_stepRings_86 : decode cX8_stepRings 86 = .ok (.sipush 176, 3) := by decide +kernel
theorem dX8_stepRings_89 : decode cX8_stepRings 89 = .ok (.invokevirtual 45, 3) := by decide +kernel
theorem dX8_stepRings_92 : decode cX8_stepRings 92 = .ok (.iand, 1) := by decide +kernel
theorem dX8_stepRings_93 : decode cX8_stepRings 93 = .ok (.ixor, 1) := by decide +kernel
theorem dX8_stepRings_94 : decode cX8_stepRings 94 = .ok (.aload_n 0, 1) := by decide +kernel
theorem dX8_stepRings_95 : decode cX8_stepRings 95 = .ok (.sipush 264, 3) := by decide +kernel
theorem dX8_stepRings_98 : decode cX8_stepRings 98 = .ok (.invokevirtual 45, 3) := by decide +kernel
theorem dX8_stepRings_101 : decode cX8_stepRings 101 = .ok (.ixor, 1) := by decide +kernel
theorem dX8_stepRings_102 : decode cX8_stepRings 102 = .ok (.istore_n 2, 1) := by decide +kernel
theorem dX8_stepRings_103 : decode cX8_stepRings 103 = .ok (.iload_n 3, 1) := by decide +kernel
theorem dX8_stepRings_104 : decode cX8_stepRings 104 = .ok (.aload_n 0, 1) := by decide +kernel
theorem dX8_stepRings_105 : decode cX8_stepRings 105 = .ok (.sipush 286, 3) := by decide +kernel
theorem dX8_stepRings_108 : decode cX8_stepRings 108 = .ok (.invokevirtual 45, 3) := by decide +kernel
theorem dX8_stepRings_111 : decode cX8_stepRings 111 = .ok (.aload_n 0, 1) := by decide +kernel
theorem dX8_stepRings_112 : decode cX8_stepRings 112 = .ok (.sipush 287, 3) := by decide +kernel
theorem dX8_stepRings_115 : decode cX8_stepRings 115 = .ok (.invokevirtual 45, 3) := by decide +kernel
theorem dX8_stepRings_118 : decode cX8_stepRings 118 = .ok (.iand, 1) := by decide +kernel
theorem dX8_stepRings_119 : decode cX8_stepRings 119 = .ok (.ixor, 1) := by decide +kernel
theorem dX8_stepRings_120 : decode cX8_stepRings 120 = .ok (.aload_n 0, 1) := by decide +kernel
theorem dX8_stepRings_121 : decode cX8_stepRings 121 = .ok (.bipush 69, 2) := by decide +kernel
theorem dX8_stepRings_123 : decode cX8_stepRings 123 = .ok (.invokevirtual 45, 3) := by decide +kernel
theorem dX8_stepRings_126 : decode cX8_stepRings 126 = .ok (.ixor, 1) := by decide +kernel
theorem dX8_stepRings_127 : decode cX8_stepRings 127 = .ok (.istore_n 3, 1) := by decide +kernel
theorem dX8_stepRings_128 : decode cX8_stepRings 128 = .ok (.aload_n 0, 1) := by decide +kernel
theorem dX8_stepRings_129 : decode cX8_stepRings 129 = .ok (.iconst 0, 1) := by decide +kernel
theorem dX8_stepRings_130 : decode cX8_stepRings 130 = .ok (.iload_n 3, 1) := by decide +kernel
theorem dX8_stepRings_131 : decode cX8_stepRings 131 = .ok (.invokevirtual 49, 3) := by decide +kernel
theorem dX8_stepRings_134 : decode cX8_stepRings 134 = .ok (.aload_n 0, 1) := by decide +kernel
theorem dX8_stepRings_135 : decode cX8_stepRings 135 = .ok (.iconst 1, 1) := by decide +kernel
theorem dX8_stepRings_136 : decode cX8_stepRings 136 = .ok (.iload_n 1, 1) := by decide +kernel
theorem dX8_stepRings_137 : decode cX8_stepRings 137 = .ok (.invokevirtual 49, 3) := by decide +kernel
theorem dX8_stepRings_140 : decode cX8_stepRings 140 = .ok (.aload_n 0, 1) := by decide +kernel
theorem dX8_stepRings_141 : decode cX8_stepRings 141 = .ok (.iconst 2, 1) := by decide +kernel
theorem dX8_stepRings_142 : decode cX8_stepRings 142 = .ok (.iload_n 2, 1) := by decide +kernel
theorem dX8_stepRings_143 : decode cX8_stepRings 143 = .ok (.invokevirtual 49, 3) := by decide +kernel
theorem dX8_stepRings_146 : decode cX8_stepRings 146 = .ok (.iload 4, 2) := by decide +kernel
theorem dX8_stepRings_148 : decode cX8_stepRings 148 = .ok (.ireturn, 1) := by decide +kernel
theorem dX8_b_0 : decode cX8_b 0 = .ok (.aload_n 0, 1) := by decide +kernel
theorem dX8_b_1 : decode cX8_b 1 = .ok (.iconst 0, 1) := by decide +kernel
theorem dX8_b_2 : decode cX8_b 2 = .ok (.iload_n 1, 1) := by decide +kernel
theorem dX8_b_3 : decode cX8_b 3 = .ok (.invokevirtual 41, 3) := by decide +kernel
theorem dX8_b_6 : decode cX8_b 6 = .ok (.ireturn, 1) := by decide +kernel
theorem dX8_t_0 : decode cX8_t 0 = .ok (.aload_n 0, 1) := by decide +kernel
theorem dX8_t_1 : decode cX8_t 1 = .ok (.iconst 1, 1) := by decide +kernel
theorem dX8_t_2 : decode cX8_t 2 = .ok (.iload_n 1, 1) := by decide +kernel
theorem dX8_t_3 : decode cX8_t 3 = .ok (.invokevirtual 41, 3) := by decide +kernel
theorem dX8_t_6 : decode cX8_t 6 = .ok (.ireturn, 1) := by decide +kernel
theorem dX8_stepTwo_0 : decode cX8_stepTwo 0 = .ok (.aload_n 0, 1) := by decide +kernel
theorem dX8_stepTwo_1 : decode cX8_stepTwo 1 = .ok (.bipush 12, 2) := by decide +kernel
theorem dX8_stepTwo_3 : decode cX8_stepTwo 3 = .ok (.invokevirtual 53, 3) := by decide +kernel
theorem dX8_stepTwo_6 : decode cX8_stepTwo 6 = .ok (.aload_n 0, 1) := by decide +kernel
theorem dX8_stepTwo_7 : decode cX8_stepTwo 7 = .ok (.bipush 8, 2) := by decide +kernel
theorem dX8_stepTwo_9 : decode cX8_stepTwo 9 = .ok (.invokevirtual 56, 3) := by decide +kernel
theorem dX8_stepTwo_12 : decode cX8_stepTwo 12 = .ok (.iand, 1) := by decide +kernel
theorem dX8_stepTwo_13 : decode cX8_stepTwo 13 = .ok (.aload_n 0, 1) := by decide +kernel
theorem dX8_stepTwo_14 : decode cX8_stepTwo 14 = .ok (.bipush 13, 2) := by decide +kernel
theorem dX8_stepTwo_16 : decode cX8_stepTwo 16 = .ok (.invokevirtual 56, 3) := by decide +kernel
theorem dX8_stepTwo_19 : decode cX8_stepTwo 19 = .ok (.aload_n 0, 1) := by decide +kernel
theorem dX8_stepTwo_20 : decode cX8_stepTwo 20 = .ok (.bipush 20, 2) := by decide +kernel
theorem dX8_stepTwo_22 : decode cX8_stepTwo 22 = .ok (.invokevirtual 56, 3) := by decide +kernel
theorem dX8_stepTwo_25 : decode cX8_stepTwo 25 = .ok (.iand, 1) := by decide +kernel
theorem dX8_stepTwo_26 : decode cX8_stepTwo 26 = .ok (.ixor, 1) := by decide +kernel
theorem dX8_stepTwo_27 : decode cX8_stepTwo 27 = .ok (.aload_n 0, 1) := by decide +kernel
theorem dX8_stepTwo_28 : decode cX8_stepTwo 28 = .ok (.bipush 95, 2) := by decide +kernel
theorem dX8_stepTwo_30 : decode cX8_stepTwo 30 = .ok (.invokevirtual 53, 3) := by decide +kernel
theorem dX8_stepTwo_33 : decode cX8_stepTwo 33 = .ok (.aload_n 0, 1) := by decide +kernel
theorem dX8_stepTwo_34 : decode cX8_stepTwo 34 = .ok (.bipush 42, 2) := by decide +kernel
theorem dX8_stepTwo_36 : decode cX8_stepTwo 36 = .ok (.invokevirtual 56, 3) := by decide +kernel
theorem dX8_stepTwo_39 : decode cX8_stepTwo 39 = .ok (.iand, 1) := by decide +kernel
theorem dX8_stepTwo_40 : decode cX8_stepTwo 40 = .ok (.ixor, 1) := by decide +kernel
theorem dX8_stepTwo_41 : decode cX8_stepTwo 41 = .ok (.aload_n 0, 1) := by decide +kernel
theorem dX8_stepTwo_42 : decode cX8_stepTwo 42 = .ok (.bipush 60, 2) := by decide +kernel
theorem dX8_stepTwo_44 : decode cX8_stepTwo 44 = .ok (.invokevirtual 56, 3) := by decide +kernel
theorem dX8_stepTwo_47 : decode cX8_stepTwo 47 = .ok (.aload_n 0, 1) := by decide +kernel
theorem dX8_stepTwo_48 : decode cX8_stepTwo 48 = .ok (.bipush 79, 2) := by decide +kernel
theorem dX8_stepTwo_50 : decode cX8_stepTwo 50 = .ok (.invokevirtual 56, 3) := by decide +kernel
theorem dX8_stepTwo_53 : decode cX8_stepTwo 53 = .ok (.iand, 1) := by decide +kernel
theorem dX8_stepTwo_54 : decode cX8_stepTwo 54 = .ok (.ixor, 1) := by decide +kernel
theorem dX8_stepTwo_55 : decode cX8_stepTwo 55 = .ok (.aload_n 0, 1) := by decide +kernel
theorem dX8_stepTwo_56 : decode cX8_stepTwo 56 = .ok (.bipush 12, 2) := by decide +kernel
theorem dX8_stepTwo_58 : decode cX8_stepTwo 58 = .ok (.invokevirtual 53, 3) := by decide +kernel
theorem dX8_stepTwo_61 : decode cX8_stepTwo 61 = .ok (.aload_n 0, 1) := by decide +kernel
theorem dX8_stepTwo_62 : decode cX8_stepTwo 62 = .ok (.bipush 95, 2) := by decide +kernel
theorem dX8_stepTwo_64 : decode cX8_stepTwo 64 = .ok (.invokevirtual 53, 3) := by decide +kernel
theorem dX8_stepTwo_67 : decode cX8_stepTwo 67 = .ok (.iand, 1) := by decide +kernel
theorem dX8_stepTwo_68 : decode cX8_stepTwo 68 = .ok (.aload_n 0, 1) := by decide +kernel
theorem dX8_stepTwo_69 : decode cX8_stepTwo 69 = .ok (.bipush 94, 2) := by decide +kernel
theorem dX8_stepTwo_71 : decode cX8_stepTwo 71 = .ok (.invokevirtual 56, 3) := by decide +kernel
theorem dX8_stepTwo_74 : decode cX8_stepTwo 74 = .ok (.iand, 1) := by decide +kernel
theorem dX8_stepTwo_75 : decode cX8_stepTwo 75 = .ok (.ixor, 1) := by decide +kernel
theorem dX8_stepTwo_76 : decode cX8_stepTwo 76 = .ok (.aload_n 0, 1) := by decide +kernel
theorem dX8_stepTwo_77 : decode cX8_stepTwo 77 = .ok (.bipush 93, 2) := by decide +kernel
theorem dX8_stepTwo_79 : decode cX8_stepTwo 79 = .ok (.invokevirtual 56, 3) := by decide +kernel
theorem dX8_stepTwo_82 : decode cX8_stepTwo 82 = .ok (.ixor, 1) := by decide +kernel
theorem dX8_stepTwo_83 : decode cX8_stepTwo 83 = .ok (.istore_n 2, 1) := by decide +kernel
theorem dX8_stepTwo_84 : decode cX8_stepTwo 84 = .ok (.iload_n 2, 1) := by decide +kernel
theorem dX8_stepTwo_85 : decode cX8_stepTwo 85 = .ok (.aload_n 0, 1) := by decide +kernel
theorem dX8_stepTwo_86 : decode cX8_stepTwo 86 = .ok (.iconst 2, 1) := by decide +kernel
theorem dX8_stepTwo_87 : decode cX8_stepTwo 87 = .ok (.invokevirtual 53, 3) := by decide +kernel
theorem dX8_stepTwo_90 : decode cX8_stepTwo 90 = .ok (.ixor, 1) := by decide +kernel
theorem dX8_stepTwo_91 : decode cX8_stepTwo 91 = .ok (.aload_n 0, 1) := by decide +kernel
theorem dX8_stepTwo_92 : decode cX8_stepTwo 92 = .ok (.bipush 15, 2) := by decide +kernel
theorem dX8_stepTwo_94 : decode cX8_stepTwo 94 = .ok (.invokevirtual 53, 3) := by decide +kernel
theorem dX8_stepTwo_97 : decode cX8_stepTwo 97 = .ok (.ixor, 1) := by decide +kernel
theorem dX8_stepTwo_98 : decode cX8_stepTwo 98 = .ok (.aload_n 0, 1) := by decide +kernel
theorem dX8_stepTwo_99 : decode cX8_stepTwo 99 = .ok (.bipush 36, 2) := by decide +kernel
theorem dX8_stepTwo_101 : decode cX8_stepTwo 101 = .ok (.invokevirtual 53, 3) := by decide +kernel
theorem dX8_stepTwo_104 : decode cX8_stepTwo 104 = .ok (.ixor, 1) := by decide +kernel
theorem dX8_stepTwo_105 : decode cX8_stepTwo 105 = .ok (.aload_n 0, 1) := by decide +kernel
theorem dX8_stepTwo_106 : decode cX8_stepTwo 106 = .ok (.bipush 45, 2) := by decide +kernel
theorem dX8_stepTwo_108 : decode cX8_stepTwo 108 = .ok (.invokevirtual 53, 3) := by decide +kernel
theorem dX8_stepTwo_111 : decode cX8_stepTwo 111 = .ok (.ixor, 1) := by decide +kernel
theorem dX8_stepTwo_112 : decode cX8_stepTwo 112 = .ok (.aload_n 0, 1) := by decide +kernel
theorem dX8_stepTwo_113 : decode cX8_stepTwo 113 = .ok (.bipush 64, 2) := by decide +kernel
theorem dX8_stepTwo_115 : decode cX8_stepTwo 115 = .ok (.invokevirtual 53, 3) := by decide +kernel
theorem dX8_stepTwo_118 : decode cX8_stepTwo 118 = .ok (.ixor, 1) := by decide +kernel
theorem dX8_stepTwo_119 : decode cX8_stepTwo 119 = .ok (.aload_n 0, 1) := by decide +kernel
theorem dX8_stepTwo_120 : decode cX8_stepTwo 120 = .ok (.bipush 73, 2) := by decide +kernel
theorem dX8_stepTwo_122 : decode cX8_stepTwo 122 = .ok (.invokevirtual 53, 3) := by decide +kernel
theorem dX8_stepTwo_125 : decode cX8_stepTwo 125 = .ok (.ixor, 1) := by decide +kernel
theorem dX8_stepTwo_126 : decode cX8_stepTwo 126 = .ok (.aload_n 0, 1) := by decide +kernel
theorem dX8_stepTwo_127 : decode cX8_stepTwo 127 = .ok (.bipush 89, 2) := by decide +kernel
theorem dX8_stepTwo_129 : decode cX8_stepTwo 129 = .ok (.invokevirtual 53, 3) := by decide +kernel
theorem dX8_stepTwo_132 : decode cX8_stepTwo 132 = .ok (.ixor, 1) := by decide +kernel
theorem dX8_stepTwo_133 : decode cX8_stepTwo 133 = .ok (.istore_n 2, 1) := by decide +kernel
theorem dX8_stepTwo_134 : decode cX8_stepTwo 134 = .ok (.aload_n 0, 1) := by decide +kernel
theorem dX8_stepTwo_135 : decode cX8_stepTwo 135 = .ok (.iconst 0, 1) := by decide +kernel
theorem dX8_stepTwo_136 : decode cX8_stepTwo 136 = .ok (.invokevirtual 56, 3) := by decide +kernel
theorem dX8_stepTwo_139 : decode cX8_stepTwo 139 = .ok (.aload_n 0, 1) := by decide +kernel
theorem dX8_stepTwo_140 : decode cX8_stepTwo 140 = .ok (.bipush 7, 2) := by decide +kernel
theorem dX8_stepTwo_142 : decode cX8_stepTwo 142 = .ok (.invokevirtual 56, 3) := by decide +kernel
theorem dX8_stepTwo_145 : decode cX8_stepTwo 145 = .ok (.ixor, 1) := by decide +kernel
theorem dX8_stepTwo_146 : decode cX8_stepTwo 146 = .ok (.aload_n 0, 1) := by decide +kernel
theorem dX8_stepTwo_147 : decode cX8_stepTwo 147 = .ok (.bipush 38, 2) := by decide +kernel
theorem dX8_stepTwo_149 : decode cX8_stepTwo 149 = .ok (.invokevirtual 56, 3) := by decide +kernel
theorem dX8_stepTwo_152 : decode cX8_stepTwo 152 = .ok (.ixor, 1) := by decide +kernel
theorem dX8_stepTwo_153 : decode cX8_stepTwo 153 = .ok (.aload_n 0, 1) := by decide +kernel
theorem dX8_stepTwo_154 : decode cX8_stepTwo 154 = .ok (.bipush 70, 2) := by decide +kernel
theorem dX8_stepTwo_156 : decode cX8_stepTwo 156 = .ok (.invokevirtual 56, 3) := by decide +kernel
theorem dX8_stepTwo_159 : decode cX8_stepTwo 159 = .ok (.ixor, 1) := by decide +kernel
theorem dX8_stepTwo_160 : decode cX8_stepTwo 160 = .ok (.aload_n 0, 1) := by decide +kernel
theorem dX8_stepTwo_161 : decode cX8_stepTwo 161 = .ok (.bipush 81, 2) := by decide +kernel
theorem dX8_stepTwo_163 : decode cX8_stepTwo 163 = .ok (.invokevirtual 56, 3) := by decide +kernel
theorem dX8_stepTwo_166 : decode cX8_stepTwo 166 = .ok (.ixor, 1) := by decide +kernel
theorem dX8_stepTwo_167 : decode cX8_stepTwo 167 = .ok (.aload_n 0, 1) := by decide +kernel
theorem dX8_stepTwo_168 : decode cX8_stepTwo 168 = .ok (.bipush 96, 2) := by decide +kernel
theorem dX8_stepTwo_170 : decode cX8_stepTwo 170 = .ok (.invokevirtual 56, 3) := by decide +kernel
theorem dX8_stepTwo_173 : decode cX8_stepTwo 173 = .ok (.ixor, 1) := by decide +kernel
theorem dX8_stepTwo_174 : decode cX8_stepTwo 174 = .ok (.istore_n 3, 1) := by decide +kernel
theorem dX8_stepTwo_175 : decode cX8_stepTwo 175 = .ok (.aload_n 0, 1) := by decide +kernel
theorem dX8_stepTwo_176 : decode cX8_stepTwo 176 = .ok (.iconst 0, 1) := by decide +kernel
theorem dX8_stepTwo_177 : decode cX8_stepTwo 177 = .ok (.invokevirtual 56, 3) := by decide +kernel
theorem dX8_stepTwo_180 : decode cX8_stepTwo 180 = .ok (.aload_n 0, 1) := by decide +kernel
theorem dX8_stepTwo_181 : decode cX8_stepTwo 181 = .ok (.iconst 0, 1) := by decide +kernel
theorem dX8_stepTwo_182 : decode cX8_stepTwo 182 = .ok (.invokevirtual 53, 3) := by decide +kernel
theorem dX8_stepTwo_185 : decode cX8_stepTwo 185 = .ok (.ixor, 1) := by decide +kernel
theorem dX8_stepTwo_186 : decode cX8_stepTwo 186 = .ok (.aload_n 0, 1) := by decide +kernel
theorem dX8_stepTwo_187 : decode cX8_stepTwo 187 = .ok (.bipush 26, 2) := by decide +kernel
theorem dX8_stepTwo_189 : decode cX8_stepTwo 189 = .ok (.invokevirtual 53, 3) := by decide +kernel
theorem dX8_stepTwo_192 : decode cX8_stepTwo 192 = .ok (.ixor, 1) := by decide +kernel
theorem dX8_stepTwo_193 : decode cX8_stepTwo 193 = .ok (.aload_n 0, 1) := by decide +kernel
theorem dX8_stepTwo_194 : decode cX8_stepTwo 194 = .ok (.bipush 56, 2) := by decide +kernel
theorem dX8_stepTwo_196 : decode cX8_stepTwo 196 = .ok (.invokevirtual 53, 3) := by decide +kernel
theorem dX8_stepTwo_199 : decode cX8_stepTwo 199 = .ok (.ixor, 1) := by decide +kernel
theorem dX8_stepTwo_200 : decode cX8_stepTwo 200 = .ok (.aload_n 0, 1) := by decide +kernel
theorem dX8_stepTwo_201 : decode cX8_stepTwo 201 = .ok (.bipush 91, 2) := by decide +kernel
theorem dX8_stepTwo_203 : decode cX8_stepTwo 203 = .ok (.invokevirtual 53, 3) := by decide +kernel
theorem dX8_stepTwo_206 : decode cX8_stepTwo 206 = .ok (.ixor, 1) := by decide +kernel
theorem dX8_stepTwo_207 : decode cX8_stepTwo 207 = .ok (.aload_n 0, 1) := by decide +kernel
theorem dX8_stepTwo_208 : decode cX8_stepTwo 208 = .ok (.bipush 96, 2) := by decide +kernel
theorem dX8_stepTwo_210 : decode cX8_stepTwo 210 = .ok (.invokevirtual 53, 3) := by decide +kernel
theorem dX8_stepTwo_213 : decode cX8_stepTwo 213 = .ok (.ixor, 1) := by decide +kernel
theorem dX8_stepTwo_214 : decode cX8_stepTwo 214 = .ok (.aload_n 0, 1) := by decide +kernel
theorem dX8_stepTwo_215 : decode cX8_stepTwo 215 = .ok (.iconst 3, 1) := by decide +kernel
theorem dX8_stepTwo_216 : decode cX8_stepTwo 216 = .ok (.invokevirtual 53, 3) := by decide +kernel
theorem dX8_stepTwo_219 : decode cX8_stepTwo 219 = .ok (.aload_n 0, 1) := by decide +kernel
theorem dX8_stepTwo_220 : decode cX8_stepTwo 220 = .ok (.bipush 67, 2) := by decide +kernel
theorem dX8_stepTwo_222 : decode cX8_stepTwo 222 = .ok (.invokevirtual 53, 3) := by decide +kernel
theorem dX8_stepTwo_225 : decode cX8_stepTwo 225 = .ok (.iand, 1) := by decide +kernel
theorem dX8_stepTwo_226 : decode cX8_stepTwo 226 = .ok (.ixor, 1) := by decide +kernel
theorem dX8_stepTwo_227 : decode cX8_stepTwo 227 = .ok (.aload_n 0, 1) := by decide +kernel
theorem dX8_stepTwo_228 : decode cX8_stepTwo 228 = .ok (.bipush 11, 2) := by decide +kernel
theorem dX8_stepTwo_230 : decode cX8_stepTwo 230 = .ok (.invokevirtual 53, 3) := by decide +kernel
theorem dX8_stepTwo_233 : decode cX8_stepTwo 233 = .ok (.aload_n 0, 1) := by decide +kernel
theorem dX8_stepTwo_234 : decode cX8_stepTwo 234 = .ok (.bipush 13, 2) := by decide +kernel
theorem dX8_stepTwo_236 : decode cX8_stepTwo 236 = .ok (.invokevirtual 53, 3) := by decide +kernel
theorem dX8_stepTwo_239 : decode cX8_stepTwo 239 = .ok (.iand, 1) := by decide +kernel
theorem dX8_stepTwo_240 : decode cX8_stepTwo 240 = .ok (.ixor, 1) := by decide +kernel
theorem dX8_stepTwo_241 : decode cX8_stepTwo 241 = .ok (.aload_n 0, 1) := by decide +kernel
theorem dX8_stepTwo_242 : decode cX8_stepTwo 242 = .ok (.bipush 17, 2) := by decide +kernel
theorem dX8_stepTwo_244 : decode cX8_stepTwo 244 = .ok (.invokevirtual 53, 3) := by decide +kernel
theorem dX8_stepTwo_247 : decode cX8_stepTwo 247 = .ok (.aload_n 0, 1) := by decide +kernel
theorem dX8_stepTwo_248 : decode cX8_stepTwo 248 = .ok (.bipush 18, 2) := by decide +kernel
theorem dX8_stepTwo_250 : decode cX8_stepTwo 250 = .ok (.invokevirtual 53, 3) := by decide +kernel
theorem dX8_stepTwo_253 : decode cX8_stepTwo 253 = .ok (.iand, 1) := by decide +kernel
theorem dX8_stepTwo_254 : decode cX8_stepTwo 254 = .ok (.ixor, 1) := by decide +kernel
theorem dX8_stepTwo_255 : decode cX8_stepTwo 255 = .ok (.aload_n 0, 1) := by decide +kernel
theorem dX8_stepTwo_256 : decode cX8_stepTwo 256 = .ok (.bipush 27, 2) := by decide +kernel
theorem dX8_stepTwo_258 : decode cX8_stepTwo 258 = .ok (.invokevirtual 53, 3) := by decide +kernel
theorem dX8_stepTwo_261 : decode cX8_stepTwo 261 = .ok (.aload_n 0, 1) := by decide +kernel
theorem dX8_stepTwo_262 : decode cX8_stepTwo 262 = .ok (.bipush 59, 2) := by decide +kernel
theorem dX8_stepTwo_264 : decode cX8_stepTwo 264 = .ok (.invokevirtual 53, 3) := by decide +kernel
theorem dX8_stepTwo_267 : decode cX8_stepTwo 267 = .ok (.iand, 1) := by decide +kernel
theorem dX8_stepTwo_268 : decode cX8_stepTwo 268 = .ok (.ixor, 1) := by decide +kernel
theorem dX8_stepTwo_269 : decode cX8_stepTwo 269 = .ok (.aload_n 0, 1) := by decide +kernel
theorem dX8_stepTwo_270 : decode cX8_stepTwo 270 = .ok (.bipush 40, 2) := by decide +kernel
theorem dX8_stepTwo_272 : decode cX8_stepTwo 272 = .ok (.invokevirtual 53, 3) := by decide +kernel
theorem dX8_stepTwo_275 : decode cX8_stepTwo 275 = .ok (.aload_n 0, 1) := by decide +kernel
theorem dX8_stepTwo_276 : decode cX8_stepTwo 276 = .ok (.bipush 48, 2) := by decide +kernel
theorem dX8_stepTwo_278 : decode cX8_stepTwo 278 = .ok (.invokevirtual 53, 3) := by decide +kernel
theorem dX8_stepTwo_281 : decode cX8_stepTwo 281 = .ok (.iand, 1) := by decide +kernel
theorem dX8_stepTwo_282 : decode cX8_stepTwo 282 = .ok (.ixor, 1) := by decide +kernel
theorem dX8_stepTwo_283 : decode cX8_stepTwo 283 = .ok (.aload_n 0, 1) := by decide +kernel
theorem dX8_stepTwo_284 : decode cX8_stepTwo 284 = .ok (.bipush 61, 2) := by decide +kernel
theorem dX8_stepTwo_286 : decode cX8_stepTwo 286 = .ok (.invokevirtual 53, 3) := by decide +kernel
theorem dX8_stepTwo_289 : decode cX8_stepTwo 289 = .ok (.aload_n 0, 1) := by decide +kernel
theorem dX8_stepTwo_290 : decode cX8_stepTwo 290 = .ok (.bipush 65, 2) := by decide +kernel
theorem dX8_stepTwo_292 : decode cX8_stepTwo 292 = .ok (.invokevirtual 53, 3) := by decide +kernel
theorem dX8_stepTwo_295 : decode cX8_stepTwo 295 = .ok (.iand, 1) := by decide +kernel
theorem dX8_stepTwo_296 : decode cX8_stepTwo 296 = .ok (.ixor, 1) := by decide +kernel
theorem dX8_stepTwo_297 : decode cX8_stepTwo 297 = .ok (.aload_n 0, 1) := by decide +kernel
theorem dX8_stepTwo_298 : decode cX8_stepTwo 298 = .ok (.bipush 68, 2) := by decide +kernel
theorem dX8_stepTwo_300 : decode cX8_stepTwo 300 = .ok (.invokevirtual 53, 3) := by decide +kernel
theorem dX8_stepTwo_303 : decode cX8_stepTwo 303 = .ok (.aload_n 0, 1) := by decide +kernel
theorem dX8_stepTwo_304 : decode cX8_stepTwo 304 = .ok (.bipush 84, 2) := by decide +kernel
theorem dX8_stepTwo_306 : decode cX8_stepTwo 306 = .ok (.invokevirtual 53, 3) := by decide +kernel
theorem dX8_stepTwo_309 : decode cX8_stepTwo 309 = .ok (.iand, 1) := by decide +kernel
theorem dX8_stepTwo_310 : decode cX8_stepTwo 310 = .ok (.ixor, 1) := by decide +kernel
theorem dX8_stepTwo_311 : decode cX8_stepTwo 311 = .ok (.istore 4, 2) := by decide +kernel
theorem dX8_stepTwo_313 : decode cX8_stepTwo 313 = .ok (.iload 4, 2) := by decide +kernel
theorem dX8_stepTwo_315 : decode cX8_stepTwo 315 = .ok (.aload_n 0, 1) := by decide +kernel
theorem dX8_stepTwo_316 : decode cX8_stepTwo 316 = .ok (.bipush 88, 2) := by decide +kernel
theorem dX8_stepTwo_318 : decode cX8_stepTwo 318 = .ok (.invokevirtual 53, 3) := by decide +kernel
theorem dX8_stepTwo_321 : decode cX8_stepTwo 321 = .ok (.aload_n 0, 1) := by decide +kernel
theorem dX8_stepTwo_322 : decode cX8_stepTwo 322 = .ok (.bipush 92, 2) := by decide +kernel
theorem dX8_stepTwo_324 : decode cX8_stepTwo 324 = .ok (.invokevirtual 53, 3) := by decide +kernel
theorem dX8_stepTwo_327 : decode cX8_stepTwo 327 = .ok (.iand, 1) := by decide +kernel
theorem dX8_stepTwo_328 : decode cX8_stepTwo 328 = .ok (.aload_n 0, 1) := by decide +kernel
theorem dX8_stepTwo_329 : decode cX8_stepTwo 329 = .ok (.bipush 93, 2) := by decide +kernel
theorem dX8_stepTwo_331 : decode cX8_stepTwo 331 = .ok (.invokevirtual 53, 3) := by decide +kernel
theorem dX8_stepTwo_334 : decode cX8_stepTwo 334 = .ok (.iand, 1) := by decide +kernel
theorem dX8_stepTwo_335 : decode cX8_stepTwo 335 = .ok (.aload_n 0, 1) := by decide +kernel
theorem dX8_stepTwo_336 : decode cX8_stepTwo 336 = .ok (.bipush 95, 2) := by decide +kernel
theorem dX8_stepTwo_338 : decode cX8_stepTwo 338 = .ok (.invokevirtual 53, 3) := by decide +kernel
theorem dX8_stepTwo_341 : decode cX8_stepTwo 341 = .ok (.iand, 1) := by decide +kernel
theorem dX8_stepTwo_342 : decode cX8_stepTwo 342 = .ok (.ixor, 1) := by decide +kernel
theorem dX8_stepTwo_343 : decode cX8_stepTwo 343 = .ok (.aload_n 0, 1) := by decide +kernel
theorem dX8_stepTwo_344 : decode cX8_stepTwo 344 = .ok (.bipush 22, 2) := by decide +kernel
theorem dX8_stepTwo_346 : decode cX8_stepTwo 346 = .ok (.invokevirtual 53, 3) := by decide +kernel
theorem dX8_stepTwo_349 : decode cX8_stepTwo 349 = .ok (.aload_n 0, 1) := by decide +kernel
theorem dX8_stepTwo_350 : decode cX8_stepTwo 350 = .ok (.bipush 24, 2) := by decide +kernel
theorem dX8_stepTwo_352 : decode cX8_stepTwo 352 = .ok (.invokevirtual 53, 3) := by decide +kernel
theorem dX8_stepTwo_355 : decode cX8_stepTwo 355 = .ok (.iand, 1) := by decide +kernel
theorem dX8_stepTwo_356 : decode cX8_stepTwo 356 = .ok (.aload_n 0, 1) := by decide +kernel
theorem dX8_stepTwo_357 : decode cX8_stepTwo 357 = .ok (.bipush 25, 2) := by decide +kernel
theorem dX8_stepTwo_359 : decode cX8_stepTwo 359 = .ok (.invokevirtual 53, 3) := by decide +kernel
theorem dX8_stepTwo_362 : decode cX8_stepTwo 362 = .ok (.iand, 1) := by decide +kernel
theorem dX8_stepTwo_363 : decode cX8_stepTwo 363 = .ok (.ixor, 1) := by decide +kernel
theorem dX8_stepTwo_364 : decode cX8_stepTwo 364 = .ok (.aload_n 0, 1) := by decide +kernel
theorem dX8_stepTwo_365 : decode cX8_stepTwo 365 = .ok (.bipush 70, 2) := by decide +kernel
theorem dX8_stepTwo_367 : decode cX8_stepTwo 367 = .ok (.invokevirtual 53, 3) := by decide +kernel
theorem dX8_stepTwo_370 : decode cX8_stepTwo 370 = .ok (.aload_n 0, 1) := by decide +kernel
theorem dX8_stepTwo_371 : decode cX8_stepTwo 371 = .ok (.bipush 78, 2) := by decide +kernel
theorem dX8_stepTwo_373 : decode cX8_stepTwo 373 = .ok (.invokevirtual 53, 3) := by decide +kernel
theorem dX8_stepTwo_376 : decode cX8_stepTwo 376 = .ok (.iand, 1) := by decide +kernel
theorem dX8_stepTwo_377 : decode cX8_stepTwo 377 = .ok (.aload_n 0, 1) := by decide +kernel
theorem dX8_stepTwo_378 : decode cX8_stepTwo 378 = .ok (.bipush 82, 2) := by decide +kernel
theorem dX8_stepTwo_380 : decode cX8_stepTwo 380 = .ok (.invokevirtual 53, 3) := by decide +kernel
theorem dX8_stepTwo_383 : decode cX8_stepTwo 383 = .ok (.iand, 1) := by decide +kernel
theorem dX8_stepTwo_384 : decode cX8_stepTwo 384 = .ok (.ixor, 1) := by decide +kernel
theorem dX8_stepTwo_385 : decode cX8_stepTwo 385 = .ok (.istore 4, 2) := by decide +kernel
theorem dX8_stepTwo_387 : decode cX8_stepTwo 387 = .ok (.aload_n 0, 1) := by decide +kernel
theorem dX8_stepTwo_388 : decode cX8_stepTwo 388 = .ok (.iconst 1, 1) := by decide +kernel
theorem dX8_stepTwo_389 : decode cX8_stepTwo 389 = .ok (.iload_n 1, 1) := by decide +kernel
theorem dX8_stepTwo_390 : decode cX8_stepTwo 390 = .ok (.ifCond .eq 9, 3) := by decide +kernel
theorem dX8_stepTwo_393 : decode cX8_stepTwo 393 = .ok (.iload_n 3, 1) := by decide +kernel
theorem dX8_stepTwo_394 : decode cX8_stepTwo 394 = .ok (.iload_n 2, 1) := by decide +kernel
theorem dX8_stepTwo_395 : decode cX8_stepTwo 395 = .ok (.ixor, 1) := by decide +kernel
theorem dX8_stepTwo_396 : decode cX8_stepTwo 396 = .ok (.goto 4, 3) := by decide +kernel
theorem dX8_stepTwo_399 : decode cX8_stepTwo 399 = .ok (.iload_n 3, 1) := by decide +kernel
theorem dX8_stepTwo_400 : decode cX8_stepTwo 400 = .ok (.invokevirtual 59, 3) := by decide +kernel
theorem dX8_stepTwo_403 : decode cX8_stepTwo 403 = .ok (.aload_n 0, 1) := by decide +kernel
theorem dX8_stepTwo_404 : decode cX8_stepTwo 404 = .ok (.iconst 0, 1) := by decide +kernel
theorem dX8_stepTwo_405 : decode cX8_stepTwo 405 = .ok (.iload_n 1, 1) := by decide +kernel
theorem dX8_stepTwo_406 : decode cX8_stepTwo 406 = .ok (.ifCond .eq 10, 3) := by decide +kernel
theorem dX8_stepTwo_409 : decode cX8_stepTwo 409 = .ok (.iload 4, 2) := by decide +kernel
theorem dX8_stepTwo_411 : decode cX8_stepTwo 411 = .ok (.iload_n 2, 1) := by decide +kernel
theorem dX8_stepTwo_412 : decode cX8_stepTwo 412 = .ok (.ixor, 1) := by decide +kernel
theorem dX8_stepTwo_413 : decode cX8_stepTwo 413 = .ok (.goto 5, 3) := by decide +kernel
theorem dX8_stepTwo_416 : decode cX8_stepTwo 416 = .ok (.iload 4, 2) := by decide +kernel
theorem dX8_stepTwo_418 : decode cX8_stepTwo 418 = .ok (.invokevirtual 59, 3) := by decide +kernel
theorem dX8_stepTwo_421 : decode cX8_stepTwo 421 = .ok (.iload_n 2, 1) := by decide +kernel
theorem dX8_stepTwo_422 : decode cX8_stepTwo 422 = .ok (.ireturn, 1) := by decide +kernel
theorem dX8_goes_0 : decode cX8_goes 0 = .ok (.iload_n 1, 1) := by decide +kernel
theorem dX8_goes_1 : decode cX8_goes 1 = .ok (.ifCond .ne 37, 3) := by decide +kernel
theorem dX8_goes_4 : decode cX8_goes 4 = .ok (.aload_n 0, 1) := by decide +kernel
theorem dX8_goes_5 : decode cX8_goes 5 = .ok (.iconst 0, 1) := by decide +kernel
theorem dX8_goes_6 : decode cX8_goes 6 = .ok (.bipush 13, 2) := by decide +kernel
theorem dX8_goes_8 : decode cX8_goes 8 = .ok (.invokevirtual 41, 3) := by decide +kernel
theorem dX8_goes_11 : decode cX8_goes 11 = .ok (.aload_n 0, 1) := by decide +kernel
theorem dX8_goes_12 : decode cX8_goes 12 = .ok (.iconst 0, 1) := by decide +kernel
theorem dX8_goes_13 : decode cX8_goes 13 = .ok (.bipush 16, 2) := by decide +kernel
theorem dX8_goes_15 : decode cX8_goes 15 = .ok (.invokevirtual 41, 3) := by decide +kernel
theorem dX8_goes_18 : decode cX8_goes 18 = .ok (.ixor, 1) := by decide +kernel
theorem dX8_goes_19 : decode cX8_goes 19 = .ok (.aload_n 0, 1) := by decide +kernel
theorem dX8_goes_20 : decode cX8_goes 20 = .ok (.iconst 0, 1) := by decide +kernel
theorem dX8_goes_21 : decode cX8_goes 21 = .ok (.bipush 17, 2) := by decide +kernel
theorem dX8_goes_23 : decode cX8_goes 23 = .ok (.invokevirtual 41, 3) := by decide +kernel
theorem dX8_goes_26 : decode cX8_goes 26 = .ok (.ixor, 1) := by decide +kernel
theorem dX8_goes_27 : decode cX8_goes 27 = .ok (.aload_n 0, 1) := by decide +kernel
theorem dX8_goes_28 : decode cX8_goes 28 = .ok (.iconst 0, 1) := by decide +kernel
theorem dX8_goes_29 : decode cX8_goes 29 = .ok (.bipush 18, 2) := by decide +kernel
theorem dX8_goes_31 : decode cX8_goes 31 = .ok (.invokevirtual 41, 3) := by decide +kernel
theorem dX8_goes_34 : decode cX8_goes 34 = .ok (.ixor, 1) := by decide +kernel
theorem dX8_goes_35 : decode cX8_goes 35 = .ok (.goto 57, 3) := by decide +kernel
theorem dX8_goes_38 : decode cX8_goes 38 = .ok (.iload_n 1, 1) := by decide +kernel
theorem dX8_goes_39 : decode cX8_goes 39 = .ok (.iconst 1, 1) := by decide +kernel
theorem dX8_goes_40 : decode cX8_goes 40 = .ok (.if_icmp .ne 21, 3) := by decide +kernel
theorem dX8_goes_43 : decode cX8_goes 43 = .ok (.aload_n 0, 1) := by decide +kernel
theorem dX8_goes_44 : decode cX8_goes 44 = .ok (.iconst 1, 1) := by decide +kernel
theorem dX8_goes_45 : decode cX8_goes 45 = .ok (.bipush 20, 2) := by decide +kernel
theorem dX8_goes_47 : decode cX8_goes 47 = .ok (.invokevirtual 41, 3) := by decide +kernel
theorem dX8_goes_50 : decode cX8_goes 50 = .ok (.aload_n 0, 1) := by decide +kernel
theorem dX8_goes_51 : decode cX8_goes 51 = .ok (.iconst 1, 1) := by decide +kernel
theorem dX8_goes_52 : decode cX8_goes 52 = .ok (.bipush 21, 2) := by decide +kernel
theorem dX8_goes_54 : decode cX8_goes 54 = .ok (.invokevirtual 41, 3) := by decide +kernel
theorem dX8_goes_57 : decode cX8_goes 57 = .ok (.ixor, 1) := by decide +kernel
theorem dX8_goes_58 : decode cX8_goes 58 = .ok (.goto 34, 3) := by decide +kernel
theorem dX8_goes_61 : decode cX8_goes 61 = .ok (.aload_n 0, 1) := by decide +kernel
theorem dX8_goes_62 : decode cX8_goes 62 = .ok (.iconst 2, 1) := by decide +kernel
theorem dX8_goes_63 : decode cX8_goes 63 = .ok (.bipush 7, 2) := by decide +kernel
theorem dX8_goes_65 : decode cX8_goes 65 = .ok (.invokevirtual 41, 3) := by decide +kernel
theorem dX8_goes_68 : decode cX8_goes 68 = .ok (.aload_n 0, 1) := by decide +kernel
theorem dX8_goes_69 : decode cX8_goes 69 = .ok (.iconst 2, 1) := by decide +kernel
theorem dX8_goes_70 : decode cX8_goes 70 = .ok (.bipush 20, 2) := by decide +kernel
theorem dX8_goes_72 : decode cX8_goes 72 = .ok (.invokevirtual 41, 3) := by decide +kernel
theorem dX8_goes_75 : decode cX8_goes 75 = .ok (.ixor, 1) := by decide +kernel
theorem dX8_goes_76 : decode cX8_goes 76 = .ok (.aload_n 0, 1) := by decide +kernel
theorem dX8_goes_77 : decode cX8_goes 77 = .ok (.iconst 2, 1) := by decide +kernel
theorem dX8_goes_78 : decode cX8_goes 78 = .ok (.bipush 21, 2) := by decide +kernel
theorem dX8_goes_80 : decode cX8_goes 80 = .ok (.invokevirtual 41, 3) := by decide +kernel
theorem dX8_goes_83 : decode cX8_goes 83 = .ok (.ixor, 1) := by decide +kernel
theorem dX8_goes_84 : decode cX8_goes 84 = .ok (.aload_n 0, 1) := by decide +kernel
theorem dX8_goes_85 : decode cX8_goes 85 = .ok (.iconst 2, 1) := by decide +kernel
theorem dX8_goes_86 : decode cX8_goes 86 = .ok (.bipush 22, 2) := by decide +kernel
theorem dX8_goes_88 : decode cX8_goes 88 = .ok (.invokevirtual 41, 3) := by decide +kernel
theorem dX8_goes_91 : decode cX8_goes 91 = .ok (.ixor, 1) := by decide +kernel
theorem dX8_goes_92 : decode cX8_goes 92 = .ok (.istore_n 2, 1) := by decide +kernel
theorem dX8_goes_93 : decode cX8_goes 93 = .ok (.aload_n 0, 1) := by decide +kernel
theorem dX8_goes_94 : decode cX8_goes 94 = .ok (.iload_n 1, 1) := by decide +kernel
theorem dX8_goes_95 : decode cX8_goes 95 = .ok (.iload_n 2, 1) := by decide +kernel
theorem dX8_goes_96 : decode cX8_goes 96 = .ok (.invokevirtual 49, 3) := by decide +kernel
theorem dX8_goes_99 : decode cX8_goes 99 = .ok (.return_, 1) := by decide +kernel
theorem dX8_feed_0 : decode cX8_feed 0 = .ok (.iconst 0, 1) := by decide +kernel
theorem dX8_feed_1 : decode cX8_feed 1 = .ok (.istore_n 2, 1) := by decide +kernel
theorem dX8_feed_2 : decode cX8_feed 2 = .ok (.iload_n 2, 1) := by decide +kernel
theorem dX8_feed_3 : decode cX8_feed 3 = .ok (.iconst 3, 1) := by decide +kernel
theorem dX8_feed_4 : decode cX8_feed 4 = .ok (.if_icmp .ge 28, 3) := by decide +kernel
theorem dX8_feed_7 : decode cX8_feed 7 = .ok (.aload_n 0, 1) := by decide +kernel
theorem dX8_feed_8 : decode cX8_feed 8 = .ok (.iload_n 2, 1) := by decide +kernel
theorem dX8_feed_9 : decode cX8_feed 9 = .ok (.invokevirtual 62, 3) := by decide +kernel
theorem dX8_feed_12 : decode cX8_feed 12 = .ok (.aload_n 0, 1) := by decide +kernel
theorem dX8_feed_13 : decode cX8_feed 13 = .ok (.iload_n 2, 1) := by decide +kernel
theorem dX8_feed_14 : decode cX8_feed 14 = .ok (.iconst 0, 1) := by decide +kernel
theorem dX8_feed_15 : decode cX8_feed 15 = .ok (.aload_n 0, 1) := by decide +kernel
theorem dX8_feed_16 : decode cX8_feed 16 = .ok (.iload_n 2, 1) := by decide +kernel
theorem dX8_feed_17 : decode cX8_feed 17 = .ok (.iconst 0, 1) := by decide +kernel
theorem dX8_feed_18 : decode cX8_feed 18 = .ok (.invokevirtual 41, 3) := by decide +kernel
theorem dX8_feed_21 : decode cX8_feed 21 = .ok (.iload_n 1, 1) := by decide +kernel
theorem dX8_feed_22 : decode cX8_feed 22 = .ok (.ixor, 1) := by decide +kernel
theorem dX8_feed_23 : decode cX8_feed 23 = .ok (.invokevirtual 37, 3) := by decide +kernel
theorem dX8_feed_26 : decode cX8_feed 26 = .ok (.iinc 2 1, 3) := by decide +kernel
theorem dX8_feed_29 : decode cX8_feed 29 = .ok (.goto (-27), 3) := by decide +kernel
theorem dX8_feed_32 : decode cX8_feed 32 = .ok (.return_, 1) := by decide +kernel
theorem dX8_stepStops_0 : decode cX8_stepStops 0 = .ok (.aload_n 0, 1) := by decide +kernel
theorem dX8_stepStops_1 : decode cX8_stepStops 1 = .ok (.iconst 0, 1) := by decide +kernel
theorem dX8_stepStops_2 : decode cX8_stepStops 2 = .ok (.bipush 8, 2) := by decide +kernel
theorem dX8_stepStops_4 : decode cX8_stepStops 4 = .ok (.invokevirtual 41, 3) := by decide +kernel
theorem dX8_stepStops_7 : decode cX8_stepStops 7 = .ok (.istore_n 1, 1) := by decide +kernel
theorem dX8_stepStops_8 : decode cX8_stepStops 8 = .ok (.aload_n 0, 1) := by decide +kernel
theorem dX8_stepStops_9 : decode cX8_stepStops 9 = .ok (.iconst 1, 1) := by decide +kernel
theorem dX8_stepStops_10 : decode cX8_stepStops 10 = .ok (.bipush 10, 2) := by decide +kernel
theorem dX8_stepStops_12 : decode cX8_stepStops 12 = .ok (.invokevirtual 41, 3) := by decide +kernel
theorem dX8_stepStops_15 : decode cX8_stepStops 15 = .ok (.istore_n 2, 1) := by decide +kernel
theorem dX8_stepStops_16 : decode cX8_stepStops 16 = .ok (.aload_n 0, 1) := by decide +kernel
theorem dX8_stepStops_17 : decode cX8_stepStops 17 = .ok (.iconst 2, 1) := by decide +kernel
theorem dX8_stepStops_18 : decode cX8_stepStops 18 = .ok (.bipush 10, 2) := by decide +kernel
theorem dX8_stepStops_20 : decode cX8_stepStops 20 = .ok (.invokevirtual 41, 3) := by decide +kernel
theorem dX8_stepStops_23 : decode cX8_stepStops 23 = .ok (.istore_n 3, 1) := by decide +kernel
theorem dX8_stepStops_24 : decode cX8_stepStops 24 = .ok (.iload_n 1, 1) := by decide +kernel
theorem dX8_stepStops_25 : decode cX8_stepStops 25 = .ok (.iload_n 2, 1) := by decide +kernel
theorem dX8_stepStops_26 : decode cX8_stepStops 26 = .ok (.iadd, 1) := by decide +kernel
theorem dX8_stepStops_27 : decode cX8_stepStops 27 = .ok (.iload_n 3, 1) := by decide +kernel
theorem dX8_stepStops_28 : decode cX8_stepStops 28 = .ok (.iadd, 1) := by decide +kernel
theorem dX8_stepStops_29 : decode cX8_stepStops 29 = .ok (.iconst 1, 1) := by decide +kernel
theorem dX8_stepStops_30 : decode cX8_stepStops 30 = .ok (.if_icmp .le 7, 3) := by decide +kernel
theorem dX8_stepStops_33 : decode cX8_stepStops 33 = .ok (.iconst 1, 1) := by decide +kernel
theorem dX8_stepStops_34 : decode cX8_stepStops 34 = .ok (.goto 4, 3) := by decide +kernel
theorem dX8_stepStops_37 : decode cX8_stepStops 37 = .ok (.iconst 0, 1) := by decide +kernel
theorem dX8_stepStops_38 : decode cX8_stepStops 38 = .ok (.istore 4, 2) := by decide +kernel
theorem dX8_stepStops_40 : decode cX8_stepStops 40 = .ok (.iload_n 1, 1) := by decide +kernel
theorem dX8_stepStops_41 : decode cX8_stepStops 41 = .ok (.iload 4, 2) := by decide +kernel
theorem dX8_stepStops_43 : decode cX8_stepStops 43 = .ok (.if_icmp .ne 8, 3) := by decide +kernel
theorem dX8_stepStops_46 : decode cX8_stepStops 46 = .ok (.aload_n 0, 1) := by decide +kernel
theorem dX8_stepStops_47 : decode cX8_stepStops 47 = .ok (.iconst 0, 1) := by decide +kernel
theorem dX8_stepStops_48 : decode cX8_stepStops 48 = .ok (.invokevirtual 62, 3) := by decide +kernel
theorem dX8_stepStops_51 : decode cX8_stepStops 51 = .ok (.iload_n 2, 1) := by decide +kernel
theorem dX8_stepStops_52 : decode cX8_stepStops 52 = .ok (.iload 4, 2) := by decide +kernel
theorem dX8_stepStops_54 : decode cX8_stepStops 54 = .ok (.if_icmp .ne 8, 3) := by decide +kernel
theorem dX8_stepStops_57 : decode cX8_stepStops 57 = .ok (.aload_n 0, 1) := by decide +kernel
theorem dX8_stepStops_58 : decode cX8_stepStops 58 = .ok (.iconst 1, 1) := by decide +kernel
theorem dX8_stepStops_59 : decode cX8_stepStops 59 = .ok (.invokevirtual 62, 3) := by decide +kernel
theorem dX8_stepStops_62 : decode cX8_stepStops 62 = .ok (.iload_n 3, 1) := by decide +kernel
theorem dX8_stepStops_63 : decode cX8_stepStops 63 = .ok (.iload 4, 2) := by decide +kernel
theorem dX8_stepStops_65 : decode cX8_stepStops 65 = .ok (.if_icmp .ne 8, 3) := by decide +kernel
theorem dX8_stepStops_68 : decode cX8_stepStops 68 = .ok (.aload_n 0, 1) := by decide +kernel
theorem dX8_stepStops_69 : decode cX8_stepStops 69 = .ok (.iconst 2, 1) := by decide +kernel
theorem dX8_stepStops_70 : decode cX8_stepStops 70 = .ok (.invokevirtual 62, 3) := by decide +kernel
theorem dX8_stepStops_73 : decode cX8_stepStops 73 = .ok (.aload_n 0, 1) := by decide +kernel
theorem dX8_stepStops_74 : decode cX8_stepStops 74 = .ok (.iconst 0, 1) := by decide +kernel
theorem dX8_stepStops_75 : decode cX8_stepStops 75 = .ok (.bipush 18, 2) := by decide +kernel
theorem dX8_stepStops_77 : decode cX8_stepStops 77 = .ok (.invokevirtual 41, 3) := by decide +kernel
theorem dX8_stepStops_80 : decode cX8_stepStops 80 = .ok (.aload_n 0, 1) := by decide +kernel
theorem dX8_stepStops_81 : decode cX8_stepStops 81 = .ok (.iconst 1, 1) := by decide +kernel
theorem dX8_stepStops_82 : decode cX8_stepStops 82 = .ok (.bipush 21, 2) := by decide +kernel
theorem dX8_stepStops_84 : decode cX8_stepStops 84 = .ok (.invokevirtual 41, 3) := by decide +kernel
theorem dX8_stepStops_87 : decode cX8_stepStops 87 = .ok (.ixor, 1) := by decide +kernel
theorem dX8_stepStops_88 : decode cX8_stepStops 88 = .ok (.aload_n 0, 1) := by decide +kernel
theorem dX8_stepStops_89 : decode cX8_stepStops 89 = .ok (.iconst 2, 1) := by decide +kernel
theorem dX8_stepStops_90 : decode cX8_stepStops 90 = .ok (.bipush 22, 2) := by decide +kernel
theorem dX8_stepStops_92 : decode cX8_stepStops 92 = .ok (.invokevirtual 41, 3) := by decide +kernel
theorem dX8_stepStops_95 : decode cX8_stepStops 95 = .ok (.ixor, 1) := by decide +kernel
theorem dX8_stepStops_96 : decode cX8_stepStops 96 = .ok (.ireturn, 1) := by decide +kernel
theorem dX8_exchange_0 : decode cX8_exchange 0 = .ok (.aload_n 0, 1) := by decide +kernel
theorem dX8_exchange_1 : decode cX8_exchange 1 = .ok (.getfield 26, 3) := by decide +kernel
theorem dX8_exchange_4 : decode cX8_exchange 4 = .ok (.iload_n 1, 1) := by decide +kernel
theorem dX8_exchange_5 : decode cX8_exchange 5 = .ok (.iaload, 1) := by decide +kernel
theorem dX8_exchange_6 : decode cX8_exchange 6 = .ok (.istore_n 3, 1) := by decide +kernel
theorem dX8_exchange_7 : decode cX8_exchange 7 = .ok (.aload_n 0, 1) := by decide +kernel
theorem dX8_exchange_8 : decode cX8_exchange 8 = .ok (.getfield 26, 3) := by decide +kernel
theorem dX8_exchange_11 : decode cX8_exchange 11 = .ok (.iload_n 1, 1) := by decide +kernel
theorem dX8_exchange_12 : decode cX8_exchange 12 = .ok (.aload_n 0, 1) := by decide +kernel
theorem dX8_exchange_13 : decode cX8_exchange 13 = .ok (.getfield 26, 3) := by decide +kernel
theorem dX8_exchange_16 : decode cX8_exchange 16 = .ok (.iload_n 2, 1) := by decide +kernel
theorem dX8_exchange_17 : decode cX8_exchange 17 = .ok (.iaload, 1) := by decide +kernel
theorem dX8_exchange_18 : decode cX8_exchange 18 = .ok (.iastore, 1) := by decide +kernel
theorem dX8_exchange_19 : decode cX8_exchange 19 = .ok (.aload_n 0, 1) := by decide +kernel
theorem dX8_exchange_20 : decode cX8_exchange 20 = .ok (.getfield 26, 3) := by decide +kernel
theorem dX8_exchange_23 : decode cX8_exchange 23 = .ok (.iload_n 2, 1) := by decide +kernel
theorem dX8_exchange_24 : decode cX8_exchange 24 = .ok (.iload_n 3, 1) := by decide +kernel
theorem dX8_exchange_25 : decode cX8_exchange 25 = .ok (.iastore, 1) := by decide +kernel
theorem dX8_exchange_26 : decode cX8_exchange 26 = .ok (.return_, 1) := by decide +kernel
theorem dX8_stepByte_0 : decode cX8_stepByte 0 = .ok (.aload_n 0, 1) := by decide +kernel
theorem dX8_stepByte_1 : decode cX8_stepByte 1 = .ok (.aload_n 0, 1) := by decide +kernel
theorem dX8_stepByte_2 : decode cX8_stepByte 2 = .ok (.getfield 66, 3) := by decide +kernel
theorem dX8_stepByte_5 : decode cX8_stepByte 5 = .ok (.iconst 1, 1) := by decide +kernel
theorem dX8_stepByte_6 : decode cX8_stepByte 6 = .ok (.iadd, 1) := by decide +kernel
theorem dX8_stepByte_7 : decode cX8_stepByte 7 = .ok (.sipush 255, 3) := by decide +kernel
theorem dX8_stepByte_10 : decode cX8_stepByte 10 = .ok (.iand, 1) := by decide +kernel
theorem dX8_stepByte_11 : decode cX8_stepByte 11 = .ok (.putfield 66, 3) := by decide +kernel
theorem dX8_stepByte_14 : decode cX8_stepByte 14 = .ok (.aload_n 0, 1) := by decide +kernel
theorem dX8_stepByte_15 : decode cX8_stepByte 15 = .ok (.aload_n 0, 1) := by decide +kernel
theorem dX8_stepByte_16 : decode cX8_stepByte 16 = .ok (.getfield 69, 3) := by decide +kernel
theorem dX8_stepByte_19 : decode cX8_stepByte 19 = .ok (.aload_n 0, 1) := by decide +kernel
theorem dX8_stepByte_20 : decode cX8_stepByte 20 = .ok (.getfield 26, 3) := by decide +kernel
theorem dX8_stepByte_23 : decode cX8_stepByte 23 = .ok (.aload_n 0, 1) := by decide +kernel
theorem dX8_stepByte_24 : decode cX8_stepByte 24 = .ok (.getfield 66, 3) := by decide +kernel
theorem dX8_stepByte_27 : decode cX8_stepByte 27 = .ok (.iaload, 1) := by decide +kernel
theorem dX8_stepByte_28 : decode cX8_stepByte 28 = .ok (.iadd, 1) := by decide +kernel
theorem dX8_stepByte_29 : decode cX8_stepByte 29 = .ok (.sipush 255, 3) := by decide +kernel
theorem dX8_stepByte_32 : decode cX8_stepByte 32 = .ok (.iand, 1) := by decide +kernel
theorem dX8_stepByte_33 : decode cX8_stepByte 33 = .ok (.putfield 69, 3) := by decide +kernel
theorem dX8_stepByte_36 : decode cX8_stepByte 36 = .ok (.aload_n 0, 1) := by decide +kernel
theorem dX8_stepByte_37 : decode cX8_stepByte 37 = .ok (.aload_n 0, 1) := by decide +kernel
theorem dX8_stepByte_38 : decode cX8_stepByte 38 = .ok (.getfield 66, 3) := by decide +kernel
theorem dX8_stepByte_41 : decode cX8_stepByte 41 = .ok (.aload_n 0, 1) := by decide +kernel
theorem dX8_stepByte_42 : decode cX8_stepByte 42 = .ok (.getfield 69, 3) := by decide +kernel
theorem dX8_stepByte_45 : decode cX8_stepByte 45 = .ok (.invokevirtual 72, 3) := by decide +kernel
theorem dX8_stepByte_48 : decode cX8_stepByte 48 = .ok (.aload_n 0, 1) := by decide +kernel
theorem dX8_stepByte_49 : decode cX8_stepByte 49 = .ok (.getfield 26, 3) := by decide +kernel
theorem dX8_stepByte_52 : decode cX8_stepByte 52 = .ok (.aload_n 0, 1) := by decide +kernel
theorem dX8_stepByte_53 : decode cX8_stepByte 53 = .ok (.getfield 26, 3) := by decide +kernel
theorem dX8_stepByte_56 : decode cX8_stepByte 56 = .ok (.aload_n 0, 1) := by decide +kernel
theorem dX8_stepByte_57 : decode cX8_stepByte 57 = .ok (.getfield 66, 3) := by decide +kernel
theorem dX8_stepByte_60 : decode cX8_stepByte 60 = .ok (.iaload, 1) := by decide +kernel
theorem dX8_stepByte_61 : decode cX8_stepByte 61 = .ok (.aload_n 0, 1) := by decide +kernel
theorem dX8_stepByte_62 : decode cX8_stepByte 62 = .ok (.getfield 26, 3) := by decide +kernel
theorem dX8_stepByte_65 : decode cX8_stepByte 65 = .ok (.aload_n 0, 1) := by decide +kernel
theorem dX8_stepByte_66 : decode cX8_stepByte 66 = .ok (.getfield 69, 3) := by decide +kernel
theorem dX8_stepByte_69 : decode cX8_stepByte 69 = .ok (.iaload, 1) := by decide +kernel
theorem dX8_stepByte_70 : decode cX8_stepByte 70 = .ok (.iadd, 1) := by decide +kernel
theorem dX8_stepByte_71 : decode cX8_stepByte 71 = .ok (.sipush 255, 3) := by decide +kernel
theorem dX8_stepByte_74 : decode cX8_stepByte 74 = .ok (.iand, 1) := by decide +kernel
theorem dX8_stepByte_75 : decode cX8_stepByte 75 = .ok (.iaload, 1) := by decide +kernel
theorem dX8_stepByte_76 : decode cX8_stepByte 76 = .ok (.ireturn, 1) := by decide +kernel
theorem dX8_fits_0 : decode cX8_fits 0 = .ok (.iload_n 1, 1) := by decide +kernel
theorem dX8_fits_1 : decode cX8_fits 1 = .ok (.ifCond .ne 29, 3) := by decide +kernel
theorem dX8_fits_4 : decode cX8_fits 4 = .ok (.aload_n 0, 1) := by decide +kernel
theorem dX8_fits_5 : decode cX8_fits 5 = .ok (.getfield 29, 3) := by decide +kernel
theorem dX8_fits_8 : decode cX8_fits 8 = .ok (.bipush 10, 2) := by decide +kernel
theorem dX8_fits_10 : decode cX8_fits 10 = .ok (.if_icmp .ne 16, 3) := by decide +kernel
theorem dX8_fits_13 : decode cX8_fits 13 = .ok (.aload_n 0, 1) := by decide +kernel
theorem dX8_fits_14 : decode cX8_fits 14 = .ok (.getfield 34, 3) := by decide +kernel
theorem dX8_fits_17 : decode cX8_fits 17 = .ok (.bipush 10, 2) := by decide +kernel
theorem dX8_fits_19 : decode cX8_fits 19 = .ok (.if_icmp .ne 7, 3) := by decide +kernel
theorem dX8_fits_22 : decode cX8_fits 22 = .ok (.iconst 1, 1) := by decide +kernel
theorem dX8_fits_23 : decode cX8_fits 23 = .ok (.goto 93, 3) := by decide +kernel
theorem dX8_fits_26 : decode cX8_fits 26 = .ok (.iconst 0, 1) := by decide +kernel
theorem dX8_fits_27 : decode cX8_fits 27 = .ok (.goto 89, 3) := by decide +kernel
theorem dX8_fits_30 : decode cX8_fits 30 = .ok (.iload_n 1, 1) := by decide +kernel
theorem dX8_fits_31 : decode cX8_fits 31 = .ok (.iconst 1, 1) := by decide +kernel
theorem dX8_fits_32 : decode cX8_fits 32 = .ok (.if_icmp .ne 29, 3) := by decide +kernel
theorem dX8_fits_35 : decode cX8_fits 35 = .ok (.aload_n 0, 1) := by decide +kernel
theorem dX8_fits_36 : decode cX8_fits 36 = .ok (.getfield 29, 3) := by decide +kernel
theorem dX8_fits_39 : decode cX8_fits 39 = .ok (.bipush 16, 2) := by decide +kernel
theorem dX8_fits_41 : decode cX8_fits 41 = .ok (.if_icmp .ne 16, 3) := by decide +kernel
theorem dX8_fits_44 : decode cX8_fits 44 = .ok (.aload_n 0, 1) := by decide +kernel
theorem dX8_fits_45 : decode cX8_fits 45 = .ok (.getfield 34, 3) := by decide +kernel
theorem dX8_fits_48 : decode cX8_fits 48 = .ok (.bipush 12, 2) := by decide +kernel
theorem dX8_fits_50 : decode cX8_fits 50 = .ok (.if_icmp .ne 7, 3) := by decide +kernel
theorem dX8_fits_53 : decode cX8_fits 53 = .ok (.iconst 1, 1) := by decide +kernel
theorem dX8_fits_54 : decode cX8_fits 54 = .ok (.goto 62, 3) := by decide +kernel
theorem dX8_fits_57 : decode cX8_fits 57 = .ok (.iconst 0, 1) := by decide +kernel
theorem dX8_fits_58 : decode cX8_fits 58 = .ok (.goto 58, 3) := by decide +kernel
theorem dX8_fits_61 : decode cX8_fits 61 = .ok (.iload_n 1, 1) := by decide +kernel
theorem dX8_fits_62 : decode cX8_fits 62 = .ok (.iconst 2, 1) := by decide +kernel
theorem dX8_fits_63 : decode cX8_fits 63 = .ok (.if_icmp .ne 28, 3) := by decide +kernel
theorem dX8_fits_66 : decode cX8_fits 66 = .ok (.aload_n 0, 1) := by decide +kernel
theorem dX8_fits_67 : decode cX8_fits 67 = .ok (.getfield 29, 3) := by decide +kernel
theorem dX8_fits_70 : decode cX8_fits 70 = .ok (.bipush 8, 2) := by decide +kernel
theorem dX8_fits_72 : decode cX8_fits 72 = .ok (.if_icmp .ne 15, 3) := by decide +kernel
theorem dX8_fits_75 : decode cX8_fits 75 = .ok (.aload_n 0, 1) := by decide +kernel
theorem dX8_fits_76 : decode cX8_fits 76 = .ok (.getfield 34, 3) := by decide +kernel
theorem dX8_fits_79 : decode cX8_fits 79 = .ok (.iconst 3, 1) := by decide +kernel
theorem dX8_fits_80 : decode cX8_fits 80 = .ok (.if_icmp .ne 7, 3) := by decide +kernel
theorem dX8_fits_83 : decode cX8_fits 83 = .ok (.iconst 1, 1) := by decide +kernel
theorem dX8_fits_84 : decode cX8_fits 84 = .ok (.goto 32, 3) := by decide +kernel
theorem dX8_fits_87 : decode cX8_fits 87 = .ok (.iconst 0, 1) := by decide +kernel
theorem dX8_fits_88 : decode cX8_fits 88 = .ok (.goto 28, 3) := by decide +kernel
theorem dX8_fits_91 : decode cX8_fits 91 = .ok (.iload_n 1, 1) := by decide +kernel
theorem dX8_fits_92 : decode cX8_fits 92 = .ok (.iconst 3, 1) := by decide +kernel
theorem dX8_fits_93 : decode cX8_fits 93 = .ok (.if_icmp .ne 22, 3) := by decide +kernel
theorem dX8_fits_96 : decode cX8_fits 96 = .ok (.aload_n 0, 1) := by decide +kernel
theorem dX8_fits_97 : decode cX8_fits 97 = .ok (.getfield 29, 3) := by decide +kernel
theorem dX8_fits_100 : decode cX8_fits 100 = .ok (.iconst 5, 1) := by decide +kernel
theorem dX8_fits_101 : decode cX8_fits 101 = .ok (.if_icmp .lt 14, 3) := by decide +kernel
theorem dX8_fits_104 : decode cX8_fits 104 = .ok (.aload_n 0, 1) := by decide +kernel
theorem dX8_fits_105 : decode cX8_fits 105 = .ok (.getfield 34, 3) := by decide +kernel
theorem dX8_fits_108 : decode cX8_fits 108 = .ok (.ifCond .ne 7, 3) := by decide +kernel
theorem dX8_fits_111 : decode cX8_fits 111 = .ok (.iconst 1, 1) := by decide +kernel
theorem dX8_fits_112 : decode cX8_fits 112 = .ok (.goto 4, 3) := by decide +kernel
theorem dX8_fits_115 : decode cX8_fits 115 = .ok (.iconst 0, 1) := by decide +kernel
theorem dX8_fits_116 : decode cX8_fits 116 = .ok (.ireturn, 1) := by decide +kernel
theorem dX8_begin_0 : decode cX8_begin 0 = .ok (.aload_n 0, 1) := by decide +kernel
theorem dX8_begin_1 : decode cX8_begin 1 = .ok (.iload_n 1, 1) := by decide +kernel
theorem dX8_begin_2 : decode cX8_begin 2 = .ok (.invokevirtual 75, 3) := by decide +kernel
theorem dX8_begin_5 : decode cX8_begin 5 = .ok (.ifCond .ne 5, 3) := by decide +kernel
theorem dX8_begin_8 : decode cX8_begin 8 = .ok (.iconst 0, 1) := by decide +kernel
theorem dX8_begin_9 : decode cX8_begin 9 = .ok (.ireturn, 1) := by decide +kernel
theorem dX8_begin_10 : decode cX8_begin 10 = .ok (.aload_n 0, 1) := by decide +kernel
theorem dX8_begin_11 : decode cX8_begin 11 = .ok (.iload_n 1, 1) := by decide +kernel
theorem dX8_begin_12 : decode cX8_begin 12 = .ok (.putfield 16, 3) := by decide +kernel
theorem dX8_begin_15 : decode cX8_begin 15 = .ok (.aload_n 0, 1) := by decide +kernel
theorem dX8_begin_16 : decode cX8_begin 16 = .ok (.iconst 0, 1) := by decide +kernel
theorem dX8_begin_17 : decode cX8_begin 17 = .ok (.putfield 79, 3) := by decide +kernel
theorem dX8_begin_20 : decode cX8_begin 20 = .ok (.aload_n 0, 1) := by decide +kernel
theorem dX8_begin_21 : decode cX8_begin 21 = .ok (.invokevirtual 82, 3) := by decide +kernel
theorem dX8_begin_24 : decode cX8_begin 24 = .ok (.iload_n 1, 1) := by decide +kernel
theorem dX8_begin_25 : decode cX8_begin 25 = .ok (.ifCond .ne 10, 3) := by decide +kernel
theorem dX8_begin_28 : decode cX8_begin 28 = .ok (.aload_n 0, 1) := by decide +kernel
theorem dX8_begin_29 : decode cX8_begin 29 = .ok (.invokevirtual 85, 3) := by decide +kernel
theorem dX8_begin_32 : decode cX8_begin 32 = .ok (.goto 31, 3) := by decide +kernel
theorem dX8_begin_35 : decode cX8_begin 35 = .ok (.iload_n 1, 1) := by decide +kernel
theorem dX8_begin_36 : decode cX8_begin 36 = .ok (.iconst 1, 1) := by decide +kernel
theorem dX8_begin_37 : decode cX8_begin 37 = .ok (.if_icmp .ne 10, 3) := by decide +kernel
theorem dX8_begin_40 : decode cX8_begin 40 = .ok (.aload_n 0, 1) := by decide +kernel
theorem dX8_begin_41 : decode cX8_begin 41 = .ok (.invokevirtual 88, 3) := by decide +kernel
theorem dX8_begin_44 : decode cX8_begin 44 = .ok (.goto 19, 3) := by decide +kernel
theorem dX8_begin_47 : decode cX8_begin 47 = .ok (.iload_n 1, 1) := by decide +kernel
theorem dX8_begin_48 : decode cX8_begin 48 = .ok (.iconst 2, 1) := by decide +kernel
theorem dX8_begin_49 : decode cX8_begin 49 = .ok (.if_icmp .ne 10, 3) := by decide +kernel
theorem dX8_begin_52 : decode cX8_begin 52 = .ok (.aload_n 0, 1) := by decide +kernel
theorem dX8_begin_53 : decode cX8_begin 53 = .ok (.invokevirtual 91, 3) := by decide +kernel
theorem dX8_begin_56 : decode cX8_begin 56 = .ok (.goto 7, 3) := by decide +kernel
theorem dX8_begin_59 : decode cX8_begin 59 = .ok (.aload_n 0, 1) := by decide +kernel
theorem dX8_begin_60 : decode cX8_begin 60 = .ok (.invokevirtual 94, 3) := by decide +kernel
theorem dX8_begin_63 : decode cX8_begin 63 = .ok (.aload_n 0, 1) := by decide +kernel
theorem dX8_begin_64 : decode cX8_begin 64 = .ok (.iconst 0, 1) := by decide +kernel
theorem dX8_begin_65 : decode cX8_begin 65 = .ok (.putfield 29, 3) := by decide +kernel
theorem dX8_begin_68 : decode cX8_begin 68 = .ok (.aload_n 0, 1) := by decide +kernel
theorem dX8_begin_69 : decode cX8_begin 69 = .ok (.iconst 0, 1) := by decide +kernel
theorem dX8_begin_70 : decode cX8_begin 70 = .ok (.putfield 34, 3) := by decide +kernel
theorem dX8_begin_73 : decode cX8_begin 73 = .ok (.iconst 1, 1) := by decide +kernel
theorem dX8_begin_74 : decode cX8_begin 74 = .ok (.ireturn, 1) := by decide +kernel
theorem dX8_beginRings_0 : decode cX8_beginRings 0 = .ok (.iconst 0, 1) := by decide +kernel
theorem dX8_beginRings_1 : decode cX8_beginRings 1 = .ok (.istore_n 1, 1) := by decide +kernel
theorem dX8_beginRings_2 : decode cX8_beginRings 2 = .ok (.iload_n 1, 1) := by decide +kernel
theorem dX8_beginRings_3 : decode cX8_beginRings 3 = .ok (.bipush 80, 2) := by decide +kernel
theorem dX8_beginRings_5 : decode cX8_beginRings 5 = .ok (.if_icmp .ge 31, 3) := by decide +kernel
theorem dX8_beginRings_8 : decode cX8_beginRings 8 = .ok (.aload_n 0, 1) := by decide +kernel
theorem dX8_beginRings_9 : decode cX8_beginRings 9 = .ok (.iconst 0, 1) := by decide +kernel
theorem dX8_beginRings_10 : decode cX8_beginRings 10 = .ok (.iload_n 1, 1) := by decide +kernel
theorem dX8_beginRings_11 : decode cX8_beginRings 11 = .ok (.aload_n 0, 1) := by decide +kernel
theorem dX8_beginRings_12 : decode cX8_beginRings 12 = .ok (.iload_n 1, 1) := by decide +kernel
theorem dX8_beginRings_13 : decode cX8_beginRings 13 = .ok (.invokevirtual 97, 3) := by decide +kernel
theorem dX8_beginRings_16 : decode cX8_beginRings 16 = .ok (.invokevirtual 37, 3) := by decide +kernel
theorem dX8_beginRings_19 : decode cX8_beginRings 19 = .ok (.aload_n 0, 1) := by decide +kernel
theorem dX8_beginRings_20 : decode cX8_beginRings 20 = .ok (.iconst 1, 1) := by decide +kernel
theorem dX8_beginRings_21 : decode cX8_beginRings 21 = .ok (.iload_n 1, 1) := by decide +kernel
theorem dX8_beginRings_22 : decode cX8_beginRings 22 = .ok (.aload_n 0, 1) := by decide +kernel
theorem dX8_beginRings_23 : decode cX8_beginRings 23 = .ok (.iload_n 1, 1) := by decide +kernel
theorem dX8_beginRings_24 : decode cX8_beginRings 24 = .ok (.invokevirtual 100, 3) := by decide +kernel
theorem dX8_beginRings_27 : decode cX8_beginRings 27 = .ok (.invokevirtual 37, 3) := by decide +kernel
theorem dX8_beginRings_30 : decode cX8_beginRings 30 = .ok (.iinc 1 1, 3) := by decide +kernel
theorem dX8_beginRings_33 : decode cX8_beginRings 33 = .ok (.goto (-31), 3) := by decide +kernel
theorem dX8_beginRings_36 : decode cX8_beginRings 36 = .ok (.bipush 108, 2) := by decide +kernel
theorem dX8_beginRings_38 : decode cX8_beginRings 38 = .ok (.istore_n 1, 1) := by decide +kernel
theorem dX8_beginRings_39 : decode cX8_beginRings 39 = .ok (.iload_n 1, 1) := by decide +kernel
theorem dX8_beginRings_40 : decode cX8_beginRings 40 = .ok (.bipush 111, 2) := by decide +kernel
theorem dX8_beginRings_42 : decode cX8_beginRings 42 = .ok (.if_icmp .ge 16, 3) := by decide +kernel
theorem dX8_beginRings_45 : decode cX8_beginRings 45 = .ok (.aload_n 0, 1) := by decide +kernel
theorem dX8_beginRings_46 : decode cX8_beginRings 46 = .ok (.iconst 2, 1) := by decide +kernel
theorem dX8_beginRings_47 : decode cX8_beginRings 47 = .ok (.iload_n 1, 1) := by decide +kernel
theorem dX8_beginRings_48 : decode cX8_beginRings 48 = .ok (.iconst 1, 1) := by decide +kernel
theorem dX8_beginRings_49 : decode cX8_beginRings 49 = .ok (.invokevirtual 37, 3) := by decide +kernel
theorem dX8_beginRings_52 : decode cX8_beginRings 52 = .ok (.iinc 1 1, 3) := by decide +kernel
theorem dX8_beginRings_55 : decode cX8_beginRings 55 = .ok (.goto (-16), 3) := by decide +kernel
theorem dX8_beginRings_58 : decode cX8_beginRings 58 = .ok (.iconst 0, 1) := by decide +kernel
theorem dX8_beginRings_59 : decode cX8_beginRings 59 = .ok (.istore_n 1, 1) := by decide +kernel
theorem dX8_beginRings_60 : decode cX8_beginRings 60 = .ok (.iload_n 1, 1) := by decide +kernel
theorem dX8_beginRings_61 : decode cX8_beginRings 61 = .ok (.sipush 1152, 3) := by decide +kernel
theorem dX8_beginRings_64 : decode cX8_beginRings 64 = .ok (.if_icmp .ge 14, 3) := by decide +kernel
theorem dX8_beginRings_67 : decode cX8_beginRings 67 = .ok (.aload_n 0, 1) := by decide +kernel
theorem dX8_beginRings_68 : decode cX8_beginRings 68 = .ok (.invokevirtual 103, 3) := by decide +kernel
theorem dX8_beginRings_71 : decode cX8_beginRings 71 = .ok (.pop, 1) := by decide +kernel
theorem dX8_beginRings_72 : decode cX8_beginRings 72 = .ok (.iinc 1 1, 3) := by decide +kernel
theorem dX8_beginRings_75 : decode cX8_beginRings 75 = .ok (.goto (-15), 3) := by decide +kernel
theorem dX8_beginRings_78 : decode cX8_beginRings 78 = .ok (.return_, 1) := by decide +kernel
theorem dX8_beginTwo_0 : decode cX8_beginTwo 0 = .ok (.iconst 0, 1) := by decide +kernel
theorem dX8_beginTwo_1 : decode cX8_beginTwo 1 = .ok (.istore_n 1, 1) := by decide +kernel
theorem dX8_beginTwo_2 : decode cX8_beginTwo 2 = .ok (.iload_n 1, 1) := by decide +kernel
theorem dX8_beginTwo_3 : decode cX8_beginTwo 3 = .ok (.sipush 128, 3) := by decide +kernel
theorem dX8_beginTwo_6 : decode cX8_beginTwo 6 = .ok (.if_icmp .ge 51, 3) := by decide +kernel
theorem dX8_beginTwo_9 : decode cX8_beginTwo 9 = .ok (.aload_n 0, 1) := by decide +kernel
theorem dX8_beginTwo_10 : decode cX8_beginTwo 10 = .ok (.iconst 0, 1) := by decide +kernel
theorem dX8_beginTwo_11 : decode cX8_beginTwo 11 = .ok (.iload_n 1, 1) := by decide +kernel
theorem dX8_beginTwo_12 : decode cX8_beginTwo 12 = .ok (.aload_n 0, 1) := by decide +kernel
theorem dX8_beginTwo_13 : decode cX8_beginTwo 13 = .ok (.iload_n 1, 1) := by decide +kernel
theorem dX8_beginTwo_14 : decode cX8_beginTwo 14 = .ok (.invokevirtual 97, 3) := by decide +kernel
theorem dX8_beginTwo_17 : decode cX8_beginTwo 17 = .ok (.invokevirtual 37, 3) := by decide +kernel
theorem dX8_beginTwo_20 : decode cX8_beginTwo 20 = .ok (.aload_n 0, 1) := by decide +kernel
theorem dX8_beginTwo_21 : decode cX8_beginTwo 21 = .ok (.iconst 1, 1) := by decide +kernel
theorem dX8_beginTwo_22 : decode cX8_beginTwo 22 = .ok (.iload_n 1, 1) := by decide +kernel
theorem dX8_beginTwo_23 : decode cX8_beginTwo 23 = .ok (.iload_n 1, 1) := by decide +kernel
theorem dX8_beginTwo_24 : decode cX8_beginTwo 24 = .ok (.bipush 96, 2) := by decide +kernel
theorem dX8_beginTwo_26 : decode cX8_beginTwo 26 = .ok (.if_icmp .ge 11, 3) := by decide +kernel
theorem dX8_beginTwo_29 : decode cX8_beginTwo 29 = .ok (.aload_n 0, 1) := by decide +kernel
theorem dX8_beginTwo_30 : decode cX8_beginTwo 30 = .ok (.iload_n 1, 1) := by decide +kernel
theorem dX8_beginTwo_31 : decode cX8_beginTwo 31 = .ok (.invokevirtual 100, 3) := by decide +kernel
theorem dX8_beginTwo_34 : decode cX8_beginTwo 34 = .ok (.goto 14, 3) := by decide +kernel
theorem dX8_beginTwo_37 : decode cX8_beginTwo 37 = .ok (.iload_n 1, 1) := by decide +kernel
theorem dX8_beginTwo_38 : decode cX8_beginTwo 38 = .ok (.bipush 127, 2) := by decide +kernel
theorem dX8_beginTwo_40 : decode cX8_beginTwo 40 = .ok (.if_icmp .ge 7, 3) := by decide +kernel
theorem dX8_beginTwo_43 : decode cX8_beginTwo 43 = .ok (.iconst 1, 1) := by decide +kernel
theorem dX8_beginTwo_44 : decode cX8_beginTwo 44 = .ok (.goto 4, 3) := by decide +kernel
theorem dX8_beginTwo_47 : decode cX8_beginTwo 47 = .ok (.iconst 0, 1) := by decide +kernel
theorem dX8_beginTwo_48 : decode cX8_beginTwo 48 = .ok (.invokevirtual 37, 3) := by decide +kernel
theorem dX8_beginTwo_51 : decode cX8_beginTwo 51 = .ok (.iinc 1 1, 3) := by decide +kernel
theorem dX8_beginTwo_54 : decode cX8_beginTwo 54 = .ok (.goto (-52), 3) := by decide +kernel
theorem dX8_beginTwo_57 : decode cX8_beginTwo 57 = .ok (.iconst 0, 1) := by decide +kernel
theorem dX8_beginTwo_58 : decode cX8_beginTwo 58 = .ok (.istore_n 1, 1) := by decide +kernel
theorem dX8_beginTwo_59 : decode cX8_beginTwo 59 = .ok (.iload_n 1, 1) := by decide +kernel
theorem dX8_beginTwo_60 : decode cX8_beginTwo 60 = .ok (.sipush 256, 3) := by decide +kernel
theorem dX8_beginTwo_63 : decode cX8_beginTwo 63 = .ok (.if_icmp .ge 15, 3) := by decide +kernel
theorem dX8_beginTwo_66 : decode cX8_beginTwo 66 = .ok (.aload_n 0, 1) := by decide +kernel
theorem dX8_beginTwo_67 : decode cX8_beginTwo 67 = .ok (.iconst 1, 1) := by decide +kernel
theorem dX8_beginTwo_68 : decode cX8_beginTwo 68 = .ok (.invokevirtual 107, 3) := by decide +kernel
theorem dX8_beginTwo_71 : decode cX8_beginTwo 71 = .ok (.pop, 1) := by decide +kernel
theorem dX8_beginTwo_72 : decode cX8_beginTwo 72 = .ok (.iinc 1 1, 3) := by decide +kernel
theorem dX8_beginTwo_75 : decode cX8_beginTwo 75 = .ok (.goto (-16), 3) := by decide +kernel
theorem dX8_beginTwo_78 : decode cX8_beginTwo 78 = .ok (.return_, 1) := by decide +kernel
theorem dX8_beginStops_0 : decode cX8_beginStops 0 = .ok (.iconst 0, 1) := by decide +kernel
theorem dX8_beginStops_1 : decode cX8_beginStops 1 = .ok (.istore_n 1, 1) := by decide +kernel
theorem dX8_beginStops_2 : decode cX8_beginStops 2 = .ok (.iload_n 1, 1) := by decide +kernel
theorem dX8_beginStops_3 : decode cX8_beginStops 3 = .ok (.bipush 64, 2) := by decide +kernel
theorem dX8_beginStops_5 : decode cX8_beginStops 5 = .ok (.if_icmp .ge 18, 3) := by decide +kernel
theorem dX8_beginStops_8 : decode cX8_beginStops 8 = .ok (.aload_n 0, 1) := by decide +kernel
theorem dX8_beginStops_9 : decode cX8_beginStops 9 = .ok (.aload_n 0, 1) := by decide +kernel
theorem dX8_beginStops_10 : decode cX8_beginStops 10 = .ok (.iload_n 1, 1) := by decide +kernel
theorem dX8_beginStops_11 : decode cX8_beginStops 11 = .ok (.invokevirtual 97, 3) := by decide +kernel
theorem dX8_beginStops_14 : decode cX8_beginStops 14 = .ok (.invokevirtual 111, 3) := by decide +kernel
theorem dX8_beginStops_17 : decode cX8_beginStops 17 = .ok (.iinc 1 1, 3) := by decide +kernel
theorem dX8_beginStops_20 : decode cX8_beginStops 20 = .ok (.goto (-18), 3) := by decide +kernel
theorem dX8_beginStops_23 : decode cX8_beginStops 23 = .ok (.iconst 2, 1) := by decide +kernel
theorem dX8_beginStops_24 : decode cX8_beginStops 24 = .ok (.istore_n 1, 1) := by decide +kernel
theorem dX8_beginStops_25 : decode cX8_beginStops 25 = .ok (.iload_n 1, 1) := by decide +kernel
theorem dX8_beginStops_26 : decode cX8_beginStops 26 = .ok (.bipush 24, 2) := by decide +kernel
theorem dX8_beginStops_28 : decode cX8_beginStops 28 = .ok (.if_icmp .ge 18, 3) := by decide +kernel
theorem dX8_beginStops_31 : decode cX8_beginStops 31 = .ok (.aload_n 0, 1) := by decide +kernel
theorem dX8_beginStops_32 : decode cX8_beginStops 32 = .ok (.aload_n 0, 1) := by decide +kernel
theorem dX8_beginStops_33 : decode cX8_beginStops 33 = .ok (.iload_n 1, 1) := by decide +kernel
theorem dX8_beginStops_34 : decode cX8_beginStops 34 = .ok (.invokevirtual 100, 3) := by decide +kernel
theorem dX8_beginStops_37 : decode cX8_beginStops 37 = .ok (.invokevirtual 111, 3) := by decide +kernel
theorem dX8_beginStops_40 : decode cX8_beginStops 40 = .ok (.iinc 1 1, 3) := by decide +kernel
theorem dX8_beginStops_43 : decode cX8_beginStops 43 = .ok (.goto (-18), 3) := by decide +kernel
theorem dX8_beginStops_46 : decode cX8_beginStops 46 = .ok (.iconst 0, 1) := by decide +kernel
theorem dX8_beginStops_47 : decode cX8_beginStops 47 = .ok (.istore_n 1, 1) := by decide +kernel
theorem dX8_beginStops_48 : decode cX8_beginStops 48 = .ok (.iload_n 1, 1) := by decide +kernel
theorem dX8_beginStops_49 : decode cX8_beginStops 49 = .ok (.bipush 100, 2) := by decide +kernel
theorem dX8_beginStops_51 : decode cX8_beginStops 51 = .ok (.if_icmp .ge 14, 3) := by decide +kernel
theorem dX8_beginStops_54 : decode cX8_beginStops 54 = .ok (.aload_n 0, 1) := by decide +kernel
theorem dX8_beginStops_55 : decode cX8_beginStops 55 = .ok (.invokevirtual 114, 3) := by decide +kernel
theorem dX8_beginStops_58 : decode cX8_beginStops 58 = .ok (.pop, 1) := by decide +kernel
theorem dX8_beginStops_59 : decode cX8_beginStops 59 = .ok (.iinc 1 1, 3) := by decide +kernel
theorem dX8_beginStops_62 : decode cX8_beginStops 62 = .ok (.goto (-14), 3) := by decide +kernel
theorem dX8_beginStops_65 : decode cX8_beginStops 65 = .ok (.return_, 1) := by decide +kernel
theorem dX8_beginRow_0 : decode cX8_beginRow 0 = .ok (.iconst 0, 1) := by decide +kernel
theorem dX8_beginRow_1 : decode cX8_beginRow 1 = .ok (.istore_n 1, 1) := by decide +kernel
theorem dX8_beginRow_2 : decode cX8_beginRow 2 = .ok (.iload_n 1, 1) := by decide +kernel
theorem dX8_beginRow_3 : decode cX8_beginRow 3 = .ok (.sipush 256, 3) := by decide +kernel
theorem dX8_beginRow_6 : decode cX8_beginRow 6 = .ok (.if_icmp .ge 16, 3) := by decide +kernel
theorem dX8_beginRow_9 : decode cX8_beginRow 9 = .ok (.aload_n 0, 1) := by decide +kernel
theorem dX8_beginRow_10 : decode cX8_beginRow 10 = .ok (.getfield 26, 3) := by decide +kernel
theorem dX8_beginRow_13 : decode cX8_beginRow 13 = .ok (.iload_n 1, 1) := by decide +kernel
theorem dX8_beginRow_14 : decode cX8_beginRow 14 = .ok (.iload_n 1, 1) := by decide +kernel
theorem dX8_beginRow_15 : decode cX8_beginRow 15 = .ok (.iastore, 1) := by decide +kernel
theorem dX8_beginRow_16 : decode cX8_beginRow 16 = .ok (.iinc 1 1, 3) := by decide +kernel
theorem dX8_beginRow_19 : decode cX8_beginRow 19 = .ok (.goto (-17), 3) := by decide +kernel
theorem dX8_beginRow_22 : decode cX8_beginRow 22 = .ok (.aload_n 0, 1) := by decide +kernel
theorem dX8_beginRow_23 : decode cX8_beginRow 23 = .ok (.iconst 0, 1) := by decide +kernel
theorem dX8_beginRow_24 : decode cX8_beginRow 24 = .ok (.putfield 69, 3) := by decide +kernel
theorem dX8_beginRow_27 : decode cX8_beginRow 27 = .ok (.iconst 0, 1) := by decide +kernel
theorem dX8_beginRow_28 : decode cX8_beginRow 28 = .ok (.istore_n 1, 1) := by decide +kernel
theorem dX8_beginRow_29 : decode cX8_beginRow 29 = .ok (.iload_n 1, 1) := by decide +kernel
theorem dX8_beginRow_30 : decode cX8_beginRow 30 = .ok (.sipush 256, 3) := by decide +kernel
theorem dX8_beginRow_33 : decode cX8_beginRow 33 = .ok (.if_icmp .ge 49, 3) := by decide +kernel
theorem dX8_beginRow_36 : decode cX8_beginRow 36 = .ok (.aload_n 0, 1) := by decide +kernel
theorem dX8_beginRow_37 : decode cX8_beginRow 37 = .ok (.aload_n 0, 1) := by decide +kernel
theorem dX8_beginRow_38 : decode cX8_beginRow 38 = .ok (.getfield 69, 3) := by decide +kernel
theorem dX8_beginRow_41 : decode cX8_beginRow 41 = .ok (.aload_n 0, 1) := by decide +kernel
theorem dX8_beginRow_42 : decode cX8_beginRow 42 = .ok (.getfield 26, 3) := by decide +kernel
theorem dX8_beginRow_45 : decode cX8_beginRow 45 = .ok (.iload_n 1, 1) := by decide +kernel
theorem dX8_beginRow_46 : decode cX8_beginRow 46 = .ok (.iaload, 1) := by decide +kernel
theorem dX8_beginRow_47 : decode cX8_beginRow 47 = .ok (.iadd, 1) := by decide +kernel
theorem dX8_beginRow_48 : decode cX8_beginRow 48 = .ok (.aload_n 0, 1) := by decide +kernel
theorem dX8_beginRow_49 : decode cX8_beginRow 49 = .ok (.getfield 7, 3) := by decide +kernel
theorem dX8_beginRow_52 : decode cX8_beginRow 52 = .ok (.iload_n 1, 1) := by decide +kernel
theorem dX8_beginRow_53 : decode cX8_beginRow 53 = .ok (.aload_n 0, 1) := by decide +kernel
theorem dX8_beginRow_54 : decode cX8_beginRow 54 = .ok (.getfield 29, 3) := by decide +kernel
theorem dX8_beginRow_57 : decode cX8_beginRow 57 = .ok (.irem, 1) := by decide +kernel
theorem dX8_beginRow_58 : decode cX8_beginRow 58 = .ok (.iaload, 1) := by decide +kernel
theorem dX8_beginRow_59 : decode cX8_beginRow 59 = .ok (.iadd, 1) := by decide +kernel
theorem dX8_beginRow_60 : decode cX8_beginRow 60 = .ok (.sipush 255, 3) := by decide +kernel
theorem dX8_beginRow_63 : decode cX8_beginRow 63 = .ok (.iand, 1) := by decide +kernel
theorem dX8_beginRow_64 : decode cX8_beginRow 64 = .ok (.putfield 69, 3) := by decide +kernel
theorem dX8_beginRow_67 : decode cX8_beginRow 67 = .ok (.aload_n 0, 1) := by decide +kernel
theorem dX8_beginRow_68 : decode cX8_beginRow 68 = .ok (.iload_n 1, 1) := by decide +kernel
theorem dX8_beginRow_69 : decode cX8_beginRow 69 = .ok (.aload_n 0, 1) := by decide +kernel
theorem dX8_beginRow_70 : decode cX8_beginRow 70 = .ok (.getfield 69, 3) := by decide +kernel
theorem dX8_beginRow_73 : decode cX8_beginRow 73 = .ok (.invokevirtual 72, 3) := by decide +kernel
theorem dX8_beginRow_76 : decode cX8_beginRow 76 = .ok (.iinc 1 1, 3) := by decide +kernel
theorem dX8_beginRow_79 : decode cX8_beginRow 79 = .ok (.goto (-50), 3) := by decide +kernel
theorem dX8_beginRow_82 : decode cX8_beginRow 82 = .ok (.aload_n 0, 1) := by decide +kernel
theorem dX8_beginRow_83 : decode cX8_beginRow 83 = .ok (.iconst 0, 1) := by decide +kernel
theorem dX8_beginRow_84 : decode cX8_beginRow 84 = .ok (.putfield 66, 3) := by decide +kernel
theorem dX8_beginRow_87 : decode cX8_beginRow 87 = .ok (.aload_n 0, 1) := by decide +kernel
theorem dX8_beginRow_88 : decode cX8_beginRow 88 = .ok (.iconst 0, 1) := by decide +kernel
theorem dX8_beginRow_89 : decode cX8_beginRow 89 = .ok (.putfield 69, 3) := by decide +kernel
theorem dX8_beginRow_92 : decode cX8_beginRow 92 = .ok (.aload_n 0, 1) := by decide +kernel
theorem dX8_beginRow_93 : decode cX8_beginRow 93 = .ok (.iconst 0, 1) := by decide +kernel
theorem dX8_beginRow_94 : decode cX8_beginRow 94 = .ok (.putfield 117, 3) := by decide +kernel
theorem dX8_beginRow_97 : decode cX8_beginRow 97 = .ok (.return_, 1) := by decide +kernel
theorem dX8_next_0 : decode cX8_next 0 = .ok (.aload_n 0, 1) := by decide +kernel
theorem dX8_next_1 : decode cX8_next 1 = .ok (.dup, 1) := by decide +kernel
theorem dX8_next_2 : decode cX8_next 2 = .ok (.getfield 79, 3) := by decide +kernel
theorem dX8_next_5 : decode cX8_next 5 = .ok (.iconst 1, 1) := by decide +kernel
theorem dX8_next_6 : decode cX8_next 6 = .ok (.iadd, 1) := by decide +kernel
theorem dX8_next_7 : decode cX8_next 7 = .ok (.putfield 79, 3) := by decide +kernel
theorem dX8_next_10 : decode cX8_next 10 = .ok (.aload_n 0, 1) := by decide +kernel
theorem dX8_next_11 : decode cX8_next 11 = .ok (.getfield 16, 3) := by decide +kernel
theorem dX8_next_14 : decode cX8_next 14 = .ok (.ifCond .ne 8, 3) := by decide +kernel
theorem dX8_next_17 : decode cX8_next 17 = .ok (.aload_n 0, 1) := by decide +kernel
theorem dX8_next_18 : decode cX8_next 18 = .ok (.invokevirtual 103, 3) := by decide +kernel
theorem dX8_next_21 : decode cX8_next 21 = .ok (.ireturn, 1) := by decide +kernel
theorem dX8_next_22 : decode cX8_next 22 = .ok (.aload_n 0, 1) := by decide +kernel
theorem dX8_next_23 : decode cX8_next 23 = .ok (.getfield 16, 3) := by decide +kernel
theorem dX8_next_26 : decode cX8_next 26 = .ok (.iconst 1, 1) := by decide +kernel
theorem dX8_next_27 : decode cX8_next 27 = .ok (.if_icmp .ne 9, 3) := by decide +kernel
theorem dX8_next_30 : decode cX8_next 30 = .ok (.aload_n 0, 1) := by decide +kernel
theorem dX8_next_31 : decode cX8_next 31 = .ok (.iconst 0, 1) := by decide +kernel
theorem dX8_next_32 : decode cX8_next 32 = .ok (.invokevirtual 107, 3) := by decide +kernel
theorem dX8_next_35 : decode cX8_next 35 = .ok (.ireturn, 1) := by decide +kernel
theorem dX8_next_36 : decode cX8_next 36 = .ok (.aload_n 0, 1) := by decide +kernel
theorem dX8_next_37 : decode cX8_next 37 = .ok (.getfield 16, 3) := by decide +kernel
theorem dX8_next_40 : decode cX8_next 40 = .ok (.iconst 2, 1) := by decide +kernel
theorem dX8_next_41 : decode cX8_next 41 = .ok (.if_icmp .ne 8, 3) := by decide +kernel
theorem dX8_next_44 : decode cX8_next 44 = .ok (.aload_n 0, 1) := by decide +kernel
theorem dX8_next_45 : decode cX8_next 45 = .ok (.invokevirtual 114, 3) := by decide +kernel
theorem dX8_next_48 : decode cX8_next 48 = .ok (.ireturn, 1) := by decide +kernel
theorem dX8_next_49 : decode cX8_next 49 = .ok (.aload_n 0, 1) := by decide +kernel
theorem dX8_next_50 : decode cX8_next 50 = .ok (.getfield 117, 3) := by decide +kernel
theorem dX8_next_53 : decode cX8_next 53 = .ok (.ifCond .ne 17, 3) := by decide +kernel
theorem dX8_next_56 : decode cX8_next 56 = .ok (.aload_n 0, 1) := by decide +kernel
theorem dX8_next_57 : decode cX8_next 57 = .ok (.aload_n 0, 1) := by decide +kernel
theorem dX8_next_58 : decode cX8_next 58 = .ok (.invokevirtual 120, 3) := by decide +kernel
theorem dX8_next_61 : decode cX8_next 61 = .ok (.putfield 123, 3) := by decide +kernel
theorem dX8_next_64 : decode cX8_next 64 = .ok (.aload_n 0, 1) := by decide +kernel
theorem dX8_next_65 : decode cX8_next 65 = .ok (.bipush 8, 2) := by decide +kernel
theorem dX8_next_67 : decode cX8_next 67 = .ok (.putfield 117, 3) := by decide +kernel
theorem dX8_next_70 : decode cX8_next 70 = .ok (.aload_n 0, 1) := by decide +kernel
theorem dX8_next_71 : decode cX8_next 71 = .ok (.dup, 1) := by decide +kernel
theorem dX8_next_72 : decode cX8_next 72 = .ok (.getfield 117, 3) := by decide +kernel
theorem dX8_next_75 : decode cX8_next 75 = .ok (.iconst 1, 1) := by decide +kernel
theorem dX8_next_76 : decode cX8_next 76 = .ok (.isub, 1) := by decide +kernel
theorem dX8_next_77 : decode cX8_next 77 = .ok (.putfield 117, 3) := by decide +kernel
theorem dX8_next_80 : decode cX8_next 80 = .ok (.aload_n 0, 1) := by decide +kernel
theorem dX8_next_81 : decode cX8_next 81 = .ok (.getfield 123, 3) := by decide +kernel
theorem dX8_next_84 : decode cX8_next 84 = .ok (.aload_n 0, 1) := by decide +kernel
theorem dX8_next_85 : decode cX8_next 85 = .ok (.getfield 117, 3) := by decide +kernel
theorem dX8_next_88 : decode cX8_next 88 = .ok (.ishr, 1) := by decide +kernel
theorem dX8_next_89 : decode cX8_next 89 = .ok (.iconst 1, 1) := by decide +kernel
theorem dX8_next_90 : decode cX8_next 90 = .ok (.iand, 1) := by decide +kernel
theorem dX8_next_91 : decode cX8_next 91 = .ok (.ireturn, 1) := by decide +kernel
theorem dX8_bits_0 : decode cX8_bits 0 = .ok (.aload_n 0, 1) := by decide +kernel
theorem dX8_bits_1 : decode cX8_bits 1 = .ok (.lconst 0, 1) := by decide +kernel
theorem dX8_bits_2 : decode cX8_bits 2 = .ok (.iload_n 1, 1) := by decide +kernel
theorem dX8_bits_3 : decode cX8_bits 3 = .ok (.invokevirtual 126, 3) := by decide +kernel
theorem dX8_bits_6 : decode cX8_bits 6 = .ok (.lreturn, 1) := by decide +kernel
theorem dX8_skip_0 : decode cX8_skip 0 = .ok (.aload_n 0, 1) := by decide +kernel
theorem dX8_skip_1 : decode cX8_skip 1 = .ok (.getfield 16, 3) := by decide +kernel
theorem dX8_skip_4 : decode cX8_skip 4 = .ok (.ifCond .lt 14, 3) := by decide +kernel
theorem dX8_skip_7 : decode cX8_skip 7 = .ok (.iload_n 1, 1) := by decide +kernel
theorem dX8_skip_8 : decode cX8_skip 8 = .ok (.ifCond .lt 10, 3) := by decide +kernel
theorem dX8_skip_11 : decode cX8_skip 11 = .ok (.iload_n 1, 1) := by decide +kernel
theorem dX8_skip_12 : decode cX8_skip 12 = .ok (.sipush 5000, 3) := by decide +kernel
theorem dX8_skip_15 : decode cX8_skip 15 = .ok (.if_icmp .le 5, 3) := by decide +kernel
theorem dX8_skip_18 : decode cX8_skip 18 = .ok (.iconst 0, 1) := by decide +kernel
theorem dX8_skip_19 : decode cX8_skip 19 = .ok (.ireturn, 1) := by decide +kernel
theorem dX8_skip_20 : decode cX8_skip 20 = .ok (.iconst 0, 1) := by decide +kernel
theorem dX8_skip_21 : decode cX8_skip 21 = .ok (.istore_n 2, 1) := by decide +kernel
theorem dX8_skip_22 : decode cX8_skip 22 = .ok (.iload_n 2, 1) := by decide +kernel
theorem dX8_skip_23 : decode cX8_skip 23 = .ok (.iload_n 1, 1) := by decide +kernel
theorem dX8_skip_24 : decode cX8_skip 24 = .ok (.if_icmp .ge 14, 3) := by decide +kernel
theorem dX8_skip_27 : decode cX8_skip 27 = .ok (.aload_n 0, 1) := by decide +kernel
theorem dX8_skip_28 : decode cX8_skip 28 = .ok (.invokevirtual 130, 3) := by decide +kernel
theorem dX8_skip_31 : decode cX8_skip 31 = .ok (.pop, 1) := by decide +kernel
theorem dX8_skip_32 : decode cX8_skip 32 = .ok (.iinc 2 1, 3) := by decide +kernel
theorem dX8_skip_35 : decode cX8_skip 35 = .ok (.goto (-13), 3) := by decide +kernel
theorem dX8_skip_38 : decode cX8_skip 38 = .ok (.iconst 1, 1) := by decide +kernel
theorem dX8_skip_39 : decode cX8_skip 39 = .ok (.ireturn, 1) := by decide +kernel
theorem dX8_mix_0 : decode cX8_mix 0 = .ok (.aload_n 0, 1) := by decide +kernel
theorem dX8_mix_1 : decode cX8_mix 1 = .ok (.getfield 16, 3) := by decide +kernel
theorem dX8_mix_4 : decode cX8_mix 4 = .ok (.ifCond .lt 14, 3) := by decide +kernel
theorem dX8_mix_7 : decode cX8_mix 7 = .ok (.iload_n 3, 1) := by decide +kernel
theorem dX8_mix_8 : decode cX8_mix 8 = .ok (.iconst 1, 1) := by decide +kernel
theorem dX8_mix_9 : decode cX8_mix 9 = .ok (.if_icmp .lt 9, 3) := by decide +kernel
theorem dX8_mix_12 : decode cX8_mix 12 = .ok (.iload_n 3, 1) := by decide +kernel
theorem dX8_mix_13 : decode cX8_mix 13 = .ok (.bipush 64, 2) := by decide +kernel
theorem dX8_mix_15 : decode cX8_mix 15 = .ok (.if_icmp .le 5, 3) := by decide +kernel
theorem dX8_mix_18 : decode cX8_mix 18 = .ok (.lconst 0, 1) := by decide +kernel
theorem dX8_mix_19 : decode cX8_mix 19 = .ok (.lreturn, 1) := by decide +kernel
theorem dX8_mix_20 : decode cX8_mix 20 = .ok (.lconst 0, 1) := by decide +kernel
theorem dX8_mix_21 : decode cX8_mix 21 = .ok (.lstore 4, 2) := by decide +kernel
theorem dX8_mix_23 : decode cX8_mix 23 = .ok (.iload_n 3, 1) := by decide +kernel
theorem dX8_mix_24 : decode cX8_mix 24 = .ok (.iconst 1, 1) := by decide +kernel
theorem dX8_mix_25 : decode cX8_mix 25 = .ok (.isub, 1) := by decide +kernel
theorem dX8_mix_26 : decode cX8_mix 26 = .ok (.istore 6, 2) := by decide +kernel
theorem dX8_mix_28 : decode cX8_mix 28 = .ok (.iload 6, 2) := by decide +kernel
theorem dX8_mix_30 : decode cX8_mix 30 = .ok (.ifCond .lt 28, 3) := by decide +kernel
theorem dX8_mix_33 : decode cX8_mix 33 = .ok (.lload 4, 2) := by decide +kernel
theorem dX8_mix_35 : decode cX8_mix 35 = .ok (.iconst 1, 1) := by decide +kernel
theorem dX8_mix_36 : decode cX8_mix 36 = .ok (.lshl, 1) := by decide +kernel
theorem dX8_mix_37 : decode cX8_mix 37 = .ok (.lload_n 1, 1) := by decide +kernel
theorem dX8_mix_38 : decode cX8_mix 38 = .ok (.iload 6, 2) := by decide +kernel
theorem dX8_mix_40 : decode cX8_mix 40 = .ok (.lshr, 1) := by decide +kernel
theorem dX8_mix_41 : decode cX8_mix 41 = .ok (.lconst 1, 1) := by decide +kernel
theorem dX8_mix_42 : decode cX8_mix 42 = .ok (.land, 1) := by decide +kernel
theorem dX8_mix_43 : decode cX8_mix 43 = .ok (.aload_n 0, 1) := by decide +kernel
theorem dX8_mix_44 : decode cX8_mix 44 = .ok (.invokevirtual 130, 3) := by decide +kernel
theorem dX8_mix_47 : decode cX8_mix 47 = .ok (.i2l, 1) := by decide +kernel
theorem dX8_mix_48 : decode cX8_mix 48 = .ok (.lxor, 1) := by decide +kernel
theorem dX8_mix_49 : decode cX8_mix 49 = .ok (.lor, 1) := by decide +kernel
theorem dX8_mix_50 : decode cX8_mix 50 = .ok (.lstore 4, 2) := by decide +kernel
theorem dX8_mix_52 : decode cX8_mix 52 = .ok (.iinc 6 (-1), 3) := by decide +kernel
theorem dX8_mix_55 : decode cX8_mix 55 = .ok (.goto (-27), 3) := by decide +kernel
theorem dX8_mix_58 : decode cX8_mix 58 = .ok (.lload 4, 2) := by decide +kernel
theorem dX8_mix_60 : decode cX8_mix 60 = .ok (.lreturn, 1) := by decide +kernel
theorem dX8_count_0 : decode cX8_count 0 = .ok (.iload_n 1, 1) := by decide +kernel
theorem dX8_count_1 : decode cX8_count 1 = .ok (.ifCond .ne 10, 3) := by decide +kernel
theorem dX8_count_4 : decode cX8_count 4 = .ok (.aload_n 0, 1) := by decide +kernel
theorem dX8_count_5 : decode cX8_count 5 = .ok (.getfield 29, 3) := by decide +kernel
theorem dX8_count_8 : decode cX8_count 8 = .ok (.goto 40, 3) := by decide +kernel
theorem dX8_count_11 : decode cX8_count 11 = .ok (.iload_n 1, 1) := by decide +kernel
theorem dX8_count_12 : decode cX8_count 12 = .ok (.iconst 1, 1) := by decide +kernel
theorem dX8_count_13 : decode cX8_count 13 = .ok (.if_icmp .ne 10, 3) := by decide +kernel
theorem dX8_count_16 : decode cX8_count 16 = .ok (.aload_n 0, 1) := by decide +kernel
theorem dX8_count_17 : decode cX8_count 17 = .ok (.getfield 34, 3) := by decide +kernel
theorem dX8_count_20 : decode cX8_count 20 = .ok (.goto 28, 3) := by decide +kernel
theorem dX8_count_23 : decode cX8_count 23 = .ok (.iload_n 1, 1) := by decide +kernel
theorem dX8_count_24 : decode cX8_count 24 = .ok (.iconst 2, 1) := by decide +kernel
theorem dX8_count_25 : decode cX8_count 25 = .ok (.if_icmp .ne 10, 3) := by decide +kernel
theorem dX8_count_28 : decode cX8_count 28 = .ok (.aload_n 0, 1) := by decide +kernel
theorem dX8_count_29 : decode cX8_count 29 = .ok (.getfield 16, 3) := by decide +kernel
theorem dX8_count_32 : decode cX8_count 32 = .ok (.goto 16, 3) := by decide +kernel
theorem dX8_count_35 : decode cX8_count 35 = .ok (.iload_n 1, 1) := by decide +kernel
theorem dX8_count_36 : decode cX8_count 36 = .ok (.iconst 3, 1) := by decide +kernel
theorem dX8_count_37 : decode cX8_count 37 = .ok (.if_icmp .ne 10, 3) := by decide +kernel
theorem dX8_count_40 : decode cX8_count 40 = .ok (.aload_n 0, 1) := by decide +kernel
theorem dX8_count_41 : decode cX8_count 41 = .ok (.getfield 79, 3) := by decide +kernel
theorem dX8_count_44 : decode cX8_count 44 = .ok (.goto 4, 3) := by decide +kernel
theorem dX8_count_47 : decode cX8_count 47 = .ok (.iconst (-1), 1) := by decide +kernel
theorem dX8_count_48 : decode cX8_count 48 = .ok (.ireturn, 1) := by decide +kernel
theorem dL_law_0 : decode cL_law 0 = .ok (.new 7, 3) := by decide +kernel
theorem dL_law_3 : decode cL_law 3 = .ok (.dup, 1) := by decide +kernel
theorem dL_law_4 : decode cL_law 4 = .ok (.invokespecial 9, 3) := by decide +kernel
theorem dL_law_7 : decode cL_law 7 = .ok (.astore_n 1, 1) := by decide +kernel
theorem dL_law_8 : decode cL_law 8 = .ok (.new 10, 3) := by decide +kernel
theorem dL_law_11 : decode cL_law 11 = .ok (.dup, 1) := by decide +kernel
theorem dL_law_12 : decode cL_law 12 = .ok (.invokespecial 12, 3) := by decide +kernel
theorem dL_law_15 : decode cL_law 15 = .ok (.astore_n 2, 1) := by decide +kernel
theorem dL_law_16 : decode cL_law 16 = .ok (.iconst 0, 1) := by decide +kernel
theorem dL_law_17 : decode cL_law 17 = .ok (.istore_n 3, 1) := by decide +kernel
theorem dL_law_18 : decode cL_law 18 = .ok (.iload_n 3, 1) := by decide +kernel
theorem dL_law_19 : decode cL_law 19 = .ok (.aload_n 0, 1) := by decide +kernel
theorem dL_law_20 : decode cL_law 20 = .ok (.arraylength, 1) := by decide +kernel
theorem dL_law_21 : decode cL_law 21 = .ok (.iconst 4, 1) := by decide +kernel
theorem dL_law_22 : decode cL_law 22 = .ok (.isub, 1) := by decide +kernel
theorem dL_law_23 : decode cL_law 23 = .ok (.if_icmp .gt 342, 3) := by decide +kernel
theorem dL_law_26 : decode cL_law 26 = .ok (.aload_n 0, 1) := by decide +kernel
theorem dL_law_27 : decode cL_law 27 = .ok (.iload_n 3, 1) := by decide +kernel
theorem dL_law_28 : decode cL_law 28 = .ok (.iaload, 1) := by decide +kernel
theorem dL_law_29 : decode cL_law 29 = .ok (.bipush 7, 2) := by decide +kernel
theorem dL_law_31 : decode cL_law 31 = .ok (.iand, 1) := by decide +kernel
theorem dL_law_32 : decode cL_law 32 = .ok (.tableswitch 327 0 6 #[44, 107, 170, 193, 217, 240, 304], 44) := by decide +kernel
theorem dL_law_76 : decode cL_law 76 = .ok (.aload_n 1, 1) := by decide +kernel
theorem dL_law_77 : decode cL_law 77 = .ok (.aload_n 0, 1) := by decide +kernel
theorem dL_law_78 : decode cL_law 78 = .ok (.iload_n 3, 1) := by decide +kernel
theorem dL_law_79 : decode cL_law 79 = .ok (.iconst 1, 1) := by decide +kernel
theorem dL_law_80 : decode cL_law 80 = .ok (.iadd, 1) := by decide +kernel
theorem dL_law_81 : decode cL_law 81 = .ok (.iaload, 1) := by decide +kernel
theorem dL_law_82 : decode cL_law 82 = .ok (.i2l, 1) := by decide +kernel
theorem dL_law_83 : decode cL_law 83 = .ok (.bipush 32, 2) := by decide +kernel
theorem dL_law_85 : decode cL_law 85 = .ok (.lshl, 1) := by decide +kernel
theorem dL_law_86 : decode cL_law 86 = .ok (.aload_n 0, 1) := by decide +kernel
theorem dL_law_87 : decode cL_law 87 = .ok (.iload_n 3, 1) := by decide +kernel
theorem dL_law_88 : decode cL_law 88 = .ok (.iconst 2, 1) := by decide +kernel
theorem dL_law_89 : decode cL_law 89 = .ok (.iadd, 1) := by decide +kernel
theorem dL_law_90 : decode cL_law 90 = .ok (.iaload, 1) := by decide +kernel
theorem dL_law_91 : decode cL_law 91 = .ok (.i2l, 1) := by decide +kernel
theorem dL_law_92 : decode cL_law 92 = .ok (.ldc2_w 13, 3) := by decide +kernel
theorem dL_law_95 : decode cL_law 95 = .ok (.land, 1) := by decide +kernel
theorem dL_law_96 : decode cL_law 96 = .ok (.lor, 1) := by decide +kernel
theorem dL_law_97 : decode cL_law 97 = .ok (.aload_n 0, 1) := by decide +kernel
theorem dL_law_98 : decode cL_law 98 = .ok (.iload_n 3, 1) := by decide +kernel
theorem dL_law_99 : decode cL_law 99 = .ok (.iconst 3, 1) := by decide +kernel
theorem dL_law_100 : decode cL_law 100 = .ok (.iadd, 1) := by decide +kernel
theorem dL_law_101 : decode cL_law 101 = .ok (.iaload, 1) := by decide +kernel
theorem dL_law_102 : decode cL_law 102 = .ok (.invokevirtual 15, 3) := by decide +kernel
theorem dL_law_105 : decode cL_law 105 = .ok (.aload_n 2, 1) := by decide +kernel
theorem dL_law_106 : decode cL_law 106 = .ok (.aload_n 0, 1) := by decide +kernel
theorem dL_law_107 : decode cL_law 107 = .ok (.iload_n 3, 1) := by decide +kernel
theorem dL_law_108 : decode cL_law 108 = .ok (.iconst 1, 1) := by decide +kernel
theorem dL_law_109 : decode cL_law 109 = .ok (.iadd, 1) := by decide +kernel
theorem dL_law_110 : decode cL_law 110 = .ok (.iaload, 1) := by decide +kernel
theorem dL_law_111 : decode cL_law 111 = .ok (.i2l, 1) := by decide +kernel
theorem dL_law_112 : decode cL_law 112 = .ok (.bipush 32, 2) := by decide +kernel
theorem dL_law_114 : decode cL_law 114 = .ok (.lshl, 1) := by decide +kernel
theorem dL_law_115 : decode cL_law 115 = .ok (.aload_n 0, 1) := by decide +kernel
theorem dL_law_116 : decode cL_law 116 = .ok (.iload_n 3, 1) := by decide +kernel
theorem dL_law_117 : decode cL_law 117 = .ok (.iconst 2, 1) := by decide +kernel
theorem dL_law_118 : decode cL_law 118 = .ok (.iadd, 1) := by decide +kernel
theorem dL_law_119 : decode cL_law 119 = .ok (.iaload, 1) := by decide +kernel
theorem dL_law_120 : decode cL_law 120 = .ok (.i2l, 1) := by decide +kernel
theorem dL_law_121 : decode cL_law 121 = .ok (.ldc2_w 13, 3) := by decide +kernel
theorem dL_law_124 : decode cL_law 124 = .ok (.land, 1) := by decide +kernel
theorem dL_law_125 : decode cL_law 125 = .ok (.lor, 1) := by decide +kernel
theorem dL_law_126 : decode cL_law 126 = .ok (.aload_n 0, 1) := by decide +kernel
theorem dL_law_127 : decode cL_law 127 = .ok (.iload_n 3, 1) := by decide +kernel
theorem dL_law_128 : decode cL_law 128 = .ok (.iconst 3, 1) := by decide +kernel
theorem dL_law_129 : decode cL_law 129 = .ok (.iadd, 1) := by decide +kernel
theorem dL_law_130 : decode cL_law 130 = .ok (.iaload, 1) := by decide +kernel
theorem dL_law_131 : decode cL_law 131 = .ok (.invokevirtual 19, 3) := by decide +kernel
theorem dL_law_134 : decode cL_law 134 = .ok (.if_icmp .eq 225, 3) := by decide +kernel
theorem dL_law_137 : decode cL_law 137 = .ok (.iconst 0, 1) := by decide +kernel
theorem dL_law_138 : decode cL_law 138 = .ok (.ireturn, 1) := by decide +kernel
theorem dL_law_139 : decode cL_law 139 = .ok (.aload_n 1, 1) := by decide +kernel
theorem dL_law_140 : decode cL_law 140 = .ok (.aload_n 0, 1) := by decide +kernel
theorem dL_law_141 : decode cL_law 141 = .ok (.iload_n 3, 1) := by decide +kernel
theorem dL_law_142 : decode cL_law 142 = .ok (.iconst 1, 1) := by decide +kernel
theorem dL_law_143 : decode cL_law 143 = .ok (.iadd, 1) := by decide +kernel
theorem dL_law_144 : decode cL_law 144 = .ok (.iaload, 1) := by decide +kernel
theorem dL_law_145 : decode cL_law 145 = .ok (.i2l, 1) := by decide +kernel
theorem dL_law_146 : decode cL_law 146 = .ok (.bipush 32, 2) := by decide +kernel
theorem dL_law_148 : decode cL_law 148 = .ok (.lshl, 1) := by decide +kernel
theorem dL_law_149 : decode cL_law 149 = .ok (.aload_n 0, 1) := by decide +kernel
theorem dL_law_150 : decode cL_law 150 = .ok (.iload_n 3, 1) := by decide +kernel
theorem dL_law_151 : decode cL_law 151 = .ok (.iconst 2, 1) := by decide +kernel
theorem dL_law_152 : decode cL_law 152 = .ok (.iadd, 1) := by decide +kernel
theorem dL_law_153 : decode cL_law 153 = .ok (.iaload, 1) := by decide +kernel
theorem dL_law_154 : decode cL_law 154 = .ok (.i2l, 1) := by decide +kernel
theorem dL_law_155 : decode cL_law 155 = .ok (.ldc2_w 13, 3) := by decide +kernel
theorem dL_law_158 : decode cL_law 158 = .ok (.land, 1) := by decide +kernel
theorem dL_law_159 : decode cL_law 159 = .ok (.lor, 1) := by decide +kernel
theorem dL_law_160 : decode cL_law 160 = .ok (.aload_n 0, 1) := by decide +kernel
theorem dL_law_161 : decode cL_law 161 = .ok (.iload_n 3, 1) := by decide +kernel
theorem dL_law_162 : decode cL_law 162 = .ok (.iconst 3, 1) := by decide +kernel
theorem dL_law_163 : decode cL_law 163 = .ok (.iadd, 1) := by decide +kernel
theorem dL_law_164 : decode cL_law 164 = .ok (.iaload, 1) := by decide +kernel
theorem dL_law_165 : decode cL_law 165 = .ok (.invokevirtual 20, 3) := by decide +kernel
theorem dL_law_168 : decode cL_law 168 = .ok (.aload_n 2, 1) := by decide +kernel
theorem dL_law_169 : decode cL_law 169 = .ok (.aload_n 0, 1) := by decide +kernel
theorem dL_law_170 : decode cL_law 170 = .ok (.iload_n 3, 1) := by decide +kernel
theorem dL_law_171 : decode cL_law 171 = .ok (.iconst 1, 1) := by decide +kernel
theorem dL_law_172 : decode cL_law 172 = .ok (.iadd, 1) := by decide +kernel
theorem dL_law_173 : decode cL_law 173 = .ok (.iaload, 1) := by decide +kernel
theorem dL_law_174 : decode cL_law 174 = .ok (.i2l, 1) := by decide +kernel
theorem dL_law_175 : decode cL_law 175 = .ok (.bipush 32, 2) := by decide +kernel
theorem dL_law_177 : decode cL_law 177 = .ok (.lshl, 1) := by decide +kernel
theorem dL_law_178 : decode cL_law 178 = .ok (.aload_n 0, 1) := by decide +kernel
theorem dL_law_179 : decode cL_law 179 = .ok (.iload_n 3, 1) := by decide +kernel
theorem dL_law_180 : decode cL_law 180 = .ok (.iconst 2, 1) := by decide +kernel
theorem dL_law_181 : decode cL_law 181 = .ok (.iadd, 1) := by decide +kernel
theorem dL_law_182 : decode cL_law 182 = .ok (.iaload, 1) := by decide +kernel
theorem dL_law_183 : decode cL_law 183 = .ok (.i2l, 1) := by decide +kernel
theorem dL_law_184 : decode cL_law 184 = .ok (.ldc2_w 13, 3) := by decide +kernel
theorem dL_law_187 : decode cL_law 187 = .ok (.land, 1) := by decide +kernel
theorem dL_law_188 : decode cL_law 188 = .ok (.lor, 1) := by decide +kernel
theorem dL_law_189 : decode cL_law 189 = .ok (.aload_n 0, 1) := by decide +kernel
theorem dL_law_190 : decode cL_law 190 = .ok (.iload_n 3, 1) := by decide +kernel
theorem dL_law_191 : decode cL_law 191 = .ok (.iconst 3, 1) := by decide +kernel
theorem dL_law_192 : decode cL_law 192 = .ok (.iadd, 1) := by decide +kernel
theorem dL_law_193 : decode cL_law 193 = .ok (.iaload, 1) := by decide +kernel
theorem dL_law_194 : decode cL_law 194 = .ok (.invokevirtual 23, 3) := by decide +kernel
theorem dL_law_197 : decode cL_law 197 = .ok (.if_icmp .eq 162, 3) := by decide +kernel
theorem dL_law_200 : decode cL_law 200 = .ok (.iconst 0, 1) := by decide +kernel
theorem dL_law_201 : decode cL_law 201 = .ok (.ireturn, 1) := by decide +kernel
theorem dL_law_202 : decode cL_law 202 = .ok (.aload_n 1, 1) := by decide +kernel
theorem dL_law_203 : decode cL_law 203 = .ok (.aload_n 0, 1) := by decide +kernel
theorem dL_law_204 : decode cL_law 204 = .ok (.iload_n 3, 1) := by decide +kernel
theorem dL_law_205 : decode cL_law 205 = .ok (.iconst 1, 1) := by decide +kernel
theorem dL_law_206 : decode cL_law 206 = .ok (.iadd, 1) := by decide +kernel
theorem dL_law_207 : decode cL_law 207 = .ok (.iaload, 1) := by decide +kernel
theorem dL_law_208 : decode cL_law 208 = .ok (.invokevirtual 24, 3) := by decide +kernel
theorem dL_law_211 : decode cL_law 211 = .ok (.aload_n 2, 1) := by decide +kernel
theorem dL_law_212 : decode cL_law 212 = .ok (.aload_n 0, 1) := by decide +kernel
theorem dL_law_213 : decode cL_law 213 = .ok (.iload_n 3, 1) := by decide +kernel
theorem dL_law_214 : decode cL_law 214 = .ok (.iconst 1, 1) := by decide +kernel
theorem dL_law_215 : decode cL_law 215 = .ok (.iadd, 1) := by decide +kernel
theorem dL_law_216 : decode cL_law 216 = .ok (.iaload, 1) := by decide +kernel
theorem dL_law_217 : decode cL_law 217 = .ok (.invokevirtual 28, 3) := by decide +kernel
theorem dL_law_220 : decode cL_law 220 = .ok (.if_icmp .eq 139, 3) := by decide +kernel
theorem dL_law_223 : decode cL_law 223 = .ok (.iconst 0, 1) := by decide +kernel
theorem dL_law_224 : decode cL_law 224 = .ok (.ireturn, 1) := by decide +kernel
theorem dL_law_225 : decode cL_law 225 = .ok (.aload_n 1, 1) := by decide +kernel
theorem dL_law_226 : decode cL_law 226 = .ok (.aload_n 0, 1) := by decide +kernel
theorem dL_law_227 : decode cL_law 227 = .ok (.iload_n 3, 1) := by decide +kernel
theorem dL_law_228 : decode cL_law 228 = .ok (.iconst 1, 1) := by decide +kernel
theorem dL_law_229 : decode cL_law 229 = .ok (.iadd, 1) := by decide +kernel
theorem dL_law_230 : decode cL_law 230 = .ok (.iaload, 1) := by decide +kernel
theorem dL_law_231 : decode cL_law 231 = .ok (.invokevirtual 29, 3) := by decide +kernel
theorem dL_law_234 : decode cL_law 234 = .ok (.aload_n 2, 1) := by decide +kernel
theorem dL_law_235 : decode cL_law 235 = .ok (.aload_n 0, 1) := by decide +kernel
theorem dL_law_236 : decode cL_law 236 = .ok (.iload_n 3, 1) := by decide +kernel
theorem dL_law_237 : decode cL_law 237 = .ok (.iconst 1, 1) := by decide +kernel
theorem dL_law_238 : decode cL_law 238 = .ok (.iadd, 1) := by decide +kernel
theorem dL_law_239 : decode cL_law 239 = .ok (.iaload, 1) := by decide +kernel
theorem dL_law_240 : decode cL_law 240 = .ok (.invokevirtual 33, 3) := by decide +kernel
theorem dL_law_243 : decode cL_law 243 = .ok (.lcmp, 1) := by decide +kernel
theorem dL_law_244 : decode cL_law 244 = .ok (.ifCond .eq 115, 3) := by decide +kernel
theorem dL_law_247 : decode cL_law 247 = .ok (.iconst 0, 1) := by decide +kernel
theorem dL_law_248 : decode cL_law 248 = .ok (.ireturn, 1) := by decide +kernel
theorem dL_law_249 : decode cL_law 249 = .ok (.aload_n 1, 1) := by decide +kernel
theorem dL_law_250 : decode cL_law 250 = .ok (.aload_n 0, 1) := by decide +kernel
theorem dL_law_251 : decode cL_law 251 = .ok (.iload_n 3, 1) := by decide +kernel
theorem dL_law_252 : decode cL_law 252 = .ok (.iconst 1, 1) := by decide +kernel
theorem dL_law_253 : decode cL_law 253 = .ok (.iadd, 1) := by decide +kernel
theorem dL_law_254 : decode cL_law 254 = .ok (.iaload, 1) := by decide +kernel
theorem dL_law_255 : decode cL_law 255 = .ok (.invokevirtual 34, 3) := by decide +kernel
theorem dL_law_258 : decode cL_law 258 = .ok (.aload_n 2, 1) := by decide +kernel
theorem dL_law_259 : decode cL_law 259 = .ok (.aload_n 0, 1) := by decide +kernel
theorem dL_law_260 : decode cL_law 260 = .ok (.iload_n 3, 1) := by decide +kernel
theorem dL_law_261 : decode cL_law 261 = .ok (.iconst 1, 1) := by decide +kernel
theorem dL_law_262 : decode cL_law 262 = .ok (.iadd, 1) := by decide +kernel
theorem dL_law_263 : decode cL_law 263 = .ok (.iaload, 1) := by decide +kernel
theorem dL_law_264 : decode cL_law 264 = .ok (.invokevirtual 37, 3) := by decide +kernel
theorem dL_law_267 : decode cL_law 267 = .ok (.if_icmp .eq 92, 3) := by decide +kernel
theorem dL_law_270 : decode cL_law 270 = .ok (.iconst 0, 1) := by decide +kernel
theorem dL_law_271 : decode cL_law 271 = .ok (.ireturn, 1) := by decide +kernel
theorem dL_law_272 : decode cL_law 272 = .ok (.aload_n 1, 1) := by decide +kernel
theorem dL_law_273 : decode cL_law 273 = .ok (.aload_n 0, 1) := by decide +kernel
theorem dL_law_274 : decode cL_law 274 = .ok (.iload_n 3, 1) := by decide +kernel
theorem dL_law_275 : decode cL_law 275 = .ok (.iconst 1, 1) := by decide +kernel
theorem dL_law_276 : decode cL_law 276 = .ok (.iadd, 1) := by decide +kernel
theorem dL_law_277 : decode cL_law 277 = .ok (.iaload, 1) := by decide +kernel
theorem dL_law_278 : decode cL_law 278 = .ok (.i2l, 1) := by decide +kernel
theorem dL_law_279 : decode cL_law 279 = .ok (.bipush 32, 2) := by decide +kernel
theorem dL_law_281 : decode cL_law 281 = .ok (.lshl, 1) := by decide +kernel
theorem dL_law_282 : decode cL_law 282 = .ok (.aload_n 0, 1) := by decide +kernel
theorem dL_law_283 : decode cL_law 283 = .ok (.iload_n 3, 1) := by decide +kernel
theorem dL_law_284 : decode cL_law 284 = .ok (.iconst 2, 1) := by decide +kernel
theorem dL_law_285 : decode cL_law 285 = .ok (.iadd, 1) := by decide +kernel
theorem dL_law_286 : decode cL_law 286 = .ok (.iaload, 1) := by decide +kernel
theorem dL_law_287 : decode cL_law 287 = .ok (.i2l, 1) := by decide +kernel
theorem dL_law_288 : decode cL_law 288 = .ok (.ldc2_w 13, 3) := by decide +kernel
theorem dL_law_291 : decode cL_law 291 = .ok (.land, 1) := by decide +kernel
theorem dL_law_292 : decode cL_law 292 = .ok (.lor, 1) := by decide +kernel
theorem dL_law_293 : decode cL_law 293 = .ok (.aload_n 0, 1) := by decide +kernel
theorem dL_law_294 : decode cL_law 294 = .ok (.iload_n 3, 1) := by decide +kernel
theorem dL_law_295 : decode cL_law 295 = .ok (.iconst 3, 1) := by decide +kernel
theorem dL_law_296 : decode cL_law 296 = .ok (.iadd, 1) := by decide +kernel
theorem dL_law_297 : decode cL_law 297 = .ok (.iaload, 1) := by decide +kernel
theorem dL_law_298 : decode cL_law 298 = .ok (.invokevirtual 38, 3) := by decide +kernel
theorem dL_law_301 : decode cL_law 301 = .ok (.aload_n 2, 1) := by decide +kernel
theorem dL_law_302 : decode cL_law 302 = .ok (.aload_n 0, 1) := by decide +kernel
theorem dL_law_303 : decode cL_law 303 = .ok (.iload_n 3, 1) := by decide +kernel
theorem dL_law_304 : decode cL_law 304 = .ok (.iconst 1, 1) := by decide +kernel
theorem dL_law_305 : decode cL_law 305 = .ok (.iadd, 1) := by decide +kernel
theorem dL_law_306 : decode cL_law 306 = .ok (.iaload, 1) := by decide +kernel
theorem dL_law_307 : decode cL_law 307 = .ok (.i2l, 1) := by decide +kernel
theorem dL_law_308 : decode cL_law 308 = .ok (.bipush 32, 2) := by decide +kernel
theorem dL_law_310 : decode cL_law 310 = .ok (.lshl, 1) := by decide +kernel
theorem dL_law_311 : decode cL_law 311 = .ok (.aload_n 0, 1) := by decide +kernel
theorem dL_law_312 : decode cL_law 312 = .ok (.iload_n 3, 1) := by decide +kernel
theorem dL_law_313 : decode cL_law 313 = .ok (.iconst 2, 1) := by decide +kernel
theorem dL_law_314 : decode cL_law 314 = .ok (.iadd, 1) := by decide +kernel
theorem dL_law_315 : decode cL_law 315 = .ok (.iaload, 1) := by decide +kernel
theorem dL_law_316 : decode cL_law 316 = .ok (.i2l, 1) := by decide +kernel
theorem dL_law_317 : decode cL_law 317 = .ok (.ldc2_w 13, 3) := by decide +kernel
theorem dL_law_320 : decode cL_law 320 = .ok (.land, 1) := by decide +kernel
theorem dL_law_321 : decode cL_law 321 = .ok (.lor, 1) := by decide +kernel
theorem dL_law_322 : decode cL_law 322 = .ok (.aload_n 0, 1) := by decide +kernel
theorem dL_law_323 : decode cL_law 323 = .ok (.iload_n 3, 1) := by decide +kernel
theorem dL_law_324 : decode cL_law 324 = .ok (.iconst 3, 1) := by decide +kernel
theorem dL_law_325 : decode cL_law 325 = .ok (.iadd, 1) := by decide +kernel
theorem dL_law_326 : decode cL_law 326 = .ok (.iaload, 1) := by decide +kernel
theorem dL_law_327 : decode cL_law 327 = .ok (.invokevirtual 42, 3) := by decide +kernel
theorem dL_law_330 : decode cL_law 330 = .ok (.lcmp, 1) := by decide +kernel
theorem dL_law_331 : decode cL_law 331 = .ok (.ifCond .eq 28, 3) := by decide +kernel
theorem dL_law_334 : decode cL_law 334 = .ok (.iconst 0, 1) := by decide +kernel
theorem dL_law_335 : decode cL_law 335 = .ok (.ireturn, 1) := by decide +kernel
theorem dL_law_336 : decode cL_law 336 = .ok (.aload_n 1, 1) := by decide +kernel
theorem dL_law_337 : decode cL_law 337 = .ok (.aload_n 0, 1) := by decide +kernel
theorem dL_law_338 : decode cL_law 338 = .ok (.iload_n 3, 1) := by decide +kernel
theorem dL_law_339 : decode cL_law 339 = .ok (.iconst 1, 1) := by decide +kernel
theorem dL_law_340 : decode cL_law 340 = .ok (.iadd, 1) := by decide +kernel
theorem dL_law_341 : decode cL_law 341 = .ok (.iaload, 1) := by decide +kernel
theorem dL_law_342 : decode cL_law 342 = .ok (.invokevirtual 43, 3) := by decide +kernel
theorem dL_law_345 : decode cL_law 345 = .ok (.aload_n 2, 1) := by decide +kernel
theorem dL_law_346 : decode cL_law 346 = .ok (.aload_n 0, 1) := by decide +kernel
theorem dL_law_347 : decode cL_law 347 = .ok (.iload_n 3, 1) := by decide +kernel
theorem dL_law_348 : decode cL_law 348 = .ok (.iconst 1, 1) := by decide +kernel
theorem dL_law_349 : decode cL_law 349 = .ok (.iadd, 1) := by decide +kernel
theorem dL_law_350 : decode cL_law 350 = .ok (.iaload, 1) := by decide +kernel
theorem dL_law_351 : decode cL_law 351 = .ok (.invokevirtual 47, 3) := by decide +kernel
theorem dL_law_354 : decode cL_law 354 = .ok (.if_icmp .eq 5, 3) := by decide +kernel
theorem dL_law_357 : decode cL_law 357 = .ok (.iconst 0, 1) := by decide +kernel
theorem dL_law_358 : decode cL_law 358 = .ok (.ireturn, 1) := by decide +kernel
theorem dL_law_359 : decode cL_law 359 = .ok (.iinc 3 4, 3) := by decide +kernel
theorem dL_law_362 : decode cL_law 362 = .ok (.goto (-344), 3) := by decide +kernel
theorem dL_law_365 : decode cL_law 365 = .ok (.iconst 1, 1) := by decide +kernel
theorem dL_law_366 : decode cL_law 366 = .ok (.ireturn, 1) := by decide +kernel
end
section
set_option maxRecDepth 20000 in
theorem ggX0_bit_X0_at : GoodIn wsX0_bit wsX0_at := goodIn_r _ [5, 6, 7, 8, 9] (by decide +kernel) (by decide +kernel)
set_option maxRecDepth 20000 in
theorem gX0_bit_X0_at : GoodIn wsX0_bit (wsV RX0 19 RX0 yX0_at wsX0_at) := goodIn_app (goodIn_of _ (by decide +kernel)) ggX0_bit_X0_at
set_option maxRecDepth 20000 in
theorem ggX2_init_X3_init : GoodIn wsX2_init wsX3_init := goodIn_r _ [9, 10, 11, 12] (by decide +kernel) (by decide +kernel)
set_option maxRecDepth 20000 in
theorem gX2_init_X3_init_n5 : GoodIn wsX2_init (wsX3_init) := ggX2_init_X3_init
set_option maxRecDepth 20000 in
theorem ggX2_load_X0_at : GoodIn wsX2_load wsX0_at := goodIn_r _ [9, 10, 11, 26, 27] (by decide +kernel) (by decide +kernel)
set_option maxRecDepth 20000 in
theorem gX2_load_X0_at : GoodIn wsX2_load (wsV RX2 28 RX0 yX0_at wsX0_at) := goodIn_app (goodIn_of _ (by decide +kernel)) ggX2_load_X0_at
set_option maxRecDepth 20000 in
theorem ggX2_load_X2_exchange : GoodIn wsX2_load wsX2_exchange := goodIn_r _ [16, 1, 21, 22, 23, 24, 25] (by decide +kernel) (by decide +kernel)
set_option maxRecDepth 20000 in
theorem gX2_load_X2_exchange : GoodIn wsX2_load (wsV RX2 34 RX2 yX2_exchange wsX2_exchange) := goodIn_app (goodIn_of _ (by decide +kernel)) ggX2_load_X2_exchange
set_option maxRecDepth 20000 in
theorem ggX2_load_X0_size : GoodIn wsX2_load wsX0_size := goodIn_r _ [20, 10, 26, 27] (by decide +kernel) (by decide +kernel)
set_option maxRecDepth 20000 in
theorem gX2_load_X0_size : GoodIn wsX2_load (wsV RX2 38 RX0 yX0_size wsX0_size) := goodIn_app (goodIn_of _ (by decide +kernel)) ggX2_load_X0_size
set_option maxRecDepth 20000 in
theorem ggX2_nextBit_X2_nextByte : GoodIn wsX2_nextBit wsX2_nextByte := goodIn_r _ [7, 8, 9, 10, 11, 12, 13, 6, 14, 15, 16, 17, 18, 19] (by decide +kernel) (by decide +kernel)
set_option maxRecDepth 20000 in
theorem gX2_nextBit_X2_nextByte : GoodIn wsX2_nextBit (wsV RX2 42 RX2 yX2_nextByte wsX2_nextByte) := goodIn_app (goodIn_of _ (by decide +kernel)) ggX2_nextBit_X2_nextByte
set_option maxRecDepth 20000 in
theorem ggX2_nextByte_X2_exchange : GoodIn wsX2_nextByte wsX2_exchange := goodIn_r _ [8, 3, 9, 10, 11, 12, 13] (by decide +kernel) (by decide +kernel)
set_option maxRecDepth 20000 in
theorem gX2_nextByte_X2_exchange : GoodIn wsX2_nextByte (wsV RX2 34 RX2 yX2_exchange wsX2_exchange) := goodIn_app (goodIn_of _ (by decide +kernel)) ggX2_nextByte_X2_exchange
set_option maxRecDepth 20000 in
theorem ggX4_init_X3_init : GoodIn wsX4_init wsX3_init := goodIn_r _ [9, 10, 11, 12] (by decide +kernel) (by decide +kernel)
set_option maxRecDepth 20000 in
theorem gX4_init_X3_init_n1 : GoodIn wsX4_init (wsX3_init) := ggX4_init_X3_init
set_option maxRecDepth 20000 in
theorem ggX4_init_X1_init : GoodIn wsX4_init wsX1_init := goodIn_r _ [15, 16, 11, 12, 17, 18, 19, 20] (by decide +kernel) (by decide +kernel)
set_option maxRecDepth 20000 in
theorem gX4_init_X1_init : GoodIn wsX4_init (wsX1_init) := ggX4_init_X1_init
set_option maxRecDepth 20000 in
theorem ggX4_load_X1_clear : GoodIn wsX4_load wsX1_clear := goodIn_r _ [8, 9, 10, 42, 43] (by decide +kernel) (by decide +kernel)
set_option maxRecDepth 20000 in
theorem gX4_load_X1_clear : GoodIn wsX4_load (wsV RX4 22 RX1 yX1_clear wsX1_clear) := goodIn_app (goodIn_of _ (by decide +kernel)) ggX4_load_X1_clear
set_option maxRecDepth 20000 in
theorem ggX4_load_X0_bit : GoodIn wsX4_load wsX0_bit := goodIn_r _ [15, 16, 17, 18, 14, 19, 20, 21, 44, 45] (by decide +kernel) (by decide +kernel)
set_option maxRecDepth 20000 in
theorem gX4_load_X0_bit : GoodIn wsX4_load (wsV RX4 25 RX0 yX0_bit wsX0_bit) := goodIn_app (goodIn_of _ (by decide +kernel)) ggX4_load_X0_bit
set_option maxRecDepth 20000 in
theorem ggX4_load_X1_add : GoodIn wsX4_load wsX1_add := goodIn_r _ [25, 9, 10, 42, 43] (by decide +kernel) (by decide +kernel)
set_option maxRecDepth 20000 in
theorem gX4_load_X1_add : GoodIn wsX4_load (wsV RX4 31 RX1 yX1_add wsX1_add) := goodIn_app (goodIn_of _ (by decide +kernel)) ggX4_load_X1_add
set_option maxRecDepth 20000 in
theorem ggX4_load_X4_nextBit : GoodIn wsX4_load wsX4_nextBit := goodIn_r _ [30, 1, 2, 3, 31, 32, 33, 7, 34, 9, 10, 35, 36, 37, 38, 39, 40, 41, 42, 43] (by decide +kernel) (by decide +kernel)
set_option maxRecDepth 20000 in
theorem gX4_load_X4_nextBit : GoodIn wsX4_load (wsV RX4 35 RX4 yX4_nextBit wsX4_nextBit) := goodIn_app (goodIn_of _ (by decide +kernel)) ggX4_load_X4_nextBit
set_option maxRecDepth 20000 in
theorem ggX4_nextBit_X1_at : GoodIn wsX4_nextBit wsX1_at := goodIn_r _ [8, 9, 10, 18, 19] (by decide +kernel) (by decide +kernel)
set_option maxRecDepth 20000 in
theorem gX4_nextBit_X1_at : GoodIn wsX4_nextBit (wsV RX4 39 RX1 yX1_at wsX1_at) := goodIn_app (goodIn_of _ (by decide +kernel)) ggX4_nextBit_X1_at
set_option maxRecDepth 20000 in
theorem ggX4_nextBit_X1_moveUp : GoodIn wsX4_nextBit wsX1_moveUp := goodIn_r _ [14, 10, 9, 18, 19] (by decide +kernel) (by decide +kernel)
set_option maxRecDepth 20000 in
theorem gX4_nextBit_X1_moveUp : GoodIn wsX4_nextBit (wsV RX4 42 RX1 yX1_moveUp wsX1_moveUp) := goodIn_app (goodIn_of _ (by decide +kernel)) ggX4_nextBit_X1_moveUp
set_option maxRecDepth 20000 in
theorem ggX5_init_X3_init : GoodIn wsX5_init wsX3_init := goodIn_r _ [9, 10, 11, 12] (by decide +kernel) (by decide +kernel)
set_option maxRecDepth 20000 in
theorem gX5_init_X3_init_n1 : GoodIn wsX5_init (wsX3_init) := ggX5_init_X3_init
set_option maxRecDepth 20000 in
theorem ggX5_init_X1_init : GoodIn wsX5_init wsX1_init := goodIn_r _ [15, 16, 11, 12, 17, 18, 19, 20] (by decide +kernel) (by decide +kernel)
set_option maxRecDepth 20000 in
theorem gX5_init_X1_init : GoodIn wsX5_init (wsX1_init) := ggX5_init_X1_init
set_option maxRecDepth 20000 in
theorem ggX5_load_X1_clear : GoodIn wsX5_load wsX1_clear := goodIn_r _ [8, 9, 10, 58, 59] (by decide +kernel) (by decide +kernel)
set_option maxRecDepth 20000 in
theorem gX5_load_X1_clear : GoodIn wsX5_load (wsV RX5 22 RX1 yX1_clear wsX1_clear) := goodIn_app (goodIn_of _ (by decide +kernel)) ggX5_load_X1_clear
set_option maxRecDepth 20000 in
theorem ggX5_load_X0_bit : GoodIn wsX5_load wsX0_bit := goodIn_r _ [15, 16, 17, 18, 14, 19, 20, 21, 60, 61] (by decide +kernel) (by decide +kernel)
set_option maxRecDepth 20000 in
theorem gX5_load_X0_bit : GoodIn wsX5_load (wsV RX5 25 RX0 yX0_bit wsX0_bit) := goodIn_app (goodIn_of _ (by decide +kernel)) ggX5_load_X0_bit
set_option maxRecDepth 20000 in
theorem ggX5_load_X5_feed : GoodIn wsX5_load wsX5_feed := goodIn_r _ [26, 1, 2, 3, 27, 28, 29, 25, 30, 31, 32, 33, 7, 34, 9, 10, 35, 36, 37, 38, 39, 40, 41, 42, 43, 44, 45, 46, 47, 48, 49, 50, 55, 56, 57, 58, 59] (by decide +kernel) (by decide +kernel)
set_option maxRecDepth 20000 in
theorem gX5_load_X5_feed : GoodIn wsX5_load (wsV RX5 31 RX5 yX5_feed wsX5_feed) := goodIn_app (goodIn_of _ (by decide +kernel)) ggX5_load_X5_feed
set_option maxRecDepth 20000 in
theorem ggX5_load_X5_nextBit : GoodIn wsX5_load wsX5_nextBit := goodIn_r _ [54, 1, 2, 3, 31, 32, 33, 7, 34, 9, 10, 27, 28, 29, 25, 30, 35, 36, 37, 38, 39, 40, 41, 42, 43, 44, 45, 46, 55, 56, 57, 58, 59] (by decide +kernel) (by decide +kernel)
set_option maxRecDepth 20000 in
theorem gX5_load_X5_nextBit : GoodIn wsX5_load (wsV RX5 35 RX5 yX5_nextBit wsX5_nextBit) := goodIn_app (goodIn_of _ (by decide +kernel)) ggX5_load_X5_nextBit
set_option maxRecDepth 20000 in
theorem ggX5_nextBit_X1_at : GoodIn wsX5_nextBit wsX1_at := goodIn_r _ [8, 9, 10, 31, 32] (by decide +kernel) (by decide +kernel)
set_option maxRecDepth 20000 in
theorem gX5_nextBit_X1_at : GoodIn wsX5_nextBit (wsV RX5 39 RX1 yX1_at wsX1_at) := goodIn_app (goodIn_of _ (by decide +kernel)) ggX5_nextBit_X1_at
set_option maxRecDepth 20000 in
theorem ggX5_nextBit_X5_goX : GoodIn wsX5_nextBit wsX5_goX := goodIn_r _ [15, 1, 4, 5, 6, 7, 8, 9, 10, 16, 17, 18, 19, 28, 29, 30, 31, 32] (by decide +kernel) (by decide +kernel)
set_option maxRecDepth 20000 in
theorem gX5_nextBit_X5_goX : GoodIn wsX5_nextBit (wsV RX5 42 RX5 yX5_goX wsX5_goX) := goodIn_app (goodIn_of _ (by decide +kernel)) ggX5_nextBit_X5_goX
set_option maxRecDepth 20000 in
theorem ggX5_nextBit_X5_goY : GoodIn wsX5_nextBit wsX5_goY := goodIn_r _ [23, 2, 4, 5, 6, 7, 8, 9, 10, 16, 17, 18, 19, 28, 29, 30, 31, 32] (by decide +kernel) (by decide +kernel)
set_option maxRecDepth 20000 in
theorem gX5_nextBit_X5_goY : GoodIn wsX5_nextBit (wsV RX5 45 RX5 yX5_goY wsX5_goY) := goodIn_app (goodIn_of _ (by decide +kernel)) ggX5_nextBit_X5_goY
set_option maxRecDepth 20000 in
theorem ggX5_nextBit_X5_goZ : GoodIn wsX5_nextBit wsX5_goZ := goodIn_r _ [27, 3, 4, 5, 6, 7, 8, 9, 10, 16, 17, 18, 19, 28, 29, 30, 31, 32] (by decide +kernel) (by decide +kernel)
set_option maxRecDepth 20000 in
theorem gX5_nextBit_X5_goZ : GoodIn wsX5_nextBit (wsV RX5 48 RX5 yX5_goZ wsX5_goZ) := goodIn_app (goodIn_of _ (by decide +kernel)) ggX5_nextBit_X5_goZ
set_option maxRecDepth 20000 in
theorem ggX5_feed_X5_goX : GoodIn wsX5_feed wsX5_goX := goodIn_r _ [8, 1, 9, 10, 11, 12, 13, 14, 15, 16, 17, 18, 19, 32, 33, 34, 35, 36] (by decide +kernel) (by decide +kernel)
set_option maxRecDepth 20000 in
theorem gX5_feed_X5_goX : GoodIn wsX5_feed (wsV RX5 42 RX5 yX5_goX wsX5_goX) := goodIn_app (goodIn_of _ (by decide +kernel)) ggX5_feed_X5_goX
set_option maxRecDepth 20000 in
theorem ggX5_feed_X5_goY : GoodIn wsX5_feed wsX5_goY := goodIn_r _ [23, 2, 9, 10, 11, 12, 13, 14, 15, 16, 17, 18, 19, 32, 33, 34, 35, 36] (by decide +kernel) (by decide +kernel)
set_option maxRecDepth 20000 in
theorem gX5_feed_X5_goY : GoodIn wsX5_feed (wsV RX5 45 RX5 yX5_goY wsX5_goY) := goodIn_app (goodIn_of _ (by decide +kernel)) ggX5_feed_X5_goY
set_option maxRecDepth 20000 in
theorem ggX5_feed_X5_goZ : GoodIn wsX5_feed wsX5_goZ := goodIn_r _ [27, 3, 9, 10, 11, 12, 13, 14, 15, 16, 17, 18, 19, 32, 33, 34, 35, 36] (by decide +kernel) (by decide +kernel)
set_option maxRecDepth 20000 in
theorem gX5_feed_X5_goZ : GoodIn wsX5_feed (wsV RX5 48 RX5 yX5_goZ wsX5_goZ) := goodIn_app (goodIn_of _ (by decide +kernel)) ggX5_feed_X5_goZ
set_option maxRecDepth 20000 in
theorem ggX5_feed_X1_add : GoodIn wsX5_feed wsX1_add := goodIn_r _ [31, 14, 15, 35, 36] (by decide +kernel) (by decide +kernel)
set_option maxRecDepth 20000 in
theorem gX5_feed_X1_add : GoodIn wsX5_feed (wsV RX5 51 RX1 yX1_add wsX1_add) := goodIn_app (goodIn_of _ (by decide +kernel)) ggX5_feed_X1_add
set_option maxRecDepth 20000 in
theorem ggX5_goX_X1_at : GoodIn wsX5_goX wsX1_at := goodIn_r _ [6, 7, 8, 16, 17] (by decide +kernel) (by decide +kernel)
set_option maxRecDepth 20000 in
theorem gX5_goX_X1_at : GoodIn wsX5_goX (wsV RX5 39 RX1 yX1_at wsX1_at) := goodIn_app (goodIn_of _ (by decide +kernel)) ggX5_goX_X1_at
set_option maxRecDepth 20000 in
theorem ggX5_goX_X1_moveUp : GoodIn wsX5_goX wsX1_moveUp := goodIn_r _ [12, 8, 7, 16, 17] (by decide +kernel) (by decide +kernel)
set_option maxRecDepth 20000 in
theorem gX5_goX_X1_moveUp : GoodIn wsX5_goX (wsV RX5 55 RX1 yX1_moveUp wsX1_moveUp) := goodIn_app (goodIn_of _ (by decide +kernel)) ggX5_goX_X1_moveUp
set_option maxRecDepth 20000 in
theorem ggX5_goY_X1_at : GoodIn wsX5_goY wsX1_at := goodIn_r _ [6, 7, 8, 16, 17] (by decide +kernel) (by decide +kernel)
set_option maxRecDepth 20000 in
theorem gX5_goY_X1_at : GoodIn wsX5_goY (wsV RX5 39 RX1 yX1_at wsX1_at) := goodIn_app (goodIn_of _ (by decide +kernel)) ggX5_goY_X1_at
set_option maxRecDepth 20000 in
theorem ggX5_goY_X1_moveUp : GoodIn wsX5_goY wsX1_moveUp := goodIn_r _ [12, 8, 7, 16, 17] (by decide +kernel) (by decide +kernel)
set_option maxRecDepth 20000 in
theorem gX5_goY_X1_moveUp : GoodIn wsX5_goY (wsV RX5 55 RX1 yX1_moveUp wsX1_moveUp) := goodIn_app (goodIn_of _ (by decide +kernel)) ggX5_goY_X1_moveUp
set_option maxRecDepth 20000 in
theorem ggX5_goZ_X1_at : GoodIn wsX5_goZ wsX1_at := goodIn_r _ [6, 7, 8, 16, 17] (by decide +kernel) (by decide +kernel)
set_option maxRecDepth 20000 in
theorem gX5_goZ_X1_at : GoodIn wsX5_goZ (wsV RX5 39 RX1 yX1_at wsX1_at) := goodIn_app (goodIn_of _ (by decide +kernel)) ggX5_goZ_X1_at
set_option maxRecDepth 20000 in
theorem ggX5_goZ_X1_moveUp : GoodIn wsX5_goZ wsX1_moveUp := goodIn_r _ [12, 8, 7, 16, 17] (by decide +kernel) (by decide +kernel)
set_option maxRecDepth 20000 in
theorem gX5_goZ_X1_moveUp : GoodIn wsX5_goZ (wsV RX5 55 RX1 yX1_moveUp wsX1_moveUp) := goodIn_app (goodIn_of _ (by decide +kernel)) ggX5_goZ_X1_moveUp
set_option maxRecDepth 20000 in
theorem ggX6_init_X3_init : GoodIn wsX6_init wsX3_init := goodIn_r _ [8, 9, 10, 11] (by decide +kernel) (by decide +kernel)
set_option maxRecDepth 20000 in
theorem gX6_init_X3_init_n1 : GoodIn wsX6_init (wsX3_init) := ggX6_init_X3_init
set_option maxRecDepth 20000 in
theorem ggX6_init_X1_init : GoodIn wsX6_init wsX1_init := goodIn_r _ [14, 15, 10, 11, 16, 17, 18, 19] (by decide +kernel) (by decide +kernel)
set_option maxRecDepth 20000 in
theorem gX6_init_X1_init : GoodIn wsX6_init (wsX1_init) := ggX6_init_X1_init
set_option maxRecDepth 20000 in
theorem ggX6_load_X1_clear : GoodIn wsX6_load wsX1_clear := goodIn_r _ [7, 8, 9, 52, 53] (by decide +kernel) (by decide +kernel)
set_option maxRecDepth 20000 in
theorem gX6_load_X1_clear : GoodIn wsX6_load (wsV RX6 19 RX1 yX1_clear wsX1_clear) := goodIn_app (goodIn_of _ (by decide +kernel)) ggX6_load_X1_clear
set_option maxRecDepth 20000 in
theorem ggX6_load_X0_bit : GoodIn wsX6_load wsX0_bit := goodIn_r _ [14, 15, 16, 17, 13, 18, 19, 20, 54, 55] (by decide +kernel) (by decide +kernel)
set_option maxRecDepth 20000 in
theorem gX6_load_X0_bit : GoodIn wsX6_load (wsV RX6 22 RX0 yX0_bit wsX0_bit) := goodIn_app (goodIn_of _ (by decide +kernel)) ggX6_load_X0_bit
set_option maxRecDepth 20000 in
theorem ggX6_load_X1_add : GoodIn wsX6_load wsX1_add := goodIn_r _ [24, 8, 9, 52, 53] (by decide +kernel) (by decide +kernel)
set_option maxRecDepth 20000 in
theorem gX6_load_X1_add : GoodIn wsX6_load (wsV RX6 28 RX1 yX1_add wsX1_add) := goodIn_app (goodIn_of _ (by decide +kernel)) ggX6_load_X1_add
set_option maxRecDepth 20000 in
theorem ggX6_load_X6_output : GoodIn wsX6_load wsX6_output := goodIn_r _ [29, 1, 2, 30, 31, 32, 6, 33, 8, 9, 50, 51, 52, 53] (by decide +kernel) (by decide +kernel)
set_option maxRecDepth 20000 in
theorem gX6_load_X6_output : GoodIn wsX6_load (wsV RX6 32 RX6 yX6_output wsX6_output) := goodIn_app (goodIn_of _ (by decide +kernel)) ggX6_load_X6_output
set_option maxRecDepth 20000 in
theorem ggX6_load_X6_move : GoodIn wsX6_load wsX6_move := goodIn_r _ [37, 2, 1, 38, 39, 40, 28, 41, 30, 31, 32, 6, 33, 8, 9, 42, 43, 44, 45, 46, 47, 48, 49, 50, 51, 52, 53] (by decide +kernel) (by decide +kernel)
set_option maxRecDepth 20000 in
theorem gX6_load_X6_move : GoodIn wsX6_load (wsV RX6 36 RX6 yX6_move wsX6_move) := goodIn_app (goodIn_of _ (by decide +kernel)) ggX6_load_X6_move
set_option maxRecDepth 20000 in
theorem ggX6_nextBit_X6_output : GoodIn wsX6_nextBit wsX6_output := goodIn_r _ [5, 6, 7, 8, 9, 10, 11, 12, 13, 14, 31, 32, 33, 34] (by decide +kernel) (by decide +kernel)
set_option maxRecDepth 20000 in
theorem gX6_nextBit_X6_output : GoodIn wsX6_nextBit (wsV RX6 32 RX6 yX6_output wsX6_output) := goodIn_app (goodIn_of _ (by decide +kernel)) ggX6_nextBit_X6_output
set_option maxRecDepth 20000 in
theorem ggX6_nextBit_X6_move : GoodIn wsX6_nextBit wsX6_move := goodIn_r _ [18, 7, 6, 19, 20, 21, 4, 22, 8, 9, 10, 11, 12, 13, 14, 23, 24, 25, 26, 27, 28, 29, 30, 31, 32, 33, 34] (by decide +kernel) (by decide +kernel)
set_option maxRecDepth 20000 in
theorem gX6_nextBit_X6_move : GoodIn wsX6_nextBit (wsV RX6 36 RX6 yX6_move wsX6_move) := goodIn_app (goodIn_of _ (by decide +kernel)) ggX6_nextBit_X6_move
set_option maxRecDepth 20000 in
theorem ggX6_output_X1_at : GoodIn wsX6_output wsX1_at := goodIn_r _ [7, 8, 9, 12, 13] (by decide +kernel) (by decide +kernel)
set_option maxRecDepth 20000 in
theorem gX6_output_X1_at : GoodIn wsX6_output (wsV RX6 40 RX1 yX1_at wsX1_at) := goodIn_app (goodIn_of _ (by decide +kernel)) ggX6_output_X1_at
set_option maxRecDepth 20000 in
theorem ggX6_move_X6_newBitOfS : GoodIn wsX6_move wsX6_newBitOfS := goodIn_r _ [7, 1, 8, 9, 10, 11, 12, 13, 14, 23, 24, 25, 26] (by decide +kernel) (by decide +kernel)
set_option maxRecDepth 20000 in
theorem gX6_move_X6_newBitOfS : GoodIn wsX6_move (wsV RX6 43 RX6 yX6_newBitOfS wsX6_newBitOfS) := goodIn_app (goodIn_of _ (by decide +kernel)) ggX6_move_X6_newBitOfS
set_option maxRecDepth 20000 in
theorem ggX6_move_X6_newBitOfB : GoodIn wsX6_move wsX6_newBitOfB := goodIn_r _ [18, 1, 2, 8, 9, 10, 11, 12, 13, 14, 23, 24, 25, 26] (by decide +kernel) (by decide +kernel)
set_option maxRecDepth 20000 in
theorem gX6_move_X6_newBitOfB : GoodIn wsX6_move (wsV RX6 46 RX6 yX6_newBitOfB wsX6_newBitOfB) := goodIn_app (goodIn_of _ (by decide +kernel)) ggX6_move_X6_newBitOfB
set_option maxRecDepth 20000 in
theorem ggX6_move_X1_moveDown : GoodIn wsX6_move wsX1_moveDown := goodIn_r _ [22, 13, 14, 25, 26] (by decide +kernel) (by decide +kernel)
set_option maxRecDepth 20000 in
theorem gX6_move_X1_moveDown : GoodIn wsX6_move (wsV RX6 49 RX1 yX1_moveDown wsX1_moveDown) := goodIn_app (goodIn_of _ (by decide +kernel)) ggX6_move_X1_moveDown
set_option maxRecDepth 20000 in
theorem ggX6_newBitOfS_X1_at : GoodIn wsX6_newBitOfS wsX1_at := goodIn_r _ [6, 7, 8, 11, 12] (by decide +kernel) (by decide +kernel)
set_option maxRecDepth 20000 in
theorem gX6_newBitOfS_X1_at : GoodIn wsX6_newBitOfS (wsV RX6 40 RX1 yX1_at wsX1_at) := goodIn_app (goodIn_of _ (by decide +kernel)) ggX6_newBitOfS_X1_at
set_option maxRecDepth 20000 in
theorem ggX6_newBitOfB_X1_at : GoodIn wsX6_newBitOfB wsX1_at := goodIn_r _ [7, 8, 9, 12, 13] (by decide +kernel) (by decide +kernel)
set_option maxRecDepth 20000 in
theorem gX6_newBitOfB_X1_at : GoodIn wsX6_newBitOfB (wsV RX6 40 RX1 yX1_at wsX1_at) := goodIn_app (goodIn_of _ (by decide +kernel)) ggX6_newBitOfB_X1_at
set_option maxRecDepth 20000 in
theorem ggX7_init_X0_init : GoodIn wsX7_init wsX0_init := goodIn_r _ [28, 29, 2, 3, 30, 31, 32, 75, 76] (by decide +kernel) (by decide +kernel)
set_option maxRecDepth 20000 in
theorem gX7_init_X0_init : GoodIn wsX7_init (wsX0_init) := ggX7_init_X0_init
set_option maxRecDepth 20000 in
theorem ggX7_init_X4_init : GoodIn wsX7_init wsX4_init := goodIn_r _ [35, 36, 37, 38, 39, 40, 41, 42, 43, 44, 45, 2, 3, 46, 47, 48, 49, 50, 51, 96, 97, 83, 84, 85] (by decide +kernel) (by decide +kernel)
set_option maxRecDepth 20000 in
theorem gX7_init_X4_init : GoodIn wsX7_init (wsX4_init) := ggX7_init_X4_init
set_option maxRecDepth 20000 in
theorem ggX7_init_X6_init : GoodIn wsX7_init wsX6_init := goodIn_r _ [54, 55, 37, 38, 56, 57, 42, 43, 44, 45, 2, 3, 58, 47, 48, 49, 50, 51, 96, 97, 86, 87] (by decide +kernel) (by decide +kernel)
set_option maxRecDepth 20000 in
theorem gX7_init_X6_init : GoodIn wsX7_init (wsX6_init) := ggX7_init_X6_init
set_option maxRecDepth 20000 in
theorem ggX7_init_X5_init : GoodIn wsX7_init wsX5_init := goodIn_r _ [61, 62, 37, 38, 63, 64, 65, 42, 43, 44, 45, 2, 3, 66, 47, 48, 49, 50, 51, 96, 97, 88, 89, 90] (by decide +kernel) (by decide +kernel)
set_option maxRecDepth 20000 in
theorem gX7_init_X5_init : GoodIn wsX7_init (wsX5_init) := ggX7_init_X5_init
set_option maxRecDepth 20000 in
theorem ggX7_init_X2_init : GoodIn wsX7_init wsX2_init := goodIn_r _ [69, 30, 70, 71, 72, 73, 74, 42, 43, 44, 45, 2, 3, 91, 92, 93, 94, 95] (by decide +kernel) (by decide +kernel)
set_option maxRecDepth 20000 in
theorem gX7_init_X2_init : GoodIn wsX7_init (wsX2_init) := ggX7_init_X2_init
set_option maxRecDepth 20000 in
theorem ggX7_key_X0_append : GoodIn wsX7_key wsX0_append := goodIn_r _ [6, 7, 8, 15, 16] (by decide +kernel) (by decide +kernel)
set_option maxRecDepth 20000 in
theorem gX7_key_X0_append : GoodIn wsX7_key (wsV RX7 50 RX0 yX0_append wsX0_append) := goodIn_app (goodIn_of _ (by decide +kernel)) ggX7_key_X0_append
set_option maxRecDepth 20000 in
theorem ggX7_start_X0_append : GoodIn wsX7_start wsX0_append := goodIn_r _ [6, 7, 8, 15, 16] (by decide +kernel) (by decide +kernel)
set_option maxRecDepth 20000 in
theorem gX7_start_X0_append : GoodIn wsX7_start (wsV RX7 50 RX0 yX0_append wsX0_append) := goodIn_app (goodIn_of _ (by decide +kernel)) ggX7_start_X0_append
set_option maxRecDepth 20000 in
theorem ggX7_begin_X0_size : GoodIn wsX7_begin wsX0_size := goodIn_r _ [11, 12, 154, 155] (by decide +kernel) (by decide +kernel)
set_option maxRecDepth 20000 in
theorem gX7_begin_X0_size : GoodIn wsX7_begin (wsV RX7 54 RX0 yX0_size wsX0_size) := goodIn_app (goodIn_of _ (by decide +kernel)) ggX7_begin_X0_size
set_option maxRecDepth 20000 in
theorem ggX7_begin_X2_takes : GoodIn wsX7_begin wsX2_takes := goodIn_r _ [18] (by decide +kernel) (by decide +kernel)
set_option maxRecDepth 20000 in
theorem gX7_begin_X2_takes_u58X2 : GoodIn wsX7_begin (va_wsU RX7 58 RX2 "BitStreams$Machine" ⟨"BitStreams$Machine", "takes", "(II)Z"⟩ yX2_takes wsX2_takes) := goodIn_app (goodIn_of _ (by decide +kernel)) ggX7_begin_X2_takes
set_option maxRecDepth 20000 in
theorem ggX7_begin_X4_takes : GoodIn wsX7_begin wsX4_takes := goodIn_r _ [22] (by decide +kernel) (by decide +kernel)
set_option maxRecDepth 20000 in
theorem gX7_begin_X4_takes_u58X4 : GoodIn wsX7_begin (va_wsU RX7 58 RX4 "BitStreams$Machine" ⟨"BitStreams$Machine", "takes", "(II)Z"⟩ yX4_takes wsX4_takes) := goodIn_app (goodIn_of _ (by decide +kernel)) ggX7_begin_X4_takes
set_option maxRecDepth 20000 in
theorem ggX7_begin_X5_takes : GoodIn wsX7_begin wsX5_takes := goodIn_r _ [26] (by decide +kernel) (by decide +kernel)
set_option maxRecDepth 20000 in
theorem gX7_begin_X5_takes_u58X5 : GoodIn wsX7_begin (va_wsU RX7 58 RX5 "BitStreams$Machine" ⟨"BitStreams$Machine", "takes", "(II)Z"⟩ yX5_takes wsX5_takes) := goodIn_app (goodIn_of _ (by decide +kernel)) ggX7_begin_X5_takes
set_option maxRecDepth 20000 in
theorem ggX7_begin_X6_takes : GoodIn wsX7_begin wsX6_takes := goodIn_r _ [30] (by decide +kernel) (by decide +kernel)
set_option maxRecDepth 20000 in
theorem gX7_begin_X6_takes_u58X6 : GoodIn wsX7_begin (va_wsU RX7 58 RX6 "BitStreams$Machine" ⟨"BitStreams$Machine", "takes", "(II)Z"⟩ yX6_takes wsX6_takes) := goodIn_app (goodIn_of _ (by decide +kernel)) ggX7_begin_X6_takes
set_option maxRecDepth 20000 in
theorem ggX7_begin_X2_load : GoodIn wsX7_begin wsX2_load := goodIn_r _ [35, 36, 37, 38, 39, 40, 41, 42, 10, 43, 12, 44, 45, 46, 47, 17, 48, 49, 8, 9, 11, 156, 157, 158, 159, 160, 154, 155] (by decide +kernel) (by decide +kernel)
set_option maxRecDepth 20000 in
theorem gX7_begin_X2_load_u62X2 : GoodIn wsX7_begin (va_wsU RX7 62 RX2 "BitStreams$Machine" ⟨"BitStreams$Machine", "load", "(LBitStreams$Bytes;LBitStreams$Bytes;)V"⟩ yX2_load wsX2_load) := goodIn_app (goodIn_of _ (by decide +kernel)) ggX7_begin_X2_load
set_option maxRecDepth 20000 in
theorem ggX7_begin_X4_load : GoodIn wsX7_begin wsX4_load := goodIn_r _ [52, 53, 54, 55, 56, 57, 58, 59, 60, 61, 62, 63, 64, 65, 10, 66, 67, 41, 42, 43, 12, 44, 68, 69, 70, 71, 72, 73, 74, 21, 75, 76, 77, 78, 79, 80, 81, 82, 83, 161, 162, 163, 164, 165, 154, 155] (by decide +kernel) (by decide +kernel)
set_option maxRecDepth 20000 in
theorem gX7_begin_X4_load_u62X4 : GoodIn wsX7_begin (va_wsU RX7 62 RX4 "BitStreams$Machine" ⟨"BitStreams$Machine", "load", "(LBitStreams$Bytes;LBitStreams$Bytes;)V"⟩ yX4_load wsX4_load) := goodIn_app (goodIn_of _ (by decide +kernel)) ggX7_begin_X4_load
set_option maxRecDepth 20000 in
theorem ggX7_begin_X5_load : GoodIn wsX7_begin wsX5_load := goodIn_r _ [86, 87, 88, 89, 90, 57, 58, 59, 60, 61, 62, 91, 64, 65, 10, 66, 67, 41, 42, 43, 12, 44, 92, 93, 94, 25, 95, 96, 97, 98, 99, 100, 77, 78, 79, 101, 81, 82, 83, 102, 103, 104, 105, 106, 107, 108, 109, 110, 69, 70, 71, 111, 112, 113, 114, 166, 167, 168, 164, 165, 154, 155] (by decide +kernel) (by decide +kernel)
set_option maxRecDepth 20000 in
theorem gX7_begin_X5_load_u62X5 : GoodIn wsX7_begin (va_wsU RX7 62 RX5 "BitStreams$Machine" ⟨"BitStreams$Machine", "load", "(LBitStreams$Bytes;LBitStreams$Bytes;)V"⟩ yX5_load wsX5_load) := goodIn_app (goodIn_of _ (by decide +kernel)) ggX7_begin_X5_load
set_option maxRecDepth 20000 in
theorem ggX7_begin_X6_load : GoodIn wsX7_begin wsX6_load := goodIn_r _ [117, 118, 119, 120, 57, 58, 59, 60, 61, 62, 121, 64, 65, 10, 66, 67, 41, 42, 43, 12, 44, 122, 69, 70, 71, 123, 124, 125, 29, 126, 127, 77, 78, 79, 128, 129, 130, 131, 132, 133, 134, 135, 136, 137, 138, 139, 140, 141, 142, 143, 169, 170, 164, 165, 154, 155] (by decide +kernel) (by decide +kernel)
set_option maxRecDepth 20000 in
theorem gX7_begin_X6_load_u62X6 : GoodIn wsX7_begin (va_wsU RX7 62 RX6 "BitStreams$Machine" ⟨"BitStreams$Machine", "load", "(LBitStreams$Bytes;LBitStreams$Bytes;)V"⟩ yX6_load wsX6_load) := goodIn_app (goodIn_of _ (by decide +kernel)) ggX7_begin_X6_load
set_option maxRecDepth 20000 in
theorem ggX7_begin_X0_clear : GoodIn wsX7_begin wsX0_clear := goodIn_r _ [147, 12, 154, 155] (by decide +kernel) (by decide +kernel)
set_option maxRecDepth 20000 in
theorem gX7_begin_X0_clear : GoodIn wsX7_begin (wsV RX7 66 RX0 yX0_clear wsX0_clear) := goodIn_app (goodIn_of _ (by decide +kernel)) ggX7_begin_X0_clear
set_option maxRecDepth 20000 in
theorem ggX7_bits_X7_mix : GoodIn wsX7_bits wsX7_mix := goodIn_r _ [5, 6, 7, 8, 9, 10, 11, 12, 13, 14, 15, 16, 17, 18, 19, 20, 21, 22, 23, 24, 25, 26, 27, 28, 29, 30, 31, 32, 33, 34, 35, 36, 37, 38, 39, 40, 41, 42, 43, 44, 45, 46, 47, 48, 49, 50, 51, 52, 53, 54, 55, 56, 57, 58, 59, 60, 61, 62, 63, 64, 65, 66, 67, 68, 69, 70, 71, 72, 73, 74, 75, 76, 77, 78, 79, 80, 81, 82, 83, 84, 85, 86, 87, 88, 89, 90, 91, 92, 93, 94, 95, 96, 97, 98, 99, 100, 101, 102, 103, 104, 105, 106, 107, 108, 109, 110, 111, 112, 113, 114] (by decide +kernel) (by decide +kernel)
set_option maxRecDepth 20000 in
theorem gX7_bits_X7_mix : GoodIn wsX7_bits (wsV RX7 69 RX7 yX7_mix wsX7_mix) := goodIn_app (goodIn_of _ (by decide +kernel)) ggX7_bits_X7_mix
set_option maxRecDepth 20000 in
theorem ggX7_skip_X2_nextBit : GoodIn wsX7_skip wsX2_nextBit := goodIn_r _ [8, 9, 10, 11, 12, 13, 7, 14, 15, 16, 17, 18, 19, 20, 21, 94, 95, 96, 97, 98] (by decide +kernel) (by decide +kernel)
set_option maxRecDepth 20000 in
theorem gX7_skip_X2_nextBit_u73X2 : GoodIn wsX7_skip (va_wsU RX7 73 RX2 "BitStreams$Machine" ⟨"BitStreams$Machine", "nextBit", "()I"⟩ yX2_nextBit wsX2_nextBit) := goodIn_app (goodIn_of _ (by decide +kernel)) ggX7_skip_X2_nextBit
set_option maxRecDepth 20000 in
theorem ggX7_skip_X4_nextBit : GoodIn wsX7_skip wsX4_nextBit := goodIn_r _ [25, 26, 27, 28, 29, 30, 31, 32, 33, 34, 35, 36, 37, 38, 39, 99, 100, 101, 102, 103] (by decide +kernel) (by decide +kernel)
set_option maxRecDepth 20000 in
theorem gX7_skip_X4_nextBit_u73X4 : GoodIn wsX7_skip (va_wsU RX7 73 RX4 "BitStreams$Machine" ⟨"BitStreams$Machine", "nextBit", "()I"⟩ yX4_nextBit wsX4_nextBit) := goodIn_app (goodIn_of _ (by decide +kernel)) ggX7_skip_X4_nextBit
set_option maxRecDepth 20000 in
theorem ggX7_skip_X5_nextBit : GoodIn wsX7_skip wsX5_nextBit := goodIn_r _ [43, 44, 45, 46, 47, 30, 31, 32, 33, 34, 35, 48, 49, 50, 42, 51, 52, 37, 38, 39, 53, 54, 55, 56, 57, 58, 59, 60, 104, 105, 106, 102, 103] (by decide +kernel) (by decide +kernel)
set_option maxRecDepth 20000 in
theorem gX7_skip_X5_nextBit_u73X5 : GoodIn wsX7_skip (va_wsU RX7 73 RX5 "BitStreams$Machine" ⟨"BitStreams$Machine", "nextBit", "()I"⟩ yX5_nextBit wsX5_nextBit) := goodIn_app (goodIn_of _ (by decide +kernel)) ggX7_skip_X5_nextBit
set_option maxRecDepth 20000 in
theorem ggX7_skip_X6_nextBit : GoodIn wsX7_skip wsX6_nextBit := goodIn_r _ [64, 65, 66, 67, 63, 68, 69, 70, 71, 30, 31, 32, 33, 34, 35, 72, 73, 74, 75, 76, 77, 78, 79, 80, 81, 82, 83, 84, 85, 86, 87, 107, 108, 102, 103] (by decide +kernel) (by decide +kernel)
set_option maxRecDepth 20000 in
theorem gX7_skip_X6_nextBit_u73X6 : GoodIn wsX7_skip (va_wsU RX7 73 RX6 "BitStreams$Machine" ⟨"BitStreams$Machine", "nextBit", "()I"⟩ yX6_nextBit wsX6_nextBit) := goodIn_app (goodIn_of _ (by decide +kernel)) ggX7_skip_X6_nextBit
set_option maxRecDepth 20000 in
theorem ggX7_mix_X2_nextBit : GoodIn wsX7_mix wsX2_nextBit := goodIn_r _ [9, 10, 11, 12, 13, 14, 8, 15, 16, 17, 18, 19, 20, 21, 22, 95, 96, 97, 98, 99] (by decide +kernel) (by decide +kernel)
set_option maxRecDepth 20000 in
theorem gX7_mix_X2_nextBit_u73X2 : GoodIn wsX7_mix (va_wsU RX7 73 RX2 "BitStreams$Machine" ⟨"BitStreams$Machine", "nextBit", "()I"⟩ yX2_nextBit wsX2_nextBit) := goodIn_app (goodIn_of _ (by decide +kernel)) ggX7_mix_X2_nextBit
set_option maxRecDepth 20000 in
theorem ggX7_mix_X4_nextBit : GoodIn wsX7_mix wsX4_nextBit := goodIn_r _ [26, 27, 28, 29, 30, 31, 32, 33, 34, 35, 36, 37, 38, 39, 40, 100, 101, 102, 103, 104] (by decide +kernel) (by decide +kernel)
set_option maxRecDepth 20000 in
theorem gX7_mix_X4_nextBit_u73X4 : GoodIn wsX7_mix (va_wsU RX7 73 RX4 "BitStreams$Machine" ⟨"BitStreams$Machine", "nextBit", "()I"⟩ yX4_nextBit wsX4_nextBit) := goodIn_app (goodIn_of _ (by decide +kernel)) ggX7_mix_X4_nextBit
set_option maxRecDepth 20000 in
theorem ggX7_mix_X5_nextBit : GoodIn wsX7_mix wsX5_nextBit := goodIn_r _ [44, 45, 46, 47, 48, 31, 32, 33, 34, 35, 36, 49, 50, 51, 43, 52, 53, 38, 39, 40, 54, 55, 56, 57, 58, 59, 60, 61, 105, 106, 107, 103, 104] (by decide +kernel) (by decide +kernel)
set_option maxRecDepth 20000 in
theorem gX7_mix_X5_nextBit_u73X5 : GoodIn wsX7_mix (va_wsU RX7 73 RX5 "BitStreams$Machine" ⟨"BitStreams$Machine", "nextBit", "()I"⟩ yX5_nextBit wsX5_nextBit) := goodIn_app (goodIn_of _ (by decide +kernel)) ggX7_mix_X5_nextBit
set_option maxRecDepth 20000 in
theorem ggX7_mix_X6_nextBit : GoodIn wsX7_mix wsX6_nextBit := goodIn_r _ [65, 66, 67, 68, 64, 69, 70, 71, 72, 31, 32, 33, 34, 35, 36, 73, 74, 75, 76, 77, 78, 79, 80, 81, 82, 83, 84, 85, 86, 87, 88, 108, 109, 103, 104] (by decide +kernel) (by decide +kernel)
set_option maxRecDepth 20000 in
theorem gX7_mix_X6_nextBit_u73X6 : GoodIn wsX7_mix (va_wsU RX7 73 RX6 "BitStreams$Machine" ⟨"BitStreams$Machine", "nextBit", "()I"⟩ yX6_nextBit wsX6_nextBit) := goodIn_app (goodIn_of _ (by decide +kernel)) ggX7_mix_X6_nextBit
set_option maxRecDepth 20000 in
theorem ggX7_count_X0_size : GoodIn wsX7_count wsX0_size := goodIn_r _ [9, 10, 17, 18] (by decide +kernel) (by decide +kernel)
set_option maxRecDepth 20000 in
theorem gX7_count_X0_size : GoodIn wsX7_count (wsV RX7 54 RX0 yX0_size wsX0_size) := goodIn_app (goodIn_of _ (by decide +kernel)) ggX7_count_X0_size
set_option maxRecDepth 20000 in
theorem ggX8_up_X8_put : GoodIn wsX8_up wsX8_put := goodIn_r _ [6, 7, 1, 8, 9, 10, 11, 12, 13, 14, 15, 16, 17, 18, 19, 20] (by decide +kernel) (by decide +kernel)
set_option maxRecDepth 20000 in
theorem gX8_up_X8_put : GoodIn wsX8_up (wsV RX8 37 RX8 yX8_put wsX8_put) := goodIn_app (goodIn_of _ (by decide +kernel)) ggX8_up_X8_put
set_option maxRecDepth 20000 in
theorem ggX8_down_X8_put : GoodIn wsX8_down wsX8_put := goodIn_r _ [6, 7, 1, 8, 9, 10, 11, 12, 13, 14, 15, 16, 17, 18, 19, 20] (by decide +kernel) (by decide +kernel)
set_option maxRecDepth 20000 in
theorem gX8_down_X8_put : GoodIn wsX8_down (wsV RX8 37 RX8 yX8_put wsX8_put) := goodIn_app (goodIn_of _ (by decide +kernel)) ggX8_down_X8_put
set_option maxRecDepth 20000 in
theorem ggX8_s_X8_cell : GoodIn wsX8_s wsX8_cell := goodIn_r _ [5, 6, 7, 8, 9, 10, 11, 12, 13, 14, 15, 16, 17, 18, 19, 20] (by decide +kernel) (by decide +kernel)
set_option maxRecDepth 20000 in
theorem gX8_s_X8_cell : GoodIn wsX8_s (wsV RX8 41 RX8 yX8_cell wsX8_cell) := goodIn_app (goodIn_of _ (by decide +kernel)) ggX8_s_X8_cell
set_option maxRecDepth 20000 in
theorem ggX8_stepRings_X8_s : GoodIn wsX8_stepRings wsX8_s := goodIn_r _ [5, 6, 7, 8, 4, 9, 10, 11, 20, 21, 22, 23, 24, 25, 26, 27, 28, 29, 30, 31, 32] (by decide +kernel) (by decide +kernel)
set_option maxRecDepth 20000 in
theorem gX8_stepRings_X8_s : GoodIn wsX8_stepRings (wsV RX8 45 RX8 yX8_s wsX8_s) := goodIn_app (goodIn_of _ (by decide +kernel)) ggX8_stepRings_X8_s
set_option maxRecDepth 20000 in
theorem ggX8_stepRings_X8_up : GoodIn wsX8_stepRings wsX8_up := goodIn_r _ [15, 11, 16, 17, 18, 4, 19, 10, 20, 21, 22, 23, 24, 25, 26, 27, 28, 29, 30, 31, 32] (by decide +kernel) (by decide +kernel)
set_option maxRecDepth 20000 in
theorem gX8_stepRings_X8_up : GoodIn wsX8_stepRings (wsV RX8 49 RX8 yX8_up wsX8_up) := goodIn_app (goodIn_of _ (by decide +kernel)) ggX8_stepRings_X8_up
set_option maxRecDepth 20000 in
theorem ggX8_b_X8_cell : GoodIn wsX8_b wsX8_cell := goodIn_r _ [5, 6, 7, 8, 9, 10, 11, 12, 13, 14, 15, 16, 17, 18, 19, 20] (by decide +kernel) (by decide +kernel)
set_option maxRecDepth 20000 in
theorem gX8_b_X8_cell : GoodIn wsX8_b (wsV RX8 41 RX8 yX8_cell wsX8_cell) := goodIn_app (goodIn_of _ (by decide +kernel)) ggX8_b_X8_cell
set_option maxRecDepth 20000 in
theorem ggX8_t_X8_cell : GoodIn wsX8_t wsX8_cell := goodIn_r _ [5, 6, 7, 8, 9, 10, 11, 12, 13, 14, 15, 16, 17, 18, 19, 20] (by decide +kernel) (by decide +kernel)
set_option maxRecDepth 20000 in
theorem gX8_t_X8_cell : GoodIn wsX8_t (wsV RX8 41 RX8 yX8_cell wsX8_cell) := goodIn_app (goodIn_of _ (by decide +kernel)) ggX8_t_X8_cell
set_option maxRecDepth 20000 in
theorem ggX8_stepTwo_X8_b : GoodIn wsX8_stepTwo wsX8_b := goodIn_r _ [5, 6, 7, 8, 4, 9, 10, 11, 24, 25, 26, 27, 28, 29, 30, 31, 32, 33, 34, 35, 36] (by decide +kernel) (by decide +kernel)
set_option maxRecDepth 20000 in
theorem gX8_stepTwo_X8_b : GoodIn wsX8_stepTwo (wsV RX8 53 RX8 yX8_b wsX8_b) := goodIn_app (goodIn_of _ (by decide +kernel)) ggX8_stepTwo_X8_b
set_option maxRecDepth 20000 in
theorem ggX8_stepTwo_X8_t : GoodIn wsX8_stepTwo wsX8_t := goodIn_r _ [15, 6, 7, 8, 4, 9, 10, 11, 24, 25, 26, 27, 28, 29, 30, 31, 32, 33, 34, 35, 36] (by decide +kernel) (by decide +kernel)
set_option maxRecDepth 20000 in
theorem gX8_stepTwo_X8_t : GoodIn wsX8_stepTwo (wsV RX8 56 RX8 yX8_t wsX8_t) := goodIn_app (goodIn_of _ (by decide +kernel)) ggX8_stepTwo_X8_t
set_option maxRecDepth 20000 in
theorem ggX8_stepTwo_X8_down : GoodIn wsX8_stepTwo wsX8_down := goodIn_r _ [19, 11, 20, 21, 22, 4, 23, 10, 24, 25, 26, 27, 28, 29, 30, 31, 32, 33, 34, 35, 36] (by decide +kernel) (by decide +kernel)
set_option maxRecDepth 20000 in
theorem gX8_stepTwo_X8_down : GoodIn wsX8_stepTwo (wsV RX8 59 RX8 yX8_down wsX8_down) := goodIn_app (goodIn_of _ (by decide +kernel)) ggX8_stepTwo_X8_down
set_option maxRecDepth 20000 in
theorem ggX8_goes_X8_cell : GoodIn wsX8_goes wsX8_cell := goodIn_r _ [5, 6, 7, 16, 17, 18, 19, 20, 21, 22, 23, 24, 25, 26, 27, 28] (by decide +kernel) (by decide +kernel)
set_option maxRecDepth 20000 in
theorem gX8_goes_X8_cell : GoodIn wsX8_goes (wsV RX8 41 RX8 yX8_cell wsX8_cell) := goodIn_app (goodIn_of _ (by decide +kernel)) ggX8_goes_X8_cell
set_option maxRecDepth 20000 in
theorem ggX8_goes_X8_up : GoodIn wsX8_goes wsX8_up := goodIn_r _ [11, 7, 12, 13, 14, 4, 15, 6, 16, 17, 18, 19, 20, 21, 22, 23, 24, 25, 26, 27, 28] (by decide +kernel) (by decide +kernel)
set_option maxRecDepth 20000 in
theorem gX8_goes_X8_up : GoodIn wsX8_goes (wsV RX8 49 RX8 yX8_up wsX8_up) := goodIn_app (goodIn_of _ (by decide +kernel)) ggX8_goes_X8_up
set_option maxRecDepth 20000 in
theorem ggX8_feed_X8_goes : GoodIn wsX8_feed wsX8_goes := goodIn_r _ [5, 6, 7, 8, 4, 9, 10, 11, 12, 13, 14, 15, 16, 17, 18, 19, 20, 21, 22, 23, 24, 25, 26, 27, 28, 29, 30, 31, 32] (by decide +kernel) (by decide +kernel)
set_option maxRecDepth 20000 in
theorem gX8_feed_X8_goes : GoodIn wsX8_feed (wsV RX8 62 RX8 yX8_goes wsX8_goes) := goodIn_app (goodIn_of _ (by decide +kernel)) ggX8_feed_X8_goes
set_option maxRecDepth 20000 in
theorem ggX8_feed_X8_cell : GoodIn wsX8_feed wsX8_cell := goodIn_r _ [9, 10, 11, 20, 21, 22, 23, 24, 25, 26, 27, 28, 29, 30, 31, 32] (by decide +kernel) (by decide +kernel)
set_option maxRecDepth 20000 in
theorem gX8_feed_X8_cell : GoodIn wsX8_feed (wsV RX8 41 RX8 yX8_cell wsX8_cell) := goodIn_app (goodIn_of _ (by decide +kernel)) ggX8_feed_X8_cell
set_option maxRecDepth 20000 in
theorem ggX8_feed_X8_put : GoodIn wsX8_feed wsX8_put := goodIn_r _ [19, 10, 11, 20, 21, 22, 23, 24, 25, 26, 27, 28, 29, 30, 31, 32] (by decide +kernel) (by decide +kernel)
set_option maxRecDepth 20000 in
theorem gX8_feed_X8_put : GoodIn wsX8_feed (wsV RX8 37 RX8 yX8_put wsX8_put) := goodIn_app (goodIn_of _ (by decide +kernel)) ggX8_feed_X8_put
set_option maxRecDepth 20000 in
theorem ggX8_stepStops_X8_cell : GoodIn wsX8_stepStops wsX8_cell := goodIn_r _ [5, 6, 7, 20, 21, 22, 23, 24, 25, 26, 27, 28, 29, 30, 31, 32] (by decide +kernel) (by decide +kernel)
set_option maxRecDepth 20000 in
theorem gX8_stepStops_X8_cell : GoodIn wsX8_stepStops (wsV RX8 41 RX8 yX8_cell wsX8_cell) := goodIn_app (goodIn_of _ (by decide +kernel)) ggX8_stepStops_X8_cell
set_option maxRecDepth 20000 in
theorem ggX8_stepStops_X8_goes : GoodIn wsX8_stepStops wsX8_goes := goodIn_r _ [11, 1, 2, 3, 4, 5, 6, 7, 12, 13, 14, 15, 16, 17, 18, 19, 20, 21, 22, 23, 24, 25, 26, 27, 28, 29, 30, 31, 32] (by decide +kernel) (by decide +kernel)
set_option maxRecDepth 20000 in
theorem gX8_stepStops_X8_goes : GoodIn wsX8_stepStops (wsV RX8 62 RX8 yX8_goes wsX8_goes) := goodIn_app (goodIn_of _ (by decide +kernel)) ggX8_stepStops_X8_goes
set_option maxRecDepth 20000 in
theorem ggX8_stepByte_X8_exchange : GoodIn wsX8_stepByte wsX8_exchange := goodIn_r _ [8, 3, 9, 10, 11, 12, 13, 14, 15, 16, 17, 18, 19, 20, 21] (by decide +kernel) (by decide +kernel)
set_option maxRecDepth 20000 in
theorem gX8_stepByte_X8_exchange : GoodIn wsX8_stepByte (wsV RX8 72 RX8 yX8_exchange wsX8_exchange) := goodIn_app (goodIn_of _ (by decide +kernel)) ggX8_stepByte_X8_exchange
set_option maxRecDepth 20000 in
theorem ggX8_begin_X8_fits : GoodIn wsX8_begin wsX8_fits := goodIn_r _ [9, 3, 4, 98, 99, 100, 101, 102, 103, 104, 105, 106, 107, 108, 109, 110] (by decide +kernel) (by decide +kernel)
set_option maxRecDepth 20000 in
theorem gX8_begin_X8_fits : GoodIn wsX8_begin (wsV RX8 75 RX8 yX8_fits wsX8_fits) := goodIn_app (goodIn_of _ (by decide +kernel)) ggX8_begin_X8_fits
set_option maxRecDepth 20000 in
theorem ggX8_begin_X8_clean : GoodIn wsX8_begin wsX8_clean := goodIn_r _ [13, 14, 15, 98, 99, 100, 101, 102, 103, 104, 105, 106, 107, 108, 109, 110] (by decide +kernel) (by decide +kernel)
set_option maxRecDepth 20000 in
theorem gX8_begin_X8_clean : GoodIn wsX8_begin (wsV RX8 82 RX8 yX8_clean wsX8_clean) := goodIn_app (goodIn_of _ (by decide +kernel)) ggX8_begin_X8_clean
set_option maxRecDepth 20000 in
theorem ggX8_begin_X8_beginRings : GoodIn wsX8_begin wsX8_beginRings := goodIn_r _ [19, 20, 21, 22, 8, 23, 24, 25, 26, 27, 28, 14, 15, 29, 30, 31, 32, 33, 34, 35, 36, 37, 38, 39, 40, 41, 42, 43, 44, 45, 46, 47, 48, 49, 98, 99, 100, 101, 102, 103, 104, 105, 106, 107, 108, 109, 110] (by decide +kernel) (by decide +kernel)
set_option maxRecDepth 20000 in
theorem gX8_begin_X8_beginRings : GoodIn wsX8_begin (wsV RX8 85 RX8 yX8_beginRings wsX8_beginRings) := goodIn_app (goodIn_of _ (by decide +kernel)) ggX8_begin_X8_beginRings
set_option maxRecDepth 20000 in
theorem ggX8_begin_X8_beginTwo : GoodIn wsX8_begin wsX8_beginTwo := goodIn_r _ [53, 20, 21, 22, 8, 23, 24, 25, 26, 27, 28, 14, 15, 29, 30, 31, 32, 33, 54, 55, 56, 57, 58, 59, 60, 61, 42, 43, 44, 45, 62, 63, 64, 65, 66, 67, 68, 69, 98, 99, 100, 101, 102, 103, 104, 105, 106, 107, 108, 109, 110] (by decide +kernel) (by decide +kernel)
set_option maxRecDepth 20000 in
theorem gX8_begin_X8_beginTwo : GoodIn wsX8_begin (wsV RX8 88 RX8 yX8_beginTwo wsX8_beginTwo) := goodIn_app (goodIn_of _ (by decide +kernel)) ggX8_begin_X8_beginTwo
set_option maxRecDepth 20000 in
theorem ggX8_begin_X8_beginStops : GoodIn wsX8_begin wsX8_beginStops := goodIn_r _ [73, 20, 21, 22, 8, 23, 24, 74, 75, 76, 77, 78, 79, 80, 81, 42, 43, 44, 45, 14, 15, 46, 47, 48, 49, 25, 26, 27, 28, 29, 30, 31, 32, 33, 82, 83, 84, 85, 98, 99, 100, 101, 102, 103, 104, 105, 106, 107, 108, 109, 110] (by decide +kernel) (by decide +kernel)
set_option maxRecDepth 20000 in
theorem gX8_begin_X8_beginStops : GoodIn wsX8_begin (wsV RX8 91 RX8 yX8_beginStops wsX8_beginStops) := goodIn_app (goodIn_of _ (by decide +kernel)) ggX8_begin_X8_beginStops
set_option maxRecDepth 20000 in
theorem ggX8_begin_X8_beginRow : GoodIn wsX8_begin wsX8_beginRow := goodIn_r _ [89, 90, 91, 24, 3, 92, 93, 94, 95, 96, 8, 97, 98, 99, 100, 101, 102, 103, 104, 105, 106, 107, 108, 109, 110] (by decide +kernel) (by decide +kernel)
set_option maxRecDepth 20000 in
theorem gX8_begin_X8_beginRow : GoodIn wsX8_begin (wsV RX8 94 RX8 yX8_beginRow wsX8_beginRow) := goodIn_app (goodIn_of _ (by decide +kernel)) ggX8_begin_X8_beginRow
set_option maxRecDepth 20000 in
theorem ggX8_beginRings_X8_keyBit : GoodIn wsX8_beginRings wsX8_keyBit := goodIn_r _ [5, 6, 34, 35, 36, 37, 38, 39, 40, 41, 42, 43, 44, 45, 46] (by decide +kernel) (by decide +kernel)
set_option maxRecDepth 20000 in
theorem gX8_beginRings_X8_keyBit : GoodIn wsX8_beginRings (wsV RX8 97 RX8 yX8_keyBit wsX8_keyBit) := goodIn_app (goodIn_of _ (by decide +kernel)) ggX8_beginRings_X8_keyBit
set_option maxRecDepth 20000 in
theorem ggX8_beginRings_X8_put : GoodIn wsX8_beginRings wsX8_put := goodIn_r _ [10, 11, 12, 34, 35, 36, 37, 38, 39, 40, 41, 42, 43, 44, 45, 46] (by decide +kernel) (by decide +kernel)
set_option maxRecDepth 20000 in
theorem gX8_beginRings_X8_put : GoodIn wsX8_beginRings (wsV RX8 37 RX8 yX8_put wsX8_put) := goodIn_app (goodIn_of _ (by decide +kernel)) ggX8_beginRings_X8_put
set_option maxRecDepth 20000 in
theorem ggX8_beginRings_X8_startBit : GoodIn wsX8_beginRings wsX8_startBit := goodIn_r _ [16, 17, 34, 35, 36, 37, 38, 39, 40, 41, 42, 43, 44, 45, 46] (by decide +kernel) (by decide +kernel)
set_option maxRecDepth 20000 in
theorem gX8_beginRings_X8_startBit : GoodIn wsX8_beginRings (wsV RX8 100 RX8 yX8_startBit wsX8_startBit) := goodIn_app (goodIn_of _ (by decide +kernel)) ggX8_beginRings_X8_startBit
set_option maxRecDepth 20000 in
theorem ggX8_beginRings_X8_stepRings : GoodIn wsX8_beginRings wsX8_stepRings := goodIn_r _ [21, 22, 23, 24, 4, 25, 26, 27, 28, 29, 11, 12, 30, 31, 32, 33, 7, 8, 9, 10, 34, 35, 36, 37, 38, 39, 40, 41, 42, 43, 44, 45, 46] (by decide +kernel) (by decide +kernel)
set_option maxRecDepth 20000 in
theorem gX8_beginRings_X8_stepRings : GoodIn wsX8_beginRings (wsV RX8 103 RX8 yX8_stepRings wsX8_stepRings) := goodIn_app (goodIn_of _ (by decide +kernel)) ggX8_beginRings_X8_stepRings
set_option maxRecDepth 20000 in
theorem ggX8_beginTwo_X8_keyBit : GoodIn wsX8_beginTwo wsX8_keyBit := goodIn_r _ [5, 6, 38, 39, 40, 41, 42, 43, 44, 45, 46, 47, 48, 49, 50] (by decide +kernel) (by decide +kernel)
set_option maxRecDepth 20000 in
theorem gX8_beginTwo_X8_keyBit : GoodIn wsX8_beginTwo (wsV RX8 97 RX8 yX8_keyBit wsX8_keyBit) := goodIn_app (goodIn_of _ (by decide +kernel)) ggX8_beginTwo_X8_keyBit
set_option maxRecDepth 20000 in
theorem ggX8_beginTwo_X8_put : GoodIn wsX8_beginTwo wsX8_put := goodIn_r _ [10, 11, 12, 38, 39, 40, 41, 42, 43, 44, 45, 46, 47, 48, 49, 50] (by decide +kernel) (by decide +kernel)
set_option maxRecDepth 20000 in
theorem gX8_beginTwo_X8_put : GoodIn wsX8_beginTwo (wsV RX8 37 RX8 yX8_put wsX8_put) := goodIn_app (goodIn_of _ (by decide +kernel)) ggX8_beginTwo_X8_put
set_option maxRecDepth 20000 in
theorem ggX8_beginTwo_X8_startBit : GoodIn wsX8_beginTwo wsX8_startBit := goodIn_r _ [16, 17, 38, 39, 40, 41, 42, 43, 44, 45, 46, 47, 48, 49, 50] (by decide +kernel) (by decide +kernel)
set_option maxRecDepth 20000 in
theorem gX8_beginTwo_X8_startBit : GoodIn wsX8_beginTwo (wsV RX8 100 RX8 yX8_startBit wsX8_startBit) := goodIn_app (goodIn_of _ (by decide +kernel)) ggX8_beginTwo_X8_startBit
set_option maxRecDepth 20000 in
theorem ggX8_beginTwo_X8_stepTwo : GoodIn wsX8_beginTwo wsX8_stepTwo := goodIn_r _ [21, 22, 23, 24, 4, 25, 26, 27, 28, 29, 11, 12, 30, 31, 32, 33, 34, 35, 36, 37, 7, 8, 9, 10, 38, 39, 40, 41, 42, 43, 44, 45, 46, 47, 48, 49, 50] (by decide +kernel) (by decide +kernel)
set_option maxRecDepth 20000 in
theorem gX8_beginTwo_X8_stepTwo : GoodIn wsX8_beginTwo (wsV RX8 107 RX8 yX8_stepTwo wsX8_stepTwo) := goodIn_app (goodIn_of _ (by decide +kernel)) ggX8_beginTwo_X8_stepTwo
set_option maxRecDepth 20000 in
theorem ggX8_beginStops_X8_keyBit : GoodIn wsX8_beginStops wsX8_keyBit := goodIn_r _ [5, 6, 38, 39, 40, 41, 42, 43, 44, 45, 46, 47, 48, 49, 50] (by decide +kernel) (by decide +kernel)
set_option maxRecDepth 20000 in
theorem gX8_beginStops_X8_keyBit : GoodIn wsX8_beginStops (wsV RX8 97 RX8 yX8_keyBit wsX8_keyBit) := goodIn_app (goodIn_of _ (by decide +kernel)) ggX8_beginStops_X8_keyBit
set_option maxRecDepth 20000 in
theorem ggX8_beginStops_X8_feed : GoodIn wsX8_beginStops wsX8_feed := goodIn_r _ [10, 11, 12, 13, 4, 14, 15, 16, 17, 18, 19, 20, 21, 22, 23, 24, 25, 26, 27, 28, 38, 39, 40, 41, 42, 43, 44, 45, 46, 47, 48, 49, 50] (by decide +kernel) (by decide +kernel)
set_option maxRecDepth 20000 in
theorem gX8_beginStops_X8_feed : GoodIn wsX8_beginStops (wsV RX8 111 RX8 yX8_feed wsX8_feed) := goodIn_app (goodIn_of _ (by decide +kernel)) ggX8_beginStops_X8_feed
set_option maxRecDepth 20000 in
theorem ggX8_beginStops_X8_startBit : GoodIn wsX8_beginStops wsX8_startBit := goodIn_r _ [32, 33, 38, 39, 40, 41, 42, 43, 44, 45, 46, 47, 48, 49, 50] (by decide +kernel) (by decide +kernel)
set_option maxRecDepth 20000 in
theorem gX8_beginStops_X8_startBit : GoodIn wsX8_beginStops (wsV RX8 100 RX8 yX8_startBit wsX8_startBit) := goodIn_app (goodIn_of _ (by decide +kernel)) ggX8_beginStops_X8_startBit
set_option maxRecDepth 20000 in
theorem ggX8_beginStops_X8_stepStops : GoodIn wsX8_beginStops wsX8_stepStops := goodIn_r _ [37, 15, 16, 17, 4, 18, 19, 20, 11, 12, 13, 14, 21, 22, 23, 24, 25, 26, 27, 28, 38, 39, 40, 41, 42, 43, 44, 45, 46, 47, 48, 49, 50] (by decide +kernel) (by decide +kernel)
set_option maxRecDepth 20000 in
theorem gX8_beginStops_X8_stepStops : GoodIn wsX8_beginStops (wsV RX8 114 RX8 yX8_stepStops wsX8_stepStops) := goodIn_app (goodIn_of _ (by decide +kernel)) ggX8_beginStops_X8_stepStops
set_option maxRecDepth 20000 in
theorem ggX8_beginRow_X8_exchange : GoodIn wsX8_beginRow wsX8_exchange := goodIn_r _ [11, 1, 12, 13, 14, 15, 16, 17, 18, 19, 20, 21, 22, 23, 24] (by decide +kernel) (by decide +kernel)
set_option maxRecDepth 20000 in
theorem gX8_beginRow_X8_exchange : GoodIn wsX8_beginRow (wsV RX8 72 RX8 yX8_exchange wsX8_exchange) := goodIn_app (goodIn_of _ (by decide +kernel)) ggX8_beginRow_X8_exchange
set_option maxRecDepth 20000 in
theorem ggX8_next_X8_stepRings : GoodIn wsX8_next wsX8_stepRings := goodIn_r _ [9, 10, 11, 12, 8, 13, 14, 15, 16, 17, 18, 19, 20, 21, 22, 23, 24, 25, 26, 27, 63, 64, 65, 66, 67, 68, 69, 70, 71, 72, 73, 74, 75] (by decide +kernel) (by decide +kernel)
set_option maxRecDepth 20000 in
theorem gX8_next_X8_stepRings : GoodIn wsX8_next (wsV RX8 103 RX8 yX8_stepRings wsX8_stepRings) := goodIn_app (goodIn_of _ (by decide +kernel)) ggX8_next_X8_stepRings
set_option maxRecDepth 20000 in
theorem ggX8_next_X8_stepTwo : GoodIn wsX8_next wsX8_stepTwo := goodIn_r _ [31, 32, 33, 34, 8, 35, 14, 15, 16, 17, 18, 19, 36, 37, 38, 39, 40, 41, 42, 43, 24, 25, 26, 27, 63, 64, 65, 66, 67, 68, 69, 70, 71, 72, 73, 74, 75] (by decide +kernel) (by decide +kernel)
set_option maxRecDepth 20000 in
theorem gX8_next_X8_stepTwo : GoodIn wsX8_next (wsV RX8 107 RX8 yX8_stepTwo wsX8_stepTwo) := goodIn_app (goodIn_of _ (by decide +kernel)) ggX8_next_X8_stepTwo
set_option maxRecDepth 20000 in
theorem ggX8_next_X8_stepStops : GoodIn wsX8_next wsX8_stepStops := goodIn_r _ [47, 14, 15, 16, 8, 17, 18, 19, 48, 49, 50, 51, 20, 21, 22, 23, 24, 25, 26, 27, 63, 64, 65, 66, 67, 68, 69, 70, 71, 72, 73, 74, 75] (by decide +kernel) (by decide +kernel)
set_option maxRecDepth 20000 in
theorem gX8_next_X8_stepStops : GoodIn wsX8_next (wsV RX8 114 RX8 yX8_stepStops wsX8_stepStops) := goodIn_app (goodIn_of _ (by decide +kernel)) ggX8_next_X8_stepStops
set_option maxRecDepth 20000 in
theorem ggX8_next_X8_stepByte : GoodIn wsX8_next wsX8_stepByte := goodIn_r _ [55, 56, 57, 58, 59, 60, 61, 8, 62, 63, 64, 65, 66, 67, 68, 69, 70, 71, 72, 73, 74, 75] (by decide +kernel) (by decide +kernel)
set_option maxRecDepth 20000 in
theorem gX8_next_X8_stepByte : GoodIn wsX8_next (wsV RX8 120 RX8 yX8_stepByte wsX8_stepByte) := goodIn_app (goodIn_of _ (by decide +kernel)) ggX8_next_X8_stepByte
set_option maxRecDepth 20000 in
theorem ggX8_bits_X8_mix : GoodIn wsX8_bits wsX8_mix := goodIn_r _ [5, 6, 7, 8, 9, 4, 10, 11, 12, 13, 14, 15, 16, 17, 18, 19, 20, 21, 22, 23, 24, 25, 26, 27, 28, 29, 30, 31, 32, 33, 34, 35, 36, 37, 38, 39, 40, 41, 42, 43, 44, 45, 46, 47, 48, 49, 50, 51, 52, 53, 54, 55, 56, 57, 58, 59, 60, 61, 62, 63, 64, 65, 66, 67, 68, 69, 70, 71, 72, 73, 74, 75, 76, 77, 78, 79, 80, 81, 82, 83] (by decide +kernel) (by decide +kernel)
set_option maxRecDepth 20000 in
theorem gX8_bits_X8_mix : GoodIn wsX8_bits (wsV RX8 126 RX8 yX8_mix wsX8_mix) := goodIn_app (goodIn_of _ (by decide +kernel)) ggX8_bits_X8_mix
set_option maxRecDepth 20000 in
theorem ggX8_skip_X8_next : GoodIn wsX8_skip wsX8_next := goodIn_r _ [6, 7, 1, 8, 9, 10, 11, 12, 5, 13, 14, 15, 16, 17, 18, 19, 20, 21, 22, 23, 24, 25, 26, 27, 28, 29, 30, 31, 32, 33, 34, 35, 36, 37, 38, 39, 40, 41, 42, 43, 44, 45, 46, 47, 48, 49, 50, 51, 52, 53, 54, 55, 56, 57, 58, 59, 60, 61, 62, 63, 64, 65, 66, 67, 68, 69, 70, 71, 72, 73, 74, 75, 76, 77, 78, 79] (by decide +kernel) (by decide +kernel)
set_option maxRecDepth 20000 in
theorem gX8_skip_X8_next : GoodIn wsX8_skip (wsV RX8 130 RX8 yX8_next wsX8_next) := goodIn_app (goodIn_of _ (by decide +kernel)) ggX8_skip_X8_next
set_option maxRecDepth 20000 in
theorem ggX8_mix_X8_next : GoodIn wsX8_mix wsX8_next := goodIn_r _ [6, 7, 1, 8, 9, 10, 11, 12, 5, 13, 14, 15, 16, 17, 18, 19, 20, 21, 22, 23, 24, 25, 26, 27, 28, 29, 30, 31, 32, 33, 34, 35, 36, 37, 38, 39, 40, 41, 42, 43, 44, 45, 46, 47, 48, 49, 50, 51, 52, 53, 54, 55, 56, 57, 58, 59, 60, 61, 62, 63, 64, 65, 66, 67, 68, 69, 70, 71, 72, 73, 74, 75, 76, 77, 78, 79] (by decide +kernel) (by decide +kernel)
set_option maxRecDepth 20000 in
theorem gX8_mix_X8_next : GoodIn wsX8_mix (wsV RX8 130 RX8 yX8_next wsX8_next) := goodIn_app (goodIn_of _ (by decide +kernel)) ggX8_mix_X8_next
end
section
section CT
/-- where a contract begins: the heap's size, the cells, the classes, apart -/
def ct_B (D : va_G) (tys : List (ClassId × FieldType)) (wB : va_W) (sz : Nat) (U : State) : Prop := U.heap.size = sz ∧ va_P D vwCl wB U.heap ∧ va_K D vwCl tys U ∧ va_D (fun _ => True) wB
/-- where it ends -/
def ct_E (D : va_G) (tys : List (ClassId × FieldType)) (wA : va_W) (A : Nat → Prop) (t : State) : Prop := va_P D vwCl wA t.heap ∧ va_K D vwCl tys t ∧ va_D A wA
abbrev ct_Qi (D : va_G) (tys : List (ClassId × FieldType)) (wA : va_W) (r : Int32) (A : Nat → Prop) : Array Value → State → Outcome → State → Prop := va_Qi (fun r' (_ : Unit) => r' = r) (fun _ => ct_E D tys wA A) A
abbrev ct_Ql (D : va_G) (tys : List (ClassId × FieldType)) (wA : va_W) (r : Int64) (A : Nat → Prop) : Array Value → State → Outcome → State → Prop := va_Ql (fun r' (_ : Unit) => r' = r) (fun _ => ct_E D tys wA A) A
abbrev ct_Qv (D : va_G) (tys : List (ClassId × FieldType)) (wA : va_W) (A : Nat → Prop) : Array Value → State → Outcome → State → Prop := va_Qv (fun (_ : Unit) => True) (fun _ => ct_E D tys wA A) A
/-- a method that answers the int r and turns the cells wB into wA; nothing new -/
def Cti (l : Launch) (D : va_G) (y : MethodName) (ws : List Cond) (rm : Room) (av : List Value) (tys : List (ClassId × FieldType)) (wB wA : va_W) (r : Int32) : Prop := ∀ sz : Nat, Met l y ws rm (va_Pc av (ct_B D tys wB sz)) (ct_Qi D tys wA r (va_A wB sz)) 0 0 (va_A wB sz)
def Ctl (l : Launch) (D : va_G) (y : MethodName) (ws : List Cond) (rm : Room) (av : List Value) (tys : List (ClassId × FieldType)) (wB wA : va_W) (r : Int64) : Prop := ∀ sz : Nat, Met l y ws rm (va_Pc av (ct_B D tys wB sz)) (ct_Ql D tys wA r (va_A wB sz)) 0 0 (va_A wB sz)
def Ctv (l : Launch) (D : va_G) (y : MethodName) (ws : List Cond) (rm : Room) (av : List Value) (tys : List (ClassId × FieldType)) (wB wA : va_W) : Prop := ∀ sz : Nat, Met l y ws rm (va_Pc av (ct_B D tys wB sz)) (ct_Qv D tys wA (va_A wB sz)) 0 0 (va_A wB sz)
theorem ct_blind {D : va_G} {tys : List (ClassId × FieldType)} {wB : va_W} {sz : Nat} {av : List Value} : FrameBlind (va_Pc av (ct_B D tys wB sz)) := fun a U g mk q => by
  obtain ⟨q0, q1, qP, qK, qD⟩ := q
  exact ⟨q0, q1, qP, va_K.moved (u := U) (U := U.calling g mk a) (Vm.Alike.refl U.vm) qK, qD⟩
theorem ct_fm {α β : Type} {f : α → Option β} : ∀ (is : List α) (l : List β), is.map f = l.map some → is.filterMap f = l
  | [], l, h => by
    cases l with
    | nil => rfl
    | cons b l => simp at h
  | a :: is, l, h => by
    cases l with
    | nil => simp at h
    | cons b l =>
      simp only [List.map_cons, List.cons.injEq] at h
      rw [List.filterMap_cons_some h.1, ct_fm is l h.2]
theorem ct_nar {v : Int32} (h : v = 0 ∨ v = 1) : narrow .boolean (.int v) = .int v := by
  rcases h with rfl | rfl <;> rfl
/-- what a body stands on: the machine, its code, its words, its cells -/
abbrev ct_At (l : Launch) (D : va_G) (y : MethodName) (ws : List Cond) (rm : Room) (av : List Value) (tys : List (ClassId × FieldType)) (wB : va_W) (cc : ByteArray) (maxL : Nat) (ret : Option FieldType) (Qf : (Nat → Prop) → Array Value → State → Outcome → State → Prop) : Prop :=
  ∀ (p : Program) (e : Env) (s : State) (m : MethodId) (below : List Frame) (meth : Method) (c : Code) (A : Nat → Prop) (H : Heap) (locs : List Loc) (ls : Array Slot), p.tables.exec = Jvm.exec → c.code = cc → meth.sig.returnType = ret → c.maxLocals = maxL → (∀ w ∈ ws, w.before av.toArray s = true) → s.vm.findClass y.cls = some m.cls → meth.locks = false → meth.name = y.name → va_P D vwCl wB H → va_K D vwCl tys s → va_D A wB → (∀ q : Nat, s.heap.size ≤ q → A q) → va_S A s.heap H locs → lv_has ls maxL (lv_args 0 av) →
    W p l e rm s m av.toArray below meth c H locs 0 0 (MQ below (Qf A) av.toArray s 0 0 A) (F0 m 0 ls [])
theorem ct_of {l : Launch} {D : va_G} {y : MethodName} {ws ws' : List Cond} {rm : Room} {av : List Value} {tys : List (ClassId × FieldType)} {wB : va_W} {cc : ByteArray} {maxL : Nat} {ret : Option FieldType} {Qf : (Nat → Prop) → Array Value → State → Outcome → State → Prop}
    (hy : plainName y.cls = true) (hw : ws = Cond.code y cc maxL ret :: ws') (hn : (lg_sl av).length ≤ maxL) (body : ct_At l D y ws rm av tys wB cc maxL ret Qf) (sz : Nat) : Met l y ws rm (va_Pc av (ct_B D tys wB sz)) (Qf (va_A wB sz)) 0 0 (va_A wB sz) := by
  refine Met.ofW (cc := cc) (maxL := maxL) (ret := ret) hy hw ?_
  intro p e s m args below meth c s₁ B hml hv
  obtain ⟨rfl, hsz, hP, hK, hD0⟩ := hv
  have hts := atoms_spec (ws := ws) B.pre
  have hown : s.vm.findClass y.cls = some m.cls := findClass_of_methodNamed B.named
  subst hsz
  have hl := lv_entry av (n := maxL) hn
  rw [lg_entry_eq]
  exact body p e s m below meth c (va_A wB s.heap.size) s.heap [] _ B.exec B.bytes B.returns hml hts hown B.notSynchronized (name_of_methodNamed B.named B.method).1 hP hK hD0.self (fun q h => Or.inr h) va_S.rf hl
section Rets
variable {p : Program} {l : Launch} {e : Env} {R : Room} {s : State} {m : MethodId} {args : Array Value} {below : List Frame} {meth : Method} {c : Code} {H : Heap} {locs : List Loc} {D : va_G} {tys : List (ClassId × FieldType)} {wA : va_W} {A : Nat → Prop} {cc : ByteArray} {pc : Nat} {ls : Array Slot}
theorem ct_zret {v r : Int32} {rt : FieldType} (hx : p.tables.exec = Jvm.exec) (hb : c.code = cc) (hr : meth.sig.returnType = some rt) (hlk : meth.locks = false) (hP : va_P D vwCl wA H) (hK : va_K D vwCl tys s) (hD : va_D A wA) (hS : va_S A s.heap H locs) (hn : narrow rt (.int v) = .int v) (hv : v = r) (hdg : decode cc pc = .ok (.ireturn, 1)) :
    W p l e R s m args below meth c H locs 0 0 (MQ below (ct_Qi D tys wA r A) args s 0 0 A) (F0 m pc ls [.int v]) :=
  W.zret (v := v) hx hb hr hn (fun t ht hW => ⟨⟨v, (), rfl, hv, by rw [ht]; exact hP, va_K.moved hW.alike hK, hD⟩, hS.F ht⟩) hS.2.2 hdg hlk
theorem ct_lret {v r : Int64} (hx : p.tables.exec = Jvm.exec) (hb : c.code = cc) (hr : meth.sig.returnType = some .long) (hlk : meth.locks = false) (hP : va_P D vwCl wA H) (hK : va_K D vwCl tys s) (hD : va_D A wA) (hS : va_S A s.heap H locs) (hv : v = r) (hdg : decode cc pc = .ok (.lreturn, 1)) :
    W p l e R s m args below meth c H locs 0 0 (MQ below (ct_Ql D tys wA r A) args s 0 0 A) (F0 m pc ls [.long v]) :=
  W.lret (v := v) hx hb hr (fun t ht hW => ⟨⟨v, (), rfl, hv, by rw [ht]; exact hP, va_K.moved hW.alike hK, hD⟩, hS.F ht⟩) hS.2.2 hdg hlk
theorem ct_vret (hx : p.tables.exec = Jvm.exec) (hb : c.code = cc) (hr : meth.sig.returnType = none) (hlk : meth.locks = false) (hP : va_P D vwCl wA H) (hK : va_K D vwCl tys s) (hD : va_D A wA) (hS : va_S A s.heap H locs) (hdg : decode cc pc = .ok (.return_, 1)) :
    W p l e R s m args below meth c H locs 0 0 (MQ below (ct_Qv D tys wA A) args s 0 0 A) (F0 m pc ls []) :=
  W.vret hx hb hr (fun t ht hW => ⟨⟨(), rfl, trivial, by rw [ht]; exact hP, va_K.moved hW.alike hK, hD⟩, hS.F ht⟩) hS.2.2 hdg hlk
end Rets
section Calls
variable {p : Program} {l : Launch} {e : Env} {R : Room} {s : State} {m : MethodId} {args : Array Value} {below : List Frame} {meth : Method} {c : Code} {H : Heap} {locs : List Loc} {cells slots : Nat} {Q : State → Prop} {D : va_G} {tys tysc : List (ClassId × FieldType)} {ws wB wr wA ws2 : va_W} {A : Nat → Prop} {cc : ByteArray} {pc : Nat} {ls : Array Slot} {st0 rest : List Value}
/-- the frame rule, for a callee that turns wB (at the places isC) into wA: wr (at isR) stays; the new world by pm -/
theorem ct_goi {r : Int32} {a : Array Value} (hr : va_Run p l e R s m args below meth c H locs cells slots 0 0 (F0 m pc ls st0) rest (ct_Qi D tysc wA r (va_A wB H.size) a) (va_A wB H.size))
    (isC isR pm : List Nat) (hP : va_P D vwCl ws H) (hD : va_D A ws) (hS : va_S A s.heap H locs) (hA : ∀ q, s.heap.size ≤ q → A q)
    (hC : isC.map (fun i => ws[i]?) = wB.map some) (hR : isR.map (fun i => ws[i]?) = wr.map some) (hn : va_nd isR = true) (hdis : ∀ i ∈ isR, i ∉ isC) (hpm : pm.map (fun i => (wr ++ wA)[i]?) = ws2.map some) (hpn : va_nd pm = true)
    (k : ∀ (H1 : Heap) (locs1 : List Loc), va_P D vwCl ws2 H1 → va_D A ws2 → va_S A s.heap H1 locs1 → W p l e R s m args below meth c H1 locs1 cells slots Q (F0 m (pc + 3) ls (.int r :: rest))) : W p l e R s m args below meth c H locs cells slots Q (F0 m pc ls st0) := by
  have hFc := va_free (wc := wB) hD hS hA isC hC
  refine va_calli hr hS (fun q _ h => hFc q h) hFc (fun r' u t H1 locs1 ht hvm hw hB hz1 hk1 hS1 => ?_)
  obtain ⟨hP1, hK1, hD1⟩ := hB
  rw [ht] at hP1
  obtain ⟨hP2, hD2⟩ := va_join hP hD isC isR hC hR hn hdis hk1 hFc hP1 hD1
  subst hw
  exact k H1 locs1 (hP2.sub pm (ct_fm _ _ hpm)) (hD2.sub pm hpn hpm) hS1
theorem ct_gol {r : Int64} {a : Array Value} (hr : va_Run p l e R s m args below meth c H locs cells slots 0 0 (F0 m pc ls st0) rest (ct_Ql D tysc wA r (va_A wB H.size) a) (va_A wB H.size))
    (isC isR pm : List Nat) (hP : va_P D vwCl ws H) (hD : va_D A ws) (hS : va_S A s.heap H locs) (hA : ∀ q, s.heap.size ≤ q → A q)
    (hC : isC.map (fun i => ws[i]?) = wB.map some) (hR : isR.map (fun i => ws[i]?) = wr.map some) (hn : va_nd isR = true) (hdis : ∀ i ∈ isR, i ∉ isC) (hpm : pm.map (fun i => (wr ++ wA)[i]?) = ws2.map some) (hpn : va_nd pm = true)
    (k : ∀ (H1 : Heap) (locs1 : List Loc), va_P D vwCl ws2 H1 → va_D A ws2 → va_S A s.heap H1 locs1 → W p l e R s m args below meth c H1 locs1 cells slots Q (F0 m (pc + 3) ls (.long r :: rest))) : W p l e R s m args below meth c H locs cells slots Q (F0 m pc ls st0) := by
  have hFc := va_free (wc := wB) hD hS hA isC hC
  refine va_calll hr hS (fun q _ h => hFc q h) hFc (fun r' u t H1 locs1 ht hvm hw hB hz1 hk1 hS1 => ?_)
  obtain ⟨hP1, hK1, hD1⟩ := hB
  rw [ht] at hP1
  obtain ⟨hP2, hD2⟩ := va_join hP hD isC isR hC hR hn hdis hk1 hFc hP1 hD1
  subst hw
  exact k H1 locs1 (hP2.sub pm (ct_fm _ _ hpm)) (hD2.sub pm hpn hpm) hS1
theorem ct_gov {a : Array Value} (hr : va_Run p l e R s m args below meth c H locs cells slots 0 0 (F0 m pc ls st0) rest (ct_Qv D tysc wA (va_A wB H.size) a) (va_A wB H.size))
    (isC isR pm : List Nat) (hP : va_P D vwCl ws H) (hD : va_D A ws) (hS : va_S A s.heap H locs) (hA : ∀ q, s.heap.size ≤ q → A q)
    (hC : isC.map (fun i => ws[i]?) = wB.map some) (hR : isR.map (fun i => ws[i]?) = wr.map some) (hn : va_nd isR = true) (hdis : ∀ i ∈ isR, i ∉ isC) (hpm : pm.map (fun i => (wr ++ wA)[i]?) = ws2.map some) (hpn : va_nd pm = true)
    (k : ∀ (H1 : Heap) (locs1 : List Loc), va_P D vwCl ws2 H1 → va_D A ws2 → va_S A s.heap H1 locs1 → W p l e R s m args below meth c H1 locs1 cells slots Q (F0 m (pc + 3) ls rest)) : W p l e R s m args below meth c H locs cells slots Q (F0 m pc ls st0) := by
  have hFc := va_free (wc := wB) hD hS hA isC hC
  refine va_callv hr hS (fun q _ h => hFc q h) hFc (fun u t H1 locs1 ht hvm hw hB hz1 hk1 hS1 => ?_)
  obtain ⟨hP1, hK1, hD1⟩ := hB
  rw [ht] at hP1
  obtain ⟨hP2, hD2⟩ := va_join hP hD isC isR hC hR hn hdis hk1 hFc hP1 hD1
  exact k H1 locs1 (hP2.sub pm (ct_fm _ _ hpm)) (hD2.sub pm hpn hpm) hS1
theorem ct_preV {C : String} {b : Nat} {As : List Value} (isT : List Nat) (hT : isT.filterMap (fun i => tys[i]?) = tysc) (isC : List Nat) (hK : va_K D vwCl tys s) (hP : va_P D vwCl ws H) (hD : va_D A ws) (hC : isC.map (fun i => ws[i]?) = wB.map some) (hCn : va_nd isC = true)
    (q0 ci : Nat) {fs : List Value} {cq : vw_C} (hc : vwCl[ci]? = some cq) (hcC : cq.1 = C) (he : wB[q0]? = some (b, .inr (ci, fs))) : PreV s H C b (va_Pc (.ref b :: As) (ct_B D tysc wB H.size)) As := by
  have hPc : va_P D vwCl wB H := hP.sub isC (ct_fm _ _ hC)
  have hDc : va_D A wB := hD.sub isC hCn hC
  have hKc : va_K D vwCl tysc s := hK.sub isT hT
  subst hcC
  exact ⟨ct_blind, va_recv hKc hPc hc he, fun U hU hW => ⟨rfl, by rw [hU], by rw [hU]; exact hPc, va_K.moved hW.alike hKc, hDc.weaken (fun _ _ _ _ => trivial)⟩⟩
section V
variable {Ts wsy : List Cond} {own C : String} {index maxL nL n b : Nat} {y : MethodName} {bytes : ByteArray} {ret : Option FieldType} {rm : Room} {As : List Value}
theorem ct_callVi {r : Int32} (S : CallFix p m c cc nL s args Ts own) (hM : Cti l D y wsy rm (.ref b :: As) tysc wB wA r) (cw : CallW R s args own C index y bytes maxL ret wsy rm 0 0 n) (isT : List Nat) (hT : isT.filterMap (fun i => tys[i]?) = tysc)
    (isC isR pm : List Nat) (hK : va_K D vwCl tys s) (hP : va_P D vwCl ws H) (hD : va_D A ws) (hS : va_S A s.heap H locs) (hA : ∀ q, s.heap.size ≤ q → A q) (q0 ci : Nat) {fs : List Value} {cq : vw_C} (hc : vwCl[ci]? = some cq) (hcC : cq.1 = C) (he : wB[q0]? = some (b, .inr (ci, fs)))
    (hC : isC.map (fun i => ws[i]?) = wB.map some) (hCn : va_nd isC = true) (hR : isR.map (fun i => ws[i]?) = wr.map some) (hn : va_nd isR = true) (hdis : ∀ i ∈ isR, i ∉ isC) (hpm : pm.map (fun i => (wr ++ wA)[i]?) = ws2.map some) (hpn : va_nd pm = true)
    (hlen : As.length = n) (hsize : ls.size = nL) (hst : st0 = As.reverse ++ .ref b :: rest) (hW : (rest.map fun v => v.category).sum ≤ 8) (hdg : decode cc pc = .ok (.invokevirtual index, 3)) (hf : cells ≤ R.cells ∧ slots ≤ R.slots)
    (k : ∀ (H1 : Heap) (locs1 : List Loc), va_P D vwCl ws2 H1 → va_D A ws2 → va_S A s.heap H1 locs1 → W p l e R s m args below meth c H1 locs1 cells slots Q (F0 m (pc + 3) ls (.int r :: rest))) : W p l e R s m args below meth c H locs cells slots Q (F0 m pc ls st0) :=
  ct_goi (va_runV S (hM H.size) cw (ct_preV isT hT isC hK hP hD hC hCn q0 ci hc hcC he) rfl hlen hsize hst (lv_room hW) hdg hf) isC isR pm hP hD hS hA hC hR hn hdis hpm hpn k
theorem ct_callVl {r : Int64} (S : CallFix p m c cc nL s args Ts own) (hM : Ctl l D y wsy rm (.ref b :: As) tysc wB wA r) (cw : CallW R s args own C index y bytes maxL ret wsy rm 0 0 n) (isT : List Nat) (hT : isT.filterMap (fun i => tys[i]?) = tysc)
    (isC isR pm : List Nat) (hK : va_K D vwCl tys s) (hP : va_P D vwCl ws H) (hD : va_D A ws) (hS : va_S A s.heap H locs) (hA : ∀ q, s.heap.size ≤ q → A q) (q0 ci : Nat) {fs : List Value} {cq : vw_C} (hc : vwCl[ci]? = some cq) (hcC : cq.1 = C) (he : wB[q0]? = some (b, .inr (ci, fs)))
    (hC : isC.map (fun i => ws[i]?) = wB.map some) (hCn : va_nd isC = true) (hR : isR.map (fun i => ws[i]?) = wr.map some) (hn : va_nd isR = true) (hdis : ∀ i ∈ isR, i ∉ isC) (hpm : pm.map (fun i => (wr ++ wA)[i]?) = ws2.map some) (hpn : va_nd pm = true)
    (hlen : As.length = n) (hsize : ls.size = nL) (hst : st0 = As.reverse ++ .ref b :: rest) (hW : (rest.map fun v => v.category).sum ≤ 8) (hdg : decode cc pc = .ok (.invokevirtual index, 3)) (hf : cells ≤ R.cells ∧ slots ≤ R.slots)
    (k : ∀ (H1 : Heap) (locs1 : List Loc), va_P D vwCl ws2 H1 → va_D A ws2 → va_S A s.heap H1 locs1 → W p l e R s m args below meth c H1 locs1 cells slots Q (F0 m (pc + 3) ls (.long r :: rest))) : W p l e R s m args below meth c H locs cells slots Q (F0 m pc ls st0) :=
  ct_gol (va_runV S (hM H.size) cw (ct_preV isT hT isC hK hP hD hC hCn q0 ci hc hcC he) rfl hlen hsize hst (lv_room hW) hdg hf) isC isR pm hP hD hS hA hC hR hn hdis hpm hpn k
theorem ct_callVv (S : CallFix p m c cc nL s args Ts own) (hM : Ctv l D y wsy rm (.ref b :: As) tysc wB wA) (cw : CallW R s args own C index y bytes maxL ret wsy rm 0 0 n) (isT : List Nat) (hT : isT.filterMap (fun i => tys[i]?) = tysc)
    (isC isR pm : List Nat) (hK : va_K D vwCl tys s) (hP : va_P D vwCl ws H) (hD : va_D A ws) (hS : va_S A s.heap H locs) (hA : ∀ q, s.heap.size ≤ q → A q) (q0 ci : Nat) {fs : List Value} {cq : vw_C} (hc : vwCl[ci]? = some cq) (hcC : cq.1 = C) (he : wB[q0]? = some (b, .inr (ci, fs)))
    (hC : isC.map (fun i => ws[i]?) = wB.map some) (hCn : va_nd isC = true) (hR : isR.map (fun i => ws[i]?) = wr.map some) (hn : va_nd isR = true) (hdis : ∀ i ∈ isR, i ∉ isC) (hpm : pm.map (fun i => (wr ++ wA)[i]?) = ws2.map some) (hpn : va_nd pm = true)
    (hlen : As.length = n) (hsize : ls.size = nL) (hst : st0 = As.reverse ++ .ref b :: rest) (hW : (rest.map fun v => v.category).sum ≤ 8) (hdg : decode cc pc = .ok (.invokevirtual index, 3)) (hf : cells ≤ R.cells ∧ slots ≤ R.slots)
    (k : ∀ (H1 : Heap) (locs1 : List Loc), va_P D vwCl ws2 H1 → va_D A ws2 → va_S A s.heap H1 locs1 → W p l e R s m args below meth c H1 locs1 cells slots Q (F0 m (pc + 3) ls rest)) : W p l e R s m args below meth c H locs cells slots Q (F0 m pc ls st0) :=
  ct_gov (va_runV S (hM H.size) cw (ct_preV isT hT isC hK hP hD hC hCn q0 ci hc hcC he) rfl hlen hsize hst (lv_room hW) hdg hf) isC isR pm hP hD hS hA hC hR hn hdis hpm hpn k
variable {owner : String} {x : MethodName}
theorem ct_callUi {r : Int32} (S : CallFix p m c cc nL s args Ts own) (hM : Cti l D y wsy rm (.ref b :: As) tysc wB wA r) (cw : va_CU R s args own C owner index x y bytes maxL ret wsy rm 0 0 n) (isT : List Nat) (hT : isT.filterMap (fun i => tys[i]?) = tysc)
    (isC isR pm : List Nat) (hK : va_K D vwCl tys s) (hP : va_P D vwCl ws H) (hD : va_D A ws) (hS : va_S A s.heap H locs) (hA : ∀ q, s.heap.size ≤ q → A q) (q0 ci : Nat) {fs : List Value} {cq : vw_C} (hc : vwCl[ci]? = some cq) (hcC : cq.1 = C) (he : wB[q0]? = some (b, .inr (ci, fs)))
    (hC : isC.map (fun i => ws[i]?) = wB.map some) (hCn : va_nd isC = true) (hR : isR.map (fun i => ws[i]?) = wr.map some) (hn : va_nd isR = true) (hdis : ∀ i ∈ isR, i ∉ isC) (hpm : pm.map (fun i => (wr ++ wA)[i]?) = ws2.map some) (hpn : va_nd pm = true)
    (hlen : As.length = n) (hsize : ls.size = nL) (hst : st0 = As.reverse ++ .ref b :: rest) (hW : (rest.map fun v => v.category).sum ≤ 8) (hdg : decode cc pc = .ok (.invokevirtual index, 3)) (hf : cells ≤ R.cells ∧ slots ≤ R.slots)
    (k : ∀ (H1 : Heap) (locs1 : List Loc), va_P D vwCl ws2 H1 → va_D A ws2 → va_S A s.heap H1 locs1 → W p l e R s m args below meth c H1 locs1 cells slots Q (F0 m (pc + 3) ls (.int r :: rest))) : W p l e R s m args below meth c H locs cells slots Q (F0 m pc ls st0) :=
  ct_goi (va_runU S (hM H.size) cw (ct_preV isT hT isC hK hP hD hC hCn q0 ci hc hcC he) rfl hlen hsize hst (lv_room hW) hdg hf) isC isR pm hP hD hS hA hC hR hn hdis hpm hpn k
theorem ct_callUv (S : CallFix p m c cc nL s args Ts own) (hM : Ctv l D y wsy rm (.ref b :: As) tysc wB wA) (cw : va_CU R s args own C owner index x y bytes maxL ret wsy rm 0 0 n) (isT : List Nat) (hT : isT.filterMap (fun i => tys[i]?) = tysc)
    (isC isR pm : List Nat) (hK : va_K D vwCl tys s) (hP : va_P D vwCl ws H) (hD : va_D A ws) (hS : va_S A s.heap H locs) (hA : ∀ q, s.heap.size ≤ q → A q) (q0 ci : Nat) {fs : List Value} {cq : vw_C} (hc : vwCl[ci]? = some cq) (hcC : cq.1 = C) (he : wB[q0]? = some (b, .inr (ci, fs)))
    (hC : isC.map (fun i => ws[i]?) = wB.map some) (hCn : va_nd isC = true) (hR : isR.map (fun i => ws[i]?) = wr.map some) (hn : va_nd isR = true) (hdis : ∀ i ∈ isR, i ∉ isC) (hpm : pm.map (fun i => (wr ++ wA)[i]?) = ws2.map some) (hpn : va_nd pm = true)
    (hlen : As.length = n) (hsize : ls.size = nL) (hst : st0 = As.reverse ++ .ref b :: rest) (hW : (rest.map fun v => v.category).sum ≤ 8) (hdg : decode cc pc = .ok (.invokevirtual index, 3)) (hf : cells ≤ R.cells ∧ slots ≤ R.slots)
    (k : ∀ (H1 : Heap) (locs1 : List Loc), va_P D vwCl ws2 H1 → va_D A ws2 → va_S A s.heap H1 locs1 → W p l e R s m args below meth c H1 locs1 cells slots Q (F0 m (pc + 3) ls rest)) : W p l e R s m args below meth c H locs cells slots Q (F0 m pc ls st0) :=
  ct_gov (va_runU S (hM H.size) cw (ct_preV isT hT isC hK hP hD hC hCn q0 ci hc hcC he) rfl hlen hsize hst (lv_room hW) hdg hf) isC isR pm hP hD hS hA hC hR hn hdis hpm hpn k
end V
end Calls
end CT
end
section
section LOOPS
variable {p : Program} {l : Launch} {e : Env} {R : Room} {s : State} {m : MethodId} {args : Array Value} {below : List Frame} {meth : Method} {c : Code} {cells slots : Nat} {Q : State → Prop} {D : va_G} {A : Nat → Prop}
/-- a loop that counts from k0 up to N: the world and the locals at its head by the count -/
theorem ct_count {head nL : Nat} {st : List Value} (N : Nat) (ws : Nat → va_W) (lv : Nat → List (Nat × Value))
    (hs : ∀ k, k < N → (∀ (H : Heap) (locs : List Loc) (ls : Array Slot), va_P D vwCl (ws (k + 1)) H → va_D A (ws (k + 1)) → va_S A s.heap H locs → lv_has ls nL (lv (k + 1)) → W p l e R s m args below meth c H locs cells slots Q (F0 m head ls st)) →
      ∀ (H : Heap) (locs : List Loc) (ls : Array Slot), va_P D vwCl (ws k) H → va_D A (ws k) → va_S A s.heap H locs → lv_has ls nL (lv k) → W p l e R s m args below meth c H locs cells slots Q (F0 m head ls st))
    (hx : ∀ (H : Heap) (locs : List Loc) (ls : Array Slot), va_P D vwCl (ws N) H → va_D A (ws N) → va_S A s.heap H locs → lv_has ls nL (lv N) → W p l e R s m args below meth c H locs cells slots Q (F0 m head ls st))
    (k0 : Nat) (hk : k0 ≤ N) {H : Heap} {locs : List Loc} {ls : Array Slot} (hP : va_P D vwCl (ws k0) H) (hD : va_D A (ws k0)) (hS : va_S A s.heap H locs) (hl : lv_has ls nL (lv k0)) : W p l e R s m args below meth c H locs cells slots Q (F0 m head ls st) := by
  have go : ∀ (n k : Nat), k + n = N → ∀ (H : Heap) (locs : List Loc) (ls : Array Slot), va_P D vwCl (ws k) H → va_D A (ws k) → va_S A s.heap H locs → lv_has ls nL (lv k) → W p l e R s m args below meth c H locs cells slots Q (F0 m head ls st) := by
    intro n
    induction n with
    | zero =>
      intro k h
      obtain rfl : k = N := by omega
      exact hx
    | succ n ih =>
      intro k h
      exact hs k (by omega) (ih (k + 1) (by omega))
  exact go (N - k0) k0 (by omega) H locs ls hP hD hS hl
/-- a loop that counts k down to 0 -/
theorem ct_down {head nL : Nat} {st : List Value} (ws : Nat → va_W) (lv : Nat → List (Nat × Value)) (K : Nat)
    (hs : ∀ k, k < K → (∀ (H : Heap) (locs : List Loc) (ls : Array Slot), va_P D vwCl (ws k) H → va_D A (ws k) → va_S A s.heap H locs → lv_has ls nL (lv k) → W p l e R s m args below meth c H locs cells slots Q (F0 m head ls st)) →
      ∀ (H : Heap) (locs : List Loc) (ls : Array Slot), va_P D vwCl (ws (k + 1)) H → va_D A (ws (k + 1)) → va_S A s.heap H locs → lv_has ls nL (lv (k + 1)) → W p l e R s m args below meth c H locs cells slots Q (F0 m head ls st))
    (hx : ∀ (H : Heap) (locs : List Loc) (ls : Array Slot), va_P D vwCl (ws 0) H → va_D A (ws 0) → va_S A s.heap H locs → lv_has ls nL (lv 0) → W p l e R s m args below meth c H locs cells slots Q (F0 m head ls st))
    {H : Heap} {locs : List Loc} {ls : Array Slot} (hP : va_P D vwCl (ws K) H) (hD : va_D A (ws K)) (hS : va_S A s.heap H locs) (hl : lv_has ls nL (lv K)) : W p l e R s m args below meth c H locs cells slots Q (F0 m head ls st) := by
  have go : ∀ (k : Nat), k ≤ K → ∀ (H : Heap) (locs : List Loc) (ls : Array Slot), va_P D vwCl (ws k) H → va_D A (ws k) → va_S A s.heap H locs → lv_has ls nL (lv k) → W p l e R s m args below meth c H locs cells slots Q (F0 m head ls st) := by
    intro k
    induction k with
    | zero => exact fun _ => hx
    | succ k ih => exact fun h => hs k (by omega) (ih (by omega))
  exact go K (Nat.le_refl K) H locs ls hP hD hS hl
end LOOPS
theorem ct_inc (k : Nat) : nI k + Int32.ofInt 1 = nI (k + 1) := by rw [nI_succ]; rfl
theorem ct_dec (k : Nat) : nI k + Int32.ofInt (-1) = nI k - 1 := by rw [Int32.sub_eq_add_neg]; rfl
end
section
def lU (x : Int64) (y : Int32) : Int64 := (x.toUInt64 >>> (y.toInt64.toUInt64 &&& Int64.toUInt64 63)).toInt64
def lL (x : Int64) (y : Int32) : Int64 := x <<< (y.toInt64 &&& 63)
def lR (x : Int64) (y : Int32) : Int64 := x >>> (y.toInt64 &&& 63)
/-- a register of 128 cells: two longs (low, high); what at, add, moveUp, moveDown make of them -/
abbrev R2 : Type := Int64 × Int64
def rg_0 : R2 := (0, 0)
def rg_at (r : R2) (q : Int32) : Int32 := (lU (if 64 ≤ q then r.2 else r.1) q).toInt32 &&& 1
def rg_add (r : R2) (q b : Int32) : R2 := if 64 ≤ q then (r.1, r.2 ^^^ lL b.toInt64 q) else (r.1 ^^^ lL b.toInt64 q, r.2)
def rg_up (r : R2) (f : Int32) : R2 := (lL r.1 1 ||| f.toInt64, lL r.2 1 ||| lU r.1 63)
def rg_dn (r : R2) (f : Int32) : R2 := (lU r.1 1 ||| lL r.2 63, lU r.2 1 ||| lL f.toInt64 63)
section Tops
variable {p : Program} {l : Launch} {e : Env} {R : Room} {s : State} {m : MethodId} {args : Array Value} {below : List Frame} {meth : Method} {c : Code} {H : Heap} {locs : List Loc} {cells slots : Nat} {Q : State → Prop} {pc : Nat} {ls : Array Slot} {rest : List Value}
theorem ct_topi {x y : Int32} (h : x = y) (k : W p l e R s m args below meth c H locs cells slots Q (F0 m pc ls (.int y :: rest))) : W p l e R s m args below meth c H locs cells slots Q (F0 m pc ls (.int x :: rest)) := h ▸ k
theorem ct_topl {x y : Int64} (h : x = y) (k : W p l e R s m args below meth c H locs cells slots Q (F0 m pc ls (.long y :: rest))) : W p l e R s m args below meth c H locs cells slots Q (F0 m pc ls (.long x :: rest)) := h ▸ k
theorem ct_topv {x y : Value} (h : x = y) (k : W p l e R s m args below meth c H locs cells slots Q (F0 m pc ls (y :: rest))) : W p l e R s m args below meth c H locs cells slots Q (F0 m pc ls (x :: rest)) := h ▸ k
end Tops
set_option maxHeartbeats 4000000 in
set_option maxRecDepth 100000 in
/-- Cells.at -/
theorem c_at (l : Launch) (D : va_G) (h0 : Nat) (r : R2) (q : Int32) : Cti l D yX1_at wsX1_at ({ frames := 0, cells := 0, slots := 0, locals := 0 } : Room) [.ref h0, .int q] [] [(h0, .inr (1, [.long r.1, .long r.2]))] [(h0, .inr (1, [.long r.1, .long r.2]))] (rg_at r q) := by
  refine ct_of (cc := cX1_at) (maxL := 2) (ret := (some .int)) (by decide) rfl (Nat.le_of_ble_eq_true rfl) ?_
  intro p e s m below meth c A H locs ls hx hb hr hml hts hown hlk hnm hP hK hD hA hS hl
  have hown : s.vm.findClass RX1 = some m.cls := hown
  have hl : lv_has ls 2 [(0, .ref h0), (1, .int q)] := hl
  have hf_15 := hts (.fieldLink RX1 15 "BitStreams$Cells" "high" "J") (by decide +kernel)
  have hi_X1 : ∀ w ∈ u_ws RX1 TX1 2, w ∈ wsX1_at := by decide +kernel
  have hf_9 := hts (.fieldLink RX1 9 "BitStreams$Cells" "low" "J") (by decide +kernel)
  refine lv_iload_n hx hb dX1_at_0 rfl (lv_at hl 1 rfl) ?_
  refine lv_bipush (v := 64) hx hb dX1_at_1 (by decide) ?_
  refine lv_icmp_ge (tgt := 13) hx hb dX1_at_3 (by decide) (fun c_3_1 => ?_) (fun c_3_1 => ?_)
  · refine lv_aload_n hx hb dX1_at_13 rfl (lv_at hl 0 rfl) ?_
    refine va_get (D := D) (ci := 1) (v := .long r.2) (C := RX1) (T := TX1) (N := 2) hx hb hts hi_X1 hown hK hP 0 rfl rfl 1 (by decide) hf_15 (fun _ h9 => h9) rfl dX1_at_14 ?_
    refine lv_iload_n hx hb dX1_at_17 rfl (lv_at hl 1 rfl) ?_
    refine lv_lushr (v := lU r.2 q) hx hb dX1_at_18 rfl ?_
    refine lv_l2i hx hb dX1_at_19 rfl ?_
    refine lv_iconst (v := 1) hx hb dX1_at_20 (by decide) ?_
    refine lv_iand hx hb dX1_at_21 ?_
    exact ct_zret hx hb hr hlk hP hK hD hS rfl (by rw [rg_at, if_pos c_3_1]) dX1_at_22
  · refine lv_aload_n hx hb dX1_at_6 rfl (lv_at hl 0 rfl) ?_
    refine va_get (D := D) (ci := 1) (v := .long r.1) (C := RX1) (T := TX1) (N := 2) hx hb hts hi_X1 hown hK hP 0 rfl rfl 0 (by decide) hf_9 (fun _ h9 => h9) rfl dX1_at_7 ?_
    refine lv_goto (tgt := 17) hx hb dX1_at_10 (by decide) ?_
    refine lv_iload_n hx hb dX1_at_17 rfl (lv_at hl 1 rfl) ?_
    refine lv_lushr (v := lU r.1 q) hx hb dX1_at_18 rfl ?_
    refine lv_l2i hx hb dX1_at_19 rfl ?_
    refine lv_iconst (v := 1) hx hb dX1_at_20 (by decide) ?_
    refine lv_iand hx hb dX1_at_21 ?_
    exact ct_zret hx hb hr hlk hP hK hD hS rfl (by rw [rg_at, if_neg c_3_1]) dX1_at_22
set_option maxHeartbeats 4000000 in
set_option maxRecDepth 100000 in
/-- Cells.add -/
theorem c_add (l : Launch) (D : va_G) (h0 : Nat) (r : R2) (q b : Int32) : Ctv l D yX1_add wsX1_add ({ frames := 0, cells := 0, slots := 0, locals := 0 } : Room) [.ref h0, .int q, .int b] [] [(h0, .inr (1, [.long r.1, .long r.2]))] [(h0, .inr (1, [.long ((rg_add r q b).1), .long ((rg_add r q b).2)]))] := by
  refine ct_of (cc := cX1_add) (maxL := 3) (ret := none) (by decide) rfl (Nat.le_of_ble_eq_true rfl) ?_
  intro p e s m below meth c A H locs ls hx hb hr hml hts hown hlk hnm hP hK hD hA hS hl
  have hown : s.vm.findClass RX1 = some m.cls := hown
  have hl : lv_has ls 3 [(0, .ref h0), (1, .int q), (2, .int b)] := hl
  have hf_15 := hts (.fieldLink RX1 15 "BitStreams$Cells" "high" "J") (by decide +kernel)
  have hi_X1 : ∀ w ∈ u_ws RX1 TX1 2, w ∈ wsX1_add := by decide +kernel
  have hf_9 := hts (.fieldLink RX1 9 "BitStreams$Cells" "low" "J") (by decide +kernel)
  refine lv_iload_n hx hb dX1_add_0 rfl (lv_at hl 1 rfl) ?_
  refine lv_bipush (v := 64) hx hb dX1_add_1 (by decide) ?_
  refine lv_icmp_ge (tgt := 22) hx hb dX1_add_3 (by decide) (fun c_3_1 => ?_) (fun c_3_1 => ?_)
  · refine lv_aload_n hx hb dX1_add_22 rfl (lv_at hl 0 rfl) ?_
    refine lv_dup hx hb dX1_add_23 rfl ?_
    refine va_get (D := D) (ci := 1) (v := .long r.2) (C := RX1) (T := TX1) (N := 2) hx hb hts hi_X1 hown hK hP 0 rfl rfl 1 (by decide) hf_15 (fun _ h9 => h9) rfl dX1_add_24 ?_
    refine lv_iload_n hx hb dX1_add_27 rfl (lv_at hl 2 rfl) ?_
    refine lv_i2l hx hb dX1_add_28 rfl ?_
    refine lv_iload_n hx hb dX1_add_29 rfl (lv_at hl 1 rfl) ?_
    refine lv_lshl (v := lL b.toInt64 q) hx hb dX1_add_30 rfl ?_
    refine lv_lxor hx hb dX1_add_31 ?_
    refine va_put (D := D) (ci := 1) (v := .long (r.2 ^^^ (lL b.toInt64 q))) (ty := .long) (C := RX1) (T := TX1) (N := 2) hx hb hts hi_X1 tyX1 tyX1_ok nmX1 hown hK hP hD hS 0 rfl rfl 1 (by decide) hf_15 (fun _ h9 => h9) rfl (by decide +kernel) rfl rfl (Nat.le_of_ble_eq_true rfl) dX1_add_32 (fun H locs hP hD hS => ?_)
    have hP : va_P D vwCl [(h0, .inr (1, [.long r.1, .long (r.2 ^^^ (lL b.toInt64 q))]))] H := hP
    have hD : va_D A [(h0, .inr (1, [.long r.1, .long (r.2 ^^^ (lL b.toInt64 q))]))] := hD
    have hP : va_P D vwCl [(h0, .inr (1, [.long ((rg_add r q b).1), .long ((rg_add r q b).2)]))] H := by rw [rg_add, if_pos c_3_1]; exact hP
    have hD : va_D A [(h0, .inr (1, [.long ((rg_add r q b).1), .long ((rg_add r q b).2)]))] := by rw [rg_add, if_pos c_3_1]; exact hD
    exact ct_vret hx hb hr hlk hP hK hD hS dX1_add_35
  · refine lv_aload_n hx hb dX1_add_6 rfl (lv_at hl 0 rfl) ?_
    refine lv_dup hx hb dX1_add_7 rfl ?_
    refine va_get (D := D) (ci := 1) (v := .long r.1) (C := RX1) (T := TX1) (N := 2) hx hb hts hi_X1 hown hK hP 0 rfl rfl 0 (by decide) hf_9 (fun _ h9 => h9) rfl dX1_add_8 ?_
    refine lv_iload_n hx hb dX1_add_11 rfl (lv_at hl 2 rfl) ?_
    refine lv_i2l hx hb dX1_add_12 rfl ?_
    refine lv_iload_n hx hb dX1_add_13 rfl (lv_at hl 1 rfl) ?_
    refine lv_lshl (v := lL b.toInt64 q) hx hb dX1_add_14 rfl ?_
    refine lv_lxor hx hb dX1_add_15 ?_
    refine va_put (D := D) (ci := 1) (v := .long (r.1 ^^^ (lL b.toInt64 q))) (ty := .long) (C := RX1) (T := TX1) (N := 2) hx hb hts hi_X1 tyX1 tyX1_ok nmX1 hown hK hP hD hS 0 rfl rfl 0 (by decide) hf_9 (fun _ h9 => h9) rfl (by decide +kernel) rfl rfl (Nat.le_of_ble_eq_true rfl) dX1_add_16 (fun H locs hP hD hS => ?_)
    have hP : va_P D vwCl [(h0, .inr (1, [.long (r.1 ^^^ (lL b.toInt64 q)), .long r.2]))] H := hP
    have hD : va_D A [(h0, .inr (1, [.long (r.1 ^^^ (lL b.toInt64 q)), .long r.2]))] := hD
    refine lv_goto (tgt := 35) hx hb dX1_add_19 (by decide) ?_
    have hP : va_P D vwCl [(h0, .inr (1, [.long ((rg_add r q b).1), .long ((rg_add r q b).2)]))] H := by rw [rg_add, if_neg c_3_1]; exact hP
    have hD : va_D A [(h0, .inr (1, [.long ((rg_add r q b).1), .long ((rg_add r q b).2)]))] := by rw [rg_add, if_neg c_3_1]; exact hD
    exact ct_vret hx hb hr hlk hP hK hD hS dX1_add_35
set_option maxHeartbeats 4000000 in
set_option maxRecDepth 100000 in
/-- Cells.moveUp -/
theorem c_up (l : Launch) (D : va_G) (h0 : Nat) (r : R2) (f : Int32) : Ctv l D yX1_moveUp wsX1_moveUp ({ frames := 0, cells := 0, slots := 0, locals := 0 } : Room) [.ref h0, .int f] [] [(h0, .inr (1, [.long r.1, .long r.2]))] [(h0, .inr (1, [.long ((rg_up r f).1), .long ((rg_up r f).2)]))] := by
  refine ct_of (cc := cX1_moveUp) (maxL := 2) (ret := none) (by decide) rfl (Nat.le_of_ble_eq_true rfl) ?_
  intro p e s m below meth c A H locs ls hx hb hr hml hts hown hlk hnm hP hK hD hA hS hl
  have hown : s.vm.findClass RX1 = some m.cls := hown
  have hl : lv_has ls 2 [(0, .ref h0), (1, .int f)] := hl
  have hf_15 := hts (.fieldLink RX1 15 "BitStreams$Cells" "high" "J") (by decide +kernel)
  have hi_X1 : ∀ w ∈ u_ws RX1 TX1 2, w ∈ wsX1_moveUp := by decide +kernel
  have hf_9 := hts (.fieldLink RX1 9 "BitStreams$Cells" "low" "J") (by decide +kernel)
  refine lv_aload_n hx hb dX1_moveUp_0 rfl (lv_at hl 0 rfl) ?_
  refine lv_aload_n hx hb dX1_moveUp_1 rfl (lv_at hl 0 rfl) ?_
  refine va_get (D := D) (ci := 1) (v := .long r.2) (C := RX1) (T := TX1) (N := 2) hx hb hts hi_X1 hown hK hP 0 rfl rfl 1 (by decide) hf_15 (fun _ h9 => h9) rfl dX1_moveUp_2 ?_
  refine lv_iconst (v := 1) hx hb dX1_moveUp_5 (by decide) ?_
  refine lv_lshl (v := lL r.2 1) hx hb dX1_moveUp_6 rfl ?_
  refine lv_aload_n hx hb dX1_moveUp_7 rfl (lv_at hl 0 rfl) ?_
  refine va_get (D := D) (ci := 1) (v := .long r.1) (C := RX1) (T := TX1) (N := 2) hx hb hts hi_X1 hown hK hP 0 rfl rfl 0 (by decide) hf_9 (fun _ h9 => h9) rfl dX1_moveUp_8 ?_
  refine lv_bipush (v := 63) hx hb dX1_moveUp_11 (by decide) ?_
  refine lv_lushr (v := lU r.1 63) hx hb dX1_moveUp_13 rfl ?_
  refine lv_lor hx hb dX1_moveUp_14 ?_
  refine va_put (D := D) (ci := 1) (v := .long ((lL r.2 1) ||| (lU r.1 63))) (ty := .long) (C := RX1) (T := TX1) (N := 2) hx hb hts hi_X1 tyX1 tyX1_ok nmX1 hown hK hP hD hS 0 rfl rfl 1 (by decide) hf_15 (fun _ h9 => h9) rfl (by decide +kernel) rfl rfl (Nat.le_of_ble_eq_true rfl) dX1_moveUp_15 (fun H locs hP hD hS => ?_)
  have hP : va_P D vwCl [(h0, .inr (1, [.long r.1, .long ((lL r.2 1) ||| (lU r.1 63))]))] H := hP
  have hD : va_D A [(h0, .inr (1, [.long r.1, .long ((lL r.2 1) ||| (lU r.1 63))]))] := hD
  refine lv_aload_n hx hb dX1_moveUp_18 rfl (lv_at hl 0 rfl) ?_
  refine lv_aload_n hx hb dX1_moveUp_19 rfl (lv_at hl 0 rfl) ?_
  refine va_get (D := D) (ci := 1) (v := .long r.1) (C := RX1) (T := TX1) (N := 2) hx hb hts hi_X1 hown hK hP 0 rfl rfl 0 (by decide) hf_9 (fun _ h9 => h9) rfl dX1_moveUp_20 ?_
  refine lv_iconst (v := 1) hx hb dX1_moveUp_23 (by decide) ?_
  refine lv_lshl (v := lL r.1 1) hx hb dX1_moveUp_24 rfl ?_
  refine lv_iload_n hx hb dX1_moveUp_25 rfl (lv_at hl 1 rfl) ?_
  refine lv_i2l hx hb dX1_moveUp_26 rfl ?_
  refine lv_lor hx hb dX1_moveUp_27 ?_
  refine va_put (D := D) (ci := 1) (v := .long ((lL r.1 1) ||| f.toInt64)) (ty := .long) (C := RX1) (T := TX1) (N := 2) hx hb hts hi_X1 tyX1 tyX1_ok nmX1 hown hK hP hD hS 0 rfl rfl 0 (by decide) hf_9 (fun _ h9 => h9) rfl (by decide +kernel) rfl rfl (Nat.le_of_ble_eq_true rfl) dX1_moveUp_28 (fun H locs hP hD hS => ?_)
  have hP : va_P D vwCl [(h0, .inr (1, [.long ((lL r.1 1) ||| f.toInt64), .long ((lL r.2 1) ||| (lU r.1 63))]))] H := hP
  have hD : va_D A [(h0, .inr (1, [.long ((lL r.1 1) ||| f.toInt64), .long ((lL r.2 1) ||| (lU r.1 63))]))] := hD
  exact ct_vret hx hb hr hlk hP hK hD hS dX1_moveUp_31
set_option maxHeartbeats 4000000 in
set_option maxRecDepth 100000 in
/-- Cells.moveDown -/
theorem c_dn (l : Launch) (D : va_G) (h0 : Nat) (r : R2) (f : Int32) : Ctv l D yX1_moveDown wsX1_moveDown ({ frames := 0, cells := 0, slots := 0, locals := 0 } : Room) [.ref h0, .int f] [] [(h0, .inr (1, [.long r.1, .long r.2]))] [(h0, .inr (1, [.long ((rg_dn r f).1), .long ((rg_dn r f).2)]))] := by
  refine ct_of (cc := cX1_moveDown) (maxL := 2) (ret := none) (by decide) rfl (Nat.le_of_ble_eq_true rfl) ?_
  intro p e s m below meth c A H locs ls hx hb hr hml hts hown hlk hnm hP hK hD hA hS hl
  have hown : s.vm.findClass RX1 = some m.cls := hown
  have hl : lv_has ls 2 [(0, .ref h0), (1, .int f)] := hl
  have hf_9 := hts (.fieldLink RX1 9 "BitStreams$Cells" "low" "J") (by decide +kernel)
  have hi_X1 : ∀ w ∈ u_ws RX1 TX1 2, w ∈ wsX1_moveDown := by decide +kernel
  have hf_15 := hts (.fieldLink RX1 15 "BitStreams$Cells" "high" "J") (by decide +kernel)
  refine lv_aload_n hx hb dX1_moveDown_0 rfl (lv_at hl 0 rfl) ?_
  refine lv_aload_n hx hb dX1_moveDown_1 rfl (lv_at hl 0 rfl) ?_
  refine va_get (D := D) (ci := 1) (v := .long r.1) (C := RX1) (T := TX1) (N := 2) hx hb hts hi_X1 hown hK hP 0 rfl rfl 0 (by decide) hf_9 (fun _ h9 => h9) rfl dX1_moveDown_2 ?_
  refine lv_iconst (v := 1) hx hb dX1_moveDown_5 (by decide) ?_
  refine lv_lushr (v := lU r.1 1) hx hb dX1_moveDown_6 rfl ?_
  refine lv_aload_n hx hb dX1_moveDown_7 rfl (lv_at hl 0 rfl) ?_
  refine va_get (D := D) (ci := 1) (v := .long r.2) (C := RX1) (T := TX1) (N := 2) hx hb hts hi_X1 hown hK hP 0 rfl rfl 1 (by decide) hf_15 (fun _ h9 => h9) rfl dX1_moveDown_8 ?_
  refine lv_bipush (v := 63) hx hb dX1_moveDown_11 (by decide) ?_
  refine lv_lshl (v := lL r.2 63) hx hb dX1_moveDown_13 rfl ?_
  refine lv_lor hx hb dX1_moveDown_14 ?_
  refine va_put (D := D) (ci := 1) (v := .long ((lU r.1 1) ||| (lL r.2 63))) (ty := .long) (C := RX1) (T := TX1) (N := 2) hx hb hts hi_X1 tyX1 tyX1_ok nmX1 hown hK hP hD hS 0 rfl rfl 0 (by decide) hf_9 (fun _ h9 => h9) rfl (by decide +kernel) rfl rfl (Nat.le_of_ble_eq_true rfl) dX1_moveDown_15 (fun H locs hP hD hS => ?_)
  have hP : va_P D vwCl [(h0, .inr (1, [.long ((lU r.1 1) ||| (lL r.2 63)), .long r.2]))] H := hP
  have hD : va_D A [(h0, .inr (1, [.long ((lU r.1 1) ||| (lL r.2 63)), .long r.2]))] := hD
  refine lv_aload_n hx hb dX1_moveDown_18 rfl (lv_at hl 0 rfl) ?_
  refine lv_aload_n hx hb dX1_moveDown_19 rfl (lv_at hl 0 rfl) ?_
  refine va_get (D := D) (ci := 1) (v := .long r.2) (C := RX1) (T := TX1) (N := 2) hx hb hts hi_X1 hown hK hP 0 rfl rfl 1 (by decide) hf_15 (fun _ h9 => h9) rfl dX1_moveDown_20 ?_
  refine lv_iconst (v := 1) hx hb dX1_moveDown_23 (by decide) ?_
  refine lv_lushr (v := lU r.2 1) hx hb dX1_moveDown_24 rfl ?_
  refine lv_iload_n hx hb dX1_moveDown_25 rfl (lv_at hl 1 rfl) ?_
  refine lv_i2l hx hb dX1_moveDown_26 rfl ?_
  refine lv_bipush (v := 63) hx hb dX1_moveDown_27 (by decide) ?_
  refine lv_lshl (v := lL f.toInt64 63) hx hb dX1_moveDown_29 rfl ?_
  refine lv_lor hx hb dX1_moveDown_30 ?_
  refine va_put (D := D) (ci := 1) (v := .long ((lU r.2 1) ||| (lL f.toInt64 63))) (ty := .long) (C := RX1) (T := TX1) (N := 2) hx hb hts hi_X1 tyX1 tyX1_ok nmX1 hown hK hP hD hS 0 rfl rfl 1 (by decide) hf_15 (fun _ h9 => h9) rfl (by decide +kernel) rfl rfl (Nat.le_of_ble_eq_true rfl) dX1_moveDown_31 (fun H locs hP hD hS => ?_)
  have hP : va_P D vwCl [(h0, .inr (1, [.long ((lU r.1 1) ||| (lL r.2 63)), .long ((lU r.2 1) ||| (lL f.toInt64 63))]))] H := hP
  have hD : va_D A [(h0, .inr (1, [.long ((lU r.1 1) ||| (lL r.2 63)), .long ((lU r.2 1) ||| (lL f.toInt64 63))]))] := hD
  exact ct_vret hx hb hr hlk hP hK hD hS dX1_moveDown_34
set_option maxHeartbeats 4000000 in
set_option maxRecDepth 100000 in
/-- Cells.clear -/
theorem c_clr (l : Launch) (D : va_G) (h0 : Nat) (r : R2) : Ctv l D yX1_clear wsX1_clear ({ frames := 0, cells := 0, slots := 0, locals := 0 } : Room) [.ref h0] [] [(h0, .inr (1, [.long r.1, .long r.2]))] [(h0, .inr (1, [.long rg_0.1, .long rg_0.2]))] := by
  refine ct_of (cc := cX1_clear) (maxL := 1) (ret := none) (by decide) rfl (Nat.le_of_ble_eq_true rfl) ?_
  intro p e s m below meth c A H locs ls hx hb hr hml hts hown hlk hnm hP hK hD hA hS hl
  have hown : s.vm.findClass RX1 = some m.cls := hown
  have hl : lv_has ls 1 [(0, .ref h0)] := hl
  have hf_9 := hts (.fieldLink RX1 9 "BitStreams$Cells" "low" "J") (by decide +kernel)
  have hi_X1 : ∀ w ∈ u_ws RX1 TX1 2, w ∈ wsX1_clear := by decide +kernel
  have hf_15 := hts (.fieldLink RX1 15 "BitStreams$Cells" "high" "J") (by decide +kernel)
  refine lv_aload_n hx hb dX1_clear_0 rfl (lv_at hl 0 rfl) ?_
  refine lv_lconst (v := 0) hx hb dX1_clear_1 (by decide) ?_
  refine va_put (D := D) (ci := 1) (v := .long 0) (ty := .long) (C := RX1) (T := TX1) (N := 2) hx hb hts hi_X1 tyX1 tyX1_ok nmX1 hown hK hP hD hS 0 rfl rfl 0 (by decide) hf_9 (fun _ h9 => h9) rfl (by decide +kernel) rfl rfl (Nat.le_of_ble_eq_true rfl) dX1_clear_2 (fun H locs hP hD hS => ?_)
  have hP : va_P D vwCl [(h0, .inr (1, [.long 0, .long r.2]))] H := hP
  have hD : va_D A [(h0, .inr (1, [.long 0, .long r.2]))] := hD
  refine lv_aload_n hx hb dX1_clear_5 rfl (lv_at hl 0 rfl) ?_
  refine lv_lconst (v := 0) hx hb dX1_clear_6 (by decide) ?_
  refine va_put (D := D) (ci := 1) (v := .long 0) (ty := .long) (C := RX1) (T := TX1) (N := 2) hx hb hts hi_X1 tyX1 tyX1_ok nmX1 hown hK hP hD hS 0 rfl rfl 1 (by decide) hf_15 (fun _ h9 => h9) rfl (by decide +kernel) rfl rfl (Nat.le_of_ble_eq_true rfl) dX1_clear_7 (fun H locs hP hD hS => ?_)
  have hP : va_P D vwCl [(h0, .inr (1, [.long 0, .long 0]))] H := hP
  have hD : va_D A [(h0, .inr (1, [.long 0, .long 0]))] := hD
  exact ct_vret hx hb hr hlk hP hK hD hS dX1_clear_10
end
section
/-- Bytes: what at, bit, append make of a row f of z bytes -/
def by_at (f : Nat → Int32) (z i : Int32) : Int32 := if i < 0 then 0 else if z ≤ i then 0 else f i.toNatClampNeg
def by_bit (f : Nat → Int32) (z i : Int32) : Int32 := by_at f z (i >>> (3 &&& 31)) >>> ((7 - (i &&& 7)) &&& 31) &&& 1
def by_b (v : Int64) (k : Nat) : Int32 := (lU v (8 * nI k)).toInt32 &&& 255
def by_app (f : Nat → Int32) (z : Nat) (v : Int64) (m : Nat) : Nat → Nat → Int32
  | 0 => f
  | j + 1 => upd (by_app f z v m j) (z + j) (by_b v (m - 1 - j))
theorem by_in {z N : Nat} {i : Int32} (h0 : ¬ i < 0) (h1 : ¬ nI z ≤ i) (hz : z ≤ N) (hN : N < 2 ^ 31) : vp_in i N := by
  obtain ⟨j, hj, rfl⟩ := nI_of h0
  have : j < z := by
    rcases Nat.lt_or_ge j z with h | h
    · exact h
    · exact absurd (nI_le h hj) h1
  exact vp_in_nI (by omega) hN
theorem by_le {z m N : Nat} (h : z + m ≤ N) (hN : N < 2 ^ 31) : nI z + nI m ≤ nI N := by
  rw [nI_add]; exact nI_le h hN
set_option maxHeartbeats 4000000 in
set_option maxRecDepth 100000 in
/-- Bytes.at -/
theorem c_by_at (l : Launch) (D : va_G) (h0 q : Nat) (kA : ClassId) (N z : Nat) (hz : z ≤ N) (hN : N < 2 ^ 31) (f : Nat → Int32) (i : Int32) : Cti l D yX0_at wsX0_at ({ frames := 0, cells := 0, slots := 0, locals := 0 } : Room) [.ref h0, .int i] [(kA, .int)] [(h0, .inr (0, [.ref q, .int (nI z)])), (q, .inl (kA, N, .inl f))] [(h0, .inr (0, [.ref q, .int (nI z)])), (q, .inl (kA, N, .inl f))] (by_at f (nI z) i) := by
  refine ct_of (cc := cX0_at) (maxL := 2) (ret := (some .int)) (by decide) rfl (Nat.le_of_ble_eq_true rfl) ?_
  intro p e s m below meth c A H locs ls hx hb hr hml hts hown hlk hnm hP hK hD hA hS hl
  have hown : s.vm.findClass RX0 = some m.cls := hown
  have hl : lv_has ls 2 [(0, .ref h0), (1, .int i)] := hl
  have hf_15 := hts (.fieldLink RX0 15 "BitStreams$Bytes" "size" "I") (by decide +kernel)
  have hi_X0 : ∀ w ∈ u_ws RX0 TX0 2, w ∈ wsX0_at := by decide +kernel
  have hf_9 := hts (.fieldLink RX0 9 "BitStreams$Bytes" "held" "[I") (by decide +kernel)
  refine lv_iload_n hx hb dX0_at_0 rfl (lv_at hl 1 rfl) ?_
  refine lv_if_lt (tgt := 21) hx hb dX0_at_1 (by decide) (fun c_1_1 => ?_) (fun c_1_1 => ?_)
  · refine lv_iconst (v := 0) hx hb dX0_at_21 (by decide) ?_
    exact ct_zret hx hb hr hlk hP hK hD hS rfl (by rw [by_at, if_pos c_1_1]) dX0_at_22
  · refine lv_iload_n hx hb dX0_at_4 rfl (lv_at hl 1 rfl) ?_
    refine lv_aload_n hx hb dX0_at_5 rfl (lv_at hl 0 rfl) ?_
    refine va_get (D := D) (ci := 0) (v := .int (nI z)) (C := RX0) (T := TX0) (N := 2) hx hb hts hi_X0 hown hK hP 0 rfl rfl 1 (by decide) hf_15 (fun _ h9 => h9) rfl dX0_at_6 ?_
    refine lv_icmp_ge (tgt := 21) hx hb dX0_at_9 (by decide) (fun c_9_2 => ?_) (fun c_9_2 => ?_)
    · refine lv_iconst (v := 0) hx hb dX0_at_21 (by decide) ?_
      exact ct_zret hx hb hr hlk hP hK hD hS rfl (by rw [by_at, if_neg c_1_1, if_pos c_9_2]) dX0_at_22
    · refine lv_aload_n hx hb dX0_at_12 rfl (lv_at hl 0 rfl) ?_
      refine va_get (D := D) (ci := 0) (v := .ref q) (C := RX0) (T := TX0) (N := 2) hx hb hts hi_X0 hown hK hP 0 rfl rfl 0 (by decide) hf_9 (fun _ h9 => h9) rfl dX0_at_13 ?_
      refine lv_iload_n hx hb dX0_at_16 rfl (lv_at hl 1 rfl) ?_
      refine va_iald hx hb hK hP 1 0 rfl rfl (by_in c_1_1 c_9_2 hz hN) dX0_at_17 ?_
      refine lv_goto (tgt := 22) hx hb dX0_at_18 (by decide) ?_
      exact ct_zret hx hb hr hlk hP hK hD hS rfl (by rw [by_at, if_neg c_1_1, if_neg c_9_2]) dX0_at_22
set_option maxHeartbeats 4000000 in
set_option maxRecDepth 100000 in
/-- Bytes.size -/
theorem c_by_size (l : Launch) (D : va_G) (h0 q : Nat) (z : Int32) : Cti l D yX0_size wsX0_size ({ frames := 0, cells := 0, slots := 0, locals := 0 } : Room) [.ref h0] [] [(h0, .inr (0, [.ref q, .int z]))] [(h0, .inr (0, [.ref q, .int z]))] z := by
  refine ct_of (cc := cX0_size) (maxL := 1) (ret := (some .int)) (by decide) rfl (Nat.le_of_ble_eq_true rfl) ?_
  intro p e s m below meth c A H locs ls hx hb hr hml hts hown hlk hnm hP hK hD hA hS hl
  have hown : s.vm.findClass RX0 = some m.cls := hown
  have hl : lv_has ls 1 [(0, .ref h0)] := hl
  have hf_15 := hts (.fieldLink RX0 15 "BitStreams$Bytes" "size" "I") (by decide +kernel)
  have hi_X0 : ∀ w ∈ u_ws RX0 TX0 2, w ∈ wsX0_size := by decide +kernel
  refine lv_aload_n hx hb dX0_size_0 rfl (lv_at hl 0 rfl) ?_
  refine va_get (D := D) (ci := 0) (v := .int z) (C := RX0) (T := TX0) (N := 2) hx hb hts hi_X0 hown hK hP 0 rfl rfl 1 (by decide) hf_15 (fun _ h9 => h9) rfl dX0_size_1 ?_
  exact ct_zret hx hb hr hlk hP hK hD hS rfl rfl dX0_size_4
set_option maxHeartbeats 4000000 in
set_option maxRecDepth 100000 in
/-- Bytes.clear -/
theorem c_by_clr (l : Launch) (D : va_G) (h0 q : Nat) (z : Int32) : Ctv l D yX0_clear wsX0_clear ({ frames := 0, cells := 0, slots := 0, locals := 0 } : Room) [.ref h0] [] [(h0, .inr (0, [.ref q, .int z]))] [(h0, .inr (0, [.ref q, .int (nI 0)]))] := by
  refine ct_of (cc := cX0_clear) (maxL := 1) (ret := none) (by decide) rfl (Nat.le_of_ble_eq_true rfl) ?_
  intro p e s m below meth c A H locs ls hx hb hr hml hts hown hlk hnm hP hK hD hA hS hl
  have hown : s.vm.findClass RX0 = some m.cls := hown
  have hl : lv_has ls 1 [(0, .ref h0)] := hl
  have hf_15 := hts (.fieldLink RX0 15 "BitStreams$Bytes" "size" "I") (by decide +kernel)
  have hi_X0 : ∀ w ∈ u_ws RX0 TX0 2, w ∈ wsX0_clear := by decide +kernel
  refine lv_aload_n hx hb dX0_clear_0 rfl (lv_at hl 0 rfl) ?_
  refine lv_iconst (v := 0) hx hb dX0_clear_1 (by decide) ?_
  refine va_put (D := D) (ci := 0) (v := .int 0) (ty := .int) (C := RX0) (T := TX0) (N := 2) hx hb hts hi_X0 tyX0 tyX0_ok nmX0 hown hK hP hD hS 0 rfl rfl 1 (by decide) hf_15 (fun _ h9 => h9) rfl (by decide +kernel) rfl rfl (Nat.le_of_ble_eq_true rfl) dX0_clear_2 (fun H locs hP hD hS => ?_)
  have hP : va_P D vwCl [(h0, .inr (0, [.ref q, .int 0]))] H := hP
  have hD : va_D A [(h0, .inr (0, [.ref q, .int 0]))] := hD
  exact ct_vret hx hb hr hlk hP hK hD hS dX0_clear_5
set_option maxHeartbeats 4000000 in
set_option maxRecDepth 100000 in
/-- Bytes.bit -/
theorem c_by_bit (l : Launch) (D : va_G) (h0 q : Nat) (kA : ClassId) (N z : Nat) (hz : z ≤ N) (hN : N < 2 ^ 31) (f : Nat → Int32) (i : Int32) : Cti l D yX0_bit wsX0_bit ({ frames := 1, cells := 0, slots := 0, locals := 21 } : Room) [.ref h0, .int i] [(kA, .int)] [(h0, .inr (0, [.ref q, .int (nI z)])), (q, .inl (kA, N, .inl f))] [(h0, .inr (0, [.ref q, .int (nI z)])), (q, .inl (kA, N, .inl f))] (by_bit f (nI z) i) := by
  refine ct_of (cc := cX0_bit) (maxL := 2) (ret := (some .int)) (by decide) rfl (Nat.le_of_ble_eq_true rfl) ?_
  intro p e s m below meth c A H locs ls hx hb hr hml hts hown hlk hnm hP hK hD hA hS hl
  have hown : s.vm.findClass RX0 = some m.cls := hown
  have hl : lv_has ls 2 [(0, .ref h0), (1, .int i)] := hl
  have cw_X0_at := cwV (R := ({ frames := 1, cells := 0, slots := 0, locals := 21 } : Room)) (rm := ({ frames := 0, cells := 0, slots := 0, locals := 0 } : Room)) 1 hts gX0_bit_X0_at rfl rfl rfl (by decide +kernel) ⟨Nat.le_of_ble_eq_true rfl, Nat.le_of_ble_eq_true rfl⟩
  refine lv_aload_n hx hb dX0_bit_0 rfl (lv_at hl 0 rfl) ?_
  refine lv_iload_n hx hb dX0_bit_1 rfl (lv_at hl 1 rfl) ?_
  refine lv_iconst (v := 3) hx hb dX0_bit_2 (by decide) ?_
  refine lv_ishr hx hb dX0_bit_3 ?_
  refine ct_callVi (As := [.int (i >>> (3 &&& 31))]) (rest := []) (wr := []) (ws2 := [(h0, .inr (0, [.ref q, .int (nI z)])), (q, .inl (kA, N, .inl f))]) ⟨hx, hb, hml, hown, hts⟩ (c_by_at l D h0 q kA N z hz hN f (i >>> (3 &&& 31))) cw_X0_at [0] rfl [0, 1] [] [0, 1] hK hP hD hS hA 0 0 rfl rfl rfl rfl (by decide) rfl (by decide) (by decide) rfl (by decide) rfl hl.1 rfl (Nat.le_of_ble_eq_true rfl) dX0_bit_4 ⟨Nat.zero_le _, Nat.zero_le _⟩ (fun H locs hP hD hS => ?_)
  refine lv_bipush (v := 7) hx hb dX0_bit_7 (by decide) ?_
  refine lv_iload_n hx hb dX0_bit_9 rfl (lv_at hl 1 rfl) ?_
  refine lv_bipush (v := 7) hx hb dX0_bit_10 (by decide) ?_
  refine lv_iand hx hb dX0_bit_12 ?_
  refine lv_isub hx hb dX0_bit_13 ?_
  refine lv_ishr hx hb dX0_bit_14 ?_
  refine lv_iconst (v := 1) hx hb dX0_bit_15 (by decide) ?_
  refine lv_iand hx hb dX0_bit_16 ?_
  exact ct_zret hx hb hr hlk hP hK hD hS rfl rfl dX0_bit_17
set_option maxHeartbeats 4000000 in
set_option maxRecDepth 100000 in
/-- Bytes.append, refused -/
theorem c_by_appF (l : Launch) (D : va_G) (h0 q : Nat) (kA : ClassId) (N z : Nat) (hz : z ≤ N) (hN : N < 2 ^ 31) (f : Nat → Int32) (v : Int64) (n : Int32) (hn : ¬ (¬ n < 1 ∧ ¬ 8 < n ∧ nI z + n ≤ nI N)) : Cti l D yX0_append wsX0_append ({ frames := 0, cells := 0, slots := 0, locals := 0 } : Room) [.ref h0, .long v, .int n] [(kA, .int)] [(h0, .inr (0, [.ref q, .int (nI z)])), (q, .inl (kA, N, .inl f))] [(h0, .inr (0, [.ref q, .int (nI z)])), (q, .inl (kA, N, .inl f))] 0 := by
  refine ct_of (cc := cX0_append) (maxL := 5) (ret := (some .boolean)) (by decide) rfl (Nat.le_of_ble_eq_true rfl) ?_
  intro p e s m below meth c A H locs ls hx hb hr hml hts hown hlk hnm hP hK hD hA hS hl
  have hown : s.vm.findClass RX0 = some m.cls := hown
  have hl : lv_has ls 5 [(0, .ref h0), (1, .long v), (3, .int n)] := hl
  have hf_15 := hts (.fieldLink RX0 15 "BitStreams$Bytes" "size" "I") (by decide +kernel)
  have hi_X0 : ∀ w ∈ u_ws RX0 TX0 2, w ∈ wsX0_append := by decide +kernel
  have hf_9 := hts (.fieldLink RX0 9 "BitStreams$Bytes" "held" "[I") (by decide +kernel)
  refine lv_iload_n hx hb dX0_append_0 rfl (lv_at hl 2 rfl) ?_
  refine lv_iconst (v := 1) hx hb dX0_append_1 (by decide) ?_
  refine lv_icmp_lt (tgt := 25) hx hb dX0_append_2 (by decide) (fun c_2_1 => ?_) (fun c_2_1 => ?_)
  · refine lv_iconst (v := 0) hx hb dX0_append_25 (by decide) ?_
    exact ct_zret hx hb hr hlk hP hK hD hS rfl rfl dX0_append_26
  · refine lv_iload_n hx hb dX0_append_5 rfl (lv_at hl 2 rfl) ?_
    refine lv_bipush (v := 8) hx hb dX0_append_6 (by decide) ?_
    refine lv_icmp_gt (tgt := 25) hx hb dX0_append_8 (by decide) (fun c_8_2 => ?_) (fun c_8_2 => ?_)
    · refine lv_iconst (v := 0) hx hb dX0_append_25 (by decide) ?_
      exact ct_zret hx hb hr hlk hP hK hD hS rfl rfl dX0_append_26
    · refine lv_aload_n hx hb dX0_append_11 rfl (lv_at hl 0 rfl) ?_
      refine va_get (D := D) (ci := 0) (v := .int (nI z)) (C := RX0) (T := TX0) (N := 2) hx hb hts hi_X0 hown hK hP 0 rfl rfl 1 (by decide) hf_15 (fun _ h9 => h9) rfl dX0_append_12 ?_
      refine lv_iload_n hx hb dX0_append_15 rfl (lv_at hl 2 rfl) ?_
      refine lv_iadd hx hb dX0_append_16 ?_
      refine lv_aload_n hx hb dX0_append_17 rfl (lv_at hl 0 rfl) ?_
      refine va_get (D := D) (ci := 0) (v := .ref q) (C := RX0) (T := TX0) (N := 2) hx hb hts hi_X0 hown hK hP 0 rfl rfl 0 (by decide) hf_9 (fun _ h9 => h9) rfl dX0_append_18 ?_
      refine va_alen (v := nI N) hx hb hK hP 1 0 rfl rfl rfl dX0_append_21 ?_
      refine lv_icmp_le (tgt := 27) hx hb dX0_append_22 (by decide) (fun hh => absurd hh (fun hle => hn ⟨c_2_1, c_8_2, hle⟩)) (fun _ => ?_)
      refine lv_iconst (v := 0) hx hb dX0_append_25 (by decide) ?_
      exact ct_zret hx hb hr hlk hP hK hD hS rfl rfl dX0_append_26
set_option maxHeartbeats 4000000 in
set_option maxRecDepth 100000 in
/-- Bytes.append, taken -/
theorem c_by_appT (l : Launch) (D : va_G) (h0 q : Nat) (kA : ClassId) (N z : Nat) (hz : z ≤ N) (hN : N < 2 ^ 31) (f : Nat → Int32) (v : Int64) (mm : Nat) (hm1 : 1 ≤ mm) (hm8 : mm ≤ 8) (hmN : z + mm ≤ N) (hn1 : ¬ nI mm < 1) (hn8 : ¬ 8 < nI mm) (hnN : nI z + nI mm ≤ nI N) : Cti l D yX0_append wsX0_append ({ frames := 0, cells := 0, slots := 0, locals := 0 } : Room) [.ref h0, .long v, .int (nI mm)] [(kA, .int)] [(h0, .inr (0, [.ref q, .int (nI z)])), (q, .inl (kA, N, .inl f))] [(h0, .inr (0, [.ref q, .int (nI (z + mm))])), (q, .inl (kA, N, .inl (by_app f z v mm mm)))] 1 := by
  refine ct_of (cc := cX0_append) (maxL := 5) (ret := (some .boolean)) (by decide) rfl (Nat.le_of_ble_eq_true rfl) ?_
  intro p e s m below meth c A H locs ls hx hb hr hml hts hown hlk hnm hP hK hD hA hS hl
  have hown : s.vm.findClass RX0 = some m.cls := hown
  have hl : lv_has ls 5 [(0, .ref h0), (1, .long v), (3, .int (nI mm))] := hl
  have hf_15 := hts (.fieldLink RX0 15 "BitStreams$Bytes" "size" "I") (by decide +kernel)
  have hi_X0 : ∀ w ∈ u_ws RX0 TX0 2, w ∈ wsX0_append := by decide +kernel
  have hf_9 := hts (.fieldLink RX0 9 "BitStreams$Bytes" "held" "[I") (by decide +kernel)
  refine lv_iload_n hx hb dX0_append_0 rfl (lv_at hl 2 rfl) ?_
  refine lv_iconst (v := 1) hx hb dX0_append_1 (by decide) ?_
  refine lv_icmp_lt (tgt := 25) hx hb dX0_append_2 (by decide) (fun hh => absurd hh hn1) (fun _ => ?_)
  refine lv_iload_n hx hb dX0_append_5 rfl (lv_at hl 2 rfl) ?_
  refine lv_bipush (v := 8) hx hb dX0_append_6 (by decide) ?_
  refine lv_icmp_gt (tgt := 25) hx hb dX0_append_8 (by decide) (fun hh => absurd hh hn8) (fun _ => ?_)
  refine lv_aload_n hx hb dX0_append_11 rfl (lv_at hl 0 rfl) ?_
  refine va_get (D := D) (ci := 0) (v := .int (nI z)) (C := RX0) (T := TX0) (N := 2) hx hb hts hi_X0 hown hK hP 0 rfl rfl 1 (by decide) hf_15 (fun _ h9 => h9) rfl dX0_append_12 ?_
  refine lv_iload_n hx hb dX0_append_15 rfl (lv_at hl 2 rfl) ?_
  refine lv_iadd hx hb dX0_append_16 ?_
  refine lv_aload_n hx hb dX0_append_17 rfl (lv_at hl 0 rfl) ?_
  refine va_get (D := D) (ci := 0) (v := .ref q) (C := RX0) (T := TX0) (N := 2) hx hb hts hi_X0 hown hK hP 0 rfl rfl 0 (by decide) hf_9 (fun _ h9 => h9) rfl dX0_append_18 ?_
  refine va_alen (v := nI N) hx hb hK hP 1 0 rfl rfl rfl dX0_append_21 ?_
  refine lv_icmp_le (tgt := 27) hx hb dX0_append_22 (by decide) (fun _ => ?_) (fun hh => absurd hnN hh)
  refine lv_iload_n hx hb dX0_append_27 rfl (lv_at hl 2 rfl) ?_
  refine lv_iconst (v := 1) hx hb dX0_append_28 (by decide) ?_
  refine lv_isub hx hb dX0_append_29 ?_
  refine lv_istore (lv' := [(4, .int ((nI mm) - 1)), (0, .ref h0), (1, .long v), (3, .int (nI mm))]) hx hb dX0_append_30 hl (by decide) rfl (fun ls hl => ?_)
  have hP : va_P D vwCl [(h0, .inr (0, [.ref q, .int (nI (z + (mm - mm)))])), (q, .inl (kA, N, .inl (by_app f z v mm (mm - mm))))] H := by rw [Nat.sub_self]; exact hP
  have hD : va_D A [(h0, .inr (0, [.ref q, .int (nI (z + (mm - mm)))])), (q, .inl (kA, N, .inl (by_app f z v mm (mm - mm))))] := by rw [Nat.sub_self]; exact hD
  refine ct_down (fun k : Nat => [(h0, .inr (0, [.ref q, .int (nI (z + (mm - k)))])), (q, .inl (kA, N, .inl (by_app f z v mm (mm - k))))]) (fun k : Nat => [(4, .int (nI k - 1)), (0, .ref h0), (1, .long v)]) mm ?_ ?_ hP hD hS (lv_sub hl [0, 1, 2] rfl)
  · intro k hk ih32 H locs ls hP hD hS hl
    have hP : va_P D vwCl [(h0, .inr (0, [.ref q, .int (nI (z + (mm - (k + 1))))])), (q, .inl (kA, N, .inl (by_app f z v mm (mm - (k + 1)))))] H := hP
    have hD : va_D A [(h0, .inr (0, [.ref q, .int (nI (z + (mm - (k + 1))))])), (q, .inl (kA, N, .inl (by_app f z v mm (mm - (k + 1)))))] := hD
    have hl : lv_has ls 5 [(4, .int (nI (k + 1) - 1)), (0, .ref h0), (1, .long v)] := hl
    rw [nI_pred] at hl
    have ez : z + (mm - k) = z + (mm - (k + 1)) + 1 := by omega
    have em : mm - k = mm - (k + 1) + 1 := by omega
    have ek : k = mm - 1 - (mm - (k + 1)) := by omega
    refine lv_iload hx hb dX0_append_32 (lv_at hl 0 rfl) ?_
    refine lv_if_lt (tgt := 74) hx hb dX0_append_34 (by decide) (fun hh => absurd hh (nI_pos (by omega))) (fun _ => ?_)
    refine lv_aload_n hx hb dX0_append_37 rfl (lv_at hl 1 rfl) ?_
    refine va_get (D := D) (ci := 0) (v := .ref q) (C := RX0) (T := TX0) (N := 2) hx hb hts hi_X0 hown hK hP 0 rfl rfl 0 (by decide) hf_9 (fun _ h9 => h9) rfl dX0_append_38 ?_
    refine lv_aload_n hx hb dX0_append_41 rfl (lv_at hl 1 rfl) ?_
    refine va_get (D := D) (ci := 0) (v := .int (nI (z + (mm - (k + 1))))) (C := RX0) (T := TX0) (N := 2) hx hb hts hi_X0 hown hK hP 0 rfl rfl 1 (by decide) hf_15 (fun _ h9 => h9) rfl dX0_append_42 ?_
    refine lv_lload_n hx hb dX0_append_45 rfl (lv_at hl 2 rfl) ?_
    refine lv_bipush (v := 8) hx hb dX0_append_46 (by decide) ?_
    refine lv_iload hx hb dX0_append_48 (lv_at hl 0 rfl) ?_
    refine lv_imul hx hb dX0_append_50 ?_
    refine lv_lushr (v := lU v (8 * (nI k))) hx hb dX0_append_51 rfl ?_
    refine lv_l2i hx hb dX0_append_52 rfl ?_
    refine lv_sipush (v := 255) hx hb dX0_append_53 (by decide) ?_
    refine lv_iand hx hb dX0_append_56 ?_
    refine va_iast hx hb hK hP hD hS 1 0 rfl rfl (vp_in_nI (by omega) hN) dX0_append_57 (fun H locs hP hD hS => ?_)
    have hP : va_P D vwCl [(h0, .inr (0, [.ref q, .int (nI (z + (mm - (k + 1))))])), (q, .inl (kA, N, .inl (upd (by_app f z v mm (mm - (k + 1))) (nI (z + (mm - (k + 1)))).toNatClampNeg (((lU v (8 * (nI k))).toInt32) &&& 255))))] H := hP
    have hD : va_D A [(h0, .inr (0, [.ref q, .int (nI (z + (mm - (k + 1))))])), (q, .inl (kA, N, .inl (upd (by_app f z v mm (mm - (k + 1))) (nI (z + (mm - (k + 1)))).toNatClampNeg (((lU v (8 * (nI k))).toInt32) &&& 255))))] := hD
    rw [show upd (by_app f z v mm (mm - (k + 1))) (nI (z + (mm - (k + 1)))).toNatClampNeg (((lU v (8 * (nI k))).toInt32) &&& 255) = by_app f z v mm (mm - k) from by rw [em, by_app, nI_clamp (by omega), ← ek]; rfl] at hP hD
    refine lv_aload_n hx hb dX0_append_58 rfl (lv_at hl 1 rfl) ?_
    refine lv_dup hx hb dX0_append_59 rfl ?_
    refine va_get (D := D) (ci := 0) (v := .int (nI (z + (mm - (k + 1))))) (C := RX0) (T := TX0) (N := 2) hx hb hts hi_X0 hown hK hP 0 rfl rfl 1 (by decide) hf_15 (fun _ h9 => h9) rfl dX0_append_60 ?_
    refine lv_iconst (v := 1) hx hb dX0_append_63 (by decide) ?_
    refine lv_iadd hx hb dX0_append_64 ?_
    refine ct_topi (y := nI (z + (mm - k))) (by rw [ez]; exact (nI_succ _).symm) ?_
    refine va_put (D := D) (ci := 0) (v := .int (nI (z + (mm - k)))) (ty := .int) (C := RX0) (T := TX0) (N := 2) hx hb hts hi_X0 tyX0 tyX0_ok nmX0 hown hK hP hD hS 0 rfl rfl 1 (by decide) hf_15 (fun _ h9 => h9) rfl (by decide +kernel) rfl rfl (Nat.le_of_ble_eq_true rfl) dX0_append_65 (fun H locs hP hD hS => ?_)
    have hP : va_P D vwCl [(h0, .inr (0, [.ref q, .int (nI (z + (mm - k)))])), (q, .inl (kA, N, .inl (by_app f z v mm (mm - k))))] H := hP
    have hD : va_D A [(h0, .inr (0, [.ref q, .int (nI (z + (mm - k)))])), (q, .inl (kA, N, .inl (by_app f z v mm (mm - k))))] := hD
    refine lv_iinc (v := nI k - 1) (lv' := [(4, .int (nI k - 1)), (0, .ref h0), (1, .long v)]) hx hb dX0_append_68 hl (k := 0) rfl (ct_dec k) (by decide) rfl (fun ls hl => ?_)
    refine lv_goto (tgt := 32) hx hb dX0_append_71 (by decide) ?_
    exact ih32 H locs ls hP hD hS (lv_sub hl [0, 1, 2] rfl)
  · intro H locs ls hP hD hS hl
    have hP : va_P D vwCl [(h0, .inr (0, [.ref q, .int (nI (z + (mm - 0)))])), (q, .inl (kA, N, .inl (by_app f z v mm (mm - 0))))] H := hP
    have hD : va_D A [(h0, .inr (0, [.ref q, .int (nI (z + (mm - 0)))])), (q, .inl (kA, N, .inl (by_app f z v mm (mm - 0))))] := hD
    have hl : lv_has ls 5 [(4, .int (nI 0 - 1)), (0, .ref h0), (1, .long v)] := hl
    refine lv_iload hx hb dX0_append_32 (lv_at hl 0 rfl) ?_
    refine lv_if_lt (tgt := 74) hx hb dX0_append_34 (by decide) (fun _ => ?_) (fun hh => absurd (by decide) hh)
    refine lv_iconst (v := 1) hx hb dX0_append_74 (by decide) ?_
    exact ct_zret hx hb hr hlk hP hK hD hS rfl rfl dX0_append_75
end
section
/-- machine 0: three registers; what a step gives and makes -/
abbrev R6 : Type := R2 × R2 × R2
def tr_a1 (σ : R6) : Int32 := rg_at σ.1 65 ^^^ rg_at σ.1 92
def tr_b1 (σ : R6) : Int32 := rg_at σ.2.1 68 ^^^ rg_at σ.2.1 83
def tr_c1 (σ : R6) : Int32 := rg_at σ.2.2 65 ^^^ rg_at σ.2.2 110
def tr_out (σ : R6) : Int32 := tr_a1 σ ^^^ tr_b1 σ ^^^ tr_c1 σ
def tr_a (σ : R6) : Int32 := tr_a1 σ ^^^ ((rg_at σ.1 90 &&& rg_at σ.1 91) ^^^ rg_at σ.2.1 77)
def tr_b (σ : R6) : Int32 := tr_b1 σ ^^^ ((rg_at σ.2.1 81 &&& rg_at σ.2.1 82) ^^^ rg_at σ.2.2 86)
def tr_c (σ : R6) : Int32 := tr_c1 σ ^^^ ((rg_at σ.2.2 108 &&& rg_at σ.2.2 109) ^^^ rg_at σ.1 68)
def tr_step (σ : R6) : R6 := (rg_up σ.1 (tr_c σ), rg_up σ.2.1 (tr_a σ), rg_up σ.2.2 (tr_b σ))
/-- what load makes: the key's and the start's bits laid in, three ones, 1152 steps -/
def tr_l1 (f : Nat → Int32) (fz : Int32) (g : Nat → Int32) (gz : Int32) : Nat → R6
  | 0 => (rg_0, rg_0, rg_0)
  | k + 1 => (rg_add (tr_l1 f fz g gz k).1 (nI k) (by_bit f fz (nI k)), rg_add (tr_l1 f fz g gz k).2.1 (nI k) (by_bit g gz (nI k)), (tr_l1 f fz g gz k).2.2)
def tr_l2 (σ : R6) : R6 := (σ.1, σ.2.1, rg_add (rg_add (rg_add σ.2.2 108 1) 109 1) 110 1)
def tr_it (σ : R6) : Nat → R6
  | 0 => σ
  | k + 1 => tr_step (tr_it σ k)
def tr_load (f : Nat → Int32) (fz : Int32) (g : Nat → Int32) (gz : Int32) : R6 := tr_it (tr_l2 (tr_l1 f fz g gz 80)) 1152
set_option maxHeartbeats 4000000 in
set_option maxRecDepth 100000 in
/-- ThreeRings.nextBit -/
theorem c_tr_next (l : Launch) (D : va_G) (h0 r1 r2 r3 : Nat) (σ : R6) : Cti l D yX4_nextBit wsX4_nextBit ({ frames := 1, cells := 0, slots := 0, locals := 21 } : Room) [.ref h0] [] [(h0, .inr (3, [.ref r1, .ref r2, .ref r3])), (r1, .inr (1, [.long σ.1.1, .long σ.1.2])), (r2, .inr (1, [.long σ.2.1.1, .long σ.2.1.2])), (r3, .inr (1, [.long σ.2.2.1, .long σ.2.2.2]))] [(h0, .inr (3, [.ref r1, .ref r2, .ref r3])), (r1, .inr (1, [.long (((tr_step σ).1).1), .long (((tr_step σ).1).2)])), (r2, .inr (1, [.long (((tr_step σ).2.1).1), .long (((tr_step σ).2.1).2)])), (r3, .inr (1, [.long (((tr_step σ).2.2).1), .long (((tr_step σ).2.2).2)]))] (tr_out σ) := by
  refine ct_of (cc := cX4_nextBit) (maxL := 5) (ret := (some .int)) (by decide) rfl (Nat.le_of_ble_eq_true rfl) ?_
  intro p e s m below meth c A H locs ls hx hb hr hml hts hown hlk hnm hP hK hD hA hS hl
  have hown : s.vm.findClass RX4 = some m.cls := hown
  have hl : lv_has ls 5 [(0, .ref h0)] := hl
  have hf_10 := hts (.fieldLink RX4 10 "BitStreams$ThreeRings" "a" "LBitStreams$Cells;") (by decide +kernel)
  have hi_X4 : ∀ w ∈ u_ws RX4 TX4 3, w ∈ wsX4_nextBit := by decide +kernel
  have cw_X1_at := cwV (R := ({ frames := 1, cells := 0, slots := 0, locals := 21 } : Room)) (rm := ({ frames := 0, cells := 0, slots := 0, locals := 0 } : Room)) 1 hts gX4_nextBit_X1_at rfl rfl rfl (by decide +kernel) ⟨Nat.le_of_ble_eq_true rfl, Nat.le_of_ble_eq_true rfl⟩
  have hf_16 := hts (.fieldLink RX4 16 "BitStreams$ThreeRings" "b" "LBitStreams$Cells;") (by decide +kernel)
  have hf_19 := hts (.fieldLink RX4 19 "BitStreams$ThreeRings" "c" "LBitStreams$Cells;") (by decide +kernel)
  have cw_X1_moveUp := cwV (R := ({ frames := 1, cells := 0, slots := 0, locals := 21 } : Room)) (rm := ({ frames := 0, cells := 0, slots := 0, locals := 0 } : Room)) 1 hts gX4_nextBit_X1_moveUp rfl rfl rfl (by decide +kernel) ⟨Nat.le_of_ble_eq_true rfl, Nat.le_of_ble_eq_true rfl⟩
  refine lv_aload_n hx hb dX4_nextBit_0 rfl (lv_at hl 0 rfl) ?_
  refine va_get (D := D) (ci := 3) (v := .ref r1) (C := RX4) (T := TX4) (N := 3) hx hb hts hi_X4 hown hK hP 0 rfl rfl 0 (by decide) hf_10 (fun _ h9 => h9) rfl dX4_nextBit_1 ?_
  refine lv_bipush (v := 65) hx hb dX4_nextBit_4 (by decide) ?_
  refine ct_callVi (As := [.int 65]) (rest := []) (wr := [(h0, .inr (3, [.ref r1, .ref r2, .ref r3])), (r2, .inr (1, [.long σ.2.1.1, .long σ.2.1.2])), (r3, .inr (1, [.long σ.2.2.1, .long σ.2.2.2]))]) (ws2 := [(h0, .inr (3, [.ref r1, .ref r2, .ref r3])), (r1, .inr (1, [.long σ.1.1, .long σ.1.2])), (r2, .inr (1, [.long σ.2.1.1, .long σ.2.1.2])), (r3, .inr (1, [.long σ.2.2.1, .long σ.2.2.2]))]) ⟨hx, hb, hml, hown, hts⟩ (c_at l D r1 σ.1 65) cw_X1_at [] rfl [1] [0, 2, 3] [0, 3, 1, 2] hK hP hD hS hA 0 1 rfl rfl rfl rfl (by decide) rfl (by decide) (by decide) rfl (by decide) rfl hl.1 rfl (Nat.le_of_ble_eq_true rfl) dX4_nextBit_6 ⟨Nat.zero_le _, Nat.zero_le _⟩ (fun H locs hP hD hS => ?_)
  refine lv_aload_n hx hb dX4_nextBit_9 rfl (lv_at hl 0 rfl) ?_
  refine va_get (D := D) (ci := 3) (v := .ref r1) (C := RX4) (T := TX4) (N := 3) hx hb hts hi_X4 hown hK hP 0 rfl rfl 0 (by decide) hf_10 (fun _ h9 => h9) rfl dX4_nextBit_10 ?_
  refine lv_bipush (v := 92) hx hb dX4_nextBit_13 (by decide) ?_
  refine ct_callVi (As := [.int 92]) (rest := [.int (rg_at σ.1 65)]) (wr := [(h0, .inr (3, [.ref r1, .ref r2, .ref r3])), (r2, .inr (1, [.long σ.2.1.1, .long σ.2.1.2])), (r3, .inr (1, [.long σ.2.2.1, .long σ.2.2.2]))]) (ws2 := [(h0, .inr (3, [.ref r1, .ref r2, .ref r3])), (r1, .inr (1, [.long σ.1.1, .long σ.1.2])), (r2, .inr (1, [.long σ.2.1.1, .long σ.2.1.2])), (r3, .inr (1, [.long σ.2.2.1, .long σ.2.2.2]))]) ⟨hx, hb, hml, hown, hts⟩ (c_at l D r1 σ.1 92) cw_X1_at [] rfl [1] [0, 2, 3] [0, 3, 1, 2] hK hP hD hS hA 0 1 rfl rfl rfl rfl (by decide) rfl (by decide) (by decide) rfl (by decide) rfl hl.1 rfl (Nat.le_of_ble_eq_true rfl) dX4_nextBit_15 ⟨Nat.zero_le _, Nat.zero_le _⟩ (fun H locs hP hD hS => ?_)
  refine lv_ixor hx hb dX4_nextBit_18 ?_
  refine ct_topi (y := tr_a1 σ) rfl ?_
  refine lv_istore_n (lv' := [(1, .int (tr_a1 σ)), (0, .ref h0)]) hx hb dX4_nextBit_19 rfl hl (by decide) rfl (fun ls hl => ?_)
  refine lv_aload_n hx hb dX4_nextBit_20 rfl (lv_at hl 1 rfl) ?_
  refine va_get (D := D) (ci := 3) (v := .ref r2) (C := RX4) (T := TX4) (N := 3) hx hb hts hi_X4 hown hK hP 0 rfl rfl 1 (by decide) hf_16 (fun _ h9 => h9) rfl dX4_nextBit_21 ?_
  refine lv_bipush (v := 68) hx hb dX4_nextBit_24 (by decide) ?_
  refine ct_callVi (As := [.int 68]) (rest := []) (wr := [(h0, .inr (3, [.ref r1, .ref r2, .ref r3])), (r1, .inr (1, [.long σ.1.1, .long σ.1.2])), (r3, .inr (1, [.long σ.2.2.1, .long σ.2.2.2]))]) (ws2 := [(h0, .inr (3, [.ref r1, .ref r2, .ref r3])), (r1, .inr (1, [.long σ.1.1, .long σ.1.2])), (r2, .inr (1, [.long σ.2.1.1, .long σ.2.1.2])), (r3, .inr (1, [.long σ.2.2.1, .long σ.2.2.2]))]) ⟨hx, hb, hml, hown, hts⟩ (c_at l D r2 σ.2.1 68) cw_X1_at [] rfl [2] [0, 1, 3] [0, 1, 3, 2] hK hP hD hS hA 0 1 rfl rfl rfl rfl (by decide) rfl (by decide) (by decide) rfl (by decide) rfl hl.1 rfl (Nat.le_of_ble_eq_true rfl) dX4_nextBit_26 ⟨Nat.zero_le _, Nat.zero_le _⟩ (fun H locs hP hD hS => ?_)
  refine lv_aload_n hx hb dX4_nextBit_29 rfl (lv_at hl 1 rfl) ?_
  refine va_get (D := D) (ci := 3) (v := .ref r2) (C := RX4) (T := TX4) (N := 3) hx hb hts hi_X4 hown hK hP 0 rfl rfl 1 (by decide) hf_16 (fun _ h9 => h9) rfl dX4_nextBit_30 ?_
  refine lv_bipush (v := 83) hx hb dX4_nextBit_33 (by decide) ?_
  refine ct_callVi (As := [.int 83]) (rest := [.int (rg_at σ.2.1 68)]) (wr := [(h0, .inr (3, [.ref r1, .ref r2, .ref r3])), (r1, .inr (1, [.long σ.1.1, .long σ.1.2])), (r3, .inr (1, [.long σ.2.2.1, .long σ.2.2.2]))]) (ws2 := [(h0, .inr (3, [.ref r1, .ref r2, .ref r3])), (r1, .inr (1, [.long σ.1.1, .long σ.1.2])), (r2, .inr (1, [.long σ.2.1.1, .long σ.2.1.2])), (r3, .inr (1, [.long σ.2.2.1, .long σ.2.2.2]))]) ⟨hx, hb, hml, hown, hts⟩ (c_at l D r2 σ.2.1 83) cw_X1_at [] rfl [2] [0, 1, 3] [0, 1, 3, 2] hK hP hD hS hA 0 1 rfl rfl rfl rfl (by decide) rfl (by decide) (by decide) rfl (by decide) rfl hl.1 rfl (Nat.le_of_ble_eq_true rfl) dX4_nextBit_35 ⟨Nat.zero_le _, Nat.zero_le _⟩ (fun H locs hP hD hS => ?_)
  refine lv_ixor hx hb dX4_nextBit_38 ?_
  refine ct_topi (y := tr_b1 σ) rfl ?_
  refine lv_istore_n (lv' := [(2, .int (tr_b1 σ)), (1, .int (tr_a1 σ)), (0, .ref h0)]) hx hb dX4_nextBit_39 rfl hl (by decide) rfl (fun ls hl => ?_)
  refine lv_aload_n hx hb dX4_nextBit_40 rfl (lv_at hl 2 rfl) ?_
  refine va_get (D := D) (ci := 3) (v := .ref r3) (C := RX4) (T := TX4) (N := 3) hx hb hts hi_X4 hown hK hP 0 rfl rfl 2 (by decide) hf_19 (fun _ h9 => h9) rfl dX4_nextBit_41 ?_
  refine lv_bipush (v := 65) hx hb dX4_nextBit_44 (by decide) ?_
  refine ct_callVi (As := [.int 65]) (rest := []) (wr := [(h0, .inr (3, [.ref r1, .ref r2, .ref r3])), (r1, .inr (1, [.long σ.1.1, .long σ.1.2])), (r2, .inr (1, [.long σ.2.1.1, .long σ.2.1.2]))]) (ws2 := [(h0, .inr (3, [.ref r1, .ref r2, .ref r3])), (r1, .inr (1, [.long σ.1.1, .long σ.1.2])), (r2, .inr (1, [.long σ.2.1.1, .long σ.2.1.2])), (r3, .inr (1, [.long σ.2.2.1, .long σ.2.2.2]))]) ⟨hx, hb, hml, hown, hts⟩ (c_at l D r3 σ.2.2 65) cw_X1_at [] rfl [3] [0, 1, 2] [0, 1, 2, 3] hK hP hD hS hA 0 1 rfl rfl rfl rfl (by decide) rfl (by decide) (by decide) rfl (by decide) rfl hl.1 rfl (Nat.le_of_ble_eq_true rfl) dX4_nextBit_46 ⟨Nat.zero_le _, Nat.zero_le _⟩ (fun H locs hP hD hS => ?_)
  refine lv_aload_n hx hb dX4_nextBit_49 rfl (lv_at hl 2 rfl) ?_
  refine va_get (D := D) (ci := 3) (v := .ref r3) (C := RX4) (T := TX4) (N := 3) hx hb hts hi_X4 hown hK hP 0 rfl rfl 2 (by decide) hf_19 (fun _ h9 => h9) rfl dX4_nextBit_50 ?_
  refine lv_bipush (v := 110) hx hb dX4_nextBit_53 (by decide) ?_
  refine ct_callVi (As := [.int 110]) (rest := [.int (rg_at σ.2.2 65)]) (wr := [(h0, .inr (3, [.ref r1, .ref r2, .ref r3])), (r1, .inr (1, [.long σ.1.1, .long σ.1.2])), (r2, .inr (1, [.long σ.2.1.1, .long σ.2.1.2]))]) (ws2 := [(h0, .inr (3, [.ref r1, .ref r2, .ref r3])), (r1, .inr (1, [.long σ.1.1, .long σ.1.2])), (r2, .inr (1, [.long σ.2.1.1, .long σ.2.1.2])), (r3, .inr (1, [.long σ.2.2.1, .long σ.2.2.2]))]) ⟨hx, hb, hml, hown, hts⟩ (c_at l D r3 σ.2.2 110) cw_X1_at [] rfl [3] [0, 1, 2] [0, 1, 2, 3] hK hP hD hS hA 0 1 rfl rfl rfl rfl (by decide) rfl (by decide) (by decide) rfl (by decide) rfl hl.1 rfl (Nat.le_of_ble_eq_true rfl) dX4_nextBit_55 ⟨Nat.zero_le _, Nat.zero_le _⟩ (fun H locs hP hD hS => ?_)
  refine lv_ixor hx hb dX4_nextBit_58 ?_
  refine ct_topi (y := tr_c1 σ) rfl ?_
  refine lv_istore_n (lv' := [(3, .int (tr_c1 σ)), (2, .int (tr_b1 σ)), (1, .int (tr_a1 σ)), (0, .ref h0)]) hx hb dX4_nextBit_59 rfl hl (by decide) rfl (fun ls hl => ?_)
  refine lv_iload_n hx hb dX4_nextBit_60 rfl (lv_at hl 2 rfl) ?_
  refine lv_iload_n hx hb dX4_nextBit_61 rfl (lv_at hl 1 rfl) ?_
  refine lv_ixor hx hb dX4_nextBit_62 ?_
  refine lv_iload_n hx hb dX4_nextBit_63 rfl (lv_at hl 0 rfl) ?_
  refine lv_ixor hx hb dX4_nextBit_64 ?_
  refine ct_topi (y := tr_out σ) rfl ?_
  refine lv_istore (lv' := [(4, .int (tr_out σ)), (3, .int (tr_c1 σ)), (2, .int (tr_b1 σ)), (1, .int (tr_a1 σ)), (0, .ref h0)]) hx hb dX4_nextBit_65 hl (by decide) rfl (fun ls hl => ?_)
  refine lv_iload_n hx hb dX4_nextBit_67 rfl (lv_at hl 3 rfl) ?_
  refine lv_aload_n hx hb dX4_nextBit_68 rfl (lv_at hl 4 rfl) ?_
  refine va_get (D := D) (ci := 3) (v := .ref r1) (C := RX4) (T := TX4) (N := 3) hx hb hts hi_X4 hown hK hP 0 rfl rfl 0 (by decide) hf_10 (fun _ h9 => h9) rfl dX4_nextBit_69 ?_
  refine lv_bipush (v := 90) hx hb dX4_nextBit_72 (by decide) ?_
  refine ct_callVi (As := [.int 90]) (rest := [.int (tr_a1 σ)]) (wr := [(h0, .inr (3, [.ref r1, .ref r2, .ref r3])), (r2, .inr (1, [.long σ.2.1.1, .long σ.2.1.2])), (r3, .inr (1, [.long σ.2.2.1, .long σ.2.2.2]))]) (ws2 := [(h0, .inr (3, [.ref r1, .ref r2, .ref r3])), (r1, .inr (1, [.long σ.1.1, .long σ.1.2])), (r2, .inr (1, [.long σ.2.1.1, .long σ.2.1.2])), (r3, .inr (1, [.long σ.2.2.1, .long σ.2.2.2]))]) ⟨hx, hb, hml, hown, hts⟩ (c_at l D r1 σ.1 90) cw_X1_at [] rfl [1] [0, 2, 3] [0, 3, 1, 2] hK hP hD hS hA 0 1 rfl rfl rfl rfl (by decide) rfl (by decide) (by decide) rfl (by decide) rfl hl.1 rfl (Nat.le_of_ble_eq_true rfl) dX4_nextBit_74 ⟨Nat.zero_le _, Nat.zero_le _⟩ (fun H locs hP hD hS => ?_)
  refine lv_aload_n hx hb dX4_nextBit_77 rfl (lv_at hl 4 rfl) ?_
  refine va_get (D := D) (ci := 3) (v := .ref r1) (C := RX4) (T := TX4) (N := 3) hx hb hts hi_X4 hown hK hP 0 rfl rfl 0 (by decide) hf_10 (fun _ h9 => h9) rfl dX4_nextBit_78 ?_
  refine lv_bipush (v := 91) hx hb dX4_nextBit_81 (by decide) ?_
  refine ct_callVi (As := [.int 91]) (rest := [.int (rg_at σ.1 90), .int (tr_a1 σ)]) (wr := [(h0, .inr (3, [.ref r1, .ref r2, .ref r3])), (r2, .inr (1, [.long σ.2.1.1, .long σ.2.1.2])), (r3, .inr (1, [.long σ.2.2.1, .long σ.2.2.2]))]) (ws2 := [(h0, .inr (3, [.ref r1, .ref r2, .ref r3])), (r1, .inr (1, [.long σ.1.1, .long σ.1.2])), (r2, .inr (1, [.long σ.2.1.1, .long σ.2.1.2])), (r3, .inr (1, [.long σ.2.2.1, .long σ.2.2.2]))]) ⟨hx, hb, hml, hown, hts⟩ (c_at l D r1 σ.1 91) cw_X1_at [] rfl [1] [0, 2, 3] [0, 3, 1, 2] hK hP hD hS hA 0 1 rfl rfl rfl rfl (by decide) rfl (by decide) (by decide) rfl (by decide) rfl hl.1 rfl (Nat.le_of_ble_eq_true rfl) dX4_nextBit_83 ⟨Nat.zero_le _, Nat.zero_le _⟩ (fun H locs hP hD hS => ?_)
  refine lv_iand hx hb dX4_nextBit_86 ?_
  refine lv_aload_n hx hb dX4_nextBit_87 rfl (lv_at hl 4 rfl) ?_
  refine va_get (D := D) (ci := 3) (v := .ref r2) (C := RX4) (T := TX4) (N := 3) hx hb hts hi_X4 hown hK hP 0 rfl rfl 1 (by decide) hf_16 (fun _ h9 => h9) rfl dX4_nextBit_88 ?_
  refine lv_bipush (v := 77) hx hb dX4_nextBit_91 (by decide) ?_
  refine ct_callVi (As := [.int 77]) (rest := [.int ((rg_at σ.1 90) &&& (rg_at σ.1 91)), .int (tr_a1 σ)]) (wr := [(h0, .inr (3, [.ref r1, .ref r2, .ref r3])), (r1, .inr (1, [.long σ.1.1, .long σ.1.2])), (r3, .inr (1, [.long σ.2.2.1, .long σ.2.2.2]))]) (ws2 := [(h0, .inr (3, [.ref r1, .ref r2, .ref r3])), (r1, .inr (1, [.long σ.1.1, .long σ.1.2])), (r2, .inr (1, [.long σ.2.1.1, .long σ.2.1.2])), (r3, .inr (1, [.long σ.2.2.1, .long σ.2.2.2]))]) ⟨hx, hb, hml, hown, hts⟩ (c_at l D r2 σ.2.1 77) cw_X1_at [] rfl [2] [0, 1, 3] [0, 1, 3, 2] hK hP hD hS hA 0 1 rfl rfl rfl rfl (by decide) rfl (by decide) (by decide) rfl (by decide) rfl hl.1 rfl (Nat.le_of_ble_eq_true rfl) dX4_nextBit_93 ⟨Nat.zero_le _, Nat.zero_le _⟩ (fun H locs hP hD hS => ?_)
  refine lv_ixor hx hb dX4_nextBit_96 ?_
  refine lv_ixor hx hb dX4_nextBit_97 ?_
  refine ct_topi (y := tr_a σ) rfl ?_
  refine lv_istore_n (lv' := [(1, .int (tr_a σ)), (4, .int (tr_out σ)), (3, .int (tr_c1 σ)), (2, .int (tr_b1 σ)), (0, .ref h0)]) hx hb dX4_nextBit_98 rfl hl (by decide) rfl (fun ls hl => ?_)
  refine lv_iload_n hx hb dX4_nextBit_99 rfl (lv_at hl 3 rfl) ?_
  refine lv_aload_n hx hb dX4_nextBit_100 rfl (lv_at hl 4 rfl) ?_
  refine va_get (D := D) (ci := 3) (v := .ref r2) (C := RX4) (T := TX4) (N := 3) hx hb hts hi_X4 hown hK hP 0 rfl rfl 1 (by decide) hf_16 (fun _ h9 => h9) rfl dX4_nextBit_101 ?_
  refine lv_bipush (v := 81) hx hb dX4_nextBit_104 (by decide) ?_
  refine ct_callVi (As := [.int 81]) (rest := [.int (tr_b1 σ)]) (wr := [(h0, .inr (3, [.ref r1, .ref r2, .ref r3])), (r1, .inr (1, [.long σ.1.1, .long σ.1.2])), (r3, .inr (1, [.long σ.2.2.1, .long σ.2.2.2]))]) (ws2 := [(h0, .inr (3, [.ref r1, .ref r2, .ref r3])), (r1, .inr (1, [.long σ.1.1, .long σ.1.2])), (r2, .inr (1, [.long σ.2.1.1, .long σ.2.1.2])), (r3, .inr (1, [.long σ.2.2.1, .long σ.2.2.2]))]) ⟨hx, hb, hml, hown, hts⟩ (c_at l D r2 σ.2.1 81) cw_X1_at [] rfl [2] [0, 1, 3] [0, 1, 3, 2] hK hP hD hS hA 0 1 rfl rfl rfl rfl (by decide) rfl (by decide) (by decide) rfl (by decide) rfl hl.1 rfl (Nat.le_of_ble_eq_true rfl) dX4_nextBit_106 ⟨Nat.zero_le _, Nat.zero_le _⟩ (fun H locs hP hD hS => ?_)
  refine lv_aload_n hx hb dX4_nextBit_109 rfl (lv_at hl 4 rfl) ?_
  refine va_get (D := D) (ci := 3) (v := .ref r2) (C := RX4) (T := TX4) (N := 3) hx hb hts hi_X4 hown hK hP 0 rfl rfl 1 (by decide) hf_16 (fun _ h9 => h9) rfl dX4_nextBit_110 ?_
  refine lv_bipush (v := 82) hx hb dX4_nextBit_113 (by decide) ?_
  refine ct_callVi (As := [.int 82]) (rest := [.int (rg_at σ.2.1 81), .int (tr_b1 σ)]) (wr := [(h0, .inr (3, [.ref r1, .ref r2, .ref r3])), (r1, .inr (1, [.long σ.1.1, .long σ.1.2])), (r3, .inr (1, [.long σ.2.2.1, .long σ.2.2.2]))]) (ws2 := [(h0, .inr (3, [.ref r1, .ref r2, .ref r3])), (r1, .inr (1, [.long σ.1.1, .long σ.1.2])), (r2, .inr (1, [.long σ.2.1.1, .long σ.2.1.2])), (r3, .inr (1, [.long σ.2.2.1, .long σ.2.2.2]))]) ⟨hx, hb, hml, hown, hts⟩ (c_at l D r2 σ.2.1 82) cw_X1_at [] rfl [2] [0, 1, 3] [0, 1, 3, 2] hK hP hD hS hA 0 1 rfl rfl rfl rfl (by decide) rfl (by decide) (by decide) rfl (by decide) rfl hl.1 rfl (Nat.le_of_ble_eq_true rfl) dX4_nextBit_115 ⟨Nat.zero_le _, Nat.zero_le _⟩ (fun H locs hP hD hS => ?_)
  refine lv_iand hx hb dX4_nextBit_118 ?_
  refine lv_aload_n hx hb dX4_nextBit_119 rfl (lv_at hl 4 rfl) ?_
  refine va_get (D := D) (ci := 3) (v := .ref r3) (C := RX4) (T := TX4) (N := 3) hx hb hts hi_X4 hown hK hP 0 rfl rfl 2 (by decide) hf_19 (fun _ h9 => h9) rfl dX4_nextBit_120 ?_
  refine lv_bipush (v := 86) hx hb dX4_nextBit_123 (by decide) ?_
  refine ct_callVi (As := [.int 86]) (rest := [.int ((rg_at σ.2.1 81) &&& (rg_at σ.2.1 82)), .int (tr_b1 σ)]) (wr := [(h0, .inr (3, [.ref r1, .ref r2, .ref r3])), (r1, .inr (1, [.long σ.1.1, .long σ.1.2])), (r2, .inr (1, [.long σ.2.1.1, .long σ.2.1.2]))]) (ws2 := [(h0, .inr (3, [.ref r1, .ref r2, .ref r3])), (r1, .inr (1, [.long σ.1.1, .long σ.1.2])), (r2, .inr (1, [.long σ.2.1.1, .long σ.2.1.2])), (r3, .inr (1, [.long σ.2.2.1, .long σ.2.2.2]))]) ⟨hx, hb, hml, hown, hts⟩ (c_at l D r3 σ.2.2 86) cw_X1_at [] rfl [3] [0, 1, 2] [0, 1, 2, 3] hK hP hD hS hA 0 1 rfl rfl rfl rfl (by decide) rfl (by decide) (by decide) rfl (by decide) rfl hl.1 rfl (Nat.le_of_ble_eq_true rfl) dX4_nextBit_125 ⟨Nat.zero_le _, Nat.zero_le _⟩ (fun H locs hP hD hS => ?_)
  refine lv_ixor hx hb dX4_nextBit_128 ?_
  refine lv_ixor hx hb dX4_nextBit_129 ?_
  refine ct_topi (y := tr_b σ) rfl ?_
  refine lv_istore_n (lv' := [(2, .int (tr_b σ)), (1, .int (tr_a σ)), (4, .int (tr_out σ)), (3, .int (tr_c1 σ)), (0, .ref h0)]) hx hb dX4_nextBit_130 rfl hl (by decide) rfl (fun ls hl => ?_)
  refine lv_iload_n hx hb dX4_nextBit_131 rfl (lv_at hl 3 rfl) ?_
  refine lv_aload_n hx hb dX4_nextBit_132 rfl (lv_at hl 4 rfl) ?_
  refine va_get (D := D) (ci := 3) (v := .ref r3) (C := RX4) (T := TX4) (N := 3) hx hb hts hi_X4 hown hK hP 0 rfl rfl 2 (by decide) hf_19 (fun _ h9 => h9) rfl dX4_nextBit_133 ?_
  refine lv_bipush (v := 108) hx hb dX4_nextBit_136 (by decide) ?_
  refine ct_callVi (As := [.int 108]) (rest := [.int (tr_c1 σ)]) (wr := [(h0, .inr (3, [.ref r1, .ref r2, .ref r3])), (r1, .inr (1, [.long σ.1.1, .long σ.1.2])), (r2, .inr (1, [.long σ.2.1.1, .long σ.2.1.2]))]) (ws2 := [(h0, .inr (3, [.ref r1, .ref r2, .ref r3])), (r1, .inr (1, [.long σ.1.1, .long σ.1.2])), (r2, .inr (1, [.long σ.2.1.1, .long σ.2.1.2])), (r3, .inr (1, [.long σ.2.2.1, .long σ.2.2.2]))]) ⟨hx, hb, hml, hown, hts⟩ (c_at l D r3 σ.2.2 108) cw_X1_at [] rfl [3] [0, 1, 2] [0, 1, 2, 3] hK hP hD hS hA 0 1 rfl rfl rfl rfl (by decide) rfl (by decide) (by decide) rfl (by decide) rfl hl.1 rfl (Nat.le_of_ble_eq_true rfl) dX4_nextBit_138 ⟨Nat.zero_le _, Nat.zero_le _⟩ (fun H locs hP hD hS => ?_)
  refine lv_aload_n hx hb dX4_nextBit_141 rfl (lv_at hl 4 rfl) ?_
  refine va_get (D := D) (ci := 3) (v := .ref r3) (C := RX4) (T := TX4) (N := 3) hx hb hts hi_X4 hown hK hP 0 rfl rfl 2 (by decide) hf_19 (fun _ h9 => h9) rfl dX4_nextBit_142 ?_
  refine lv_bipush (v := 109) hx hb dX4_nextBit_145 (by decide) ?_
  refine ct_callVi (As := [.int 109]) (rest := [.int (rg_at σ.2.2 108), .int (tr_c1 σ)]) (wr := [(h0, .inr (3, [.ref r1, .ref r2, .ref r3])), (r1, .inr (1, [.long σ.1.1, .long σ.1.2])), (r2, .inr (1, [.long σ.2.1.1, .long σ.2.1.2]))]) (ws2 := [(h0, .inr (3, [.ref r1, .ref r2, .ref r3])), (r1, .inr (1, [.long σ.1.1, .long σ.1.2])), (r2, .inr (1, [.long σ.2.1.1, .long σ.2.1.2])), (r3, .inr (1, [.long σ.2.2.1, .long σ.2.2.2]))]) ⟨hx, hb, hml, hown, hts⟩ (c_at l D r3 σ.2.2 109) cw_X1_at [] rfl [3] [0, 1, 2] [0, 1, 2, 3] hK hP hD hS hA 0 1 rfl rfl rfl rfl (by decide) rfl (by decide) (by decide) rfl (by decide) rfl hl.1 rfl (Nat.le_of_ble_eq_true rfl) dX4_nextBit_147 ⟨Nat.zero_le _, Nat.zero_le _⟩ (fun H locs hP hD hS => ?_)
  refine lv_iand hx hb dX4_nextBit_150 ?_
  refine lv_aload_n hx hb dX4_nextBit_151 rfl (lv_at hl 4 rfl) ?_
  refine va_get (D := D) (ci := 3) (v := .ref r1) (C := RX4) (T := TX4) (N := 3) hx hb hts hi_X4 hown hK hP 0 rfl rfl 0 (by decide) hf_10 (fun _ h9 => h9) rfl dX4_nextBit_152 ?_
  refine lv_bipush (v := 68) hx hb dX4_nextBit_155 (by decide) ?_
  refine ct_callVi (As := [.int 68]) (rest := [.int ((rg_at σ.2.2 108) &&& (rg_at σ.2.2 109)), .int (tr_c1 σ)]) (wr := [(h0, .inr (3, [.ref r1, .ref r2, .ref r3])), (r2, .inr (1, [.long σ.2.1.1, .long σ.2.1.2])), (r3, .inr (1, [.long σ.2.2.1, .long σ.2.2.2]))]) (ws2 := [(h0, .inr (3, [.ref r1, .ref r2, .ref r3])), (r1, .inr (1, [.long σ.1.1, .long σ.1.2])), (r2, .inr (1, [.long σ.2.1.1, .long σ.2.1.2])), (r3, .inr (1, [.long σ.2.2.1, .long σ.2.2.2]))]) ⟨hx, hb, hml, hown, hts⟩ (c_at l D r1 σ.1 68) cw_X1_at [] rfl [1] [0, 2, 3] [0, 3, 1, 2] hK hP hD hS hA 0 1 rfl rfl rfl rfl (by decide) rfl (by decide) (by decide) rfl (by decide) rfl hl.1 rfl (Nat.le_of_ble_eq_true rfl) dX4_nextBit_157 ⟨Nat.zero_le _, Nat.zero_le _⟩ (fun H locs hP hD hS => ?_)
  refine lv_ixor hx hb dX4_nextBit_160 ?_
  refine lv_ixor hx hb dX4_nextBit_161 ?_
  refine ct_topi (y := tr_c σ) rfl ?_
  refine lv_istore_n (lv' := [(3, .int (tr_c σ)), (2, .int (tr_b σ)), (1, .int (tr_a σ)), (4, .int (tr_out σ)), (0, .ref h0)]) hx hb dX4_nextBit_162 rfl hl (by decide) rfl (fun ls hl => ?_)
  refine lv_aload_n hx hb dX4_nextBit_163 rfl (lv_at hl 4 rfl) ?_
  refine va_get (D := D) (ci := 3) (v := .ref r1) (C := RX4) (T := TX4) (N := 3) hx hb hts hi_X4 hown hK hP 0 rfl rfl 0 (by decide) hf_10 (fun _ h9 => h9) rfl dX4_nextBit_164 ?_
  refine lv_iload_n hx hb dX4_nextBit_167 rfl (lv_at hl 0 rfl) ?_
  refine ct_callVv (As := [.int (tr_c σ)]) (rest := []) (wr := [(h0, .inr (3, [.ref r1, .ref r2, .ref r3])), (r2, .inr (1, [.long σ.2.1.1, .long σ.2.1.2])), (r3, .inr (1, [.long σ.2.2.1, .long σ.2.2.2]))]) (ws2 := [(h0, .inr (3, [.ref r1, .ref r2, .ref r3])), (r1, .inr (1, [.long ((rg_up σ.1 (tr_c σ)).1), .long ((rg_up σ.1 (tr_c σ)).2)])), (r2, .inr (1, [.long σ.2.1.1, .long σ.2.1.2])), (r3, .inr (1, [.long σ.2.2.1, .long σ.2.2.2]))]) ⟨hx, hb, hml, hown, hts⟩ (c_up l D r1 σ.1 (tr_c σ)) cw_X1_moveUp [] rfl [1] [0, 2, 3] [0, 3, 1, 2] hK hP hD hS hA 0 1 rfl rfl rfl rfl (by decide) rfl (by decide) (by decide) rfl (by decide) rfl hl.1 rfl (Nat.le_of_ble_eq_true rfl) dX4_nextBit_168 ⟨Nat.zero_le _, Nat.zero_le _⟩ (fun H locs hP hD hS => ?_)
  refine lv_aload_n hx hb dX4_nextBit_171 rfl (lv_at hl 4 rfl) ?_
  refine va_get (D := D) (ci := 3) (v := .ref r2) (C := RX4) (T := TX4) (N := 3) hx hb hts hi_X4 hown hK hP 0 rfl rfl 1 (by decide) hf_16 (fun _ h9 => h9) rfl dX4_nextBit_172 ?_
  refine lv_iload_n hx hb dX4_nextBit_175 rfl (lv_at hl 2 rfl) ?_
  refine ct_callVv (As := [.int (tr_a σ)]) (rest := []) (wr := [(h0, .inr (3, [.ref r1, .ref r2, .ref r3])), (r1, .inr (1, [.long ((rg_up σ.1 (tr_c σ)).1), .long ((rg_up σ.1 (tr_c σ)).2)])), (r3, .inr (1, [.long σ.2.2.1, .long σ.2.2.2]))]) (ws2 := [(h0, .inr (3, [.ref r1, .ref r2, .ref r3])), (r1, .inr (1, [.long ((rg_up σ.1 (tr_c σ)).1), .long ((rg_up σ.1 (tr_c σ)).2)])), (r2, .inr (1, [.long ((rg_up σ.2.1 (tr_a σ)).1), .long ((rg_up σ.2.1 (tr_a σ)).2)])), (r3, .inr (1, [.long σ.2.2.1, .long σ.2.2.2]))]) ⟨hx, hb, hml, hown, hts⟩ (c_up l D r2 σ.2.1 (tr_a σ)) cw_X1_moveUp [] rfl [2] [0, 1, 3] [0, 1, 3, 2] hK hP hD hS hA 0 1 rfl rfl rfl rfl (by decide) rfl (by decide) (by decide) rfl (by decide) rfl hl.1 rfl (Nat.le_of_ble_eq_true rfl) dX4_nextBit_176 ⟨Nat.zero_le _, Nat.zero_le _⟩ (fun H locs hP hD hS => ?_)
  refine lv_aload_n hx hb dX4_nextBit_179 rfl (lv_at hl 4 rfl) ?_
  refine va_get (D := D) (ci := 3) (v := .ref r3) (C := RX4) (T := TX4) (N := 3) hx hb hts hi_X4 hown hK hP 0 rfl rfl 2 (by decide) hf_19 (fun _ h9 => h9) rfl dX4_nextBit_180 ?_
  refine lv_iload_n hx hb dX4_nextBit_183 rfl (lv_at hl 1 rfl) ?_
  refine ct_callVv (As := [.int (tr_b σ)]) (rest := []) (wr := [(h0, .inr (3, [.ref r1, .ref r2, .ref r3])), (r1, .inr (1, [.long ((rg_up σ.1 (tr_c σ)).1), .long ((rg_up σ.1 (tr_c σ)).2)])), (r2, .inr (1, [.long ((rg_up σ.2.1 (tr_a σ)).1), .long ((rg_up σ.2.1 (tr_a σ)).2)]))]) (ws2 := [(h0, .inr (3, [.ref r1, .ref r2, .ref r3])), (r1, .inr (1, [.long ((rg_up σ.1 (tr_c σ)).1), .long ((rg_up σ.1 (tr_c σ)).2)])), (r2, .inr (1, [.long ((rg_up σ.2.1 (tr_a σ)).1), .long ((rg_up σ.2.1 (tr_a σ)).2)])), (r3, .inr (1, [.long ((rg_up σ.2.2 (tr_b σ)).1), .long ((rg_up σ.2.2 (tr_b σ)).2)]))]) ⟨hx, hb, hml, hown, hts⟩ (c_up l D r3 σ.2.2 (tr_b σ)) cw_X1_moveUp [] rfl [3] [0, 1, 2] [0, 1, 2, 3] hK hP hD hS hA 0 1 rfl rfl rfl rfl (by decide) rfl (by decide) (by decide) rfl (by decide) rfl hl.1 rfl (Nat.le_of_ble_eq_true rfl) dX4_nextBit_184 ⟨Nat.zero_le _, Nat.zero_le _⟩ (fun H locs hP hD hS => ?_)
  refine lv_iload hx hb dX4_nextBit_187 (lv_at hl 3 rfl) ?_
  exact ct_zret hx hb hr hlk hP hK hD hS rfl rfl dX4_nextBit_189
set_option maxHeartbeats 4000000 in
set_option maxRecDepth 100000 in
/-- ThreeRings.load -/
theorem c_tr_load (l : Launch) (D : va_G) (h0 r1 r2 r3 : Nat) (kb kq sb sq : Nat) (kA sA : ClassId) (kN kz sN sz : Nat) (hkz : kz ≤ kN) (hkN : kN < 2 ^ 31) (hsz : sz ≤ sN) (hsN : sN < 2 ^ 31) (f g : Nat → Int32) (τ : R6) : Ctv l D yX4_load wsX4_load ({ frames := 2, cells := 0, slots := 0, locals := 45 } : Room) [.ref h0, .ref kb, .ref sb] [(kA, .int), (sA, .int)] [(h0, .inr (3, [.ref r1, .ref r2, .ref r3])), (r1, .inr (1, [.long τ.1.1, .long τ.1.2])), (r2, .inr (1, [.long τ.2.1.1, .long τ.2.1.2])), (r3, .inr (1, [.long τ.2.2.1, .long τ.2.2.2])), (kb, .inr (0, [.ref kq, .int (nI kz)])), (kq, .inl (kA, kN, .inl f)), (sb, .inr (0, [.ref sq, .int (nI sz)])), (sq, .inl (sA, sN, .inl g))] [(h0, .inr (3, [.ref r1, .ref r2, .ref r3])), (r1, .inr (1, [.long (((tr_load f (nI kz) g (nI sz)).1).1), .long (((tr_load f (nI kz) g (nI sz)).1).2)])), (r2, .inr (1, [.long (((tr_load f (nI kz) g (nI sz)).2.1).1), .long (((tr_load f (nI kz) g (nI sz)).2.1).2)])), (r3, .inr (1, [.long (((tr_load f (nI kz) g (nI sz)).2.2).1), .long (((tr_load f (nI kz) g (nI sz)).2.2).2)])), (kb, .inr (0, [.ref kq, .int (nI kz)])), (kq, .inl (kA, kN, .inl f)), (sb, .inr (0, [.ref sq, .int (nI sz)])), (sq, .inl (sA, sN, .inl g))] := by
  refine ct_of (cc := cX4_load) (maxL := 4) (ret := none) (by decide) rfl (Nat.le_of_ble_eq_true rfl) ?_
  intro p e s m below meth c A H locs ls hx hb hr hml hts hown hlk hnm hP hK hD hA hS hl
  have hown : s.vm.findClass RX4 = some m.cls := hown
  have hl : lv_has ls 4 [(0, .ref h0), (1, .ref kb), (2, .ref sb)] := hl
  have hf_10 := hts (.fieldLink RX4 10 "BitStreams$ThreeRings" "a" "LBitStreams$Cells;") (by decide +kernel)
  have hi_X4 : ∀ w ∈ u_ws RX4 TX4 3, w ∈ wsX4_load := by decide +kernel
  have cw_X1_clear := cwV (R := ({ frames := 2, cells := 0, slots := 0, locals := 45 } : Room)) (rm := ({ frames := 0, cells := 0, slots := 0, locals := 0 } : Room)) 0 hts gX4_load_X1_clear rfl rfl rfl (by decide +kernel) ⟨Nat.le_of_ble_eq_true rfl, Nat.le_of_ble_eq_true rfl⟩
  have hf_16 := hts (.fieldLink RX4 16 "BitStreams$ThreeRings" "b" "LBitStreams$Cells;") (by decide +kernel)
  have hf_19 := hts (.fieldLink RX4 19 "BitStreams$ThreeRings" "c" "LBitStreams$Cells;") (by decide +kernel)
  have cw_X0_bit := cwV (R := ({ frames := 2, cells := 0, slots := 0, locals := 45 } : Room)) (rm := ({ frames := 1, cells := 0, slots := 0, locals := 21 } : Room)) 1 hts gX4_load_X0_bit rfl rfl rfl (by decide +kernel) ⟨Nat.le_of_ble_eq_true rfl, Nat.le_of_ble_eq_true rfl⟩
  have cw_X1_add := cwV (R := ({ frames := 2, cells := 0, slots := 0, locals := 45 } : Room)) (rm := ({ frames := 0, cells := 0, slots := 0, locals := 0 } : Room)) 2 hts gX4_load_X1_add rfl rfl rfl (by decide +kernel) ⟨Nat.le_of_ble_eq_true rfl, Nat.le_of_ble_eq_true rfl⟩
  have cw_X4_nextBit := cwV (R := ({ frames := 2, cells := 0, slots := 0, locals := 45 } : Room)) (rm := ({ frames := 1, cells := 0, slots := 0, locals := 21 } : Room)) 0 hts gX4_load_X4_nextBit rfl rfl rfl (by decide +kernel) ⟨Nat.le_of_ble_eq_true rfl, Nat.le_of_ble_eq_true rfl⟩
  refine lv_aload_n hx hb dX4_load_0 rfl (lv_at hl 0 rfl) ?_
  refine va_get (D := D) (ci := 3) (v := .ref r1) (C := RX4) (T := TX4) (N := 3) hx hb hts hi_X4 hown hK hP 0 rfl rfl 0 (by decide) hf_10 (fun _ h9 => h9) rfl dX4_load_1 ?_
  refine ct_callVv (As := []) (rest := []) (wr := [(h0, .inr (3, [.ref r1, .ref r2, .ref r3])), (r2, .inr (1, [.long τ.2.1.1, .long τ.2.1.2])), (r3, .inr (1, [.long τ.2.2.1, .long τ.2.2.2])), (kb, .inr (0, [.ref kq, .int (nI kz)])), (kq, .inl (kA, kN, .inl f)), (sb, .inr (0, [.ref sq, .int (nI sz)])), (sq, .inl (sA, sN, .inl g))]) (ws2 := [(h0, .inr (3, [.ref r1, .ref r2, .ref r3])), (r1, .inr (1, [.long rg_0.1, .long rg_0.2])), (r2, .inr (1, [.long τ.2.1.1, .long τ.2.1.2])), (r3, .inr (1, [.long τ.2.2.1, .long τ.2.2.2])), (kb, .inr (0, [.ref kq, .int (nI kz)])), (kq, .inl (kA, kN, .inl f)), (sb, .inr (0, [.ref sq, .int (nI sz)])), (sq, .inl (sA, sN, .inl g))]) ⟨hx, hb, hml, hown, hts⟩ (c_clr l D r1 τ.1) cw_X1_clear [] rfl [1] [0, 2, 3, 4, 5, 6, 7] [0, 7, 1, 2, 3, 4, 5, 6] hK hP hD hS hA 0 1 rfl rfl rfl rfl (by decide) rfl (by decide) (by decide) rfl (by decide) rfl hl.1 rfl (Nat.le_of_ble_eq_true rfl) dX4_load_4 ⟨Nat.zero_le _, Nat.zero_le _⟩ (fun H locs hP hD hS => ?_)
  refine lv_aload_n hx hb dX4_load_7 rfl (lv_at hl 0 rfl) ?_
  refine va_get (D := D) (ci := 3) (v := .ref r2) (C := RX4) (T := TX4) (N := 3) hx hb hts hi_X4 hown hK hP 0 rfl rfl 1 (by decide) hf_16 (fun _ h9 => h9) rfl dX4_load_8 ?_
  refine ct_callVv (As := []) (rest := []) (wr := [(h0, .inr (3, [.ref r1, .ref r2, .ref r3])), (r1, .inr (1, [.long rg_0.1, .long rg_0.2])), (r3, .inr (1, [.long τ.2.2.1, .long τ.2.2.2])), (kb, .inr (0, [.ref kq, .int (nI kz)])), (kq, .inl (kA, kN, .inl f)), (sb, .inr (0, [.ref sq, .int (nI sz)])), (sq, .inl (sA, sN, .inl g))]) (ws2 := [(h0, .inr (3, [.ref r1, .ref r2, .ref r3])), (r1, .inr (1, [.long rg_0.1, .long rg_0.2])), (r2, .inr (1, [.long rg_0.1, .long rg_0.2])), (r3, .inr (1, [.long τ.2.2.1, .long τ.2.2.2])), (kb, .inr (0, [.ref kq, .int (nI kz)])), (kq, .inl (kA, kN, .inl f)), (sb, .inr (0, [.ref sq, .int (nI sz)])), (sq, .inl (sA, sN, .inl g))]) ⟨hx, hb, hml, hown, hts⟩ (c_clr l D r2 τ.2.1) cw_X1_clear [] rfl [2] [0, 1, 3, 4, 5, 6, 7] [0, 1, 7, 2, 3, 4, 5, 6] hK hP hD hS hA 0 1 rfl rfl rfl rfl (by decide) rfl (by decide) (by decide) rfl (by decide) rfl hl.1 rfl (Nat.le_of_ble_eq_true rfl) dX4_load_11 ⟨Nat.zero_le _, Nat.zero_le _⟩ (fun H locs hP hD hS => ?_)
  refine lv_aload_n hx hb dX4_load_14 rfl (lv_at hl 0 rfl) ?_
  refine va_get (D := D) (ci := 3) (v := .ref r3) (C := RX4) (T := TX4) (N := 3) hx hb hts hi_X4 hown hK hP 0 rfl rfl 2 (by decide) hf_19 (fun _ h9 => h9) rfl dX4_load_15 ?_
  refine ct_callVv (As := []) (rest := []) (wr := [(h0, .inr (3, [.ref r1, .ref r2, .ref r3])), (r1, .inr (1, [.long rg_0.1, .long rg_0.2])), (r2, .inr (1, [.long rg_0.1, .long rg_0.2])), (kb, .inr (0, [.ref kq, .int (nI kz)])), (kq, .inl (kA, kN, .inl f)), (sb, .inr (0, [.ref sq, .int (nI sz)])), (sq, .inl (sA, sN, .inl g))]) (ws2 := [(h0, .inr (3, [.ref r1, .ref r2, .ref r3])), (r1, .inr (1, [.long rg_0.1, .long rg_0.2])), (r2, .inr (1, [.long rg_0.1, .long rg_0.2])), (r3, .inr (1, [.long rg_0.1, .long rg_0.2])), (kb, .inr (0, [.ref kq, .int (nI kz)])), (kq, .inl (kA, kN, .inl f)), (sb, .inr (0, [.ref sq, .int (nI sz)])), (sq, .inl (sA, sN, .inl g))]) ⟨hx, hb, hml, hown, hts⟩ (c_clr l D r3 τ.2.2) cw_X1_clear [] rfl [3] [0, 1, 2, 4, 5, 6, 7] [0, 1, 2, 7, 3, 4, 5, 6] hK hP hD hS hA 0 1 rfl rfl rfl rfl (by decide) rfl (by decide) (by decide) rfl (by decide) rfl hl.1 rfl (Nat.le_of_ble_eq_true rfl) dX4_load_18 ⟨Nat.zero_le _, Nat.zero_le _⟩ (fun H locs hP hD hS => ?_)
  refine lv_iconst (v := 0) hx hb dX4_load_21 (by decide) ?_
  refine lv_istore_n (lv' := [(3, .int 0), (0, .ref h0), (1, .ref kb), (2, .ref sb)]) hx hb dX4_load_22 rfl hl (by decide) rfl (fun ls hl => ?_)
  refine ct_count 80 (fun k : Nat => [(h0, .inr (3, [.ref r1, .ref r2, .ref r3])), (r1, .inr (1, [.long (((tr_l1 f (nI kz) g (nI sz) k).1).1), .long (((tr_l1 f (nI kz) g (nI sz) k).1).2)])), (r2, .inr (1, [.long (((tr_l1 f (nI kz) g (nI sz) k).2.1).1), .long (((tr_l1 f (nI kz) g (nI sz) k).2.1).2)])), (r3, .inr (1, [.long (((tr_l1 f (nI kz) g (nI sz) k).2.2).1), .long (((tr_l1 f (nI kz) g (nI sz) k).2.2).2)])), (kb, .inr (0, [.ref kq, .int (nI kz)])), (kq, .inl (kA, kN, .inl f)), (sb, .inr (0, [.ref sq, .int (nI sz)])), (sq, .inl (sA, sN, .inl g))]) (fun k : Nat => [(3, .int (nI k)), (0, .ref h0), (1, .ref kb), (2, .ref sb)]) ?_ ?_ 0 (by decide) hP hD hS (lv_sub hl [0, 1, 2, 3] rfl)
  · intro k hk ih23 H locs ls hP hD hS hl
    have hP : va_P D vwCl [(h0, .inr (3, [.ref r1, .ref r2, .ref r3])), (r1, .inr (1, [.long (((tr_l1 f (nI kz) g (nI sz) k).1).1), .long (((tr_l1 f (nI kz) g (nI sz) k).1).2)])), (r2, .inr (1, [.long (((tr_l1 f (nI kz) g (nI sz) k).2.1).1), .long (((tr_l1 f (nI kz) g (nI sz) k).2.1).2)])), (r3, .inr (1, [.long (((tr_l1 f (nI kz) g (nI sz) k).2.2).1), .long (((tr_l1 f (nI kz) g (nI sz) k).2.2).2)])), (kb, .inr (0, [.ref kq, .int (nI kz)])), (kq, .inl (kA, kN, .inl f)), (sb, .inr (0, [.ref sq, .int (nI sz)])), (sq, .inl (sA, sN, .inl g))] H := hP
    have hD : va_D A [(h0, .inr (3, [.ref r1, .ref r2, .ref r3])), (r1, .inr (1, [.long (((tr_l1 f (nI kz) g (nI sz) k).1).1), .long (((tr_l1 f (nI kz) g (nI sz) k).1).2)])), (r2, .inr (1, [.long (((tr_l1 f (nI kz) g (nI sz) k).2.1).1), .long (((tr_l1 f (nI kz) g (nI sz) k).2.1).2)])), (r3, .inr (1, [.long (((tr_l1 f (nI kz) g (nI sz) k).2.2).1), .long (((tr_l1 f (nI kz) g (nI sz) k).2.2).2)])), (kb, .inr (0, [.ref kq, .int (nI kz)])), (kq, .inl (kA, kN, .inl f)), (sb, .inr (0, [.ref sq, .int (nI sz)])), (sq, .inl (sA, sN, .inl g))] := hD
    have hl : lv_has ls 4 [(3, .int (nI k)), (0, .ref h0), (1, .ref kb), (2, .ref sb)] := hl
    refine lv_iload_n hx hb dX4_load_23 rfl (lv_at hl 0 rfl) ?_
    refine lv_bipush (v := 80) hx hb dX4_load_24 (by decide) ?_
    refine lv_icmp_ge (tgt := 61) hx hb dX4_load_26 (by decide) (fun hh => absurd hh (nI_ge (b := 80) hk (by decide))) (fun _ => ?_)
    refine lv_aload_n hx hb dX4_load_29 rfl (lv_at hl 1 rfl) ?_
    refine va_get (D := D) (ci := 3) (v := .ref r1) (C := RX4) (T := TX4) (N := 3) hx hb hts hi_X4 hown hK hP 0 rfl rfl 0 (by decide) hf_10 (fun _ h9 => h9) rfl dX4_load_30 ?_
    refine lv_iload_n hx hb dX4_load_33 rfl (lv_at hl 0 rfl) ?_
    refine lv_aload_n hx hb dX4_load_34 rfl (lv_at hl 2 rfl) ?_
    refine lv_iload_n hx hb dX4_load_35 rfl (lv_at hl 0 rfl) ?_
    refine ct_callVi (As := [.int (nI k)]) (rest := [.int (nI k), .ref r1]) (wr := [(h0, .inr (3, [.ref r1, .ref r2, .ref r3])), (r1, .inr (1, [.long (((tr_l1 f (nI kz) g (nI sz) k).1).1), .long (((tr_l1 f (nI kz) g (nI sz) k).1).2)])), (r2, .inr (1, [.long (((tr_l1 f (nI kz) g (nI sz) k).2.1).1), .long (((tr_l1 f (nI kz) g (nI sz) k).2.1).2)])), (r3, .inr (1, [.long (((tr_l1 f (nI kz) g (nI sz) k).2.2).1), .long (((tr_l1 f (nI kz) g (nI sz) k).2.2).2)])), (sb, .inr (0, [.ref sq, .int (nI sz)])), (sq, .inl (sA, sN, .inl g))]) (ws2 := [(h0, .inr (3, [.ref r1, .ref r2, .ref r3])), (r1, .inr (1, [.long (((tr_l1 f (nI kz) g (nI sz) k).1).1), .long (((tr_l1 f (nI kz) g (nI sz) k).1).2)])), (r2, .inr (1, [.long (((tr_l1 f (nI kz) g (nI sz) k).2.1).1), .long (((tr_l1 f (nI kz) g (nI sz) k).2.1).2)])), (r3, .inr (1, [.long (((tr_l1 f (nI kz) g (nI sz) k).2.2).1), .long (((tr_l1 f (nI kz) g (nI sz) k).2.2).2)])), (kb, .inr (0, [.ref kq, .int (nI kz)])), (kq, .inl (kA, kN, .inl f)), (sb, .inr (0, [.ref sq, .int (nI sz)])), (sq, .inl (sA, sN, .inl g))]) ⟨hx, hb, hml, hown, hts⟩ (c_by_bit l D kb kq kA kN kz hkz hkN f (nI k)) cw_X0_bit [0] rfl [4, 5] [0, 1, 2, 3, 6, 7] [0, 1, 2, 3, 6, 7, 4, 5] hK hP hD hS hA 0 0 rfl rfl rfl rfl (by decide) rfl (by decide) (by decide) rfl (by decide) rfl hl.1 rfl (Nat.le_of_ble_eq_true rfl) dX4_load_36 ⟨Nat.zero_le _, Nat.zero_le _⟩ (fun H locs hP hD hS => ?_)
    refine ct_callVv (As := [.int (nI k), .int (by_bit f (nI kz) (nI k))]) (rest := []) (wr := [(h0, .inr (3, [.ref r1, .ref r2, .ref r3])), (r2, .inr (1, [.long (((tr_l1 f (nI kz) g (nI sz) k).2.1).1), .long (((tr_l1 f (nI kz) g (nI sz) k).2.1).2)])), (r3, .inr (1, [.long (((tr_l1 f (nI kz) g (nI sz) k).2.2).1), .long (((tr_l1 f (nI kz) g (nI sz) k).2.2).2)])), (kb, .inr (0, [.ref kq, .int (nI kz)])), (kq, .inl (kA, kN, .inl f)), (sb, .inr (0, [.ref sq, .int (nI sz)])), (sq, .inl (sA, sN, .inl g))]) (ws2 := [(h0, .inr (3, [.ref r1, .ref r2, .ref r3])), (r1, .inr (1, [.long ((rg_add ((tr_l1 f (nI kz) g (nI sz) k).1) (nI k) (by_bit f (nI kz) (nI k))).1), .long ((rg_add ((tr_l1 f (nI kz) g (nI sz) k).1) (nI k) (by_bit f (nI kz) (nI k))).2)])), (r2, .inr (1, [.long (((tr_l1 f (nI kz) g (nI sz) k).2.1).1), .long (((tr_l1 f (nI kz) g (nI sz) k).2.1).2)])), (r3, .inr (1, [.long (((tr_l1 f (nI kz) g (nI sz) k).2.2).1), .long (((tr_l1 f (nI kz) g (nI sz) k).2.2).2)])), (kb, .inr (0, [.ref kq, .int (nI kz)])), (kq, .inl (kA, kN, .inl f)), (sb, .inr (0, [.ref sq, .int (nI sz)])), (sq, .inl (sA, sN, .inl g))]) ⟨hx, hb, hml, hown, hts⟩ (c_add l D r1 ((tr_l1 f (nI kz) g (nI sz) k).1) (nI k) (by_bit f (nI kz) (nI k))) cw_X1_add [] rfl [1] [0, 2, 3, 4, 5, 6, 7] [0, 7, 1, 2, 3, 4, 5, 6] hK hP hD hS hA 0 1 rfl rfl rfl rfl (by decide) rfl (by decide) (by decide) rfl (by decide) rfl hl.1 rfl (Nat.le_of_ble_eq_true rfl) dX4_load_39 ⟨Nat.zero_le _, Nat.zero_le _⟩ (fun H locs hP hD hS => ?_)
    refine lv_aload_n hx hb dX4_load_42 rfl (lv_at hl 1 rfl) ?_
    refine va_get (D := D) (ci := 3) (v := .ref r2) (C := RX4) (T := TX4) (N := 3) hx hb hts hi_X4 hown hK hP 0 rfl rfl 1 (by decide) hf_16 (fun _ h9 => h9) rfl dX4_load_43 ?_
    refine lv_iload_n hx hb dX4_load_46 rfl (lv_at hl 0 rfl) ?_
    refine lv_aload_n hx hb dX4_load_47 rfl (lv_at hl 3 rfl) ?_
    refine lv_iload_n hx hb dX4_load_48 rfl (lv_at hl 0 rfl) ?_
    refine ct_callVi (As := [.int (nI k)]) (rest := [.int (nI k), .ref r2]) (wr := [(h0, .inr (3, [.ref r1, .ref r2, .ref r3])), (r1, .inr (1, [.long ((rg_add ((tr_l1 f (nI kz) g (nI sz) k).1) (nI k) (by_bit f (nI kz) (nI k))).1), .long ((rg_add ((tr_l1 f (nI kz) g (nI sz) k).1) (nI k) (by_bit f (nI kz) (nI k))).2)])), (r2, .inr (1, [.long (((tr_l1 f (nI kz) g (nI sz) k).2.1).1), .long (((tr_l1 f (nI kz) g (nI sz) k).2.1).2)])), (r3, .inr (1, [.long (((tr_l1 f (nI kz) g (nI sz) k).2.2).1), .long (((tr_l1 f (nI kz) g (nI sz) k).2.2).2)])), (kb, .inr (0, [.ref kq, .int (nI kz)])), (kq, .inl (kA, kN, .inl f))]) (ws2 := [(h0, .inr (3, [.ref r1, .ref r2, .ref r3])), (r1, .inr (1, [.long ((rg_add ((tr_l1 f (nI kz) g (nI sz) k).1) (nI k) (by_bit f (nI kz) (nI k))).1), .long ((rg_add ((tr_l1 f (nI kz) g (nI sz) k).1) (nI k) (by_bit f (nI kz) (nI k))).2)])), (r2, .inr (1, [.long (((tr_l1 f (nI kz) g (nI sz) k).2.1).1), .long (((tr_l1 f (nI kz) g (nI sz) k).2.1).2)])), (r3, .inr (1, [.long (((tr_l1 f (nI kz) g (nI sz) k).2.2).1), .long (((tr_l1 f (nI kz) g (nI sz) k).2.2).2)])), (kb, .inr (0, [.ref kq, .int (nI kz)])), (kq, .inl (kA, kN, .inl f)), (sb, .inr (0, [.ref sq, .int (nI sz)])), (sq, .inl (sA, sN, .inl g))]) ⟨hx, hb, hml, hown, hts⟩ (c_by_bit l D sb sq sA sN sz hsz hsN g (nI k)) cw_X0_bit [1] rfl [6, 7] [0, 1, 2, 3, 4, 5] [0, 1, 2, 3, 4, 5, 6, 7] hK hP hD hS hA 0 0 rfl rfl rfl rfl (by decide) rfl (by decide) (by decide) rfl (by decide) rfl hl.1 rfl (Nat.le_of_ble_eq_true rfl) dX4_load_49 ⟨Nat.zero_le _, Nat.zero_le _⟩ (fun H locs hP hD hS => ?_)
    refine ct_callVv (As := [.int (nI k), .int (by_bit g (nI sz) (nI k))]) (rest := []) (wr := [(h0, .inr (3, [.ref r1, .ref r2, .ref r3])), (r1, .inr (1, [.long ((rg_add ((tr_l1 f (nI kz) g (nI sz) k).1) (nI k) (by_bit f (nI kz) (nI k))).1), .long ((rg_add ((tr_l1 f (nI kz) g (nI sz) k).1) (nI k) (by_bit f (nI kz) (nI k))).2)])), (r3, .inr (1, [.long (((tr_l1 f (nI kz) g (nI sz) k).2.2).1), .long (((tr_l1 f (nI kz) g (nI sz) k).2.2).2)])), (kb, .inr (0, [.ref kq, .int (nI kz)])), (kq, .inl (kA, kN, .inl f)), (sb, .inr (0, [.ref sq, .int (nI sz)])), (sq, .inl (sA, sN, .inl g))]) (ws2 := [(h0, .inr (3, [.ref r1, .ref r2, .ref r3])), (r1, .inr (1, [.long ((rg_add ((tr_l1 f (nI kz) g (nI sz) k).1) (nI k) (by_bit f (nI kz) (nI k))).1), .long ((rg_add ((tr_l1 f (nI kz) g (nI sz) k).1) (nI k) (by_bit f (nI kz) (nI k))).2)])), (r2, .inr (1, [.long ((rg_add ((tr_l1 f (nI kz) g (nI sz) k).2.1) (nI k) (by_bit g (nI sz) (nI k))).1), .long ((rg_add ((tr_l1 f (nI kz) g (nI sz) k).2.1) (nI k) (by_bit g (nI sz) (nI k))).2)])), (r3, .inr (1, [.long (((tr_l1 f (nI kz) g (nI sz) k).2.2).1), .long (((tr_l1 f (nI kz) g (nI sz) k).2.2).2)])), (kb, .inr (0, [.ref kq, .int (nI kz)])), (kq, .inl (kA, kN, .inl f)), (sb, .inr (0, [.ref sq, .int (nI sz)])), (sq, .inl (sA, sN, .inl g))]) ⟨hx, hb, hml, hown, hts⟩ (c_add l D r2 ((tr_l1 f (nI kz) g (nI sz) k).2.1) (nI k) (by_bit g (nI sz) (nI k))) cw_X1_add [] rfl [2] [0, 1, 3, 4, 5, 6, 7] [0, 1, 7, 2, 3, 4, 5, 6] hK hP hD hS hA 0 1 rfl rfl rfl rfl (by decide) rfl (by decide) (by decide) rfl (by decide) rfl hl.1 rfl (Nat.le_of_ble_eq_true rfl) dX4_load_52 ⟨Nat.zero_le _, Nat.zero_le _⟩ (fun H locs hP hD hS => ?_)
    refine lv_iinc (v := nI (k + 1)) (lv' := [(3, .int (nI (k + 1))), (0, .ref h0), (1, .ref kb), (2, .ref sb)]) hx hb dX4_load_55 hl (k := 0) rfl (ct_inc k) (by decide) rfl (fun ls hl => ?_)
    refine lv_goto (tgt := 23) hx hb dX4_load_58 (by decide) ?_
    exact ih23 H locs ls hP hD hS (lv_sub hl [0, 1, 2, 3] rfl)
  · intro H locs ls hP hD hS hl
    have hP : va_P D vwCl [(h0, .inr (3, [.ref r1, .ref r2, .ref r3])), (r1, .inr (1, [.long (((tr_l1 f (nI kz) g (nI sz) 80).1).1), .long (((tr_l1 f (nI kz) g (nI sz) 80).1).2)])), (r2, .inr (1, [.long (((tr_l1 f (nI kz) g (nI sz) 80).2.1).1), .long (((tr_l1 f (nI kz) g (nI sz) 80).2.1).2)])), (r3, .inr (1, [.long (((tr_l1 f (nI kz) g (nI sz) 80).2.2).1), .long (((tr_l1 f (nI kz) g (nI sz) 80).2.2).2)])), (kb, .inr (0, [.ref kq, .int (nI kz)])), (kq, .inl (kA, kN, .inl f)), (sb, .inr (0, [.ref sq, .int (nI sz)])), (sq, .inl (sA, sN, .inl g))] H := hP
    have hD : va_D A [(h0, .inr (3, [.ref r1, .ref r2, .ref r3])), (r1, .inr (1, [.long (((tr_l1 f (nI kz) g (nI sz) 80).1).1), .long (((tr_l1 f (nI kz) g (nI sz) 80).1).2)])), (r2, .inr (1, [.long (((tr_l1 f (nI kz) g (nI sz) 80).2.1).1), .long (((tr_l1 f (nI kz) g (nI sz) 80).2.1).2)])), (r3, .inr (1, [.long (((tr_l1 f (nI kz) g (nI sz) 80).2.2).1), .long (((tr_l1 f (nI kz) g (nI sz) 80).2.2).2)])), (kb, .inr (0, [.ref kq, .int (nI kz)])), (kq, .inl (kA, kN, .inl f)), (sb, .inr (0, [.ref sq, .int (nI sz)])), (sq, .inl (sA, sN, .inl g))] := hD
    have hl : lv_has ls 4 [(3, .int (nI 80)), (0, .ref h0), (1, .ref kb), (2, .ref sb)] := hl
    refine lv_iload_n hx hb dX4_load_23 rfl (lv_at hl 0 rfl) ?_
    refine lv_bipush (v := 80) hx hb dX4_load_24 (by decide) ?_
    refine lv_icmp_ge (tgt := 61) hx hb dX4_load_26 (by decide) (fun _ => ?_) (fun hh => absurd (Int32.le_refl _) hh)
    refine lv_aload_n hx hb dX4_load_61 rfl (lv_at hl 1 rfl) ?_
    refine va_get (D := D) (ci := 3) (v := .ref r3) (C := RX4) (T := TX4) (N := 3) hx hb hts hi_X4 hown hK hP 0 rfl rfl 2 (by decide) hf_19 (fun _ h9 => h9) rfl dX4_load_62 ?_
    refine lv_bipush (v := 108) hx hb dX4_load_65 (by decide) ?_
    refine lv_iconst (v := 1) hx hb dX4_load_67 (by decide) ?_
    refine ct_callVv (As := [.int 108, .int 1]) (rest := []) (wr := [(h0, .inr (3, [.ref r1, .ref r2, .ref r3])), (r1, .inr (1, [.long (((tr_l1 f (nI kz) g (nI sz) 80).1).1), .long (((tr_l1 f (nI kz) g (nI sz) 80).1).2)])), (r2, .inr (1, [.long (((tr_l1 f (nI kz) g (nI sz) 80).2.1).1), .long (((tr_l1 f (nI kz) g (nI sz) 80).2.1).2)])), (kb, .inr (0, [.ref kq, .int (nI kz)])), (kq, .inl (kA, kN, .inl f)), (sb, .inr (0, [.ref sq, .int (nI sz)])), (sq, .inl (sA, sN, .inl g))]) (ws2 := [(h0, .inr (3, [.ref r1, .ref r2, .ref r3])), (r1, .inr (1, [.long (((tr_l1 f (nI kz) g (nI sz) 80).1).1), .long (((tr_l1 f (nI kz) g (nI sz) 80).1).2)])), (r2, .inr (1, [.long (((tr_l1 f (nI kz) g (nI sz) 80).2.1).1), .long (((tr_l1 f (nI kz) g (nI sz) 80).2.1).2)])), (r3, .inr (1, [.long ((rg_add ((tr_l1 f (nI kz) g (nI sz) 80).2.2) 108 1).1), .long ((rg_add ((tr_l1 f (nI kz) g (nI sz) 80).2.2) 108 1).2)])), (kb, .inr (0, [.ref kq, .int (nI kz)])), (kq, .inl (kA, kN, .inl f)), (sb, .inr (0, [.ref sq, .int (nI sz)])), (sq, .inl (sA, sN, .inl g))]) ⟨hx, hb, hml, hown, hts⟩ (c_add l D r3 ((tr_l1 f (nI kz) g (nI sz) 80).2.2) 108 1) cw_X1_add [] rfl [3] [0, 1, 2, 4, 5, 6, 7] [0, 1, 2, 7, 3, 4, 5, 6] hK hP hD hS hA 0 1 rfl rfl rfl rfl (by decide) rfl (by decide) (by decide) rfl (by decide) rfl hl.1 rfl (Nat.le_of_ble_eq_true rfl) dX4_load_68 ⟨Nat.zero_le _, Nat.zero_le _⟩ (fun H locs hP hD hS => ?_)
    refine lv_aload_n hx hb dX4_load_71 rfl (lv_at hl 1 rfl) ?_
    refine va_get (D := D) (ci := 3) (v := .ref r3) (C := RX4) (T := TX4) (N := 3) hx hb hts hi_X4 hown hK hP 0 rfl rfl 2 (by decide) hf_19 (fun _ h9 => h9) rfl dX4_load_72 ?_
    refine lv_bipush (v := 109) hx hb dX4_load_75 (by decide) ?_
    refine lv_iconst (v := 1) hx hb dX4_load_77 (by decide) ?_
    refine ct_callVv (As := [.int 109, .int 1]) (rest := []) (wr := [(h0, .inr (3, [.ref r1, .ref r2, .ref r3])), (r1, .inr (1, [.long (((tr_l1 f (nI kz) g (nI sz) 80).1).1), .long (((tr_l1 f (nI kz) g (nI sz) 80).1).2)])), (r2, .inr (1, [.long (((tr_l1 f (nI kz) g (nI sz) 80).2.1).1), .long (((tr_l1 f (nI kz) g (nI sz) 80).2.1).2)])), (kb, .inr (0, [.ref kq, .int (nI kz)])), (kq, .inl (kA, kN, .inl f)), (sb, .inr (0, [.ref sq, .int (nI sz)])), (sq, .inl (sA, sN, .inl g))]) (ws2 := [(h0, .inr (3, [.ref r1, .ref r2, .ref r3])), (r1, .inr (1, [.long (((tr_l1 f (nI kz) g (nI sz) 80).1).1), .long (((tr_l1 f (nI kz) g (nI sz) 80).1).2)])), (r2, .inr (1, [.long (((tr_l1 f (nI kz) g (nI sz) 80).2.1).1), .long (((tr_l1 f (nI kz) g (nI sz) 80).2.1).2)])), (r3, .inr (1, [.long ((rg_add (rg_add ((tr_l1 f (nI kz) g (nI sz) 80).2.2) 108 1) 109 1).1), .long ((rg_add (rg_add ((tr_l1 f (nI kz) g (nI sz) 80).2.2) 108 1) 109 1).2)])), (kb, .inr (0, [.ref kq, .int (nI kz)])), (kq, .inl (kA, kN, .inl f)), (sb, .inr (0, [.ref sq, .int (nI sz)])), (sq, .inl (sA, sN, .inl g))]) ⟨hx, hb, hml, hown, hts⟩ (c_add l D r3 (rg_add ((tr_l1 f (nI kz) g (nI sz) 80).2.2) 108 1) 109 1) cw_X1_add [] rfl [3] [0, 1, 2, 4, 5, 6, 7] [0, 1, 2, 7, 3, 4, 5, 6] hK hP hD hS hA 0 1 rfl rfl rfl rfl (by decide) rfl (by decide) (by decide) rfl (by decide) rfl hl.1 rfl (Nat.le_of_ble_eq_true rfl) dX4_load_78 ⟨Nat.zero_le _, Nat.zero_le _⟩ (fun H locs hP hD hS => ?_)
    refine lv_aload_n hx hb dX4_load_81 rfl (lv_at hl 1 rfl) ?_
    refine va_get (D := D) (ci := 3) (v := .ref r3) (C := RX4) (T := TX4) (N := 3) hx hb hts hi_X4 hown hK hP 0 rfl rfl 2 (by decide) hf_19 (fun _ h9 => h9) rfl dX4_load_82 ?_
    refine lv_bipush (v := 110) hx hb dX4_load_85 (by decide) ?_
    refine lv_iconst (v := 1) hx hb dX4_load_87 (by decide) ?_
    refine ct_callVv (As := [.int 110, .int 1]) (rest := []) (wr := [(h0, .inr (3, [.ref r1, .ref r2, .ref r3])), (r1, .inr (1, [.long (((tr_l1 f (nI kz) g (nI sz) 80).1).1), .long (((tr_l1 f (nI kz) g (nI sz) 80).1).2)])), (r2, .inr (1, [.long (((tr_l1 f (nI kz) g (nI sz) 80).2.1).1), .long (((tr_l1 f (nI kz) g (nI sz) 80).2.1).2)])), (kb, .inr (0, [.ref kq, .int (nI kz)])), (kq, .inl (kA, kN, .inl f)), (sb, .inr (0, [.ref sq, .int (nI sz)])), (sq, .inl (sA, sN, .inl g))]) (ws2 := [(h0, .inr (3, [.ref r1, .ref r2, .ref r3])), (r1, .inr (1, [.long (((tr_l1 f (nI kz) g (nI sz) 80).1).1), .long (((tr_l1 f (nI kz) g (nI sz) 80).1).2)])), (r2, .inr (1, [.long (((tr_l1 f (nI kz) g (nI sz) 80).2.1).1), .long (((tr_l1 f (nI kz) g (nI sz) 80).2.1).2)])), (r3, .inr (1, [.long ((rg_add (rg_add (rg_add ((tr_l1 f (nI kz) g (nI sz) 80).2.2) 108 1) 109 1) 110 1).1), .long ((rg_add (rg_add (rg_add ((tr_l1 f (nI kz) g (nI sz) 80).2.2) 108 1) 109 1) 110 1).2)])), (kb, .inr (0, [.ref kq, .int (nI kz)])), (kq, .inl (kA, kN, .inl f)), (sb, .inr (0, [.ref sq, .int (nI sz)])), (sq, .inl (sA, sN, .inl g))]) ⟨hx, hb, hml, hown, hts⟩ (c_add l D r3 (rg_add (rg_add ((tr_l1 f (nI kz) g (nI sz) 80).2.2) 108 1) 109 1) 110 1) cw_X1_add [] rfl [3] [0, 1, 2, 4, 5, 6, 7] [0, 1, 2, 7, 3, 4, 5, 6] hK hP hD hS hA 0 1 rfl rfl rfl rfl (by decide) rfl (by decide) (by decide) rfl (by decide) rfl hl.1 rfl (Nat.le_of_ble_eq_true rfl) dX4_load_88 ⟨Nat.zero_le _, Nat.zero_le _⟩ (fun H locs hP hD hS => ?_)
    refine lv_iconst (v := 0) hx hb dX4_load_91 (by decide) ?_
    refine lv_istore_n (lv' := [(3, .int 0), (0, .ref h0), (1, .ref kb), (2, .ref sb)]) hx hb dX4_load_92 rfl hl (by decide) rfl (fun ls hl => ?_)
    refine ct_count 1152 (fun k : Nat => [(h0, .inr (3, [.ref r1, .ref r2, .ref r3])), (r1, .inr (1, [.long (((tr_it (tr_l2 (tr_l1 f (nI kz) g (nI sz) 80)) k).1).1), .long (((tr_it (tr_l2 (tr_l1 f (nI kz) g (nI sz) 80)) k).1).2)])), (r2, .inr (1, [.long (((tr_it (tr_l2 (tr_l1 f (nI kz) g (nI sz) 80)) k).2.1).1), .long (((tr_it (tr_l2 (tr_l1 f (nI kz) g (nI sz) 80)) k).2.1).2)])), (r3, .inr (1, [.long (((tr_it (tr_l2 (tr_l1 f (nI kz) g (nI sz) 80)) k).2.2).1), .long (((tr_it (tr_l2 (tr_l1 f (nI kz) g (nI sz) 80)) k).2.2).2)])), (kb, .inr (0, [.ref kq, .int (nI kz)])), (kq, .inl (kA, kN, .inl f)), (sb, .inr (0, [.ref sq, .int (nI sz)])), (sq, .inl (sA, sN, .inl g))]) (fun k : Nat => [(3, .int (nI k)), (0, .ref h0), (1, .ref kb), (2, .ref sb)]) ?_ ?_ 0 (by decide) hP hD hS (lv_sub hl [0, 1, 2, 3] rfl)
    · intro k hk ih93 H locs ls hP hD hS hl
      have hP : va_P D vwCl [(h0, .inr (3, [.ref r1, .ref r2, .ref r3])), (r1, .inr (1, [.long (((tr_it (tr_l2 (tr_l1 f (nI kz) g (nI sz) 80)) k).1).1), .long (((tr_it (tr_l2 (tr_l1 f (nI kz) g (nI sz) 80)) k).1).2)])), (r2, .inr (1, [.long (((tr_it (tr_l2 (tr_l1 f (nI kz) g (nI sz) 80)) k).2.1).1), .long (((tr_it (tr_l2 (tr_l1 f (nI kz) g (nI sz) 80)) k).2.1).2)])), (r3, .inr (1, [.long (((tr_it (tr_l2 (tr_l1 f (nI kz) g (nI sz) 80)) k).2.2).1), .long (((tr_it (tr_l2 (tr_l1 f (nI kz) g (nI sz) 80)) k).2.2).2)])), (kb, .inr (0, [.ref kq, .int (nI kz)])), (kq, .inl (kA, kN, .inl f)), (sb, .inr (0, [.ref sq, .int (nI sz)])), (sq, .inl (sA, sN, .inl g))] H := hP
      have hD : va_D A [(h0, .inr (3, [.ref r1, .ref r2, .ref r3])), (r1, .inr (1, [.long (((tr_it (tr_l2 (tr_l1 f (nI kz) g (nI sz) 80)) k).1).1), .long (((tr_it (tr_l2 (tr_l1 f (nI kz) g (nI sz) 80)) k).1).2)])), (r2, .inr (1, [.long (((tr_it (tr_l2 (tr_l1 f (nI kz) g (nI sz) 80)) k).2.1).1), .long (((tr_it (tr_l2 (tr_l1 f (nI kz) g (nI sz) 80)) k).2.1).2)])), (r3, .inr (1, [.long (((tr_it (tr_l2 (tr_l1 f (nI kz) g (nI sz) 80)) k).2.2).1), .long (((tr_it (tr_l2 (tr_l1 f (nI kz) g (nI sz) 80)) k).2.2).2)])), (kb, .inr (0, [.ref kq, .int (nI kz)])), (kq, .inl (kA, kN, .inl f)), (sb, .inr (0, [.ref sq, .int (nI sz)])), (sq, .inl (sA, sN, .inl g))] := hD
      have hl : lv_has ls 4 [(3, .int (nI k)), (0, .ref h0), (1, .ref kb), (2, .ref sb)] := hl
      refine lv_iload_n hx hb dX4_load_93 rfl (lv_at hl 0 rfl) ?_
      refine lv_sipush (v := 1152) hx hb dX4_load_94 (by decide) ?_
      refine lv_icmp_ge (tgt := 111) hx hb dX4_load_97 (by decide) (fun hh => absurd hh (nI_ge (b := 1152) hk (by decide))) (fun _ => ?_)
      refine lv_aload_n hx hb dX4_load_100 rfl (lv_at hl 1 rfl) ?_
      refine ct_callVi (As := []) (rest := []) (wr := [(kb, .inr (0, [.ref kq, .int (nI kz)])), (kq, .inl (kA, kN, .inl f)), (sb, .inr (0, [.ref sq, .int (nI sz)])), (sq, .inl (sA, sN, .inl g))]) (ws2 := [(h0, .inr (3, [.ref r1, .ref r2, .ref r3])), (r1, .inr (1, [.long (((tr_step (((tr_it (tr_l2 (tr_l1 f (nI kz) g (nI sz) 80)) k).1), ((tr_it (tr_l2 (tr_l1 f (nI kz) g (nI sz) 80)) k).2.1), ((tr_it (tr_l2 (tr_l1 f (nI kz) g (nI sz) 80)) k).2.2))).1).1), .long (((tr_step (((tr_it (tr_l2 (tr_l1 f (nI kz) g (nI sz) 80)) k).1), ((tr_it (tr_l2 (tr_l1 f (nI kz) g (nI sz) 80)) k).2.1), ((tr_it (tr_l2 (tr_l1 f (nI kz) g (nI sz) 80)) k).2.2))).1).2)])), (r2, .inr (1, [.long (((tr_step (((tr_it (tr_l2 (tr_l1 f (nI kz) g (nI sz) 80)) k).1), ((tr_it (tr_l2 (tr_l1 f (nI kz) g (nI sz) 80)) k).2.1), ((tr_it (tr_l2 (tr_l1 f (nI kz) g (nI sz) 80)) k).2.2))).2.1).1), .long (((tr_step (((tr_it (tr_l2 (tr_l1 f (nI kz) g (nI sz) 80)) k).1), ((tr_it (tr_l2 (tr_l1 f (nI kz) g (nI sz) 80)) k).2.1), ((tr_it (tr_l2 (tr_l1 f (nI kz) g (nI sz) 80)) k).2.2))).2.1).2)])), (r3, .inr (1, [.long (((tr_step (((tr_it (tr_l2 (tr_l1 f (nI kz) g (nI sz) 80)) k).1), ((tr_it (tr_l2 (tr_l1 f (nI kz) g (nI sz) 80)) k).2.1), ((tr_it (tr_l2 (tr_l1 f (nI kz) g (nI sz) 80)) k).2.2))).2.2).1), .long (((tr_step (((tr_it (tr_l2 (tr_l1 f (nI kz) g (nI sz) 80)) k).1), ((tr_it (tr_l2 (tr_l1 f (nI kz) g (nI sz) 80)) k).2.1), ((tr_it (tr_l2 (tr_l1 f (nI kz) g (nI sz) 80)) k).2.2))).2.2).2)])), (kb, .inr (0, [.ref kq, .int (nI kz)])), (kq, .inl (kA, kN, .inl f)), (sb, .inr (0, [.ref sq, .int (nI sz)])), (sq, .inl (sA, sN, .inl g))]) ⟨hx, hb, hml, hown, hts⟩ (c_tr_next l D h0 r1 r2 r3 (((tr_it (tr_l2 (tr_l1 f (nI kz) g (nI sz) 80)) k).1), ((tr_it (tr_l2 (tr_l1 f (nI kz) g (nI sz) 80)) k).2.1), ((tr_it (tr_l2 (tr_l1 f (nI kz) g (nI sz) 80)) k).2.2))) cw_X4_nextBit [] rfl [0, 1, 2, 3] [4, 5, 6, 7] [4, 5, 6, 7, 0, 1, 2, 3] hK hP hD hS hA 0 3 rfl rfl rfl rfl (by decide) rfl (by decide) (by decide) rfl (by decide) rfl hl.1 rfl (Nat.le_of_ble_eq_true rfl) dX4_load_101 ⟨Nat.zero_le _, Nat.zero_le _⟩ (fun H locs hP hD hS => ?_)
      refine lv_pop hx hb dX4_load_104 rfl ?_
      refine lv_iinc (v := nI (k + 1)) (lv' := [(3, .int (nI (k + 1))), (0, .ref h0), (1, .ref kb), (2, .ref sb)]) hx hb dX4_load_105 hl (k := 0) rfl (ct_inc k) (by decide) rfl (fun ls hl => ?_)
      refine lv_goto (tgt := 93) hx hb dX4_load_108 (by decide) ?_
      exact ih93 H locs ls hP hD hS (lv_sub hl [0, 1, 2, 3] rfl)
    · intro H locs ls hP hD hS hl
      have hP : va_P D vwCl [(h0, .inr (3, [.ref r1, .ref r2, .ref r3])), (r1, .inr (1, [.long (((tr_it (tr_l2 (tr_l1 f (nI kz) g (nI sz) 80)) 1152).1).1), .long (((tr_it (tr_l2 (tr_l1 f (nI kz) g (nI sz) 80)) 1152).1).2)])), (r2, .inr (1, [.long (((tr_it (tr_l2 (tr_l1 f (nI kz) g (nI sz) 80)) 1152).2.1).1), .long (((tr_it (tr_l2 (tr_l1 f (nI kz) g (nI sz) 80)) 1152).2.1).2)])), (r3, .inr (1, [.long (((tr_it (tr_l2 (tr_l1 f (nI kz) g (nI sz) 80)) 1152).2.2).1), .long (((tr_it (tr_l2 (tr_l1 f (nI kz) g (nI sz) 80)) 1152).2.2).2)])), (kb, .inr (0, [.ref kq, .int (nI kz)])), (kq, .inl (kA, kN, .inl f)), (sb, .inr (0, [.ref sq, .int (nI sz)])), (sq, .inl (sA, sN, .inl g))] H := hP
      have hD : va_D A [(h0, .inr (3, [.ref r1, .ref r2, .ref r3])), (r1, .inr (1, [.long (((tr_it (tr_l2 (tr_l1 f (nI kz) g (nI sz) 80)) 1152).1).1), .long (((tr_it (tr_l2 (tr_l1 f (nI kz) g (nI sz) 80)) 1152).1).2)])), (r2, .inr (1, [.long (((tr_it (tr_l2 (tr_l1 f (nI kz) g (nI sz) 80)) 1152).2.1).1), .long (((tr_it (tr_l2 (tr_l1 f (nI kz) g (nI sz) 80)) 1152).2.1).2)])), (r3, .inr (1, [.long (((tr_it (tr_l2 (tr_l1 f (nI kz) g (nI sz) 80)) 1152).2.2).1), .long (((tr_it (tr_l2 (tr_l1 f (nI kz) g (nI sz) 80)) 1152).2.2).2)])), (kb, .inr (0, [.ref kq, .int (nI kz)])), (kq, .inl (kA, kN, .inl f)), (sb, .inr (0, [.ref sq, .int (nI sz)])), (sq, .inl (sA, sN, .inl g))] := hD
      have hl : lv_has ls 4 [(3, .int (nI 1152)), (0, .ref h0), (1, .ref kb), (2, .ref sb)] := hl
      refine lv_iload_n hx hb dX4_load_93 rfl (lv_at hl 0 rfl) ?_
      refine lv_sipush (v := 1152) hx hb dX4_load_94 (by decide) ?_
      refine lv_icmp_ge (tgt := 111) hx hb dX4_load_97 (by decide) (fun _ => ?_) (fun hh => absurd (Int32.le_refl _) hh)
      exact ct_vret hx hb hr hlk hP hK hD hS dX4_load_111
end
section
/-- machine 1: two registers (b, s) -/
abbrev R4 : Type := R2 × R2
def tw_out (σ : R4) : Int32 := (rg_at σ.1 12 &&& rg_at σ.2 8) ^^^ (rg_at σ.2 13 &&& rg_at σ.2 20) ^^^ (rg_at σ.1 95 &&& rg_at σ.2 42) ^^^ (rg_at σ.2 60 &&& rg_at σ.2 79) ^^^ ((rg_at σ.1 12 &&& rg_at σ.1 95) &&& rg_at σ.2 94) ^^^ (rg_at σ.2 93) ^^^ (rg_at σ.1 2) ^^^ (rg_at σ.1 15) ^^^ (rg_at σ.1 36) ^^^ (rg_at σ.1 45) ^^^ (rg_at σ.1 64) ^^^ (rg_at σ.1 73) ^^^ (rg_at σ.1 89)
def tw_ns (σ : R4) : Int32 := rg_at σ.2 0 ^^^ (rg_at σ.2 7) ^^^ (rg_at σ.2 38) ^^^ (rg_at σ.2 70) ^^^ (rg_at σ.2 81) ^^^ (rg_at σ.2 96)
def tw_nb (σ : R4) : Int32 := rg_at σ.2 0 ^^^ (rg_at σ.1 0) ^^^ (rg_at σ.1 26) ^^^ (rg_at σ.1 56) ^^^ (rg_at σ.1 91) ^^^ (rg_at σ.1 96) ^^^ (rg_at σ.1 3 &&& rg_at σ.1 67) ^^^ (rg_at σ.1 11 &&& rg_at σ.1 13) ^^^ (rg_at σ.1 17 &&& rg_at σ.1 18) ^^^ (rg_at σ.1 27 &&& rg_at σ.1 59) ^^^ (rg_at σ.1 40 &&& rg_at σ.1 48) ^^^ (rg_at σ.1 61 &&& rg_at σ.1 65) ^^^ (rg_at σ.1 68 &&& rg_at σ.1 84) ^^^ (((rg_at σ.1 88 &&& rg_at σ.1 92) &&& rg_at σ.1 93) &&& rg_at σ.1 95) ^^^ ((rg_at σ.1 22 &&& rg_at σ.1 24) &&& rg_at σ.1 25) ^^^ ((rg_at σ.1 70 &&& rg_at σ.1 78) &&& rg_at σ.1 82)
def tw_move (σ : R4) (x : Int32) : R4 := (rg_dn σ.1 (tw_nb σ ^^^ x), rg_dn σ.2 (tw_ns σ ^^^ x))
def tw_l1 (f : Nat → Int32) (fz : Int32) : Nat → R2
  | 0 => rg_0
  | k + 1 => rg_add (tw_l1 f fz k) (nI k) (by_bit f fz (nI k))
def tw_l3 (r : R2) : Nat → R2
  | 0 => r
  | k + 1 => rg_add (tw_l3 r k) (nI (96 + k)) 1
def tw_it (σ : R4) : Nat → R4
  | 0 => σ
  | k + 1 => tw_move (tw_it σ k) (tw_out (tw_it σ k))
def tw_load (f : Nat → Int32) (fz : Int32) (g : Nat → Int32) (gz : Int32) : R4 := tw_it (tw_l1 f fz 128, tw_l3 (tw_l1 g gz 96) 31) 256
set_option maxHeartbeats 4000000 in
set_option maxRecDepth 100000 in
/-- TwoRegisters.output -/
theorem c_tw_out (l : Launch) (D : va_G) (h0 r1 r2 : Nat) (σ : R4) : Cti l D yX6_output wsX6_output ({ frames := 1, cells := 0, slots := 0, locals := 21 } : Room) [.ref h0] [] [(h0, .inr (5, [.ref r1, .ref r2])), (r1, .inr (1, [.long σ.1.1, .long σ.1.2])), (r2, .inr (1, [.long σ.2.1, .long σ.2.2]))] [(h0, .inr (5, [.ref r1, .ref r2])), (r1, .inr (1, [.long σ.1.1, .long σ.1.2])), (r2, .inr (1, [.long σ.2.1, .long σ.2.2]))] (tw_out σ) := by
  refine ct_of (cc := cX6_output) (maxL := 1) (ret := (some .int)) (by decide) rfl (Nat.le_of_ble_eq_true rfl) ?_
  intro p e s m below meth c A H locs ls hx hb hr hml hts hown hlk hnm hP hK hD hA hS hl
  have hown : s.vm.findClass RX6 = some m.cls := hown
  have hl : lv_has ls 1 [(0, .ref h0)] := hl
  have hf_10 := hts (.fieldLink RX6 10 "BitStreams$TwoRegisters" "b" "LBitStreams$Cells;") (by decide +kernel)
  have hi_X6 : ∀ w ∈ u_ws RX6 TX6 2, w ∈ wsX6_output := by decide +kernel
  have cw_X1_at := cwV (R := ({ frames := 1, cells := 0, slots := 0, locals := 21 } : Room)) (rm := ({ frames := 0, cells := 0, slots := 0, locals := 0 } : Room)) 1 hts gX6_output_X1_at rfl rfl rfl (by decide +kernel) ⟨Nat.le_of_ble_eq_true rfl, Nat.le_of_ble_eq_true rfl⟩
  have hf_16 := hts (.fieldLink RX6 16 "BitStreams$TwoRegisters" "s" "LBitStreams$Cells;") (by decide +kernel)
  refine lv_aload_n hx hb dX6_output_0 rfl (lv_at hl 0 rfl) ?_
  refine va_get (D := D) (ci := 5) (v := .ref r1) (C := RX6) (T := TX6) (N := 2) hx hb hts hi_X6 hown hK hP 0 rfl rfl 0 (by decide) hf_10 (fun _ h9 => h9) rfl dX6_output_1 ?_
  refine lv_bipush (v := 12) hx hb dX6_output_4 (by decide) ?_
  refine ct_callVi (As := [.int 12]) (rest := []) (wr := [(h0, .inr (5, [.ref r1, .ref r2])), (r2, .inr (1, [.long σ.2.1, .long σ.2.2]))]) (ws2 := [(h0, .inr (5, [.ref r1, .ref r2])), (r1, .inr (1, [.long σ.1.1, .long σ.1.2])), (r2, .inr (1, [.long σ.2.1, .long σ.2.2]))]) ⟨hx, hb, hml, hown, hts⟩ (c_at l D r1 σ.1 12) cw_X1_at [] rfl [1] [0, 2] [0, 2, 1] hK hP hD hS hA 0 1 rfl rfl rfl rfl (by decide) rfl (by decide) (by decide) rfl (by decide) rfl hl.1 rfl (Nat.le_of_ble_eq_true rfl) dX6_output_6 ⟨Nat.zero_le _, Nat.zero_le _⟩ (fun H locs hP hD hS => ?_)
  refine lv_aload_n hx hb dX6_output_9 rfl (lv_at hl 0 rfl) ?_
  refine va_get (D := D) (ci := 5) (v := .ref r2) (C := RX6) (T := TX6) (N := 2) hx hb hts hi_X6 hown hK hP 0 rfl rfl 1 (by decide) hf_16 (fun _ h9 => h9) rfl dX6_output_10 ?_
  refine lv_bipush (v := 8) hx hb dX6_output_13 (by decide) ?_
  refine ct_callVi (As := [.int 8]) (rest := [.int (rg_at σ.1 12)]) (wr := [(h0, .inr (5, [.ref r1, .ref r2])), (r1, .inr (1, [.long σ.1.1, .long σ.1.2]))]) (ws2 := [(h0, .inr (5, [.ref r1, .ref r2])), (r1, .inr (1, [.long σ.1.1, .long σ.1.2])), (r2, .inr (1, [.long σ.2.1, .long σ.2.2]))]) ⟨hx, hb, hml, hown, hts⟩ (c_at l D r2 σ.2 8) cw_X1_at [] rfl [2] [0, 1] [0, 1, 2] hK hP hD hS hA 0 1 rfl rfl rfl rfl (by decide) rfl (by decide) (by decide) rfl (by decide) rfl hl.1 rfl (Nat.le_of_ble_eq_true rfl) dX6_output_15 ⟨Nat.zero_le _, Nat.zero_le _⟩ (fun H locs hP hD hS => ?_)
  refine lv_iand hx hb dX6_output_18 ?_
  refine lv_aload_n hx hb dX6_output_19 rfl (lv_at hl 0 rfl) ?_
  refine va_get (D := D) (ci := 5) (v := .ref r2) (C := RX6) (T := TX6) (N := 2) hx hb hts hi_X6 hown hK hP 0 rfl rfl 1 (by decide) hf_16 (fun _ h9 => h9) rfl dX6_output_20 ?_
  refine lv_bipush (v := 13) hx hb dX6_output_23 (by decide) ?_
  refine ct_callVi (As := [.int 13]) (rest := [.int ((rg_at σ.1 12) &&& (rg_at σ.2 8))]) (wr := [(h0, .inr (5, [.ref r1, .ref r2])), (r1, .inr (1, [.long σ.1.1, .long σ.1.2]))]) (ws2 := [(h0, .inr (5, [.ref r1, .ref r2])), (r1, .inr (1, [.long σ.1.1, .long σ.1.2])), (r2, .inr (1, [.long σ.2.1, .long σ.2.2]))]) ⟨hx, hb, hml, hown, hts⟩ (c_at l D r2 σ.2 13) cw_X1_at [] rfl [2] [0, 1] [0, 1, 2] hK hP hD hS hA 0 1 rfl rfl rfl rfl (by decide) rfl (by decide) (by decide) rfl (by decide) rfl hl.1 rfl (Nat.le_of_ble_eq_true rfl) dX6_output_25 ⟨Nat.zero_le _, Nat.zero_le _⟩ (fun H locs hP hD hS => ?_)
  refine lv_aload_n hx hb dX6_output_28 rfl (lv_at hl 0 rfl) ?_
  refine va_get (D := D) (ci := 5) (v := .ref r2) (C := RX6) (T := TX6) (N := 2) hx hb hts hi_X6 hown hK hP 0 rfl rfl 1 (by decide) hf_16 (fun _ h9 => h9) rfl dX6_output_29 ?_
  refine lv_bipush (v := 20) hx hb dX6_output_32 (by decide) ?_
  refine ct_callVi (As := [.int 20]) (rest := [.int (rg_at σ.2 13), .int ((rg_at σ.1 12) &&& (rg_at σ.2 8))]) (wr := [(h0, .inr (5, [.ref r1, .ref r2])), (r1, .inr (1, [.long σ.1.1, .long σ.1.2]))]) (ws2 := [(h0, .inr (5, [.ref r1, .ref r2])), (r1, .inr (1, [.long σ.1.1, .long σ.1.2])), (r2, .inr (1, [.long σ.2.1, .long σ.2.2]))]) ⟨hx, hb, hml, hown, hts⟩ (c_at l D r2 σ.2 20) cw_X1_at [] rfl [2] [0, 1] [0, 1, 2] hK hP hD hS hA 0 1 rfl rfl rfl rfl (by decide) rfl (by decide) (by decide) rfl (by decide) rfl hl.1 rfl (Nat.le_of_ble_eq_true rfl) dX6_output_34 ⟨Nat.zero_le _, Nat.zero_le _⟩ (fun H locs hP hD hS => ?_)
  refine lv_iand hx hb dX6_output_37 ?_
  refine lv_ixor hx hb dX6_output_38 ?_
  refine lv_aload_n hx hb dX6_output_39 rfl (lv_at hl 0 rfl) ?_
  refine va_get (D := D) (ci := 5) (v := .ref r1) (C := RX6) (T := TX6) (N := 2) hx hb hts hi_X6 hown hK hP 0 rfl rfl 0 (by decide) hf_10 (fun _ h9 => h9) rfl dX6_output_40 ?_
  refine lv_bipush (v := 95) hx hb dX6_output_43 (by decide) ?_
  refine ct_callVi (As := [.int 95]) (rest := [.int (((rg_at σ.1 12) &&& (rg_at σ.2 8)) ^^^ ((rg_at σ.2 13) &&& (rg_at σ.2 20)))]) (wr := [(h0, .inr (5, [.ref r1, .ref r2])), (r2, .inr (1, [.long σ.2.1, .long σ.2.2]))]) (ws2 := [(h0, .inr (5, [.ref r1, .ref r2])), (r1, .inr (1, [.long σ.1.1, .long σ.1.2])), (r2, .inr (1, [.long σ.2.1, .long σ.2.2]))]) ⟨hx, hb, hml, hown, hts⟩ (c_at l D r1 σ.1 95) cw_X1_at [] rfl [1] [0, 2] [0, 2, 1] hK hP hD hS hA 0 1 rfl rfl rfl rfl (by decide) rfl (by decide) (by decide) rfl (by decide) rfl hl.1 rfl (Nat.le_of_ble_eq_true rfl) dX6_output_45 ⟨Nat.zero_le _, Nat.zero_le _⟩ (fun H locs hP hD hS => ?_)
  refine lv_aload_n hx hb dX6_output_48 rfl (lv_at hl 0 rfl) ?_
  refine va_get (D := D) (ci := 5) (v := .ref r2) (C := RX6) (T := TX6) (N := 2) hx hb hts hi_X6 hown hK hP 0 rfl rfl 1 (by decide) hf_16 (fun _ h9 => h9) rfl dX6_output_49 ?_
  refine lv_bipush (v := 42) hx hb dX6_output_52 (by decide) ?_
  refine ct_callVi (As := [.int 42]) (rest := [.int (rg_at σ.1 95), .int (((rg_at σ.1 12) &&& (rg_at σ.2 8)) ^^^ ((rg_at σ.2 13) &&& (rg_at σ.2 20)))]) (wr := [(h0, .inr (5, [.ref r1, .ref r2])), (r1, .inr (1, [.long σ.1.1, .long σ.1.2]))]) (ws2 := [(h0, .inr (5, [.ref r1, .ref r2])), (r1, .inr (1, [.long σ.1.1, .long σ.1.2])), (r2, .inr (1, [.long σ.2.1, .long σ.2.2]))]) ⟨hx, hb, hml, hown, hts⟩ (c_at l D r2 σ.2 42) cw_X1_at [] rfl [2] [0, 1] [0, 1, 2] hK hP hD hS hA 0 1 rfl rfl rfl rfl (by decide) rfl (by decide) (by decide) rfl (by decide) rfl hl.1 rfl (Nat.le_of_ble_eq_true rfl) dX6_output_54 ⟨Nat.zero_le _, Nat.zero_le _⟩ (fun H locs hP hD hS => ?_)
  refine lv_iand hx hb dX6_output_57 ?_
  refine lv_ixor hx hb dX6_output_58 ?_
  refine lv_aload_n hx hb dX6_output_59 rfl (lv_at hl 0 rfl) ?_
  refine va_get (D := D) (ci := 5) (v := .ref r2) (C := RX6) (T := TX6) (N := 2) hx hb hts hi_X6 hown hK hP 0 rfl rfl 1 (by decide) hf_16 (fun _ h9 => h9) rfl dX6_output_60 ?_
  refine lv_bipush (v := 60) hx hb dX6_output_63 (by decide) ?_
  refine ct_callVi (As := [.int 60]) (rest := [.int ((((rg_at σ.1 12) &&& (rg_at σ.2 8)) ^^^ ((rg_at σ.2 13) &&& (rg_at σ.2 20))) ^^^ ((rg_at σ.1 95) &&& (rg_at σ.2 42)))]) (wr := [(h0, .inr (5, [.ref r1, .ref r2])), (r1, .inr (1, [.long σ.1.1, .long σ.1.2]))]) (ws2 := [(h0, .inr (5, [.ref r1, .ref r2])), (r1, .inr (1, [.long σ.1.1, .long σ.1.2])), (r2, .inr (1, [.long σ.2.1, .long σ.2.2]))]) ⟨hx, hb, hml, hown, hts⟩ (c_at l D r2 σ.2 60) cw_X1_at [] rfl [2] [0, 1] [0, 1, 2] hK hP hD hS hA 0 1 rfl rfl rfl rfl (by decide) rfl (by decide) (by decide) rfl (by decide) rfl hl.1 rfl (Nat.le_of_ble_eq_true rfl) dX6_output_65 ⟨Nat.zero_le _, Nat.zero_le _⟩ (fun H locs hP hD hS => ?_)
  refine lv_aload_n hx hb dX6_output_68 rfl (lv_at hl 0 rfl) ?_
  refine va_get (D := D) (ci := 5) (v := .ref r2) (C := RX6) (T := TX6) (N := 2) hx hb hts hi_X6 hown hK hP 0 rfl rfl 1 (by decide) hf_16 (fun _ h9 => h9) rfl dX6_output_69 ?_
  refine lv_bipush (v := 79) hx hb dX6_output_72 (by decide) ?_
  refine ct_callVi (As := [.int 79]) (rest := [.int (rg_at σ.2 60), .int ((((rg_at σ.1 12) &&& (rg_at σ.2 8)) ^^^ ((rg_at σ.2 13) &&& (rg_at σ.2 20))) ^^^ ((rg_at σ.1 95) &&& (rg_at σ.2 42)))]) (wr := [(h0, .inr (5, [.ref r1, .ref r2])), (r1, .inr (1, [.long σ.1.1, .long σ.1.2]))]) (ws2 := [(h0, .inr (5, [.ref r1, .ref r2])), (r1, .inr (1, [.long σ.1.1, .long σ.1.2])), (r2, .inr (1, [.long σ.2.1, .long σ.2.2]))]) ⟨hx, hb, hml, hown, hts⟩ (c_at l D r2 σ.2 79) cw_X1_at [] rfl [2] [0, 1] [0, 1, 2] hK hP hD hS hA 0 1 rfl rfl rfl rfl (by decide) rfl (by decide) (by decide) rfl (by decide) rfl hl.1 rfl (Nat.le_of_ble_eq_true rfl) dX6_output_74 ⟨Nat.zero_le _, Nat.zero_le _⟩ (fun H locs hP hD hS => ?_)
  refine lv_iand hx hb dX6_output_77 ?_
  refine lv_ixor hx hb dX6_output_78 ?_
  refine lv_aload_n hx hb dX6_output_79 rfl (lv_at hl 0 rfl) ?_
  refine va_get (D := D) (ci := 5) (v := .ref r1) (C := RX6) (T := TX6) (N := 2) hx hb hts hi_X6 hown hK hP 0 rfl rfl 0 (by decide) hf_10 (fun _ h9 => h9) rfl dX6_output_80 ?_
  refine lv_bipush (v := 12) hx hb dX6_output_83 (by decide) ?_
  refine ct_callVi (As := [.int 12]) (rest := [.int (((((rg_at σ.1 12) &&& (rg_at σ.2 8)) ^^^ ((rg_at σ.2 13) &&& (rg_at σ.2 20))) ^^^ ((rg_at σ.1 95) &&& (rg_at σ.2 42))) ^^^ ((rg_at σ.2 60) &&& (rg_at σ.2 79)))]) (wr := [(h0, .inr (5, [.ref r1, .ref r2])), (r2, .inr (1, [.long σ.2.1, .long σ.2.2]))]) (ws2 := [(h0, .inr (5, [.ref r1, .ref r2])), (r1, .inr (1, [.long σ.1.1, .long σ.1.2])), (r2, .inr (1, [.long σ.2.1, .long σ.2.2]))]) ⟨hx, hb, hml, hown, hts⟩ (c_at l D r1 σ.1 12) cw_X1_at [] rfl [1] [0, 2] [0, 2, 1] hK hP hD hS hA 0 1 rfl rfl rfl rfl (by decide) rfl (by decide) (by decide) rfl (by decide) rfl hl.1 rfl (Nat.le_of_ble_eq_true rfl) dX6_output_85 ⟨Nat.zero_le _, Nat.zero_le _⟩ (fun H locs hP hD hS => ?_)
  refine lv_aload_n hx hb dX6_output_88 rfl (lv_at hl 0 rfl) ?_
  refine va_get (D := D) (ci := 5) (v := .ref r1) (C := RX6) (T := TX6) (N := 2) hx hb hts hi_X6 hown hK hP 0 rfl rfl 0 (by decide) hf_10 (fun _ h9 => h9) rfl dX6_output_89 ?_
  refine lv_bipush (v := 95) hx hb dX6_output_92 (by decide) ?_
  refine ct_callVi (As := [.int 95]) (rest := [.int (rg_at σ.1 12), .int (((((rg_at σ.1 12) &&& (rg_at σ.2 8)) ^^^ ((rg_at σ.2 13) &&& (rg_at σ.2 20))) ^^^ ((rg_at σ.1 95) &&& (rg_at σ.2 42))) ^^^ ((rg_at σ.2 60) &&& (rg_at σ.2 79)))]) (wr := [(h0, .inr (5, [.ref r1, .ref r2])), (r2, .inr (1, [.long σ.2.1, .long σ.2.2]))]) (ws2 := [(h0, .inr (5, [.ref r1, .ref r2])), (r1, .inr (1, [.long σ.1.1, .long σ.1.2])), (r2, .inr (1, [.long σ.2.1, .long σ.2.2]))]) ⟨hx, hb, hml, hown, hts⟩ (c_at l D r1 σ.1 95) cw_X1_at [] rfl [1] [0, 2] [0, 2, 1] hK hP hD hS hA 0 1 rfl rfl rfl rfl (by decide) rfl (by decide) (by decide) rfl (by decide) rfl hl.1 rfl (Nat.le_of_ble_eq_true rfl) dX6_output_94 ⟨Nat.zero_le _, Nat.zero_le _⟩ (fun H locs hP hD hS => ?_)
  refine lv_iand hx hb dX6_output_97 ?_
  refine lv_aload_n hx hb dX6_output_98 rfl (lv_at hl 0 rfl) ?_
  refine va_get (D := D) (ci := 5) (v := .ref r2) (C := RX6) (T := TX6) (N := 2) hx hb hts hi_X6 hown hK hP 0 rfl rfl 1 (by decide) hf_16 (fun _ h9 => h9) rfl dX6_output_99 ?_
  refine lv_bipush (v := 94) hx hb dX6_output_102 (by decide) ?_
  refine ct_callVi (As := [.int 94]) (rest := [.int ((rg_at σ.1 12) &&& (rg_at σ.1 95)), .int (((((rg_at σ.1 12) &&& (rg_at σ.2 8)) ^^^ ((rg_at σ.2 13) &&& (rg_at σ.2 20))) ^^^ ((rg_at σ.1 95) &&& (rg_at σ.2 42))) ^^^ ((rg_at σ.2 60) &&& (rg_at σ.2 79)))]) (wr := [(h0, .inr (5, [.ref r1, .ref r2])), (r1, .inr (1, [.long σ.1.1, .long σ.1.2]))]) (ws2 := [(h0, .inr (5, [.ref r1, .ref r2])), (r1, .inr (1, [.long σ.1.1, .long σ.1.2])), (r2, .inr (1, [.long σ.2.1, .long σ.2.2]))]) ⟨hx, hb, hml, hown, hts⟩ (c_at l D r2 σ.2 94) cw_X1_at [] rfl [2] [0, 1] [0, 1, 2] hK hP hD hS hA 0 1 rfl rfl rfl rfl (by decide) rfl (by decide) (by decide) rfl (by decide) rfl hl.1 rfl (Nat.le_of_ble_eq_true rfl) dX6_output_104 ⟨Nat.zero_le _, Nat.zero_le _⟩ (fun H locs hP hD hS => ?_)
  refine lv_iand hx hb dX6_output_107 ?_
  refine lv_ixor hx hb dX6_output_108 ?_
  refine lv_aload_n hx hb dX6_output_109 rfl (lv_at hl 0 rfl) ?_
  refine va_get (D := D) (ci := 5) (v := .ref r2) (C := RX6) (T := TX6) (N := 2) hx hb hts hi_X6 hown hK hP 0 rfl rfl 1 (by decide) hf_16 (fun _ h9 => h9) rfl dX6_output_110 ?_
  refine lv_bipush (v := 93) hx hb dX6_output_113 (by decide) ?_
  refine ct_callVi (As := [.int 93]) (rest := [.int ((((((rg_at σ.1 12) &&& (rg_at σ.2 8)) ^^^ ((rg_at σ.2 13) &&& (rg_at σ.2 20))) ^^^ ((rg_at σ.1 95) &&& (rg_at σ.2 42))) ^^^ ((rg_at σ.2 60) &&& (rg_at σ.2 79))) ^^^ (((rg_at σ.1 12) &&& (rg_at σ.1 95)) &&& (rg_at σ.2 94)))]) (wr := [(h0, .inr (5, [.ref r1, .ref r2])), (r1, .inr (1, [.long σ.1.1, .long σ.1.2]))]) (ws2 := [(h0, .inr (5, [.ref r1, .ref r2])), (r1, .inr (1, [.long σ.1.1, .long σ.1.2])), (r2, .inr (1, [.long σ.2.1, .long σ.2.2]))]) ⟨hx, hb, hml, hown, hts⟩ (c_at l D r2 σ.2 93) cw_X1_at [] rfl [2] [0, 1] [0, 1, 2] hK hP hD hS hA 0 1 rfl rfl rfl rfl (by decide) rfl (by decide) (by decide) rfl (by decide) rfl hl.1 rfl (Nat.le_of_ble_eq_true rfl) dX6_output_115 ⟨Nat.zero_le _, Nat.zero_le _⟩ (fun H locs hP hD hS => ?_)
  refine lv_ixor hx hb dX6_output_118 ?_
  refine lv_aload_n hx hb dX6_output_119 rfl (lv_at hl 0 rfl) ?_
  refine va_get (D := D) (ci := 5) (v := .ref r1) (C := RX6) (T := TX6) (N := 2) hx hb hts hi_X6 hown hK hP 0 rfl rfl 0 (by decide) hf_10 (fun _ h9 => h9) rfl dX6_output_120 ?_
  refine lv_iconst (v := 2) hx hb dX6_output_123 (by decide) ?_
  refine ct_callVi (As := [.int 2]) (rest := [.int (((((((rg_at σ.1 12) &&& (rg_at σ.2 8)) ^^^ ((rg_at σ.2 13) &&& (rg_at σ.2 20))) ^^^ ((rg_at σ.1 95) &&& (rg_at σ.2 42))) ^^^ ((rg_at σ.2 60) &&& (rg_at σ.2 79))) ^^^ (((rg_at σ.1 12) &&& (rg_at σ.1 95)) &&& (rg_at σ.2 94))) ^^^ (rg_at σ.2 93))]) (wr := [(h0, .inr (5, [.ref r1, .ref r2])), (r2, .inr (1, [.long σ.2.1, .long σ.2.2]))]) (ws2 := [(h0, .inr (5, [.ref r1, .ref r2])), (r1, .inr (1, [.long σ.1.1, .long σ.1.2])), (r2, .inr (1, [.long σ.2.1, .long σ.2.2]))]) ⟨hx, hb, hml, hown, hts⟩ (c_at l D r1 σ.1 2) cw_X1_at [] rfl [1] [0, 2] [0, 2, 1] hK hP hD hS hA 0 1 rfl rfl rfl rfl (by decide) rfl (by decide) (by decide) rfl (by decide) rfl hl.1 rfl (Nat.le_of_ble_eq_true rfl) dX6_output_124 ⟨Nat.zero_le _, Nat.zero_le _⟩ (fun H locs hP hD hS => ?_)
  refine lv_ixor hx hb dX6_output_127 ?_
  refine lv_aload_n hx hb dX6_output_128 rfl (lv_at hl 0 rfl) ?_
  refine va_get (D := D) (ci := 5) (v := .ref r1) (C := RX6) (T := TX6) (N := 2) hx hb hts hi_X6 hown hK hP 0 rfl rfl 0 (by decide) hf_10 (fun _ h9 => h9) rfl dX6_output_129 ?_
  refine lv_bipush (v := 15) hx hb dX6_output_132 (by decide) ?_
  refine ct_callVi (As := [.int 15]) (rest := [.int ((((((((rg_at σ.1 12) &&& (rg_at σ.2 8)) ^^^ ((rg_at σ.2 13) &&& (rg_at σ.2 20))) ^^^ ((rg_at σ.1 95) &&& (rg_at σ.2 42))) ^^^ ((rg_at σ.2 60) &&& (rg_at σ.2 79))) ^^^ (((rg_at σ.1 12) &&& (rg_at σ.1 95)) &&& (rg_at σ.2 94))) ^^^ (rg_at σ.2 93)) ^^^ (rg_at σ.1 2))]) (wr := [(h0, .inr (5, [.ref r1, .ref r2])), (r2, .inr (1, [.long σ.2.1, .long σ.2.2]))]) (ws2 := [(h0, .inr (5, [.ref r1, .ref r2])), (r1, .inr (1, [.long σ.1.1, .long σ.1.2])), (r2, .inr (1, [.long σ.2.1, .long σ.2.2]))]) ⟨hx, hb, hml, hown, hts⟩ (c_at l D r1 σ.1 15) cw_X1_at [] rfl [1] [0, 2] [0, 2, 1] hK hP hD hS hA 0 1 rfl rfl rfl rfl (by decide) rfl (by decide) (by decide) rfl (by decide) rfl hl.1 rfl (Nat.le_of_ble_eq_true rfl) dX6_output_134 ⟨Nat.zero_le _, Nat.zero_le _⟩ (fun H locs hP hD hS => ?_)
  refine lv_ixor hx hb dX6_output_137 ?_
  refine lv_aload_n hx hb dX6_output_138 rfl (lv_at hl 0 rfl) ?_
  refine va_get (D := D) (ci := 5) (v := .ref r1) (C := RX6) (T := TX6) (N := 2) hx hb hts hi_X6 hown hK hP 0 rfl rfl 0 (by decide) hf_10 (fun _ h9 => h9) rfl dX6_output_139 ?_
  refine lv_bipush (v := 36) hx hb dX6_output_142 (by decide) ?_
  refine ct_callVi (As := [.int 36]) (rest := [.int (((((((((rg_at σ.1 12) &&& (rg_at σ.2 8)) ^^^ ((rg_at σ.2 13) &&& (rg_at σ.2 20))) ^^^ ((rg_at σ.1 95) &&& (rg_at σ.2 42))) ^^^ ((rg_at σ.2 60) &&& (rg_at σ.2 79))) ^^^ (((rg_at σ.1 12) &&& (rg_at σ.1 95)) &&& (rg_at σ.2 94))) ^^^ (rg_at σ.2 93)) ^^^ (rg_at σ.1 2)) ^^^ (rg_at σ.1 15))]) (wr := [(h0, .inr (5, [.ref r1, .ref r2])), (r2, .inr (1, [.long σ.2.1, .long σ.2.2]))]) (ws2 := [(h0, .inr (5, [.ref r1, .ref r2])), (r1, .inr (1, [.long σ.1.1, .long σ.1.2])), (r2, .inr (1, [.long σ.2.1, .long σ.2.2]))]) ⟨hx, hb, hml, hown, hts⟩ (c_at l D r1 σ.1 36) cw_X1_at [] rfl [1] [0, 2] [0, 2, 1] hK hP hD hS hA 0 1 rfl rfl rfl rfl (by decide) rfl (by decide) (by decide) rfl (by decide) rfl hl.1 rfl (Nat.le_of_ble_eq_true rfl) dX6_output_144 ⟨Nat.zero_le _, Nat.zero_le _⟩ (fun H locs hP hD hS => ?_)
  refine lv_ixor hx hb dX6_output_147 ?_
  refine lv_aload_n hx hb dX6_output_148 rfl (lv_at hl 0 rfl) ?_
  refine va_get (D := D) (ci := 5) (v := .ref r1) (C := RX6) (T := TX6) (N := 2) hx hb hts hi_X6 hown hK hP 0 rfl rfl 0 (by decide) hf_10 (fun _ h9 => h9) rfl dX6_output_149 ?_
  refine lv_bipush (v := 45) hx hb dX6_output_152 (by decide) ?_
  refine ct_callVi (As := [.int 45]) (rest := [.int ((((((((((rg_at σ.1 12) &&& (rg_at σ.2 8)) ^^^ ((rg_at σ.2 13) &&& (rg_at σ.2 20))) ^^^ ((rg_at σ.1 95) &&& (rg_at σ.2 42))) ^^^ ((rg_at σ.2 60) &&& (rg_at σ.2 79))) ^^^ (((rg_at σ.1 12) &&& (rg_at σ.1 95)) &&& (rg_at σ.2 94))) ^^^ (rg_at σ.2 93)) ^^^ (rg_at σ.1 2)) ^^^ (rg_at σ.1 15)) ^^^ (rg_at σ.1 36))]) (wr := [(h0, .inr (5, [.ref r1, .ref r2])), (r2, .inr (1, [.long σ.2.1, .long σ.2.2]))]) (ws2 := [(h0, .inr (5, [.ref r1, .ref r2])), (r1, .inr (1, [.long σ.1.1, .long σ.1.2])), (r2, .inr (1, [.long σ.2.1, .long σ.2.2]))]) ⟨hx, hb, hml, hown, hts⟩ (c_at l D r1 σ.1 45) cw_X1_at [] rfl [1] [0, 2] [0, 2, 1] hK hP hD hS hA 0 1 rfl rfl rfl rfl (by decide) rfl (by decide) (by decide) rfl (by decide) rfl hl.1 rfl (Nat.le_of_ble_eq_true rfl) dX6_output_154 ⟨Nat.zero_le _, Nat.zero_le _⟩ (fun H locs hP hD hS => ?_)
  refine lv_ixor hx hb dX6_output_157 ?_
  refine lv_aload_n hx hb dX6_output_158 rfl (lv_at hl 0 rfl) ?_
  refine va_get (D := D) (ci := 5) (v := .ref r1) (C := RX6) (T := TX6) (N := 2) hx hb hts hi_X6 hown hK hP 0 rfl rfl 0 (by decide) hf_10 (fun _ h9 => h9) rfl dX6_output_159 ?_
  refine lv_bipush (v := 64) hx hb dX6_output_162 (by decide) ?_
  refine ct_callVi (As := [.int 64]) (rest := [.int (((((((((((rg_at σ.1 12) &&& (rg_at σ.2 8)) ^^^ ((rg_at σ.2 13) &&& (rg_at σ.2 20))) ^^^ ((rg_at σ.1 95) &&& (rg_at σ.2 42))) ^^^ ((rg_at σ.2 60) &&& (rg_at σ.2 79))) ^^^ (((rg_at σ.1 12) &&& (rg_at σ.1 95)) &&& (rg_at σ.2 94))) ^^^ (rg_at σ.2 93)) ^^^ (rg_at σ.1 2)) ^^^ (rg_at σ.1 15)) ^^^ (rg_at σ.1 36)) ^^^ (rg_at σ.1 45))]) (wr := [(h0, .inr (5, [.ref r1, .ref r2])), (r2, .inr (1, [.long σ.2.1, .long σ.2.2]))]) (ws2 := [(h0, .inr (5, [.ref r1, .ref r2])), (r1, .inr (1, [.long σ.1.1, .long σ.1.2])), (r2, .inr (1, [.long σ.2.1, .long σ.2.2]))]) ⟨hx, hb, hml, hown, hts⟩ (c_at l D r1 σ.1 64) cw_X1_at [] rfl [1] [0, 2] [0, 2, 1] hK hP hD hS hA 0 1 rfl rfl rfl rfl (by decide) rfl (by decide) (by decide) rfl (by decide) rfl hl.1 rfl (Nat.le_of_ble_eq_true rfl) dX6_output_164 ⟨Nat.zero_le _, Nat.zero_le _⟩ (fun H locs hP hD hS => ?_)
  refine lv_ixor hx hb dX6_output_167 ?_
  refine lv_aload_n hx hb dX6_output_168 rfl (lv_at hl 0 rfl) ?_
  refine va_get (D := D) (ci := 5) (v := .ref r1) (C := RX6) (T := TX6) (N := 2) hx hb hts hi_X6 hown hK hP 0 rfl rfl 0 (by decide) hf_10 (fun _ h9 => h9) rfl dX6_output_169 ?_
  refine lv_bipush (v := 73) hx hb dX6_output_172 (by decide) ?_
  refine ct_callVi (As := [.int 73]) (rest := [.int ((((((((((((rg_at σ.1 12) &&& (rg_at σ.2 8)) ^^^ ((rg_at σ.2 13) &&& (rg_at σ.2 20))) ^^^ ((rg_at σ.1 95) &&& (rg_at σ.2 42))) ^^^ ((rg_at σ.2 60) &&& (rg_at σ.2 79))) ^^^ (((rg_at σ.1 12) &&& (rg_at σ.1 95)) &&& (rg_at σ.2 94))) ^^^ (rg_at σ.2 93)) ^^^ (rg_at σ.1 2)) ^^^ (rg_at σ.1 15)) ^^^ (rg_at σ.1 36)) ^^^ (rg_at σ.1 45)) ^^^ (rg_at σ.1 64))]) (wr := [(h0, .inr (5, [.ref r1, .ref r2])), (r2, .inr (1, [.long σ.2.1, .long σ.2.2]))]) (ws2 := [(h0, .inr (5, [.ref r1, .ref r2])), (r1, .inr (1, [.long σ.1.1, .long σ.1.2])), (r2, .inr (1, [.long σ.2.1, .long σ.2.2]))]) ⟨hx, hb, hml, hown, hts⟩ (c_at l D r1 σ.1 73) cw_X1_at [] rfl [1] [0, 2] [0, 2, 1] hK hP hD hS hA 0 1 rfl rfl rfl rfl (by decide) rfl (by decide) (by decide) rfl (by decide) rfl hl.1 rfl (Nat.le_of_ble_eq_true rfl) dX6_output_174 ⟨Nat.zero_le _, Nat.zero_le _⟩ (fun H locs hP hD hS => ?_)
  refine lv_ixor hx hb dX6_output_177 ?_
  refine lv_aload_n hx hb dX6_output_178 rfl (lv_at hl 0 rfl) ?_
  refine va_get (D := D) (ci := 5) (v := .ref r1) (C := RX6) (T := TX6) (N := 2) hx hb hts hi_X6 hown hK hP 0 rfl rfl 0 (by decide) hf_10 (fun _ h9 => h9) rfl dX6_output_179 ?_
  refine lv_bipush (v := 89) hx hb dX6_output_182 (by decide) ?_
  refine ct_callVi (As := [.int 89]) (rest := [.int (((((((((((((rg_at σ.1 12) &&& (rg_at σ.2 8)) ^^^ ((rg_at σ.2 13) &&& (rg_at σ.2 20))) ^^^ ((rg_at σ.1 95) &&& (rg_at σ.2 42))) ^^^ ((rg_at σ.2 60) &&& (rg_at σ.2 79))) ^^^ (((rg_at σ.1 12) &&& (rg_at σ.1 95)) &&& (rg_at σ.2 94))) ^^^ (rg_at σ.2 93)) ^^^ (rg_at σ.1 2)) ^^^ (rg_at σ.1 15)) ^^^ (rg_at σ.1 36)) ^^^ (rg_at σ.1 45)) ^^^ (rg_at σ.1 64)) ^^^ (rg_at σ.1 73))]) (wr := [(h0, .inr (5, [.ref r1, .ref r2])), (r2, .inr (1, [.long σ.2.1, .long σ.2.2]))]) (ws2 := [(h0, .inr (5, [.ref r1, .ref r2])), (r1, .inr (1, [.long σ.1.1, .long σ.1.2])), (r2, .inr (1, [.long σ.2.1, .long σ.2.2]))]) ⟨hx, hb, hml, hown, hts⟩ (c_at l D r1 σ.1 89) cw_X1_at [] rfl [1] [0, 2] [0, 2, 1] hK hP hD hS hA 0 1 rfl rfl rfl rfl (by decide) rfl (by decide) (by decide) rfl (by decide) rfl hl.1 rfl (Nat.le_of_ble_eq_true rfl) dX6_output_184 ⟨Nat.zero_le _, Nat.zero_le _⟩ (fun H locs hP hD hS => ?_)
  refine lv_ixor hx hb dX6_output_187 ?_
  exact ct_zret hx hb hr hlk hP hK hD hS rfl rfl dX6_output_188
set_option maxHeartbeats 4000000 in
set_option maxRecDepth 100000 in
/-- TwoRegisters.newBitOfS -/
theorem c_tw_ns (l : Launch) (D : va_G) (h0 r1 r2 : Nat) (σ : R4) : Cti l D yX6_newBitOfS wsX6_newBitOfS ({ frames := 1, cells := 0, slots := 0, locals := 21 } : Room) [.ref h0] [] [(h0, .inr (5, [.ref r1, .ref r2])), (r1, .inr (1, [.long σ.1.1, .long σ.1.2])), (r2, .inr (1, [.long σ.2.1, .long σ.2.2]))] [(h0, .inr (5, [.ref r1, .ref r2])), (r1, .inr (1, [.long σ.1.1, .long σ.1.2])), (r2, .inr (1, [.long σ.2.1, .long σ.2.2]))] (tw_ns σ) := by
  refine ct_of (cc := cX6_newBitOfS) (maxL := 1) (ret := (some .int)) (by decide) rfl (Nat.le_of_ble_eq_true rfl) ?_
  intro p e s m below meth c A H locs ls hx hb hr hml hts hown hlk hnm hP hK hD hA hS hl
  have hown : s.vm.findClass RX6 = some m.cls := hown
  have hl : lv_has ls 1 [(0, .ref h0)] := hl
  have hf_16 := hts (.fieldLink RX6 16 "BitStreams$TwoRegisters" "s" "LBitStreams$Cells;") (by decide +kernel)
  have hi_X6 : ∀ w ∈ u_ws RX6 TX6 2, w ∈ wsX6_newBitOfS := by decide +kernel
  have cw_X1_at := cwV (R := ({ frames := 1, cells := 0, slots := 0, locals := 21 } : Room)) (rm := ({ frames := 0, cells := 0, slots := 0, locals := 0 } : Room)) 1 hts gX6_newBitOfS_X1_at rfl rfl rfl (by decide +kernel) ⟨Nat.le_of_ble_eq_true rfl, Nat.le_of_ble_eq_true rfl⟩
  refine lv_aload_n hx hb dX6_newBitOfS_0 rfl (lv_at hl 0 rfl) ?_
  refine va_get (D := D) (ci := 5) (v := .ref r2) (C := RX6) (T := TX6) (N := 2) hx hb hts hi_X6 hown hK hP 0 rfl rfl 1 (by decide) hf_16 (fun _ h9 => h9) rfl dX6_newBitOfS_1 ?_
  refine lv_iconst (v := 0) hx hb dX6_newBitOfS_4 (by decide) ?_
  refine ct_callVi (As := [.int 0]) (rest := []) (wr := [(h0, .inr (5, [.ref r1, .ref r2])), (r1, .inr (1, [.long σ.1.1, .long σ.1.2]))]) (ws2 := [(h0, .inr (5, [.ref r1, .ref r2])), (r1, .inr (1, [.long σ.1.1, .long σ.1.2])), (r2, .inr (1, [.long σ.2.1, .long σ.2.2]))]) ⟨hx, hb, hml, hown, hts⟩ (c_at l D r2 σ.2 0) cw_X1_at [] rfl [2] [0, 1] [0, 1, 2] hK hP hD hS hA 0 1 rfl rfl rfl rfl (by decide) rfl (by decide) (by decide) rfl (by decide) rfl hl.1 rfl (Nat.le_of_ble_eq_true rfl) dX6_newBitOfS_5 ⟨Nat.zero_le _, Nat.zero_le _⟩ (fun H locs hP hD hS => ?_)
  refine lv_aload_n hx hb dX6_newBitOfS_8 rfl (lv_at hl 0 rfl) ?_
  refine va_get (D := D) (ci := 5) (v := .ref r2) (C := RX6) (T := TX6) (N := 2) hx hb hts hi_X6 hown hK hP 0 rfl rfl 1 (by decide) hf_16 (fun _ h9 => h9) rfl dX6_newBitOfS_9 ?_
  refine lv_bipush (v := 7) hx hb dX6_newBitOfS_12 (by decide) ?_
  refine ct_callVi (As := [.int 7]) (rest := [.int (rg_at σ.2 0)]) (wr := [(h0, .inr (5, [.ref r1, .ref r2])), (r1, .inr (1, [.long σ.1.1, .long σ.1.2]))]) (ws2 := [(h0, .inr (5, [.ref r1, .ref r2])), (r1, .inr (1, [.long σ.1.1, .long σ.1.2])), (r2, .inr (1, [.long σ.2.1, .long σ.2.2]))]) ⟨hx, hb, hml, hown, hts⟩ (c_at l D r2 σ.2 7) cw_X1_at [] rfl [2] [0, 1] [0, 1, 2] hK hP hD hS hA 0 1 rfl rfl rfl rfl (by decide) rfl (by decide) (by decide) rfl (by decide) rfl hl.1 rfl (Nat.le_of_ble_eq_true rfl) dX6_newBitOfS_14 ⟨Nat.zero_le _, Nat.zero_le _⟩ (fun H locs hP hD hS => ?_)
  refine lv_ixor hx hb dX6_newBitOfS_17 ?_
  refine lv_aload_n hx hb dX6_newBitOfS_18 rfl (lv_at hl 0 rfl) ?_
  refine va_get (D := D) (ci := 5) (v := .ref r2) (C := RX6) (T := TX6) (N := 2) hx hb hts hi_X6 hown hK hP 0 rfl rfl 1 (by decide) hf_16 (fun _ h9 => h9) rfl dX6_newBitOfS_19 ?_
  refine lv_bipush (v := 38) hx hb dX6_newBitOfS_22 (by decide) ?_
  refine ct_callVi (As := [.int 38]) (rest := [.int ((rg_at σ.2 0) ^^^ (rg_at σ.2 7))]) (wr := [(h0, .inr (5, [.ref r1, .ref r2])), (r1, .inr (1, [.long σ.1.1, .long σ.1.2]))]) (ws2 := [(h0, .inr (5, [.ref r1, .ref r2])), (r1, .inr (1, [.long σ.1.1, .long σ.1.2])), (r2, .inr (1, [.long σ.2.1, .long σ.2.2]))]) ⟨hx, hb, hml, hown, hts⟩ (c_at l D r2 σ.2 38) cw_X1_at [] rfl [2] [0, 1] [0, 1, 2] hK hP hD hS hA 0 1 rfl rfl rfl rfl (by decide) rfl (by decide) (by decide) rfl (by decide) rfl hl.1 rfl (Nat.le_of_ble_eq_true rfl) dX6_newBitOfS_24 ⟨Nat.zero_le _, Nat.zero_le _⟩ (fun H locs hP hD hS => ?_)
  refine lv_ixor hx hb dX6_newBitOfS_27 ?_
  refine lv_aload_n hx hb dX6_newBitOfS_28 rfl (lv_at hl 0 rfl) ?_
  refine va_get (D := D) (ci := 5) (v := .ref r2) (C := RX6) (T := TX6) (N := 2) hx hb hts hi_X6 hown hK hP 0 rfl rfl 1 (by decide) hf_16 (fun _ h9 => h9) rfl dX6_newBitOfS_29 ?_
  refine lv_bipush (v := 70) hx hb dX6_newBitOfS_32 (by decide) ?_
  refine ct_callVi (As := [.int 70]) (rest := [.int (((rg_at σ.2 0) ^^^ (rg_at σ.2 7)) ^^^ (rg_at σ.2 38))]) (wr := [(h0, .inr (5, [.ref r1, .ref r2])), (r1, .inr (1, [.long σ.1.1, .long σ.1.2]))]) (ws2 := [(h0, .inr (5, [.ref r1, .ref r2])), (r1, .inr (1, [.long σ.1.1, .long σ.1.2])), (r2, .inr (1, [.long σ.2.1, .long σ.2.2]))]) ⟨hx, hb, hml, hown, hts⟩ (c_at l D r2 σ.2 70) cw_X1_at [] rfl [2] [0, 1] [0, 1, 2] hK hP hD hS hA 0 1 rfl rfl rfl rfl (by decide) rfl (by decide) (by decide) rfl (by decide) rfl hl.1 rfl (Nat.le_of_ble_eq_true rfl) dX6_newBitOfS_34 ⟨Nat.zero_le _, Nat.zero_le _⟩ (fun H locs hP hD hS => ?_)
  refine lv_ixor hx hb dX6_newBitOfS_37 ?_
  refine lv_aload_n hx hb dX6_newBitOfS_38 rfl (lv_at hl 0 rfl) ?_
  refine va_get (D := D) (ci := 5) (v := .ref r2) (C := RX6) (T := TX6) (N := 2) hx hb hts hi_X6 hown hK hP 0 rfl rfl 1 (by decide) hf_16 (fun _ h9 => h9) rfl dX6_newBitOfS_39 ?_
  refine lv_bipush (v := 81) hx hb dX6_newBitOfS_42 (by decide) ?_
  refine ct_callVi (As := [.int 81]) (rest := [.int ((((rg_at σ.2 0) ^^^ (rg_at σ.2 7)) ^^^ (rg_at σ.2 38)) ^^^ (rg_at σ.2 70))]) (wr := [(h0, .inr (5, [.ref r1, .ref r2])), (r1, .inr (1, [.long σ.1.1, .long σ.1.2]))]) (ws2 := [(h0, .inr (5, [.ref r1, .ref r2])), (r1, .inr (1, [.long σ.1.1, .long σ.1.2])), (r2, .inr (1, [.long σ.2.1, .long σ.2.2]))]) ⟨hx, hb, hml, hown, hts⟩ (c_at l D r2 σ.2 81) cw_X1_at [] rfl [2] [0, 1] [0, 1, 2] hK hP hD hS hA 0 1 rfl rfl rfl rfl (by decide) rfl (by decide) (by decide) rfl (by decide) rfl hl.1 rfl (Nat.le_of_ble_eq_true rfl) dX6_newBitOfS_44 ⟨Nat.zero_le _, Nat.zero_le _⟩ (fun H locs hP hD hS => ?_)
  refine lv_ixor hx hb dX6_newBitOfS_47 ?_
  refine lv_aload_n hx hb dX6_newBitOfS_48 rfl (lv_at hl 0 rfl) ?_
  refine va_get (D := D) (ci := 5) (v := .ref r2) (C := RX6) (T := TX6) (N := 2) hx hb hts hi_X6 hown hK hP 0 rfl rfl 1 (by decide) hf_16 (fun _ h9 => h9) rfl dX6_newBitOfS_49 ?_
  refine lv_bipush (v := 96) hx hb dX6_newBitOfS_52 (by decide) ?_
  refine ct_callVi (As := [.int 96]) (rest := [.int (((((rg_at σ.2 0) ^^^ (rg_at σ.2 7)) ^^^ (rg_at σ.2 38)) ^^^ (rg_at σ.2 70)) ^^^ (rg_at σ.2 81))]) (wr := [(h0, .inr (5, [.ref r1, .ref r2])), (r1, .inr (1, [.long σ.1.1, .long σ.1.2]))]) (ws2 := [(h0, .inr (5, [.ref r1, .ref r2])), (r1, .inr (1, [.long σ.1.1, .long σ.1.2])), (r2, .inr (1, [.long σ.2.1, .long σ.2.2]))]) ⟨hx, hb, hml, hown, hts⟩ (c_at l D r2 σ.2 96) cw_X1_at [] rfl [2] [0, 1] [0, 1, 2] hK hP hD hS hA 0 1 rfl rfl rfl rfl (by decide) rfl (by decide) (by decide) rfl (by decide) rfl hl.1 rfl (Nat.le_of_ble_eq_true rfl) dX6_newBitOfS_54 ⟨Nat.zero_le _, Nat.zero_le _⟩ (fun H locs hP hD hS => ?_)
  refine lv_ixor hx hb dX6_newBitOfS_57 ?_
  exact ct_zret hx hb hr hlk hP hK hD hS rfl rfl dX6_newBitOfS_58
set_option maxHeartbeats 4000000 in
set_option maxRecDepth 100000 in
/-- TwoRegisters.newBitOfB -/
theorem c_tw_nb (l : Launch) (D : va_G) (h0 r1 r2 : Nat) (σ : R4) : Cti l D yX6_newBitOfB wsX6_newBitOfB ({ frames := 1, cells := 0, slots := 0, locals := 21 } : Room) [.ref h0] [] [(h0, .inr (5, [.ref r1, .ref r2])), (r1, .inr (1, [.long σ.1.1, .long σ.1.2])), (r2, .inr (1, [.long σ.2.1, .long σ.2.2]))] [(h0, .inr (5, [.ref r1, .ref r2])), (r1, .inr (1, [.long σ.1.1, .long σ.1.2])), (r2, .inr (1, [.long σ.2.1, .long σ.2.2]))] (tw_nb σ) := by
  refine ct_of (cc := cX6_newBitOfB) (maxL := 1) (ret := (some .int)) (by decide) rfl (Nat.le_of_ble_eq_true rfl) ?_
  intro p e s m below meth c A H locs ls hx hb hr hml hts hown hlk hnm hP hK hD hA hS hl
  have hown : s.vm.findClass RX6 = some m.cls := hown
  have hl : lv_has ls 1 [(0, .ref h0)] := hl
  have hf_16 := hts (.fieldLink RX6 16 "BitStreams$TwoRegisters" "s" "LBitStreams$Cells;") (by decide +kernel)
  have hi_X6 : ∀ w ∈ u_ws RX6 TX6 2, w ∈ wsX6_newBitOfB := by decide +kernel
  have cw_X1_at := cwV (R := ({ frames := 1, cells := 0, slots := 0, locals := 21 } : Room)) (rm := ({ frames := 0, cells := 0, slots := 0, locals := 0 } : Room)) 1 hts gX6_newBitOfB_X1_at rfl rfl rfl (by decide +kernel) ⟨Nat.le_of_ble_eq_true rfl, Nat.le_of_ble_eq_true rfl⟩
  have hf_10 := hts (.fieldLink RX6 10 "BitStreams$TwoRegisters" "b" "LBitStreams$Cells;") (by decide +kernel)
  refine lv_aload_n hx hb dX6_newBitOfB_0 rfl (lv_at hl 0 rfl) ?_
  refine va_get (D := D) (ci := 5) (v := .ref r2) (C := RX6) (T := TX6) (N := 2) hx hb hts hi_X6 hown hK hP 0 rfl rfl 1 (by decide) hf_16 (fun _ h9 => h9) rfl dX6_newBitOfB_1 ?_
  refine lv_iconst (v := 0) hx hb dX6_newBitOfB_4 (by decide) ?_
  refine ct_callVi (As := [.int 0]) (rest := []) (wr := [(h0, .inr (5, [.ref r1, .ref r2])), (r1, .inr (1, [.long σ.1.1, .long σ.1.2]))]) (ws2 := [(h0, .inr (5, [.ref r1, .ref r2])), (r1, .inr (1, [.long σ.1.1, .long σ.1.2])), (r2, .inr (1, [.long σ.2.1, .long σ.2.2]))]) ⟨hx, hb, hml, hown, hts⟩ (c_at l D r2 σ.2 0) cw_X1_at [] rfl [2] [0, 1] [0, 1, 2] hK hP hD hS hA 0 1 rfl rfl rfl rfl (by decide) rfl (by decide) (by decide) rfl (by decide) rfl hl.1 rfl (Nat.le_of_ble_eq_true rfl) dX6_newBitOfB_5 ⟨Nat.zero_le _, Nat.zero_le _⟩ (fun H locs hP hD hS => ?_)
  refine lv_aload_n hx hb dX6_newBitOfB_8 rfl (lv_at hl 0 rfl) ?_
  refine va_get (D := D) (ci := 5) (v := .ref r1) (C := RX6) (T := TX6) (N := 2) hx hb hts hi_X6 hown hK hP 0 rfl rfl 0 (by decide) hf_10 (fun _ h9 => h9) rfl dX6_newBitOfB_9 ?_
  refine lv_iconst (v := 0) hx hb dX6_newBitOfB_12 (by decide) ?_
  refine ct_callVi (As := [.int 0]) (rest := [.int (rg_at σ.2 0)]) (wr := [(h0, .inr (5, [.ref r1, .ref r2])), (r2, .inr (1, [.long σ.2.1, .long σ.2.2]))]) (ws2 := [(h0, .inr (5, [.ref r1, .ref r2])), (r1, .inr (1, [.long σ.1.1, .long σ.1.2])), (r2, .inr (1, [.long σ.2.1, .long σ.2.2]))]) ⟨hx, hb, hml, hown, hts⟩ (c_at l D r1 σ.1 0) cw_X1_at [] rfl [1] [0, 2] [0, 2, 1] hK hP hD hS hA 0 1 rfl rfl rfl rfl (by decide) rfl (by decide) (by decide) rfl (by decide) rfl hl.1 rfl (Nat.le_of_ble_eq_true rfl) dX6_newBitOfB_13 ⟨Nat.zero_le _, Nat.zero_le _⟩ (fun H locs hP hD hS => ?_)
  refine lv_ixor hx hb dX6_newBitOfB_16 ?_
  refine lv_aload_n hx hb dX6_newBitOfB_17 rfl (lv_at hl 0 rfl) ?_
  refine va_get (D := D) (ci := 5) (v := .ref r1) (C := RX6) (T := TX6) (N := 2) hx hb hts hi_X6 hown hK hP 0 rfl rfl 0 (by decide) hf_10 (fun _ h9 => h9) rfl dX6_newBitOfB_18 ?_
  refine lv_bipush (v := 26) hx hb dX6_newBitOfB_21 (by decide) ?_
  refine ct_callVi (As := [.int 26]) (rest := [.int ((rg_at σ.2 0) ^^^ (rg_at σ.1 0))]) (wr := [(h0, .inr (5, [.ref r1, .ref r2])), (r2, .inr (1, [.long σ.2.1, .long σ.2.2]))]) (ws2 := [(h0, .inr (5, [.ref r1, .ref r2])), (r1, .inr (1, [.long σ.1.1, .long σ.1.2])), (r2, .inr (1, [.long σ.2.1, .long σ.2.2]))]) ⟨hx, hb, hml, hown, hts⟩ (c_at l D r1 σ.1 26) cw_X1_at [] rfl [1] [0, 2] [0, 2, 1] hK hP hD hS hA 0 1 rfl rfl rfl rfl (by decide) rfl (by decide) (by decide) rfl (by decide) rfl hl.1 rfl (Nat.le_of_ble_eq_true rfl) dX6_newBitOfB_23 ⟨Nat.zero_le _, Nat.zero_le _⟩ (fun H locs hP hD hS => ?_)
  refine lv_ixor hx hb dX6_newBitOfB_26 ?_
  refine lv_aload_n hx hb dX6_newBitOfB_27 rfl (lv_at hl 0 rfl) ?_
  refine va_get (D := D) (ci := 5) (v := .ref r1) (C := RX6) (T := TX6) (N := 2) hx hb hts hi_X6 hown hK hP 0 rfl rfl 0 (by decide) hf_10 (fun _ h9 => h9) rfl dX6_newBitOfB_28 ?_
  refine lv_bipush (v := 56) hx hb dX6_newBitOfB_31 (by decide) ?_
  refine ct_callVi (As := [.int 56]) (rest := [.int (((rg_at σ.2 0) ^^^ (rg_at σ.1 0)) ^^^ (rg_at σ.1 26))]) (wr := [(h0, .inr (5, [.ref r1, .ref r2])), (r2, .inr (1, [.long σ.2.1, .long σ.2.2]))]) (ws2 := [(h0, .inr (5, [.ref r1, .ref r2])), (r1, .inr (1, [.long σ.1.1, .long σ.1.2])), (r2, .inr (1, [.long σ.2.1, .long σ.2.2]))]) ⟨hx, hb, hml, hown, hts⟩ (c_at l D r1 σ.1 56) cw_X1_at [] rfl [1] [0, 2] [0, 2, 1] hK hP hD hS hA 0 1 rfl rfl rfl rfl (by decide) rfl (by decide) (by decide) rfl (by decide) rfl hl.1 rfl (Nat.le_of_ble_eq_true rfl) dX6_newBitOfB_33 ⟨Nat.zero_le _, Nat.zero_le _⟩ (fun H locs hP hD hS => ?_)
  refine lv_ixor hx hb dX6_newBitOfB_36 ?_
  refine lv_aload_n hx hb dX6_newBitOfB_37 rfl (lv_at hl 0 rfl) ?_
  refine va_get (D := D) (ci := 5) (v := .ref r1) (C := RX6) (T := TX6) (N := 2) hx hb hts hi_X6 hown hK hP 0 rfl rfl 0 (by decide) hf_10 (fun _ h9 => h9) rfl dX6_newBitOfB_38 ?_
  refine lv_bipush (v := 91) hx hb dX6_newBitOfB_41 (by decide) ?_
  refine ct_callVi (As := [.int 91]) (rest := [.int ((((rg_at σ.2 0) ^^^ (rg_at σ.1 0)) ^^^ (rg_at σ.1 26)) ^^^ (rg_at σ.1 56))]) (wr := [(h0, .inr (5, [.ref r1, .ref r2])), (r2, .inr (1, [.long σ.2.1, .long σ.2.2]))]) (ws2 := [(h0, .inr (5, [.ref r1, .ref r2])), (r1, .inr (1, [.long σ.1.1, .long σ.1.2])), (r2, .inr (1, [.long σ.2.1, .long σ.2.2]))]) ⟨hx, hb, hml, hown, hts⟩ (c_at l D r1 σ.1 91) cw_X1_at [] rfl [1] [0, 2] [0, 2, 1] hK hP hD hS hA 0 1 rfl rfl rfl rfl (by decide) rfl (by decide) (by decide) rfl (by decide) rfl hl.1 rfl (Nat.le_of_ble_eq_true rfl) dX6_newBitOfB_43 ⟨Nat.zero_le _, Nat.zero_le _⟩ (fun H locs hP hD hS => ?_)
  refine lv_ixor hx hb dX6_newBitOfB_46 ?_
  refine lv_aload_n hx hb dX6_newBitOfB_47 rfl (lv_at hl 0 rfl) ?_
  refine va_get (D := D) (ci := 5) (v := .ref r1) (C := RX6) (T := TX6) (N := 2) hx hb hts hi_X6 hown hK hP 0 rfl rfl 0 (by decide) hf_10 (fun _ h9 => h9) rfl dX6_newBitOfB_48 ?_
  refine lv_bipush (v := 96) hx hb dX6_newBitOfB_51 (by decide) ?_
  refine ct_callVi (As := [.int 96]) (rest := [.int (((((rg_at σ.2 0) ^^^ (rg_at σ.1 0)) ^^^ (rg_at σ.1 26)) ^^^ (rg_at σ.1 56)) ^^^ (rg_at σ.1 91))]) (wr := [(h0, .inr (5, [.ref r1, .ref r2])), (r2, .inr (1, [.long σ.2.1, .long σ.2.2]))]) (ws2 := [(h0, .inr (5, [.ref r1, .ref r2])), (r1, .inr (1, [.long σ.1.1, .long σ.1.2])), (r2, .inr (1, [.long σ.2.1, .long σ.2.2]))]) ⟨hx, hb, hml, hown, hts⟩ (c_at l D r1 σ.1 96) cw_X1_at [] rfl [1] [0, 2] [0, 2, 1] hK hP hD hS hA 0 1 rfl rfl rfl rfl (by decide) rfl (by decide) (by decide) rfl (by decide) rfl hl.1 rfl (Nat.le_of_ble_eq_true rfl) dX6_newBitOfB_53 ⟨Nat.zero_le _, Nat.zero_le _⟩ (fun H locs hP hD hS => ?_)
  refine lv_ixor hx hb dX6_newBitOfB_56 ?_
  refine lv_aload_n hx hb dX6_newBitOfB_57 rfl (lv_at hl 0 rfl) ?_
  refine va_get (D := D) (ci := 5) (v := .ref r1) (C := RX6) (T := TX6) (N := 2) hx hb hts hi_X6 hown hK hP 0 rfl rfl 0 (by decide) hf_10 (fun _ h9 => h9) rfl dX6_newBitOfB_58 ?_
  refine lv_iconst (v := 3) hx hb dX6_newBitOfB_61 (by decide) ?_
  refine ct_callVi (As := [.int 3]) (rest := [.int ((((((rg_at σ.2 0) ^^^ (rg_at σ.1 0)) ^^^ (rg_at σ.1 26)) ^^^ (rg_at σ.1 56)) ^^^ (rg_at σ.1 91)) ^^^ (rg_at σ.1 96))]) (wr := [(h0, .inr (5, [.ref r1, .ref r2])), (r2, .inr (1, [.long σ.2.1, .long σ.2.2]))]) (ws2 := [(h0, .inr (5, [.ref r1, .ref r2])), (r1, .inr (1, [.long σ.1.1, .long σ.1.2])), (r2, .inr (1, [.long σ.2.1, .long σ.2.2]))]) ⟨hx, hb, hml, hown, hts⟩ (c_at l D r1 σ.1 3) cw_X1_at [] rfl [1] [0, 2] [0, 2, 1] hK hP hD hS hA 0 1 rfl rfl rfl rfl (by decide) rfl (by decide) (by decide) rfl (by decide) rfl hl.1 rfl (Nat.le_of_ble_eq_true rfl) dX6_newBitOfB_62 ⟨Nat.zero_le _, Nat.zero_le _⟩ (fun H locs hP hD hS => ?_)
  refine lv_aload_n hx hb dX6_newBitOfB_65 rfl (lv_at hl 0 rfl) ?_
  refine va_get (D := D) (ci := 5) (v := .ref r1) (C := RX6) (T := TX6) (N := 2) hx hb hts hi_X6 hown hK hP 0 rfl rfl 0 (by decide) hf_10 (fun _ h9 => h9) rfl dX6_newBitOfB_66 ?_
  refine lv_bipush (v := 67) hx hb dX6_newBitOfB_69 (by decide) ?_
  refine ct_callVi (As := [.int 67]) (rest := [.int (rg_at σ.1 3), .int ((((((rg_at σ.2 0) ^^^ (rg_at σ.1 0)) ^^^ (rg_at σ.1 26)) ^^^ (rg_at σ.1 56)) ^^^ (rg_at σ.1 91)) ^^^ (rg_at σ.1 96))]) (wr := [(h0, .inr (5, [.ref r1, .ref r2])), (r2, .inr (1, [.long σ.2.1, .long σ.2.2]))]) (ws2 := [(h0, .inr (5, [.ref r1, .ref r2])), (r1, .inr (1, [.long σ.1.1, .long σ.1.2])), (r2, .inr (1, [.long σ.2.1, .long σ.2.2]))]) ⟨hx, hb, hml, hown, hts⟩ (c_at l D r1 σ.1 67) cw_X1_at [] rfl [1] [0, 2] [0, 2, 1] hK hP hD hS hA 0 1 rfl rfl rfl rfl (by decide) rfl (by decide) (by decide) rfl (by decide) rfl hl.1 rfl (Nat.le_of_ble_eq_true rfl) dX6_newBitOfB_71 ⟨Nat.zero_le _, Nat.zero_le _⟩ (fun H locs hP hD hS => ?_)
  refine lv_iand hx hb dX6_newBitOfB_74 ?_
  refine lv_ixor hx hb dX6_newBitOfB_75 ?_
  refine lv_aload_n hx hb dX6_newBitOfB_76 rfl (lv_at hl 0 rfl) ?_
  refine va_get (D := D) (ci := 5) (v := .ref r1) (C := RX6) (T := TX6) (N := 2) hx hb hts hi_X6 hown hK hP 0 rfl rfl 0 (by decide) hf_10 (fun _ h9 => h9) rfl dX6_newBitOfB_77 ?_
  refine lv_bipush (v := 11) hx hb dX6_newBitOfB_80 (by decide) ?_
  refine ct_callVi (As := [.int 11]) (rest := [.int (((((((rg_at σ.2 0) ^^^ (rg_at σ.1 0)) ^^^ (rg_at σ.1 26)) ^^^ (rg_at σ.1 56)) ^^^ (rg_at σ.1 91)) ^^^ (rg_at σ.1 96)) ^^^ ((rg_at σ.1 3) &&& (rg_at σ.1 67)))]) (wr := [(h0, .inr (5, [.ref r1, .ref r2])), (r2, .inr (1, [.long σ.2.1, .long σ.2.2]))]) (ws2 := [(h0, .inr (5, [.ref r1, .ref r2])), (r1, .inr (1, [.long σ.1.1, .long σ.1.2])), (r2, .inr (1, [.long σ.2.1, .long σ.2.2]))]) ⟨hx, hb, hml, hown, hts⟩ (c_at l D r1 σ.1 11) cw_X1_at [] rfl [1] [0, 2] [0, 2, 1] hK hP hD hS hA 0 1 rfl rfl rfl rfl (by decide) rfl (by decide) (by decide) rfl (by decide) rfl hl.1 rfl (Nat.le_of_ble_eq_true rfl) dX6_newBitOfB_82 ⟨Nat.zero_le _, Nat.zero_le _⟩ (fun H locs hP hD hS => ?_)
  refine lv_aload_n hx hb dX6_newBitOfB_85 rfl (lv_at hl 0 rfl) ?_
  refine va_get (D := D) (ci := 5) (v := .ref r1) (C := RX6) (T := TX6) (N := 2) hx hb hts hi_X6 hown hK hP 0 rfl rfl 0 (by decide) hf_10 (fun _ h9 => h9) rfl dX6_newBitOfB_86 ?_
  refine lv_bipush (v := 13) hx hb dX6_newBitOfB_89 (by decide) ?_
  refine ct_callVi (As := [.int 13]) (rest := [.int (rg_at σ.1 11), .int (((((((rg_at σ.2 0) ^^^ (rg_at σ.1 0)) ^^^ (rg_at σ.1 26)) ^^^ (rg_at σ.1 56)) ^^^ (rg_at σ.1 91)) ^^^ (rg_at σ.1 96)) ^^^ ((rg_at σ.1 3) &&& (rg_at σ.1 67)))]) (wr := [(h0, .inr (5, [.ref r1, .ref r2])), (r2, .inr (1, [.long σ.2.1, .long σ.2.2]))]) (ws2 := [(h0, .inr (5, [.ref r1, .ref r2])), (r1, .inr (1, [.long σ.1.1, .long σ.1.2])), (r2, .inr (1, [.long σ.2.1, .long σ.2.2]))]) ⟨hx, hb, hml, hown, hts⟩ (c_at l D r1 σ.1 13) cw_X1_at [] rfl [1] [0, 2] [0, 2, 1] hK hP hD hS hA 0 1 rfl rfl rfl rfl (by decide) rfl (by decide) (by decide) rfl (by decide) rfl hl.1 rfl (Nat.le_of_ble_eq_true rfl) dX6_newBitOfB_91 ⟨Nat.zero_le _, Nat.zero_le _⟩ (fun H locs hP hD hS => ?_)
  refine lv_iand hx hb dX6_newBitOfB_94 ?_
  refine lv_ixor hx hb dX6_newBitOfB_95 ?_
  refine lv_aload_n hx hb dX6_newBitOfB_96 rfl (lv_at hl 0 rfl) ?_
  refine va_get (D := D) (ci := 5) (v := .ref r1) (C := RX6) (T := TX6) (N := 2) hx hb hts hi_X6 hown hK hP 0 rfl rfl 0 (by decide) hf_10 (fun _ h9 => h9) rfl dX6_newBitOfB_97 ?_
  refine lv_bipush (v := 17) hx hb dX6_newBitOfB_100 (by decide) ?_
  refine ct_callVi (As := [.int 17]) (rest := [.int ((((((((rg_at σ.2 0) ^^^ (rg_at σ.1 0)) ^^^ (rg_at σ.1 26)) ^^^ (rg_at σ.1 56)) ^^^ (rg_at σ.1 91)) ^^^ (rg_at σ.1 96)) ^^^ ((rg_at σ.1 3) &&& (rg_at σ.1 67))) ^^^ ((rg_at σ.1 11) &&& (rg_at σ.1 13)))]) (wr := [(h0, .inr (5, [.ref r1, .ref r2])), (r2, .inr (1, [.long σ.2.1, .long σ.2.2]))]) (ws2 := [(h0, .inr (5, [.ref r1, .ref r2])), (r1, .inr (1, [.long σ.1.1, .long σ.1.2])), (r2, .inr (1, [.long σ.2.1, .long σ.2.2]))]) ⟨hx, hb, hml, hown, hts⟩ (c_at l D r1 σ.1 17) cw_X1_at [] rfl [1] [0, 2] [0, 2, 1] hK hP hD hS hA 0 1 rfl rfl rfl rfl (by decide) rfl (by decide) (by decide) rfl (by decide) rfl hl.1 rfl (Nat.le_of_ble_eq_true rfl) dX6_newBitOfB_102 ⟨Nat.zero_le _, Nat.zero_le _⟩ (fun H locs hP hD hS => ?_)
  refine lv_aload_n hx hb dX6_newBitOfB_105 rfl (lv_at hl 0 rfl) ?_
  refine va_get (D := D) (ci := 5) (v := .ref r1) (C := RX6) (T := TX6) (N := 2) hx hb hts hi_X6 hown hK hP 0 rfl rfl 0 (by decide) hf_10 (fun _ h9 => h9) rfl dX6_newBitOfB_106 ?_
  refine lv_bipush (v := 18) hx hb dX6_newBitOfB_109 (by decide) ?_
  refine ct_callVi (As := [.int 18]) (rest := [.int (rg_at σ.1 17), .int ((((((((rg_at σ.2 0) ^^^ (rg_at σ.1 0)) ^^^ (rg_at σ.1 26)) ^^^ (rg_at σ.1 56)) ^^^ (rg_at σ.1 91)) ^^^ (rg_at σ.1 96)) ^^^ ((rg_at σ.1 3) &&& (rg_at σ.1 67))) ^^^ ((rg_at σ.1 11) &&& (rg_at σ.1 13)))]) (wr := [(h0, .inr (5, [.ref r1, .ref r2])), (r2, .inr (1, [.long σ.2.1, .long σ.2.2]))]) (ws2 := [(h0, .inr (5, [.ref r1, .ref r2])), (r1, .inr (1, [.long σ.1.1, .long σ.1.2])), (r2, .inr (1, [.long σ.2.1, .long σ.2.2]))]) ⟨hx, hb, hml, hown, hts⟩ (c_at l D r1 σ.1 18) cw_X1_at [] rfl [1] [0, 2] [0, 2, 1] hK hP hD hS hA 0 1 rfl rfl rfl rfl (by decide) rfl (by decide) (by decide) rfl (by decide) rfl hl.1 rfl (Nat.le_of_ble_eq_true rfl) dX6_newBitOfB_111 ⟨Nat.zero_le _, Nat.zero_le _⟩ (fun H locs hP hD hS => ?_)
  refine lv_iand hx hb dX6_newBitOfB_114 ?_
  refine lv_ixor hx hb dX6_newBitOfB_115 ?_
  refine lv_aload_n hx hb dX6_newBitOfB_116 rfl (lv_at hl 0 rfl) ?_
  refine va_get (D := D) (ci := 5) (v := .ref r1) (C := RX6) (T := TX6) (N := 2) hx hb hts hi_X6 hown hK hP 0 rfl rfl 0 (by decide) hf_10 (fun _ h9 => h9) rfl dX6_newBitOfB_117 ?_
  refine lv_bipush (v := 27) hx hb dX6_newBitOfB_120 (by decide) ?_
  refine ct_callVi (As := [.int 27]) (rest := [.int (((((((((rg_at σ.2 0) ^^^ (rg_at σ.1 0)) ^^^ (rg_at σ.1 26)) ^^^ (rg_at σ.1 56)) ^^^ (rg_at σ.1 91)) ^^^ (rg_at σ.1 96)) ^^^ ((rg_at σ.1 3) &&& (rg_at σ.1 67))) ^^^ ((rg_at σ.1 11) &&& (rg_at σ.1 13))) ^^^ ((rg_at σ.1 17) &&& (rg_at σ.1 18)))]) (wr := [(h0, .inr (5, [.ref r1, .ref r2])), (r2, .inr (1, [.long σ.2.1, .long σ.2.2]))]) (ws2 := [(h0, .inr (5, [.ref r1, .ref r2])), (r1, .inr (1, [.long σ.1.1, .long σ.1.2])), (r2, .inr (1, [.long σ.2.1, .long σ.2.2]))]) ⟨hx, hb, hml, hown, hts⟩ (c_at l D r1 σ.1 27) cw_X1_at [] rfl [1] [0, 2] [0, 2, 1] hK hP hD hS hA 0 1 rfl rfl rfl rfl (by decide) rfl (by decide) (by decide) rfl (by decide) rfl hl.1 rfl (Nat.le_of_ble_eq_true rfl) dX6_newBitOfB_122 ⟨Nat.zero_le _, Nat.zero_le _⟩ (fun H locs hP hD hS => ?_)
  refine lv_aload_n hx hb dX6_newBitOfB_125 rfl (lv_at hl 0 rfl) ?_
  refine va_get (D := D) (ci := 5) (v := .ref r1) (C := RX6) (T := TX6) (N := 2) hx hb hts hi_X6 hown hK hP 0 rfl rfl 0 (by decide) hf_10 (fun _ h9 => h9) rfl dX6_newBitOfB_126 ?_
  refine lv_bipush (v := 59) hx hb dX6_newBitOfB_129 (by decide) ?_
  refine ct_callVi (As := [.int 59]) (rest := [.int (rg_at σ.1 27), .int (((((((((rg_at σ.2 0) ^^^ (rg_at σ.1 0)) ^^^ (rg_at σ.1 26)) ^^^ (rg_at σ.1 56)) ^^^ (rg_at σ.1 91)) ^^^ (rg_at σ.1 96)) ^^^ ((rg_at σ.1 3) &&& (rg_at σ.1 67))) ^^^ ((rg_at σ.1 11) &&& (rg_at σ.1 13))) ^^^ ((rg_at σ.1 17) &&& (rg_at σ.1 18)))]) (wr := [(h0, .inr (5, [.ref r1, .ref r2])), (r2, .inr (1, [.long σ.2.1, .long σ.2.2]))]) (ws2 := [(h0, .inr (5, [.ref r1, .ref r2])), (r1, .inr (1, [.long σ.1.1, .long σ.1.2])), (r2, .inr (1, [.long σ.2.1, .long σ.2.2]))]) ⟨hx, hb, hml, hown, hts⟩ (c_at l D r1 σ.1 59) cw_X1_at [] rfl [1] [0, 2] [0, 2, 1] hK hP hD hS hA 0 1 rfl rfl rfl rfl (by decide) rfl (by decide) (by decide) rfl (by decide) rfl hl.1 rfl (Nat.le_of_ble_eq_true rfl) dX6_newBitOfB_131 ⟨Nat.zero_le _, Nat.zero_le _⟩ (fun H locs hP hD hS => ?_)
  refine lv_iand hx hb dX6_newBitOfB_134 ?_
  refine lv_ixor hx hb dX6_newBitOfB_135 ?_
  refine lv_aload_n hx hb dX6_newBitOfB_136 rfl (lv_at hl 0 rfl) ?_
  refine va_get (D := D) (ci := 5) (v := .ref r1) (C := RX6) (T := TX6) (N := 2) hx hb hts hi_X6 hown hK hP 0 rfl rfl 0 (by decide) hf_10 (fun _ h9 => h9) rfl dX6_newBitOfB_137 ?_
  refine lv_bipush (v := 40) hx hb dX6_newBitOfB_140 (by decide) ?_
  refine ct_callVi (As := [.int 40]) (rest := [.int ((((((((((rg_at σ.2 0) ^^^ (rg_at σ.1 0)) ^^^ (rg_at σ.1 26)) ^^^ (rg_at σ.1 56)) ^^^ (rg_at σ.1 91)) ^^^ (rg_at σ.1 96)) ^^^ ((rg_at σ.1 3) &&& (rg_at σ.1 67))) ^^^ ((rg_at σ.1 11) &&& (rg_at σ.1 13))) ^^^ ((rg_at σ.1 17) &&& (rg_at σ.1 18))) ^^^ ((rg_at σ.1 27) &&& (rg_at σ.1 59)))]) (wr := [(h0, .inr (5, [.ref r1, .ref r2])), (r2, .inr (1, [.long σ.2.1, .long σ.2.2]))]) (ws2 := [(h0, .inr (5, [.ref r1, .ref r2])), (r1, .inr (1, [.long σ.1.1, .long σ.1.2])), (r2, .inr (1, [.long σ.2.1, .long σ.2.2]))]) ⟨hx, hb, hml, hown, hts⟩ (c_at l D r1 σ.1 40) cw_X1_at [] rfl [1] [0, 2] [0, 2, 1] hK hP hD hS hA 0 1 rfl rfl rfl rfl (by decide) rfl (by decide) (by decide) rfl (by decide) rfl hl.1 rfl (Nat.le_of_ble_eq_true rfl) dX6_newBitOfB_142 ⟨Nat.zero_le _, Nat.zero_le _⟩ (fun H locs hP hD hS => ?_)
  refine lv_aload_n hx hb dX6_newBitOfB_145 rfl (lv_at hl 0 rfl) ?_
  refine va_get (D := D) (ci := 5) (v := .ref r1) (C := RX6) (T := TX6) (N := 2) hx hb hts hi_X6 hown hK hP 0 rfl rfl 0 (by decide) hf_10 (fun _ h9 => h9) rfl dX6_newBitOfB_146 ?_
  refine lv_bipush (v := 48) hx hb dX6_newBitOfB_149 (by decide) ?_
  refine ct_callVi (As := [.int 48]) (rest := [.int (rg_at σ.1 40), .int ((((((((((rg_at σ.2 0) ^^^ (rg_at σ.1 0)) ^^^ (rg_at σ.1 26)) ^^^ (rg_at σ.1 56)) ^^^ (rg_at σ.1 91)) ^^^ (rg_at σ.1 96)) ^^^ ((rg_at σ.1 3) &&& (rg_at σ.1 67))) ^^^ ((rg_at σ.1 11) &&& (rg_at σ.1 13))) ^^^ ((rg_at σ.1 17) &&& (rg_at σ.1 18))) ^^^ ((rg_at σ.1 27) &&& (rg_at σ.1 59)))]) (wr := [(h0, .inr (5, [.ref r1, .ref r2])), (r2, .inr (1, [.long σ.2.1, .long σ.2.2]))]) (ws2 := [(h0, .inr (5, [.ref r1, .ref r2])), (r1, .inr (1, [.long σ.1.1, .long σ.1.2])), (r2, .inr (1, [.long σ.2.1, .long σ.2.2]))]) ⟨hx, hb, hml, hown, hts⟩ (c_at l D r1 σ.1 48) cw_X1_at [] rfl [1] [0, 2] [0, 2, 1] hK hP hD hS hA 0 1 rfl rfl rfl rfl (by decide) rfl (by decide) (by decide) rfl (by decide) rfl hl.1 rfl (Nat.le_of_ble_eq_true rfl) dX6_newBitOfB_151 ⟨Nat.zero_le _, Nat.zero_le _⟩ (fun H locs hP hD hS => ?_)
  refine lv_iand hx hb dX6_newBitOfB_154 ?_
  refine lv_ixor hx hb dX6_newBitOfB_155 ?_
  refine lv_aload_n hx hb dX6_newBitOfB_156 rfl (lv_at hl 0 rfl) ?_
  refine va_get (D := D) (ci := 5) (v := .ref r1) (C := RX6) (T := TX6) (N := 2) hx hb hts hi_X6 hown hK hP 0 rfl rfl 0 (by decide) hf_10 (fun _ h9 => h9) rfl dX6_newBitOfB_157 ?_
  refine lv_bipush (v := 61) hx hb dX6_newBitOfB_160 (by decide) ?_
  refine ct_callVi (As := [.int 61]) (rest := [.int (((((((((((rg_at σ.2 0) ^^^ (rg_at σ.1 0)) ^^^ (rg_at σ.1 26)) ^^^ (rg_at σ.1 56)) ^^^ (rg_at σ.1 91)) ^^^ (rg_at σ.1 96)) ^^^ ((rg_at σ.1 3) &&& (rg_at σ.1 67))) ^^^ ((rg_at σ.1 11) &&& (rg_at σ.1 13))) ^^^ ((rg_at σ.1 17) &&& (rg_at σ.1 18))) ^^^ ((rg_at σ.1 27) &&& (rg_at σ.1 59))) ^^^ ((rg_at σ.1 40) &&& (rg_at σ.1 48)))]) (wr := [(h0, .inr (5, [.ref r1, .ref r2])), (r2, .inr (1, [.long σ.2.1, .long σ.2.2]))]) (ws2 := [(h0, .inr (5, [.ref r1, .ref r2])), (r1, .inr (1, [.long σ.1.1, .long σ.1.2])), (r2, .inr (1, [.long σ.2.1, .long σ.2.2]))]) ⟨hx, hb, hml, hown, hts⟩ (c_at l D r1 σ.1 61) cw_X1_at [] rfl [1] [0, 2] [0, 2, 1] hK hP hD hS hA 0 1 rfl rfl rfl rfl (by decide) rfl (by decide) (by decide) rfl (by decide) rfl hl.1 rfl (Nat.le_of_ble_eq_true rfl) dX6_newBitOfB_162 ⟨Nat.zero_le _, Nat.zero_le _⟩ (fun H locs hP hD hS => ?_)
  refine lv_aload_n hx hb dX6_newBitOfB_165 rfl (lv_at hl 0 rfl) ?_
  refine va_get (D := D) (ci := 5) (v := .ref r1) (C := RX6) (T := TX6) (N := 2) hx hb hts hi_X6 hown hK hP 0 rfl rfl 0 (by decide) hf_10 (fun _ h9 => h9) rfl dX6_newBitOfB_166 ?_
  refine lv_bipush (v := 65) hx hb dX6_newBitOfB_169 (by decide) ?_
  refine ct_callVi (As := [.int 65]) (rest := [.int (rg_at σ.1 61), .int (((((((((((rg_at σ.2 0) ^^^ (rg_at σ.1 0)) ^^^ (rg_at σ.1 26)) ^^^ (rg_at σ.1 56)) ^^^ (rg_at σ.1 91)) ^^^ (rg_at σ.1 96)) ^^^ ((rg_at σ.1 3) &&& (rg_at σ.1 67))) ^^^ ((rg_at σ.1 11) &&& (rg_at σ.1 13))) ^^^ ((rg_at σ.1 17) &&& (rg_at σ.1 18))) ^^^ ((rg_at σ.1 27) &&& (rg_at σ.1 59))) ^^^ ((rg_at σ.1 40) &&& (rg_at σ.1 48)))]) (wr := [(h0, .inr (5, [.ref r1, .ref r2])), (r2, .inr (1, [.long σ.2.1, .long σ.2.2]))]) (ws2 := [(h0, .inr (5, [.ref r1, .ref r2])), (r1, .inr (1, [.long σ.1.1, .long σ.1.2])), (r2, .inr (1, [.long σ.2.1, .long σ.2.2]))]) ⟨hx, hb, hml, hown, hts⟩ (c_at l D r1 σ.1 65) cw_X1_at [] rfl [1] [0, 2] [0, 2, 1] hK hP hD hS hA 0 1 rfl rfl rfl rfl (by decide) rfl (by decide) (by decide) rfl (by decide) rfl hl.1 rfl (Nat.le_of_ble_eq_true rfl) dX6_newBitOfB_171 ⟨Nat.zero_le _, Nat.zero_le _⟩ (fun H locs hP hD hS => ?_)
  refine lv_iand hx hb dX6_newBitOfB_174 ?_
  refine lv_ixor hx hb dX6_newBitOfB_175 ?_
  refine lv_aload_n hx hb dX6_newBitOfB_176 rfl (lv_at hl 0 rfl) ?_
  refine va_get (D := D) (ci := 5) (v := .ref r1) (C := RX6) (T := TX6) (N := 2) hx hb hts hi_X6 hown hK hP 0 rfl rfl 0 (by decide) hf_10 (fun _ h9 => h9) rfl dX6_newBitOfB_177 ?_
  refine lv_bipush (v := 68) hx hb dX6_newBitOfB_180 (by decide) ?_
  refine ct_callVi (As := [.int 68]) (rest := [.int ((((((((((((rg_at σ.2 0) ^^^ (rg_at σ.1 0)) ^^^ (rg_at σ.1 26)) ^^^ (rg_at σ.1 56)) ^^^ (rg_at σ.1 91)) ^^^ (rg_at σ.1 96)) ^^^ ((rg_at σ.1 3) &&& (rg_at σ.1 67))) ^^^ ((rg_at σ.1 11) &&& (rg_at σ.1 13))) ^^^ ((rg_at σ.1 17) &&& (rg_at σ.1 18))) ^^^ ((rg_at σ.1 27) &&& (rg_at σ.1 59))) ^^^ ((rg_at σ.1 40) &&& (rg_at σ.1 48))) ^^^ ((rg_at σ.1 61) &&& (rg_at σ.1 65)))]) (wr := [(h0, .inr (5, [.ref r1, .ref r2])), (r2, .inr (1, [.long σ.2.1, .long σ.2.2]))]) (ws2 := [(h0, .inr (5, [.ref r1, .ref r2])), (r1, .inr (1, [.long σ.1.1, .long σ.1.2])), (r2, .inr (1, [.long σ.2.1, .long σ.2.2]))]) ⟨hx, hb, hml, hown, hts⟩ (c_at l D r1 σ.1 68) cw_X1_at [] rfl [1] [0, 2] [0, 2, 1] hK hP hD hS hA 0 1 rfl rfl rfl rfl (by decide) rfl (by decide) (by decide) rfl (by decide) rfl hl.1 rfl (Nat.le_of_ble_eq_true rfl) dX6_newBitOfB_182 ⟨Nat.zero_le _, Nat.zero_le _⟩ (fun H locs hP hD hS => ?_)
  refine lv_aload_n hx hb dX6_newBitOfB_185 rfl (lv_at hl 0 rfl) ?_
  refine va_get (D := D) (ci := 5) (v := .ref r1) (C := RX6) (T := TX6) (N := 2) hx hb hts hi_X6 hown hK hP 0 rfl rfl 0 (by decide) hf_10 (fun _ h9 => h9) rfl dX6_newBitOfB_186 ?_
  refine lv_bipush (v := 84) hx hb dX6_newBitOfB_189 (by decide) ?_
  refine ct_callVi (As := [.int 84]) (rest := [.int (rg_at σ.1 68), .int ((((((((((((rg_at σ.2 0) ^^^ (rg_at σ.1 0)) ^^^ (rg_at σ.1 26)) ^^^ (rg_at σ.1 56)) ^^^ (rg_at σ.1 91)) ^^^ (rg_at σ.1 96)) ^^^ ((rg_at σ.1 3) &&& (rg_at σ.1 67))) ^^^ ((rg_at σ.1 11) &&& (rg_at σ.1 13))) ^^^ ((rg_at σ.1 17) &&& (rg_at σ.1 18))) ^^^ ((rg_at σ.1 27) &&& (rg_at σ.1 59))) ^^^ ((rg_at σ.1 40) &&& (rg_at σ.1 48))) ^^^ ((rg_at σ.1 61) &&& (rg_at σ.1 65)))]) (wr := [(h0, .inr (5, [.ref r1, .ref r2])), (r2, .inr (1, [.long σ.2.1, .long σ.2.2]))]) (ws2 := [(h0, .inr (5, [.ref r1, .ref r2])), (r1, .inr (1, [.long σ.1.1, .long σ.1.2])), (r2, .inr (1, [.long σ.2.1, .long σ.2.2]))]) ⟨hx, hb, hml, hown, hts⟩ (c_at l D r1 σ.1 84) cw_X1_at [] rfl [1] [0, 2] [0, 2, 1] hK hP hD hS hA 0 1 rfl rfl rfl rfl (by decide) rfl (by decide) (by decide) rfl (by decide) rfl hl.1 rfl (Nat.le_of_ble_eq_true rfl) dX6_newBitOfB_191 ⟨Nat.zero_le _, Nat.zero_le _⟩ (fun H locs hP hD hS => ?_)
  refine lv_iand hx hb dX6_newBitOfB_194 ?_
  refine lv_ixor hx hb dX6_newBitOfB_195 ?_
  refine lv_aload_n hx hb dX6_newBitOfB_196 rfl (lv_at hl 0 rfl) ?_
  refine va_get (D := D) (ci := 5) (v := .ref r1) (C := RX6) (T := TX6) (N := 2) hx hb hts hi_X6 hown hK hP 0 rfl rfl 0 (by decide) hf_10 (fun _ h9 => h9) rfl dX6_newBitOfB_197 ?_
  refine lv_bipush (v := 88) hx hb dX6_newBitOfB_200 (by decide) ?_
  refine ct_callVi (As := [.int 88]) (rest := [.int (((((((((((((rg_at σ.2 0) ^^^ (rg_at σ.1 0)) ^^^ (rg_at σ.1 26)) ^^^ (rg_at σ.1 56)) ^^^ (rg_at σ.1 91)) ^^^ (rg_at σ.1 96)) ^^^ ((rg_at σ.1 3) &&& (rg_at σ.1 67))) ^^^ ((rg_at σ.1 11) &&& (rg_at σ.1 13))) ^^^ ((rg_at σ.1 17) &&& (rg_at σ.1 18))) ^^^ ((rg_at σ.1 27) &&& (rg_at σ.1 59))) ^^^ ((rg_at σ.1 40) &&& (rg_at σ.1 48))) ^^^ ((rg_at σ.1 61) &&& (rg_at σ.1 65))) ^^^ ((rg_at σ.1 68) &&& (rg_at σ.1 84)))]) (wr := [(h0, .inr (5, [.ref r1, .ref r2])), (r2, .inr (1, [.long σ.2.1, .long σ.2.2]))]) (ws2 := [(h0, .inr (5, [.ref r1, .ref r2])), (r1, .inr (1, [.long σ.1.1, .long σ.1.2])), (r2, .inr (1, [.long σ.2.1, .long σ.2.2]))]) ⟨hx, hb, hml, hown, hts⟩ (c_at l D r1 σ.1 88) cw_X1_at [] rfl [1] [0, 2] [0, 2, 1] hK hP hD hS hA 0 1 rfl rfl rfl rfl (by decide) rfl (by decide) (by decide) rfl (by decide) rfl hl.1 rfl (Nat.le_of_ble_eq_true rfl) dX6_newBitOfB_202 ⟨Nat.zero_le _, Nat.zero_le _⟩ (fun H locs hP hD hS => ?_)
  refine lv_aload_n hx hb dX6_newBitOfB_205 rfl (lv_at hl 0 rfl) ?_
  refine va_get (D := D) (ci := 5) (v := .ref r1) (C := RX6) (T := TX6) (N := 2) hx hb hts hi_X6 hown hK hP 0 rfl rfl 0 (by decide) hf_10 (fun _ h9 => h9) rfl dX6_newBitOfB_206 ?_
  refine lv_bipush (v := 92) hx hb dX6_newBitOfB_209 (by decide) ?_
  refine ct_callVi (As := [.int 92]) (rest := [.int (rg_at σ.1 88), .int (((((((((((((rg_at σ.2 0) ^^^ (rg_at σ.1 0)) ^^^ (rg_at σ.1 26)) ^^^ (rg_at σ.1 56)) ^^^ (rg_at σ.1 91)) ^^^ (rg_at σ.1 96)) ^^^ ((rg_at σ.1 3) &&& (rg_at σ.1 67))) ^^^ ((rg_at σ.1 11) &&& (rg_at σ.1 13))) ^^^ ((rg_at σ.1 17) &&& (rg_at σ.1 18))) ^^^ ((rg_at σ.1 27) &&& (rg_at σ.1 59))) ^^^ ((rg_at σ.1 40) &&& (rg_at σ.1 48))) ^^^ ((rg_at σ.1 61) &&& (rg_at σ.1 65))) ^^^ ((rg_at σ.1 68) &&& (rg_at σ.1 84)))]) (wr := [(h0, .inr (5, [.ref r1, .ref r2])), (r2, .inr (1, [.long σ.2.1, .long σ.2.2]))]) (ws2 := [(h0, .inr (5, [.ref r1, .ref r2])), (r1, .inr (1, [.long σ.1.1, .long σ.1.2])), (r2, .inr (1, [.long σ.2.1, .long σ.2.2]))]) ⟨hx, hb, hml, hown, hts⟩ (c_at l D r1 σ.1 92) cw_X1_at [] rfl [1] [0, 2] [0, 2, 1] hK hP hD hS hA 0 1 rfl rfl rfl rfl (by decide) rfl (by decide) (by decide) rfl (by decide) rfl hl.1 rfl (Nat.le_of_ble_eq_true rfl) dX6_newBitOfB_211 ⟨Nat.zero_le _, Nat.zero_le _⟩ (fun H locs hP hD hS => ?_)
  refine lv_iand hx hb dX6_newBitOfB_214 ?_
  refine lv_aload_n hx hb dX6_newBitOfB_215 rfl (lv_at hl 0 rfl) ?_
  refine va_get (D := D) (ci := 5) (v := .ref r1) (C := RX6) (T := TX6) (N := 2) hx hb hts hi_X6 hown hK hP 0 rfl rfl 0 (by decide) hf_10 (fun _ h9 => h9) rfl dX6_newBitOfB_216 ?_
  refine lv_bipush (v := 93) hx hb dX6_newBitOfB_219 (by decide) ?_
  refine ct_callVi (As := [.int 93]) (rest := [.int ((rg_at σ.1 88) &&& (rg_at σ.1 92)), .int (((((((((((((rg_at σ.2 0) ^^^ (rg_at σ.1 0)) ^^^ (rg_at σ.1 26)) ^^^ (rg_at σ.1 56)) ^^^ (rg_at σ.1 91)) ^^^ (rg_at σ.1 96)) ^^^ ((rg_at σ.1 3) &&& (rg_at σ.1 67))) ^^^ ((rg_at σ.1 11) &&& (rg_at σ.1 13))) ^^^ ((rg_at σ.1 17) &&& (rg_at σ.1 18))) ^^^ ((rg_at σ.1 27) &&& (rg_at σ.1 59))) ^^^ ((rg_at σ.1 40) &&& (rg_at σ.1 48))) ^^^ ((rg_at σ.1 61) &&& (rg_at σ.1 65))) ^^^ ((rg_at σ.1 68) &&& (rg_at σ.1 84)))]) (wr := [(h0, .inr (5, [.ref r1, .ref r2])), (r2, .inr (1, [.long σ.2.1, .long σ.2.2]))]) (ws2 := [(h0, .inr (5, [.ref r1, .ref r2])), (r1, .inr (1, [.long σ.1.1, .long σ.1.2])), (r2, .inr (1, [.long σ.2.1, .long σ.2.2]))]) ⟨hx, hb, hml, hown, hts⟩ (c_at l D r1 σ.1 93) cw_X1_at [] rfl [1] [0, 2] [0, 2, 1] hK hP hD hS hA 0 1 rfl rfl rfl rfl (by decide) rfl (by decide) (by decide) rfl (by decide) rfl hl.1 rfl (Nat.le_of_ble_eq_true rfl) dX6_newBitOfB_221 ⟨Nat.zero_le _, Nat.zero_le _⟩ (fun H locs hP hD hS => ?_)
  refine lv_iand hx hb dX6_newBitOfB_224 ?_
  refine lv_aload_n hx hb dX6_newBitOfB_225 rfl (lv_at hl 0 rfl) ?_
  refine va_get (D := D) (ci := 5) (v := .ref r1) (C := RX6) (T := TX6) (N := 2) hx hb hts hi_X6 hown hK hP 0 rfl rfl 0 (by decide) hf_10 (fun _ h9 => h9) rfl dX6_newBitOfB_226 ?_
  refine lv_bipush (v := 95) hx hb dX6_newBitOfB_229 (by decide) ?_
  refine ct_callVi (As := [.int 95]) (rest := [.int (((rg_at σ.1 88) &&& (rg_at σ.1 92)) &&& (rg_at σ.1 93)), .int (((((((((((((rg_at σ.2 0) ^^^ (rg_at σ.1 0)) ^^^ (rg_at σ.1 26)) ^^^ (rg_at σ.1 56)) ^^^ (rg_at σ.1 91)) ^^^ (rg_at σ.1 96)) ^^^ ((rg_at σ.1 3) &&& (rg_at σ.1 67))) ^^^ ((rg_at σ.1 11) &&& (rg_at σ.1 13))) ^^^ ((rg_at σ.1 17) &&& (rg_at σ.1 18))) ^^^ ((rg_at σ.1 27) &&& (rg_at σ.1 59))) ^^^ ((rg_at σ.1 40) &&& (rg_at σ.1 48))) ^^^ ((rg_at σ.1 61) &&& (rg_at σ.1 65))) ^^^ ((rg_at σ.1 68) &&& (rg_at σ.1 84)))]) (wr := [(h0, .inr (5, [.ref r1, .ref r2])), (r2, .inr (1, [.long σ.2.1, .long σ.2.2]))]) (ws2 := [(h0, .inr (5, [.ref r1, .ref r2])), (r1, .inr (1, [.long σ.1.1, .long σ.1.2])), (r2, .inr (1, [.long σ.2.1, .long σ.2.2]))]) ⟨hx, hb, hml, hown, hts⟩ (c_at l D r1 σ.1 95) cw_X1_at [] rfl [1] [0, 2] [0, 2, 1] hK hP hD hS hA 0 1 rfl rfl rfl rfl (by decide) rfl (by decide) (by decide) rfl (by decide) rfl hl.1 rfl (Nat.le_of_ble_eq_true rfl) dX6_newBitOfB_231 ⟨Nat.zero_le _, Nat.zero_le _⟩ (fun H locs hP hD hS => ?_)
  refine lv_iand hx hb dX6_newBitOfB_234 ?_
  refine lv_ixor hx hb dX6_newBitOfB_235 ?_
  refine lv_aload_n hx hb dX6_newBitOfB_236 rfl (lv_at hl 0 rfl) ?_
  refine va_get (D := D) (ci := 5) (v := .ref r1) (C := RX6) (T := TX6) (N := 2) hx hb hts hi_X6 hown hK hP 0 rfl rfl 0 (by decide) hf_10 (fun _ h9 => h9) rfl dX6_newBitOfB_237 ?_
  refine lv_bipush (v := 22) hx hb dX6_newBitOfB_240 (by decide) ?_
  refine ct_callVi (As := [.int 22]) (rest := [.int ((((((((((((((rg_at σ.2 0) ^^^ (rg_at σ.1 0)) ^^^ (rg_at σ.1 26)) ^^^ (rg_at σ.1 56)) ^^^ (rg_at σ.1 91)) ^^^ (rg_at σ.1 96)) ^^^ ((rg_at σ.1 3) &&& (rg_at σ.1 67))) ^^^ ((rg_at σ.1 11) &&& (rg_at σ.1 13))) ^^^ ((rg_at σ.1 17) &&& (rg_at σ.1 18))) ^^^ ((rg_at σ.1 27) &&& (rg_at σ.1 59))) ^^^ ((rg_at σ.1 40) &&& (rg_at σ.1 48))) ^^^ ((rg_at σ.1 61) &&& (rg_at σ.1 65))) ^^^ ((rg_at σ.1 68) &&& (rg_at σ.1 84))) ^^^ ((((rg_at σ.1 88) &&& (rg_at σ.1 92)) &&& (rg_at σ.1 93)) &&& (rg_at σ.1 95)))]) (wr := [(h0, .inr (5, [.ref r1, .ref r2])), (r2, .inr (1, [.long σ.2.1, .long σ.2.2]))]) (ws2 := [(h0, .inr (5, [.ref r1, .ref r2])), (r1, .inr (1, [.long σ.1.1, .long σ.1.2])), (r2, .inr (1, [.long σ.2.1, .long σ.2.2]))]) ⟨hx, hb, hml, hown, hts⟩ (c_at l D r1 σ.1 22) cw_X1_at [] rfl [1] [0, 2] [0, 2, 1] hK hP hD hS hA 0 1 rfl rfl rfl rfl (by decide) rfl (by decide) (by decide) rfl (by decide) rfl hl.1 rfl (Nat.le_of_ble_eq_true rfl) dX6_newBitOfB_242 ⟨Nat.zero_le _, Nat.zero_le _⟩ (fun H locs hP hD hS => ?_)
  refine lv_aload_n hx hb dX6_newBitOfB_245 rfl (lv_at hl 0 rfl) ?_
  refine va_get (D := D) (ci := 5) (v := .ref r1) (C := RX6) (T := TX6) (N := 2) hx hb hts hi_X6 hown hK hP 0 rfl rfl 0 (by decide) hf_10 (fun _ h9 => h9) rfl dX6_newBitOfB_246 ?_
  refine lv_bipush (v := 24) hx hb dX6_newBitOfB_249 (by decide) ?_
  refine ct_callVi (As := [.int 24]) (rest := [.int (rg_at σ.1 22), .int ((((((((((((((rg_at σ.2 0) ^^^ (rg_at σ.1 0)) ^^^ (rg_at σ.1 26)) ^^^ (rg_at σ.1 56)) ^^^ (rg_at σ.1 91)) ^^^ (rg_at σ.1 96)) ^^^ ((rg_at σ.1 3) &&& (rg_at σ.1 67))) ^^^ ((rg_at σ.1 11) &&& (rg_at σ.1 13))) ^^^ ((rg_at σ.1 17) &&& (rg_at σ.1 18))) ^^^ ((rg_at σ.1 27) &&& (rg_at σ.1 59))) ^^^ ((rg_at σ.1 40) &&& (rg_at σ.1 48))) ^^^ ((rg_at σ.1 61) &&& (rg_at σ.1 65))) ^^^ ((rg_at σ.1 68) &&& (rg_at σ.1 84))) ^^^ ((((rg_at σ.1 88) &&& (rg_at σ.1 92)) &&& (rg_at σ.1 93)) &&& (rg_at σ.1 95)))]) (wr := [(h0, .inr (5, [.ref r1, .ref r2])), (r2, .inr (1, [.long σ.2.1, .long σ.2.2]))]) (ws2 := [(h0, .inr (5, [.ref r1, .ref r2])), (r1, .inr (1, [.long σ.1.1, .long σ.1.2])), (r2, .inr (1, [.long σ.2.1, .long σ.2.2]))]) ⟨hx, hb, hml, hown, hts⟩ (c_at l D r1 σ.1 24) cw_X1_at [] rfl [1] [0, 2] [0, 2, 1] hK hP hD hS hA 0 1 rfl rfl rfl rfl (by decide) rfl (by decide) (by decide) rfl (by decide) rfl hl.1 rfl (Nat.le_of_ble_eq_true rfl) dX6_newBitOfB_251 ⟨Nat.zero_le _, Nat.zero_le _⟩ (fun H locs hP hD hS => ?_)
  refine lv_iand hx hb dX6_newBitOfB_254 ?_
  refine lv_aload_n hx hb dX6_newBitOfB_255 rfl (lv_at hl 0 rfl) ?_
  refine va_get (D := D) (ci := 5) (v := .ref r1) (C := RX6) (T := TX6) (N := 2) hx hb hts hi_X6 hown hK hP 0 rfl rfl 0 (by decide) hf_10 (fun _ h9 => h9) rfl dX6_newBitOfB_256 ?_
  refine lv_bipush (v := 25) hx hb dX6_newBitOfB_259 (by decide) ?_
  refine ct_callVi (As := [.int 25]) (rest := [.int ((rg_at σ.1 22) &&& (rg_at σ.1 24)), .int ((((((((((((((rg_at σ.2 0) ^^^ (rg_at σ.1 0)) ^^^ (rg_at σ.1 26)) ^^^ (rg_at σ.1 56)) ^^^ (rg_at σ.1 91)) ^^^ (rg_at σ.1 96)) ^^^ ((rg_at σ.1 3) &&& (rg_at σ.1 67))) ^^^ ((rg_at σ.1 11) &&& (rg_at σ.1 13))) ^^^ ((rg_at σ.1 17) &&& (rg_at σ.1 18))) ^^^ ((rg_at σ.1 27) &&& (rg_at σ.1 59))) ^^^ ((rg_at σ.1 40) &&& (rg_at σ.1 48))) ^^^ ((rg_at σ.1 61) &&& (rg_at σ.1 65))) ^^^ ((rg_at σ.1 68) &&& (rg_at σ.1 84))) ^^^ ((((rg_at σ.1 88) &&& (rg_at σ.1 92)) &&& (rg_at σ.1 93)) &&& (rg_at σ.1 95)))]) (wr := [(h0, .inr (5, [.ref r1, .ref r2])), (r2, .inr (1, [.long σ.2.1, .long σ.2.2]))]) (ws2 := [(h0, .inr (5, [.ref r1, .ref r2])), (r1, .inr (1, [.long σ.1.1, .long σ.1.2])), (r2, .inr (1, [.long σ.2.1, .long σ.2.2]))]) ⟨hx, hb, hml, hown, hts⟩ (c_at l D r1 σ.1 25) cw_X1_at [] rfl [1] [0, 2] [0, 2, 1] hK hP hD hS hA 0 1 rfl rfl rfl rfl (by decide) rfl (by decide) (by decide) rfl (by decide) rfl hl.1 rfl (Nat.le_of_ble_eq_true rfl) dX6_newBitOfB_261 ⟨Nat.zero_le _, Nat.zero_le _⟩ (fun H locs hP hD hS => ?_)
  refine lv_iand hx hb dX6_newBitOfB_264 ?_
  refine lv_ixor hx hb dX6_newBitOfB_265 ?_
  refine lv_aload_n hx hb dX6_newBitOfB_266 rfl (lv_at hl 0 rfl) ?_
  refine va_get (D := D) (ci := 5) (v := .ref r1) (C := RX6) (T := TX6) (N := 2) hx hb hts hi_X6 hown hK hP 0 rfl rfl 0 (by decide) hf_10 (fun _ h9 => h9) rfl dX6_newBitOfB_267 ?_
  refine lv_bipush (v := 70) hx hb dX6_newBitOfB_270 (by decide) ?_
  refine ct_callVi (As := [.int 70]) (rest := [.int (((((((((((((((rg_at σ.2 0) ^^^ (rg_at σ.1 0)) ^^^ (rg_at σ.1 26)) ^^^ (rg_at σ.1 56)) ^^^ (rg_at σ.1 91)) ^^^ (rg_at σ.1 96)) ^^^ ((rg_at σ.1 3) &&& (rg_at σ.1 67))) ^^^ ((rg_at σ.1 11) &&& (rg_at σ.1 13))) ^^^ ((rg_at σ.1 17) &&& (rg_at σ.1 18))) ^^^ ((rg_at σ.1 27) &&& (rg_at σ.1 59))) ^^^ ((rg_at σ.1 40) &&& (rg_at σ.1 48))) ^^^ ((rg_at σ.1 61) &&& (rg_at σ.1 65))) ^^^ ((rg_at σ.1 68) &&& (rg_at σ.1 84))) ^^^ ((((rg_at σ.1 88) &&& (rg_at σ.1 92)) &&& (rg_at σ.1 93)) &&& (rg_at σ.1 95))) ^^^ (((rg_at σ.1 22) &&& (rg_at σ.1 24)) &&& (rg_at σ.1 25)))]) (wr := [(h0, .inr (5, [.ref r1, .ref r2])), (r2, .inr (1, [.long σ.2.1, .long σ.2.2]))]) (ws2 := [(h0, .inr (5, [.ref r1, .ref r2])), (r1, .inr (1, [.long σ.1.1, .long σ.1.2])), (r2, .inr (1, [.long σ.2.1, .long σ.2.2]))]) ⟨hx, hb, hml, hown, hts⟩ (c_at l D r1 σ.1 70) cw_X1_at [] rfl [1] [0, 2] [0, 2, 1] hK hP hD hS hA 0 1 rfl rfl rfl rfl (by decide) rfl (by decide) (by decide) rfl (by decide) rfl hl.1 rfl (Nat.le_of_ble_eq_true rfl) dX6_newBitOfB_272 ⟨Nat.zero_le _, Nat.zero_le _⟩ (fun H locs hP hD hS => ?_)
  refine lv_aload_n hx hb dX6_newBitOfB_275 rfl (lv_at hl 0 rfl) ?_
  refine va_get (D := D) (ci := 5) (v := .ref r1) (C := RX6) (T := TX6) (N := 2) hx hb hts hi_X6 hown hK hP 0 rfl rfl 0 (by decide) hf_10 (fun _ h9 => h9) rfl dX6_newBitOfB_276 ?_
  refine lv_bipush (v := 78) hx hb dX6_newBitOfB_279 (by decide) ?_
  refine ct_callVi (As := [.int 78]) (rest := [.int (rg_at σ.1 70), .int (((((((((((((((rg_at σ.2 0) ^^^ (rg_at σ.1 0)) ^^^ (rg_at σ.1 26)) ^^^ (rg_at σ.1 56)) ^^^ (rg_at σ.1 91)) ^^^ (rg_at σ.1 96)) ^^^ ((rg_at σ.1 3) &&& (rg_at σ.1 67))) ^^^ ((rg_at σ.1 11) &&& (rg_at σ.1 13))) ^^^ ((rg_at σ.1 17) &&& (rg_at σ.1 18))) ^^^ ((rg_at σ.1 27) &&& (rg_at σ.1 59))) ^^^ ((rg_at σ.1 40) &&& (rg_at σ.1 48))) ^^^ ((rg_at σ.1 61) &&& (rg_at σ.1 65))) ^^^ ((rg_at σ.1 68) &&& (rg_at σ.1 84))) ^^^ ((((rg_at σ.1 88) &&& (rg_at σ.1 92)) &&& (rg_at σ.1 93)) &&& (rg_at σ.1 95))) ^^^ (((rg_at σ.1 22) &&& (rg_at σ.1 24)) &&& (rg_at σ.1 25)))]) (wr := [(h0, .inr (5, [.ref r1, .ref r2])), (r2, .inr (1, [.long σ.2.1, .long σ.2.2]))]) (ws2 := [(h0, .inr (5, [.ref r1, .ref r2])), (r1, .inr (1, [.long σ.1.1, .long σ.1.2])), (r2, .inr (1, [.long σ.2.1, .long σ.2.2]))]) ⟨hx, hb, hml, hown, hts⟩ (c_at l D r1 σ.1 78) cw_X1_at [] rfl [1] [0, 2] [0, 2, 1] hK hP hD hS hA 0 1 rfl rfl rfl rfl (by decide) rfl (by decide) (by decide) rfl (by decide) rfl hl.1 rfl (Nat.le_of_ble_eq_true rfl) dX6_newBitOfB_281 ⟨Nat.zero_le _, Nat.zero_le _⟩ (fun H locs hP hD hS => ?_)
  refine lv_iand hx hb dX6_newBitOfB_284 ?_
  refine lv_aload_n hx hb dX6_newBitOfB_285 rfl (lv_at hl 0 rfl) ?_
  refine va_get (D := D) (ci := 5) (v := .ref r1) (C := RX6) (T := TX6) (N := 2) hx hb hts hi_X6 hown hK hP 0 rfl rfl 0 (by decide) hf_10 (fun _ h9 => h9) rfl dX6_newBitOfB_286 ?_
  refine lv_bipush (v := 82) hx hb dX6_newBitOfB_289 (by decide) ?_
  refine ct_callVi (As := [.int 82]) (rest := [.int ((rg_at σ.1 70) &&& (rg_at σ.1 78)), .int (((((((((((((((rg_at σ.2 0) ^^^ (rg_at σ.1 0)) ^^^ (rg_at σ.1 26)) ^^^ (rg_at σ.1 56)) ^^^ (rg_at σ.1 91)) ^^^ (rg_at σ.1 96)) ^^^ ((rg_at σ.1 3) &&& (rg_at σ.1 67))) ^^^ ((rg_at σ.1 11) &&& (rg_at σ.1 13))) ^^^ ((rg_at σ.1 17) &&& (rg_at σ.1 18))) ^^^ ((rg_at σ.1 27) &&& (rg_at σ.1 59))) ^^^ ((rg_at σ.1 40) &&& (rg_at σ.1 48))) ^^^ ((rg_at σ.1 61) &&& (rg_at σ.1 65))) ^^^ ((rg_at σ.1 68) &&& (rg_at σ.1 84))) ^^^ ((((rg_at σ.1 88) &&& (rg_at σ.1 92)) &&& (rg_at σ.1 93)) &&& (rg_at σ.1 95))) ^^^ (((rg_at σ.1 22) &&& (rg_at σ.1 24)) &&& (rg_at σ.1 25)))]) (wr := [(h0, .inr (5, [.ref r1, .ref r2])), (r2, .inr (1, [.long σ.2.1, .long σ.2.2]))]) (ws2 := [(h0, .inr (5, [.ref r1, .ref r2])), (r1, .inr (1, [.long σ.1.1, .long σ.1.2])), (r2, .inr (1, [.long σ.2.1, .long σ.2.2]))]) ⟨hx, hb, hml, hown, hts⟩ (c_at l D r1 σ.1 82) cw_X1_at [] rfl [1] [0, 2] [0, 2, 1] hK hP hD hS hA 0 1 rfl rfl rfl rfl (by decide) rfl (by decide) (by decide) rfl (by decide) rfl hl.1 rfl (Nat.le_of_ble_eq_true rfl) dX6_newBitOfB_291 ⟨Nat.zero_le _, Nat.zero_le _⟩ (fun H locs hP hD hS => ?_)
  refine lv_iand hx hb dX6_newBitOfB_294 ?_
  refine lv_ixor hx hb dX6_newBitOfB_295 ?_
  exact ct_zret hx hb hr hlk hP hK hD hS rfl rfl dX6_newBitOfB_296
set_option maxHeartbeats 4000000 in
set_option maxRecDepth 100000 in
/-- TwoRegisters.move -/
theorem c_tw_move (l : Launch) (D : va_G) (h0 r1 r2 : Nat) (σ : R4) (x : Int32) : Ctv l D yX6_move wsX6_move ({ frames := 2, cells := 0, slots := 0, locals := 41 } : Room) [.ref h0, .int x] [] [(h0, .inr (5, [.ref r1, .ref r2])), (r1, .inr (1, [.long σ.1.1, .long σ.1.2])), (r2, .inr (1, [.long σ.2.1, .long σ.2.2]))] [(h0, .inr (5, [.ref r1, .ref r2])), (r1, .inr (1, [.long (((tw_move σ x).1).1), .long (((tw_move σ x).1).2)])), (r2, .inr (1, [.long (((tw_move σ x).2).1), .long (((tw_move σ x).2).2)]))] := by
  refine ct_of (cc := cX6_move) (maxL := 4) (ret := none) (by decide) rfl (Nat.le_of_ble_eq_true rfl) ?_
  intro p e s m below meth c A H locs ls hx hb hr hml hts hown hlk hnm hP hK hD hA hS hl
  have hown : s.vm.findClass RX6 = some m.cls := hown
  have hl : lv_has ls 4 [(0, .ref h0), (1, .int x)] := hl
  have cw_X6_newBitOfS := cwV (R := ({ frames := 2, cells := 0, slots := 0, locals := 41 } : Room)) (rm := ({ frames := 1, cells := 0, slots := 0, locals := 21 } : Room)) 0 hts gX6_move_X6_newBitOfS rfl rfl rfl (by decide +kernel) ⟨Nat.le_of_ble_eq_true rfl, Nat.le_of_ble_eq_true rfl⟩
  have cw_X6_newBitOfB := cwV (R := ({ frames := 2, cells := 0, slots := 0, locals := 41 } : Room)) (rm := ({ frames := 1, cells := 0, slots := 0, locals := 21 } : Room)) 0 hts gX6_move_X6_newBitOfB rfl rfl rfl (by decide +kernel) ⟨Nat.le_of_ble_eq_true rfl, Nat.le_of_ble_eq_true rfl⟩
  have hf_16 := hts (.fieldLink RX6 16 "BitStreams$TwoRegisters" "s" "LBitStreams$Cells;") (by decide +kernel)
  have hi_X6 : ∀ w ∈ u_ws RX6 TX6 2, w ∈ wsX6_move := by decide +kernel
  have cw_X1_moveDown := cwV (R := ({ frames := 2, cells := 0, slots := 0, locals := 41 } : Room)) (rm := ({ frames := 0, cells := 0, slots := 0, locals := 0 } : Room)) 1 hts gX6_move_X1_moveDown rfl rfl rfl (by decide +kernel) ⟨Nat.le_of_ble_eq_true rfl, Nat.le_of_ble_eq_true rfl⟩
  have hf_10 := hts (.fieldLink RX6 10 "BitStreams$TwoRegisters" "b" "LBitStreams$Cells;") (by decide +kernel)
  refine lv_aload_n hx hb dX6_move_0 rfl (lv_at hl 0 rfl) ?_
  refine ct_callVi (As := []) (rest := []) (wr := []) (ws2 := [(h0, .inr (5, [.ref r1, .ref r2])), (r1, .inr (1, [.long σ.1.1, .long σ.1.2])), (r2, .inr (1, [.long σ.2.1, .long σ.2.2]))]) ⟨hx, hb, hml, hown, hts⟩ (c_tw_ns l D h0 r1 r2 σ ) cw_X6_newBitOfS [] rfl [0, 1, 2] [] [0, 1, 2] hK hP hD hS hA 0 5 rfl rfl rfl rfl (by decide) rfl (by decide) (by decide) rfl (by decide) rfl hl.1 rfl (Nat.le_of_ble_eq_true rfl) dX6_move_1 ⟨Nat.zero_le _, Nat.zero_le _⟩ (fun H locs hP hD hS => ?_)
  refine lv_iload_n hx hb dX6_move_4 rfl (lv_at hl 1 rfl) ?_
  refine lv_ixor hx hb dX6_move_5 ?_
  refine lv_istore_n (lv' := [(2, .int ((tw_ns σ) ^^^ x)), (0, .ref h0), (1, .int x)]) hx hb dX6_move_6 rfl hl (by decide) rfl (fun ls hl => ?_)
  refine lv_aload_n hx hb dX6_move_7 rfl (lv_at hl 1 rfl) ?_
  refine ct_callVi (As := []) (rest := []) (wr := []) (ws2 := [(h0, .inr (5, [.ref r1, .ref r2])), (r1, .inr (1, [.long σ.1.1, .long σ.1.2])), (r2, .inr (1, [.long σ.2.1, .long σ.2.2]))]) ⟨hx, hb, hml, hown, hts⟩ (c_tw_nb l D h0 r1 r2 σ ) cw_X6_newBitOfB [] rfl [0, 1, 2] [] [0, 1, 2] hK hP hD hS hA 0 5 rfl rfl rfl rfl (by decide) rfl (by decide) (by decide) rfl (by decide) rfl hl.1 rfl (Nat.le_of_ble_eq_true rfl) dX6_move_8 ⟨Nat.zero_le _, Nat.zero_le _⟩ (fun H locs hP hD hS => ?_)
  refine lv_iload_n hx hb dX6_move_11 rfl (lv_at hl 2 rfl) ?_
  refine lv_ixor hx hb dX6_move_12 ?_
  refine lv_istore_n (lv' := [(3, .int ((tw_nb σ) ^^^ x)), (2, .int ((tw_ns σ) ^^^ x)), (0, .ref h0), (1, .int x)]) hx hb dX6_move_13 rfl hl (by decide) rfl (fun ls hl => ?_)
  refine lv_aload_n hx hb dX6_move_14 rfl (lv_at hl 2 rfl) ?_
  refine va_get (D := D) (ci := 5) (v := .ref r2) (C := RX6) (T := TX6) (N := 2) hx hb hts hi_X6 hown hK hP 0 rfl rfl 1 (by decide) hf_16 (fun _ h9 => h9) rfl dX6_move_15 ?_
  refine lv_iload_n hx hb dX6_move_18 rfl (lv_at hl 1 rfl) ?_
  refine ct_callVv (As := [.int ((tw_ns σ) ^^^ x)]) (rest := []) (wr := [(h0, .inr (5, [.ref r1, .ref r2])), (r1, .inr (1, [.long σ.1.1, .long σ.1.2]))]) (ws2 := [(h0, .inr (5, [.ref r1, .ref r2])), (r1, .inr (1, [.long σ.1.1, .long σ.1.2])), (r2, .inr (1, [.long ((rg_dn σ.2 ((tw_ns σ) ^^^ x)).1), .long ((rg_dn σ.2 ((tw_ns σ) ^^^ x)).2)]))]) ⟨hx, hb, hml, hown, hts⟩ (c_dn l D r2 σ.2 ((tw_ns σ) ^^^ x)) cw_X1_moveDown [] rfl [2] [0, 1] [0, 1, 2] hK hP hD hS hA 0 1 rfl rfl rfl rfl (by decide) rfl (by decide) (by decide) rfl (by decide) rfl hl.1 rfl (Nat.le_of_ble_eq_true rfl) dX6_move_19 ⟨Nat.zero_le _, Nat.zero_le _⟩ (fun H locs hP hD hS => ?_)
  refine lv_aload_n hx hb dX6_move_22 rfl (lv_at hl 2 rfl) ?_
  refine va_get (D := D) (ci := 5) (v := .ref r1) (C := RX6) (T := TX6) (N := 2) hx hb hts hi_X6 hown hK hP 0 rfl rfl 0 (by decide) hf_10 (fun _ h9 => h9) rfl dX6_move_23 ?_
  refine lv_iload_n hx hb dX6_move_26 rfl (lv_at hl 0 rfl) ?_
  refine ct_callVv (As := [.int ((tw_nb σ) ^^^ x)]) (rest := []) (wr := [(h0, .inr (5, [.ref r1, .ref r2])), (r2, .inr (1, [.long ((rg_dn σ.2 ((tw_ns σ) ^^^ x)).1), .long ((rg_dn σ.2 ((tw_ns σ) ^^^ x)).2)]))]) (ws2 := [(h0, .inr (5, [.ref r1, .ref r2])), (r1, .inr (1, [.long ((rg_dn σ.1 ((tw_nb σ) ^^^ x)).1), .long ((rg_dn σ.1 ((tw_nb σ) ^^^ x)).2)])), (r2, .inr (1, [.long ((rg_dn σ.2 ((tw_ns σ) ^^^ x)).1), .long ((rg_dn σ.2 ((tw_ns σ) ^^^ x)).2)]))]) ⟨hx, hb, hml, hown, hts⟩ (c_dn l D r1 σ.1 ((tw_nb σ) ^^^ x)) cw_X1_moveDown [] rfl [1] [0, 2] [0, 2, 1] hK hP hD hS hA 0 1 rfl rfl rfl rfl (by decide) rfl (by decide) (by decide) rfl (by decide) rfl hl.1 rfl (Nat.le_of_ble_eq_true rfl) dX6_move_27 ⟨Nat.zero_le _, Nat.zero_le _⟩ (fun H locs hP hD hS => ?_)
  exact ct_vret hx hb hr hlk hP hK hD hS dX6_move_30
set_option maxHeartbeats 4000000 in
set_option maxRecDepth 100000 in
/-- TwoRegisters.nextBit -/
theorem c_tw_next (l : Launch) (D : va_G) (h0 r1 r2 : Nat) (σ : R4) : Cti l D yX6_nextBit wsX6_nextBit ({ frames := 3, cells := 0, slots := 0, locals := 64 } : Room) [.ref h0] [] [(h0, .inr (5, [.ref r1, .ref r2])), (r1, .inr (1, [.long σ.1.1, .long σ.1.2])), (r2, .inr (1, [.long σ.2.1, .long σ.2.2]))] [(h0, .inr (5, [.ref r1, .ref r2])), (r1, .inr (1, [.long (((tw_move σ 0).1).1), .long (((tw_move σ 0).1).2)])), (r2, .inr (1, [.long (((tw_move σ 0).2).1), .long (((tw_move σ 0).2).2)]))] (tw_out σ) := by
  refine ct_of (cc := cX6_nextBit) (maxL := 2) (ret := (some .int)) (by decide) rfl (Nat.le_of_ble_eq_true rfl) ?_
  intro p e s m below meth c A H locs ls hx hb hr hml hts hown hlk hnm hP hK hD hA hS hl
  have hown : s.vm.findClass RX6 = some m.cls := hown
  have hl : lv_has ls 2 [(0, .ref h0)] := hl
  have cw_X6_output := cwV (R := ({ frames := 3, cells := 0, slots := 0, locals := 64 } : Room)) (rm := ({ frames := 1, cells := 0, slots := 0, locals := 21 } : Room)) 0 hts gX6_nextBit_X6_output rfl rfl rfl (by decide +kernel) ⟨Nat.le_of_ble_eq_true rfl, Nat.le_of_ble_eq_true rfl⟩
  have cw_X6_move := cwV (R := ({ frames := 3, cells := 0, slots := 0, locals := 64 } : Room)) (rm := ({ frames := 2, cells := 0, slots := 0, locals := 41 } : Room)) 1 hts gX6_nextBit_X6_move rfl rfl rfl (by decide +kernel) ⟨Nat.le_of_ble_eq_true rfl, Nat.le_of_ble_eq_true rfl⟩
  refine lv_aload_n hx hb dX6_nextBit_0 rfl (lv_at hl 0 rfl) ?_
  refine ct_callVi (As := []) (rest := []) (wr := []) (ws2 := [(h0, .inr (5, [.ref r1, .ref r2])), (r1, .inr (1, [.long σ.1.1, .long σ.1.2])), (r2, .inr (1, [.long σ.2.1, .long σ.2.2]))]) ⟨hx, hb, hml, hown, hts⟩ (c_tw_out l D h0 r1 r2 σ ) cw_X6_output [] rfl [0, 1, 2] [] [0, 1, 2] hK hP hD hS hA 0 5 rfl rfl rfl rfl (by decide) rfl (by decide) (by decide) rfl (by decide) rfl hl.1 rfl (Nat.le_of_ble_eq_true rfl) dX6_nextBit_1 ⟨Nat.zero_le _, Nat.zero_le _⟩ (fun H locs hP hD hS => ?_)
  refine lv_istore_n (lv' := [(1, .int (tw_out σ)), (0, .ref h0)]) hx hb dX6_nextBit_4 rfl hl (by decide) rfl (fun ls hl => ?_)
  refine lv_aload_n hx hb dX6_nextBit_5 rfl (lv_at hl 1 rfl) ?_
  refine lv_iconst (v := 0) hx hb dX6_nextBit_6 (by decide) ?_
  refine ct_callVv (As := [.int 0]) (rest := []) (wr := []) (ws2 := [(h0, .inr (5, [.ref r1, .ref r2])), (r1, .inr (1, [.long (((tw_move σ 0).1).1), .long (((tw_move σ 0).1).2)])), (r2, .inr (1, [.long (((tw_move σ 0).2).1), .long (((tw_move σ 0).2).2)]))]) ⟨hx, hb, hml, hown, hts⟩ (c_tw_move l D h0 r1 r2 σ 0) cw_X6_move [] rfl [0, 1, 2] [] [0, 1, 2] hK hP hD hS hA 0 5 rfl rfl rfl rfl (by decide) rfl (by decide) (by decide) rfl (by decide) rfl hl.1 rfl (Nat.le_of_ble_eq_true rfl) dX6_nextBit_7 ⟨Nat.zero_le _, Nat.zero_le _⟩ (fun H locs hP hD hS => ?_)
  refine lv_iload_n hx hb dX6_nextBit_10 rfl (lv_at hl 0 rfl) ?_
  exact ct_zret hx hb hr hlk hP hK hD hS rfl rfl dX6_nextBit_11
set_option maxHeartbeats 4000000 in
set_option maxRecDepth 100000 in
/-- TwoRegisters.load -/
theorem c_tw_load (l : Launch) (D : va_G) (h0 r1 r2 : Nat) (kb kq sb sq : Nat) (kA sA : ClassId) (kN kz sN sz : Nat) (hkz : kz ≤ kN) (hkN : kN < 2 ^ 31) (hsz : sz ≤ sN) (hsN : sN < 2 ^ 31) (f g : Nat → Int32) (τ : R4) : Ctv l D yX6_load wsX6_load ({ frames := 3, cells := 0, slots := 0, locals := 64 } : Room) [.ref h0, .ref kb, .ref sb] [(kA, .int), (sA, .int)] [(h0, .inr (5, [.ref r1, .ref r2])), (r1, .inr (1, [.long τ.1.1, .long τ.1.2])), (r2, .inr (1, [.long τ.2.1, .long τ.2.2])), (kb, .inr (0, [.ref kq, .int (nI kz)])), (kq, .inl (kA, kN, .inl f)), (sb, .inr (0, [.ref sq, .int (nI sz)])), (sq, .inl (sA, sN, .inl g))] [(h0, .inr (5, [.ref r1, .ref r2])), (r1, .inr (1, [.long (((tw_load f (nI kz) g (nI sz)).1).1), .long (((tw_load f (nI kz) g (nI sz)).1).2)])), (r2, .inr (1, [.long (((tw_load f (nI kz) g (nI sz)).2).1), .long (((tw_load f (nI kz) g (nI sz)).2).2)])), (kb, .inr (0, [.ref kq, .int (nI kz)])), (kq, .inl (kA, kN, .inl f)), (sb, .inr (0, [.ref sq, .int (nI sz)])), (sq, .inl (sA, sN, .inl g))] := by
  refine ct_of (cc := cX6_load) (maxL := 4) (ret := none) (by decide) rfl (Nat.le_of_ble_eq_true rfl) ?_
  intro p e s m below meth c A H locs ls hx hb hr hml hts hown hlk hnm hP hK hD hA hS hl
  have hown : s.vm.findClass RX6 = some m.cls := hown
  have hl : lv_has ls 4 [(0, .ref h0), (1, .ref kb), (2, .ref sb)] := hl
  have hf_10 := hts (.fieldLink RX6 10 "BitStreams$TwoRegisters" "b" "LBitStreams$Cells;") (by decide +kernel)
  have hi_X6 : ∀ w ∈ u_ws RX6 TX6 2, w ∈ wsX6_load := by decide +kernel
  have cw_X1_clear := cwV (R := ({ frames := 3, cells := 0, slots := 0, locals := 64 } : Room)) (rm := ({ frames := 0, cells := 0, slots := 0, locals := 0 } : Room)) 0 hts gX6_load_X1_clear rfl rfl rfl (by decide +kernel) ⟨Nat.le_of_ble_eq_true rfl, Nat.le_of_ble_eq_true rfl⟩
  have hf_16 := hts (.fieldLink RX6 16 "BitStreams$TwoRegisters" "s" "LBitStreams$Cells;") (by decide +kernel)
  have cw_X0_bit := cwV (R := ({ frames := 3, cells := 0, slots := 0, locals := 64 } : Room)) (rm := ({ frames := 1, cells := 0, slots := 0, locals := 21 } : Room)) 1 hts gX6_load_X0_bit rfl rfl rfl (by decide +kernel) ⟨Nat.le_of_ble_eq_true rfl, Nat.le_of_ble_eq_true rfl⟩
  have cw_X1_add := cwV (R := ({ frames := 3, cells := 0, slots := 0, locals := 64 } : Room)) (rm := ({ frames := 0, cells := 0, slots := 0, locals := 0 } : Room)) 2 hts gX6_load_X1_add rfl rfl rfl (by decide +kernel) ⟨Nat.le_of_ble_eq_true rfl, Nat.le_of_ble_eq_true rfl⟩
  have cw_X6_output := cwV (R := ({ frames := 3, cells := 0, slots := 0, locals := 64 } : Room)) (rm := ({ frames := 1, cells := 0, slots := 0, locals := 21 } : Room)) 0 hts gX6_load_X6_output rfl rfl rfl (by decide +kernel) ⟨Nat.le_of_ble_eq_true rfl, Nat.le_of_ble_eq_true rfl⟩
  have cw_X6_move := cwV (R := ({ frames := 3, cells := 0, slots := 0, locals := 64 } : Room)) (rm := ({ frames := 2, cells := 0, slots := 0, locals := 41 } : Room)) 1 hts gX6_load_X6_move rfl rfl rfl (by decide +kernel) ⟨Nat.le_of_ble_eq_true rfl, Nat.le_of_ble_eq_true rfl⟩
  refine lv_aload_n hx hb dX6_load_0 rfl (lv_at hl 0 rfl) ?_
  refine va_get (D := D) (ci := 5) (v := .ref r1) (C := RX6) (T := TX6) (N := 2) hx hb hts hi_X6 hown hK hP 0 rfl rfl 0 (by decide) hf_10 (fun _ h9 => h9) rfl dX6_load_1 ?_
  refine ct_callVv (As := []) (rest := []) (wr := [(h0, .inr (5, [.ref r1, .ref r2])), (r2, .inr (1, [.long τ.2.1, .long τ.2.2])), (kb, .inr (0, [.ref kq, .int (nI kz)])), (kq, .inl (kA, kN, .inl f)), (sb, .inr (0, [.ref sq, .int (nI sz)])), (sq, .inl (sA, sN, .inl g))]) (ws2 := [(h0, .inr (5, [.ref r1, .ref r2])), (r1, .inr (1, [.long rg_0.1, .long rg_0.2])), (r2, .inr (1, [.long τ.2.1, .long τ.2.2])), (kb, .inr (0, [.ref kq, .int (nI kz)])), (kq, .inl (kA, kN, .inl f)), (sb, .inr (0, [.ref sq, .int (nI sz)])), (sq, .inl (sA, sN, .inl g))]) ⟨hx, hb, hml, hown, hts⟩ (c_clr l D r1 τ.1) cw_X1_clear [] rfl [1] [0, 2, 3, 4, 5, 6] [0, 6, 1, 2, 3, 4, 5] hK hP hD hS hA 0 1 rfl rfl rfl rfl (by decide) rfl (by decide) (by decide) rfl (by decide) rfl hl.1 rfl (Nat.le_of_ble_eq_true rfl) dX6_load_4 ⟨Nat.zero_le _, Nat.zero_le _⟩ (fun H locs hP hD hS => ?_)
  refine lv_aload_n hx hb dX6_load_7 rfl (lv_at hl 0 rfl) ?_
  refine va_get (D := D) (ci := 5) (v := .ref r2) (C := RX6) (T := TX6) (N := 2) hx hb hts hi_X6 hown hK hP 0 rfl rfl 1 (by decide) hf_16 (fun _ h9 => h9) rfl dX6_load_8 ?_
  refine ct_callVv (As := []) (rest := []) (wr := [(h0, .inr (5, [.ref r1, .ref r2])), (r1, .inr (1, [.long rg_0.1, .long rg_0.2])), (kb, .inr (0, [.ref kq, .int (nI kz)])), (kq, .inl (kA, kN, .inl f)), (sb, .inr (0, [.ref sq, .int (nI sz)])), (sq, .inl (sA, sN, .inl g))]) (ws2 := [(h0, .inr (5, [.ref r1, .ref r2])), (r1, .inr (1, [.long rg_0.1, .long rg_0.2])), (r2, .inr (1, [.long rg_0.1, .long rg_0.2])), (kb, .inr (0, [.ref kq, .int (nI kz)])), (kq, .inl (kA, kN, .inl f)), (sb, .inr (0, [.ref sq, .int (nI sz)])), (sq, .inl (sA, sN, .inl g))]) ⟨hx, hb, hml, hown, hts⟩ (c_clr l D r2 τ.2) cw_X1_clear [] rfl [2] [0, 1, 3, 4, 5, 6] [0, 1, 6, 2, 3, 4, 5] hK hP hD hS hA 0 1 rfl rfl rfl rfl (by decide) rfl (by decide) (by decide) rfl (by decide) rfl hl.1 rfl (Nat.le_of_ble_eq_true rfl) dX6_load_11 ⟨Nat.zero_le _, Nat.zero_le _⟩ (fun H locs hP hD hS => ?_)
  refine lv_iconst (v := 0) hx hb dX6_load_14 (by decide) ?_
  refine lv_istore_n (lv' := [(3, .int 0), (0, .ref h0), (1, .ref kb), (2, .ref sb)]) hx hb dX6_load_15 rfl hl (by decide) rfl (fun ls hl => ?_)
  refine ct_count 128 (fun k : Nat => [(h0, .inr (5, [.ref r1, .ref r2])), (r1, .inr (1, [.long ((tw_l1 f (nI kz) k).1), .long ((tw_l1 f (nI kz) k).2)])), (r2, .inr (1, [.long rg_0.1, .long rg_0.2])), (kb, .inr (0, [.ref kq, .int (nI kz)])), (kq, .inl (kA, kN, .inl f)), (sb, .inr (0, [.ref sq, .int (nI sz)])), (sq, .inl (sA, sN, .inl g))]) (fun k : Nat => [(3, .int (nI k)), (0, .ref h0), (1, .ref kb), (2, .ref sb)]) ?_ ?_ 0 (by decide) hP hD hS (lv_sub hl [0, 1, 2, 3] rfl)
  · intro k hk ih16 H locs ls hP hD hS hl
    have hP : va_P D vwCl [(h0, .inr (5, [.ref r1, .ref r2])), (r1, .inr (1, [.long ((tw_l1 f (nI kz) k).1), .long ((tw_l1 f (nI kz) k).2)])), (r2, .inr (1, [.long rg_0.1, .long rg_0.2])), (kb, .inr (0, [.ref kq, .int (nI kz)])), (kq, .inl (kA, kN, .inl f)), (sb, .inr (0, [.ref sq, .int (nI sz)])), (sq, .inl (sA, sN, .inl g))] H := hP
    have hD : va_D A [(h0, .inr (5, [.ref r1, .ref r2])), (r1, .inr (1, [.long ((tw_l1 f (nI kz) k).1), .long ((tw_l1 f (nI kz) k).2)])), (r2, .inr (1, [.long rg_0.1, .long rg_0.2])), (kb, .inr (0, [.ref kq, .int (nI kz)])), (kq, .inl (kA, kN, .inl f)), (sb, .inr (0, [.ref sq, .int (nI sz)])), (sq, .inl (sA, sN, .inl g))] := hD
    have hl : lv_has ls 4 [(3, .int (nI k)), (0, .ref h0), (1, .ref kb), (2, .ref sb)] := hl
    refine lv_iload_n hx hb dX6_load_16 rfl (lv_at hl 0 rfl) ?_
    refine lv_sipush (v := 128) hx hb dX6_load_17 (by decide) ?_
    refine lv_icmp_ge (tgt := 42) hx hb dX6_load_20 (by decide) (fun hh => absurd hh (nI_ge (b := 128) hk (by decide))) (fun _ => ?_)
    refine lv_aload_n hx hb dX6_load_23 rfl (lv_at hl 1 rfl) ?_
    refine va_get (D := D) (ci := 5) (v := .ref r1) (C := RX6) (T := TX6) (N := 2) hx hb hts hi_X6 hown hK hP 0 rfl rfl 0 (by decide) hf_10 (fun _ h9 => h9) rfl dX6_load_24 ?_
    refine lv_iload_n hx hb dX6_load_27 rfl (lv_at hl 0 rfl) ?_
    refine lv_aload_n hx hb dX6_load_28 rfl (lv_at hl 2 rfl) ?_
    refine lv_iload_n hx hb dX6_load_29 rfl (lv_at hl 0 rfl) ?_
    refine ct_callVi (As := [.int (nI k)]) (rest := [.int (nI k), .ref r1]) (wr := [(h0, .inr (5, [.ref r1, .ref r2])), (r1, .inr (1, [.long ((tw_l1 f (nI kz) k).1), .long ((tw_l1 f (nI kz) k).2)])), (r2, .inr (1, [.long rg_0.1, .long rg_0.2])), (sb, .inr (0, [.ref sq, .int (nI sz)])), (sq, .inl (sA, sN, .inl g))]) (ws2 := [(h0, .inr (5, [.ref r1, .ref r2])), (r1, .inr (1, [.long ((tw_l1 f (nI kz) k).1), .long ((tw_l1 f (nI kz) k).2)])), (r2, .inr (1, [.long rg_0.1, .long rg_0.2])), (kb, .inr (0, [.ref kq, .int (nI kz)])), (kq, .inl (kA, kN, .inl f)), (sb, .inr (0, [.ref sq, .int (nI sz)])), (sq, .inl (sA, sN, .inl g))]) ⟨hx, hb, hml, hown, hts⟩ (c_by_bit l D kb kq kA kN kz hkz hkN f (nI k)) cw_X0_bit [0] rfl [3, 4] [0, 1, 2, 5, 6] [0, 1, 2, 5, 6, 3, 4] hK hP hD hS hA 0 0 rfl rfl rfl rfl (by decide) rfl (by decide) (by decide) rfl (by decide) rfl hl.1 rfl (Nat.le_of_ble_eq_true rfl) dX6_load_30 ⟨Nat.zero_le _, Nat.zero_le _⟩ (fun H locs hP hD hS => ?_)
    refine ct_callVv (As := [.int (nI k), .int (by_bit f (nI kz) (nI k))]) (rest := []) (wr := [(h0, .inr (5, [.ref r1, .ref r2])), (r2, .inr (1, [.long rg_0.1, .long rg_0.2])), (kb, .inr (0, [.ref kq, .int (nI kz)])), (kq, .inl (kA, kN, .inl f)), (sb, .inr (0, [.ref sq, .int (nI sz)])), (sq, .inl (sA, sN, .inl g))]) (ws2 := [(h0, .inr (5, [.ref r1, .ref r2])), (r1, .inr (1, [.long ((rg_add (tw_l1 f (nI kz) k) (nI k) (by_bit f (nI kz) (nI k))).1), .long ((rg_add (tw_l1 f (nI kz) k) (nI k) (by_bit f (nI kz) (nI k))).2)])), (r2, .inr (1, [.long rg_0.1, .long rg_0.2])), (kb, .inr (0, [.ref kq, .int (nI kz)])), (kq, .inl (kA, kN, .inl f)), (sb, .inr (0, [.ref sq, .int (nI sz)])), (sq, .inl (sA, sN, .inl g))]) ⟨hx, hb, hml, hown, hts⟩ (c_add l D r1 (tw_l1 f (nI kz) k) (nI k) (by_bit f (nI kz) (nI k))) cw_X1_add [] rfl [1] [0, 2, 3, 4, 5, 6] [0, 6, 1, 2, 3, 4, 5] hK hP hD hS hA 0 1 rfl rfl rfl rfl (by decide) rfl (by decide) (by decide) rfl (by decide) rfl hl.1 rfl (Nat.le_of_ble_eq_true rfl) dX6_load_33 ⟨Nat.zero_le _, Nat.zero_le _⟩ (fun H locs hP hD hS => ?_)
    refine lv_iinc (v := nI (k + 1)) (lv' := [(3, .int (nI (k + 1))), (0, .ref h0), (1, .ref kb), (2, .ref sb)]) hx hb dX6_load_36 hl (k := 0) rfl (ct_inc k) (by decide) rfl (fun ls hl => ?_)
    refine lv_goto (tgt := 16) hx hb dX6_load_39 (by decide) ?_
    exact ih16 H locs ls hP hD hS (lv_sub hl [0, 1, 2, 3] rfl)
  · intro H locs ls hP hD hS hl
    have hP : va_P D vwCl [(h0, .inr (5, [.ref r1, .ref r2])), (r1, .inr (1, [.long ((tw_l1 f (nI kz) 128).1), .long ((tw_l1 f (nI kz) 128).2)])), (r2, .inr (1, [.long rg_0.1, .long rg_0.2])), (kb, .inr (0, [.ref kq, .int (nI kz)])), (kq, .inl (kA, kN, .inl f)), (sb, .inr (0, [.ref sq, .int (nI sz)])), (sq, .inl (sA, sN, .inl g))] H := hP
    have hD : va_D A [(h0, .inr (5, [.ref r1, .ref r2])), (r1, .inr (1, [.long ((tw_l1 f (nI kz) 128).1), .long ((tw_l1 f (nI kz) 128).2)])), (r2, .inr (1, [.long rg_0.1, .long rg_0.2])), (kb, .inr (0, [.ref kq, .int (nI kz)])), (kq, .inl (kA, kN, .inl f)), (sb, .inr (0, [.ref sq, .int (nI sz)])), (sq, .inl (sA, sN, .inl g))] := hD
    have hl : lv_has ls 4 [(3, .int (nI 128)), (0, .ref h0), (1, .ref kb), (2, .ref sb)] := hl
    refine lv_iload_n hx hb dX6_load_16 rfl (lv_at hl 0 rfl) ?_
    refine lv_sipush (v := 128) hx hb dX6_load_17 (by decide) ?_
    refine lv_icmp_ge (tgt := 42) hx hb dX6_load_20 (by decide) (fun _ => ?_) (fun hh => absurd (Int32.le_refl _) hh)
    refine lv_iconst (v := 0) hx hb dX6_load_42 (by decide) ?_
    refine lv_istore_n (lv' := [(3, .int 0), (0, .ref h0), (1, .ref kb), (2, .ref sb)]) hx hb dX6_load_43 rfl hl (by decide) rfl (fun ls hl => ?_)
    refine ct_count 96 (fun k : Nat => [(h0, .inr (5, [.ref r1, .ref r2])), (r1, .inr (1, [.long ((tw_l1 f (nI kz) 128).1), .long ((tw_l1 f (nI kz) 128).2)])), (r2, .inr (1, [.long ((tw_l1 g (nI sz) k).1), .long ((tw_l1 g (nI sz) k).2)])), (kb, .inr (0, [.ref kq, .int (nI kz)])), (kq, .inl (kA, kN, .inl f)), (sb, .inr (0, [.ref sq, .int (nI sz)])), (sq, .inl (sA, sN, .inl g))]) (fun k : Nat => [(3, .int (nI k)), (0, .ref h0), (1, .ref kb), (2, .ref sb)]) ?_ ?_ 0 (by decide) hP hD hS (lv_sub hl [0, 1, 2, 3] rfl)
    · intro k hk ih44 H locs ls hP hD hS hl
      have hP : va_P D vwCl [(h0, .inr (5, [.ref r1, .ref r2])), (r1, .inr (1, [.long ((tw_l1 f (nI kz) 128).1), .long ((tw_l1 f (nI kz) 128).2)])), (r2, .inr (1, [.long ((tw_l1 g (nI sz) k).1), .long ((tw_l1 g (nI sz) k).2)])), (kb, .inr (0, [.ref kq, .int (nI kz)])), (kq, .inl (kA, kN, .inl f)), (sb, .inr (0, [.ref sq, .int (nI sz)])), (sq, .inl (sA, sN, .inl g))] H := hP
      have hD : va_D A [(h0, .inr (5, [.ref r1, .ref r2])), (r1, .inr (1, [.long ((tw_l1 f (nI kz) 128).1), .long ((tw_l1 f (nI kz) 128).2)])), (r2, .inr (1, [.long ((tw_l1 g (nI sz) k).1), .long ((tw_l1 g (nI sz) k).2)])), (kb, .inr (0, [.ref kq, .int (nI kz)])), (kq, .inl (kA, kN, .inl f)), (sb, .inr (0, [.ref sq, .int (nI sz)])), (sq, .inl (sA, sN, .inl g))] := hD
      have hl : lv_has ls 4 [(3, .int (nI k)), (0, .ref h0), (1, .ref kb), (2, .ref sb)] := hl
      refine lv_iload_n hx hb dX6_load_44 rfl (lv_at hl 0 rfl) ?_
      refine lv_bipush (v := 96) hx hb dX6_load_45 (by decide) ?_
      refine lv_icmp_ge (tgt := 69) hx hb dX6_load_47 (by decide) (fun hh => absurd hh (nI_ge (b := 96) hk (by decide))) (fun _ => ?_)
      refine lv_aload_n hx hb dX6_load_50 rfl (lv_at hl 1 rfl) ?_
      refine va_get (D := D) (ci := 5) (v := .ref r2) (C := RX6) (T := TX6) (N := 2) hx hb hts hi_X6 hown hK hP 0 rfl rfl 1 (by decide) hf_16 (fun _ h9 => h9) rfl dX6_load_51 ?_
      refine lv_iload_n hx hb dX6_load_54 rfl (lv_at hl 0 rfl) ?_
      refine lv_aload_n hx hb dX6_load_55 rfl (lv_at hl 3 rfl) ?_
      refine lv_iload_n hx hb dX6_load_56 rfl (lv_at hl 0 rfl) ?_
      refine ct_callVi (As := [.int (nI k)]) (rest := [.int (nI k), .ref r2]) (wr := [(h0, .inr (5, [.ref r1, .ref r2])), (r1, .inr (1, [.long ((tw_l1 f (nI kz) 128).1), .long ((tw_l1 f (nI kz) 128).2)])), (r2, .inr (1, [.long ((tw_l1 g (nI sz) k).1), .long ((tw_l1 g (nI sz) k).2)])), (kb, .inr (0, [.ref kq, .int (nI kz)])), (kq, .inl (kA, kN, .inl f))]) (ws2 := [(h0, .inr (5, [.ref r1, .ref r2])), (r1, .inr (1, [.long ((tw_l1 f (nI kz) 128).1), .long ((tw_l1 f (nI kz) 128).2)])), (r2, .inr (1, [.long ((tw_l1 g (nI sz) k).1), .long ((tw_l1 g (nI sz) k).2)])), (kb, .inr (0, [.ref kq, .int (nI kz)])), (kq, .inl (kA, kN, .inl f)), (sb, .inr (0, [.ref sq, .int (nI sz)])), (sq, .inl (sA, sN, .inl g))]) ⟨hx, hb, hml, hown, hts⟩ (c_by_bit l D sb sq sA sN sz hsz hsN g (nI k)) cw_X0_bit [1] rfl [5, 6] [0, 1, 2, 3, 4] [0, 1, 2, 3, 4, 5, 6] hK hP hD hS hA 0 0 rfl rfl rfl rfl (by decide) rfl (by decide) (by decide) rfl (by decide) rfl hl.1 rfl (Nat.le_of_ble_eq_true rfl) dX6_load_57 ⟨Nat.zero_le _, Nat.zero_le _⟩ (fun H locs hP hD hS => ?_)
      refine ct_callVv (As := [.int (nI k), .int (by_bit g (nI sz) (nI k))]) (rest := []) (wr := [(h0, .inr (5, [.ref r1, .ref r2])), (r1, .inr (1, [.long ((tw_l1 f (nI kz) 128).1), .long ((tw_l1 f (nI kz) 128).2)])), (kb, .inr (0, [.ref kq, .int (nI kz)])), (kq, .inl (kA, kN, .inl f)), (sb, .inr (0, [.ref sq, .int (nI sz)])), (sq, .inl (sA, sN, .inl g))]) (ws2 := [(h0, .inr (5, [.ref r1, .ref r2])), (r1, .inr (1, [.long ((tw_l1 f (nI kz) 128).1), .long ((tw_l1 f (nI kz) 128).2)])), (r2, .inr (1, [.long ((rg_add (tw_l1 g (nI sz) k) (nI k) (by_bit g (nI sz) (nI k))).1), .long ((rg_add (tw_l1 g (nI sz) k) (nI k) (by_bit g (nI sz) (nI k))).2)])), (kb, .inr (0, [.ref kq, .int (nI kz)])), (kq, .inl (kA, kN, .inl f)), (sb, .inr (0, [.ref sq, .int (nI sz)])), (sq, .inl (sA, sN, .inl g))]) ⟨hx, hb, hml, hown, hts⟩ (c_add l D r2 (tw_l1 g (nI sz) k) (nI k) (by_bit g (nI sz) (nI k))) cw_X1_add [] rfl [2] [0, 1, 3, 4, 5, 6] [0, 1, 6, 2, 3, 4, 5] hK hP hD hS hA 0 1 rfl rfl rfl rfl (by decide) rfl (by decide) (by decide) rfl (by decide) rfl hl.1 rfl (Nat.le_of_ble_eq_true rfl) dX6_load_60 ⟨Nat.zero_le _, Nat.zero_le _⟩ (fun H locs hP hD hS => ?_)
      refine lv_iinc (v := nI (k + 1)) (lv' := [(3, .int (nI (k + 1))), (0, .ref h0), (1, .ref kb), (2, .ref sb)]) hx hb dX6_load_63 hl (k := 0) rfl (ct_inc k) (by decide) rfl (fun ls hl => ?_)
      refine lv_goto (tgt := 44) hx hb dX6_load_66 (by decide) ?_
      exact ih44 H locs ls hP hD hS (lv_sub hl [0, 1, 2, 3] rfl)
    · intro H locs ls hP hD hS hl
      have hP : va_P D vwCl [(h0, .inr (5, [.ref r1, .ref r2])), (r1, .inr (1, [.long ((tw_l1 f (nI kz) 128).1), .long ((tw_l1 f (nI kz) 128).2)])), (r2, .inr (1, [.long ((tw_l1 g (nI sz) 96).1), .long ((tw_l1 g (nI sz) 96).2)])), (kb, .inr (0, [.ref kq, .int (nI kz)])), (kq, .inl (kA, kN, .inl f)), (sb, .inr (0, [.ref sq, .int (nI sz)])), (sq, .inl (sA, sN, .inl g))] H := hP
      have hD : va_D A [(h0, .inr (5, [.ref r1, .ref r2])), (r1, .inr (1, [.long ((tw_l1 f (nI kz) 128).1), .long ((tw_l1 f (nI kz) 128).2)])), (r2, .inr (1, [.long ((tw_l1 g (nI sz) 96).1), .long ((tw_l1 g (nI sz) 96).2)])), (kb, .inr (0, [.ref kq, .int (nI kz)])), (kq, .inl (kA, kN, .inl f)), (sb, .inr (0, [.ref sq, .int (nI sz)])), (sq, .inl (sA, sN, .inl g))] := hD
      have hl : lv_has ls 4 [(3, .int (nI 96)), (0, .ref h0), (1, .ref kb), (2, .ref sb)] := hl
      refine lv_iload_n hx hb dX6_load_44 rfl (lv_at hl 0 rfl) ?_
      refine lv_bipush (v := 96) hx hb dX6_load_45 (by decide) ?_
      refine lv_icmp_ge (tgt := 69) hx hb dX6_load_47 (by decide) (fun _ => ?_) (fun hh => absurd (Int32.le_refl _) hh)
      refine lv_bipush (v := 96) hx hb dX6_load_69 (by decide) ?_
      refine lv_istore_n (lv' := [(3, .int 96), (0, .ref h0), (1, .ref kb), (2, .ref sb)]) hx hb dX6_load_71 rfl hl (by decide) rfl (fun ls hl => ?_)
      refine ct_count 31 (fun k : Nat => [(h0, .inr (5, [.ref r1, .ref r2])), (r1, .inr (1, [.long ((tw_l1 f (nI kz) 128).1), .long ((tw_l1 f (nI kz) 128).2)])), (r2, .inr (1, [.long ((tw_l3 (tw_l1 g (nI sz) 96) k).1), .long ((tw_l3 (tw_l1 g (nI sz) 96) k).2)])), (kb, .inr (0, [.ref kq, .int (nI kz)])), (kq, .inl (kA, kN, .inl f)), (sb, .inr (0, [.ref sq, .int (nI sz)])), (sq, .inl (sA, sN, .inl g))]) (fun k : Nat => [(3, .int (nI (96 + k))), (0, .ref h0), (1, .ref kb), (2, .ref sb)]) ?_ ?_ 0 (by decide) hP hD hS (lv_sub hl [0, 1, 2, 3] rfl)
      · intro k hk ih72 H locs ls hP hD hS hl
        have hP : va_P D vwCl [(h0, .inr (5, [.ref r1, .ref r2])), (r1, .inr (1, [.long ((tw_l1 f (nI kz) 128).1), .long ((tw_l1 f (nI kz) 128).2)])), (r2, .inr (1, [.long ((tw_l3 (tw_l1 g (nI sz) 96) k).1), .long ((tw_l3 (tw_l1 g (nI sz) 96) k).2)])), (kb, .inr (0, [.ref kq, .int (nI kz)])), (kq, .inl (kA, kN, .inl f)), (sb, .inr (0, [.ref sq, .int (nI sz)])), (sq, .inl (sA, sN, .inl g))] H := hP
        have hD : va_D A [(h0, .inr (5, [.ref r1, .ref r2])), (r1, .inr (1, [.long ((tw_l1 f (nI kz) 128).1), .long ((tw_l1 f (nI kz) 128).2)])), (r2, .inr (1, [.long ((tw_l3 (tw_l1 g (nI sz) 96) k).1), .long ((tw_l3 (tw_l1 g (nI sz) 96) k).2)])), (kb, .inr (0, [.ref kq, .int (nI kz)])), (kq, .inl (kA, kN, .inl f)), (sb, .inr (0, [.ref sq, .int (nI sz)])), (sq, .inl (sA, sN, .inl g))] := hD
        have hl : lv_has ls 4 [(3, .int (nI (96 + k))), (0, .ref h0), (1, .ref kb), (2, .ref sb)] := hl
        refine lv_iload_n hx hb dX6_load_72 rfl (lv_at hl 0 rfl) ?_
        refine lv_bipush (v := 127) hx hb dX6_load_73 (by decide) ?_
        refine lv_icmp_ge (tgt := 93) hx hb dX6_load_75 (by decide) (fun hh => absurd hh (nI_ge (b := 127) (by omega) (by decide))) (fun _ => ?_)
        refine lv_aload_n hx hb dX6_load_78 rfl (lv_at hl 1 rfl) ?_
        refine va_get (D := D) (ci := 5) (v := .ref r2) (C := RX6) (T := TX6) (N := 2) hx hb hts hi_X6 hown hK hP 0 rfl rfl 1 (by decide) hf_16 (fun _ h9 => h9) rfl dX6_load_79 ?_
        refine lv_iload_n hx hb dX6_load_82 rfl (lv_at hl 0 rfl) ?_
        refine lv_iconst (v := 1) hx hb dX6_load_83 (by decide) ?_
        refine ct_callVv (As := [.int (nI (96 + k)), .int 1]) (rest := []) (wr := [(h0, .inr (5, [.ref r1, .ref r2])), (r1, .inr (1, [.long ((tw_l1 f (nI kz) 128).1), .long ((tw_l1 f (nI kz) 128).2)])), (kb, .inr (0, [.ref kq, .int (nI kz)])), (kq, .inl (kA, kN, .inl f)), (sb, .inr (0, [.ref sq, .int (nI sz)])), (sq, .inl (sA, sN, .inl g))]) (ws2 := [(h0, .inr (5, [.ref r1, .ref r2])), (r1, .inr (1, [.long ((tw_l1 f (nI kz) 128).1), .long ((tw_l1 f (nI kz) 128).2)])), (r2, .inr (1, [.long ((rg_add (tw_l3 (tw_l1 g (nI sz) 96) k) (nI (96 + k)) 1).1), .long ((rg_add (tw_l3 (tw_l1 g (nI sz) 96) k) (nI (96 + k)) 1).2)])), (kb, .inr (0, [.ref kq, .int (nI kz)])), (kq, .inl (kA, kN, .inl f)), (sb, .inr (0, [.ref sq, .int (nI sz)])), (sq, .inl (sA, sN, .inl g))]) ⟨hx, hb, hml, hown, hts⟩ (c_add l D r2 (tw_l3 (tw_l1 g (nI sz) 96) k) (nI (96 + k)) 1) cw_X1_add [] rfl [2] [0, 1, 3, 4, 5, 6] [0, 1, 6, 2, 3, 4, 5] hK hP hD hS hA 0 1 rfl rfl rfl rfl (by decide) rfl (by decide) (by decide) rfl (by decide) rfl hl.1 rfl (Nat.le_of_ble_eq_true rfl) dX6_load_84 ⟨Nat.zero_le _, Nat.zero_le _⟩ (fun H locs hP hD hS => ?_)
        refine lv_iinc (v := nI (96 + (k + 1))) (lv' := [(3, .int (nI (96 + (k + 1)))), (0, .ref h0), (1, .ref kb), (2, .ref sb)]) hx hb dX6_load_87 hl (k := 0) rfl (ct_inc (96 + k)) (by decide) rfl (fun ls hl => ?_)
        refine lv_goto (tgt := 72) hx hb dX6_load_90 (by decide) ?_
        exact ih72 H locs ls hP hD hS (lv_sub hl [0, 1, 2, 3] rfl)
      · intro H locs ls hP hD hS hl
        have hP : va_P D vwCl [(h0, .inr (5, [.ref r1, .ref r2])), (r1, .inr (1, [.long ((tw_l1 f (nI kz) 128).1), .long ((tw_l1 f (nI kz) 128).2)])), (r2, .inr (1, [.long ((tw_l3 (tw_l1 g (nI sz) 96) 31).1), .long ((tw_l3 (tw_l1 g (nI sz) 96) 31).2)])), (kb, .inr (0, [.ref kq, .int (nI kz)])), (kq, .inl (kA, kN, .inl f)), (sb, .inr (0, [.ref sq, .int (nI sz)])), (sq, .inl (sA, sN, .inl g))] H := hP
        have hD : va_D A [(h0, .inr (5, [.ref r1, .ref r2])), (r1, .inr (1, [.long ((tw_l1 f (nI kz) 128).1), .long ((tw_l1 f (nI kz) 128).2)])), (r2, .inr (1, [.long ((tw_l3 (tw_l1 g (nI sz) 96) 31).1), .long ((tw_l3 (tw_l1 g (nI sz) 96) 31).2)])), (kb, .inr (0, [.ref kq, .int (nI kz)])), (kq, .inl (kA, kN, .inl f)), (sb, .inr (0, [.ref sq, .int (nI sz)])), (sq, .inl (sA, sN, .inl g))] := hD
        have hl : lv_has ls 4 [(3, .int (nI (96 + 31))), (0, .ref h0), (1, .ref kb), (2, .ref sb)] := hl
        refine lv_iload_n hx hb dX6_load_72 rfl (lv_at hl 0 rfl) ?_
        refine lv_bipush (v := 127) hx hb dX6_load_73 (by decide) ?_
        refine lv_icmp_ge (tgt := 93) hx hb dX6_load_75 (by decide) (fun _ => ?_) (fun hh => absurd (Int32.le_refl _) hh)
        refine lv_iconst (v := 0) hx hb dX6_load_93 (by decide) ?_
        refine lv_istore_n (lv' := [(3, .int 0), (0, .ref h0), (1, .ref kb), (2, .ref sb)]) hx hb dX6_load_94 rfl hl (by decide) rfl (fun ls hl => ?_)
        refine ct_count 256 (fun k : Nat => [(h0, .inr (5, [.ref r1, .ref r2])), (r1, .inr (1, [.long (((tw_it (tw_l1 f (nI kz) 128, tw_l3 (tw_l1 g (nI sz) 96) 31) k).1).1), .long (((tw_it (tw_l1 f (nI kz) 128, tw_l3 (tw_l1 g (nI sz) 96) 31) k).1).2)])), (r2, .inr (1, [.long (((tw_it (tw_l1 f (nI kz) 128, tw_l3 (tw_l1 g (nI sz) 96) 31) k).2).1), .long (((tw_it (tw_l1 f (nI kz) 128, tw_l3 (tw_l1 g (nI sz) 96) 31) k).2).2)])), (kb, .inr (0, [.ref kq, .int (nI kz)])), (kq, .inl (kA, kN, .inl f)), (sb, .inr (0, [.ref sq, .int (nI sz)])), (sq, .inl (sA, sN, .inl g))]) (fun k : Nat => [(3, .int (nI k)), (0, .ref h0), (1, .ref kb), (2, .ref sb)]) ?_ ?_ 0 (by decide) hP hD hS (lv_sub hl [0, 1, 2, 3] rfl)
        · intro k hk ih95 H locs ls hP hD hS hl
          have hP : va_P D vwCl [(h0, .inr (5, [.ref r1, .ref r2])), (r1, .inr (1, [.long (((tw_it (tw_l1 f (nI kz) 128, tw_l3 (tw_l1 g (nI sz) 96) 31) k).1).1), .long (((tw_it (tw_l1 f (nI kz) 128, tw_l3 (tw_l1 g (nI sz) 96) 31) k).1).2)])), (r2, .inr (1, [.long (((tw_it (tw_l1 f (nI kz) 128, tw_l3 (tw_l1 g (nI sz) 96) 31) k).2).1), .long (((tw_it (tw_l1 f (nI kz) 128, tw_l3 (tw_l1 g (nI sz) 96) 31) k).2).2)])), (kb, .inr (0, [.ref kq, .int (nI kz)])), (kq, .inl (kA, kN, .inl f)), (sb, .inr (0, [.ref sq, .int (nI sz)])), (sq, .inl (sA, sN, .inl g))] H := hP
          have hD : va_D A [(h0, .inr (5, [.ref r1, .ref r2])), (r1, .inr (1, [.long (((tw_it (tw_l1 f (nI kz) 128, tw_l3 (tw_l1 g (nI sz) 96) 31) k).1).1), .long (((tw_it (tw_l1 f (nI kz) 128, tw_l3 (tw_l1 g (nI sz) 96) 31) k).1).2)])), (r2, .inr (1, [.long (((tw_it (tw_l1 f (nI kz) 128, tw_l3 (tw_l1 g (nI sz) 96) 31) k).2).1), .long (((tw_it (tw_l1 f (nI kz) 128, tw_l3 (tw_l1 g (nI sz) 96) 31) k).2).2)])), (kb, .inr (0, [.ref kq, .int (nI kz)])), (kq, .inl (kA, kN, .inl f)), (sb, .inr (0, [.ref sq, .int (nI sz)])), (sq, .inl (sA, sN, .inl g))] := hD
          have hl : lv_has ls 4 [(3, .int (nI k)), (0, .ref h0), (1, .ref kb), (2, .ref sb)] := hl
          refine lv_iload_n hx hb dX6_load_95 rfl (lv_at hl 0 rfl) ?_
          refine lv_sipush (v := 256) hx hb dX6_load_96 (by decide) ?_
          refine lv_icmp_ge (tgt := 116) hx hb dX6_load_99 (by decide) (fun hh => absurd hh (nI_ge (b := 256) hk (by decide))) (fun _ => ?_)
          refine lv_aload_n hx hb dX6_load_102 rfl (lv_at hl 1 rfl) ?_
          refine lv_aload_n hx hb dX6_load_103 rfl (lv_at hl 1 rfl) ?_
          refine ct_callVi (As := []) (rest := [.ref h0]) (wr := [(kb, .inr (0, [.ref kq, .int (nI kz)])), (kq, .inl (kA, kN, .inl f)), (sb, .inr (0, [.ref sq, .int (nI sz)])), (sq, .inl (sA, sN, .inl g))]) (ws2 := [(h0, .inr (5, [.ref r1, .ref r2])), (r1, .inr (1, [.long (((((tw_it (tw_l1 f (nI kz) 128, tw_l3 (tw_l1 g (nI sz) 96) 31) k).1), ((tw_it (tw_l1 f (nI kz) 128, tw_l3 (tw_l1 g (nI sz) 96) 31) k).2)).1).1), .long (((((tw_it (tw_l1 f (nI kz) 128, tw_l3 (tw_l1 g (nI sz) 96) 31) k).1), ((tw_it (tw_l1 f (nI kz) 128, tw_l3 (tw_l1 g (nI sz) 96) 31) k).2)).1).2)])), (r2, .inr (1, [.long (((((tw_it (tw_l1 f (nI kz) 128, tw_l3 (tw_l1 g (nI sz) 96) 31) k).1), ((tw_it (tw_l1 f (nI kz) 128, tw_l3 (tw_l1 g (nI sz) 96) 31) k).2)).2).1), .long (((((tw_it (tw_l1 f (nI kz) 128, tw_l3 (tw_l1 g (nI sz) 96) 31) k).1), ((tw_it (tw_l1 f (nI kz) 128, tw_l3 (tw_l1 g (nI sz) 96) 31) k).2)).2).2)])), (kb, .inr (0, [.ref kq, .int (nI kz)])), (kq, .inl (kA, kN, .inl f)), (sb, .inr (0, [.ref sq, .int (nI sz)])), (sq, .inl (sA, sN, .inl g))]) ⟨hx, hb, hml, hown, hts⟩ (c_tw_out l D h0 r1 r2 (((tw_it (tw_l1 f (nI kz) 128, tw_l3 (tw_l1 g (nI sz) 96) 31) k).1), ((tw_it (tw_l1 f (nI kz) 128, tw_l3 (tw_l1 g (nI sz) 96) 31) k).2)) ) cw_X6_output [] rfl [0, 1, 2] [3, 4, 5, 6] [4, 5, 6, 0, 1, 2, 3] hK hP hD hS hA 0 5 rfl rfl rfl rfl (by decide) rfl (by decide) (by decide) rfl (by decide) rfl hl.1 rfl (Nat.le_of_ble_eq_true rfl) dX6_load_104 ⟨Nat.zero_le _, Nat.zero_le _⟩ (fun H locs hP hD hS => ?_)
          refine ct_callVv (As := [.int (tw_out (((tw_it (tw_l1 f (nI kz) 128, tw_l3 (tw_l1 g (nI sz) 96) 31) k).1), ((tw_it (tw_l1 f (nI kz) 128, tw_l3 (tw_l1 g (nI sz) 96) 31) k).2)))]) (rest := []) (wr := [(kb, .inr (0, [.ref kq, .int (nI kz)])), (kq, .inl (kA, kN, .inl f)), (sb, .inr (0, [.ref sq, .int (nI sz)])), (sq, .inl (sA, sN, .inl g))]) (ws2 := [(h0, .inr (5, [.ref r1, .ref r2])), (r1, .inr (1, [.long (((tw_move (((((tw_it (tw_l1 f (nI kz) 128, tw_l3 (tw_l1 g (nI sz) 96) 31) k).1), ((tw_it (tw_l1 f (nI kz) 128, tw_l3 (tw_l1 g (nI sz) 96) 31) k).2)).1), ((((tw_it (tw_l1 f (nI kz) 128, tw_l3 (tw_l1 g (nI sz) 96) 31) k).1), ((tw_it (tw_l1 f (nI kz) 128, tw_l3 (tw_l1 g (nI sz) 96) 31) k).2)).2)) (tw_out (((tw_it (tw_l1 f (nI kz) 128, tw_l3 (tw_l1 g (nI sz) 96) 31) k).1), ((tw_it (tw_l1 f (nI kz) 128, tw_l3 (tw_l1 g (nI sz) 96) 31) k).2)))).1).1), .long (((tw_move (((((tw_it (tw_l1 f (nI kz) 128, tw_l3 (tw_l1 g (nI sz) 96) 31) k).1), ((tw_it (tw_l1 f (nI kz) 128, tw_l3 (tw_l1 g (nI sz) 96) 31) k).2)).1), ((((tw_it (tw_l1 f (nI kz) 128, tw_l3 (tw_l1 g (nI sz) 96) 31) k).1), ((tw_it (tw_l1 f (nI kz) 128, tw_l3 (tw_l1 g (nI sz) 96) 31) k).2)).2)) (tw_out (((tw_it (tw_l1 f (nI kz) 128, tw_l3 (tw_l1 g (nI sz) 96) 31) k).1), ((tw_it (tw_l1 f (nI kz) 128, tw_l3 (tw_l1 g (nI sz) 96) 31) k).2)))).1).2)])), (r2, .inr (1, [.long (((tw_move (((((tw_it (tw_l1 f (nI kz) 128, tw_l3 (tw_l1 g (nI sz) 96) 31) k).1), ((tw_it (tw_l1 f (nI kz) 128, tw_l3 (tw_l1 g (nI sz) 96) 31) k).2)).1), ((((tw_it (tw_l1 f (nI kz) 128, tw_l3 (tw_l1 g (nI sz) 96) 31) k).1), ((tw_it (tw_l1 f (nI kz) 128, tw_l3 (tw_l1 g (nI sz) 96) 31) k).2)).2)) (tw_out (((tw_it (tw_l1 f (nI kz) 128, tw_l3 (tw_l1 g (nI sz) 96) 31) k).1), ((tw_it (tw_l1 f (nI kz) 128, tw_l3 (tw_l1 g (nI sz) 96) 31) k).2)))).2).1), .long (((tw_move (((((tw_it (tw_l1 f (nI kz) 128, tw_l3 (tw_l1 g (nI sz) 96) 31) k).1), ((tw_it (tw_l1 f (nI kz) 128, tw_l3 (tw_l1 g (nI sz) 96) 31) k).2)).1), ((((tw_it (tw_l1 f (nI kz) 128, tw_l3 (tw_l1 g (nI sz) 96) 31) k).1), ((tw_it (tw_l1 f (nI kz) 128, tw_l3 (tw_l1 g (nI sz) 96) 31) k).2)).2)) (tw_out (((tw_it (tw_l1 f (nI kz) 128, tw_l3 (tw_l1 g (nI sz) 96) 31) k).1), ((tw_it (tw_l1 f (nI kz) 128, tw_l3 (tw_l1 g (nI sz) 96) 31) k).2)))).2).2)])), (kb, .inr (0, [.ref kq, .int (nI kz)])), (kq, .inl (kA, kN, .inl f)), (sb, .inr (0, [.ref sq, .int (nI sz)])), (sq, .inl (sA, sN, .inl g))]) ⟨hx, hb, hml, hown, hts⟩ (c_tw_move l D h0 r1 r2 (((((tw_it (tw_l1 f (nI kz) 128, tw_l3 (tw_l1 g (nI sz) 96) 31) k).1), ((tw_it (tw_l1 f (nI kz) 128, tw_l3 (tw_l1 g (nI sz) 96) 31) k).2)).1), ((((tw_it (tw_l1 f (nI kz) 128, tw_l3 (tw_l1 g (nI sz) 96) 31) k).1), ((tw_it (tw_l1 f (nI kz) 128, tw_l3 (tw_l1 g (nI sz) 96) 31) k).2)).2)) (tw_out (((tw_it (tw_l1 f (nI kz) 128, tw_l3 (tw_l1 g (nI sz) 96) 31) k).1), ((tw_it (tw_l1 f (nI kz) 128, tw_l3 (tw_l1 g (nI sz) 96) 31) k).2)))) cw_X6_move [] rfl [0, 1, 2] [3, 4, 5, 6] [4, 5, 6, 0, 1, 2, 3] hK hP hD hS hA 0 5 rfl rfl rfl rfl (by decide) rfl (by decide) (by decide) rfl (by decide) rfl hl.1 rfl (Nat.le_of_ble_eq_true rfl) dX6_load_107 ⟨Nat.zero_le _, Nat.zero_le _⟩ (fun H locs hP hD hS => ?_)
          refine lv_iinc (v := nI (k + 1)) (lv' := [(3, .int (nI (k + 1))), (0, .ref h0), (1, .ref kb), (2, .ref sb)]) hx hb dX6_load_110 hl (k := 0) rfl (ct_inc k) (by decide) rfl (fun ls hl => ?_)
          refine lv_goto (tgt := 95) hx hb dX6_load_113 (by decide) ?_
          exact ih95 H locs ls hP hD hS (lv_sub hl [0, 1, 2, 3] rfl)
        · intro H locs ls hP hD hS hl
          have hP : va_P D vwCl [(h0, .inr (5, [.ref r1, .ref r2])), (r1, .inr (1, [.long (((tw_it (tw_l1 f (nI kz) 128, tw_l3 (tw_l1 g (nI sz) 96) 31) 256).1).1), .long (((tw_it (tw_l1 f (nI kz) 128, tw_l3 (tw_l1 g (nI sz) 96) 31) 256).1).2)])), (r2, .inr (1, [.long (((tw_it (tw_l1 f (nI kz) 128, tw_l3 (tw_l1 g (nI sz) 96) 31) 256).2).1), .long (((tw_it (tw_l1 f (nI kz) 128, tw_l3 (tw_l1 g (nI sz) 96) 31) 256).2).2)])), (kb, .inr (0, [.ref kq, .int (nI kz)])), (kq, .inl (kA, kN, .inl f)), (sb, .inr (0, [.ref sq, .int (nI sz)])), (sq, .inl (sA, sN, .inl g))] H := hP
          have hD : va_D A [(h0, .inr (5, [.ref r1, .ref r2])), (r1, .inr (1, [.long (((tw_it (tw_l1 f (nI kz) 128, tw_l3 (tw_l1 g (nI sz) 96) 31) 256).1).1), .long (((tw_it (tw_l1 f (nI kz) 128, tw_l3 (tw_l1 g (nI sz) 96) 31) 256).1).2)])), (r2, .inr (1, [.long (((tw_it (tw_l1 f (nI kz) 128, tw_l3 (tw_l1 g (nI sz) 96) 31) 256).2).1), .long (((tw_it (tw_l1 f (nI kz) 128, tw_l3 (tw_l1 g (nI sz) 96) 31) 256).2).2)])), (kb, .inr (0, [.ref kq, .int (nI kz)])), (kq, .inl (kA, kN, .inl f)), (sb, .inr (0, [.ref sq, .int (nI sz)])), (sq, .inl (sA, sN, .inl g))] := hD
          have hl : lv_has ls 4 [(3, .int (nI 256)), (0, .ref h0), (1, .ref kb), (2, .ref sb)] := hl
          refine lv_iload_n hx hb dX6_load_95 rfl (lv_at hl 0 rfl) ?_
          refine lv_sipush (v := 256) hx hb dX6_load_96 (by decide) ?_
          refine lv_icmp_ge (tgt := 116) hx hb dX6_load_99 (by decide) (fun _ => ?_) (fun hh => absurd (Int32.le_refl _) hh)
          exact ct_vret hx hb hr hlk hP hK hD hS dX6_load_116
end
section
/-- machine 2: three registers that stop -/
def ss_gx (r : R2) : R2 := rg_up r (rg_at r 13 ^^^ rg_at r 16 ^^^ rg_at r 17 ^^^ rg_at r 18)
def ss_gy (r : R2) : R2 := rg_up r (rg_at r 20 ^^^ rg_at r 21)
def ss_gz (r : R2) : R2 := rg_up r (rg_at r 7 ^^^ rg_at r 20 ^^^ rg_at r 21 ^^^ rg_at r 22)
def ss_al (σ : R6) : Int32 := if rg_at σ.1 8 + rg_at σ.2.1 10 + rg_at σ.2.2 10 < 2 then 0 else 1
def ss_x (σ : R6) : R2 := if rg_at σ.1 8 = ss_al σ then ss_gx σ.1 else σ.1
def ss_y (σ : R6) : R2 := if rg_at σ.2.1 10 = ss_al σ then ss_gy σ.2.1 else σ.2.1
def ss_z (σ : R6) : R2 := if rg_at σ.2.2 10 = ss_al σ then ss_gz σ.2.2 else σ.2.2
def ss_step (σ : R6) : R6 := (ss_x σ, ss_y σ, ss_z σ)
def ss_out (σ : R6) : Int32 := rg_at (ss_x σ) 18 ^^^ rg_at (ss_y σ) 21 ^^^ rg_at (ss_z σ) 22
def ss_feed (σ : R6) (b : Int32) : R6 := (rg_add (ss_gx σ.1) 0 b, rg_add (ss_gy σ.2.1) 0 b, rg_add (ss_gz σ.2.2) 0 b)
def ss_l1 (f : Nat → Int32) (fz : Int32) : Nat → R6
  | 0 => (rg_0, rg_0, rg_0)
  | k + 1 => ss_feed (ss_l1 f fz k) (by_bit f fz (nI k))
def ss_l2 (σ : R6) (g : Nat → Int32) (gz : Int32) : Nat → R6
  | 0 => σ
  | k + 1 => ss_feed (ss_l2 σ g gz k) (by_bit g gz (nI (2 + k)))
def ss_it (σ : R6) : Nat → R6
  | 0 => σ
  | k + 1 => ss_step (ss_it σ k)
def ss_load (f : Nat → Int32) (fz : Int32) (g : Nat → Int32) (gz : Int32) : R6 := ss_it (ss_l2 (ss_l1 f fz 64) g gz 22) 100
set_option maxHeartbeats 4000000 in
set_option maxRecDepth 100000 in
/-- ThreeThatStop.goX -/
theorem c_goX (l : Launch) (D : va_G) (h0 r1 r2 r3 : Nat) (r : R2) : Ctv l D yX5_goX wsX5_goX ({ frames := 1, cells := 0, slots := 0, locals := 21 } : Room) [.ref h0] [] [(h0, .inr (4, [.ref r1, .ref r2, .ref r3])), (r1, .inr (1, [.long r.1, .long r.2]))] [(h0, .inr (4, [.ref r1, .ref r2, .ref r3])), (r1, .inr (1, [.long ((ss_gx r).1), .long ((ss_gx r).2)]))] := by
  refine ct_of (cc := cX5_goX) (maxL := 1) (ret := none) (by decide) rfl (Nat.le_of_ble_eq_true rfl) ?_
  intro p e s m below meth c A H locs ls hx hb hr hml hts hown hlk hnm hP hK hD hA hS hl
  have hown : s.vm.findClass RX5 = some m.cls := hown
  have hl : lv_has ls 1 [(0, .ref h0)] := hl
  have hf_10 := hts (.fieldLink RX5 10 "BitStreams$ThreeThatStop" "x" "LBitStreams$Cells;") (by decide +kernel)
  have hi_X5 : ∀ w ∈ u_ws RX5 TX5 3, w ∈ wsX5_goX := by decide +kernel
  have cw_X1_at := cwV (R := ({ frames := 1, cells := 0, slots := 0, locals := 21 } : Room)) (rm := ({ frames := 0, cells := 0, slots := 0, locals := 0 } : Room)) 1 hts gX5_goX_X1_at rfl rfl rfl (by decide +kernel) ⟨Nat.le_of_ble_eq_true rfl, Nat.le_of_ble_eq_true rfl⟩
  have cw_X1_moveUp := cwV (R := ({ frames := 1, cells := 0, slots := 0, locals := 21 } : Room)) (rm := ({ frames := 0, cells := 0, slots := 0, locals := 0 } : Room)) 1 hts gX5_goX_X1_moveUp rfl rfl rfl (by decide +kernel) ⟨Nat.le_of_ble_eq_true rfl, Nat.le_of_ble_eq_true rfl⟩
  refine lv_aload_n hx hb dX5_goX_0 rfl (lv_at hl 0 rfl) ?_
  refine va_get (D := D) (ci := 4) (v := .ref r1) (C := RX5) (T := TX5) (N := 3) hx hb hts hi_X5 hown hK hP 0 rfl rfl 0 (by decide) hf_10 (fun _ h9 => h9) rfl dX5_goX_1 ?_
  refine lv_aload_n hx hb dX5_goX_4 rfl (lv_at hl 0 rfl) ?_
  refine va_get (D := D) (ci := 4) (v := .ref r1) (C := RX5) (T := TX5) (N := 3) hx hb hts hi_X5 hown hK hP 0 rfl rfl 0 (by decide) hf_10 (fun _ h9 => h9) rfl dX5_goX_5 ?_
  refine lv_bipush (v := 13) hx hb dX5_goX_8 (by decide) ?_
  refine ct_callVi (As := [.int 13]) (rest := [.ref r1]) (wr := [(h0, .inr (4, [.ref r1, .ref r2, .ref r3]))]) (ws2 := [(h0, .inr (4, [.ref r1, .ref r2, .ref r3])), (r1, .inr (1, [.long r.1, .long r.2]))]) ⟨hx, hb, hml, hown, hts⟩ (c_at l D r1 r 13) cw_X1_at [] rfl [1] [0] [0, 1] hK hP hD hS hA 0 1 rfl rfl rfl rfl (by decide) rfl (by decide) (by decide) rfl (by decide) rfl hl.1 rfl (Nat.le_of_ble_eq_true rfl) dX5_goX_10 ⟨Nat.zero_le _, Nat.zero_le _⟩ (fun H locs hP hD hS => ?_)
  refine lv_aload_n hx hb dX5_goX_13 rfl (lv_at hl 0 rfl) ?_
  refine va_get (D := D) (ci := 4) (v := .ref r1) (C := RX5) (T := TX5) (N := 3) hx hb hts hi_X5 hown hK hP 0 rfl rfl 0 (by decide) hf_10 (fun _ h9 => h9) rfl dX5_goX_14 ?_
  refine lv_bipush (v := 16) hx hb dX5_goX_17 (by decide) ?_
  refine ct_callVi (As := [.int 16]) (rest := [.int (rg_at r 13), .ref r1]) (wr := [(h0, .inr (4, [.ref r1, .ref r2, .ref r3]))]) (ws2 := [(h0, .inr (4, [.ref r1, .ref r2, .ref r3])), (r1, .inr (1, [.long r.1, .long r.2]))]) ⟨hx, hb, hml, hown, hts⟩ (c_at l D r1 r 16) cw_X1_at [] rfl [1] [0] [0, 1] hK hP hD hS hA 0 1 rfl rfl rfl rfl (by decide) rfl (by decide) (by decide) rfl (by decide) rfl hl.1 rfl (Nat.le_of_ble_eq_true rfl) dX5_goX_19 ⟨Nat.zero_le _, Nat.zero_le _⟩ (fun H locs hP hD hS => ?_)
  refine lv_ixor hx hb dX5_goX_22 ?_
  refine lv_aload_n hx hb dX5_goX_23 rfl (lv_at hl 0 rfl) ?_
  refine va_get (D := D) (ci := 4) (v := .ref r1) (C := RX5) (T := TX5) (N := 3) hx hb hts hi_X5 hown hK hP 0 rfl rfl 0 (by decide) hf_10 (fun _ h9 => h9) rfl dX5_goX_24 ?_
  refine lv_bipush (v := 17) hx hb dX5_goX_27 (by decide) ?_
  refine ct_callVi (As := [.int 17]) (rest := [.int ((rg_at r 13) ^^^ (rg_at r 16)), .ref r1]) (wr := [(h0, .inr (4, [.ref r1, .ref r2, .ref r3]))]) (ws2 := [(h0, .inr (4, [.ref r1, .ref r2, .ref r3])), (r1, .inr (1, [.long r.1, .long r.2]))]) ⟨hx, hb, hml, hown, hts⟩ (c_at l D r1 r 17) cw_X1_at [] rfl [1] [0] [0, 1] hK hP hD hS hA 0 1 rfl rfl rfl rfl (by decide) rfl (by decide) (by decide) rfl (by decide) rfl hl.1 rfl (Nat.le_of_ble_eq_true rfl) dX5_goX_29 ⟨Nat.zero_le _, Nat.zero_le _⟩ (fun H locs hP hD hS => ?_)
  refine lv_ixor hx hb dX5_goX_32 ?_
  refine lv_aload_n hx hb dX5_goX_33 rfl (lv_at hl 0 rfl) ?_
  refine va_get (D := D) (ci := 4) (v := .ref r1) (C := RX5) (T := TX5) (N := 3) hx hb hts hi_X5 hown hK hP 0 rfl rfl 0 (by decide) hf_10 (fun _ h9 => h9) rfl dX5_goX_34 ?_
  refine lv_bipush (v := 18) hx hb dX5_goX_37 (by decide) ?_
  refine ct_callVi (As := [.int 18]) (rest := [.int (((rg_at r 13) ^^^ (rg_at r 16)) ^^^ (rg_at r 17)), .ref r1]) (wr := [(h0, .inr (4, [.ref r1, .ref r2, .ref r3]))]) (ws2 := [(h0, .inr (4, [.ref r1, .ref r2, .ref r3])), (r1, .inr (1, [.long r.1, .long r.2]))]) ⟨hx, hb, hml, hown, hts⟩ (c_at l D r1 r 18) cw_X1_at [] rfl [1] [0] [0, 1] hK hP hD hS hA 0 1 rfl rfl rfl rfl (by decide) rfl (by decide) (by decide) rfl (by decide) rfl hl.1 rfl (Nat.le_of_ble_eq_true rfl) dX5_goX_39 ⟨Nat.zero_le _, Nat.zero_le _⟩ (fun H locs hP hD hS => ?_)
  refine lv_ixor hx hb dX5_goX_42 ?_
  refine ct_callVv (As := [.int ((((rg_at r 13) ^^^ (rg_at r 16)) ^^^ (rg_at r 17)) ^^^ (rg_at r 18))]) (rest := []) (wr := [(h0, .inr (4, [.ref r1, .ref r2, .ref r3]))]) (ws2 := [(h0, .inr (4, [.ref r1, .ref r2, .ref r3])), (r1, .inr (1, [.long ((rg_up r ((((rg_at r 13) ^^^ (rg_at r 16)) ^^^ (rg_at r 17)) ^^^ (rg_at r 18))).1), .long ((rg_up r ((((rg_at r 13) ^^^ (rg_at r 16)) ^^^ (rg_at r 17)) ^^^ (rg_at r 18))).2)]))]) ⟨hx, hb, hml, hown, hts⟩ (c_up l D r1 r ((((rg_at r 13) ^^^ (rg_at r 16)) ^^^ (rg_at r 17)) ^^^ (rg_at r 18))) cw_X1_moveUp [] rfl [1] [0] [0, 1] hK hP hD hS hA 0 1 rfl rfl rfl rfl (by decide) rfl (by decide) (by decide) rfl (by decide) rfl hl.1 rfl (Nat.le_of_ble_eq_true rfl) dX5_goX_43 ⟨Nat.zero_le _, Nat.zero_le _⟩ (fun H locs hP hD hS => ?_)
  exact ct_vret hx hb hr hlk hP hK hD hS dX5_goX_46
set_option maxHeartbeats 4000000 in
set_option maxRecDepth 100000 in
/-- ThreeThatStop.goY -/
theorem c_goY (l : Launch) (D : va_G) (h0 r1 r2 r3 : Nat) (r : R2) : Ctv l D yX5_goY wsX5_goY ({ frames := 1, cells := 0, slots := 0, locals := 21 } : Room) [.ref h0] [] [(h0, .inr (4, [.ref r1, .ref r2, .ref r3])), (r2, .inr (1, [.long r.1, .long r.2]))] [(h0, .inr (4, [.ref r1, .ref r2, .ref r3])), (r2, .inr (1, [.long ((ss_gy r).1), .long ((ss_gy r).2)]))] := by
  refine ct_of (cc := cX5_goY) (maxL := 1) (ret := none) (by decide) rfl (Nat.le_of_ble_eq_true rfl) ?_
  intro p e s m below meth c A H locs ls hx hb hr hml hts hown hlk hnm hP hK hD hA hS hl
  have hown : s.vm.findClass RX5 = some m.cls := hown
  have hl : lv_has ls 1 [(0, .ref h0)] := hl
  have hf_16 := hts (.fieldLink RX5 16 "BitStreams$ThreeThatStop" "y" "LBitStreams$Cells;") (by decide +kernel)
  have hi_X5 : ∀ w ∈ u_ws RX5 TX5 3, w ∈ wsX5_goY := by decide +kernel
  have cw_X1_at := cwV (R := ({ frames := 1, cells := 0, slots := 0, locals := 21 } : Room)) (rm := ({ frames := 0, cells := 0, slots := 0, locals := 0 } : Room)) 1 hts gX5_goY_X1_at rfl rfl rfl (by decide +kernel) ⟨Nat.le_of_ble_eq_true rfl, Nat.le_of_ble_eq_true rfl⟩
  have cw_X1_moveUp := cwV (R := ({ frames := 1, cells := 0, slots := 0, locals := 21 } : Room)) (rm := ({ frames := 0, cells := 0, slots := 0, locals := 0 } : Room)) 1 hts gX5_goY_X1_moveUp rfl rfl rfl (by decide +kernel) ⟨Nat.le_of_ble_eq_true rfl, Nat.le_of_ble_eq_true rfl⟩
  refine lv_aload_n hx hb dX5_goY_0 rfl (lv_at hl 0 rfl) ?_
  refine va_get (D := D) (ci := 4) (v := .ref r2) (C := RX5) (T := TX5) (N := 3) hx hb hts hi_X5 hown hK hP 0 rfl rfl 1 (by decide) hf_16 (fun _ h9 => h9) rfl dX5_goY_1 ?_
  refine lv_aload_n hx hb dX5_goY_4 rfl (lv_at hl 0 rfl) ?_
  refine va_get (D := D) (ci := 4) (v := .ref r2) (C := RX5) (T := TX5) (N := 3) hx hb hts hi_X5 hown hK hP 0 rfl rfl 1 (by decide) hf_16 (fun _ h9 => h9) rfl dX5_goY_5 ?_
  refine lv_bipush (v := 20) hx hb dX5_goY_8 (by decide) ?_
  refine ct_callVi (As := [.int 20]) (rest := [.ref r2]) (wr := [(h0, .inr (4, [.ref r1, .ref r2, .ref r3]))]) (ws2 := [(h0, .inr (4, [.ref r1, .ref r2, .ref r3])), (r2, .inr (1, [.long r.1, .long r.2]))]) ⟨hx, hb, hml, hown, hts⟩ (c_at l D r2 r 20) cw_X1_at [] rfl [1] [0] [0, 1] hK hP hD hS hA 0 1 rfl rfl rfl rfl (by decide) rfl (by decide) (by decide) rfl (by decide) rfl hl.1 rfl (Nat.le_of_ble_eq_true rfl) dX5_goY_10 ⟨Nat.zero_le _, Nat.zero_le _⟩ (fun H locs hP hD hS => ?_)
  refine lv_aload_n hx hb dX5_goY_13 rfl (lv_at hl 0 rfl) ?_
  refine va_get (D := D) (ci := 4) (v := .ref r2) (C := RX5) (T := TX5) (N := 3) hx hb hts hi_X5 hown hK hP 0 rfl rfl 1 (by decide) hf_16 (fun _ h9 => h9) rfl dX5_goY_14 ?_
  refine lv_bipush (v := 21) hx hb dX5_goY_17 (by decide) ?_
  refine ct_callVi (As := [.int 21]) (rest := [.int (rg_at r 20), .ref r2]) (wr := [(h0, .inr (4, [.ref r1, .ref r2, .ref r3]))]) (ws2 := [(h0, .inr (4, [.ref r1, .ref r2, .ref r3])), (r2, .inr (1, [.long r.1, .long r.2]))]) ⟨hx, hb, hml, hown, hts⟩ (c_at l D r2 r 21) cw_X1_at [] rfl [1] [0] [0, 1] hK hP hD hS hA 0 1 rfl rfl rfl rfl (by decide) rfl (by decide) (by decide) rfl (by decide) rfl hl.1 rfl (Nat.le_of_ble_eq_true rfl) dX5_goY_19 ⟨Nat.zero_le _, Nat.zero_le _⟩ (fun H locs hP hD hS => ?_)
  refine lv_ixor hx hb dX5_goY_22 ?_
  refine ct_callVv (As := [.int ((rg_at r 20) ^^^ (rg_at r 21))]) (rest := []) (wr := [(h0, .inr (4, [.ref r1, .ref r2, .ref r3]))]) (ws2 := [(h0, .inr (4, [.ref r1, .ref r2, .ref r3])), (r2, .inr (1, [.long ((rg_up r ((rg_at r 20) ^^^ (rg_at r 21))).1), .long ((rg_up r ((rg_at r 20) ^^^ (rg_at r 21))).2)]))]) ⟨hx, hb, hml, hown, hts⟩ (c_up l D r2 r ((rg_at r 20) ^^^ (rg_at r 21))) cw_X1_moveUp [] rfl [1] [0] [0, 1] hK hP hD hS hA 0 1 rfl rfl rfl rfl (by decide) rfl (by decide) (by decide) rfl (by decide) rfl hl.1 rfl (Nat.le_of_ble_eq_true rfl) dX5_goY_23 ⟨Nat.zero_le _, Nat.zero_le _⟩ (fun H locs hP hD hS => ?_)
  exact ct_vret hx hb hr hlk hP hK hD hS dX5_goY_26
set_option maxHeartbeats 4000000 in
set_option maxRecDepth 100000 in
/-- ThreeThatStop.goZ -/
theorem c_goZ (l : Launch) (D : va_G) (h0 r1 r2 r3 : Nat) (r : R2) : Ctv l D yX5_goZ wsX5_goZ ({ frames := 1, cells := 0, slots := 0, locals := 21 } : Room) [.ref h0] [] [(h0, .inr (4, [.ref r1, .ref r2, .ref r3])), (r3, .inr (1, [.long r.1, .long r.2]))] [(h0, .inr (4, [.ref r1, .ref r2, .ref r3])), (r3, .inr (1, [.long ((ss_gz r).1), .long ((ss_gz r).2)]))] := by
  refine ct_of (cc := cX5_goZ) (maxL := 1) (ret := none) (by decide) rfl (Nat.le_of_ble_eq_true rfl) ?_
  intro p e s m below meth c A H locs ls hx hb hr hml hts hown hlk hnm hP hK hD hA hS hl
  have hown : s.vm.findClass RX5 = some m.cls := hown
  have hl : lv_has ls 1 [(0, .ref h0)] := hl
  have hf_19 := hts (.fieldLink RX5 19 "BitStreams$ThreeThatStop" "z" "LBitStreams$Cells;") (by decide +kernel)
  have hi_X5 : ∀ w ∈ u_ws RX5 TX5 3, w ∈ wsX5_goZ := by decide +kernel
  have cw_X1_at := cwV (R := ({ frames := 1, cells := 0, slots := 0, locals := 21 } : Room)) (rm := ({ frames := 0, cells := 0, slots := 0, locals := 0 } : Room)) 1 hts gX5_goZ_X1_at rfl rfl rfl (by decide +kernel) ⟨Nat.le_of_ble_eq_true rfl, Nat.le_of_ble_eq_true rfl⟩
  have cw_X1_moveUp := cwV (R := ({ frames := 1, cells := 0, slots := 0, locals := 21 } : Room)) (rm := ({ frames := 0, cells := 0, slots := 0, locals := 0 } : Room)) 1 hts gX5_goZ_X1_moveUp rfl rfl rfl (by decide +kernel) ⟨Nat.le_of_ble_eq_true rfl, Nat.le_of_ble_eq_true rfl⟩
  refine lv_aload_n hx hb dX5_goZ_0 rfl (lv_at hl 0 rfl) ?_
  refine va_get (D := D) (ci := 4) (v := .ref r3) (C := RX5) (T := TX5) (N := 3) hx hb hts hi_X5 hown hK hP 0 rfl rfl 2 (by decide) hf_19 (fun _ h9 => h9) rfl dX5_goZ_1 ?_
  refine lv_aload_n hx hb dX5_goZ_4 rfl (lv_at hl 0 rfl) ?_
  refine va_get (D := D) (ci := 4) (v := .ref r3) (C := RX5) (T := TX5) (N := 3) hx hb hts hi_X5 hown hK hP 0 rfl rfl 2 (by decide) hf_19 (fun _ h9 => h9) rfl dX5_goZ_5 ?_
  refine lv_bipush (v := 7) hx hb dX5_goZ_8 (by decide) ?_
  refine ct_callVi (As := [.int 7]) (rest := [.ref r3]) (wr := [(h0, .inr (4, [.ref r1, .ref r2, .ref r3]))]) (ws2 := [(h0, .inr (4, [.ref r1, .ref r2, .ref r3])), (r3, .inr (1, [.long r.1, .long r.2]))]) ⟨hx, hb, hml, hown, hts⟩ (c_at l D r3 r 7) cw_X1_at [] rfl [1] [0] [0, 1] hK hP hD hS hA 0 1 rfl rfl rfl rfl (by decide) rfl (by decide) (by decide) rfl (by decide) rfl hl.1 rfl (Nat.le_of_ble_eq_true rfl) dX5_goZ_10 ⟨Nat.zero_le _, Nat.zero_le _⟩ (fun H locs hP hD hS => ?_)
  refine lv_aload_n hx hb dX5_goZ_13 rfl (lv_at hl 0 rfl) ?_
  refine va_get (D := D) (ci := 4) (v := .ref r3) (C := RX5) (T := TX5) (N := 3) hx hb hts hi_X5 hown hK hP 0 rfl rfl 2 (by decide) hf_19 (fun _ h9 => h9) rfl dX5_goZ_14 ?_
  refine lv_bipush (v := 20) hx hb dX5_goZ_17 (by decide) ?_
  refine ct_callVi (As := [.int 20]) (rest := [.int (rg_at r 7), .ref r3]) (wr := [(h0, .inr (4, [.ref r1, .ref r2, .ref r3]))]) (ws2 := [(h0, .inr (4, [.ref r1, .ref r2, .ref r3])), (r3, .inr (1, [.long r.1, .long r.2]))]) ⟨hx, hb, hml, hown, hts⟩ (c_at l D r3 r 20) cw_X1_at [] rfl [1] [0] [0, 1] hK hP hD hS hA 0 1 rfl rfl rfl rfl (by decide) rfl (by decide) (by decide) rfl (by decide) rfl hl.1 rfl (Nat.le_of_ble_eq_true rfl) dX5_goZ_19 ⟨Nat.zero_le _, Nat.zero_le _⟩ (fun H locs hP hD hS => ?_)
  refine lv_ixor hx hb dX5_goZ_22 ?_
  refine lv_aload_n hx hb dX5_goZ_23 rfl (lv_at hl 0 rfl) ?_
  refine va_get (D := D) (ci := 4) (v := .ref r3) (C := RX5) (T := TX5) (N := 3) hx hb hts hi_X5 hown hK hP 0 rfl rfl 2 (by decide) hf_19 (fun _ h9 => h9) rfl dX5_goZ_24 ?_
  refine lv_bipush (v := 21) hx hb dX5_goZ_27 (by decide) ?_
  refine ct_callVi (As := [.int 21]) (rest := [.int ((rg_at r 7) ^^^ (rg_at r 20)), .ref r3]) (wr := [(h0, .inr (4, [.ref r1, .ref r2, .ref r3]))]) (ws2 := [(h0, .inr (4, [.ref r1, .ref r2, .ref r3])), (r3, .inr (1, [.long r.1, .long r.2]))]) ⟨hx, hb, hml, hown, hts⟩ (c_at l D r3 r 21) cw_X1_at [] rfl [1] [0] [0, 1] hK hP hD hS hA 0 1 rfl rfl rfl rfl (by decide) rfl (by decide) (by decide) rfl (by decide) rfl hl.1 rfl (Nat.le_of_ble_eq_true rfl) dX5_goZ_29 ⟨Nat.zero_le _, Nat.zero_le _⟩ (fun H locs hP hD hS => ?_)
  refine lv_ixor hx hb dX5_goZ_32 ?_
  refine lv_aload_n hx hb dX5_goZ_33 rfl (lv_at hl 0 rfl) ?_
  refine va_get (D := D) (ci := 4) (v := .ref r3) (C := RX5) (T := TX5) (N := 3) hx hb hts hi_X5 hown hK hP 0 rfl rfl 2 (by decide) hf_19 (fun _ h9 => h9) rfl dX5_goZ_34 ?_
  refine lv_bipush (v := 22) hx hb dX5_goZ_37 (by decide) ?_
  refine ct_callVi (As := [.int 22]) (rest := [.int (((rg_at r 7) ^^^ (rg_at r 20)) ^^^ (rg_at r 21)), .ref r3]) (wr := [(h0, .inr (4, [.ref r1, .ref r2, .ref r3]))]) (ws2 := [(h0, .inr (4, [.ref r1, .ref r2, .ref r3])), (r3, .inr (1, [.long r.1, .long r.2]))]) ⟨hx, hb, hml, hown, hts⟩ (c_at l D r3 r 22) cw_X1_at [] rfl [1] [0] [0, 1] hK hP hD hS hA 0 1 rfl rfl rfl rfl (by decide) rfl (by decide) (by decide) rfl (by decide) rfl hl.1 rfl (Nat.le_of_ble_eq_true rfl) dX5_goZ_39 ⟨Nat.zero_le _, Nat.zero_le _⟩ (fun H locs hP hD hS => ?_)
  refine lv_ixor hx hb dX5_goZ_42 ?_
  refine ct_callVv (As := [.int ((((rg_at r 7) ^^^ (rg_at r 20)) ^^^ (rg_at r 21)) ^^^ (rg_at r 22))]) (rest := []) (wr := [(h0, .inr (4, [.ref r1, .ref r2, .ref r3]))]) (ws2 := [(h0, .inr (4, [.ref r1, .ref r2, .ref r3])), (r3, .inr (1, [.long ((rg_up r ((((rg_at r 7) ^^^ (rg_at r 20)) ^^^ (rg_at r 21)) ^^^ (rg_at r 22))).1), .long ((rg_up r ((((rg_at r 7) ^^^ (rg_at r 20)) ^^^ (rg_at r 21)) ^^^ (rg_at r 22))).2)]))]) ⟨hx, hb, hml, hown, hts⟩ (c_up l D r3 r ((((rg_at r 7) ^^^ (rg_at r 20)) ^^^ (rg_at r 21)) ^^^ (rg_at r 22))) cw_X1_moveUp [] rfl [1] [0] [0, 1] hK hP hD hS hA 0 1 rfl rfl rfl rfl (by decide) rfl (by decide) (by decide) rfl (by decide) rfl hl.1 rfl (Nat.le_of_ble_eq_true rfl) dX5_goZ_43 ⟨Nat.zero_le _, Nat.zero_le _⟩ (fun H locs hP hD hS => ?_)
  exact ct_vret hx hb hr hlk hP hK hD hS dX5_goZ_46
set_option maxHeartbeats 4000000 in
set_option maxRecDepth 100000 in
/-- ThreeThatStop.feed -/
theorem c_ss_feed (l : Launch) (D : va_G) (h0 r1 r2 r3 : Nat) (σ : R6) (b : Int32) : Ctv l D yX5_feed wsX5_feed ({ frames := 2, cells := 0, slots := 0, locals := 41 } : Room) [.ref h0, .int b] [] [(h0, .inr (4, [.ref r1, .ref r2, .ref r3])), (r1, .inr (1, [.long σ.1.1, .long σ.1.2])), (r2, .inr (1, [.long σ.2.1.1, .long σ.2.1.2])), (r3, .inr (1, [.long σ.2.2.1, .long σ.2.2.2]))] [(h0, .inr (4, [.ref r1, .ref r2, .ref r3])), (r1, .inr (1, [.long (((ss_feed σ b).1).1), .long (((ss_feed σ b).1).2)])), (r2, .inr (1, [.long (((ss_feed σ b).2.1).1), .long (((ss_feed σ b).2.1).2)])), (r3, .inr (1, [.long (((ss_feed σ b).2.2).1), .long (((ss_feed σ b).2.2).2)]))] := by
  refine ct_of (cc := cX5_feed) (maxL := 2) (ret := none) (by decide) rfl (Nat.le_of_ble_eq_true rfl) ?_
  intro p e s m below meth c A H locs ls hx hb hr hml hts hown hlk hnm hP hK hD hA hS hl
  have hown : s.vm.findClass RX5 = some m.cls := hown
  have hl : lv_has ls 2 [(0, .ref h0), (1, .int b)] := hl
  have cw_X5_goX := cwV (R := ({ frames := 2, cells := 0, slots := 0, locals := 41 } : Room)) (rm := ({ frames := 1, cells := 0, slots := 0, locals := 21 } : Room)) 0 hts gX5_feed_X5_goX rfl rfl rfl (by decide +kernel) ⟨Nat.le_of_ble_eq_true rfl, Nat.le_of_ble_eq_true rfl⟩
  have cw_X5_goY := cwV (R := ({ frames := 2, cells := 0, slots := 0, locals := 41 } : Room)) (rm := ({ frames := 1, cells := 0, slots := 0, locals := 21 } : Room)) 0 hts gX5_feed_X5_goY rfl rfl rfl (by decide +kernel) ⟨Nat.le_of_ble_eq_true rfl, Nat.le_of_ble_eq_true rfl⟩
  have cw_X5_goZ := cwV (R := ({ frames := 2, cells := 0, slots := 0, locals := 41 } : Room)) (rm := ({ frames := 1, cells := 0, slots := 0, locals := 21 } : Room)) 0 hts gX5_feed_X5_goZ rfl rfl rfl (by decide +kernel) ⟨Nat.le_of_ble_eq_true rfl, Nat.le_of_ble_eq_true rfl⟩
  have hf_10 := hts (.fieldLink RX5 10 "BitStreams$ThreeThatStop" "x" "LBitStreams$Cells;") (by decide +kernel)
  have hi_X5 : ∀ w ∈ u_ws RX5 TX5 3, w ∈ wsX5_feed := by decide +kernel
  have cw_X1_add := cwV (R := ({ frames := 2, cells := 0, slots := 0, locals := 41 } : Room)) (rm := ({ frames := 0, cells := 0, slots := 0, locals := 0 } : Room)) 2 hts gX5_feed_X1_add rfl rfl rfl (by decide +kernel) ⟨Nat.le_of_ble_eq_true rfl, Nat.le_of_ble_eq_true rfl⟩
  have hf_16 := hts (.fieldLink RX5 16 "BitStreams$ThreeThatStop" "y" "LBitStreams$Cells;") (by decide +kernel)
  have hf_19 := hts (.fieldLink RX5 19 "BitStreams$ThreeThatStop" "z" "LBitStreams$Cells;") (by decide +kernel)
  refine lv_aload_n hx hb dX5_feed_0 rfl (lv_at hl 0 rfl) ?_
  refine ct_callVv (As := []) (rest := []) (wr := [(r2, .inr (1, [.long σ.2.1.1, .long σ.2.1.2])), (r3, .inr (1, [.long σ.2.2.1, .long σ.2.2.2]))]) (ws2 := [(h0, .inr (4, [.ref r1, .ref r2, .ref r3])), (r1, .inr (1, [.long ((ss_gx σ.1).1), .long ((ss_gx σ.1).2)])), (r2, .inr (1, [.long σ.2.1.1, .long σ.2.1.2])), (r3, .inr (1, [.long σ.2.2.1, .long σ.2.2.2]))]) ⟨hx, hb, hml, hown, hts⟩ (c_goX l D h0 r1 r2 r3 σ.1) cw_X5_goX [] rfl [0, 1] [2, 3] [2, 3, 0, 1] hK hP hD hS hA 0 4 rfl rfl rfl rfl (by decide) rfl (by decide) (by decide) rfl (by decide) rfl hl.1 rfl (Nat.le_of_ble_eq_true rfl) dX5_feed_1 ⟨Nat.zero_le _, Nat.zero_le _⟩ (fun H locs hP hD hS => ?_)
  refine lv_aload_n hx hb dX5_feed_4 rfl (lv_at hl 0 rfl) ?_
  refine ct_callVv (As := []) (rest := []) (wr := [(r1, .inr (1, [.long ((ss_gx σ.1).1), .long ((ss_gx σ.1).2)])), (r3, .inr (1, [.long σ.2.2.1, .long σ.2.2.2]))]) (ws2 := [(h0, .inr (4, [.ref r1, .ref r2, .ref r3])), (r1, .inr (1, [.long ((ss_gx σ.1).1), .long ((ss_gx σ.1).2)])), (r2, .inr (1, [.long ((ss_gy σ.2.1).1), .long ((ss_gy σ.2.1).2)])), (r3, .inr (1, [.long σ.2.2.1, .long σ.2.2.2]))]) ⟨hx, hb, hml, hown, hts⟩ (c_goY l D h0 r1 r2 r3 σ.2.1) cw_X5_goY [] rfl [0, 2] [1, 3] [2, 0, 3, 1] hK hP hD hS hA 0 4 rfl rfl rfl rfl (by decide) rfl (by decide) (by decide) rfl (by decide) rfl hl.1 rfl (Nat.le_of_ble_eq_true rfl) dX5_feed_5 ⟨Nat.zero_le _, Nat.zero_le _⟩ (fun H locs hP hD hS => ?_)
  refine lv_aload_n hx hb dX5_feed_8 rfl (lv_at hl 0 rfl) ?_
  refine ct_callVv (As := []) (rest := []) (wr := [(r1, .inr (1, [.long ((ss_gx σ.1).1), .long ((ss_gx σ.1).2)])), (r2, .inr (1, [.long ((ss_gy σ.2.1).1), .long ((ss_gy σ.2.1).2)]))]) (ws2 := [(h0, .inr (4, [.ref r1, .ref r2, .ref r3])), (r1, .inr (1, [.long ((ss_gx σ.1).1), .long ((ss_gx σ.1).2)])), (r2, .inr (1, [.long ((ss_gy σ.2.1).1), .long ((ss_gy σ.2.1).2)])), (r3, .inr (1, [.long ((ss_gz σ.2.2).1), .long ((ss_gz σ.2.2).2)]))]) ⟨hx, hb, hml, hown, hts⟩ (c_goZ l D h0 r1 r2 r3 σ.2.2) cw_X5_goZ [] rfl [0, 3] [1, 2] [2, 0, 1, 3] hK hP hD hS hA 0 4 rfl rfl rfl rfl (by decide) rfl (by decide) (by decide) rfl (by decide) rfl hl.1 rfl (Nat.le_of_ble_eq_true rfl) dX5_feed_9 ⟨Nat.zero_le _, Nat.zero_le _⟩ (fun H locs hP hD hS => ?_)
  refine lv_aload_n hx hb dX5_feed_12 rfl (lv_at hl 0 rfl) ?_
  refine va_get (D := D) (ci := 4) (v := .ref r1) (C := RX5) (T := TX5) (N := 3) hx hb hts hi_X5 hown hK hP 0 rfl rfl 0 (by decide) hf_10 (fun _ h9 => h9) rfl dX5_feed_13 ?_
  refine lv_iconst (v := 0) hx hb dX5_feed_16 (by decide) ?_
  refine lv_iload_n hx hb dX5_feed_17 rfl (lv_at hl 1 rfl) ?_
  refine ct_callVv (As := [.int 0, .int b]) (rest := []) (wr := [(h0, .inr (4, [.ref r1, .ref r2, .ref r3])), (r2, .inr (1, [.long ((ss_gy σ.2.1).1), .long ((ss_gy σ.2.1).2)])), (r3, .inr (1, [.long ((ss_gz σ.2.2).1), .long ((ss_gz σ.2.2).2)]))]) (ws2 := [(h0, .inr (4, [.ref r1, .ref r2, .ref r3])), (r1, .inr (1, [.long ((rg_add (ss_gx σ.1) 0 b).1), .long ((rg_add (ss_gx σ.1) 0 b).2)])), (r2, .inr (1, [.long ((ss_gy σ.2.1).1), .long ((ss_gy σ.2.1).2)])), (r3, .inr (1, [.long ((ss_gz σ.2.2).1), .long ((ss_gz σ.2.2).2)]))]) ⟨hx, hb, hml, hown, hts⟩ (c_add l D r1 (ss_gx σ.1) 0 b) cw_X1_add [] rfl [1] [0, 2, 3] [0, 3, 1, 2] hK hP hD hS hA 0 1 rfl rfl rfl rfl (by decide) rfl (by decide) (by decide) rfl (by decide) rfl hl.1 rfl (Nat.le_of_ble_eq_true rfl) dX5_feed_18 ⟨Nat.zero_le _, Nat.zero_le _⟩ (fun H locs hP hD hS => ?_)
  refine lv_aload_n hx hb dX5_feed_21 rfl (lv_at hl 0 rfl) ?_
  refine va_get (D := D) (ci := 4) (v := .ref r2) (C := RX5) (T := TX5) (N := 3) hx hb hts hi_X5 hown hK hP 0 rfl rfl 1 (by decide) hf_16 (fun _ h9 => h9) rfl dX5_feed_22 ?_
  refine lv_iconst (v := 0) hx hb dX5_feed_25 (by decide) ?_
  refine lv_iload_n hx hb dX5_feed_26 rfl (lv_at hl 1 rfl) ?_
  refine ct_callVv (As := [.int 0, .int b]) (rest := []) (wr := [(h0, .inr (4, [.ref r1, .ref r2, .ref r3])), (r1, .inr (1, [.long ((rg_add (ss_gx σ.1) 0 b).1), .long ((rg_add (ss_gx σ.1) 0 b).2)])), (r3, .inr (1, [.long ((ss_gz σ.2.2).1), .long ((ss_gz σ.2.2).2)]))]) (ws2 := [(h0, .inr (4, [.ref r1, .ref r2, .ref r3])), (r1, .inr (1, [.long ((rg_add (ss_gx σ.1) 0 b).1), .long ((rg_add (ss_gx σ.1) 0 b).2)])), (r2, .inr (1, [.long ((rg_add (ss_gy σ.2.1) 0 b).1), .long ((rg_add (ss_gy σ.2.1) 0 b).2)])), (r3, .inr (1, [.long ((ss_gz σ.2.2).1), .long ((ss_gz σ.2.2).2)]))]) ⟨hx, hb, hml, hown, hts⟩ (c_add l D r2 (ss_gy σ.2.1) 0 b) cw_X1_add [] rfl [2] [0, 1, 3] [0, 1, 3, 2] hK hP hD hS hA 0 1 rfl rfl rfl rfl (by decide) rfl (by decide) (by decide) rfl (by decide) rfl hl.1 rfl (Nat.le_of_ble_eq_true rfl) dX5_feed_27 ⟨Nat.zero_le _, Nat.zero_le _⟩ (fun H locs hP hD hS => ?_)
  refine lv_aload_n hx hb dX5_feed_30 rfl (lv_at hl 0 rfl) ?_
  refine va_get (D := D) (ci := 4) (v := .ref r3) (C := RX5) (T := TX5) (N := 3) hx hb hts hi_X5 hown hK hP 0 rfl rfl 2 (by decide) hf_19 (fun _ h9 => h9) rfl dX5_feed_31 ?_
  refine lv_iconst (v := 0) hx hb dX5_feed_34 (by decide) ?_
  refine lv_iload_n hx hb dX5_feed_35 rfl (lv_at hl 1 rfl) ?_
  refine ct_callVv (As := [.int 0, .int b]) (rest := []) (wr := [(h0, .inr (4, [.ref r1, .ref r2, .ref r3])), (r1, .inr (1, [.long ((rg_add (ss_gx σ.1) 0 b).1), .long ((rg_add (ss_gx σ.1) 0 b).2)])), (r2, .inr (1, [.long ((rg_add (ss_gy σ.2.1) 0 b).1), .long ((rg_add (ss_gy σ.2.1) 0 b).2)]))]) (ws2 := [(h0, .inr (4, [.ref r1, .ref r2, .ref r3])), (r1, .inr (1, [.long ((rg_add (ss_gx σ.1) 0 b).1), .long ((rg_add (ss_gx σ.1) 0 b).2)])), (r2, .inr (1, [.long ((rg_add (ss_gy σ.2.1) 0 b).1), .long ((rg_add (ss_gy σ.2.1) 0 b).2)])), (r3, .inr (1, [.long ((rg_add (ss_gz σ.2.2) 0 b).1), .long ((rg_add (ss_gz σ.2.2) 0 b).2)]))]) ⟨hx, hb, hml, hown, hts⟩ (c_add l D r3 (ss_gz σ.2.2) 0 b) cw_X1_add [] rfl [3] [0, 1, 2] [0, 1, 2, 3] hK hP hD hS hA 0 1 rfl rfl rfl rfl (by decide) rfl (by decide) (by decide) rfl (by decide) rfl hl.1 rfl (Nat.le_of_ble_eq_true rfl) dX5_feed_36 ⟨Nat.zero_le _, Nat.zero_le _⟩ (fun H locs hP hD hS => ?_)
  exact ct_vret hx hb hr hlk hP hK hD hS dX5_feed_39
set_option maxHeartbeats 4000000 in
set_option maxRecDepth 100000 in
/-- ThreeThatStop.nextBit -/
theorem c_ss_next (l : Launch) (D : va_G) (h0 r1 r2 r3 : Nat) (σ : R6) : Cti l D yX5_nextBit wsX5_nextBit ({ frames := 2, cells := 0, slots := 0, locals := 41 } : Room) [.ref h0] [] [(h0, .inr (4, [.ref r1, .ref r2, .ref r3])), (r1, .inr (1, [.long σ.1.1, .long σ.1.2])), (r2, .inr (1, [.long σ.2.1.1, .long σ.2.1.2])), (r3, .inr (1, [.long σ.2.2.1, .long σ.2.2.2]))] [(h0, .inr (4, [.ref r1, .ref r2, .ref r3])), (r1, .inr (1, [.long (((ss_step σ).1).1), .long (((ss_step σ).1).2)])), (r2, .inr (1, [.long (((ss_step σ).2.1).1), .long (((ss_step σ).2.1).2)])), (r3, .inr (1, [.long (((ss_step σ).2.2).1), .long (((ss_step σ).2.2).2)]))] (ss_out σ) := by
  refine ct_of (cc := cX5_nextBit) (maxL := 5) (ret := (some .int)) (by decide) rfl (Nat.le_of_ble_eq_true rfl) ?_
  intro p e s m below meth c A H locs ls hx hb hr hml hts hown hlk hnm hP hK hD hA hS hl
  have hown : s.vm.findClass RX5 = some m.cls := hown
  have hl : lv_has ls 5 [(0, .ref h0)] := hl
  have hf_10 := hts (.fieldLink RX5 10 "BitStreams$ThreeThatStop" "x" "LBitStreams$Cells;") (by decide +kernel)
  have hi_X5 : ∀ w ∈ u_ws RX5 TX5 3, w ∈ wsX5_nextBit := by decide +kernel
  have cw_X1_at := cwV (R := ({ frames := 2, cells := 0, slots := 0, locals := 41 } : Room)) (rm := ({ frames := 0, cells := 0, slots := 0, locals := 0 } : Room)) 1 hts gX5_nextBit_X1_at rfl rfl rfl (by decide +kernel) ⟨Nat.le_of_ble_eq_true rfl, Nat.le_of_ble_eq_true rfl⟩
  have hf_16 := hts (.fieldLink RX5 16 "BitStreams$ThreeThatStop" "y" "LBitStreams$Cells;") (by decide +kernel)
  have hf_19 := hts (.fieldLink RX5 19 "BitStreams$ThreeThatStop" "z" "LBitStreams$Cells;") (by decide +kernel)
  have cw_X5_goZ := cwV (R := ({ frames := 2, cells := 0, slots := 0, locals := 41 } : Room)) (rm := ({ frames := 1, cells := 0, slots := 0, locals := 21 } : Room)) 0 hts gX5_nextBit_X5_goZ rfl rfl rfl (by decide +kernel) ⟨Nat.le_of_ble_eq_true rfl, Nat.le_of_ble_eq_true rfl⟩
  have cw_X5_goY := cwV (R := ({ frames := 2, cells := 0, slots := 0, locals := 41 } : Room)) (rm := ({ frames := 1, cells := 0, slots := 0, locals := 21 } : Room)) 0 hts gX5_nextBit_X5_goY rfl rfl rfl (by decide +kernel) ⟨Nat.le_of_ble_eq_true rfl, Nat.le_of_ble_eq_true rfl⟩
  have cw_X5_goX := cwV (R := ({ frames := 2, cells := 0, slots := 0, locals := 41 } : Room)) (rm := ({ frames := 1, cells := 0, slots := 0, locals := 21 } : Room)) 0 hts gX5_nextBit_X5_goX rfl rfl rfl (by decide +kernel) ⟨Nat.le_of_ble_eq_true rfl, Nat.le_of_ble_eq_true rfl⟩
  refine lv_aload_n hx hb dX5_nextBit_0 rfl (lv_at hl 0 rfl) ?_
  refine va_get (D := D) (ci := 4) (v := .ref r1) (C := RX5) (T := TX5) (N := 3) hx hb hts hi_X5 hown hK hP 0 rfl rfl 0 (by decide) hf_10 (fun _ h9 => h9) rfl dX5_nextBit_1 ?_
  refine lv_bipush (v := 8) hx hb dX5_nextBit_4 (by decide) ?_
  refine ct_callVi (As := [.int 8]) (rest := []) (wr := [(h0, .inr (4, [.ref r1, .ref r2, .ref r3])), (r2, .inr (1, [.long σ.2.1.1, .long σ.2.1.2])), (r3, .inr (1, [.long σ.2.2.1, .long σ.2.2.2]))]) (ws2 := [(h0, .inr (4, [.ref r1, .ref r2, .ref r3])), (r1, .inr (1, [.long σ.1.1, .long σ.1.2])), (r2, .inr (1, [.long σ.2.1.1, .long σ.2.1.2])), (r3, .inr (1, [.long σ.2.2.1, .long σ.2.2.2]))]) ⟨hx, hb, hml, hown, hts⟩ (c_at l D r1 σ.1 8) cw_X1_at [] rfl [1] [0, 2, 3] [0, 3, 1, 2] hK hP hD hS hA 0 1 rfl rfl rfl rfl (by decide) rfl (by decide) (by decide) rfl (by decide) rfl hl.1 rfl (Nat.le_of_ble_eq_true rfl) dX5_nextBit_6 ⟨Nat.zero_le _, Nat.zero_le _⟩ (fun H locs hP hD hS => ?_)
  refine lv_istore_n (lv' := [(1, .int (rg_at σ.1 8)), (0, .ref h0)]) hx hb dX5_nextBit_9 rfl hl (by decide) rfl (fun ls hl => ?_)
  refine lv_aload_n hx hb dX5_nextBit_10 rfl (lv_at hl 1 rfl) ?_
  refine va_get (D := D) (ci := 4) (v := .ref r2) (C := RX5) (T := TX5) (N := 3) hx hb hts hi_X5 hown hK hP 0 rfl rfl 1 (by decide) hf_16 (fun _ h9 => h9) rfl dX5_nextBit_11 ?_
  refine lv_bipush (v := 10) hx hb dX5_nextBit_14 (by decide) ?_
  refine ct_callVi (As := [.int 10]) (rest := []) (wr := [(h0, .inr (4, [.ref r1, .ref r2, .ref r3])), (r1, .inr (1, [.long σ.1.1, .long σ.1.2])), (r3, .inr (1, [.long σ.2.2.1, .long σ.2.2.2]))]) (ws2 := [(h0, .inr (4, [.ref r1, .ref r2, .ref r3])), (r1, .inr (1, [.long σ.1.1, .long σ.1.2])), (r2, .inr (1, [.long σ.2.1.1, .long σ.2.1.2])), (r3, .inr (1, [.long σ.2.2.1, .long σ.2.2.2]))]) ⟨hx, hb, hml, hown, hts⟩ (c_at l D r2 σ.2.1 10) cw_X1_at [] rfl [2] [0, 1, 3] [0, 1, 3, 2] hK hP hD hS hA 0 1 rfl rfl rfl rfl (by decide) rfl (by decide) (by decide) rfl (by decide) rfl hl.1 rfl (Nat.le_of_ble_eq_true rfl) dX5_nextBit_16 ⟨Nat.zero_le _, Nat.zero_le _⟩ (fun H locs hP hD hS => ?_)
  refine lv_istore_n (lv' := [(2, .int (rg_at σ.2.1 10)), (1, .int (rg_at σ.1 8)), (0, .ref h0)]) hx hb dX5_nextBit_19 rfl hl (by decide) rfl (fun ls hl => ?_)
  refine lv_aload_n hx hb dX5_nextBit_20 rfl (lv_at hl 2 rfl) ?_
  refine va_get (D := D) (ci := 4) (v := .ref r3) (C := RX5) (T := TX5) (N := 3) hx hb hts hi_X5 hown hK hP 0 rfl rfl 2 (by decide) hf_19 (fun _ h9 => h9) rfl dX5_nextBit_21 ?_
  refine lv_bipush (v := 10) hx hb dX5_nextBit_24 (by decide) ?_
  refine ct_callVi (As := [.int 10]) (rest := []) (wr := [(h0, .inr (4, [.ref r1, .ref r2, .ref r3])), (r1, .inr (1, [.long σ.1.1, .long σ.1.2])), (r2, .inr (1, [.long σ.2.1.1, .long σ.2.1.2]))]) (ws2 := [(h0, .inr (4, [.ref r1, .ref r2, .ref r3])), (r1, .inr (1, [.long σ.1.1, .long σ.1.2])), (r2, .inr (1, [.long σ.2.1.1, .long σ.2.1.2])), (r3, .inr (1, [.long σ.2.2.1, .long σ.2.2.2]))]) ⟨hx, hb, hml, hown, hts⟩ (c_at l D r3 σ.2.2 10) cw_X1_at [] rfl [3] [0, 1, 2] [0, 1, 2, 3] hK hP hD hS hA 0 1 rfl rfl rfl rfl (by decide) rfl (by decide) (by decide) rfl (by decide) rfl hl.1 rfl (Nat.le_of_ble_eq_true rfl) dX5_nextBit_26 ⟨Nat.zero_le _, Nat.zero_le _⟩ (fun H locs hP hD hS => ?_)
  refine lv_istore_n (lv' := [(3, .int (rg_at σ.2.2 10)), (2, .int (rg_at σ.2.1 10)), (1, .int (rg_at σ.1 8)), (0, .ref h0)]) hx hb dX5_nextBit_29 rfl hl (by decide) rfl (fun ls hl => ?_)
  refine lv_iload_n hx hb dX5_nextBit_30 rfl (lv_at hl 2 rfl) ?_
  refine lv_iload_n hx hb dX5_nextBit_31 rfl (lv_at hl 1 rfl) ?_
  refine lv_iadd hx hb dX5_nextBit_32 ?_
  refine lv_iload_n hx hb dX5_nextBit_33 rfl (lv_at hl 0 rfl) ?_
  refine lv_iadd hx hb dX5_nextBit_34 ?_
  refine lv_iconst (v := 2) hx hb dX5_nextBit_35 (by decide) ?_
  refine lv_icmp_lt (tgt := 43) hx hb dX5_nextBit_36 (by decide) (fun c_36_1 => ?_) (fun c_36_1 => ?_)
  · refine lv_iconst (v := 0) hx hb dX5_nextBit_43 (by decide) ?_
    refine ct_topi (y := ss_al σ) (by rw [ss_al, if_pos c_36_1]) ?_
    refine lv_istore (lv' := [(4, .int (ss_al σ)), (3, .int (rg_at σ.2.2 10)), (2, .int (rg_at σ.2.1 10)), (1, .int (rg_at σ.1 8)), (0, .ref h0)]) hx hb dX5_nextBit_44 hl (by decide) rfl (fun ls hl => ?_)
    refine lv_iload_n hx hb dX5_nextBit_46 rfl (lv_at hl 3 rfl) ?_
    refine lv_iload hx hb dX5_nextBit_47 (lv_at hl 0 rfl) ?_
    refine lv_icmp_ne (tgt := 56) hx hb dX5_nextBit_49 (by decide) (fun c_49_2 => ?_) (fun c_49_2 => ?_)
    · have hP : va_P D vwCl [(h0, .inr (4, [.ref r1, .ref r2, .ref r3])), (r1, .inr (1, [.long ((ss_x σ).1), .long ((ss_x σ).2)])), (r2, .inr (1, [.long σ.2.1.1, .long σ.2.1.2])), (r3, .inr (1, [.long σ.2.2.1, .long σ.2.2.2]))] H := by rw [ss_x, if_neg c_49_2]; exact hP
      have hD : va_D A [(h0, .inr (4, [.ref r1, .ref r2, .ref r3])), (r1, .inr (1, [.long ((ss_x σ).1), .long ((ss_x σ).2)])), (r2, .inr (1, [.long σ.2.1.1, .long σ.2.1.2])), (r3, .inr (1, [.long σ.2.2.1, .long σ.2.2.2]))] := by rw [ss_x, if_neg c_49_2]; exact hD
      refine lv_iload_n hx hb dX5_nextBit_56 rfl (lv_at hl 2 rfl) ?_
      refine lv_iload hx hb dX5_nextBit_57 (lv_at hl 0 rfl) ?_
      refine lv_icmp_ne (tgt := 66) hx hb dX5_nextBit_59 (by decide) (fun c_59_3 => ?_) (fun c_59_3 => ?_)
      · have hP : va_P D vwCl [(h0, .inr (4, [.ref r1, .ref r2, .ref r3])), (r1, .inr (1, [.long ((ss_x σ).1), .long ((ss_x σ).2)])), (r2, .inr (1, [.long ((ss_y σ).1), .long ((ss_y σ).2)])), (r3, .inr (1, [.long σ.2.2.1, .long σ.2.2.2]))] H := by rw [ss_y, if_neg c_59_3]; exact hP
        have hD : va_D A [(h0, .inr (4, [.ref r1, .ref r2, .ref r3])), (r1, .inr (1, [.long ((ss_x σ).1), .long ((ss_x σ).2)])), (r2, .inr (1, [.long ((ss_y σ).1), .long ((ss_y σ).2)])), (r3, .inr (1, [.long σ.2.2.1, .long σ.2.2.2]))] := by rw [ss_y, if_neg c_59_3]; exact hD
        refine lv_iload_n hx hb dX5_nextBit_66 rfl (lv_at hl 1 rfl) ?_
        refine lv_iload hx hb dX5_nextBit_67 (lv_at hl 0 rfl) ?_
        refine lv_icmp_ne (tgt := 76) hx hb dX5_nextBit_69 (by decide) (fun c_69_4 => ?_) (fun c_69_4 => ?_)
        · have hP : va_P D vwCl [(h0, .inr (4, [.ref r1, .ref r2, .ref r3])), (r1, .inr (1, [.long ((ss_x σ).1), .long ((ss_x σ).2)])), (r2, .inr (1, [.long ((ss_y σ).1), .long ((ss_y σ).2)])), (r3, .inr (1, [.long ((ss_z σ).1), .long ((ss_z σ).2)]))] H := by rw [ss_z, if_neg c_69_4]; exact hP
          have hD : va_D A [(h0, .inr (4, [.ref r1, .ref r2, .ref r3])), (r1, .inr (1, [.long ((ss_x σ).1), .long ((ss_x σ).2)])), (r2, .inr (1, [.long ((ss_y σ).1), .long ((ss_y σ).2)])), (r3, .inr (1, [.long ((ss_z σ).1), .long ((ss_z σ).2)]))] := by rw [ss_z, if_neg c_69_4]; exact hD
          refine lv_aload_n hx hb dX5_nextBit_76 rfl (lv_at hl 4 rfl) ?_
          refine va_get (D := D) (ci := 4) (v := .ref r1) (C := RX5) (T := TX5) (N := 3) hx hb hts hi_X5 hown hK hP 0 rfl rfl 0 (by decide) hf_10 (fun _ h9 => h9) rfl dX5_nextBit_77 ?_
          refine lv_bipush (v := 18) hx hb dX5_nextBit_80 (by decide) ?_
          refine ct_callVi (As := [.int 18]) (rest := []) (wr := [(h0, .inr (4, [.ref r1, .ref r2, .ref r3])), (r2, .inr (1, [.long ((ss_y σ).1), .long ((ss_y σ).2)])), (r3, .inr (1, [.long ((ss_z σ).1), .long ((ss_z σ).2)]))]) (ws2 := [(h0, .inr (4, [.ref r1, .ref r2, .ref r3])), (r1, .inr (1, [.long ((ss_x σ).1), .long ((ss_x σ).2)])), (r2, .inr (1, [.long ((ss_y σ).1), .long ((ss_y σ).2)])), (r3, .inr (1, [.long ((ss_z σ).1), .long ((ss_z σ).2)]))]) ⟨hx, hb, hml, hown, hts⟩ (c_at l D r1 (ss_x σ) 18) cw_X1_at [] rfl [1] [0, 2, 3] [0, 3, 1, 2] hK hP hD hS hA 0 1 rfl rfl rfl rfl (by decide) rfl (by decide) (by decide) rfl (by decide) rfl hl.1 rfl (Nat.le_of_ble_eq_true rfl) dX5_nextBit_82 ⟨Nat.zero_le _, Nat.zero_le _⟩ (fun H locs hP hD hS => ?_)
          refine lv_aload_n hx hb dX5_nextBit_85 rfl (lv_at hl 4 rfl) ?_
          refine va_get (D := D) (ci := 4) (v := .ref r2) (C := RX5) (T := TX5) (N := 3) hx hb hts hi_X5 hown hK hP 0 rfl rfl 1 (by decide) hf_16 (fun _ h9 => h9) rfl dX5_nextBit_86 ?_
          refine lv_bipush (v := 21) hx hb dX5_nextBit_89 (by decide) ?_
          refine ct_callVi (As := [.int 21]) (rest := [.int (rg_at (ss_x σ) 18)]) (wr := [(h0, .inr (4, [.ref r1, .ref r2, .ref r3])), (r1, .inr (1, [.long ((ss_x σ).1), .long ((ss_x σ).2)])), (r3, .inr (1, [.long ((ss_z σ).1), .long ((ss_z σ).2)]))]) (ws2 := [(h0, .inr (4, [.ref r1, .ref r2, .ref r3])), (r1, .inr (1, [.long ((ss_x σ).1), .long ((ss_x σ).2)])), (r2, .inr (1, [.long ((ss_y σ).1), .long ((ss_y σ).2)])), (r3, .inr (1, [.long ((ss_z σ).1), .long ((ss_z σ).2)]))]) ⟨hx, hb, hml, hown, hts⟩ (c_at l D r2 (ss_y σ) 21) cw_X1_at [] rfl [2] [0, 1, 3] [0, 1, 3, 2] hK hP hD hS hA 0 1 rfl rfl rfl rfl (by decide) rfl (by decide) (by decide) rfl (by decide) rfl hl.1 rfl (Nat.le_of_ble_eq_true rfl) dX5_nextBit_91 ⟨Nat.zero_le _, Nat.zero_le _⟩ (fun H locs hP hD hS => ?_)
          refine lv_ixor hx hb dX5_nextBit_94 ?_
          refine lv_aload_n hx hb dX5_nextBit_95 rfl (lv_at hl 4 rfl) ?_
          refine va_get (D := D) (ci := 4) (v := .ref r3) (C := RX5) (T := TX5) (N := 3) hx hb hts hi_X5 hown hK hP 0 rfl rfl 2 (by decide) hf_19 (fun _ h9 => h9) rfl dX5_nextBit_96 ?_
          refine lv_bipush (v := 22) hx hb dX5_nextBit_99 (by decide) ?_
          refine ct_callVi (As := [.int 22]) (rest := [.int ((rg_at (ss_x σ) 18) ^^^ (rg_at (ss_y σ) 21))]) (wr := [(h0, .inr (4, [.ref r1, .ref r2, .ref r3])), (r1, .inr (1, [.long ((ss_x σ).1), .long ((ss_x σ).2)])), (r2, .inr (1, [.long ((ss_y σ).1), .long ((ss_y σ).2)]))]) (ws2 := [(h0, .inr (4, [.ref r1, .ref r2, .ref r3])), (r1, .inr (1, [.long ((ss_x σ).1), .long ((ss_x σ).2)])), (r2, .inr (1, [.long ((ss_y σ).1), .long ((ss_y σ).2)])), (r3, .inr (1, [.long ((ss_z σ).1), .long ((ss_z σ).2)]))]) ⟨hx, hb, hml, hown, hts⟩ (c_at l D r3 (ss_z σ) 22) cw_X1_at [] rfl [3] [0, 1, 2] [0, 1, 2, 3] hK hP hD hS hA 0 1 rfl rfl rfl rfl (by decide) rfl (by decide) (by decide) rfl (by decide) rfl hl.1 rfl (Nat.le_of_ble_eq_true rfl) dX5_nextBit_101 ⟨Nat.zero_le _, Nat.zero_le _⟩ (fun H locs hP hD hS => ?_)
          refine lv_ixor hx hb dX5_nextBit_104 ?_
          exact ct_zret hx hb hr hlk hP hK hD hS rfl rfl dX5_nextBit_105
        · refine lv_aload_n hx hb dX5_nextBit_72 rfl (lv_at hl 4 rfl) ?_
          refine ct_callVv (As := []) (rest := []) (wr := [(r1, .inr (1, [.long ((ss_x σ).1), .long ((ss_x σ).2)])), (r2, .inr (1, [.long ((ss_y σ).1), .long ((ss_y σ).2)]))]) (ws2 := [(h0, .inr (4, [.ref r1, .ref r2, .ref r3])), (r1, .inr (1, [.long ((ss_x σ).1), .long ((ss_x σ).2)])), (r2, .inr (1, [.long ((ss_y σ).1), .long ((ss_y σ).2)])), (r3, .inr (1, [.long ((ss_gz σ.2.2).1), .long ((ss_gz σ.2.2).2)]))]) ⟨hx, hb, hml, hown, hts⟩ (c_goZ l D h0 r1 r2 r3 σ.2.2) cw_X5_goZ [] rfl [0, 3] [1, 2] [2, 0, 1, 3] hK hP hD hS hA 0 4 rfl rfl rfl rfl (by decide) rfl (by decide) (by decide) rfl (by decide) rfl hl.1 rfl (Nat.le_of_ble_eq_true rfl) dX5_nextBit_73 ⟨Nat.zero_le _, Nat.zero_le _⟩ (fun H locs hP hD hS => ?_)
          have hP : va_P D vwCl [(h0, .inr (4, [.ref r1, .ref r2, .ref r3])), (r1, .inr (1, [.long ((ss_x σ).1), .long ((ss_x σ).2)])), (r2, .inr (1, [.long ((ss_y σ).1), .long ((ss_y σ).2)])), (r3, .inr (1, [.long ((ss_z σ).1), .long ((ss_z σ).2)]))] H := by rw [ss_z, if_pos c_69_4]; exact hP
          have hD : va_D A [(h0, .inr (4, [.ref r1, .ref r2, .ref r3])), (r1, .inr (1, [.long ((ss_x σ).1), .long ((ss_x σ).2)])), (r2, .inr (1, [.long ((ss_y σ).1), .long ((ss_y σ).2)])), (r3, .inr (1, [.long ((ss_z σ).1), .long ((ss_z σ).2)]))] := by rw [ss_z, if_pos c_69_4]; exact hD
          refine lv_aload_n hx hb dX5_nextBit_76 rfl (lv_at hl 4 rfl) ?_
          refine va_get (D := D) (ci := 4) (v := .ref r1) (C := RX5) (T := TX5) (N := 3) hx hb hts hi_X5 hown hK hP 0 rfl rfl 0 (by decide) hf_10 (fun _ h9 => h9) rfl dX5_nextBit_77 ?_
          refine lv_bipush (v := 18) hx hb dX5_nextBit_80 (by decide) ?_
          refine ct_callVi (As := [.int 18]) (rest := []) (wr := [(h0, .inr (4, [.ref r1, .ref r2, .ref r3])), (r2, .inr (1, [.long ((ss_y σ).1), .long ((ss_y σ).2)])), (r3, .inr (1, [.long ((ss_z σ).1), .long ((ss_z σ).2)]))]) (ws2 := [(h0, .inr (4, [.ref r1, .ref r2, .ref r3])), (r1, .inr (1, [.long ((ss_x σ).1), .long ((ss_x σ).2)])), (r2, .inr (1, [.long ((ss_y σ).1), .long ((ss_y σ).2)])), (r3, .inr (1, [.long ((ss_z σ).1), .long ((ss_z σ).2)]))]) ⟨hx, hb, hml, hown, hts⟩ (c_at l D r1 (ss_x σ) 18) cw_X1_at [] rfl [1] [0, 2, 3] [0, 3, 1, 2] hK hP hD hS hA 0 1 rfl rfl rfl rfl (by decide) rfl (by decide) (by decide) rfl (by decide) rfl hl.1 rfl (Nat.le_of_ble_eq_true rfl) dX5_nextBit_82 ⟨Nat.zero_le _, Nat.zero_le _⟩ (fun H locs hP hD hS => ?_)
          refine lv_aload_n hx hb dX5_nextBit_85 rfl (lv_at hl 4 rfl) ?_
          refine va_get (D := D) (ci := 4) (v := .ref r2) (C := RX5) (T := TX5) (N := 3) hx hb hts hi_X5 hown hK hP 0 rfl rfl 1 (by decide) hf_16 (fun _ h9 => h9) rfl dX5_nextBit_86 ?_
          refine lv_bipush (v := 21) hx hb dX5_nextBit_89 (by decide) ?_
          refine ct_callVi (As := [.int 21]) (rest := [.int (rg_at (ss_x σ) 18)]) (wr := [(h0, .inr (4, [.ref r1, .ref r2, .ref r3])), (r1, .inr (1, [.long ((ss_x σ).1), .long ((ss_x σ).2)])), (r3, .inr (1, [.long ((ss_z σ).1), .long ((ss_z σ).2)]))]) (ws2 := [(h0, .inr (4, [.ref r1, .ref r2, .ref r3])), (r1, .inr (1, [.long ((ss_x σ).1), .long ((ss_x σ).2)])), (r2, .inr (1, [.long ((ss_y σ).1), .long ((ss_y σ).2)])), (r3, .inr (1, [.long ((ss_z σ).1), .long ((ss_z σ).2)]))]) ⟨hx, hb, hml, hown, hts⟩ (c_at l D r2 (ss_y σ) 21) cw_X1_at [] rfl [2] [0, 1, 3] [0, 1, 3, 2] hK hP hD hS hA 0 1 rfl rfl rfl rfl (by decide) rfl (by decide) (by decide) rfl (by decide) rfl hl.1 rfl (Nat.le_of_ble_eq_true rfl) dX5_nextBit_91 ⟨Nat.zero_le _, Nat.zero_le _⟩ (fun H locs hP hD hS => ?_)
          refine lv_ixor hx hb dX5_nextBit_94 ?_
          refine lv_aload_n hx hb dX5_nextBit_95 rfl (lv_at hl 4 rfl) ?_
          refine va_get (D := D) (ci := 4) (v := .ref r3) (C := RX5) (T := TX5) (N := 3) hx hb hts hi_X5 hown hK hP 0 rfl rfl 2 (by decide) hf_19 (fun _ h9 => h9) rfl dX5_nextBit_96 ?_
          refine lv_bipush (v := 22) hx hb dX5_nextBit_99 (by decide) ?_
          refine ct_callVi (As := [.int 22]) (rest := [.int ((rg_at (ss_x σ) 18) ^^^ (rg_at (ss_y σ) 21))]) (wr := [(h0, .inr (4, [.ref r1, .ref r2, .ref r3])), (r1, .inr (1, [.long ((ss_x σ).1), .long ((ss_x σ).2)])), (r2, .inr (1, [.long ((ss_y σ).1), .long ((ss_y σ).2)]))]) (ws2 := [(h0, .inr (4, [.ref r1, .ref r2, .ref r3])), (r1, .inr (1, [.long ((ss_x σ).1), .long ((ss_x σ).2)])), (r2, .inr (1, [.long ((ss_y σ).1), .long ((ss_y σ).2)])), (r3, .inr (1, [.long ((ss_z σ).1), .long ((ss_z σ).2)]))]) ⟨hx, hb, hml, hown, hts⟩ (c_at l D r3 (ss_z σ) 22) cw_X1_at [] rfl [3] [0, 1, 2] [0, 1, 2, 3] hK hP hD hS hA 0 1 rfl rfl rfl rfl (by decide) rfl (by decide) (by decide) rfl (by decide) rfl hl.1 rfl (Nat.le_of_ble_eq_true rfl) dX5_nextBit_101 ⟨Nat.zero_le _, Nat.zero_le _⟩ (fun H locs hP hD hS => ?_)
          refine lv_ixor hx hb dX5_nextBit_104 ?_
          exact ct_zret hx hb hr hlk hP hK hD hS rfl rfl dX5_nextBit_105
      · refine lv_aload_n hx hb dX5_nextBit_62 rfl (lv_at hl 4 rfl) ?_
        refine ct_callVv (As := []) (rest := []) (wr := [(r1, .inr (1, [.long ((ss_x σ).1), .long ((ss_x σ).2)])), (r3, .inr (1, [.long σ.2.2.1, .long σ.2.2.2]))]) (ws2 := [(h0, .inr (4, [.ref r1, .ref r2, .ref r3])), (r1, .inr (1, [.long ((ss_x σ).1), .long ((ss_x σ).2)])), (r2, .inr (1, [.long ((ss_gy σ.2.1).1), .long ((ss_gy σ.2.1).2)])), (r3, .inr (1, [.long σ.2.2.1, .long σ.2.2.2]))]) ⟨hx, hb, hml, hown, hts⟩ (c_goY l D h0 r1 r2 r3 σ.2.1) cw_X5_goY [] rfl [0, 2] [1, 3] [2, 0, 3, 1] hK hP hD hS hA 0 4 rfl rfl rfl rfl (by decide) rfl (by decide) (by decide) rfl (by decide) rfl hl.1 rfl (Nat.le_of_ble_eq_true rfl) dX5_nextBit_63 ⟨Nat.zero_le _, Nat.zero_le _⟩ (fun H locs hP hD hS => ?_)
        have hP : va_P D vwCl [(h0, .inr (4, [.ref r1, .ref r2, .ref r3])), (r1, .inr (1, [.long ((ss_x σ).1), .long ((ss_x σ).2)])), (r2, .inr (1, [.long ((ss_y σ).1), .long ((ss_y σ).2)])), (r3, .inr (1, [.long σ.2.2.1, .long σ.2.2.2]))] H := by rw [ss_y, if_pos c_59_3]; exact hP
        have hD : va_D A [(h0, .inr (4, [.ref r1, .ref r2, .ref r3])), (r1, .inr (1, [.long ((ss_x σ).1), .long ((ss_x σ).2)])), (r2, .inr (1, [.long ((ss_y σ).1), .long ((ss_y σ).2)])), (r3, .inr (1, [.long σ.2.2.1, .long σ.2.2.2]))] := by rw [ss_y, if_pos c_59_3]; exact hD
        refine lv_iload_n hx hb dX5_nextBit_66 rfl (lv_at hl 1 rfl) ?_
        refine lv_iload hx hb dX5_nextBit_67 (lv_at hl 0 rfl) ?_
        refine lv_icmp_ne (tgt := 76) hx hb dX5_nextBit_69 (by decide) (fun c_69_5 => ?_) (fun c_69_5 => ?_)
        · have hP : va_P D vwCl [(h0, .inr (4, [.ref r1, .ref r2, .ref r3])), (r1, .inr (1, [.long ((ss_x σ).1), .long ((ss_x σ).2)])), (r2, .inr (1, [.long ((ss_y σ).1), .long ((ss_y σ).2)])), (r3, .inr (1, [.long ((ss_z σ).1), .long ((ss_z σ).2)]))] H := by rw [ss_z, if_neg c_69_5]; exact hP
          have hD : va_D A [(h0, .inr (4, [.ref r1, .ref r2, .ref r3])), (r1, .inr (1, [.long ((ss_x σ).1), .long ((ss_x σ).2)])), (r2, .inr (1, [.long ((ss_y σ).1), .long ((ss_y σ).2)])), (r3, .inr (1, [.long ((ss_z σ).1), .long ((ss_z σ).2)]))] := by rw [ss_z, if_neg c_69_5]; exact hD
          refine lv_aload_n hx hb dX5_nextBit_76 rfl (lv_at hl 4 rfl) ?_
          refine va_get (D := D) (ci := 4) (v := .ref r1) (C := RX5) (T := TX5) (N := 3) hx hb hts hi_X5 hown hK hP 0 rfl rfl 0 (by decide) hf_10 (fun _ h9 => h9) rfl dX5_nextBit_77 ?_
          refine lv_bipush (v := 18) hx hb dX5_nextBit_80 (by decide) ?_
          refine ct_callVi (As := [.int 18]) (rest := []) (wr := [(h0, .inr (4, [.ref r1, .ref r2, .ref r3])), (r2, .inr (1, [.long ((ss_y σ).1), .long ((ss_y σ).2)])), (r3, .inr (1, [.long ((ss_z σ).1), .long ((ss_z σ).2)]))]) (ws2 := [(h0, .inr (4, [.ref r1, .ref r2, .ref r3])), (r1, .inr (1, [.long ((ss_x σ).1), .long ((ss_x σ).2)])), (r2, .inr (1, [.long ((ss_y σ).1), .long ((ss_y σ).2)])), (r3, .inr (1, [.long ((ss_z σ).1), .long ((ss_z σ).2)]))]) ⟨hx, hb, hml, hown, hts⟩ (c_at l D r1 (ss_x σ) 18) cw_X1_at [] rfl [1] [0, 2, 3] [0, 3, 1, 2] hK hP hD hS hA 0 1 rfl rfl rfl rfl (by decide) rfl (by decide) (by decide) rfl (by decide) rfl hl.1 rfl (Nat.le_of_ble_eq_true rfl) dX5_nextBit_82 ⟨Nat.zero_le _, Nat.zero_le _⟩ (fun H locs hP hD hS => ?_)
          refine lv_aload_n hx hb dX5_nextBit_85 rfl (lv_at hl 4 rfl) ?_
          refine va_get (D := D) (ci := 4) (v := .ref r2) (C := RX5) (T := TX5) (N := 3) hx hb hts hi_X5 hown hK hP 0 rfl rfl 1 (by decide) hf_16 (fun _ h9 => h9) rfl dX5_nextBit_86 ?_
          refine lv_bipush (v := 21) hx hb dX5_nextBit_89 (by decide) ?_
          refine ct_callVi (As := [.int 21]) (rest := [.int (rg_at (ss_x σ) 18)]) (wr := [(h0, .inr (4, [.ref r1, .ref r2, .ref r3])), (r1, .inr (1, [.long ((ss_x σ).1), .long ((ss_x σ).2)])), (r3, .inr (1, [.long ((ss_z σ).1), .long ((ss_z σ).2)]))]) (ws2 := [(h0, .inr (4, [.ref r1, .ref r2, .ref r3])), (r1, .inr (1, [.long ((ss_x σ).1), .long ((ss_x σ).2)])), (r2, .inr (1, [.long ((ss_y σ).1), .long ((ss_y σ).2)])), (r3, .inr (1, [.long ((ss_z σ).1), .long ((ss_z σ).2)]))]) ⟨hx, hb, hml, hown, hts⟩ (c_at l D r2 (ss_y σ) 21) cw_X1_at [] rfl [2] [0, 1, 3] [0, 1, 3, 2] hK hP hD hS hA 0 1 rfl rfl rfl rfl (by decide) rfl (by decide) (by decide) rfl (by decide) rfl hl.1 rfl (Nat.le_of_ble_eq_true rfl) dX5_nextBit_91 ⟨Nat.zero_le _, Nat.zero_le _⟩ (fun H locs hP hD hS => ?_)
          refine lv_ixor hx hb dX5_nextBit_94 ?_
          refine lv_aload_n hx hb dX5_nextBit_95 rfl (lv_at hl 4 rfl) ?_
          refine va_get (D := D) (ci := 4) (v := .ref r3) (C := RX5) (T := TX5) (N := 3) hx hb hts hi_X5 hown hK hP 0 rfl rfl 2 (by decide) hf_19 (fun _ h9 => h9) rfl dX5_nextBit_96 ?_
          refine lv_bipush (v := 22) hx hb dX5_nextBit_99 (by decide) ?_
          refine ct_callVi (As := [.int 22]) (rest := [.int ((rg_at (ss_x σ) 18) ^^^ (rg_at (ss_y σ) 21))]) (wr := [(h0, .inr (4, [.ref r1, .ref r2, .ref r3])), (r1, .inr (1, [.long ((ss_x σ).1), .long ((ss_x σ).2)])), (r2, .inr (1, [.long ((ss_y σ).1), .long ((ss_y σ).2)]))]) (ws2 := [(h0, .inr (4, [.ref r1, .ref r2, .ref r3])), (r1, .inr (1, [.long ((ss_x σ).1), .long ((ss_x σ).2)])), (r2, .inr (1, [.long ((ss_y σ).1), .long ((ss_y σ).2)])), (r3, .inr (1, [.long ((ss_z σ).1), .long ((ss_z σ).2)]))]) ⟨hx, hb, hml, hown, hts⟩ (c_at l D r3 (ss_z σ) 22) cw_X1_at [] rfl [3] [0, 1, 2] [0, 1, 2, 3] hK hP hD hS hA 0 1 rfl rfl rfl rfl (by decide) rfl (by decide) (by decide) rfl (by decide) rfl hl.1 rfl (Nat.le_of_ble_eq_true rfl) dX5_nextBit_101 ⟨Nat.zero_le _, Nat.zero_le _⟩ (fun H locs hP hD hS => ?_)
          refine lv_ixor hx hb dX5_nextBit_104 ?_
          exact ct_zret hx hb hr hlk hP hK hD hS rfl rfl dX5_nextBit_105
        · refine lv_aload_n hx hb dX5_nextBit_72 rfl (lv_at hl 4 rfl) ?_
          refine ct_callVv (As := []) (rest := []) (wr := [(r1, .inr (1, [.long ((ss_x σ).1), .long ((ss_x σ).2)])), (r2, .inr (1, [.long ((ss_y σ).1), .long ((ss_y σ).2)]))]) (ws2 := [(h0, .inr (4, [.ref r1, .ref r2, .ref r3])), (r1, .inr (1, [.long ((ss_x σ).1), .long ((ss_x σ).2)])), (r2, .inr (1, [.long ((ss_y σ).1), .long ((ss_y σ).2)])), (r3, .inr (1, [.long ((ss_gz σ.2.2).1), .long ((ss_gz σ.2.2).2)]))]) ⟨hx, hb, hml, hown, hts⟩ (c_goZ l D h0 r1 r2 r3 σ.2.2) cw_X5_goZ [] rfl [0, 3] [1, 2] [2, 0, 1, 3] hK hP hD hS hA 0 4 rfl rfl rfl rfl (by decide) rfl (by decide) (by decide) rfl (by decide) rfl hl.1 rfl (Nat.le_of_ble_eq_true rfl) dX5_nextBit_73 ⟨Nat.zero_le _, Nat.zero_le _⟩ (fun H locs hP hD hS => ?_)
          have hP : va_P D vwCl [(h0, .inr (4, [.ref r1, .ref r2, .ref r3])), (r1, .inr (1, [.long ((ss_x σ).1), .long ((ss_x σ).2)])), (r2, .inr (1, [.long ((ss_y σ).1), .long ((ss_y σ).2)])), (r3, .inr (1, [.long ((ss_z σ).1), .long ((ss_z σ).2)]))] H := by rw [ss_z, if_pos c_69_5]; exact hP
          have hD : va_D A [(h0, .inr (4, [.ref r1, .ref r2, .ref r3])), (r1, .inr (1, [.long ((ss_x σ).1), .long ((ss_x σ).2)])), (r2, .inr (1, [.long ((ss_y σ).1), .long ((ss_y σ).2)])), (r3, .inr (1, [.long ((ss_z σ).1), .long ((ss_z σ).2)]))] := by rw [ss_z, if_pos c_69_5]; exact hD
          refine lv_aload_n hx hb dX5_nextBit_76 rfl (lv_at hl 4 rfl) ?_
          refine va_get (D := D) (ci := 4) (v := .ref r1) (C := RX5) (T := TX5) (N := 3) hx hb hts hi_X5 hown hK hP 0 rfl rfl 0 (by decide) hf_10 (fun _ h9 => h9) rfl dX5_nextBit_77 ?_
          refine lv_bipush (v := 18) hx hb dX5_nextBit_80 (by decide) ?_
          refine ct_callVi (As := [.int 18]) (rest := []) (wr := [(h0, .inr (4, [.ref r1, .ref r2, .ref r3])), (r2, .inr (1, [.long ((ss_y σ).1), .long ((ss_y σ).2)])), (r3, .inr (1, [.long ((ss_z σ).1), .long ((ss_z σ).2)]))]) (ws2 := [(h0, .inr (4, [.ref r1, .ref r2, .ref r3])), (r1, .inr (1, [.long ((ss_x σ).1), .long ((ss_x σ).2)])), (r2, .inr (1, [.long ((ss_y σ).1), .long ((ss_y σ).2)])), (r3, .inr (1, [.long ((ss_z σ).1), .long ((ss_z σ).2)]))]) ⟨hx, hb, hml, hown, hts⟩ (c_at l D r1 (ss_x σ) 18) cw_X1_at [] rfl [1] [0, 2, 3] [0, 3, 1, 2] hK hP hD hS hA 0 1 rfl rfl rfl rfl (by decide) rfl (by decide) (by decide) rfl (by decide) rfl hl.1 rfl (Nat.le_of_ble_eq_true rfl) dX5_nextBit_82 ⟨Nat.zero_le _, Nat.zero_le _⟩ (fun H locs hP hD hS => ?_)
          refine lv_aload_n hx hb dX5_nextBit_85 rfl (lv_at hl 4 rfl) ?_
          refine va_get (D := D) (ci := 4) (v := .ref r2) (C := RX5) (T := TX5) (N := 3) hx hb hts hi_X5 hown hK hP 0 rfl rfl 1 (by decide) hf_16 (fun _ h9 => h9) rfl dX5_nextBit_86 ?_
          refine lv_bipush (v := 21) hx hb dX5_nextBit_89 (by decide) ?_
          refine ct_callVi (As := [.int 21]) (rest := [.int (rg_at (ss_x σ) 18)]) (wr := [(h0, .inr (4, [.ref r1, .ref r2, .ref r3])), (r1, .inr (1, [.long ((ss_x σ).1), .long ((ss_x σ).2)])), (r3, .inr (1, [.long ((ss_z σ).1), .long ((ss_z σ).2)]))]) (ws2 := [(h0, .inr (4, [.ref r1, .ref r2, .ref r3])), (r1, .inr (1, [.long ((ss_x σ).1), .long ((ss_x σ).2)])), (r2, .inr (1, [.long ((ss_y σ).1), .long ((ss_y σ).2)])), (r3, .inr (1, [.long ((ss_z σ).1), .long ((ss_z σ).2)]))]) ⟨hx, hb, hml, hown, hts⟩ (c_at l D r2 (ss_y σ) 21) cw_X1_at [] rfl [2] [0, 1, 3] [0, 1, 3, 2] hK hP hD hS hA 0 1 rfl rfl rfl rfl (by decide) rfl (by decide) (by decide) rfl (by decide) rfl hl.1 rfl (Nat.le_of_ble_eq_true rfl) dX5_nextBit_91 ⟨Nat.zero_le _, Nat.zero_le _⟩ (fun H locs hP hD hS => ?_)
          refine lv_ixor hx hb dX5_nextBit_94 ?_
          refine lv_aload_n hx hb dX5_nextBit_95 rfl (lv_at hl 4 rfl) ?_
          refine va_get (D := D) (ci := 4) (v := .ref r3) (C := RX5) (T := TX5) (N := 3) hx hb hts hi_X5 hown hK hP 0 rfl rfl 2 (by decide) hf_19 (fun _ h9 => h9) rfl dX5_nextBit_96 ?_
          refine lv_bipush (v := 22) hx hb dX5_nextBit_99 (by decide) ?_
          refine ct_callVi (As := [.int 22]) (rest := [.int ((rg_at (ss_x σ) 18) ^^^ (rg_at (ss_y σ) 21))]) (wr := [(h0, .inr (4, [.ref r1, .ref r2, .ref r3])), (r1, .inr (1, [.long ((ss_x σ).1), .long ((ss_x σ).2)])), (r2, .inr (1, [.long ((ss_y σ).1), .long ((ss_y σ).2)]))]) (ws2 := [(h0, .inr (4, [.ref r1, .ref r2, .ref r3])), (r1, .inr (1, [.long ((ss_x σ).1), .long ((ss_x σ).2)])), (r2, .inr (1, [.long ((ss_y σ).1), .long ((ss_y σ).2)])), (r3, .inr (1, [.long ((ss_z σ).1), .long ((ss_z σ).2)]))]) ⟨hx, hb, hml, hown, hts⟩ (c_at l D r3 (ss_z σ) 22) cw_X1_at [] rfl [3] [0, 1, 2] [0, 1, 2, 3] hK hP hD hS hA 0 1 rfl rfl rfl rfl (by decide) rfl (by decide) (by decide) rfl (by decide) rfl hl.1 rfl (Nat.le_of_ble_eq_true rfl) dX5_nextBit_101 ⟨Nat.zero_le _, Nat.zero_le _⟩ (fun H locs hP hD hS => ?_)
          refine lv_ixor hx hb dX5_nextBit_104 ?_
          exact ct_zret hx hb hr hlk hP hK hD hS rfl rfl dX5_nextBit_105
    · refine lv_aload_n hx hb dX5_nextBit_52 rfl (lv_at hl 4 rfl) ?_
      refine ct_callVv (As := []) (rest := []) (wr := [(r2, .inr (1, [.long σ.2.1.1, .long σ.2.1.2])), (r3, .inr (1, [.long σ.2.2.1, .long σ.2.2.2]))]) (ws2 := [(h0, .inr (4, [.ref r1, .ref r2, .ref r3])), (r1, .inr (1, [.long ((ss_gx σ.1).1), .long ((ss_gx σ.1).2)])), (r2, .inr (1, [.long σ.2.1.1, .long σ.2.1.2])), (r3, .inr (1, [.long σ.2.2.1, .long σ.2.2.2]))]) ⟨hx, hb, hml, hown, hts⟩ (c_goX l D h0 r1 r2 r3 σ.1) cw_X5_goX [] rfl [0, 1] [2, 3] [2, 3, 0, 1] hK hP hD hS hA 0 4 rfl rfl rfl rfl (by decide) rfl (by decide) (by decide) rfl (by decide) rfl hl.1 rfl (Nat.le_of_ble_eq_true rfl) dX5_nextBit_53 ⟨Nat.zero_le _, Nat.zero_le _⟩ (fun H locs hP hD hS => ?_)
      have hP : va_P D vwCl [(h0, .inr (4, [.ref r1, .ref r2, .ref r3])), (r1, .inr (1, [.long ((ss_x σ).1), .long ((ss_x σ).2)])), (r2, .inr (1, [.long σ.2.1.1, .long σ.2.1.2])), (r3, .inr (1, [.long σ.2.2.1, .long σ.2.2.2]))] H := by rw [ss_x, if_pos c_49_2]; exact hP
      have hD : va_D A [(h0, .inr (4, [.ref r1, .ref r2, .ref r3])), (r1, .inr (1, [.long ((ss_x σ).1), .long ((ss_x σ).2)])), (r2, .inr (1, [.long σ.2.1.1, .long σ.2.1.2])), (r3, .inr (1, [.long σ.2.2.1, .long σ.2.2.2]))] := by rw [ss_x, if_pos c_49_2]; exact hD
      refine lv_iload_n hx hb dX5_nextBit_56 rfl (lv_at hl 2 rfl) ?_
      refine lv_iload hx hb dX5_nextBit_57 (lv_at hl 0 rfl) ?_
      refine lv_icmp_ne (tgt := 66) hx hb dX5_nextBit_59 (by decide) (fun c_59_6 => ?_) (fun c_59_6 => ?_)
      · have hP : va_P D vwCl [(h0, .inr (4, [.ref r1, .ref r2, .ref r3])), (r1, .inr (1, [.long ((ss_x σ).1), .long ((ss_x σ).2)])), (r2, .inr (1, [.long ((ss_y σ).1), .long ((ss_y σ).2)])), (r3, .inr (1, [.long σ.2.2.1, .long σ.2.2.2]))] H := by rw [ss_y, if_neg c_59_6]; exact hP
        have hD : va_D A [(h0, .inr (4, [.ref r1, .ref r2, .ref r3])), (r1, .inr (1, [.long ((ss_x σ).1), .long ((ss_x σ).2)])), (r2, .inr (1, [.long ((ss_y σ).1), .long ((ss_y σ).2)])), (r3, .inr (1, [.long σ.2.2.1, .long σ.2.2.2]))] := by rw [ss_y, if_neg c_59_6]; exact hD
        refine lv_iload_n hx hb dX5_nextBit_66 rfl (lv_at hl 1 rfl) ?_
        refine lv_iload hx hb dX5_nextBit_67 (lv_at hl 0 rfl) ?_
        refine lv_icmp_ne (tgt := 76) hx hb dX5_nextBit_69 (by decide) (fun c_69_7 => ?_) (fun c_69_7 => ?_)
        · have hP : va_P D vwCl [(h0, .inr (4, [.ref r1, .ref r2, .ref r3])), (r1, .inr (1, [.long ((ss_x σ).1), .long ((ss_x σ).2)])), (r2, .inr (1, [.long ((ss_y σ).1), .long ((ss_y σ).2)])), (r3, .inr (1, [.long ((ss_z σ).1), .long ((ss_z σ).2)]))] H := by rw [ss_z, if_neg c_69_7]; exact hP
          have hD : va_D A [(h0, .inr (4, [.ref r1, .ref r2, .ref r3])), (r1, .inr (1, [.long ((ss_x σ).1), .long ((ss_x σ).2)])), (r2, .inr (1, [.long ((ss_y σ).1), .long ((ss_y σ).2)])), (r3, .inr (1, [.long ((ss_z σ).1), .long ((ss_z σ).2)]))] := by rw [ss_z, if_neg c_69_7]; exact hD
          refine lv_aload_n hx hb dX5_nextBit_76 rfl (lv_at hl 4 rfl) ?_
          refine va_get (D := D) (ci := 4) (v := .ref r1) (C := RX5) (T := TX5) (N := 3) hx hb hts hi_X5 hown hK hP 0 rfl rfl 0 (by decide) hf_10 (fun _ h9 => h9) rfl dX5_nextBit_77 ?_
          refine lv_bipush (v := 18) hx hb dX5_nextBit_80 (by decide) ?_
          refine ct_callVi (As := [.int 18]) (rest := []) (wr := [(h0, .inr (4, [.ref r1, .ref r2, .ref r3])), (r2, .inr (1, [.long ((ss_y σ).1), .long ((ss_y σ).2)])), (r3, .inr (1, [.long ((ss_z σ).1), .long ((ss_z σ).2)]))]) (ws2 := [(h0, .inr (4, [.ref r1, .ref r2, .ref r3])), (r1, .inr (1, [.long ((ss_x σ).1), .long ((ss_x σ).2)])), (r2, .inr (1, [.long ((ss_y σ).1), .long ((ss_y σ).2)])), (r3, .inr (1, [.long ((ss_z σ).1), .long ((ss_z σ).2)]))]) ⟨hx, hb, hml, hown, hts⟩ (c_at l D r1 (ss_x σ) 18) cw_X1_at [] rfl [1] [0, 2, 3] [0, 3, 1, 2] hK hP hD hS hA 0 1 rfl rfl rfl rfl (by decide) rfl (by decide) (by decide) rfl (by decide) rfl hl.1 rfl (Nat.le_of_ble_eq_true rfl) dX5_nextBit_82 ⟨Nat.zero_le _, Nat.zero_le _⟩ (fun H locs hP hD hS => ?_)
          refine lv_aload_n hx hb dX5_nextBit_85 rfl (lv_at hl 4 rfl) ?_
          refine va_get (D := D) (ci := 4) (v := .ref r2) (C := RX5) (T := TX5) (N := 3) hx hb hts hi_X5 hown hK hP 0 rfl rfl 1 (by decide) hf_16 (fun _ h9 => h9) rfl dX5_nextBit_86 ?_
          refine lv_bipush (v := 21) hx hb dX5_nextBit_89 (by decide) ?_
          refine ct_callVi (As := [.int 21]) (rest := [.int (rg_at (ss_x σ) 18)]) (wr := [(h0, .inr (4, [.ref r1, .ref r2, .ref r3])), (r1, .inr (1, [.long ((ss_x σ).1), .long ((ss_x σ).2)])), (r3, .inr (1, [.long ((ss_z σ).1), .long ((ss_z σ).2)]))]) (ws2 := [(h0, .inr (4, [.ref r1, .ref r2, .ref r3])), (r1, .inr (1, [.long ((ss_x σ).1), .long ((ss_x σ).2)])), (r2, .inr (1, [.long ((ss_y σ).1), .long ((ss_y σ).2)])), (r3, .inr (1, [.long ((ss_z σ).1), .long ((ss_z σ).2)]))]) ⟨hx, hb, hml, hown, hts⟩ (c_at l D r2 (ss_y σ) 21) cw_X1_at [] rfl [2] [0, 1, 3] [0, 1, 3, 2] hK hP hD hS hA 0 1 rfl rfl rfl rfl (by decide) rfl (by decide) (by decide) rfl (by decide) rfl hl.1 rfl (Nat.le_of_ble_eq_true rfl) dX5_nextBit_91 ⟨Nat.zero_le _, Nat.zero_le _⟩ (fun H locs hP hD hS => ?_)
          refine lv_ixor hx hb dX5_nextBit_94 ?_
          refine lv_aload_n hx hb dX5_nextBit_95 rfl (lv_at hl 4 rfl) ?_
          refine va_get (D := D) (ci := 4) (v := .ref r3) (C := RX5) (T := TX5) (N := 3) hx hb hts hi_X5 hown hK hP 0 rfl rfl 2 (by decide) hf_19 (fun _ h9 => h9) rfl dX5_nextBit_96 ?_
          refine lv_bipush (v := 22) hx hb dX5_nextBit_99 (by decide) ?_
          refine ct_callVi (As := [.int 22]) (rest := [.int ((rg_at (ss_x σ) 18) ^^^ (rg_at (ss_y σ) 21))]) (wr := [(h0, .inr (4, [.ref r1, .ref r2, .ref r3])), (r1, .inr (1, [.long ((ss_x σ).1), .long ((ss_x σ).2)])), (r2, .inr (1, [.long ((ss_y σ).1), .long ((ss_y σ).2)]))]) (ws2 := [(h0, .inr (4, [.ref r1, .ref r2, .ref r3])), (r1, .inr (1, [.long ((ss_x σ).1), .long ((ss_x σ).2)])), (r2, .inr (1, [.long ((ss_y σ).1), .long ((ss_y σ).2)])), (r3, .inr (1, [.long ((ss_z σ).1), .long ((ss_z σ).2)]))]) ⟨hx, hb, hml, hown, hts⟩ (c_at l D r3 (ss_z σ) 22) cw_X1_at [] rfl [3] [0, 1, 2] [0, 1, 2, 3] hK hP hD hS hA 0 1 rfl rfl rfl rfl (by decide) rfl (by decide) (by decide) rfl (by decide) rfl hl.1 rfl (Nat.le_of_ble_eq_true rfl) dX5_nextBit_101 ⟨Nat.zero_le _, Nat.zero_le _⟩ (fun H locs hP hD hS => ?_)
          refine lv_ixor hx hb dX5_nextBit_104 ?_
          exact ct_zret hx hb hr hlk hP hK hD hS rfl rfl dX5_nextBit_105
        · refine lv_aload_n hx hb dX5_nextBit_72 rfl (lv_at hl 4 rfl) ?_
          refine ct_callVv (As := []) (rest := []) (wr := [(r1, .inr (1, [.long ((ss_x σ).1), .long ((ss_x σ).2)])), (r2, .inr (1, [.long ((ss_y σ).1), .long ((ss_y σ).2)]))]) (ws2 := [(h0, .inr (4, [.ref r1, .ref r2, .ref r3])), (r1, .inr (1, [.long ((ss_x σ).1), .long ((ss_x σ).2)])), (r2, .inr (1, [.long ((ss_y σ).1), .long ((ss_y σ).2)])), (r3, .inr (1, [.long ((ss_gz σ.2.2).1), .long ((ss_gz σ.2.2).2)]))]) ⟨hx, hb, hml, hown, hts⟩ (c_goZ l D h0 r1 r2 r3 σ.2.2) cw_X5_goZ [] rfl [0, 3] [1, 2] [2, 0, 1, 3] hK hP hD hS hA 0 4 rfl rfl rfl rfl (by decide) rfl (by decide) (by decide) rfl (by decide) rfl hl.1 rfl (Nat.le_of_ble_eq_true rfl) dX5_nextBit_73 ⟨Nat.zero_le _, Nat.zero_le _⟩ (fun H locs hP hD hS => ?_)
          have hP : va_P D vwCl [(h0, .inr (4, [.ref r1, .ref r2, .ref r3])), (r1, .inr (1, [.long ((ss_x σ).1), .long ((ss_x σ).2)])), (r2, .inr (1, [.long ((ss_y σ).1), .long ((ss_y σ).2)])), (r3, .inr (1, [.long ((ss_z σ).1), .long ((ss_z σ).2)]))] H := by rw [ss_z, if_pos c_69_7]; exact hP
          have hD : va_D A [(h0, .inr (4, [.ref r1, .ref r2, .ref r3])), (r1, .inr (1, [.long ((ss_x σ).1), .long ((ss_x σ).2)])), (r2, .inr (1, [.long ((ss_y σ).1), .long ((ss_y σ).2)])), (r3, .inr (1, [.long ((ss_z σ).1), .long ((ss_z σ).2)]))] := by rw [ss_z, if_pos c_69_7]; exact hD
          refine lv_aload_n hx hb dX5_nextBit_76 rfl (lv_at hl 4 rfl) ?_
          refine va_get (D := D) (ci := 4) (v := .ref r1) (C := RX5) (T := TX5) (N := 3) hx hb hts hi_X5 hown hK hP 0 rfl rfl 0 (by decide) hf_10 (fun _ h9 => h9) rfl dX5_nextBit_77 ?_
          refine lv_bipush (v := 18) hx hb dX5_nextBit_80 (by decide) ?_
          refine ct_callVi (As := [.int 18]) (rest := []) (wr := [(h0, .inr (4, [.ref r1, .ref r2, .ref r3])), (r2, .inr (1, [.long ((ss_y σ).1), .long ((ss_y σ).2)])), (r3, .inr (1, [.long ((ss_z σ).1), .long ((ss_z σ).2)]))]) (ws2 := [(h0, .inr (4, [.ref r1, .ref r2, .ref r3])), (r1, .inr (1, [.long ((ss_x σ).1), .long ((ss_x σ).2)])), (r2, .inr (1, [.long ((ss_y σ).1), .long ((ss_y σ).2)])), (r3, .inr (1, [.long ((ss_z σ).1), .long ((ss_z σ).2)]))]) ⟨hx, hb, hml, hown, hts⟩ (c_at l D r1 (ss_x σ) 18) cw_X1_at [] rfl [1] [0, 2, 3] [0, 3, 1, 2] hK hP hD hS hA 0 1 rfl rfl rfl rfl (by decide) rfl (by decide) (by decide) rfl (by decide) rfl hl.1 rfl (Nat.le_of_ble_eq_true rfl) dX5_nextBit_82 ⟨Nat.zero_le _, Nat.zero_le _⟩ (fun H locs hP hD hS => ?_)
          refine lv_aload_n hx hb dX5_nextBit_85 rfl (lv_at hl 4 rfl) ?_
          refine va_get (D := D) (ci := 4) (v := .ref r2) (C := RX5) (T := TX5) (N := 3) hx hb hts hi_X5 hown hK hP 0 rfl rfl 1 (by decide) hf_16 (fun _ h9 => h9) rfl dX5_nextBit_86 ?_
          refine lv_bipush (v := 21) hx hb dX5_nextBit_89 (by decide) ?_
          refine ct_callVi (As := [.int 21]) (rest := [.int (rg_at (ss_x σ) 18)]) (wr := [(h0, .inr (4, [.ref r1, .ref r2, .ref r3])), (r1, .inr (1, [.long ((ss_x σ).1), .long ((ss_x σ).2)])), (r3, .inr (1, [.long ((ss_z σ).1), .long ((ss_z σ).2)]))]) (ws2 := [(h0, .inr (4, [.ref r1, .ref r2, .ref r3])), (r1, .inr (1, [.long ((ss_x σ).1), .long ((ss_x σ).2)])), (r2, .inr (1, [.long ((ss_y σ).1), .long ((ss_y σ).2)])), (r3, .inr (1, [.long ((ss_z σ).1), .long ((ss_z σ).2)]))]) ⟨hx, hb, hml, hown, hts⟩ (c_at l D r2 (ss_y σ) 21) cw_X1_at [] rfl [2] [0, 1, 3] [0, 1, 3, 2] hK hP hD hS hA 0 1 rfl rfl rfl rfl (by decide) rfl (by decide) (by decide) rfl (by decide) rfl hl.1 rfl (Nat.le_of_ble_eq_true rfl) dX5_nextBit_91 ⟨Nat.zero_le _, Nat.zero_le _⟩ (fun H locs hP hD hS => ?_)
          refine lv_ixor hx hb dX5_nextBit_94 ?_
          refine lv_aload_n hx hb dX5_nextBit_95 rfl (lv_at hl 4 rfl) ?_
          refine va_get (D := D) (ci := 4) (v := .ref r3) (C := RX5) (T := TX5) (N := 3) hx hb hts hi_X5 hown hK hP 0 rfl rfl 2 (by decide) hf_19 (fun _ h9 => h9) rfl dX5_nextBit_96 ?_
          refine lv_bipush (v := 22) hx hb dX5_nextBit_99 (by decide) ?_
          refine ct_callVi (As := [.int 22]) (rest := [.int ((rg_at (ss_x σ) 18) ^^^ (rg_at (ss_y σ) 21))]) (wr := [(h0, .inr (4, [.ref r1, .ref r2, .ref r3])), (r1, .inr (1, [.long ((ss_x σ).1), .long ((ss_x σ).2)])), (r2, .inr (1, [.long ((ss_y σ).1), .long ((ss_y σ).2)]))]) (ws2 := [(h0, .inr (4, [.ref r1, .ref r2, .ref r3])), (r1, .inr (1, [.long ((ss_x σ).1), .long ((ss_x σ).2)])), (r2, .inr (1, [.long ((ss_y σ).1), .long ((ss_y σ).2)])), (r3, .inr (1, [.long ((ss_z σ).1), .long ((ss_z σ).2)]))]) ⟨hx, hb, hml, hown, hts⟩ (c_at l D r3 (ss_z σ) 22) cw_X1_at [] rfl [3] [0, 1, 2] [0, 1, 2, 3] hK hP hD hS hA 0 1 rfl rfl rfl rfl (by decide) rfl (by decide) (by decide) rfl (by decide) rfl hl.1 rfl (Nat.le_of_ble_eq_true rfl) dX5_nextBit_101 ⟨Nat.zero_le _, Nat.zero_le _⟩ (fun H locs hP hD hS => ?_)
          refine lv_ixor hx hb dX5_nextBit_104 ?_
          exact ct_zret hx hb hr hlk hP hK hD hS rfl rfl dX5_nextBit_105
      · refine lv_aload_n hx hb dX5_nextBit_62 rfl (lv_at hl 4 rfl) ?_
        refine ct_callVv (As := []) (rest := []) (wr := [(r1, .inr (1, [.long ((ss_x σ).1), .long ((ss_x σ).2)])), (r3, .inr (1, [.long σ.2.2.1, .long σ.2.2.2]))]) (ws2 := [(h0, .inr (4, [.ref r1, .ref r2, .ref r3])), (r1, .inr (1, [.long ((ss_x σ).1), .long ((ss_x σ).2)])), (r2, .inr (1, [.long ((ss_gy σ.2.1).1), .long ((ss_gy σ.2.1).2)])), (r3, .inr (1, [.long σ.2.2.1, .long σ.2.2.2]))]) ⟨hx, hb, hml, hown, hts⟩ (c_goY l D h0 r1 r2 r3 σ.2.1) cw_X5_goY [] rfl [0, 2] [1, 3] [2, 0, 3, 1] hK hP hD hS hA 0 4 rfl rfl rfl rfl (by decide) rfl (by decide) (by decide) rfl (by decide) rfl hl.1 rfl (Nat.le_of_ble_eq_true rfl) dX5_nextBit_63 ⟨Nat.zero_le _, Nat.zero_le _⟩ (fun H locs hP hD hS => ?_)
        have hP : va_P D vwCl [(h0, .inr (4, [.ref r1, .ref r2, .ref r3])), (r1, .inr (1, [.long ((ss_x σ).1), .long ((ss_x σ).2)])), (r2, .inr (1, [.long ((ss_y σ).1), .long ((ss_y σ).2)])), (r3, .inr (1, [.long σ.2.2.1, .long σ.2.2.2]))] H := by rw [ss_y, if_pos c_59_6]; exact hP
        have hD : va_D A [(h0, .inr (4, [.ref r1, .ref r2, .ref r3])), (r1, .inr (1, [.long ((ss_x σ).1), .long ((ss_x σ).2)])), (r2, .inr (1, [.long ((ss_y σ).1), .long ((ss_y σ).2)])), (r3, .inr (1, [.long σ.2.2.1, .long σ.2.2.2]))] := by rw [ss_y, if_pos c_59_6]; exact hD
        refine lv_iload_n hx hb dX5_nextBit_66 rfl (lv_at hl 1 rfl) ?_
        refine lv_iload hx hb dX5_nextBit_67 (lv_at hl 0 rfl) ?_
        refine lv_icmp_ne (tgt := 76) hx hb dX5_nextBit_69 (by decide) (fun c_69_8 => ?_) (fun c_69_8 => ?_)
        · have hP : va_P D vwCl [(h0, .inr (4, [.ref r1, .ref r2, .ref r3])), (r1, .inr (1, [.long ((ss_x σ).1), .long ((ss_x σ).2)])), (r2, .inr (1, [.long ((ss_y σ).1), .long ((ss_y σ).2)])), (r3, .inr (1, [.long ((ss_z σ).1), .long ((ss_z σ).2)]))] H := by rw [ss_z, if_neg c_69_8]; exact hP
          have hD : va_D A [(h0, .inr (4, [.ref r1, .ref r2, .ref r3])), (r1, .inr (1, [.long ((ss_x σ).1), .long ((ss_x σ).2)])), (r2, .inr (1, [.long ((ss_y σ).1), .long ((ss_y σ).2)])), (r3, .inr (1, [.long ((ss_z σ).1), .long ((ss_z σ).2)]))] := by rw [ss_z, if_neg c_69_8]; exact hD
          refine lv_aload_n hx hb dX5_nextBit_76 rfl (lv_at hl 4 rfl) ?_
          refine va_get (D := D) (ci := 4) (v := .ref r1) (C := RX5) (T := TX5) (N := 3) hx hb hts hi_X5 hown hK hP 0 rfl rfl 0 (by decide) hf_10 (fun _ h9 => h9) rfl dX5_nextBit_77 ?_
          refine lv_bipush (v := 18) hx hb dX5_nextBit_80 (by decide) ?_
          refine ct_callVi (As := [.int 18]) (rest := []) (wr := [(h0, .inr (4, [.ref r1, .ref r2, .ref r3])), (r2, .inr (1, [.long ((ss_y σ).1), .long ((ss_y σ).2)])), (r3, .inr (1, [.long ((ss_z σ).1), .long ((ss_z σ).2)]))]) (ws2 := [(h0, .inr (4, [.ref r1, .ref r2, .ref r3])), (r1, .inr (1, [.long ((ss_x σ).1), .long ((ss_x σ).2)])), (r2, .inr (1, [.long ((ss_y σ).1), .long ((ss_y σ).2)])), (r3, .inr (1, [.long ((ss_z σ).1), .long ((ss_z σ).2)]))]) ⟨hx, hb, hml, hown, hts⟩ (c_at l D r1 (ss_x σ) 18) cw_X1_at [] rfl [1] [0, 2, 3] [0, 3, 1, 2] hK hP hD hS hA 0 1 rfl rfl rfl rfl (by decide) rfl (by decide) (by decide) rfl (by decide) rfl hl.1 rfl (Nat.le_of_ble_eq_true rfl) dX5_nextBit_82 ⟨Nat.zero_le _, Nat.zero_le _⟩ (fun H locs hP hD hS => ?_)
          refine lv_aload_n hx hb dX5_nextBit_85 rfl (lv_at hl 4 rfl) ?_
          refine va_get (D := D) (ci := 4) (v := .ref r2) (C := RX5) (T := TX5) (N := 3) hx hb hts hi_X5 hown hK hP 0 rfl rfl 1 (by decide) hf_16 (fun _ h9 => h9) rfl dX5_nextBit_86 ?_
          refine lv_bipush (v := 21) hx hb dX5_nextBit_89 (by decide) ?_
          refine ct_callVi (As := [.int 21]) (rest := [.int (rg_at (ss_x σ) 18)]) (wr := [(h0, .inr (4, [.ref r1, .ref r2, .ref r3])), (r1, .inr (1, [.long ((ss_x σ).1), .long ((ss_x σ).2)])), (r3, .inr (1, [.long ((ss_z σ).1), .long ((ss_z σ).2)]))]) (ws2 := [(h0, .inr (4, [.ref r1, .ref r2, .ref r3])), (r1, .inr (1, [.long ((ss_x σ).1), .long ((ss_x σ).2)])), (r2, .inr (1, [.long ((ss_y σ).1), .long ((ss_y σ).2)])), (r3, .inr (1, [.long ((ss_z σ).1), .long ((ss_z σ).2)]))]) ⟨hx, hb, hml, hown, hts⟩ (c_at l D r2 (ss_y σ) 21) cw_X1_at [] rfl [2] [0, 1, 3] [0, 1, 3, 2] hK hP hD hS hA 0 1 rfl rfl rfl rfl (by decide) rfl (by decide) (by decide) rfl (by decide) rfl hl.1 rfl (Nat.le_of_ble_eq_true rfl) dX5_nextBit_91 ⟨Nat.zero_le _, Nat.zero_le _⟩ (fun H locs hP hD hS => ?_)
          refine lv_ixor hx hb dX5_nextBit_94 ?_
          refine lv_aload_n hx hb dX5_nextBit_95 rfl (lv_at hl 4 rfl) ?_
          refine va_get (D := D) (ci := 4) (v := .ref r3) (C := RX5) (T := TX5) (N := 3) hx hb hts hi_X5 hown hK hP 0 rfl rfl 2 (by decide) hf_19 (fun _ h9 => h9) rfl dX5_nextBit_96 ?_
          refine lv_bipush (v := 22) hx hb dX5_nextBit_99 (by decide) ?_
          refine ct_callVi (As := [.int 22]) (rest := [.int ((rg_at (ss_x σ) 18) ^^^ (rg_at (ss_y σ) 21))]) (wr := [(h0, .inr (4, [.ref r1, .ref r2, .ref r3])), (r1, .inr (1, [.long ((ss_x σ).1), .long ((ss_x σ).2)])), (r2, .inr (1, [.long ((ss_y σ).1), .long ((ss_y σ).2)]))]) (ws2 := [(h0, .inr (4, [.ref r1, .ref r2, .ref r3])), (r1, .inr (1, [.long ((ss_x σ).1), .long ((ss_x σ).2)])), (r2, .inr (1, [.long ((ss_y σ).1), .long ((ss_y σ).2)])), (r3, .inr (1, [.long ((ss_z σ).1), .long ((ss_z σ).2)]))]) ⟨hx, hb, hml, hown, hts⟩ (c_at l D r3 (ss_z σ) 22) cw_X1_at [] rfl [3] [0, 1, 2] [0, 1, 2, 3] hK hP hD hS hA 0 1 rfl rfl rfl rfl (by decide) rfl (by decide) (by decide) rfl (by decide) rfl hl.1 rfl (Nat.le_of_ble_eq_true rfl) dX5_nextBit_101 ⟨Nat.zero_le _, Nat.zero_le _⟩ (fun H locs hP hD hS => ?_)
          refine lv_ixor hx hb dX5_nextBit_104 ?_
          exact ct_zret hx hb hr hlk hP hK hD hS rfl rfl dX5_nextBit_105
        · refine lv_aload_n hx hb dX5_nextBit_72 rfl (lv_at hl 4 rfl) ?_
          refine ct_callVv (As := []) (rest := []) (wr := [(r1, .inr (1, [.long ((ss_x σ).1), .long ((ss_x σ).2)])), (r2, .inr (1, [.long ((ss_y σ).1), .long ((ss_y σ).2)]))]) (ws2 := [(h0, .inr (4, [.ref r1, .ref r2, .ref r3])), (r1, .inr (1, [.long ((ss_x σ).1), .long ((ss_x σ).2)])), (r2, .inr (1, [.long ((ss_y σ).1), .long ((ss_y σ).2)])), (r3, .inr (1, [.long ((ss_gz σ.2.2).1), .long ((ss_gz σ.2.2).2)]))]) ⟨hx, hb, hml, hown, hts⟩ (c_goZ l D h0 r1 r2 r3 σ.2.2) cw_X5_goZ [] rfl [0, 3] [1, 2] [2, 0, 1, 3] hK hP hD hS hA 0 4 rfl rfl rfl rfl (by decide) rfl (by decide) (by decide) rfl (by decide) rfl hl.1 rfl (Nat.le_of_ble_eq_true rfl) dX5_nextBit_73 ⟨Nat.zero_le _, Nat.zero_le _⟩ (fun H locs hP hD hS => ?_)
          have hP : va_P D vwCl [(h0, .inr (4, [.ref r1, .ref r2, .ref r3])), (r1, .inr (1, [.long ((ss_x σ).1), .long ((ss_x σ).2)])), (r2, .inr (1, [.long ((ss_y σ).1), .long ((ss_y σ).2)])), (r3, .inr (1, [.long ((ss_z σ).1), .long ((ss_z σ).2)]))] H := by rw [ss_z, if_pos c_69_8]; exact hP
          have hD : va_D A [(h0, .inr (4, [.ref r1, .ref r2, .ref r3])), (r1, .inr (1, [.long ((ss_x σ).1), .long ((ss_x σ).2)])), (r2, .inr (1, [.long ((ss_y σ).1), .long ((ss_y σ).2)])), (r3, .inr (1, [.long ((ss_z σ).1), .long ((ss_z σ).2)]))] := by rw [ss_z, if_pos c_69_8]; exact hD
          refine lv_aload_n hx hb dX5_nextBit_76 rfl (lv_at hl 4 rfl) ?_
          refine va_get (D := D) (ci := 4) (v := .ref r1) (C := RX5) (T := TX5) (N := 3) hx hb hts hi_X5 hown hK hP 0 rfl rfl 0 (by decide) hf_10 (fun _ h9 => h9) rfl dX5_nextBit_77 ?_
          refine lv_bipush (v := 18) hx hb dX5_nextBit_80 (by decide) ?_
          refine ct_callVi (As := [.int 18]) (rest := []) (wr := [(h0, .inr (4, [.ref r1, .ref r2, .ref r3])), (r2, .inr (1, [.long ((ss_y σ).1), .long ((ss_y σ).2)])), (r3, .inr (1, [.long ((ss_z σ).1), .long ((ss_z σ).2)]))]) (ws2 := [(h0, .inr (4, [.ref r1, .ref r2, .ref r3])), (r1, .inr (1, [.long ((ss_x σ).1), .long ((ss_x σ).2)])), (r2, .inr (1, [.long ((ss_y σ).1), .long ((ss_y σ).2)])), (r3, .inr (1, [.long ((ss_z σ).1), .long ((ss_z σ).2)]))]) ⟨hx, hb, hml, hown, hts⟩ (c_at l D r1 (ss_x σ) 18) cw_X1_at [] rfl [1] [0, 2, 3] [0, 3, 1, 2] hK hP hD hS hA 0 1 rfl rfl rfl rfl (by decide) rfl (by decide) (by decide) rfl (by decide) rfl hl.1 rfl (Nat.le_of_ble_eq_true rfl) dX5_nextBit_82 ⟨Nat.zero_le _, Nat.zero_le _⟩ (fun H locs hP hD hS => ?_)
          refine lv_aload_n hx hb dX5_nextBit_85 rfl (lv_at hl 4 rfl) ?_
          refine va_get (D := D) (ci := 4) (v := .ref r2) (C := RX5) (T := TX5) (N := 3) hx hb hts hi_X5 hown hK hP 0 rfl rfl 1 (by decide) hf_16 (fun _ h9 => h9) rfl dX5_nextBit_86 ?_
          refine lv_bipush (v := 21) hx hb dX5_nextBit_89 (by decide) ?_
          refine ct_callVi (As := [.int 21]) (rest := [.int (rg_at (ss_x σ) 18)]) (wr := [(h0, .inr (4, [.ref r1, .ref r2, .ref r3])), (r1, .inr (1, [.long ((ss_x σ).1), .long ((ss_x σ).2)])), (r3, .inr (1, [.long ((ss_z σ).1), .long ((ss_z σ).2)]))]) (ws2 := [(h0, .inr (4, [.ref r1, .ref r2, .ref r3])), (r1, .inr (1, [.long ((ss_x σ).1), .long ((ss_x σ).2)])), (r2, .inr (1, [.long ((ss_y σ).1), .long ((ss_y σ).2)])), (r3, .inr (1, [.long ((ss_z σ).1), .long ((ss_z σ).2)]))]) ⟨hx, hb, hml, hown, hts⟩ (c_at l D r2 (ss_y σ) 21) cw_X1_at [] rfl [2] [0, 1, 3] [0, 1, 3, 2] hK hP hD hS hA 0 1 rfl rfl rfl rfl (by decide) rfl (by decide) (by decide) rfl (by decide) rfl hl.1 rfl (Nat.le_of_ble_eq_true rfl) dX5_nextBit_91 ⟨Nat.zero_le _, Nat.zero_le _⟩ (fun H locs hP hD hS => ?_)
          refine lv_ixor hx hb dX5_nextBit_94 ?_
          refine lv_aload_n hx hb dX5_nextBit_95 rfl (lv_at hl 4 rfl) ?_
          refine va_get (D := D) (ci := 4) (v := .ref r3) (C := RX5) (T := TX5) (N := 3) hx hb hts hi_X5 hown hK hP 0 rfl rfl 2 (by decide) hf_19 (fun _ h9 => h9) rfl dX5_nextBit_96 ?_
          refine lv_bipush (v := 22) hx hb dX5_nextBit_99 (by decide) ?_
          refine ct_callVi (As := [.int 22]) (rest := [.int ((rg_at (ss_x σ) 18) ^^^ (rg_at (ss_y σ) 21))]) (wr := [(h0, .inr (4, [.ref r1, .ref r2, .ref r3])), (r1, .inr (1, [.long ((ss_x σ).1), .long ((ss_x σ).2)])), (r2, .inr (1, [.long ((ss_y σ).1), .long ((ss_y σ).2)]))]) (ws2 := [(h0, .inr (4, [.ref r1, .ref r2, .ref r3])), (r1, .inr (1, [.long ((ss_x σ).1), .long ((ss_x σ).2)])), (r2, .inr (1, [.long ((ss_y σ).1), .long ((ss_y σ).2)])), (r3, .inr (1, [.long ((ss_z σ).1), .long ((ss_z σ).2)]))]) ⟨hx, hb, hml, hown, hts⟩ (c_at l D r3 (ss_z σ) 22) cw_X1_at [] rfl [3] [0, 1, 2] [0, 1, 2, 3] hK hP hD hS hA 0 1 rfl rfl rfl rfl (by decide) rfl (by decide) (by decide) rfl (by decide) rfl hl.1 rfl (Nat.le_of_ble_eq_true rfl) dX5_nextBit_101 ⟨Nat.zero_le _, Nat.zero_le _⟩ (fun H locs hP hD hS => ?_)
          refine lv_ixor hx hb dX5_nextBit_104 ?_
          exact ct_zret hx hb hr hlk hP hK hD hS rfl rfl dX5_nextBit_105
  · refine lv_iconst (v := 1) hx hb dX5_nextBit_39 (by decide) ?_
    refine lv_goto (tgt := 44) hx hb dX5_nextBit_40 (by decide) ?_
    refine ct_topi (y := ss_al σ) (by rw [ss_al, if_neg c_36_1]) ?_
    refine lv_istore (lv' := [(4, .int (ss_al σ)), (3, .int (rg_at σ.2.2 10)), (2, .int (rg_at σ.2.1 10)), (1, .int (rg_at σ.1 8)), (0, .ref h0)]) hx hb dX5_nextBit_44 hl (by decide) rfl (fun ls hl => ?_)
    refine lv_iload_n hx hb dX5_nextBit_46 rfl (lv_at hl 3 rfl) ?_
    refine lv_iload hx hb dX5_nextBit_47 (lv_at hl 0 rfl) ?_
    refine lv_icmp_ne (tgt := 56) hx hb dX5_nextBit_49 (by decide) (fun c_49_9 => ?_) (fun c_49_9 => ?_)
    · have hP : va_P D vwCl [(h0, .inr (4, [.ref r1, .ref r2, .ref r3])), (r1, .inr (1, [.long ((ss_x σ).1), .long ((ss_x σ).2)])), (r2, .inr (1, [.long σ.2.1.1, .long σ.2.1.2])), (r3, .inr (1, [.long σ.2.2.1, .long σ.2.2.2]))] H := by rw [ss_x, if_neg c_49_9]; exact hP
      have hD : va_D A [(h0, .inr (4, [.ref r1, .ref r2, .ref r3])), (r1, .inr (1, [.long ((ss_x σ).1), .long ((ss_x σ).2)])), (r2, .inr (1, [.long σ.2.1.1, .long σ.2.1.2])), (r3, .inr (1, [.long σ.2.2.1, .long σ.2.2.2]))] := by rw [ss_x, if_neg c_49_9]; exact hD
      refine lv_iload_n hx hb dX5_nextBit_56 rfl (lv_at hl 2 rfl) ?_
      refine lv_iload hx hb dX5_nextBit_57 (lv_at hl 0 rfl) ?_
      refine lv_icmp_ne (tgt := 66) hx hb dX5_nextBit_59 (by decide) (fun c_59_10 => ?_) (fun c_59_10 => ?_)
      · have hP : va_P D vwCl [(h0, .inr (4, [.ref r1, .ref r2, .ref r3])), (r1, .inr (1, [.long ((ss_x σ).1), .long ((ss_x σ).2)])), (r2, .inr (1, [.long ((ss_y σ).1), .long ((ss_y σ).2)])), (r3, .inr (1, [.long σ.2.2.1, .long σ.2.2.2]))] H := by rw [ss_y, if_neg c_59_10]; exact hP
        have hD : va_D A [(h0, .inr (4, [.ref r1, .ref r2, .ref r3])), (r1, .inr (1, [.long ((ss_x σ).1), .long ((ss_x σ).2)])), (r2, .inr (1, [.long ((ss_y σ).1), .long ((ss_y σ).2)])), (r3, .inr (1, [.long σ.2.2.1, .long σ.2.2.2]))] := by rw [ss_y, if_neg c_59_10]; exact hD
        refine lv_iload_n hx hb dX5_nextBit_66 rfl (lv_at hl 1 rfl) ?_
        refine lv_iload hx hb dX5_nextBit_67 (lv_at hl 0 rfl) ?_
        refine lv_icmp_ne (tgt := 76) hx hb dX5_nextBit_69 (by decide) (fun c_69_11 => ?_) (fun c_69_11 => ?_)
        · have hP : va_P D vwCl [(h0, .inr (4, [.ref r1, .ref r2, .ref r3])), (r1, .inr (1, [.long ((ss_x σ).1), .long ((ss_x σ).2)])), (r2, .inr (1, [.long ((ss_y σ).1), .long ((ss_y σ).2)])), (r3, .inr (1, [.long ((ss_z σ).1), .long ((ss_z σ).2)]))] H := by rw [ss_z, if_neg c_69_11]; exact hP
          have hD : va_D A [(h0, .inr (4, [.ref r1, .ref r2, .ref r3])), (r1, .inr (1, [.long ((ss_x σ).1), .long ((ss_x σ).2)])), (r2, .inr (1, [.long ((ss_y σ).1), .long ((ss_y σ).2)])), (r3, .inr (1, [.long ((ss_z σ).1), .long ((ss_z σ).2)]))] := by rw [ss_z, if_neg c_69_11]; exact hD
          refine lv_aload_n hx hb dX5_nextBit_76 rfl (lv_at hl 4 rfl) ?_
          refine va_get (D := D) (ci := 4) (v := .ref r1) (C := RX5) (T := TX5) (N := 3) hx hb hts hi_X5 hown hK hP 0 rfl rfl 0 (by decide) hf_10 (fun _ h9 => h9) rfl dX5_nextBit_77 ?_
          refine lv_bipush (v := 18) hx hb dX5_nextBit_80 (by decide) ?_
          refine ct_callVi (As := [.int 18]) (rest := []) (wr := [(h0, .inr (4, [.ref r1, .ref r2, .ref r3])), (r2, .inr (1, [.long ((ss_y σ).1), .long ((ss_y σ).2)])), (r3, .inr (1, [.long ((ss_z σ).1), .long ((ss_z σ).2)]))]) (ws2 := [(h0, .inr (4, [.ref r1, .ref r2, .ref r3])), (r1, .inr (1, [.long ((ss_x σ).1), .long ((ss_x σ).2)])), (r2, .inr (1, [.long ((ss_y σ).1), .long ((ss_y σ).2)])), (r3, .inr (1, [.long ((ss_z σ).1), .long ((ss_z σ).2)]))]) ⟨hx, hb, hml, hown, hts⟩ (c_at l D r1 (ss_x σ) 18) cw_X1_at [] rfl [1] [0, 2, 3] [0, 3, 1, 2] hK hP hD hS hA 0 1 rfl rfl rfl rfl (by decide) rfl (by decide) (by decide) rfl (by decide) rfl hl.1 rfl (Nat.le_of_ble_eq_true rfl) dX5_nextBit_82 ⟨Nat.zero_le _, Nat.zero_le _⟩ (fun H locs hP hD hS => ?_)
          refine lv_aload_n hx hb dX5_nextBit_85 rfl (lv_at hl 4 rfl) ?_
          refine va_get (D := D) (ci := 4) (v := .ref r2) (C := RX5) (T := TX5) (N := 3) hx hb hts hi_X5 hown hK hP 0 rfl rfl 1 (by decide) hf_16 (fun _ h9 => h9) rfl dX5_nextBit_86 ?_
          refine lv_bipush (v := 21) hx hb dX5_nextBit_89 (by decide) ?_
          refine ct_callVi (As := [.int 21]) (rest := [.int (rg_at (ss_x σ) 18)]) (wr := [(h0, .inr (4, [.ref r1, .ref r2, .ref r3])), (r1, .inr (1, [.long ((ss_x σ).1), .long ((ss_x σ).2)])), (r3, .inr (1, [.long ((ss_z σ).1), .long ((ss_z σ).2)]))]) (ws2 := [(h0, .inr (4, [.ref r1, .ref r2, .ref r3])), (r1, .inr (1, [.long ((ss_x σ).1), .long ((ss_x σ).2)])), (r2, .inr (1, [.long ((ss_y σ).1), .long ((ss_y σ).2)])), (r3, .inr (1, [.long ((ss_z σ).1), .long ((ss_z σ).2)]))]) ⟨hx, hb, hml, hown, hts⟩ (c_at l D r2 (ss_y σ) 21) cw_X1_at [] rfl [2] [0, 1, 3] [0, 1, 3, 2] hK hP hD hS hA 0 1 rfl rfl rfl rfl (by decide) rfl (by decide) (by decide) rfl (by decide) rfl hl.1 rfl (Nat.le_of_ble_eq_true rfl) dX5_nextBit_91 ⟨Nat.zero_le _, Nat.zero_le _⟩ (fun H locs hP hD hS => ?_)
          refine lv_ixor hx hb dX5_nextBit_94 ?_
          refine lv_aload_n hx hb dX5_nextBit_95 rfl (lv_at hl 4 rfl) ?_
          refine va_get (D := D) (ci := 4) (v := .ref r3) (C := RX5) (T := TX5) (N := 3) hx hb hts hi_X5 hown hK hP 0 rfl rfl 2 (by decide) hf_19 (fun _ h9 => h9) rfl dX5_nextBit_96 ?_
          refine lv_bipush (v := 22) hx hb dX5_nextBit_99 (by decide) ?_
          refine ct_callVi (As := [.int 22]) (rest := [.int ((rg_at (ss_x σ) 18) ^^^ (rg_at (ss_y σ) 21))]) (wr := [(h0, .inr (4, [.ref r1, .ref r2, .ref r3])), (r1, .inr (1, [.long ((ss_x σ).1), .long ((ss_x σ).2)])), (r2, .inr (1, [.long ((ss_y σ).1), .long ((ss_y σ).2)]))]) (ws2 := [(h0, .inr (4, [.ref r1, .ref r2, .ref r3])), (r1, .inr (1, [.long ((ss_x σ).1), .long ((ss_x σ).2)])), (r2, .inr (1, [.long ((ss_y σ).1), .long ((ss_y σ).2)])), (r3, .inr (1, [.long ((ss_z σ).1), .long ((ss_z σ).2)]))]) ⟨hx, hb, hml, hown, hts⟩ (c_at l D r3 (ss_z σ) 22) cw_X1_at [] rfl [3] [0, 1, 2] [0, 1, 2, 3] hK hP hD hS hA 0 1 rfl rfl rfl rfl (by decide) rfl (by decide) (by decide) rfl (by decide) rfl hl.1 rfl (Nat.le_of_ble_eq_true rfl) dX5_nextBit_101 ⟨Nat.zero_le _, Nat.zero_le _⟩ (fun H locs hP hD hS => ?_)
          refine lv_ixor hx hb dX5_nextBit_104 ?_
          exact ct_zret hx hb hr hlk hP hK hD hS rfl rfl dX5_nextBit_105
        · refine lv_aload_n hx hb dX5_nextBit_72 rfl (lv_at hl 4 rfl) ?_
          refine ct_callVv (As := []) (rest := []) (wr := [(r1, .inr (1, [.long ((ss_x σ).1), .long ((ss_x σ).2)])), (r2, .inr (1, [.long ((ss_y σ).1), .long ((ss_y σ).2)]))]) (ws2 := [(h0, .inr (4, [.ref r1, .ref r2, .ref r3])), (r1, .inr (1, [.long ((ss_x σ).1), .long ((ss_x σ).2)])), (r2, .inr (1, [.long ((ss_y σ).1), .long ((ss_y σ).2)])), (r3, .inr (1, [.long ((ss_gz σ.2.2).1), .long ((ss_gz σ.2.2).2)]))]) ⟨hx, hb, hml, hown, hts⟩ (c_goZ l D h0 r1 r2 r3 σ.2.2) cw_X5_goZ [] rfl [0, 3] [1, 2] [2, 0, 1, 3] hK hP hD hS hA 0 4 rfl rfl rfl rfl (by decide) rfl (by decide) (by decide) rfl (by decide) rfl hl.1 rfl (Nat.le_of_ble_eq_true rfl) dX5_nextBit_73 ⟨Nat.zero_le _, Nat.zero_le _⟩ (fun H locs hP hD hS => ?_)
          have hP : va_P D vwCl [(h0, .inr (4, [.ref r1, .ref r2, .ref r3])), (r1, .inr (1, [.long ((ss_x σ).1), .long ((ss_x σ).2)])), (r2, .inr (1, [.long ((ss_y σ).1), .long ((ss_y σ).2)])), (r3, .inr (1, [.long ((ss_z σ).1), .long ((ss_z σ).2)]))] H := by rw [ss_z, if_pos c_69_11]; exact hP
          have hD : va_D A [(h0, .inr (4, [.ref r1, .ref r2, .ref r3])), (r1, .inr (1, [.long ((ss_x σ).1), .long ((ss_x σ).2)])), (r2, .inr (1, [.long ((ss_y σ).1), .long ((ss_y σ).2)])), (r3, .inr (1, [.long ((ss_z σ).1), .long ((ss_z σ).2)]))] := by rw [ss_z, if_pos c_69_11]; exact hD
          refine lv_aload_n hx hb dX5_nextBit_76 rfl (lv_at hl 4 rfl) ?_
          refine va_get (D := D) (ci := 4) (v := .ref r1) (C := RX5) (T := TX5) (N := 3) hx hb hts hi_X5 hown hK hP 0 rfl rfl 0 (by decide) hf_10 (fun _ h9 => h9) rfl dX5_nextBit_77 ?_
          refine lv_bipush (v := 18) hx hb dX5_nextBit_80 (by decide) ?_
          refine ct_callVi (As := [.int 18]) (rest := []) (wr := [(h0, .inr (4, [.ref r1, .ref r2, .ref r3])), (r2, .inr (1, [.long ((ss_y σ).1), .long ((ss_y σ).2)])), (r3, .inr (1, [.long ((ss_z σ).1), .long ((ss_z σ).2)]))]) (ws2 := [(h0, .inr (4, [.ref r1, .ref r2, .ref r3])), (r1, .inr (1, [.long ((ss_x σ).1), .long ((ss_x σ).2)])), (r2, .inr (1, [.long ((ss_y σ).1), .long ((ss_y σ).2)])), (r3, .inr (1, [.long ((ss_z σ).1), .long ((ss_z σ).2)]))]) ⟨hx, hb, hml, hown, hts⟩ (c_at l D r1 (ss_x σ) 18) cw_X1_at [] rfl [1] [0, 2, 3] [0, 3, 1, 2] hK hP hD hS hA 0 1 rfl rfl rfl rfl (by decide) rfl (by decide) (by decide) rfl (by decide) rfl hl.1 rfl (Nat.le_of_ble_eq_true rfl) dX5_nextBit_82 ⟨Nat.zero_le _, Nat.zero_le _⟩ (fun H locs hP hD hS => ?_)
          refine lv_aload_n hx hb dX5_nextBit_85 rfl (lv_at hl 4 rfl) ?_
          refine va_get (D := D) (ci := 4) (v := .ref r2) (C := RX5) (T := TX5) (N := 3) hx hb hts hi_X5 hown hK hP 0 rfl rfl 1 (by decide) hf_16 (fun _ h9 => h9) rfl dX5_nextBit_86 ?_
          refine lv_bipush (v := 21) hx hb dX5_nextBit_89 (by decide) ?_
          refine ct_callVi (As := [.int 21]) (rest := [.int (rg_at (ss_x σ) 18)]) (wr := [(h0, .inr (4, [.ref r1, .ref r2, .ref r3])), (r1, .inr (1, [.long ((ss_x σ).1), .long ((ss_x σ).2)])), (r3, .inr (1, [.long ((ss_z σ).1), .long ((ss_z σ).2)]))]) (ws2 := [(h0, .inr (4, [.ref r1, .ref r2, .ref r3])), (r1, .inr (1, [.long ((ss_x σ).1), .long ((ss_x σ).2)])), (r2, .inr (1, [.long ((ss_y σ).1), .long ((ss_y σ).2)])), (r3, .inr (1, [.long ((ss_z σ).1), .long ((ss_z σ).2)]))]) ⟨hx, hb, hml, hown, hts⟩ (c_at l D r2 (ss_y σ) 21) cw_X1_at [] rfl [2] [0, 1, 3] [0, 1, 3, 2] hK hP hD hS hA 0 1 rfl rfl rfl rfl (by decide) rfl (by decide) (by decide) rfl (by decide) rfl hl.1 rfl (Nat.le_of_ble_eq_true rfl) dX5_nextBit_91 ⟨Nat.zero_le _, Nat.zero_le _⟩ (fun H locs hP hD hS => ?_)
          refine lv_ixor hx hb dX5_nextBit_94 ?_
          refine lv_aload_n hx hb dX5_nextBit_95 rfl (lv_at hl 4 rfl) ?_
          refine va_get (D := D) (ci := 4) (v := .ref r3) (C := RX5) (T := TX5) (N := 3) hx hb hts hi_X5 hown hK hP 0 rfl rfl 2 (by decide) hf_19 (fun _ h9 => h9) rfl dX5_nextBit_96 ?_
          refine lv_bipush (v := 22) hx hb dX5_nextBit_99 (by decide) ?_
          refine ct_callVi (As := [.int 22]) (rest := [.int ((rg_at (ss_x σ) 18) ^^^ (rg_at (ss_y σ) 21))]) (wr := [(h0, .inr (4, [.ref r1, .ref r2, .ref r3])), (r1, .inr (1, [.long ((ss_x σ).1), .long ((ss_x σ).2)])), (r2, .inr (1, [.long ((ss_y σ).1), .long ((ss_y σ).2)]))]) (ws2 := [(h0, .inr (4, [.ref r1, .ref r2, .ref r3])), (r1, .inr (1, [.long ((ss_x σ).1), .long ((ss_x σ).2)])), (r2, .inr (1, [.long ((ss_y σ).1), .long ((ss_y σ).2)])), (r3, .inr (1, [.long ((ss_z σ).1), .long ((ss_z σ).2)]))]) ⟨hx, hb, hml, hown, hts⟩ (c_at l D r3 (ss_z σ) 22) cw_X1_at [] rfl [3] [0, 1, 2] [0, 1, 2, 3] hK hP hD hS hA 0 1 rfl rfl rfl rfl (by decide) rfl (by decide) (by decide) rfl (by decide) rfl hl.1 rfl (Nat.le_of_ble_eq_true rfl) dX5_nextBit_101 ⟨Nat.zero_le _, Nat.zero_le _⟩ (fun H locs hP hD hS => ?_)
          refine lv_ixor hx hb dX5_nextBit_104 ?_
          exact ct_zret hx hb hr hlk hP hK hD hS rfl rfl dX5_nextBit_105
      · refine lv_aload_n hx hb dX5_nextBit_62 rfl (lv_at hl 4 rfl) ?_
        refine ct_callVv (As := []) (rest := []) (wr := [(r1, .inr (1, [.long ((ss_x σ).1), .long ((ss_x σ).2)])), (r3, .inr (1, [.long σ.2.2.1, .long σ.2.2.2]))]) (ws2 := [(h0, .inr (4, [.ref r1, .ref r2, .ref r3])), (r1, .inr (1, [.long ((ss_x σ).1), .long ((ss_x σ).2)])), (r2, .inr (1, [.long ((ss_gy σ.2.1).1), .long ((ss_gy σ.2.1).2)])), (r3, .inr (1, [.long σ.2.2.1, .long σ.2.2.2]))]) ⟨hx, hb, hml, hown, hts⟩ (c_goY l D h0 r1 r2 r3 σ.2.1) cw_X5_goY [] rfl [0, 2] [1, 3] [2, 0, 3, 1] hK hP hD hS hA 0 4 rfl rfl rfl rfl (by decide) rfl (by decide) (by decide) rfl (by decide) rfl hl.1 rfl (Nat.le_of_ble_eq_true rfl) dX5_nextBit_63 ⟨Nat.zero_le _, Nat.zero_le _⟩ (fun H locs hP hD hS => ?_)
        have hP : va_P D vwCl [(h0, .inr (4, [.ref r1, .ref r2, .ref r3])), (r1, .inr (1, [.long ((ss_x σ).1), .long ((ss_x σ).2)])), (r2, .inr (1, [.long ((ss_y σ).1), .long ((ss_y σ).2)])), (r3, .inr (1, [.long σ.2.2.1, .long σ.2.2.2]))] H := by rw [ss_y, if_pos c_59_10]; exact hP
        have hD : va_D A [(h0, .inr (4, [.ref r1, .ref r2, .ref r3])), (r1, .inr (1, [.long ((ss_x σ).1), .long ((ss_x σ).2)])), (r2, .inr (1, [.long ((ss_y σ).1), .long ((ss_y σ).2)])), (r3, .inr (1, [.long σ.2.2.1, .long σ.2.2.2]))] := by rw [ss_y, if_pos c_59_10]; exact hD
        refine lv_iload_n hx hb dX5_nextBit_66 rfl (lv_at hl 1 rfl) ?_
        refine lv_iload hx hb dX5_nextBit_67 (lv_at hl 0 rfl) ?_
        refine lv_icmp_ne (tgt := 76) hx hb dX5_nextBit_69 (by decide) (fun c_69_12 => ?_) (fun c_69_12 => ?_)
        · have hP : va_P D vwCl [(h0, .inr (4, [.ref r1, .ref r2, .ref r3])), (r1, .inr (1, [.long ((ss_x σ).1), .long ((ss_x σ).2)])), (r2, .inr (1, [.long ((ss_y σ).1), .long ((ss_y σ).2)])), (r3, .inr (1, [.long ((ss_z σ).1), .long ((ss_z σ).2)]))] H := by rw [ss_z, if_neg c_69_12]; exact hP
          have hD : va_D A [(h0, .inr (4, [.ref r1, .ref r2, .ref r3])), (r1, .inr (1, [.long ((ss_x σ).1), .long ((ss_x σ).2)])), (r2, .inr (1, [.long ((ss_y σ).1), .long ((ss_y σ).2)])), (r3, .inr (1, [.long ((ss_z σ).1), .long ((ss_z σ).2)]))] := by rw [ss_z, if_neg c_69_12]; exact hD
          refine lv_aload_n hx hb dX5_nextBit_76 rfl (lv_at hl 4 rfl) ?_
          refine va_get (D := D) (ci := 4) (v := .ref r1) (C := RX5) (T := TX5) (N := 3) hx hb hts hi_X5 hown hK hP 0 rfl rfl 0 (by decide) hf_10 (fun _ h9 => h9) rfl dX5_nextBit_77 ?_
          refine lv_bipush (v := 18) hx hb dX5_nextBit_80 (by decide) ?_
          refine ct_callVi (As := [.int 18]) (rest := []) (wr := [(h0, .inr (4, [.ref r1, .ref r2, .ref r3])), (r2, .inr (1, [.long ((ss_y σ).1), .long ((ss_y σ).2)])), (r3, .inr (1, [.long ((ss_z σ).1), .long ((ss_z σ).2)]))]) (ws2 := [(h0, .inr (4, [.ref r1, .ref r2, .ref r3])), (r1, .inr (1, [.long ((ss_x σ).1), .long ((ss_x σ).2)])), (r2, .inr (1, [.long ((ss_y σ).1), .long ((ss_y σ).2)])), (r3, .inr (1, [.long ((ss_z σ).1), .long ((ss_z σ).2)]))]) ⟨hx, hb, hml, hown, hts⟩ (c_at l D r1 (ss_x σ) 18) cw_X1_at [] rfl [1] [0, 2, 3] [0, 3, 1, 2] hK hP hD hS hA 0 1 rfl rfl rfl rfl (by decide) rfl (by decide) (by decide) rfl (by decide) rfl hl.1 rfl (Nat.le_of_ble_eq_true rfl) dX5_nextBit_82 ⟨Nat.zero_le _, Nat.zero_le _⟩ (fun H locs hP hD hS => ?_)
          refine lv_aload_n hx hb dX5_nextBit_85 rfl (lv_at hl 4 rfl) ?_
          refine va_get (D := D) (ci := 4) (v := .ref r2) (C := RX5) (T := TX5) (N := 3) hx hb hts hi_X5 hown hK hP 0 rfl rfl 1 (by decide) hf_16 (fun _ h9 => h9) rfl dX5_nextBit_86 ?_
          refine lv_bipush (v := 21) hx hb dX5_nextBit_89 (by decide) ?_
          refine ct_callVi (As := [.int 21]) (rest := [.int (rg_at (ss_x σ) 18)]) (wr := [(h0, .inr (4, [.ref r1, .ref r2, .ref r3])), (r1, .inr (1, [.long ((ss_x σ).1), .long ((ss_x σ).2)])), (r3, .inr (1, [.long ((ss_z σ).1), .long ((ss_z σ).2)]))]) (ws2 := [(h0, .inr (4, [.ref r1, .ref r2, .ref r3])), (r1, .inr (1, [.long ((ss_x σ).1), .long ((ss_x σ).2)])), (r2, .inr (1, [.long ((ss_y σ).1), .long ((ss_y σ).2)])), (r3, .inr (1, [.long ((ss_z σ).1), .long ((ss_z σ).2)]))]) ⟨hx, hb, hml, hown, hts⟩ (c_at l D r2 (ss_y σ) 21) cw_X1_at [] rfl [2] [0, 1, 3] [0, 1, 3, 2] hK hP hD hS hA 0 1 rfl rfl rfl rfl (by decide) rfl (by decide) (by decide) rfl (by decide) rfl hl.1 rfl (Nat.le_of_ble_eq_true rfl) dX5_nextBit_91 ⟨Nat.zero_le _, Nat.zero_le _⟩ (fun H locs hP hD hS => ?_)
          refine lv_ixor hx hb dX5_nextBit_94 ?_
          refine lv_aload_n hx hb dX5_nextBit_95 rfl (lv_at hl 4 rfl) ?_
          refine va_get (D := D) (ci := 4) (v := .ref r3) (C := RX5) (T := TX5) (N := 3) hx hb hts hi_X5 hown hK hP 0 rfl rfl 2 (by decide) hf_19 (fun _ h9 => h9) rfl dX5_nextBit_96 ?_
          refine lv_bipush (v := 22) hx hb dX5_nextBit_99 (by decide) ?_
          refine ct_callVi (As := [.int 22]) (rest := [.int ((rg_at (ss_x σ) 18) ^^^ (rg_at (ss_y σ) 21))]) (wr := [(h0, .inr (4, [.ref r1, .ref r2, .ref r3])), (r1, .inr (1, [.long ((ss_x σ).1), .long ((ss_x σ).2)])), (r2, .inr (1, [.long ((ss_y σ).1), .long ((ss_y σ).2)]))]) (ws2 := [(h0, .inr (4, [.ref r1, .ref r2, .ref r3])), (r1, .inr (1, [.long ((ss_x σ).1), .long ((ss_x σ).2)])), (r2, .inr (1, [.long ((ss_y σ).1), .long ((ss_y σ).2)])), (r3, .inr (1, [.long ((ss_z σ).1), .long ((ss_z σ).2)]))]) ⟨hx, hb, hml, hown, hts⟩ (c_at l D r3 (ss_z σ) 22) cw_X1_at [] rfl [3] [0, 1, 2] [0, 1, 2, 3] hK hP hD hS hA 0 1 rfl rfl rfl rfl (by decide) rfl (by decide) (by decide) rfl (by decide) rfl hl.1 rfl (Nat.le_of_ble_eq_true rfl) dX5_nextBit_101 ⟨Nat.zero_le _, Nat.zero_le _⟩ (fun H locs hP hD hS => ?_)
          refine lv_ixor hx hb dX5_nextBit_104 ?_
          exact ct_zret hx hb hr hlk hP hK hD hS rfl rfl dX5_nextBit_105
        · refine lv_aload_n hx hb dX5_nextBit_72 rfl (lv_at hl 4 rfl) ?_
          refine ct_callVv (As := []) (rest := []) (wr := [(r1, .inr (1, [.long ((ss_x σ).1), .long ((ss_x σ).2)])), (r2, .inr (1, [.long ((ss_y σ).1), .long ((ss_y σ).2)]))]) (ws2 := [(h0, .inr (4, [.ref r1, .ref r2, .ref r3])), (r1, .inr (1, [.long ((ss_x σ).1), .long ((ss_x σ).2)])), (r2, .inr (1, [.long ((ss_y σ).1), .long ((ss_y σ).2)])), (r3, .inr (1, [.long ((ss_gz σ.2.2).1), .long ((ss_gz σ.2.2).2)]))]) ⟨hx, hb, hml, hown, hts⟩ (c_goZ l D h0 r1 r2 r3 σ.2.2) cw_X5_goZ [] rfl [0, 3] [1, 2] [2, 0, 1, 3] hK hP hD hS hA 0 4 rfl rfl rfl rfl (by decide) rfl (by decide) (by decide) rfl (by decide) rfl hl.1 rfl (Nat.le_of_ble_eq_true rfl) dX5_nextBit_73 ⟨Nat.zero_le _, Nat.zero_le _⟩ (fun H locs hP hD hS => ?_)
          have hP : va_P D vwCl [(h0, .inr (4, [.ref r1, .ref r2, .ref r3])), (r1, .inr (1, [.long ((ss_x σ).1), .long ((ss_x σ).2)])), (r2, .inr (1, [.long ((ss_y σ).1), .long ((ss_y σ).2)])), (r3, .inr (1, [.long ((ss_z σ).1), .long ((ss_z σ).2)]))] H := by rw [ss_z, if_pos c_69_12]; exact hP
          have hD : va_D A [(h0, .inr (4, [.ref r1, .ref r2, .ref r3])), (r1, .inr (1, [.long ((ss_x σ).1), .long ((ss_x σ).2)])), (r2, .inr (1, [.long ((ss_y σ).1), .long ((ss_y σ).2)])), (r3, .inr (1, [.long ((ss_z σ).1), .long ((ss_z σ).2)]))] := by rw [ss_z, if_pos c_69_12]; exact hD
          refine lv_aload_n hx hb dX5_nextBit_76 rfl (lv_at hl 4 rfl) ?_
          refine va_get (D := D) (ci := 4) (v := .ref r1) (C := RX5) (T := TX5) (N := 3) hx hb hts hi_X5 hown hK hP 0 rfl rfl 0 (by decide) hf_10 (fun _ h9 => h9) rfl dX5_nextBit_77 ?_
          refine lv_bipush (v := 18) hx hb dX5_nextBit_80 (by decide) ?_
          refine ct_callVi (As := [.int 18]) (rest := []) (wr := [(h0, .inr (4, [.ref r1, .ref r2, .ref r3])), (r2, .inr (1, [.long ((ss_y σ).1), .long ((ss_y σ).2)])), (r3, .inr (1, [.long ((ss_z σ).1), .long ((ss_z σ).2)]))]) (ws2 := [(h0, .inr (4, [.ref r1, .ref r2, .ref r3])), (r1, .inr (1, [.long ((ss_x σ).1), .long ((ss_x σ).2)])), (r2, .inr (1, [.long ((ss_y σ).1), .long ((ss_y σ).2)])), (r3, .inr (1, [.long ((ss_z σ).1), .long ((ss_z σ).2)]))]) ⟨hx, hb, hml, hown, hts⟩ (c_at l D r1 (ss_x σ) 18) cw_X1_at [] rfl [1] [0, 2, 3] [0, 3, 1, 2] hK hP hD hS hA 0 1 rfl rfl rfl rfl (by decide) rfl (by decide) (by decide) rfl (by decide) rfl hl.1 rfl (Nat.le_of_ble_eq_true rfl) dX5_nextBit_82 ⟨Nat.zero_le _, Nat.zero_le _⟩ (fun H locs hP hD hS => ?_)
          refine lv_aload_n hx hb dX5_nextBit_85 rfl (lv_at hl 4 rfl) ?_
          refine va_get (D := D) (ci := 4) (v := .ref r2) (C := RX5) (T := TX5) (N := 3) hx hb hts hi_X5 hown hK hP 0 rfl rfl 1 (by decide) hf_16 (fun _ h9 => h9) rfl dX5_nextBit_86 ?_
          refine lv_bipush (v := 21) hx hb dX5_nextBit_89 (by decide) ?_
          refine ct_callVi (As := [.int 21]) (rest := [.int (rg_at (ss_x σ) 18)]) (wr := [(h0, .inr (4, [.ref r1, .ref r2, .ref r3])), (r1, .inr (1, [.long ((ss_x σ).1), .long ((ss_x σ).2)])), (r3, .inr (1, [.long ((ss_z σ).1), .long ((ss_z σ).2)]))]) (ws2 := [(h0, .inr (4, [.ref r1, .ref r2, .ref r3])), (r1, .inr (1, [.long ((ss_x σ).1), .long ((ss_x σ).2)])), (r2, .inr (1, [.long ((ss_y σ).1), .long ((ss_y σ).2)])), (r3, .inr (1, [.long ((ss_z σ).1), .long ((ss_z σ).2)]))]) ⟨hx, hb, hml, hown, hts⟩ (c_at l D r2 (ss_y σ) 21) cw_X1_at [] rfl [2] [0, 1, 3] [0, 1, 3, 2] hK hP hD hS hA 0 1 rfl rfl rfl rfl (by decide) rfl (by decide) (by decide) rfl (by decide) rfl hl.1 rfl (Nat.le_of_ble_eq_true rfl) dX5_nextBit_91 ⟨Nat.zero_le _, Nat.zero_le _⟩ (fun H locs hP hD hS => ?_)
          refine lv_ixor hx hb dX5_nextBit_94 ?_
          refine lv_aload_n hx hb dX5_nextBit_95 rfl (lv_at hl 4 rfl) ?_
          refine va_get (D := D) (ci := 4) (v := .ref r3) (C := RX5) (T := TX5) (N := 3) hx hb hts hi_X5 hown hK hP 0 rfl rfl 2 (by decide) hf_19 (fun _ h9 => h9) rfl dX5_nextBit_96 ?_
          refine lv_bipush (v := 22) hx hb dX5_nextBit_99 (by decide) ?_
          refine ct_callVi (As := [.int 22]) (rest := [.int ((rg_at (ss_x σ) 18) ^^^ (rg_at (ss_y σ) 21))]) (wr := [(h0, .inr (4, [.ref r1, .ref r2, .ref r3])), (r1, .inr (1, [.long ((ss_x σ).1), .long ((ss_x σ).2)])), (r2, .inr (1, [.long ((ss_y σ).1), .long ((ss_y σ).2)]))]) (ws2 := [(h0, .inr (4, [.ref r1, .ref r2, .ref r3])), (r1, .inr (1, [.long ((ss_x σ).1), .long ((ss_x σ).2)])), (r2, .inr (1, [.long ((ss_y σ).1), .long ((ss_y σ).2)])), (r3, .inr (1, [.long ((ss_z σ).1), .long ((ss_z σ).2)]))]) ⟨hx, hb, hml, hown, hts⟩ (c_at l D r3 (ss_z σ) 22) cw_X1_at [] rfl [3] [0, 1, 2] [0, 1, 2, 3] hK hP hD hS hA 0 1 rfl rfl rfl rfl (by decide) rfl (by decide) (by decide) rfl (by decide) rfl hl.1 rfl (Nat.le_of_ble_eq_true rfl) dX5_nextBit_101 ⟨Nat.zero_le _, Nat.zero_le _⟩ (fun H locs hP hD hS => ?_)
          refine lv_ixor hx hb dX5_nextBit_104 ?_
          exact ct_zret hx hb hr hlk hP hK hD hS rfl rfl dX5_nextBit_105
    · refine lv_aload_n hx hb dX5_nextBit_52 rfl (lv_at hl 4 rfl) ?_
      refine ct_callVv (As := []) (rest := []) (wr := [(r2, .inr (1, [.long σ.2.1.1, .long σ.2.1.2])), (r3, .inr (1, [.long σ.2.2.1, .long σ.2.2.2]))]) (ws2 := [(h0, .inr (4, [.ref r1, .ref r2, .ref r3])), (r1, .inr (1, [.long ((ss_gx σ.1).1), .long ((ss_gx σ.1).2)])), (r2, .inr (1, [.long σ.2.1.1, .long σ.2.1.2])), (r3, .inr (1, [.long σ.2.2.1, .long σ.2.2.2]))]) ⟨hx, hb, hml, hown, hts⟩ (c_goX l D h0 r1 r2 r3 σ.1) cw_X5_goX [] rfl [0, 1] [2, 3] [2, 3, 0, 1] hK hP hD hS hA 0 4 rfl rfl rfl rfl (by decide) rfl (by decide) (by decide) rfl (by decide) rfl hl.1 rfl (Nat.le_of_ble_eq_true rfl) dX5_nextBit_53 ⟨Nat.zero_le _, Nat.zero_le _⟩ (fun H locs hP hD hS => ?_)
      have hP : va_P D vwCl [(h0, .inr (4, [.ref r1, .ref r2, .ref r3])), (r1, .inr (1, [.long ((ss_x σ).1), .long ((ss_x σ).2)])), (r2, .inr (1, [.long σ.2.1.1, .long σ.2.1.2])), (r3, .inr (1, [.long σ.2.2.1, .long σ.2.2.2]))] H := by rw [ss_x, if_pos c_49_9]; exact hP
      have hD : va_D A [(h0, .inr (4, [.ref r1, .ref r2, .ref r3])), (r1, .inr (1, [.long ((ss_x σ).1), .long ((ss_x σ).2)])), (r2, .inr (1, [.long σ.2.1.1, .long σ.2.1.2])), (r3, .inr (1, [.long σ.2.2.1, .long σ.2.2.2]))] := by rw [ss_x, if_pos c_49_9]; exact hD
      refine lv_iload_n hx hb dX5_nextBit_56 rfl (lv_at hl 2 rfl) ?_
      refine lv_iload hx hb dX5_nextBit_57 (lv_at hl 0 rfl) ?_
      refine lv_icmp_ne (tgt := 66) hx hb dX5_nextBit_59 (by decide) (fun c_59_13 => ?_) (fun c_59_13 => ?_)
      · have hP : va_P D vwCl [(h0, .inr (4, [.ref r1, .ref r2, .ref r3])), (r1, .inr (1, [.long ((ss_x σ).1), .long ((ss_x σ).2)])), (r2, .inr (1, [.long ((ss_y σ).1), .long ((ss_y σ).2)])), (r3, .inr (1, [.long σ.2.2.1, .long σ.2.2.2]))] H := by rw [ss_y, if_neg c_59_13]; exact hP
        have hD : va_D A [(h0, .inr (4, [.ref r1, .ref r2, .ref r3])), (r1, .inr (1, [.long ((ss_x σ).1), .long ((ss_x σ).2)])), (r2, .inr (1, [.long ((ss_y σ).1), .long ((ss_y σ).2)])), (r3, .inr (1, [.long σ.2.2.1, .long σ.2.2.2]))] := by rw [ss_y, if_neg c_59_13]; exact hD
        refine lv_iload_n hx hb dX5_nextBit_66 rfl (lv_at hl 1 rfl) ?_
        refine lv_iload hx hb dX5_nextBit_67 (lv_at hl 0 rfl) ?_
        refine lv_icmp_ne (tgt := 76) hx hb dX5_nextBit_69 (by decide) (fun c_69_14 => ?_) (fun c_69_14 => ?_)
        · have hP : va_P D vwCl [(h0, .inr (4, [.ref r1, .ref r2, .ref r3])), (r1, .inr (1, [.long ((ss_x σ).1), .long ((ss_x σ).2)])), (r2, .inr (1, [.long ((ss_y σ).1), .long ((ss_y σ).2)])), (r3, .inr (1, [.long ((ss_z σ).1), .long ((ss_z σ).2)]))] H := by rw [ss_z, if_neg c_69_14]; exact hP
          have hD : va_D A [(h0, .inr (4, [.ref r1, .ref r2, .ref r3])), (r1, .inr (1, [.long ((ss_x σ).1), .long ((ss_x σ).2)])), (r2, .inr (1, [.long ((ss_y σ).1), .long ((ss_y σ).2)])), (r3, .inr (1, [.long ((ss_z σ).1), .long ((ss_z σ).2)]))] := by rw [ss_z, if_neg c_69_14]; exact hD
          refine lv_aload_n hx hb dX5_nextBit_76 rfl (lv_at hl 4 rfl) ?_
          refine va_get (D := D) (ci := 4) (v := .ref r1) (C := RX5) (T := TX5) (N := 3) hx hb hts hi_X5 hown hK hP 0 rfl rfl 0 (by decide) hf_10 (fun _ h9 => h9) rfl dX5_nextBit_77 ?_
          refine lv_bipush (v := 18) hx hb dX5_nextBit_80 (by decide) ?_
          refine ct_callVi (As := [.int 18]) (rest := []) (wr := [(h0, .inr (4, [.ref r1, .ref r2, .ref r3])), (r2, .inr (1, [.long ((ss_y σ).1), .long ((ss_y σ).2)])), (r3, .inr (1, [.long ((ss_z σ).1), .long ((ss_z σ).2)]))]) (ws2 := [(h0, .inr (4, [.ref r1, .ref r2, .ref r3])), (r1, .inr (1, [.long ((ss_x σ).1), .long ((ss_x σ).2)])), (r2, .inr (1, [.long ((ss_y σ).1), .long ((ss_y σ).2)])), (r3, .inr (1, [.long ((ss_z σ).1), .long ((ss_z σ).2)]))]) ⟨hx, hb, hml, hown, hts⟩ (c_at l D r1 (ss_x σ) 18) cw_X1_at [] rfl [1] [0, 2, 3] [0, 3, 1, 2] hK hP hD hS hA 0 1 rfl rfl rfl rfl (by decide) rfl (by decide) (by decide) rfl (by decide) rfl hl.1 rfl (Nat.le_of_ble_eq_true rfl) dX5_nextBit_82 ⟨Nat.zero_le _, Nat.zero_le _⟩ (fun H locs hP hD hS => ?_)
          refine lv_aload_n hx hb dX5_nextBit_85 rfl (lv_at hl 4 rfl) ?_
          refine va_get (D := D) (ci := 4) (v := .ref r2) (C := RX5) (T := TX5) (N := 3) hx hb hts hi_X5 hown hK hP 0 rfl rfl 1 (by decide) hf_16 (fun _ h9 => h9) rfl dX5_nextBit_86 ?_
          refine lv_bipush (v := 21) hx hb dX5_nextBit_89 (by decide) ?_
          refine ct_callVi (As := [.int 21]) (rest := [.int (rg_at (ss_x σ) 18)]) (wr := [(h0, .inr (4, [.ref r1, .ref r2, .ref r3])), (r1, .inr (1, [.long ((ss_x σ).1), .long ((ss_x σ).2)])), (r3, .inr (1, [.long ((ss_z σ).1), .long ((ss_z σ).2)]))]) (ws2 := [(h0, .inr (4, [.ref r1, .ref r2, .ref r3])), (r1, .inr (1, [.long ((ss_x σ).1), .long ((ss_x σ).2)])), (r2, .inr (1, [.long ((ss_y σ).1), .long ((ss_y σ).2)])), (r3, .inr (1, [.long ((ss_z σ).1), .long ((ss_z σ).2)]))]) ⟨hx, hb, hml, hown, hts⟩ (c_at l D r2 (ss_y σ) 21) cw_X1_at [] rfl [2] [0, 1, 3] [0, 1, 3, 2] hK hP hD hS hA 0 1 rfl rfl rfl rfl (by decide) rfl (by decide) (by decide) rfl (by decide) rfl hl.1 rfl (Nat.le_of_ble_eq_true rfl) dX5_nextBit_91 ⟨Nat.zero_le _, Nat.zero_le _⟩ (fun H locs hP hD hS => ?_)
          refine lv_ixor hx hb dX5_nextBit_94 ?_
          refine lv_aload_n hx hb dX5_nextBit_95 rfl (lv_at hl 4 rfl) ?_
          refine va_get (D := D) (ci := 4) (v := .ref r3) (C := RX5) (T := TX5) (N := 3) hx hb hts hi_X5 hown hK hP 0 rfl rfl 2 (by decide) hf_19 (fun _ h9 => h9) rfl dX5_nextBit_96 ?_
          refine lv_bipush (v := 22) hx hb dX5_nextBit_99 (by decide) ?_
          refine ct_callVi (As := [.int 22]) (rest := [.int ((rg_at (ss_x σ) 18) ^^^ (rg_at (ss_y σ) 21))]) (wr := [(h0, .inr (4, [.ref r1, .ref r2, .ref r3])), (r1, .inr (1, [.long ((ss_x σ).1), .long ((ss_x σ).2)])), (r2, .inr (1, [.long ((ss_y σ).1), .long ((ss_y σ).2)]))]) (ws2 := [(h0, .inr (4, [.ref r1, .ref r2, .ref r3])), (r1, .inr (1, [.long ((ss_x σ).1), .long ((ss_x σ).2)])), (r2, .inr (1, [.long ((ss_y σ).1), .long ((ss_y σ).2)])), (r3, .inr (1, [.long ((ss_z σ).1), .long ((ss_z σ).2)]))]) ⟨hx, hb, hml, hown, hts⟩ (c_at l D r3 (ss_z σ) 22) cw_X1_at [] rfl [3] [0, 1, 2] [0, 1, 2, 3] hK hP hD hS hA 0 1 rfl rfl rfl rfl (by decide) rfl (by decide) (by decide) rfl (by decide) rfl hl.1 rfl (Nat.le_of_ble_eq_true rfl) dX5_nextBit_101 ⟨Nat.zero_le _, Nat.zero_le _⟩ (fun H locs hP hD hS => ?_)
          refine lv_ixor hx hb dX5_nextBit_104 ?_
          exact ct_zret hx hb hr hlk hP hK hD hS rfl rfl dX5_nextBit_105
        · refine lv_aload_n hx hb dX5_nextBit_72 rfl (lv_at hl 4 rfl) ?_
          refine ct_callVv (As := []) (rest := []) (wr := [(r1, .inr (1, [.long ((ss_x σ).1), .long ((ss_x σ).2)])), (r2, .inr (1, [.long ((ss_y σ).1), .long ((ss_y σ).2)]))]) (ws2 := [(h0, .inr (4, [.ref r1, .ref r2, .ref r3])), (r1, .inr (1, [.long ((ss_x σ).1), .long ((ss_x σ).2)])), (r2, .inr (1, [.long ((ss_y σ).1), .long ((ss_y σ).2)])), (r3, .inr (1, [.long ((ss_gz σ.2.2).1), .long ((ss_gz σ.2.2).2)]))]) ⟨hx, hb, hml, hown, hts⟩ (c_goZ l D h0 r1 r2 r3 σ.2.2) cw_X5_goZ [] rfl [0, 3] [1, 2] [2, 0, 1, 3] hK hP hD hS hA 0 4 rfl rfl rfl rfl (by decide) rfl (by decide) (by decide) rfl (by decide) rfl hl.1 rfl (Nat.le_of_ble_eq_true rfl) dX5_nextBit_73 ⟨Nat.zero_le _, Nat.zero_le _⟩ (fun H locs hP hD hS => ?_)
          have hP : va_P D vwCl [(h0, .inr (4, [.ref r1, .ref r2, .ref r3])), (r1, .inr (1, [.long ((ss_x σ).1), .long ((ss_x σ).2)])), (r2, .inr (1, [.long ((ss_y σ).1), .long ((ss_y σ).2)])), (r3, .inr (1, [.long ((ss_z σ).1), .long ((ss_z σ).2)]))] H := by rw [ss_z, if_pos c_69_14]; exact hP
          have hD : va_D A [(h0, .inr (4, [.ref r1, .ref r2, .ref r3])), (r1, .inr (1, [.long ((ss_x σ).1), .long ((ss_x σ).2)])), (r2, .inr (1, [.long ((ss_y σ).1), .long ((ss_y σ).2)])), (r3, .inr (1, [.long ((ss_z σ).1), .long ((ss_z σ).2)]))] := by rw [ss_z, if_pos c_69_14]; exact hD
          refine lv_aload_n hx hb dX5_nextBit_76 rfl (lv_at hl 4 rfl) ?_
          refine va_get (D := D) (ci := 4) (v := .ref r1) (C := RX5) (T := TX5) (N := 3) hx hb hts hi_X5 hown hK hP 0 rfl rfl 0 (by decide) hf_10 (fun _ h9 => h9) rfl dX5_nextBit_77 ?_
          refine lv_bipush (v := 18) hx hb dX5_nextBit_80 (by decide) ?_
          refine ct_callVi (As := [.int 18]) (rest := []) (wr := [(h0, .inr (4, [.ref r1, .ref r2, .ref r3])), (r2, .inr (1, [.long ((ss_y σ).1), .long ((ss_y σ).2)])), (r3, .inr (1, [.long ((ss_z σ).1), .long ((ss_z σ).2)]))]) (ws2 := [(h0, .inr (4, [.ref r1, .ref r2, .ref r3])), (r1, .inr (1, [.long ((ss_x σ).1), .long ((ss_x σ).2)])), (r2, .inr (1, [.long ((ss_y σ).1), .long ((ss_y σ).2)])), (r3, .inr (1, [.long ((ss_z σ).1), .long ((ss_z σ).2)]))]) ⟨hx, hb, hml, hown, hts⟩ (c_at l D r1 (ss_x σ) 18) cw_X1_at [] rfl [1] [0, 2, 3] [0, 3, 1, 2] hK hP hD hS hA 0 1 rfl rfl rfl rfl (by decide) rfl (by decide) (by decide) rfl (by decide) rfl hl.1 rfl (Nat.le_of_ble_eq_true rfl) dX5_nextBit_82 ⟨Nat.zero_le _, Nat.zero_le _⟩ (fun H locs hP hD hS => ?_)
          refine lv_aload_n hx hb dX5_nextBit_85 rfl (lv_at hl 4 rfl) ?_
          refine va_get (D := D) (ci := 4) (v := .ref r2) (C := RX5) (T := TX5) (N := 3) hx hb hts hi_X5 hown hK hP 0 rfl rfl 1 (by decide) hf_16 (fun _ h9 => h9) rfl dX5_nextBit_86 ?_
          refine lv_bipush (v := 21) hx hb dX5_nextBit_89 (by decide) ?_
          refine ct_callVi (As := [.int 21]) (rest := [.int (rg_at (ss_x σ) 18)]) (wr := [(h0, .inr (4, [.ref r1, .ref r2, .ref r3])), (r1, .inr (1, [.long ((ss_x σ).1), .long ((ss_x σ).2)])), (r3, .inr (1, [.long ((ss_z σ).1), .long ((ss_z σ).2)]))]) (ws2 := [(h0, .inr (4, [.ref r1, .ref r2, .ref r3])), (r1, .inr (1, [.long ((ss_x σ).1), .long ((ss_x σ).2)])), (r2, .inr (1, [.long ((ss_y σ).1), .long ((ss_y σ).2)])), (r3, .inr (1, [.long ((ss_z σ).1), .long ((ss_z σ).2)]))]) ⟨hx, hb, hml, hown, hts⟩ (c_at l D r2 (ss_y σ) 21) cw_X1_at [] rfl [2] [0, 1, 3] [0, 1, 3, 2] hK hP hD hS hA 0 1 rfl rfl rfl rfl (by decide) rfl (by decide) (by decide) rfl (by decide) rfl hl.1 rfl (Nat.le_of_ble_eq_true rfl) dX5_nextBit_91 ⟨Nat.zero_le _, Nat.zero_le _⟩ (fun H locs hP hD hS => ?_)
          refine lv_ixor hx hb dX5_nextBit_94 ?_
          refine lv_aload_n hx hb dX5_nextBit_95 rfl (lv_at hl 4 rfl) ?_
          refine va_get (D := D) (ci := 4) (v := .ref r3) (C := RX5) (T := TX5) (N := 3) hx hb hts hi_X5 hown hK hP 0 rfl rfl 2 (by decide) hf_19 (fun _ h9 => h9) rfl dX5_nextBit_96 ?_
          refine lv_bipush (v := 22) hx hb dX5_nextBit_99 (by decide) ?_
          refine ct_callVi (As := [.int 22]) (rest := [.int ((rg_at (ss_x σ) 18) ^^^ (rg_at (ss_y σ) 21))]) (wr := [(h0, .inr (4, [.ref r1, .ref r2, .ref r3])), (r1, .inr (1, [.long ((ss_x σ).1), .long ((ss_x σ).2)])), (r2, .inr (1, [.long ((ss_y σ).1), .long ((ss_y σ).2)]))]) (ws2 := [(h0, .inr (4, [.ref r1, .ref r2, .ref r3])), (r1, .inr (1, [.long ((ss_x σ).1), .long ((ss_x σ).2)])), (r2, .inr (1, [.long ((ss_y σ).1), .long ((ss_y σ).2)])), (r3, .inr (1, [.long ((ss_z σ).1), .long ((ss_z σ).2)]))]) ⟨hx, hb, hml, hown, hts⟩ (c_at l D r3 (ss_z σ) 22) cw_X1_at [] rfl [3] [0, 1, 2] [0, 1, 2, 3] hK hP hD hS hA 0 1 rfl rfl rfl rfl (by decide) rfl (by decide) (by decide) rfl (by decide) rfl hl.1 rfl (Nat.le_of_ble_eq_true rfl) dX5_nextBit_101 ⟨Nat.zero_le _, Nat.zero_le _⟩ (fun H locs hP hD hS => ?_)
          refine lv_ixor hx hb dX5_nextBit_104 ?_
          exact ct_zret hx hb hr hlk hP hK hD hS rfl rfl dX5_nextBit_105
      · refine lv_aload_n hx hb dX5_nextBit_62 rfl (lv_at hl 4 rfl) ?_
        refine ct_callVv (As := []) (rest := []) (wr := [(r1, .inr (1, [.long ((ss_x σ).1), .long ((ss_x σ).2)])), (r3, .inr (1, [.long σ.2.2.1, .long σ.2.2.2]))]) (ws2 := [(h0, .inr (4, [.ref r1, .ref r2, .ref r3])), (r1, .inr (1, [.long ((ss_x σ).1), .long ((ss_x σ).2)])), (r2, .inr (1, [.long ((ss_gy σ.2.1).1), .long ((ss_gy σ.2.1).2)])), (r3, .inr (1, [.long σ.2.2.1, .long σ.2.2.2]))]) ⟨hx, hb, hml, hown, hts⟩ (c_goY l D h0 r1 r2 r3 σ.2.1) cw_X5_goY [] rfl [0, 2] [1, 3] [2, 0, 3, 1] hK hP hD hS hA 0 4 rfl rfl rfl rfl (by decide) rfl (by decide) (by decide) rfl (by decide) rfl hl.1 rfl (Nat.le_of_ble_eq_true rfl) dX5_nextBit_63 ⟨Nat.zero_le _, Nat.zero_le _⟩ (fun H locs hP hD hS => ?_)
        have hP : va_P D vwCl [(h0, .inr (4, [.ref r1, .ref r2, .ref r3])), (r1, .inr (1, [.long ((ss_x σ).1), .long ((ss_x σ).2)])), (r2, .inr (1, [.long ((ss_y σ).1), .long ((ss_y σ).2)])), (r3, .inr (1, [.long σ.2.2.1, .long σ.2.2.2]))] H := by rw [ss_y, if_pos c_59_13]; exact hP
        have hD : va_D A [(h0, .inr (4, [.ref r1, .ref r2, .ref r3])), (r1, .inr (1, [.long ((ss_x σ).1), .long ((ss_x σ).2)])), (r2, .inr (1, [.long ((ss_y σ).1), .long ((ss_y σ).2)])), (r3, .inr (1, [.long σ.2.2.1, .long σ.2.2.2]))] := by rw [ss_y, if_pos c_59_13]; exact hD
        refine lv_iload_n hx hb dX5_nextBit_66 rfl (lv_at hl 1 rfl) ?_
        refine lv_iload hx hb dX5_nextBit_67 (lv_at hl 0 rfl) ?_
        refine lv_icmp_ne (tgt := 76) hx hb dX5_nextBit_69 (by decide) (fun c_69_15 => ?_) (fun c_69_15 => ?_)
        · have hP : va_P D vwCl [(h0, .inr (4, [.ref r1, .ref r2, .ref r3])), (r1, .inr (1, [.long ((ss_x σ).1), .long ((ss_x σ).2)])), (r2, .inr (1, [.long ((ss_y σ).1), .long ((ss_y σ).2)])), (r3, .inr (1, [.long ((ss_z σ).1), .long ((ss_z σ).2)]))] H := by rw [ss_z, if_neg c_69_15]; exact hP
          have hD : va_D A [(h0, .inr (4, [.ref r1, .ref r2, .ref r3])), (r1, .inr (1, [.long ((ss_x σ).1), .long ((ss_x σ).2)])), (r2, .inr (1, [.long ((ss_y σ).1), .long ((ss_y σ).2)])), (r3, .inr (1, [.long ((ss_z σ).1), .long ((ss_z σ).2)]))] := by rw [ss_z, if_neg c_69_15]; exact hD
          refine lv_aload_n hx hb dX5_nextBit_76 rfl (lv_at hl 4 rfl) ?_
          refine va_get (D := D) (ci := 4) (v := .ref r1) (C := RX5) (T := TX5) (N := 3) hx hb hts hi_X5 hown hK hP 0 rfl rfl 0 (by decide) hf_10 (fun _ h9 => h9) rfl dX5_nextBit_77 ?_
          refine lv_bipush (v := 18) hx hb dX5_nextBit_80 (by decide) ?_
          refine ct_callVi (As := [.int 18]) (rest := []) (wr := [(h0, .inr (4, [.ref r1, .ref r2, .ref r3])), (r2, .inr (1, [.long ((ss_y σ).1), .long ((ss_y σ).2)])), (r3, .inr (1, [.long ((ss_z σ).1), .long ((ss_z σ).2)]))]) (ws2 := [(h0, .inr (4, [.ref r1, .ref r2, .ref r3])), (r1, .inr (1, [.long ((ss_x σ).1), .long ((ss_x σ).2)])), (r2, .inr (1, [.long ((ss_y σ).1), .long ((ss_y σ).2)])), (r3, .inr (1, [.long ((ss_z σ).1), .long ((ss_z σ).2)]))]) ⟨hx, hb, hml, hown, hts⟩ (c_at l D r1 (ss_x σ) 18) cw_X1_at [] rfl [1] [0, 2, 3] [0, 3, 1, 2] hK hP hD hS hA 0 1 rfl rfl rfl rfl (by decide) rfl (by decide) (by decide) rfl (by decide) rfl hl.1 rfl (Nat.le_of_ble_eq_true rfl) dX5_nextBit_82 ⟨Nat.zero_le _, Nat.zero_le _⟩ (fun H locs hP hD hS => ?_)
          refine lv_aload_n hx hb dX5_nextBit_85 rfl (lv_at hl 4 rfl) ?_
          refine va_get (D := D) (ci := 4) (v := .ref r2) (C := RX5) (T := TX5) (N := 3) hx hb hts hi_X5 hown hK hP 0 rfl rfl 1 (by decide) hf_16 (fun _ h9 => h9) rfl dX5_nextBit_86 ?_
          refine lv_bipush (v := 21) hx hb dX5_nextBit_89 (by decide) ?_
          refine ct_callVi (As := [.int 21]) (rest := [.int (rg_at (ss_x σ) 18)]) (wr := [(h0, .inr (4, [.ref r1, .ref r2, .ref r3])), (r1, .inr (1, [.long ((ss_x σ).1), .long ((ss_x σ).2)])), (r3, .inr (1, [.long ((ss_z σ).1), .long ((ss_z σ).2)]))]) (ws2 := [(h0, .inr (4, [.ref r1, .ref r2, .ref r3])), (r1, .inr (1, [.long ((ss_x σ).1), .long ((ss_x σ).2)])), (r2, .inr (1, [.long ((ss_y σ).1), .long ((ss_y σ).2)])), (r3, .inr (1, [.long ((ss_z σ).1), .long ((ss_z σ).2)]))]) ⟨hx, hb, hml, hown, hts⟩ (c_at l D r2 (ss_y σ) 21) cw_X1_at [] rfl [2] [0, 1, 3] [0, 1, 3, 2] hK hP hD hS hA 0 1 rfl rfl rfl rfl (by decide) rfl (by decide) (by decide) rfl (by decide) rfl hl.1 rfl (Nat.le_of_ble_eq_true rfl) dX5_nextBit_91 ⟨Nat.zero_le _, Nat.zero_le _⟩ (fun H locs hP hD hS => ?_)
          refine lv_ixor hx hb dX5_nextBit_94 ?_
          refine lv_aload_n hx hb dX5_nextBit_95 rfl (lv_at hl 4 rfl) ?_
          refine va_get (D := D) (ci := 4) (v := .ref r3) (C := RX5) (T := TX5) (N := 3) hx hb hts hi_X5 hown hK hP 0 rfl rfl 2 (by decide) hf_19 (fun _ h9 => h9) rfl dX5_nextBit_96 ?_
          refine lv_bipush (v := 22) hx hb dX5_nextBit_99 (by decide) ?_
          refine ct_callVi (As := [.int 22]) (rest := [.int ((rg_at (ss_x σ) 18) ^^^ (rg_at (ss_y σ) 21))]) (wr := [(h0, .inr (4, [.ref r1, .ref r2, .ref r3])), (r1, .inr (1, [.long ((ss_x σ).1), .long ((ss_x σ).2)])), (r2, .inr (1, [.long ((ss_y σ).1), .long ((ss_y σ).2)]))]) (ws2 := [(h0, .inr (4, [.ref r1, .ref r2, .ref r3])), (r1, .inr (1, [.long ((ss_x σ).1), .long ((ss_x σ).2)])), (r2, .inr (1, [.long ((ss_y σ).1), .long ((ss_y σ).2)])), (r3, .inr (1, [.long ((ss_z σ).1), .long ((ss_z σ).2)]))]) ⟨hx, hb, hml, hown, hts⟩ (c_at l D r3 (ss_z σ) 22) cw_X1_at [] rfl [3] [0, 1, 2] [0, 1, 2, 3] hK hP hD hS hA 0 1 rfl rfl rfl rfl (by decide) rfl (by decide) (by decide) rfl (by decide) rfl hl.1 rfl (Nat.le_of_ble_eq_true rfl) dX5_nextBit_101 ⟨Nat.zero_le _, Nat.zero_le _⟩ (fun H locs hP hD hS => ?_)
          refine lv_ixor hx hb dX5_nextBit_104 ?_
          exact ct_zret hx hb hr hlk hP hK hD hS rfl rfl dX5_nextBit_105
        · refine lv_aload_n hx hb dX5_nextBit_72 rfl (lv_at hl 4 rfl) ?_
          refine ct_callVv (As := []) (rest := []) (wr := [(r1, .inr (1, [.long ((ss_x σ).1), .long ((ss_x σ).2)])), (r2, .inr (1, [.long ((ss_y σ).1), .long ((ss_y σ).2)]))]) (ws2 := [(h0, .inr (4, [.ref r1, .ref r2, .ref r3])), (r1, .inr (1, [.long ((ss_x σ).1), .long ((ss_x σ).2)])), (r2, .inr (1, [.long ((ss_y σ).1), .long ((ss_y σ).2)])), (r3, .inr (1, [.long ((ss_gz σ.2.2).1), .long ((ss_gz σ.2.2).2)]))]) ⟨hx, hb, hml, hown, hts⟩ (c_goZ l D h0 r1 r2 r3 σ.2.2) cw_X5_goZ [] rfl [0, 3] [1, 2] [2, 0, 1, 3] hK hP hD hS hA 0 4 rfl rfl rfl rfl (by decide) rfl (by decide) (by decide) rfl (by decide) rfl hl.1 rfl (Nat.le_of_ble_eq_true rfl) dX5_nextBit_73 ⟨Nat.zero_le _, Nat.zero_le _⟩ (fun H locs hP hD hS => ?_)
          have hP : va_P D vwCl [(h0, .inr (4, [.ref r1, .ref r2, .ref r3])), (r1, .inr (1, [.long ((ss_x σ).1), .long ((ss_x σ).2)])), (r2, .inr (1, [.long ((ss_y σ).1), .long ((ss_y σ).2)])), (r3, .inr (1, [.long ((ss_z σ).1), .long ((ss_z σ).2)]))] H := by rw [ss_z, if_pos c_69_15]; exact hP
          have hD : va_D A [(h0, .inr (4, [.ref r1, .ref r2, .ref r3])), (r1, .inr (1, [.long ((ss_x σ).1), .long ((ss_x σ).2)])), (r2, .inr (1, [.long ((ss_y σ).1), .long ((ss_y σ).2)])), (r3, .inr (1, [.long ((ss_z σ).1), .long ((ss_z σ).2)]))] := by rw [ss_z, if_pos c_69_15]; exact hD
          refine lv_aload_n hx hb dX5_nextBit_76 rfl (lv_at hl 4 rfl) ?_
          refine va_get (D := D) (ci := 4) (v := .ref r1) (C := RX5) (T := TX5) (N := 3) hx hb hts hi_X5 hown hK hP 0 rfl rfl 0 (by decide) hf_10 (fun _ h9 => h9) rfl dX5_nextBit_77 ?_
          refine lv_bipush (v := 18) hx hb dX5_nextBit_80 (by decide) ?_
          refine ct_callVi (As := [.int 18]) (rest := []) (wr := [(h0, .inr (4, [.ref r1, .ref r2, .ref r3])), (r2, .inr (1, [.long ((ss_y σ).1), .long ((ss_y σ).2)])), (r3, .inr (1, [.long ((ss_z σ).1), .long ((ss_z σ).2)]))]) (ws2 := [(h0, .inr (4, [.ref r1, .ref r2, .ref r3])), (r1, .inr (1, [.long ((ss_x σ).1), .long ((ss_x σ).2)])), (r2, .inr (1, [.long ((ss_y σ).1), .long ((ss_y σ).2)])), (r3, .inr (1, [.long ((ss_z σ).1), .long ((ss_z σ).2)]))]) ⟨hx, hb, hml, hown, hts⟩ (c_at l D r1 (ss_x σ) 18) cw_X1_at [] rfl [1] [0, 2, 3] [0, 3, 1, 2] hK hP hD hS hA 0 1 rfl rfl rfl rfl (by decide) rfl (by decide) (by decide) rfl (by decide) rfl hl.1 rfl (Nat.le_of_ble_eq_true rfl) dX5_nextBit_82 ⟨Nat.zero_le _, Nat.zero_le _⟩ (fun H locs hP hD hS => ?_)
          refine lv_aload_n hx hb dX5_nextBit_85 rfl (lv_at hl 4 rfl) ?_
          refine va_get (D := D) (ci := 4) (v := .ref r2) (C := RX5) (T := TX5) (N := 3) hx hb hts hi_X5 hown hK hP 0 rfl rfl 1 (by decide) hf_16 (fun _ h9 => h9) rfl dX5_nextBit_86 ?_
          refine lv_bipush (v := 21) hx hb dX5_nextBit_89 (by decide) ?_
          refine ct_callVi (As := [.int 21]) (rest := [.int (rg_at (ss_x σ) 18)]) (wr := [(h0, .inr (4, [.ref r1, .ref r2, .ref r3])), (r1, .inr (1, [.long ((ss_x σ).1), .long ((ss_x σ).2)])), (r3, .inr (1, [.long ((ss_z σ).1), .long ((ss_z σ).2)]))]) (ws2 := [(h0, .inr (4, [.ref r1, .ref r2, .ref r3])), (r1, .inr (1, [.long ((ss_x σ).1), .long ((ss_x σ).2)])), (r2, .inr (1, [.long ((ss_y σ).1), .long ((ss_y σ).2)])), (r3, .inr (1, [.long ((ss_z σ).1), .long ((ss_z σ).2)]))]) ⟨hx, hb, hml, hown, hts⟩ (c_at l D r2 (ss_y σ) 21) cw_X1_at [] rfl [2] [0, 1, 3] [0, 1, 3, 2] hK hP hD hS hA 0 1 rfl rfl rfl rfl (by decide) rfl (by decide) (by decide) rfl (by decide) rfl hl.1 rfl (Nat.le_of_ble_eq_true rfl) dX5_nextBit_91 ⟨Nat.zero_le _, Nat.zero_le _⟩ (fun H locs hP hD hS => ?_)
          refine lv_ixor hx hb dX5_nextBit_94 ?_
          refine lv_aload_n hx hb dX5_nextBit_95 rfl (lv_at hl 4 rfl) ?_
          refine va_get (D := D) (ci := 4) (v := .ref r3) (C := RX5) (T := TX5) (N := 3) hx hb hts hi_X5 hown hK hP 0 rfl rfl 2 (by decide) hf_19 (fun _ h9 => h9) rfl dX5_nextBit_96 ?_
          refine lv_bipush (v := 22) hx hb dX5_nextBit_99 (by decide) ?_
          refine ct_callVi (As := [.int 22]) (rest := [.int ((rg_at (ss_x σ) 18) ^^^ (rg_at (ss_y σ) 21))]) (wr := [(h0, .inr (4, [.ref r1, .ref r2, .ref r3])), (r1, .inr (1, [.long ((ss_x σ).1), .long ((ss_x σ).2)])), (r2, .inr (1, [.long ((ss_y σ).1), .long ((ss_y σ).2)]))]) (ws2 := [(h0, .inr (4, [.ref r1, .ref r2, .ref r3])), (r1, .inr (1, [.long ((ss_x σ).1), .long ((ss_x σ).2)])), (r2, .inr (1, [.long ((ss_y σ).1), .long ((ss_y σ).2)])), (r3, .inr (1, [.long ((ss_z σ).1), .long ((ss_z σ).2)]))]) ⟨hx, hb, hml, hown, hts⟩ (c_at l D r3 (ss_z σ) 22) cw_X1_at [] rfl [3] [0, 1, 2] [0, 1, 2, 3] hK hP hD hS hA 0 1 rfl rfl rfl rfl (by decide) rfl (by decide) (by decide) rfl (by decide) rfl hl.1 rfl (Nat.le_of_ble_eq_true rfl) dX5_nextBit_101 ⟨Nat.zero_le _, Nat.zero_le _⟩ (fun H locs hP hD hS => ?_)
          refine lv_ixor hx hb dX5_nextBit_104 ?_
          exact ct_zret hx hb hr hlk hP hK hD hS rfl rfl dX5_nextBit_105
set_option maxHeartbeats 4000000 in
set_option maxRecDepth 100000 in
/-- ThreeThatStop.load -/
theorem c_ss_load (l : Launch) (D : va_G) (h0 r1 r2 r3 : Nat) (kb kq sb sq : Nat) (kA sA : ClassId) (kN kz sN sz : Nat) (hkz : kz ≤ kN) (hkN : kN < 2 ^ 31) (hsz : sz ≤ sN) (hsN : sN < 2 ^ 31) (f g : Nat → Int32) (τ : R6) : Ctv l D yX5_load wsX5_load ({ frames := 3, cells := 0, slots := 0, locals := 65 } : Room) [.ref h0, .ref kb, .ref sb] [(kA, .int), (sA, .int)] [(h0, .inr (4, [.ref r1, .ref r2, .ref r3])), (r1, .inr (1, [.long τ.1.1, .long τ.1.2])), (r2, .inr (1, [.long τ.2.1.1, .long τ.2.1.2])), (r3, .inr (1, [.long τ.2.2.1, .long τ.2.2.2])), (kb, .inr (0, [.ref kq, .int (nI kz)])), (kq, .inl (kA, kN, .inl f)), (sb, .inr (0, [.ref sq, .int (nI sz)])), (sq, .inl (sA, sN, .inl g))] [(h0, .inr (4, [.ref r1, .ref r2, .ref r3])), (r1, .inr (1, [.long (((ss_load f (nI kz) g (nI sz)).1).1), .long (((ss_load f (nI kz) g (nI sz)).1).2)])), (r2, .inr (1, [.long (((ss_load f (nI kz) g (nI sz)).2.1).1), .long (((ss_load f (nI kz) g (nI sz)).2.1).2)])), (r3, .inr (1, [.long (((ss_load f (nI kz) g (nI sz)).2.2).1), .long (((ss_load f (nI kz) g (nI sz)).2.2).2)])), (kb, .inr (0, [.ref kq, .int (nI kz)])), (kq, .inl (kA, kN, .inl f)), (sb, .inr (0, [.ref sq, .int (nI sz)])), (sq, .inl (sA, sN, .inl g))] := by
  refine ct_of (cc := cX5_load) (maxL := 4) (ret := none) (by decide) rfl (Nat.le_of_ble_eq_true rfl) ?_
  intro p e s m below meth c A H locs ls hx hb hr hml hts hown hlk hnm hP hK hD hA hS hl
  have hown : s.vm.findClass RX5 = some m.cls := hown
  have hl : lv_has ls 4 [(0, .ref h0), (1, .ref kb), (2, .ref sb)] := hl
  have hf_10 := hts (.fieldLink RX5 10 "BitStreams$ThreeThatStop" "x" "LBitStreams$Cells;") (by decide +kernel)
  have hi_X5 : ∀ w ∈ u_ws RX5 TX5 3, w ∈ wsX5_load := by decide +kernel
  have cw_X1_clear := cwV (R := ({ frames := 3, cells := 0, slots := 0, locals := 65 } : Room)) (rm := ({ frames := 0, cells := 0, slots := 0, locals := 0 } : Room)) 0 hts gX5_load_X1_clear rfl rfl rfl (by decide +kernel) ⟨Nat.le_of_ble_eq_true rfl, Nat.le_of_ble_eq_true rfl⟩
  have hf_16 := hts (.fieldLink RX5 16 "BitStreams$ThreeThatStop" "y" "LBitStreams$Cells;") (by decide +kernel)
  have hf_19 := hts (.fieldLink RX5 19 "BitStreams$ThreeThatStop" "z" "LBitStreams$Cells;") (by decide +kernel)
  have cw_X0_bit := cwV (R := ({ frames := 3, cells := 0, slots := 0, locals := 65 } : Room)) (rm := ({ frames := 1, cells := 0, slots := 0, locals := 21 } : Room)) 1 hts gX5_load_X0_bit rfl rfl rfl (by decide +kernel) ⟨Nat.le_of_ble_eq_true rfl, Nat.le_of_ble_eq_true rfl⟩
  have cw_X5_feed := cwV (R := ({ frames := 3, cells := 0, slots := 0, locals := 65 } : Room)) (rm := ({ frames := 2, cells := 0, slots := 0, locals := 41 } : Room)) 1 hts gX5_load_X5_feed rfl rfl rfl (by decide +kernel) ⟨Nat.le_of_ble_eq_true rfl, Nat.le_of_ble_eq_true rfl⟩
  have cw_X5_nextBit := cwV (R := ({ frames := 3, cells := 0, slots := 0, locals := 65 } : Room)) (rm := ({ frames := 2, cells := 0, slots := 0, locals := 41 } : Room)) 0 hts gX5_load_X5_nextBit rfl rfl rfl (by decide +kernel) ⟨Nat.le_of_ble_eq_true rfl, Nat.le_of_ble_eq_true rfl⟩
  refine lv_aload_n hx hb dX5_load_0 rfl (lv_at hl 0 rfl) ?_
  refine va_get (D := D) (ci := 4) (v := .ref r1) (C := RX5) (T := TX5) (N := 3) hx hb hts hi_X5 hown hK hP 0 rfl rfl 0 (by decide) hf_10 (fun _ h9 => h9) rfl dX5_load_1 ?_
  refine ct_callVv (As := []) (rest := []) (wr := [(h0, .inr (4, [.ref r1, .ref r2, .ref r3])), (r2, .inr (1, [.long τ.2.1.1, .long τ.2.1.2])), (r3, .inr (1, [.long τ.2.2.1, .long τ.2.2.2])), (kb, .inr (0, [.ref kq, .int (nI kz)])), (kq, .inl (kA, kN, .inl f)), (sb, .inr (0, [.ref sq, .int (nI sz)])), (sq, .inl (sA, sN, .inl g))]) (ws2 := [(h0, .inr (4, [.ref r1, .ref r2, .ref r3])), (r1, .inr (1, [.long rg_0.1, .long rg_0.2])), (r2, .inr (1, [.long τ.2.1.1, .long τ.2.1.2])), (r3, .inr (1, [.long τ.2.2.1, .long τ.2.2.2])), (kb, .inr (0, [.ref kq, .int (nI kz)])), (kq, .inl (kA, kN, .inl f)), (sb, .inr (0, [.ref sq, .int (nI sz)])), (sq, .inl (sA, sN, .inl g))]) ⟨hx, hb, hml, hown, hts⟩ (c_clr l D r1 τ.1) cw_X1_clear [] rfl [1] [0, 2, 3, 4, 5, 6, 7] [0, 7, 1, 2, 3, 4, 5, 6] hK hP hD hS hA 0 1 rfl rfl rfl rfl (by decide) rfl (by decide) (by decide) rfl (by decide) rfl hl.1 rfl (Nat.le_of_ble_eq_true rfl) dX5_load_4 ⟨Nat.zero_le _, Nat.zero_le _⟩ (fun H locs hP hD hS => ?_)
  refine lv_aload_n hx hb dX5_load_7 rfl (lv_at hl 0 rfl) ?_
  refine va_get (D := D) (ci := 4) (v := .ref r2) (C := RX5) (T := TX5) (N := 3) hx hb hts hi_X5 hown hK hP 0 rfl rfl 1 (by decide) hf_16 (fun _ h9 => h9) rfl dX5_load_8 ?_
  refine ct_callVv (As := []) (rest := []) (wr := [(h0, .inr (4, [.ref r1, .ref r2, .ref r3])), (r1, .inr (1, [.long rg_0.1, .long rg_0.2])), (r3, .inr (1, [.long τ.2.2.1, .long τ.2.2.2])), (kb, .inr (0, [.ref kq, .int (nI kz)])), (kq, .inl (kA, kN, .inl f)), (sb, .inr (0, [.ref sq, .int (nI sz)])), (sq, .inl (sA, sN, .inl g))]) (ws2 := [(h0, .inr (4, [.ref r1, .ref r2, .ref r3])), (r1, .inr (1, [.long rg_0.1, .long rg_0.2])), (r2, .inr (1, [.long rg_0.1, .long rg_0.2])), (r3, .inr (1, [.long τ.2.2.1, .long τ.2.2.2])), (kb, .inr (0, [.ref kq, .int (nI kz)])), (kq, .inl (kA, kN, .inl f)), (sb, .inr (0, [.ref sq, .int (nI sz)])), (sq, .inl (sA, sN, .inl g))]) ⟨hx, hb, hml, hown, hts⟩ (c_clr l D r2 τ.2.1) cw_X1_clear [] rfl [2] [0, 1, 3, 4, 5, 6, 7] [0, 1, 7, 2, 3, 4, 5, 6] hK hP hD hS hA 0 1 rfl rfl rfl rfl (by decide) rfl (by decide) (by decide) rfl (by decide) rfl hl.1 rfl (Nat.le_of_ble_eq_true rfl) dX5_load_11 ⟨Nat.zero_le _, Nat.zero_le _⟩ (fun H locs hP hD hS => ?_)
  refine lv_aload_n hx hb dX5_load_14 rfl (lv_at hl 0 rfl) ?_
  refine va_get (D := D) (ci := 4) (v := .ref r3) (C := RX5) (T := TX5) (N := 3) hx hb hts hi_X5 hown hK hP 0 rfl rfl 2 (by decide) hf_19 (fun _ h9 => h9) rfl dX5_load_15 ?_
  refine ct_callVv (As := []) (rest := []) (wr := [(h0, .inr (4, [.ref r1, .ref r2, .ref r3])), (r1, .inr (1, [.long rg_0.1, .long rg_0.2])), (r2, .inr (1, [.long rg_0.1, .long rg_0.2])), (kb, .inr (0, [.ref kq, .int (nI kz)])), (kq, .inl (kA, kN, .inl f)), (sb, .inr (0, [.ref sq, .int (nI sz)])), (sq, .inl (sA, sN, .inl g))]) (ws2 := [(h0, .inr (4, [.ref r1, .ref r2, .ref r3])), (r1, .inr (1, [.long rg_0.1, .long rg_0.2])), (r2, .inr (1, [.long rg_0.1, .long rg_0.2])), (r3, .inr (1, [.long rg_0.1, .long rg_0.2])), (kb, .inr (0, [.ref kq, .int (nI kz)])), (kq, .inl (kA, kN, .inl f)), (sb, .inr (0, [.ref sq, .int (nI sz)])), (sq, .inl (sA, sN, .inl g))]) ⟨hx, hb, hml, hown, hts⟩ (c_clr l D r3 τ.2.2) cw_X1_clear [] rfl [3] [0, 1, 2, 4, 5, 6, 7] [0, 1, 2, 7, 3, 4, 5, 6] hK hP hD hS hA 0 1 rfl rfl rfl rfl (by decide) rfl (by decide) (by decide) rfl (by decide) rfl hl.1 rfl (Nat.le_of_ble_eq_true rfl) dX5_load_18 ⟨Nat.zero_le _, Nat.zero_le _⟩ (fun H locs hP hD hS => ?_)
  refine lv_iconst (v := 0) hx hb dX5_load_21 (by decide) ?_
  refine lv_istore_n (lv' := [(3, .int 0), (0, .ref h0), (1, .ref kb), (2, .ref sb)]) hx hb dX5_load_22 rfl hl (by decide) rfl (fun ls hl => ?_)
  refine ct_count 64 (fun k : Nat => [(h0, .inr (4, [.ref r1, .ref r2, .ref r3])), (r1, .inr (1, [.long (((ss_l1 f (nI kz) k).1).1), .long (((ss_l1 f (nI kz) k).1).2)])), (r2, .inr (1, [.long (((ss_l1 f (nI kz) k).2.1).1), .long (((ss_l1 f (nI kz) k).2.1).2)])), (r3, .inr (1, [.long (((ss_l1 f (nI kz) k).2.2).1), .long (((ss_l1 f (nI kz) k).2.2).2)])), (kb, .inr (0, [.ref kq, .int (nI kz)])), (kq, .inl (kA, kN, .inl f)), (sb, .inr (0, [.ref sq, .int (nI sz)])), (sq, .inl (sA, sN, .inl g))]) (fun k : Nat => [(3, .int (nI k)), (0, .ref h0), (1, .ref kb), (2, .ref sb)]) ?_ ?_ 0 (by decide) hP hD hS (lv_sub hl [0, 1, 2, 3] rfl)
  · intro k hk ih23 H locs ls hP hD hS hl
    have hP : va_P D vwCl [(h0, .inr (4, [.ref r1, .ref r2, .ref r3])), (r1, .inr (1, [.long (((ss_l1 f (nI kz) k).1).1), .long (((ss_l1 f (nI kz) k).1).2)])), (r2, .inr (1, [.long (((ss_l1 f (nI kz) k).2.1).1), .long (((ss_l1 f (nI kz) k).2.1).2)])), (r3, .inr (1, [.long (((ss_l1 f (nI kz) k).2.2).1), .long (((ss_l1 f (nI kz) k).2.2).2)])), (kb, .inr (0, [.ref kq, .int (nI kz)])), (kq, .inl (kA, kN, .inl f)), (sb, .inr (0, [.ref sq, .int (nI sz)])), (sq, .inl (sA, sN, .inl g))] H := hP
    have hD : va_D A [(h0, .inr (4, [.ref r1, .ref r2, .ref r3])), (r1, .inr (1, [.long (((ss_l1 f (nI kz) k).1).1), .long (((ss_l1 f (nI kz) k).1).2)])), (r2, .inr (1, [.long (((ss_l1 f (nI kz) k).2.1).1), .long (((ss_l1 f (nI kz) k).2.1).2)])), (r3, .inr (1, [.long (((ss_l1 f (nI kz) k).2.2).1), .long (((ss_l1 f (nI kz) k).2.2).2)])), (kb, .inr (0, [.ref kq, .int (nI kz)])), (kq, .inl (kA, kN, .inl f)), (sb, .inr (0, [.ref sq, .int (nI sz)])), (sq, .inl (sA, sN, .inl g))] := hD
    have hl : lv_has ls 4 [(3, .int (nI k)), (0, .ref h0), (1, .ref kb), (2, .ref sb)] := hl
    refine lv_iload_n hx hb dX5_load_23 rfl (lv_at hl 0 rfl) ?_
    refine lv_bipush (v := 64) hx hb dX5_load_24 (by decide) ?_
    refine lv_icmp_ge (tgt := 44) hx hb dX5_load_26 (by decide) (fun hh => absurd hh (nI_ge (b := 64) hk (by decide))) (fun _ => ?_)
    refine lv_aload_n hx hb dX5_load_29 rfl (lv_at hl 1 rfl) ?_
    refine lv_aload_n hx hb dX5_load_30 rfl (lv_at hl 2 rfl) ?_
    refine lv_iload_n hx hb dX5_load_31 rfl (lv_at hl 0 rfl) ?_
    refine ct_callVi (As := [.int (nI k)]) (rest := [.ref h0]) (wr := [(h0, .inr (4, [.ref r1, .ref r2, .ref r3])), (r1, .inr (1, [.long (((ss_l1 f (nI kz) k).1).1), .long (((ss_l1 f (nI kz) k).1).2)])), (r2, .inr (1, [.long (((ss_l1 f (nI kz) k).2.1).1), .long (((ss_l1 f (nI kz) k).2.1).2)])), (r3, .inr (1, [.long (((ss_l1 f (nI kz) k).2.2).1), .long (((ss_l1 f (nI kz) k).2.2).2)])), (sb, .inr (0, [.ref sq, .int (nI sz)])), (sq, .inl (sA, sN, .inl g))]) (ws2 := [(h0, .inr (4, [.ref r1, .ref r2, .ref r3])), (r1, .inr (1, [.long (((ss_l1 f (nI kz) k).1).1), .long (((ss_l1 f (nI kz) k).1).2)])), (r2, .inr (1, [.long (((ss_l1 f (nI kz) k).2.1).1), .long (((ss_l1 f (nI kz) k).2.1).2)])), (r3, .inr (1, [.long (((ss_l1 f (nI kz) k).2.2).1), .long (((ss_l1 f (nI kz) k).2.2).2)])), (kb, .inr (0, [.ref kq, .int (nI kz)])), (kq, .inl (kA, kN, .inl f)), (sb, .inr (0, [.ref sq, .int (nI sz)])), (sq, .inl (sA, sN, .inl g))]) ⟨hx, hb, hml, hown, hts⟩ (c_by_bit l D kb kq kA kN kz hkz hkN f (nI k)) cw_X0_bit [0] rfl [4, 5] [0, 1, 2, 3, 6, 7] [0, 1, 2, 3, 6, 7, 4, 5] hK hP hD hS hA 0 0 rfl rfl rfl rfl (by decide) rfl (by decide) (by decide) rfl (by decide) rfl hl.1 rfl (Nat.le_of_ble_eq_true rfl) dX5_load_32 ⟨Nat.zero_le _, Nat.zero_le _⟩ (fun H locs hP hD hS => ?_)
    refine ct_callVv (As := [.int (by_bit f (nI kz) (nI k))]) (rest := []) (wr := [(kb, .inr (0, [.ref kq, .int (nI kz)])), (kq, .inl (kA, kN, .inl f)), (sb, .inr (0, [.ref sq, .int (nI sz)])), (sq, .inl (sA, sN, .inl g))]) (ws2 := [(h0, .inr (4, [.ref r1, .ref r2, .ref r3])), (r1, .inr (1, [.long (((ss_feed (((ss_l1 f (nI kz) k).1), ((ss_l1 f (nI kz) k).2.1), ((ss_l1 f (nI kz) k).2.2)) (by_bit f (nI kz) (nI k))).1).1), .long (((ss_feed (((ss_l1 f (nI kz) k).1), ((ss_l1 f (nI kz) k).2.1), ((ss_l1 f (nI kz) k).2.2)) (by_bit f (nI kz) (nI k))).1).2)])), (r2, .inr (1, [.long (((ss_feed (((ss_l1 f (nI kz) k).1), ((ss_l1 f (nI kz) k).2.1), ((ss_l1 f (nI kz) k).2.2)) (by_bit f (nI kz) (nI k))).2.1).1), .long (((ss_feed (((ss_l1 f (nI kz) k).1), ((ss_l1 f (nI kz) k).2.1), ((ss_l1 f (nI kz) k).2.2)) (by_bit f (nI kz) (nI k))).2.1).2)])), (r3, .inr (1, [.long (((ss_feed (((ss_l1 f (nI kz) k).1), ((ss_l1 f (nI kz) k).2.1), ((ss_l1 f (nI kz) k).2.2)) (by_bit f (nI kz) (nI k))).2.2).1), .long (((ss_feed (((ss_l1 f (nI kz) k).1), ((ss_l1 f (nI kz) k).2.1), ((ss_l1 f (nI kz) k).2.2)) (by_bit f (nI kz) (nI k))).2.2).2)])), (kb, .inr (0, [.ref kq, .int (nI kz)])), (kq, .inl (kA, kN, .inl f)), (sb, .inr (0, [.ref sq, .int (nI sz)])), (sq, .inl (sA, sN, .inl g))]) ⟨hx, hb, hml, hown, hts⟩ (c_ss_feed l D h0 r1 r2 r3 (((ss_l1 f (nI kz) k).1), ((ss_l1 f (nI kz) k).2.1), ((ss_l1 f (nI kz) k).2.2)) (by_bit f (nI kz) (nI k))) cw_X5_feed [] rfl [0, 1, 2, 3] [4, 5, 6, 7] [4, 5, 6, 7, 0, 1, 2, 3] hK hP hD hS hA 0 4 rfl rfl rfl rfl (by decide) rfl (by decide) (by decide) rfl (by decide) rfl hl.1 rfl (Nat.le_of_ble_eq_true rfl) dX5_load_35 ⟨Nat.zero_le _, Nat.zero_le _⟩ (fun H locs hP hD hS => ?_)
    refine lv_iinc (v := nI (k + 1)) (lv' := [(3, .int (nI (k + 1))), (0, .ref h0), (1, .ref kb), (2, .ref sb)]) hx hb dX5_load_38 hl (k := 0) rfl (ct_inc k) (by decide) rfl (fun ls hl => ?_)
    refine lv_goto (tgt := 23) hx hb dX5_load_41 (by decide) ?_
    exact ih23 H locs ls hP hD hS (lv_sub hl [0, 1, 2, 3] rfl)
  · intro H locs ls hP hD hS hl
    have hP : va_P D vwCl [(h0, .inr (4, [.ref r1, .ref r2, .ref r3])), (r1, .inr (1, [.long (((ss_l1 f (nI kz) 64).1).1), .long (((ss_l1 f (nI kz) 64).1).2)])), (r2, .inr (1, [.long (((ss_l1 f (nI kz) 64).2.1).1), .long (((ss_l1 f (nI kz) 64).2.1).2)])), (r3, .inr (1, [.long (((ss_l1 f (nI kz) 64).2.2).1), .long (((ss_l1 f (nI kz) 64).2.2).2)])), (kb, .inr (0, [.ref kq, .int (nI kz)])), (kq, .inl (kA, kN, .inl f)), (sb, .inr (0, [.ref sq, .int (nI sz)])), (sq, .inl (sA, sN, .inl g))] H := hP
    have hD : va_D A [(h0, .inr (4, [.ref r1, .ref r2, .ref r3])), (r1, .inr (1, [.long (((ss_l1 f (nI kz) 64).1).1), .long (((ss_l1 f (nI kz) 64).1).2)])), (r2, .inr (1, [.long (((ss_l1 f (nI kz) 64).2.1).1), .long (((ss_l1 f (nI kz) 64).2.1).2)])), (r3, .inr (1, [.long (((ss_l1 f (nI kz) 64).2.2).1), .long (((ss_l1 f (nI kz) 64).2.2).2)])), (kb, .inr (0, [.ref kq, .int (nI kz)])), (kq, .inl (kA, kN, .inl f)), (sb, .inr (0, [.ref sq, .int (nI sz)])), (sq, .inl (sA, sN, .inl g))] := hD
    have hl : lv_has ls 4 [(3, .int (nI 64)), (0, .ref h0), (1, .ref kb), (2, .ref sb)] := hl
    refine lv_iload_n hx hb dX5_load_23 rfl (lv_at hl 0 rfl) ?_
    refine lv_bipush (v := 64) hx hb dX5_load_24 (by decide) ?_
    refine lv_icmp_ge (tgt := 44) hx hb dX5_load_26 (by decide) (fun _ => ?_) (fun hh => absurd (Int32.le_refl _) hh)
    refine lv_iconst (v := 2) hx hb dX5_load_44 (by decide) ?_
    refine lv_istore_n (lv' := [(3, .int 2), (0, .ref h0), (1, .ref kb), (2, .ref sb)]) hx hb dX5_load_45 rfl hl (by decide) rfl (fun ls hl => ?_)
    refine ct_count 22 (fun k : Nat => [(h0, .inr (4, [.ref r1, .ref r2, .ref r3])), (r1, .inr (1, [.long (((ss_l2 (ss_l1 f (nI kz) 64) g (nI sz) k).1).1), .long (((ss_l2 (ss_l1 f (nI kz) 64) g (nI sz) k).1).2)])), (r2, .inr (1, [.long (((ss_l2 (ss_l1 f (nI kz) 64) g (nI sz) k).2.1).1), .long (((ss_l2 (ss_l1 f (nI kz) 64) g (nI sz) k).2.1).2)])), (r3, .inr (1, [.long (((ss_l2 (ss_l1 f (nI kz) 64) g (nI sz) k).2.2).1), .long (((ss_l2 (ss_l1 f (nI kz) 64) g (nI sz) k).2.2).2)])), (kb, .inr (0, [.ref kq, .int (nI kz)])), (kq, .inl (kA, kN, .inl f)), (sb, .inr (0, [.ref sq, .int (nI sz)])), (sq, .inl (sA, sN, .inl g))]) (fun k : Nat => [(3, .int (nI (2 + k))), (0, .ref h0), (1, .ref kb), (2, .ref sb)]) ?_ ?_ 0 (by decide) hP hD hS (lv_sub hl [0, 1, 2, 3] rfl)
    · intro k hk ih46 H locs ls hP hD hS hl
      have hP : va_P D vwCl [(h0, .inr (4, [.ref r1, .ref r2, .ref r3])), (r1, .inr (1, [.long (((ss_l2 (ss_l1 f (nI kz) 64) g (nI sz) k).1).1), .long (((ss_l2 (ss_l1 f (nI kz) 64) g (nI sz) k).1).2)])), (r2, .inr (1, [.long (((ss_l2 (ss_l1 f (nI kz) 64) g (nI sz) k).2.1).1), .long (((ss_l2 (ss_l1 f (nI kz) 64) g (nI sz) k).2.1).2)])), (r3, .inr (1, [.long (((ss_l2 (ss_l1 f (nI kz) 64) g (nI sz) k).2.2).1), .long (((ss_l2 (ss_l1 f (nI kz) 64) g (nI sz) k).2.2).2)])), (kb, .inr (0, [.ref kq, .int (nI kz)])), (kq, .inl (kA, kN, .inl f)), (sb, .inr (0, [.ref sq, .int (nI sz)])), (sq, .inl (sA, sN, .inl g))] H := hP
      have hD : va_D A [(h0, .inr (4, [.ref r1, .ref r2, .ref r3])), (r1, .inr (1, [.long (((ss_l2 (ss_l1 f (nI kz) 64) g (nI sz) k).1).1), .long (((ss_l2 (ss_l1 f (nI kz) 64) g (nI sz) k).1).2)])), (r2, .inr (1, [.long (((ss_l2 (ss_l1 f (nI kz) 64) g (nI sz) k).2.1).1), .long (((ss_l2 (ss_l1 f (nI kz) 64) g (nI sz) k).2.1).2)])), (r3, .inr (1, [.long (((ss_l2 (ss_l1 f (nI kz) 64) g (nI sz) k).2.2).1), .long (((ss_l2 (ss_l1 f (nI kz) 64) g (nI sz) k).2.2).2)])), (kb, .inr (0, [.ref kq, .int (nI kz)])), (kq, .inl (kA, kN, .inl f)), (sb, .inr (0, [.ref sq, .int (nI sz)])), (sq, .inl (sA, sN, .inl g))] := hD
      have hl : lv_has ls 4 [(3, .int (nI (2 + k))), (0, .ref h0), (1, .ref kb), (2, .ref sb)] := hl
      refine lv_iload_n hx hb dX5_load_46 rfl (lv_at hl 0 rfl) ?_
      refine lv_bipush (v := 24) hx hb dX5_load_47 (by decide) ?_
      refine lv_icmp_ge (tgt := 67) hx hb dX5_load_49 (by decide) (fun hh => absurd hh (nI_ge (b := 24) (by omega) (by decide))) (fun _ => ?_)
      refine lv_aload_n hx hb dX5_load_52 rfl (lv_at hl 1 rfl) ?_
      refine lv_aload_n hx hb dX5_load_53 rfl (lv_at hl 3 rfl) ?_
      refine lv_iload_n hx hb dX5_load_54 rfl (lv_at hl 0 rfl) ?_
      refine ct_callVi (As := [.int (nI (2 + k))]) (rest := [.ref h0]) (wr := [(h0, .inr (4, [.ref r1, .ref r2, .ref r3])), (r1, .inr (1, [.long (((ss_l2 (ss_l1 f (nI kz) 64) g (nI sz) k).1).1), .long (((ss_l2 (ss_l1 f (nI kz) 64) g (nI sz) k).1).2)])), (r2, .inr (1, [.long (((ss_l2 (ss_l1 f (nI kz) 64) g (nI sz) k).2.1).1), .long (((ss_l2 (ss_l1 f (nI kz) 64) g (nI sz) k).2.1).2)])), (r3, .inr (1, [.long (((ss_l2 (ss_l1 f (nI kz) 64) g (nI sz) k).2.2).1), .long (((ss_l2 (ss_l1 f (nI kz) 64) g (nI sz) k).2.2).2)])), (kb, .inr (0, [.ref kq, .int (nI kz)])), (kq, .inl (kA, kN, .inl f))]) (ws2 := [(h0, .inr (4, [.ref r1, .ref r2, .ref r3])), (r1, .inr (1, [.long (((ss_l2 (ss_l1 f (nI kz) 64) g (nI sz) k).1).1), .long (((ss_l2 (ss_l1 f (nI kz) 64) g (nI sz) k).1).2)])), (r2, .inr (1, [.long (((ss_l2 (ss_l1 f (nI kz) 64) g (nI sz) k).2.1).1), .long (((ss_l2 (ss_l1 f (nI kz) 64) g (nI sz) k).2.1).2)])), (r3, .inr (1, [.long (((ss_l2 (ss_l1 f (nI kz) 64) g (nI sz) k).2.2).1), .long (((ss_l2 (ss_l1 f (nI kz) 64) g (nI sz) k).2.2).2)])), (kb, .inr (0, [.ref kq, .int (nI kz)])), (kq, .inl (kA, kN, .inl f)), (sb, .inr (0, [.ref sq, .int (nI sz)])), (sq, .inl (sA, sN, .inl g))]) ⟨hx, hb, hml, hown, hts⟩ (c_by_bit l D sb sq sA sN sz hsz hsN g (nI (2 + k))) cw_X0_bit [1] rfl [6, 7] [0, 1, 2, 3, 4, 5] [0, 1, 2, 3, 4, 5, 6, 7] hK hP hD hS hA 0 0 rfl rfl rfl rfl (by decide) rfl (by decide) (by decide) rfl (by decide) rfl hl.1 rfl (Nat.le_of_ble_eq_true rfl) dX5_load_55 ⟨Nat.zero_le _, Nat.zero_le _⟩ (fun H locs hP hD hS => ?_)
      refine ct_callVv (As := [.int (by_bit g (nI sz) (nI (2 + k)))]) (rest := []) (wr := [(kb, .inr (0, [.ref kq, .int (nI kz)])), (kq, .inl (kA, kN, .inl f)), (sb, .inr (0, [.ref sq, .int (nI sz)])), (sq, .inl (sA, sN, .inl g))]) (ws2 := [(h0, .inr (4, [.ref r1, .ref r2, .ref r3])), (r1, .inr (1, [.long (((ss_feed (((ss_l2 (ss_l1 f (nI kz) 64) g (nI sz) k).1), ((ss_l2 (ss_l1 f (nI kz) 64) g (nI sz) k).2.1), ((ss_l2 (ss_l1 f (nI kz) 64) g (nI sz) k).2.2)) (by_bit g (nI sz) (nI (2 + k)))).1).1), .long (((ss_feed (((ss_l2 (ss_l1 f (nI kz) 64) g (nI sz) k).1), ((ss_l2 (ss_l1 f (nI kz) 64) g (nI sz) k).2.1), ((ss_l2 (ss_l1 f (nI kz) 64) g (nI sz) k).2.2)) (by_bit g (nI sz) (nI (2 + k)))).1).2)])), (r2, .inr (1, [.long (((ss_feed (((ss_l2 (ss_l1 f (nI kz) 64) g (nI sz) k).1), ((ss_l2 (ss_l1 f (nI kz) 64) g (nI sz) k).2.1), ((ss_l2 (ss_l1 f (nI kz) 64) g (nI sz) k).2.2)) (by_bit g (nI sz) (nI (2 + k)))).2.1).1), .long (((ss_feed (((ss_l2 (ss_l1 f (nI kz) 64) g (nI sz) k).1), ((ss_l2 (ss_l1 f (nI kz) 64) g (nI sz) k).2.1), ((ss_l2 (ss_l1 f (nI kz) 64) g (nI sz) k).2.2)) (by_bit g (nI sz) (nI (2 + k)))).2.1).2)])), (r3, .inr (1, [.long (((ss_feed (((ss_l2 (ss_l1 f (nI kz) 64) g (nI sz) k).1), ((ss_l2 (ss_l1 f (nI kz) 64) g (nI sz) k).2.1), ((ss_l2 (ss_l1 f (nI kz) 64) g (nI sz) k).2.2)) (by_bit g (nI sz) (nI (2 + k)))).2.2).1), .long (((ss_feed (((ss_l2 (ss_l1 f (nI kz) 64) g (nI sz) k).1), ((ss_l2 (ss_l1 f (nI kz) 64) g (nI sz) k).2.1), ((ss_l2 (ss_l1 f (nI kz) 64) g (nI sz) k).2.2)) (by_bit g (nI sz) (nI (2 + k)))).2.2).2)])), (kb, .inr (0, [.ref kq, .int (nI kz)])), (kq, .inl (kA, kN, .inl f)), (sb, .inr (0, [.ref sq, .int (nI sz)])), (sq, .inl (sA, sN, .inl g))]) ⟨hx, hb, hml, hown, hts⟩ (c_ss_feed l D h0 r1 r2 r3 (((ss_l2 (ss_l1 f (nI kz) 64) g (nI sz) k).1), ((ss_l2 (ss_l1 f (nI kz) 64) g (nI sz) k).2.1), ((ss_l2 (ss_l1 f (nI kz) 64) g (nI sz) k).2.2)) (by_bit g (nI sz) (nI (2 + k)))) cw_X5_feed [] rfl [0, 1, 2, 3] [4, 5, 6, 7] [4, 5, 6, 7, 0, 1, 2, 3] hK hP hD hS hA 0 4 rfl rfl rfl rfl (by decide) rfl (by decide) (by decide) rfl (by decide) rfl hl.1 rfl (Nat.le_of_ble_eq_true rfl) dX5_load_58 ⟨Nat.zero_le _, Nat.zero_le _⟩ (fun H locs hP hD hS => ?_)
      refine lv_iinc (v := nI (2 + (k + 1))) (lv' := [(3, .int (nI (2 + (k + 1)))), (0, .ref h0), (1, .ref kb), (2, .ref sb)]) hx hb dX5_load_61 hl (k := 0) rfl (ct_inc (2 + k)) (by decide) rfl (fun ls hl => ?_)
      refine lv_goto (tgt := 46) hx hb dX5_load_64 (by decide) ?_
      exact ih46 H locs ls hP hD hS (lv_sub hl [0, 1, 2, 3] rfl)
    · intro H locs ls hP hD hS hl
      have hP : va_P D vwCl [(h0, .inr (4, [.ref r1, .ref r2, .ref r3])), (r1, .inr (1, [.long (((ss_l2 (ss_l1 f (nI kz) 64) g (nI sz) 22).1).1), .long (((ss_l2 (ss_l1 f (nI kz) 64) g (nI sz) 22).1).2)])), (r2, .inr (1, [.long (((ss_l2 (ss_l1 f (nI kz) 64) g (nI sz) 22).2.1).1), .long (((ss_l2 (ss_l1 f (nI kz) 64) g (nI sz) 22).2.1).2)])), (r3, .inr (1, [.long (((ss_l2 (ss_l1 f (nI kz) 64) g (nI sz) 22).2.2).1), .long (((ss_l2 (ss_l1 f (nI kz) 64) g (nI sz) 22).2.2).2)])), (kb, .inr (0, [.ref kq, .int (nI kz)])), (kq, .inl (kA, kN, .inl f)), (sb, .inr (0, [.ref sq, .int (nI sz)])), (sq, .inl (sA, sN, .inl g))] H := hP
      have hD : va_D A [(h0, .inr (4, [.ref r1, .ref r2, .ref r3])), (r1, .inr (1, [.long (((ss_l2 (ss_l1 f (nI kz) 64) g (nI sz) 22).1).1), .long (((ss_l2 (ss_l1 f (nI kz) 64) g (nI sz) 22).1).2)])), (r2, .inr (1, [.long (((ss_l2 (ss_l1 f (nI kz) 64) g (nI sz) 22).2.1).1), .long (((ss_l2 (ss_l1 f (nI kz) 64) g (nI sz) 22).2.1).2)])), (r3, .inr (1, [.long (((ss_l2 (ss_l1 f (nI kz) 64) g (nI sz) 22).2.2).1), .long (((ss_l2 (ss_l1 f (nI kz) 64) g (nI sz) 22).2.2).2)])), (kb, .inr (0, [.ref kq, .int (nI kz)])), (kq, .inl (kA, kN, .inl f)), (sb, .inr (0, [.ref sq, .int (nI sz)])), (sq, .inl (sA, sN, .inl g))] := hD
      have hl : lv_has ls 4 [(3, .int (nI (2 + 22))), (0, .ref h0), (1, .ref kb), (2, .ref sb)] := hl
      refine lv_iload_n hx hb dX5_load_46 rfl (lv_at hl 0 rfl) ?_
      refine lv_bipush (v := 24) hx hb dX5_load_47 (by decide) ?_
      refine lv_icmp_ge (tgt := 67) hx hb dX5_load_49 (by decide) (fun _ => ?_) (fun hh => absurd (Int32.le_refl _) hh)
      refine lv_iconst (v := 0) hx hb dX5_load_67 (by decide) ?_
      refine lv_istore_n (lv' := [(3, .int 0), (0, .ref h0), (1, .ref kb), (2, .ref sb)]) hx hb dX5_load_68 rfl hl (by decide) rfl (fun ls hl => ?_)
      refine ct_count 100 (fun k : Nat => [(h0, .inr (4, [.ref r1, .ref r2, .ref r3])), (r1, .inr (1, [.long (((ss_it (ss_l2 (ss_l1 f (nI kz) 64) g (nI sz) 22) k).1).1), .long (((ss_it (ss_l2 (ss_l1 f (nI kz) 64) g (nI sz) 22) k).1).2)])), (r2, .inr (1, [.long (((ss_it (ss_l2 (ss_l1 f (nI kz) 64) g (nI sz) 22) k).2.1).1), .long (((ss_it (ss_l2 (ss_l1 f (nI kz) 64) g (nI sz) 22) k).2.1).2)])), (r3, .inr (1, [.long (((ss_it (ss_l2 (ss_l1 f (nI kz) 64) g (nI sz) 22) k).2.2).1), .long (((ss_it (ss_l2 (ss_l1 f (nI kz) 64) g (nI sz) 22) k).2.2).2)])), (kb, .inr (0, [.ref kq, .int (nI kz)])), (kq, .inl (kA, kN, .inl f)), (sb, .inr (0, [.ref sq, .int (nI sz)])), (sq, .inl (sA, sN, .inl g))]) (fun k : Nat => [(3, .int (nI k)), (0, .ref h0), (1, .ref kb), (2, .ref sb)]) ?_ ?_ 0 (by decide) hP hD hS (lv_sub hl [0, 1, 2, 3] rfl)
      · intro k hk ih69 H locs ls hP hD hS hl
        have hP : va_P D vwCl [(h0, .inr (4, [.ref r1, .ref r2, .ref r3])), (r1, .inr (1, [.long (((ss_it (ss_l2 (ss_l1 f (nI kz) 64) g (nI sz) 22) k).1).1), .long (((ss_it (ss_l2 (ss_l1 f (nI kz) 64) g (nI sz) 22) k).1).2)])), (r2, .inr (1, [.long (((ss_it (ss_l2 (ss_l1 f (nI kz) 64) g (nI sz) 22) k).2.1).1), .long (((ss_it (ss_l2 (ss_l1 f (nI kz) 64) g (nI sz) 22) k).2.1).2)])), (r3, .inr (1, [.long (((ss_it (ss_l2 (ss_l1 f (nI kz) 64) g (nI sz) 22) k).2.2).1), .long (((ss_it (ss_l2 (ss_l1 f (nI kz) 64) g (nI sz) 22) k).2.2).2)])), (kb, .inr (0, [.ref kq, .int (nI kz)])), (kq, .inl (kA, kN, .inl f)), (sb, .inr (0, [.ref sq, .int (nI sz)])), (sq, .inl (sA, sN, .inl g))] H := hP
        have hD : va_D A [(h0, .inr (4, [.ref r1, .ref r2, .ref r3])), (r1, .inr (1, [.long (((ss_it (ss_l2 (ss_l1 f (nI kz) 64) g (nI sz) 22) k).1).1), .long (((ss_it (ss_l2 (ss_l1 f (nI kz) 64) g (nI sz) 22) k).1).2)])), (r2, .inr (1, [.long (((ss_it (ss_l2 (ss_l1 f (nI kz) 64) g (nI sz) 22) k).2.1).1), .long (((ss_it (ss_l2 (ss_l1 f (nI kz) 64) g (nI sz) 22) k).2.1).2)])), (r3, .inr (1, [.long (((ss_it (ss_l2 (ss_l1 f (nI kz) 64) g (nI sz) 22) k).2.2).1), .long (((ss_it (ss_l2 (ss_l1 f (nI kz) 64) g (nI sz) 22) k).2.2).2)])), (kb, .inr (0, [.ref kq, .int (nI kz)])), (kq, .inl (kA, kN, .inl f)), (sb, .inr (0, [.ref sq, .int (nI sz)])), (sq, .inl (sA, sN, .inl g))] := hD
        have hl : lv_has ls 4 [(3, .int (nI k)), (0, .ref h0), (1, .ref kb), (2, .ref sb)] := hl
        refine lv_iload_n hx hb dX5_load_69 rfl (lv_at hl 0 rfl) ?_
        refine lv_bipush (v := 100) hx hb dX5_load_70 (by decide) ?_
        refine lv_icmp_ge (tgt := 86) hx hb dX5_load_72 (by decide) (fun hh => absurd hh (nI_ge (b := 100) hk (by decide))) (fun _ => ?_)
        refine lv_aload_n hx hb dX5_load_75 rfl (lv_at hl 1 rfl) ?_
        refine ct_callVi (As := []) (rest := []) (wr := [(kb, .inr (0, [.ref kq, .int (nI kz)])), (kq, .inl (kA, kN, .inl f)), (sb, .inr (0, [.ref sq, .int (nI sz)])), (sq, .inl (sA, sN, .inl g))]) (ws2 := [(h0, .inr (4, [.ref r1, .ref r2, .ref r3])), (r1, .inr (1, [.long (((ss_step (((ss_it (ss_l2 (ss_l1 f (nI kz) 64) g (nI sz) 22) k).1), ((ss_it (ss_l2 (ss_l1 f (nI kz) 64) g (nI sz) 22) k).2.1), ((ss_it (ss_l2 (ss_l1 f (nI kz) 64) g (nI sz) 22) k).2.2))).1).1), .long (((ss_step (((ss_it (ss_l2 (ss_l1 f (nI kz) 64) g (nI sz) 22) k).1), ((ss_it (ss_l2 (ss_l1 f (nI kz) 64) g (nI sz) 22) k).2.1), ((ss_it (ss_l2 (ss_l1 f (nI kz) 64) g (nI sz) 22) k).2.2))).1).2)])), (r2, .inr (1, [.long (((ss_step (((ss_it (ss_l2 (ss_l1 f (nI kz) 64) g (nI sz) 22) k).1), ((ss_it (ss_l2 (ss_l1 f (nI kz) 64) g (nI sz) 22) k).2.1), ((ss_it (ss_l2 (ss_l1 f (nI kz) 64) g (nI sz) 22) k).2.2))).2.1).1), .long (((ss_step (((ss_it (ss_l2 (ss_l1 f (nI kz) 64) g (nI sz) 22) k).1), ((ss_it (ss_l2 (ss_l1 f (nI kz) 64) g (nI sz) 22) k).2.1), ((ss_it (ss_l2 (ss_l1 f (nI kz) 64) g (nI sz) 22) k).2.2))).2.1).2)])), (r3, .inr (1, [.long (((ss_step (((ss_it (ss_l2 (ss_l1 f (nI kz) 64) g (nI sz) 22) k).1), ((ss_it (ss_l2 (ss_l1 f (nI kz) 64) g (nI sz) 22) k).2.1), ((ss_it (ss_l2 (ss_l1 f (nI kz) 64) g (nI sz) 22) k).2.2))).2.2).1), .long (((ss_step (((ss_it (ss_l2 (ss_l1 f (nI kz) 64) g (nI sz) 22) k).1), ((ss_it (ss_l2 (ss_l1 f (nI kz) 64) g (nI sz) 22) k).2.1), ((ss_it (ss_l2 (ss_l1 f (nI kz) 64) g (nI sz) 22) k).2.2))).2.2).2)])), (kb, .inr (0, [.ref kq, .int (nI kz)])), (kq, .inl (kA, kN, .inl f)), (sb, .inr (0, [.ref sq, .int (nI sz)])), (sq, .inl (sA, sN, .inl g))]) ⟨hx, hb, hml, hown, hts⟩ (c_ss_next l D h0 r1 r2 r3 (((ss_it (ss_l2 (ss_l1 f (nI kz) 64) g (nI sz) 22) k).1), ((ss_it (ss_l2 (ss_l1 f (nI kz) 64) g (nI sz) 22) k).2.1), ((ss_it (ss_l2 (ss_l1 f (nI kz) 64) g (nI sz) 22) k).2.2)) ) cw_X5_nextBit [] rfl [0, 1, 2, 3] [4, 5, 6, 7] [4, 5, 6, 7, 0, 1, 2, 3] hK hP hD hS hA 0 4 rfl rfl rfl rfl (by decide) rfl (by decide) (by decide) rfl (by decide) rfl hl.1 rfl (Nat.le_of_ble_eq_true rfl) dX5_load_76 ⟨Nat.zero_le _, Nat.zero_le _⟩ (fun H locs hP hD hS => ?_)
        refine lv_pop hx hb dX5_load_79 rfl ?_
        refine lv_iinc (v := nI (k + 1)) (lv' := [(3, .int (nI (k + 1))), (0, .ref h0), (1, .ref kb), (2, .ref sb)]) hx hb dX5_load_80 hl (k := 0) rfl (ct_inc k) (by decide) rfl (fun ls hl => ?_)
        refine lv_goto (tgt := 69) hx hb dX5_load_83 (by decide) ?_
        exact ih69 H locs ls hP hD hS (lv_sub hl [0, 1, 2, 3] rfl)
      · intro H locs ls hP hD hS hl
        have hP : va_P D vwCl [(h0, .inr (4, [.ref r1, .ref r2, .ref r3])), (r1, .inr (1, [.long (((ss_it (ss_l2 (ss_l1 f (nI kz) 64) g (nI sz) 22) 100).1).1), .long (((ss_it (ss_l2 (ss_l1 f (nI kz) 64) g (nI sz) 22) 100).1).2)])), (r2, .inr (1, [.long (((ss_it (ss_l2 (ss_l1 f (nI kz) 64) g (nI sz) 22) 100).2.1).1), .long (((ss_it (ss_l2 (ss_l1 f (nI kz) 64) g (nI sz) 22) 100).2.1).2)])), (r3, .inr (1, [.long (((ss_it (ss_l2 (ss_l1 f (nI kz) 64) g (nI sz) 22) 100).2.2).1), .long (((ss_it (ss_l2 (ss_l1 f (nI kz) 64) g (nI sz) 22) 100).2.2).2)])), (kb, .inr (0, [.ref kq, .int (nI kz)])), (kq, .inl (kA, kN, .inl f)), (sb, .inr (0, [.ref sq, .int (nI sz)])), (sq, .inl (sA, sN, .inl g))] H := hP
        have hD : va_D A [(h0, .inr (4, [.ref r1, .ref r2, .ref r3])), (r1, .inr (1, [.long (((ss_it (ss_l2 (ss_l1 f (nI kz) 64) g (nI sz) 22) 100).1).1), .long (((ss_it (ss_l2 (ss_l1 f (nI kz) 64) g (nI sz) 22) 100).1).2)])), (r2, .inr (1, [.long (((ss_it (ss_l2 (ss_l1 f (nI kz) 64) g (nI sz) 22) 100).2.1).1), .long (((ss_it (ss_l2 (ss_l1 f (nI kz) 64) g (nI sz) 22) 100).2.1).2)])), (r3, .inr (1, [.long (((ss_it (ss_l2 (ss_l1 f (nI kz) 64) g (nI sz) 22) 100).2.2).1), .long (((ss_it (ss_l2 (ss_l1 f (nI kz) 64) g (nI sz) 22) 100).2.2).2)])), (kb, .inr (0, [.ref kq, .int (nI kz)])), (kq, .inl (kA, kN, .inl f)), (sb, .inr (0, [.ref sq, .int (nI sz)])), (sq, .inl (sA, sN, .inl g))] := hD
        have hl : lv_has ls 4 [(3, .int (nI 100)), (0, .ref h0), (1, .ref kb), (2, .ref sb)] := hl
        refine lv_iload_n hx hb dX5_load_69 rfl (lv_at hl 0 rfl) ?_
        refine lv_bipush (v := 100) hx hb dX5_load_70 (by decide) ?_
        refine lv_icmp_ge (tgt := 86) hx hb dX5_load_72 (by decide) (fun _ => ?_) (fun hh => absurd (Int32.le_refl _) hh)
        exact ct_vret hx hb hr hlk hP hK hD hS dX5_load_86
end
section
/-- machine 3: a row of 256 numbers -/
def ex_ix (x : Int32) : Nat := (x &&& 255).toNatClampNeg
def ex_sw (f : Nat → Int32) (x y : Int32) : Nat → Int32 := upd (upd f (ex_ix x) (f (ex_ix y))) (ex_ix y) (f (ex_ix x))
theorem ex_in (x : Int32) : vp_in (x &&& 255) 256 := pk_andIn x 8 (by decide) (by decide)
abbrev X3 : Type := (Nat → Int32) × Int32 × Int32
def ex_i (σ : X3) : Int32 := (σ.2.1 + 1) &&& 255
def ex_j (σ : X3) : Int32 := (σ.2.2 + σ.1 (ex_i σ).toNatClampNeg) &&& 255
def ex_f (σ : X3) : Nat → Int32 := ex_sw σ.1 (ex_i σ) (ex_j σ)
def ex_byte (σ : X3) : Int32 := ex_f σ ((ex_f σ (ex_i σ).toNatClampNeg + ex_f σ (ex_j σ).toNatClampNeg) &&& 255).toNatClampNeg
def ex_stepB (σ : X3) : X3 := (ex_f σ, ex_i σ, ex_j σ)
abbrev X5 : Type := X3 × Int32 × Int32
/-- ahead of a bit: a new byte, where none is left -/
def ex_need (τ : X5) : X5 := if τ.2.2 = 0 then (ex_stepB τ.1, ex_byte τ.1, 8) else τ
def ex_step (τ : X5) : X5 := ((ex_need τ).1, (ex_need τ).2.1, (ex_need τ).2.2 - 1)
def ex_out (τ : X5) : Int32 := (ex_need τ).2.1 >>> (((ex_need τ).2.2 - 1) &&& 31) &&& 1
set_option maxHeartbeats 4000000 in
set_option maxRecDepth 100000 in
/-- Exchanges.exchange -/
theorem c_ex_sw (l : Launch) (D : va_G) (h0 q : Nat) (kR : ClassId) (f : Nat → Int32) (i j gb bl x y : Int32) : Ctv l D yX2_exchange wsX2_exchange ({ frames := 0, cells := 0, slots := 0, locals := 0 } : Room) [.ref h0, .int x, .int y] [(kR, .int)] [(h0, .inr (2, [.ref q, .int i, .int j, .int gb, .int bl])), (q, .inl (kR, 256, .inl f))] [(h0, .inr (2, [.ref q, .int i, .int j, .int gb, .int bl])), (q, .inl (kR, 256, .inl (ex_sw f x y)))] := by
  refine ct_of (cc := cX2_exchange) (maxL := 4) (ret := none) (by decide) rfl (Nat.le_of_ble_eq_true rfl) ?_
  intro p e s m below meth c A H locs ls hx hb hr hml hts hown hlk hnm hP hK hD hA hS hl
  have hown : s.vm.findClass RX2 = some m.cls := hown
  have hl : lv_has ls 4 [(0, .ref h0), (1, .int x), (2, .int y)] := hl
  have hf_11 := hts (.fieldLink RX2 11 "BitStreams$Exchanges" "row" "[I") (by decide +kernel)
  have hi_X2 : ∀ w ∈ u_ws RX2 TX2 5, w ∈ wsX2_exchange := by decide +kernel
  refine lv_aload_n hx hb dX2_exchange_0 rfl (lv_at hl 0 rfl) ?_
  refine va_get (D := D) (ci := 2) (v := .ref q) (C := RX2) (T := TX2) (N := 5) hx hb hts hi_X2 hown hK hP 0 rfl rfl 0 (by decide) hf_11 (fun _ h9 => h9) rfl dX2_exchange_1 ?_
  refine lv_iload_n hx hb dX2_exchange_4 rfl (lv_at hl 1 rfl) ?_
  refine lv_sipush (v := 255) hx hb dX2_exchange_5 (by decide) ?_
  refine lv_iand hx hb dX2_exchange_8 ?_
  refine va_iald hx hb hK hP 1 0 rfl rfl (ex_in _) dX2_exchange_9 ?_
  refine lv_istore_n (lv' := [(3, .int (f (x &&& 255).toNatClampNeg)), (0, .ref h0), (1, .int x), (2, .int y)]) hx hb dX2_exchange_10 rfl hl (by decide) rfl (fun ls hl => ?_)
  refine lv_aload_n hx hb dX2_exchange_11 rfl (lv_at hl 1 rfl) ?_
  refine va_get (D := D) (ci := 2) (v := .ref q) (C := RX2) (T := TX2) (N := 5) hx hb hts hi_X2 hown hK hP 0 rfl rfl 0 (by decide) hf_11 (fun _ h9 => h9) rfl dX2_exchange_12 ?_
  refine lv_iload_n hx hb dX2_exchange_15 rfl (lv_at hl 2 rfl) ?_
  refine lv_sipush (v := 255) hx hb dX2_exchange_16 (by decide) ?_
  refine lv_iand hx hb dX2_exchange_19 ?_
  refine lv_aload_n hx hb dX2_exchange_20 rfl (lv_at hl 1 rfl) ?_
  refine va_get (D := D) (ci := 2) (v := .ref q) (C := RX2) (T := TX2) (N := 5) hx hb hts hi_X2 hown hK hP 0 rfl rfl 0 (by decide) hf_11 (fun _ h9 => h9) rfl dX2_exchange_21 ?_
  refine lv_iload_n hx hb dX2_exchange_24 rfl (lv_at hl 3 rfl) ?_
  refine lv_sipush (v := 255) hx hb dX2_exchange_25 (by decide) ?_
  refine lv_iand hx hb dX2_exchange_28 ?_
  refine va_iald hx hb hK hP 1 0 rfl rfl (ex_in _) dX2_exchange_29 ?_
  refine va_iast hx hb hK hP hD hS 1 0 rfl rfl (ex_in _) dX2_exchange_30 (fun H locs hP hD hS => ?_)
  have hP : va_P D vwCl [(h0, .inr (2, [.ref q, .int i, .int j, .int gb, .int bl])), (q, .inl (kR, 256, .inl (upd f (x &&& 255).toNatClampNeg (f (y &&& 255).toNatClampNeg))))] H := hP
  have hD : va_D A [(h0, .inr (2, [.ref q, .int i, .int j, .int gb, .int bl])), (q, .inl (kR, 256, .inl (upd f (x &&& 255).toNatClampNeg (f (y &&& 255).toNatClampNeg))))] := hD
  refine lv_aload_n hx hb dX2_exchange_31 rfl (lv_at hl 1 rfl) ?_
  refine va_get (D := D) (ci := 2) (v := .ref q) (C := RX2) (T := TX2) (N := 5) hx hb hts hi_X2 hown hK hP 0 rfl rfl 0 (by decide) hf_11 (fun _ h9 => h9) rfl dX2_exchange_32 ?_
  refine lv_iload_n hx hb dX2_exchange_35 rfl (lv_at hl 3 rfl) ?_
  refine lv_sipush (v := 255) hx hb dX2_exchange_36 (by decide) ?_
  refine lv_iand hx hb dX2_exchange_39 ?_
  refine lv_iload_n hx hb dX2_exchange_40 rfl (lv_at hl 0 rfl) ?_
  refine va_iast hx hb hK hP hD hS 1 0 rfl rfl (ex_in _) dX2_exchange_41 (fun H locs hP hD hS => ?_)
  have hP : va_P D vwCl [(h0, .inr (2, [.ref q, .int i, .int j, .int gb, .int bl])), (q, .inl (kR, 256, .inl (upd (upd f (x &&& 255).toNatClampNeg (f (y &&& 255).toNatClampNeg)) (y &&& 255).toNatClampNeg (f (x &&& 255).toNatClampNeg))))] H := hP
  have hD : va_D A [(h0, .inr (2, [.ref q, .int i, .int j, .int gb, .int bl])), (q, .inl (kR, 256, .inl (upd (upd f (x &&& 255).toNatClampNeg (f (y &&& 255).toNatClampNeg)) (y &&& 255).toNatClampNeg (f (x &&& 255).toNatClampNeg))))] := hD
  exact ct_vret hx hb hr hlk hP hK hD hS dX2_exchange_42
set_option maxHeartbeats 4000000 in
set_option maxRecDepth 100000 in
/-- Exchanges.nextByte -/
theorem c_ex_byte (l : Launch) (D : va_G) (h0 q : Nat) (kR : ClassId) (σ : X3) (gb bl : Int32) : Cti l D yX2_nextByte wsX2_nextByte ({ frames := 1, cells := 0, slots := 0, locals := 23 } : Room) [.ref h0] [(kR, .int)] [(h0, .inr (2, [.ref q, .int σ.2.1, .int σ.2.2, .int gb, .int bl])), (q, .inl (kR, 256, .inl σ.1))] [(h0, .inr (2, [.ref q, .int ((ex_stepB σ).2.1), .int ((ex_stepB σ).2.2), .int gb, .int bl])), (q, .inl (kR, 256, .inl ((ex_stepB σ).1)))] (ex_byte σ) := by
  refine ct_of (cc := cX2_nextByte) (maxL := 1) (ret := (some .int)) (by decide) rfl (Nat.le_of_ble_eq_true rfl) ?_
  intro p e s m below meth c A H locs ls hx hb hr hml hts hown hlk hnm hP hK hD hA hS hl
  have hown : s.vm.findClass RX2 = some m.cls := hown
  have hl : lv_has ls 1 [(0, .ref h0)] := hl
  have hf_15 := hts (.fieldLink RX2 15 "BitStreams$Exchanges" "i" "I") (by decide +kernel)
  have hi_X2 : ∀ w ∈ u_ws RX2 TX2 5, w ∈ wsX2_nextByte := by decide +kernel
  have hf_19 := hts (.fieldLink RX2 19 "BitStreams$Exchanges" "j" "I") (by decide +kernel)
  have hf_11 := hts (.fieldLink RX2 11 "BitStreams$Exchanges" "row" "[I") (by decide +kernel)
  have cw_X2_exchange := cwV (R := ({ frames := 1, cells := 0, slots := 0, locals := 23 } : Room)) (rm := ({ frames := 0, cells := 0, slots := 0, locals := 0 } : Room)) 2 hts gX2_nextByte_X2_exchange rfl rfl rfl (by decide +kernel) ⟨Nat.le_of_ble_eq_true rfl, Nat.le_of_ble_eq_true rfl⟩
  refine lv_aload_n hx hb dX2_nextByte_0 rfl (lv_at hl 0 rfl) ?_
  refine lv_aload_n hx hb dX2_nextByte_1 rfl (lv_at hl 0 rfl) ?_
  refine va_get (D := D) (ci := 2) (v := .int σ.2.1) (C := RX2) (T := TX2) (N := 5) hx hb hts hi_X2 hown hK hP 0 rfl rfl 1 (by decide) hf_15 (fun _ h9 => h9) rfl dX2_nextByte_2 ?_
  refine lv_iconst (v := 1) hx hb dX2_nextByte_5 (by decide) ?_
  refine lv_iadd hx hb dX2_nextByte_6 ?_
  refine lv_sipush (v := 255) hx hb dX2_nextByte_7 (by decide) ?_
  refine lv_iand hx hb dX2_nextByte_10 ?_
  refine ct_topi (y := ex_i σ) rfl ?_
  refine va_put (D := D) (ci := 2) (v := .int (ex_i σ)) (ty := .int) (C := RX2) (T := TX2) (N := 5) hx hb hts hi_X2 tyX2 tyX2_ok nmX2 hown hK hP hD hS 0 rfl rfl 1 (by decide) hf_15 (fun _ h9 => h9) rfl (by decide +kernel) rfl rfl (Nat.le_of_ble_eq_true rfl) dX2_nextByte_11 (fun H locs hP hD hS => ?_)
  have hP : va_P D vwCl [(h0, .inr (2, [.ref q, .int (ex_i σ), .int σ.2.2, .int gb, .int bl])), (q, .inl (kR, 256, .inl σ.1))] H := hP
  have hD : va_D A [(h0, .inr (2, [.ref q, .int (ex_i σ), .int σ.2.2, .int gb, .int bl])), (q, .inl (kR, 256, .inl σ.1))] := hD
  refine lv_aload_n hx hb dX2_nextByte_14 rfl (lv_at hl 0 rfl) ?_
  refine lv_aload_n hx hb dX2_nextByte_15 rfl (lv_at hl 0 rfl) ?_
  refine va_get (D := D) (ci := 2) (v := .int σ.2.2) (C := RX2) (T := TX2) (N := 5) hx hb hts hi_X2 hown hK hP 0 rfl rfl 2 (by decide) hf_19 (fun _ h9 => h9) rfl dX2_nextByte_16 ?_
  refine lv_aload_n hx hb dX2_nextByte_19 rfl (lv_at hl 0 rfl) ?_
  refine va_get (D := D) (ci := 2) (v := .ref q) (C := RX2) (T := TX2) (N := 5) hx hb hts hi_X2 hown hK hP 0 rfl rfl 0 (by decide) hf_11 (fun _ h9 => h9) rfl dX2_nextByte_20 ?_
  refine lv_aload_n hx hb dX2_nextByte_23 rfl (lv_at hl 0 rfl) ?_
  refine va_get (D := D) (ci := 2) (v := .int (ex_i σ)) (C := RX2) (T := TX2) (N := 5) hx hb hts hi_X2 hown hK hP 0 rfl rfl 1 (by decide) hf_15 (fun _ h9 => h9) rfl dX2_nextByte_24 ?_
  refine va_iald hx hb hK hP 1 0 rfl rfl (ex_in _) dX2_nextByte_27 ?_
  refine lv_iadd hx hb dX2_nextByte_28 ?_
  refine lv_sipush (v := 255) hx hb dX2_nextByte_29 (by decide) ?_
  refine lv_iand hx hb dX2_nextByte_32 ?_
  refine ct_topi (y := ex_j σ) rfl ?_
  refine va_put (D := D) (ci := 2) (v := .int (ex_j σ)) (ty := .int) (C := RX2) (T := TX2) (N := 5) hx hb hts hi_X2 tyX2 tyX2_ok nmX2 hown hK hP hD hS 0 rfl rfl 2 (by decide) hf_19 (fun _ h9 => h9) rfl (by decide +kernel) rfl rfl (Nat.le_of_ble_eq_true rfl) dX2_nextByte_33 (fun H locs hP hD hS => ?_)
  have hP : va_P D vwCl [(h0, .inr (2, [.ref q, .int (ex_i σ), .int (ex_j σ), .int gb, .int bl])), (q, .inl (kR, 256, .inl σ.1))] H := hP
  have hD : va_D A [(h0, .inr (2, [.ref q, .int (ex_i σ), .int (ex_j σ), .int gb, .int bl])), (q, .inl (kR, 256, .inl σ.1))] := hD
  refine lv_aload_n hx hb dX2_nextByte_36 rfl (lv_at hl 0 rfl) ?_
  refine lv_aload_n hx hb dX2_nextByte_37 rfl (lv_at hl 0 rfl) ?_
  refine va_get (D := D) (ci := 2) (v := .int (ex_i σ)) (C := RX2) (T := TX2) (N := 5) hx hb hts hi_X2 hown hK hP 0 rfl rfl 1 (by decide) hf_15 (fun _ h9 => h9) rfl dX2_nextByte_38 ?_
  refine lv_aload_n hx hb dX2_nextByte_41 rfl (lv_at hl 0 rfl) ?_
  refine va_get (D := D) (ci := 2) (v := .int (ex_j σ)) (C := RX2) (T := TX2) (N := 5) hx hb hts hi_X2 hown hK hP 0 rfl rfl 2 (by decide) hf_19 (fun _ h9 => h9) rfl dX2_nextByte_42 ?_
  refine ct_callVv (As := [.int (ex_i σ), .int (ex_j σ)]) (rest := []) (wr := []) (ws2 := [(h0, .inr (2, [.ref q, .int (ex_i σ), .int (ex_j σ), .int gb, .int bl])), (q, .inl (kR, 256, .inl (ex_sw σ.1 (ex_i σ) (ex_j σ))))]) ⟨hx, hb, hml, hown, hts⟩ (c_ex_sw l D h0 q kR σ.1 (ex_i σ) (ex_j σ) gb bl (ex_i σ) (ex_j σ)) cw_X2_exchange [0] rfl [0, 1] [] [0, 1] hK hP hD hS hA 0 2 rfl rfl rfl rfl (by decide) rfl (by decide) (by decide) rfl (by decide) rfl hl.1 rfl (Nat.le_of_ble_eq_true rfl) dX2_nextByte_45 ⟨Nat.zero_le _, Nat.zero_le _⟩ (fun H locs hP hD hS => ?_)
  refine lv_aload_n hx hb dX2_nextByte_48 rfl (lv_at hl 0 rfl) ?_
  refine va_get (D := D) (ci := 2) (v := .ref q) (C := RX2) (T := TX2) (N := 5) hx hb hts hi_X2 hown hK hP 0 rfl rfl 0 (by decide) hf_11 (fun _ h9 => h9) rfl dX2_nextByte_49 ?_
  refine lv_aload_n hx hb dX2_nextByte_52 rfl (lv_at hl 0 rfl) ?_
  refine va_get (D := D) (ci := 2) (v := .ref q) (C := RX2) (T := TX2) (N := 5) hx hb hts hi_X2 hown hK hP 0 rfl rfl 0 (by decide) hf_11 (fun _ h9 => h9) rfl dX2_nextByte_53 ?_
  refine lv_aload_n hx hb dX2_nextByte_56 rfl (lv_at hl 0 rfl) ?_
  refine va_get (D := D) (ci := 2) (v := .int (ex_i σ)) (C := RX2) (T := TX2) (N := 5) hx hb hts hi_X2 hown hK hP 0 rfl rfl 1 (by decide) hf_15 (fun _ h9 => h9) rfl dX2_nextByte_57 ?_
  refine va_iald hx hb hK hP 1 0 rfl rfl (ex_in _) dX2_nextByte_60 ?_
  refine lv_aload_n hx hb dX2_nextByte_61 rfl (lv_at hl 0 rfl) ?_
  refine va_get (D := D) (ci := 2) (v := .ref q) (C := RX2) (T := TX2) (N := 5) hx hb hts hi_X2 hown hK hP 0 rfl rfl 0 (by decide) hf_11 (fun _ h9 => h9) rfl dX2_nextByte_62 ?_
  refine lv_aload_n hx hb dX2_nextByte_65 rfl (lv_at hl 0 rfl) ?_
  refine va_get (D := D) (ci := 2) (v := .int (ex_j σ)) (C := RX2) (T := TX2) (N := 5) hx hb hts hi_X2 hown hK hP 0 rfl rfl 2 (by decide) hf_19 (fun _ h9 => h9) rfl dX2_nextByte_66 ?_
  refine va_iald hx hb hK hP 1 0 rfl rfl (ex_in _) dX2_nextByte_69 ?_
  refine lv_iadd hx hb dX2_nextByte_70 ?_
  refine lv_sipush (v := 255) hx hb dX2_nextByte_71 (by decide) ?_
  refine lv_iand hx hb dX2_nextByte_74 ?_
  refine va_iald hx hb hK hP 1 0 rfl rfl (ex_in _) dX2_nextByte_75 ?_
  exact ct_zret hx hb hr hlk hP hK hD hS rfl rfl dX2_nextByte_76
set_option maxHeartbeats 4000000 in
set_option maxRecDepth 100000 in
/-- Exchanges.nextBit -/
theorem c_ex_next (l : Launch) (D : va_G) (h0 q : Nat) (kR : ClassId) (τ : X5) : Cti l D yX2_nextBit wsX2_nextBit ({ frames := 2, cells := 0, slots := 0, locals := 43 } : Room) [.ref h0] [(kR, .int)] [(h0, .inr (2, [.ref q, .int τ.1.2.1, .int τ.1.2.2, .int τ.2.1, .int τ.2.2])), (q, .inl (kR, 256, .inl τ.1.1))] [(h0, .inr (2, [.ref q, .int ((ex_step τ).1.2.1), .int ((ex_step τ).1.2.2), .int ((ex_step τ).2.1), .int ((ex_step τ).2.2)])), (q, .inl (kR, 256, .inl ((ex_step τ).1.1)))] (ex_out τ) := by
  refine ct_of (cc := cX2_nextBit) (maxL := 1) (ret := (some .int)) (by decide) rfl (Nat.le_of_ble_eq_true rfl) ?_
  intro p e s m below meth c A H locs ls hx hb hr hml hts hown hlk hnm hP hK hD hA hS hl
  have hown : s.vm.findClass RX2 = some m.cls := hown
  have hl : lv_has ls 1 [(0, .ref h0)] := hl
  have hf_25 := hts (.fieldLink RX2 25 "BitStreams$Exchanges" "bitsLeft" "I") (by decide +kernel)
  have hi_X2 : ∀ w ∈ u_ws RX2 TX2 5, w ∈ wsX2_nextBit := by decide +kernel
  have hf_22 := hts (.fieldLink RX2 22 "BitStreams$Exchanges" "givenByte" "I") (by decide +kernel)
  have cw_X2_nextByte := cwV (R := ({ frames := 2, cells := 0, slots := 0, locals := 43 } : Room)) (rm := ({ frames := 1, cells := 0, slots := 0, locals := 23 } : Room)) 0 hts gX2_nextBit_X2_nextByte rfl rfl rfl (by decide +kernel) ⟨Nat.le_of_ble_eq_true rfl, Nat.le_of_ble_eq_true rfl⟩
  refine lv_aload_n hx hb dX2_nextBit_0 rfl (lv_at hl 0 rfl) ?_
  refine va_get (D := D) (ci := 2) (v := .int τ.2.2) (C := RX2) (T := TX2) (N := 5) hx hb hts hi_X2 hown hK hP 0 rfl rfl 4 (by decide) hf_25 (fun _ h9 => h9) rfl dX2_nextBit_1 ?_
  refine lv_if_ne (tgt := 21) hx hb dX2_nextBit_4 (by decide) (fun c_4_1 => ?_) (fun c_4_1 => ?_)
  · have hP : va_P D vwCl [(h0, .inr (2, [.ref q, .int ((ex_need τ).1.2.1), .int ((ex_need τ).1.2.2), .int ((ex_need τ).2.1), .int ((ex_need τ).2.2)])), (q, .inl (kR, 256, .inl ((ex_need τ).1.1)))] H := by rw [ex_need, if_neg c_4_1]; exact hP
    have hD : va_D A [(h0, .inr (2, [.ref q, .int ((ex_need τ).1.2.1), .int ((ex_need τ).1.2.2), .int ((ex_need τ).2.1), .int ((ex_need τ).2.2)])), (q, .inl (kR, 256, .inl ((ex_need τ).1.1)))] := by rw [ex_need, if_neg c_4_1]; exact hD
    refine lv_aload_n hx hb dX2_nextBit_21 rfl (lv_at hl 0 rfl) ?_
    refine lv_dup hx hb dX2_nextBit_22 rfl ?_
    refine va_get (D := D) (ci := 2) (v := .int ((ex_need τ).2.2)) (C := RX2) (T := TX2) (N := 5) hx hb hts hi_X2 hown hK hP 0 rfl rfl 4 (by decide) hf_25 (fun _ h9 => h9) rfl dX2_nextBit_23 ?_
    refine lv_iconst (v := 1) hx hb dX2_nextBit_26 (by decide) ?_
    refine lv_isub hx hb dX2_nextBit_27 ?_
    refine va_put (D := D) (ci := 2) (v := .int (((ex_need τ).2.2) - 1)) (ty := .int) (C := RX2) (T := TX2) (N := 5) hx hb hts hi_X2 tyX2 tyX2_ok nmX2 hown hK hP hD hS 0 rfl rfl 4 (by decide) hf_25 (fun _ h9 => h9) rfl (by decide +kernel) rfl rfl (Nat.le_of_ble_eq_true rfl) dX2_nextBit_28 (fun H locs hP hD hS => ?_)
    have hP : va_P D vwCl [(h0, .inr (2, [.ref q, .int ((ex_need τ).1.2.1), .int ((ex_need τ).1.2.2), .int ((ex_need τ).2.1), .int (((ex_need τ).2.2) - 1)])), (q, .inl (kR, 256, .inl ((ex_need τ).1.1)))] H := hP
    have hD : va_D A [(h0, .inr (2, [.ref q, .int ((ex_need τ).1.2.1), .int ((ex_need τ).1.2.2), .int ((ex_need τ).2.1), .int (((ex_need τ).2.2) - 1)])), (q, .inl (kR, 256, .inl ((ex_need τ).1.1)))] := hD
    refine lv_aload_n hx hb dX2_nextBit_31 rfl (lv_at hl 0 rfl) ?_
    refine va_get (D := D) (ci := 2) (v := .int ((ex_need τ).2.1)) (C := RX2) (T := TX2) (N := 5) hx hb hts hi_X2 hown hK hP 0 rfl rfl 3 (by decide) hf_22 (fun _ h9 => h9) rfl dX2_nextBit_32 ?_
    refine lv_aload_n hx hb dX2_nextBit_35 rfl (lv_at hl 0 rfl) ?_
    refine va_get (D := D) (ci := 2) (v := .int (((ex_need τ).2.2) - 1)) (C := RX2) (T := TX2) (N := 5) hx hb hts hi_X2 hown hK hP 0 rfl rfl 4 (by decide) hf_25 (fun _ h9 => h9) rfl dX2_nextBit_36 ?_
    refine lv_ishr hx hb dX2_nextBit_39 ?_
    refine lv_iconst (v := 1) hx hb dX2_nextBit_40 (by decide) ?_
    refine lv_iand hx hb dX2_nextBit_41 ?_
    exact ct_zret hx hb hr hlk hP hK hD hS rfl rfl dX2_nextBit_42
  · refine lv_aload_n hx hb dX2_nextBit_7 rfl (lv_at hl 0 rfl) ?_
    refine lv_aload_n hx hb dX2_nextBit_8 rfl (lv_at hl 0 rfl) ?_
    refine ct_callVi (As := []) (rest := [.ref h0]) (wr := []) (ws2 := [(h0, .inr (2, [.ref q, .int ((ex_stepB τ.1).2.1), .int ((ex_stepB τ.1).2.2), .int τ.2.1, .int τ.2.2])), (q, .inl (kR, 256, .inl ((ex_stepB τ.1).1)))]) ⟨hx, hb, hml, hown, hts⟩ (c_ex_byte l D h0 q kR τ.1 τ.2.1 τ.2.2) cw_X2_nextByte [0] rfl [0, 1] [] [0, 1] hK hP hD hS hA 0 2 rfl rfl rfl rfl (by decide) rfl (by decide) (by decide) rfl (by decide) rfl hl.1 rfl (Nat.le_of_ble_eq_true rfl) dX2_nextBit_9 ⟨Nat.zero_le _, Nat.zero_le _⟩ (fun H locs hP hD hS => ?_)
    refine va_put (D := D) (ci := 2) (v := .int (ex_byte τ.1)) (ty := .int) (C := RX2) (T := TX2) (N := 5) hx hb hts hi_X2 tyX2 tyX2_ok nmX2 hown hK hP hD hS 0 rfl rfl 3 (by decide) hf_22 (fun _ h9 => h9) rfl (by decide +kernel) rfl rfl (Nat.le_of_ble_eq_true rfl) dX2_nextBit_12 (fun H locs hP hD hS => ?_)
    have hP : va_P D vwCl [(h0, .inr (2, [.ref q, .int ((ex_stepB τ.1).2.1), .int ((ex_stepB τ.1).2.2), .int (ex_byte τ.1), .int τ.2.2])), (q, .inl (kR, 256, .inl ((ex_stepB τ.1).1)))] H := hP
    have hD : va_D A [(h0, .inr (2, [.ref q, .int ((ex_stepB τ.1).2.1), .int ((ex_stepB τ.1).2.2), .int (ex_byte τ.1), .int τ.2.2])), (q, .inl (kR, 256, .inl ((ex_stepB τ.1).1)))] := hD
    refine lv_aload_n hx hb dX2_nextBit_15 rfl (lv_at hl 0 rfl) ?_
    refine lv_bipush (v := 8) hx hb dX2_nextBit_16 (by decide) ?_
    refine va_put (D := D) (ci := 2) (v := .int 8) (ty := .int) (C := RX2) (T := TX2) (N := 5) hx hb hts hi_X2 tyX2 tyX2_ok nmX2 hown hK hP hD hS 0 rfl rfl 4 (by decide) hf_25 (fun _ h9 => h9) rfl (by decide +kernel) rfl rfl (Nat.le_of_ble_eq_true rfl) dX2_nextBit_18 (fun H locs hP hD hS => ?_)
    have hP : va_P D vwCl [(h0, .inr (2, [.ref q, .int ((ex_stepB τ.1).2.1), .int ((ex_stepB τ.1).2.2), .int (ex_byte τ.1), .int 8])), (q, .inl (kR, 256, .inl ((ex_stepB τ.1).1)))] H := hP
    have hD : va_D A [(h0, .inr (2, [.ref q, .int ((ex_stepB τ.1).2.1), .int ((ex_stepB τ.1).2.2), .int (ex_byte τ.1), .int 8])), (q, .inl (kR, 256, .inl ((ex_stepB τ.1).1)))] := hD
    have hP : va_P D vwCl [(h0, .inr (2, [.ref q, .int ((ex_need τ).1.2.1), .int ((ex_need τ).1.2.2), .int ((ex_need τ).2.1), .int ((ex_need τ).2.2)])), (q, .inl (kR, 256, .inl ((ex_need τ).1.1)))] H := by rw [ex_need, if_pos c_4_1]; exact hP
    have hD : va_D A [(h0, .inr (2, [.ref q, .int ((ex_need τ).1.2.1), .int ((ex_need τ).1.2.2), .int ((ex_need τ).2.1), .int ((ex_need τ).2.2)])), (q, .inl (kR, 256, .inl ((ex_need τ).1.1)))] := by rw [ex_need, if_pos c_4_1]; exact hD
    refine lv_aload_n hx hb dX2_nextBit_21 rfl (lv_at hl 0 rfl) ?_
    refine lv_dup hx hb dX2_nextBit_22 rfl ?_
    refine va_get (D := D) (ci := 2) (v := .int ((ex_need τ).2.2)) (C := RX2) (T := TX2) (N := 5) hx hb hts hi_X2 hown hK hP 0 rfl rfl 4 (by decide) hf_25 (fun _ h9 => h9) rfl dX2_nextBit_23 ?_
    refine lv_iconst (v := 1) hx hb dX2_nextBit_26 (by decide) ?_
    refine lv_isub hx hb dX2_nextBit_27 ?_
    refine va_put (D := D) (ci := 2) (v := .int (((ex_need τ).2.2) - 1)) (ty := .int) (C := RX2) (T := TX2) (N := 5) hx hb hts hi_X2 tyX2 tyX2_ok nmX2 hown hK hP hD hS 0 rfl rfl 4 (by decide) hf_25 (fun _ h9 => h9) rfl (by decide +kernel) rfl rfl (Nat.le_of_ble_eq_true rfl) dX2_nextBit_28 (fun H locs hP hD hS => ?_)
    have hP : va_P D vwCl [(h0, .inr (2, [.ref q, .int ((ex_need τ).1.2.1), .int ((ex_need τ).1.2.2), .int ((ex_need τ).2.1), .int (((ex_need τ).2.2) - 1)])), (q, .inl (kR, 256, .inl ((ex_need τ).1.1)))] H := hP
    have hD : va_D A [(h0, .inr (2, [.ref q, .int ((ex_need τ).1.2.1), .int ((ex_need τ).1.2.2), .int ((ex_need τ).2.1), .int (((ex_need τ).2.2) - 1)])), (q, .inl (kR, 256, .inl ((ex_need τ).1.1)))] := hD
    refine lv_aload_n hx hb dX2_nextBit_31 rfl (lv_at hl 0 rfl) ?_
    refine va_get (D := D) (ci := 2) (v := .int ((ex_need τ).2.1)) (C := RX2) (T := TX2) (N := 5) hx hb hts hi_X2 hown hK hP 0 rfl rfl 3 (by decide) hf_22 (fun _ h9 => h9) rfl dX2_nextBit_32 ?_
    refine lv_aload_n hx hb dX2_nextBit_35 rfl (lv_at hl 0 rfl) ?_
    refine va_get (D := D) (ci := 2) (v := .int (((ex_need τ).2.2) - 1)) (C := RX2) (T := TX2) (N := 5) hx hb hts hi_X2 hown hK hP 0 rfl rfl 4 (by decide) hf_25 (fun _ h9 => h9) rfl dX2_nextBit_36 ?_
    refine lv_ishr hx hb dX2_nextBit_39 ?_
    refine lv_iconst (v := 1) hx hb dX2_nextBit_40 (by decide) ?_
    refine lv_iand hx hb dX2_nextBit_41 ?_
    exact ct_zret hx hb hr hlk hP hK hD hS rfl rfl dX2_nextBit_42
end
