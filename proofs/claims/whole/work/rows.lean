section
-- ===== PART A: goes FIRST, ahead of the names: the tables' words, and 'selects' of the private methods out of them =====
/-- a private method of a class that the tables say can be made, by its rows of tables_1 -/
def lw_okq (q : MethodName × Nat) : Prop := (q.1.cls ≠ "java/lang/invoke/MethodHandle" ∧ q.1.cls ≠ "java/lang/invoke/VarHandle") ∧ Cond.instantiable q.1.cls q.2 ∈ tables_1 ∧ Cond.privateMethod q.1 ∈ tables_1 ∧ Cond.instanceMethod q.1 ∈ tables_1
theorem lw_p0 : lw_okq (⟨"DeltaSync$Teller", "startAnew", "()V"⟩, 11) := ⟨⟨by decide +kernel, by decide +kernel⟩, List.mem_of_getElem? (i := 81) (by decide +kernel), List.mem_of_getElem? (i := 87) (by decide +kernel), List.mem_of_getElem? (i := 88) (by decide +kernel)⟩
theorem lw_p1 : lw_okq (⟨"DeltaSync", "fileOf", "(I)LDeltaSync$Row;"⟩, 9) := ⟨⟨by decide +kernel, by decide +kernel⟩, List.mem_of_getElem? (i := 11) (by decide +kernel), List.mem_of_getElem? (i := 157) (by decide +kernel), List.mem_of_getElem? (i := 158) (by decide +kernel)⟩
theorem lw_p2 : lw_okq (⟨"DeltaSync", "rowOf", "(I)LDeltaSync$Row;"⟩, 9) := ⟨⟨by decide +kernel, by decide +kernel⟩, List.mem_of_getElem? (i := 11) (by decide +kernel), List.mem_of_getElem? (i := 161) (by decide +kernel), List.mem_of_getElem? (i := 162) (by decide +kernel)⟩
theorem lw_p3 : lw_okq (⟨"DeltaSync$Row", "makeCells", "(I)V"⟩, 3) := ⟨⟨by decide +kernel, by decide +kernel⟩, List.mem_of_getElem? (i := 19) (by decide +kernel), List.mem_of_getElem? (i := 176) (by decide +kernel), List.mem_of_getElem? (i := 177) (by decide +kernel)⟩
theorem lw_p4 : lw_okq (⟨"DeltaSync$Signature", "makeRoom", "()V"⟩, 7) := ⟨⟨by decide +kernel, by decide +kernel⟩, List.mem_of_getElem? (i := 49) (by decide +kernel), List.mem_of_getElem? (i := 233) (by decide +kernel), List.mem_of_getElem? (i := 234) (by decide +kernel)⟩
theorem lw_p5 : lw_okq (⟨"DeltaSync$Md5", "fillWords", "(LDeltaSync$Row;III)V"⟩, 2) := ⟨⟨by decide +kernel, by decide +kernel⟩, List.mem_of_getElem? (i := 36) (by decide +kernel), List.mem_of_getElem? (i := 260) (by decide +kernel), List.mem_of_getElem? (i := 261) (by decide +kernel)⟩
theorem lw_p6 : lw_okq (⟨"DeltaSync$Md5", "mixWords", "()V"⟩, 2) := ⟨⟨by decide +kernel, by decide +kernel⟩, List.mem_of_getElem? (i := 36) (by decide +kernel), List.mem_of_getElem? (i := 270) (by decide +kernel), List.mem_of_getElem? (i := 271) (by decide +kernel)⟩
theorem lw_p7 : lw_okq (⟨"DeltaSync$Signature", "chainBlocks", "()V"⟩, 7) := ⟨⟨by decide +kernel, by decide +kernel⟩, List.mem_of_getElem? (i := 49) (by decide +kernel), List.mem_of_getElem? (i := 288) (by decide +kernel), List.mem_of_getElem? (i := 289) (by decide +kernel)⟩
theorem lw_p8 : lw_okq (⟨"DeltaSync$Signature", "has", "(I)Z"⟩, 7) := ⟨⟨by decide +kernel, by decide +kernel⟩, List.mem_of_getElem? (i := 49) (by decide +kernel), List.mem_of_getElem? (i := 308) (by decide +kernel), List.mem_of_getElem? (i := 309) (by decide +kernel)⟩
theorem lw_p9 : lw_okq (⟨"DeltaSync$Teller", "blockFor", "(III)I"⟩, 11) := ⟨⟨by decide +kernel, by decide +kernel⟩, List.mem_of_getElem? (i := 81) (by decide +kernel), List.mem_of_getElem? (i := 339) (by decide +kernel), List.mem_of_getElem? (i := 340) (by decide +kernel)⟩
theorem lw_p10 : lw_okq (⟨"DeltaSync$Signature", "firstInChain", "(II)I"⟩, 7) := ⟨⟨by decide +kernel, by decide +kernel⟩, List.mem_of_getElem? (i := 49) (by decide +kernel), List.mem_of_getElem? (i := 347) (by decide +kernel), List.mem_of_getElem? (i := 348) (by decide +kernel)⟩
theorem lw_p11 : lw_okq (⟨"DeltaSync$Signature", "hasDigest", "(ILDeltaSync$Md5;)Z"⟩, 7) := ⟨⟨by decide +kernel, by decide +kernel⟩, List.mem_of_getElem? (i := 49) (by decide +kernel), List.mem_of_getElem? (i := 356) (by decide +kernel), List.mem_of_getElem? (i := 357) (by decide +kernel)⟩
theorem lw_p12 : lw_okq (⟨"DeltaSync$Teller", "writeLiteral", "(I)V"⟩, 11) := ⟨⟨by decide +kernel, by decide +kernel⟩, List.mem_of_getElem? (i := 81) (by decide +kernel), List.mem_of_getElem? (i := 362) (by decide +kernel), List.mem_of_getElem? (i := 363) (by decide +kernel)⟩
theorem lw_p13 : lw_okq (⟨"DeltaSync$Teller", "growRow", "()V"⟩, 11) := ⟨⟨by decide +kernel, by decide +kernel⟩, List.mem_of_getElem? (i := 81) (by decide +kernel), List.mem_of_getElem? (i := 366) (by decide +kernel), List.mem_of_getElem? (i := 367) (by decide +kernel)⟩
theorem lw_p14 : lw_okq (⟨"DeltaSync$Teller", "openRow", "()V"⟩, 11) := ⟨⟨by decide +kernel, by decide +kernel⟩, List.mem_of_getElem? (i := 81) (by decide +kernel), List.mem_of_getElem? (i := 372) (by decide +kernel), List.mem_of_getElem? (i := 373) (by decide +kernel)⟩
theorem lw_p15 : lw_okq (⟨"DeltaSync$Teller", "rolled", "(III)I"⟩, 11) := ⟨⟨by decide +kernel, by decide +kernel⟩, List.mem_of_getElem? (i := 81) (by decide +kernel), List.mem_of_getElem? (i := 376) (by decide +kernel), List.mem_of_getElem? (i := 377) (by decide +kernel)⟩
def lw_privs_1 : List (MethodName × Nat) := [(⟨"DeltaSync$Teller", "startAnew", "()V"⟩, 11), (⟨"DeltaSync", "fileOf", "(I)LDeltaSync$Row;"⟩, 9), (⟨"DeltaSync", "rowOf", "(I)LDeltaSync$Row;"⟩, 9), (⟨"DeltaSync$Row", "makeCells", "(I)V"⟩, 3), (⟨"DeltaSync$Signature", "makeRoom", "()V"⟩, 7), (⟨"DeltaSync$Md5", "fillWords", "(LDeltaSync$Row;III)V"⟩, 2), (⟨"DeltaSync$Md5", "mixWords", "()V"⟩, 2), (⟨"DeltaSync$Signature", "chainBlocks", "()V"⟩, 7), (⟨"DeltaSync$Signature", "has", "(I)Z"⟩, 7), (⟨"DeltaSync$Teller", "blockFor", "(III)I"⟩, 11), (⟨"DeltaSync$Signature", "firstInChain", "(II)I"⟩, 7), (⟨"DeltaSync$Signature", "hasDigest", "(ILDeltaSync$Md5;)Z"⟩, 7), (⟨"DeltaSync$Teller", "writeLiteral", "(I)V"⟩, 11), (⟨"DeltaSync$Teller", "growRow", "()V"⟩, 11), (⟨"DeltaSync$Teller", "openRow", "()V"⟩, 11), (⟨"DeltaSync$Teller", "rolled", "(III)I"⟩, 11)]
theorem lw_r1 : ∀ q ∈ lw_privs_1, lw_okq q := List.forall_mem_cons.mpr ⟨lw_p0, List.forall_mem_cons.mpr ⟨lw_p1, List.forall_mem_cons.mpr ⟨lw_p2, List.forall_mem_cons.mpr ⟨lw_p3, List.forall_mem_cons.mpr ⟨lw_p4, List.forall_mem_cons.mpr ⟨lw_p5, List.forall_mem_cons.mpr ⟨lw_p6, List.forall_mem_cons.mpr ⟨lw_p7, List.forall_mem_cons.mpr ⟨lw_p8, List.forall_mem_cons.mpr ⟨lw_p9, List.forall_mem_cons.mpr ⟨lw_p10, List.forall_mem_cons.mpr ⟨lw_p11, List.forall_mem_cons.mpr ⟨lw_p12, List.forall_mem_cons.mpr ⟨lw_p13, List.forall_mem_cons.mpr ⟨lw_p14, List.forall_mem_cons.mpr ⟨lw_p15, fun _ h => absurd h List.not_mem_nil⟩⟩⟩⟩⟩⟩⟩⟩⟩⟩⟩⟩⟩⟩⟩⟩
theorem lw_p16 : lw_okq (⟨"DeltaSync$Teller", "writeReference", "(I)V"⟩, 11) := ⟨⟨by decide +kernel, by decide +kernel⟩, List.mem_of_getElem? (i := 81) (by decide +kernel), List.mem_of_getElem? (i := 382) (by decide +kernel), List.mem_of_getElem? (i := 383) (by decide +kernel)⟩
theorem lw_p17 : lw_okq (⟨"DeltaSync", "allRowsApplied", "()Z"⟩, 9) := ⟨⟨by decide +kernel, by decide +kernel⟩, List.mem_of_getElem? (i := 11) (by decide +kernel), List.mem_of_getElem? (i := 391) (by decide +kernel), List.mem_of_getElem? (i := 392) (by decide +kernel)⟩
theorem lw_p18 : lw_okq (⟨"DeltaSync", "applyRow", "(I)I"⟩, 9) := ⟨⟨by decide +kernel, by decide +kernel⟩, List.mem_of_getElem? (i := 11) (by decide +kernel), List.mem_of_getElem? (i := 395) (by decide +kernel), List.mem_of_getElem? (i := 396) (by decide +kernel)⟩
theorem lw_p19 : lw_okq (⟨"DeltaSync", "applyLiterals", "(I)I"⟩, 9) := ⟨⟨by decide +kernel, by decide +kernel⟩, List.mem_of_getElem? (i := 11) (by decide +kernel), List.mem_of_getElem? (i := 400) (by decide +kernel), List.mem_of_getElem? (i := 401) (by decide +kernel)⟩
theorem lw_p20 : lw_okq (⟨"DeltaSync", "applyReferences", "(I)I"⟩, 9) := ⟨⟨by decide +kernel, by decide +kernel⟩, List.mem_of_getElem? (i := 11) (by decide +kernel), List.mem_of_getElem? (i := 410) (by decide +kernel), List.mem_of_getElem? (i := 411) (by decide +kernel)⟩
theorem lw_p21 : lw_okq (⟨"DeltaSyncModel", "sumOf", "(II)I"⟩, 22) := ⟨⟨by decide +kernel, by decide +kernel⟩, List.mem_of_getElem? (i := 479) (by decide +kernel), List.mem_of_getElem? (i := 639) (by decide +kernel), List.mem_of_getElem? (i := 640) (by decide +kernel)⟩
theorem lw_p22 : lw_okq (⟨"DeltaSyncModel", "digestOf", "(II)V"⟩, 22) := ⟨⟨by decide +kernel, by decide +kernel⟩, List.mem_of_getElem? (i := 479) (by decide +kernel), List.mem_of_getElem? (i := 644) (by decide +kernel), List.mem_of_getElem? (i := 645) (by decide +kernel)⟩
theorem lw_p23 : lw_okq (⟨"DeltaSyncModel", "mix", "(I)V"⟩, 22) := ⟨⟨by decide +kernel, by decide +kernel⟩, List.mem_of_getElem? (i := 479) (by decide +kernel), List.mem_of_getElem? (i := 653) (by decide +kernel), List.mem_of_getElem? (i := 654) (by decide +kernel)⟩
theorem lw_p24 : lw_okq (⟨"DeltaSyncModel", "digestByte", "(I)I"⟩, 22) := ⟨⟨by decide +kernel, by decide +kernel⟩, List.mem_of_getElem? (i := 479) (by decide +kernel), List.mem_of_getElem? (i := 657) (by decide +kernel), List.mem_of_getElem? (i := 658) (by decide +kernel)⟩
theorem lw_p25 : lw_okq (⟨"DeltaSyncModel", "blockAt", "(II)I"⟩, 22) := ⟨⟨by decide +kernel, by decide +kernel⟩, List.mem_of_getElem? (i := 479) (by decide +kernel), List.mem_of_getElem? (i := 673) (by decide +kernel), List.mem_of_getElem? (i := 674) (by decide +kernel)⟩
theorem lw_p26 : lw_okq (⟨"DeltaSyncModel", "isDigest", "(I)Z"⟩, 22) := ⟨⟨by decide +kernel, by decide +kernel⟩, List.mem_of_getElem? (i := 479) (by decide +kernel), List.mem_of_getElem? (i := 677) (by decide +kernel), List.mem_of_getElem? (i := 678) (by decide +kernel)⟩
theorem lw_p27 : lw_okq (⟨"DeltaSyncModel", "add", "(I)V"⟩, 22) := ⟨⟨by decide +kernel, by decide +kernel⟩, List.mem_of_getElem? (i := 479) (by decide +kernel), List.mem_of_getElem? (i := 681) (by decide +kernel), List.mem_of_getElem? (i := 682) (by decide +kernel)⟩
def lw_privs_2 : List (MethodName × Nat) := [(⟨"DeltaSync$Teller", "writeReference", "(I)V"⟩, 11), (⟨"DeltaSync", "allRowsApplied", "()Z"⟩, 9), (⟨"DeltaSync", "applyRow", "(I)I"⟩, 9), (⟨"DeltaSync", "applyLiterals", "(I)I"⟩, 9), (⟨"DeltaSync", "applyReferences", "(I)I"⟩, 9), (⟨"DeltaSyncModel", "sumOf", "(II)I"⟩, 22), (⟨"DeltaSyncModel", "digestOf", "(II)V"⟩, 22), (⟨"DeltaSyncModel", "mix", "(I)V"⟩, 22), (⟨"DeltaSyncModel", "digestByte", "(I)I"⟩, 22), (⟨"DeltaSyncModel", "blockAt", "(II)I"⟩, 22), (⟨"DeltaSyncModel", "isDigest", "(I)Z"⟩, 22), (⟨"DeltaSyncModel", "add", "(I)V"⟩, 22)]
theorem lw_r2 : ∀ q ∈ lw_privs_2, lw_okq q := List.forall_mem_cons.mpr ⟨lw_p16, List.forall_mem_cons.mpr ⟨lw_p17, List.forall_mem_cons.mpr ⟨lw_p18, List.forall_mem_cons.mpr ⟨lw_p19, List.forall_mem_cons.mpr ⟨lw_p20, List.forall_mem_cons.mpr ⟨lw_p21, List.forall_mem_cons.mpr ⟨lw_p22, List.forall_mem_cons.mpr ⟨lw_p23, List.forall_mem_cons.mpr ⟨lw_p24, List.forall_mem_cons.mpr ⟨lw_p25, List.forall_mem_cons.mpr ⟨lw_p26, List.forall_mem_cons.mpr ⟨lw_p27, fun _ h => absurd h List.not_mem_nil⟩⟩⟩⟩⟩⟩⟩⟩⟩⟩⟩⟩
def lw_privs : List (MethodName × Nat) := lw_privs_1 ++ (lw_privs_2)
def lw_tbl : List Cond := k2_sels lw_privs ++ tables_1
theorem lw_privs_ok : ∀ q ∈ lw_privs, lw_okq q := by
  show ∀ q ∈ lw_privs_1 ++ (lw_privs_2), lw_okq q
  exact List.forall_mem_append.mpr ⟨lw_r1, lw_r2⟩
def RX0 : String := "DeltaSync$Md5"
def TX0 : u_T := fun k => match k with
  | 0 => ("DeltaSync$Md5", "words", "[I", true)
  | _ => ("DeltaSync$Md5", "state", "[I", true)
def tyX0 : Nat → FieldType := fun k => match k with
  | 0 => .array .int
  | _ => .array .int
abbrev wsX00 : List Cond := u_ws RX0 TX0 2
theorem nmX0 : ∀ a, a < 2 → ∀ b, b < 2 → a ≠ b → (TX0 a).2.1 ≠ (TX0 b).2.1 := by decide +kernel
theorem tyX0_ok : ∀ k, k < 2 → parseFieldDescriptor (TX0 k).2.2.1 = some (tyX0 k) := by decide +kernel
abbrev cX0_init : ByteArray := prog_2_method_1_code
def yX0_init : MethodName := ⟨RX0, "<init>", "()V"⟩
abbrev cX0_take : ByteArray := prog_2_method_2_code
def yX0_take : MethodName := ⟨RX0, "take", "(LDeltaSync$Row;II)V"⟩
abbrev cX0_digestByte : ByteArray := prog_2_method_3_code
def yX0_digestByte : MethodName := ⟨RX0, "digestByte", "(I)I"⟩
abbrev cX0_fillWords : ByteArray := prog_2_method_4_code
def yX0_fillWords : MethodName := ⟨RX0, "fillWords", "(LDeltaSync$Row;III)V"⟩
abbrev cX0_mixWords : ByteArray := prog_2_method_5_code
def yX0_mixWords : MethodName := ⟨RX0, "mixWords", "()V"⟩
abbrev cX0_mixed : ByteArray := prog_2_method_6_code
def yX0_mixed : MethodName := ⟨RX0, "mixed", "(IIII)I"⟩
abbrev cX0_wordFor : ByteArray := prog_2_method_7_code
def yX0_wordFor : MethodName := ⟨RX0, "wordFor", "(II)I"⟩
def RX1 : String := "DeltaSync$Row"
def TX1 : u_T := fun k => match k with
  | 0 => ("DeltaSync$Row", "most", "I", true)
  | 1 => ("DeltaSync$Row", "cells", "[I", false)
  | _ => ("DeltaSync$Row", "used", "I", false)
def tyX1 : Nat → FieldType := fun k => match k with
  | 0 => .int
  | 1 => .array .int
  | _ => .int
abbrev wsX10 : List Cond := u_ws RX1 TX1 3
theorem nmX1 : ∀ a, a < 3 → ∀ b, b < 3 → a ≠ b → (TX1 a).2.1 ≠ (TX1 b).2.1 := by decide +kernel
theorem tyX1_ok : ∀ k, k < 3 → parseFieldDescriptor (TX1 k).2.2.1 = some (tyX1 k) := by decide +kernel
abbrev cX1_init : ByteArray := prog_3_method_1_code
def yX1_init : MethodName := ⟨RX1, "<init>", "(I)V"⟩
abbrev cX1_length : ByteArray := prog_3_method_2_code
def yX1_length : MethodName := ⟨RX1, "length", "()I"⟩
abbrev cX1_room : ByteArray := prog_3_method_3_code
def yX1_room : MethodName := ⟨RX1, "room", "()I"⟩
abbrev cX1_clear : ByteArray := prog_3_method_4_code
def yX1_clear : MethodName := ⟨RX1, "clear", "()V"⟩
abbrev cX1_holds : ByteArray := prog_3_method_5_code
def yX1_holds : MethodName := ⟨RX1, "holds", "(II)Z"⟩
abbrev cX1_get : ByteArray := prog_3_method_6_code
def yX1_get : MethodName := ⟨RX1, "get", "(I)I"⟩
abbrev cX1_set : ByteArray := prog_3_method_7_code
def yX1_set : MethodName := ⟨RX1, "set", "(II)Z"⟩
abbrev cX1_add : ByteArray := prog_3_method_8_code
def yX1_add : MethodName := ⟨RX1, "add", "(I)Z"⟩
abbrev cX1_addFrom : ByteArray := prog_3_method_9_code
def yX1_addFrom : MethodName := ⟨RX1, "addFrom", "(LDeltaSync$Row;II)Z"⟩
abbrev cX1_shorten : ByteArray := prog_3_method_10_code
def yX1_shorten : MethodName := ⟨RX1, "shorten", "(I)Z"⟩
abbrev cX1_equalTo : ByteArray := prog_3_method_11_code
def yX1_equalTo : MethodName := ⟨RX1, "equalTo", "(LDeltaSync$Row;)Z"⟩
abbrev cX1_sumFrom : ByteArray := prog_3_method_12_code
def yX1_sumFrom : MethodName := ⟨RX1, "sumFrom", "(II)I"⟩
abbrev cX1_joined : ByteArray := prog_3_method_13_code
def yX1_joined : MethodName := ⟨RX1, "joined", "(II)I"⟩
abbrev cX1_isByte : ByteArray := prog_3_method_14_code
def yX1_isByte : MethodName := ⟨RX1, "isByte", "(I)Z"⟩
abbrev cX1_makeCells : ByteArray := prog_3_method_15_code
def yX1_makeCells : MethodName := ⟨RX1, "makeCells", "(I)V"⟩
def RX2 : String := "DeltaSync$Signature"
def TX2 : u_T := fun k => match k with
  | 0 => ("DeltaSync$Signature", "blockSize", "I", false)
  | 1 => ("DeltaSync$Signature", "width", "I", false)
  | 2 => ("DeltaSync$Signature", "blocks", "I", false)
  | 3 => ("DeltaSync$Signature", "sums", "[I", false)
  | 4 => ("DeltaSync$Signature", "digests", "[B", false)
  | 5 => ("DeltaSync$Signature", "heads", "[I", true)
  | _ => ("DeltaSync$Signature", "nexts", "[I", false)
def tyX2 : Nat → FieldType := fun k => match k with
  | 0 => .int
  | 1 => .int
  | 2 => .int
  | 3 => .array .int
  | 4 => .array .byte
  | 5 => .array .int
  | _ => .array .int
abbrev wsX20 : List Cond := u_ws RX2 TX2 7
theorem nmX2 : ∀ a, a < 7 → ∀ b, b < 7 → a ≠ b → (TX2 a).2.1 ≠ (TX2 b).2.1 := by decide +kernel
theorem tyX2_ok : ∀ k, k < 7 → parseFieldDescriptor (TX2 k).2.2.1 = some (tyX2 k) := by decide +kernel
abbrev cX2_init : ByteArray := prog_4_method_1_code
def yX2_init : MethodName := ⟨RX2, "<init>", "()V"⟩
abbrev cX2_blocks : ByteArray := prog_4_method_2_code
def yX2_blocks : MethodName := ⟨RX2, "blocks", "()I"⟩
abbrev cX2_blockSize : ByteArray := prog_4_method_3_code
def yX2_blockSize : MethodName := ⟨RX2, "blockSize", "()I"⟩
abbrev cX2_width : ByteArray := prog_4_method_4_code
def yX2_width : MethodName := ⟨RX2, "width", "()I"⟩
abbrev cX2_sumOf : ByteArray := prog_4_method_5_code
def yX2_sumOf : MethodName := ⟨RX2, "sumOf", "(I)I"⟩
abbrev cX2_digestByte : ByteArray := prog_4_method_6_code
def yX2_digestByte : MethodName := ⟨RX2, "digestByte", "(II)I"⟩
abbrev cX2_make : ByteArray := prog_4_method_7_code
def yX2_make : MethodName := ⟨RX2, "make", "(LDeltaSync$Row;IILDeltaSync$Md5;)V"⟩
abbrev cX2_hasSum : ByteArray := prog_4_method_8_code
def yX2_hasSum : MethodName := ⟨RX2, "hasSum", "(I)Z"⟩
abbrev cX2_find : ByteArray := prog_4_method_9_code
def yX2_find : MethodName := ⟨RX2, "find", "(ILDeltaSync$Md5;I)I"⟩
abbrev cX2_has : ByteArray := prog_4_method_10_code
def yX2_has : MethodName := ⟨RX2, "has", "(I)Z"⟩
abbrev cX2_firstInChain : ByteArray := prog_4_method_11_code
def yX2_firstInChain : MethodName := ⟨RX2, "firstInChain", "(II)I"⟩
abbrev cX2_hasDigest : ByteArray := prog_4_method_12_code
def yX2_hasDigest : MethodName := ⟨RX2, "hasDigest", "(ILDeltaSync$Md5;)Z"⟩
abbrev cX2_makeRoom : ByteArray := prog_4_method_13_code
def yX2_makeRoom : MethodName := ⟨RX2, "makeRoom", "()V"⟩
abbrev cX2_chainBlocks : ByteArray := prog_4_method_14_code
def yX2_chainBlocks : MethodName := ⟨RX2, "chainBlocks", "()V"⟩
abbrev cX2_chainOf : ByteArray := prog_4_method_15_code
def yX2_chainOf : MethodName := ⟨RX2, "chainOf", "(I)I"⟩
def RX3 : String := "DeltaSync$Teller"
def TX3 : u_T := fun k => match k with
  | 0 => ("DeltaSync$Teller", "source", "LDeltaSync$Row;", true)
  | 1 => ("DeltaSync$Teller", "target", "LDeltaSync$Row;", true)
  | 2 => ("DeltaSync$Teller", "signature", "LDeltaSync$Signature;", true)
  | 3 => ("DeltaSync$Teller", "hasher", "LDeltaSync$Md5;", true)
  | 4 => ("DeltaSync$Teller", "references", "I", false)
  | 5 => ("DeltaSync$Teller", "literals", "I", false)
  | 6 => ("DeltaSync$Teller", "rows", "I", false)
  | 7 => ("DeltaSync$Teller", "alarms", "I", false)
  | 8 => ("DeltaSync$Teller", "inRow", "I", false)
  | 9 => ("DeltaSync$Teller", "inRowAt", "I", false)
  | _ => ("DeltaSync$Teller", "lastBlock", "I", false)
def tyX3 : Nat → FieldType := fun k => match k with
  | 0 => .object "DeltaSync$Row"
  | 1 => .object "DeltaSync$Row"
  | 2 => .object "DeltaSync$Signature"
  | 3 => .object "DeltaSync$Md5"
  | 4 => .int
  | 5 => .int
  | 6 => .int
  | 7 => .int
  | 8 => .int
  | 9 => .int
  | _ => .int
abbrev wsX30 : List Cond := u_ws RX3 TX3 11
theorem nmX3 : ∀ a, a < 11 → ∀ b, b < 11 → a ≠ b → (TX3 a).2.1 ≠ (TX3 b).2.1 := by decide +kernel
theorem tyX3_ok : ∀ k, k < 11 → parseFieldDescriptor (TX3 k).2.2.1 = some (tyX3 k) := by decide +kernel
abbrev cX3_init : ByteArray := prog_5_method_1_code
def yX3_init : MethodName := ⟨RX3, "<init>", "(LDeltaSync$Row;LDeltaSync$Row;LDeltaSync$Signature;LDeltaSync$Md5;)V"⟩
abbrev cX3_references : ByteArray := prog_5_method_2_code
def yX3_references : MethodName := ⟨RX3, "references", "()I"⟩
abbrev cX3_literals : ByteArray := prog_5_method_3_code
def yX3_literals : MethodName := ⟨RX3, "literals", "()I"⟩
abbrev cX3_rows : ByteArray := prog_5_method_4_code
def yX3_rows : MethodName := ⟨RX3, "rows", "()I"⟩
abbrev cX3_alarms : ByteArray := prog_5_method_5_code
def yX3_alarms : MethodName := ⟨RX3, "alarms", "()I"⟩
abbrev cX3_tell : ByteArray := prog_5_method_6_code
def yX3_tell : MethodName := ⟨RX3, "tell", "()V"⟩
abbrev cX3_startAnew : ByteArray := prog_5_method_7_code
def yX3_startAnew : MethodName := ⟨RX3, "startAnew", "()V"⟩
abbrev cX3_blockFor : ByteArray := prog_5_method_8_code
def yX3_blockFor : MethodName := ⟨RX3, "blockFor", "(III)I"⟩
abbrev cX3_rolled : ByteArray := prog_5_method_9_code
def yX3_rolled : MethodName := ⟨RX3, "rolled", "(III)I"⟩
abbrev cX3_writeLiteral : ByteArray := prog_5_method_10_code
def yX3_writeLiteral : MethodName := ⟨RX3, "writeLiteral", "(I)V"⟩
abbrev cX3_writeReference : ByteArray := prog_5_method_11_code
def yX3_writeReference : MethodName := ⟨RX3, "writeReference", "(I)V"⟩
abbrev cX3_openRow : ByteArray := prog_5_method_12_code
def yX3_openRow : MethodName := ⟨RX3, "openRow", "()V"⟩
abbrev cX3_growRow : ByteArray := prog_5_method_13_code
def yX3_growRow : MethodName := ⟨RX3, "growRow", "()V"⟩
def RX4 : String := "DeltaSync"
def TX4 : u_T := fun k => match k with
  | 0 => ("DeltaSync", "oldFile", "LDeltaSync$Row;", true)
  | 1 => ("DeltaSync", "newFile", "LDeltaSync$Row;", true)
  | 2 => ("DeltaSync", "told", "LDeltaSync$Row;", true)
  | 3 => ("DeltaSync", "result", "LDeltaSync$Row;", true)
  | 4 => ("DeltaSync", "hasher", "LDeltaSync$Md5;", true)
  | 5 => ("DeltaSync", "signature", "LDeltaSync$Signature;", true)
  | 6 => ("DeltaSync", "teller", "LDeltaSync$Teller;", true)
  | 7 => ("DeltaSync", "nextBlockSize", "I", false)
  | _ => ("DeltaSync", "nextWidth", "I", false)
def tyX4 : Nat → FieldType := fun k => match k with
  | 0 => .object "DeltaSync$Row"
  | 1 => .object "DeltaSync$Row"
  | 2 => .object "DeltaSync$Row"
  | 3 => .object "DeltaSync$Row"
  | 4 => .object "DeltaSync$Md5"
  | 5 => .object "DeltaSync$Signature"
  | 6 => .object "DeltaSync$Teller"
  | 7 => .int
  | _ => .int
abbrev wsX40 : List Cond := u_ws RX4 TX4 9
theorem nmX4 : ∀ a, a < 9 → ∀ b, b < 9 → a ≠ b → (TX4 a).2.1 ≠ (TX4 b).2.1 := by decide +kernel
theorem tyX4_ok : ∀ k, k < 9 → parseFieldDescriptor (TX4 k).2.2.1 = some (tyX4 k) := by decide +kernel
abbrev cX4_init : ByteArray := prog_1_method_1_code
def yX4_init : MethodName := ⟨RX4, "<init>", "()V"⟩
abbrev cX4_feed : ByteArray := prog_1_method_2_code
def yX4_feed : MethodName := ⟨RX4, "feed", "(II)I"⟩
abbrev cX4_cut : ByteArray := prog_1_method_3_code
def yX4_cut : MethodName := ⟨RX4, "cut", "(II)Z"⟩
abbrev cX4_put : ByteArray := prog_1_method_4_code
def yX4_put : MethodName := ⟨RX4, "put", "(III)Z"⟩
abbrev cX4_shape : ByteArray := prog_1_method_5_code
def yX4_shape : MethodName := ⟨RX4, "shape", "(II)Z"⟩
abbrev cX4_sign : ByteArray := prog_1_method_6_code
def yX4_sign : MethodName := ⟨RX4, "sign", "()I"⟩
abbrev cX4_sum : ByteArray := prog_1_method_7_code
def yX4_sum : MethodName := ⟨RX4, "sum", "(I)I"⟩
abbrev cX4_digest : ByteArray := prog_1_method_8_code
def yX4_digest : MethodName := ⟨RX4, "digest", "(II)I"⟩
abbrev cX4_delta : ByteArray := prog_1_method_9_code
def yX4_delta : MethodName := ⟨RX4, "delta", "()I"⟩
abbrev cX4_apply : ByteArray := prog_1_method_10_code
def yX4_apply : MethodName := ⟨RX4, "apply", "()I"⟩
abbrev cX4_at : ByteArray := prog_1_method_11_code
def yX4_at : MethodName := ⟨RX4, "at", "(II)I"⟩
abbrev cX4_size : ByteArray := prog_1_method_12_code
def yX4_size : MethodName := ⟨RX4, "size", "(I)I"⟩
abbrev cX4_change : ByteArray := prog_1_method_13_code
def yX4_change : MethodName := ⟨RX4, "change", "(II)Z"⟩
abbrev cX4_push : ByteArray := prog_1_method_14_code
def yX4_push : MethodName := ⟨RX4, "push", "(I)Z"⟩
abbrev cX4_keep : ByteArray := prog_1_method_15_code
def yX4_keep : MethodName := ⟨RX4, "keep", "(I)Z"⟩
abbrev cX4_sumAt : ByteArray := prog_1_method_16_code
def yX4_sumAt : MethodName := ⟨RX4, "sumAt", "(III)I"⟩
abbrev cX4_md5 : ByteArray := prog_1_method_17_code
def yX4_md5 : MethodName := ⟨RX4, "md5", "(II)I"⟩
abbrev cX4_same : ByteArray := prog_1_method_18_code
def yX4_same : MethodName := ⟨RX4, "same", "()Z"⟩
abbrev cX4_count : ByteArray := prog_1_method_19_code
def yX4_count : MethodName := ⟨RX4, "count", "(I)I"⟩
abbrev cX4_fileOf : ByteArray := prog_1_method_20_code
def yX4_fileOf : MethodName := ⟨RX4, "fileOf", "(I)LDeltaSync$Row;"⟩
abbrev cX4_rowOf : ByteArray := prog_1_method_21_code
def yX4_rowOf : MethodName := ⟨RX4, "rowOf", "(I)LDeltaSync$Row;"⟩
abbrev cX4_allRowsApplied : ByteArray := prog_1_method_22_code
def yX4_allRowsApplied : MethodName := ⟨RX4, "allRowsApplied", "()Z"⟩
abbrev cX4_applyRow : ByteArray := prog_1_method_23_code
def yX4_applyRow : MethodName := ⟨RX4, "applyRow", "(I)I"⟩
abbrev cX4_applyLiterals : ByteArray := prog_1_method_24_code
def yX4_applyLiterals : MethodName := ⟨RX4, "applyLiterals", "(I)I"⟩
abbrev cX4_applyReferences : ByteArray := prog_1_method_25_code
def yX4_applyReferences : MethodName := ⟨RX4, "applyReferences", "(I)I"⟩
def RX5 : String := "DeltaSyncModel"
def TX5 : u_T := fun k => match k with
  | 0 => ("DeltaSyncModel", "bytes", "[B", true)
  | 1 => ("DeltaSyncModel", "sizes", "[I", true)
  | 2 => ("DeltaSyncModel", "delta", "[B", true)
  | 3 => ("DeltaSyncModel", "deltaSize", "I", false)
  | 4 => ("DeltaSyncModel", "size", "I", false)
  | 5 => ("DeltaSyncModel", "width", "I", false)
  | 6 => ("DeltaSyncModel", "blocks", "I", false)
  | 7 => ("DeltaSyncModel", "signedSize", "I", false)
  | 8 => ("DeltaSyncModel", "signedWidth", "I", false)
  | 9 => ("DeltaSyncModel", "sums", "[I", true)
  | 10 => ("DeltaSyncModel", "digests", "[B", true)
  | 11 => ("DeltaSyncModel", "references", "I", false)
  | 12 => ("DeltaSyncModel", "literals", "I", false)
  | 13 => ("DeltaSyncModel", "rows", "I", false)
  | 14 => ("DeltaSyncModel", "alarms", "I", false)
  | 15 => ("DeltaSyncModel", "filled", "[B", true)
  | 16 => ("DeltaSyncModel", "state", "[I", true)
  | 17 => ("DeltaSyncModel", "words", "[I", true)
  | 18 => ("DeltaSyncModel", "sines", "[I", true)
  | 19 => ("DeltaSyncModel", "turns", "[I", true)
  | 20 => ("DeltaSyncModel", "told", "[I", true)
  | _ => ("DeltaSyncModel", "tolds", "I", false)
def tyX5 : Nat → FieldType := fun k => match k with
  | 0 => .array .byte
  | 1 => .array .int
  | 2 => .array .byte
  | 3 => .int
  | 4 => .int
  | 5 => .int
  | 6 => .int
  | 7 => .int
  | 8 => .int
  | 9 => .array .int
  | 10 => .array .byte
  | 11 => .int
  | 12 => .int
  | 13 => .int
  | 14 => .int
  | 15 => .array .byte
  | 16 => .array .int
  | 17 => .array .int
  | 18 => .array .int
  | 19 => .array .int
  | 20 => .array .int
  | _ => .int
abbrev wsX50 : List Cond := u_ws RX5 TX5 22
theorem nmX5 : ∀ a, a < 22 → ∀ b, b < 22 → a ≠ b → (TX5 a).2.1 ≠ (TX5 b).2.1 := by decide +kernel
theorem tyX5_ok : ∀ k, k < 22 → parseFieldDescriptor (TX5 k).2.2.1 = some (tyX5 k) := by decide +kernel
abbrev cX5_init : ByteArray := prog_7_method_1_code
def yX5_init : MethodName := ⟨RX5, "<init>", "()V"⟩
abbrev cX5_isFile : ByteArray := prog_7_method_3_code
def yX5_isFile : MethodName := ⟨RX5, "isFile", "(I)Z"⟩
abbrev cX5_feed : ByteArray := prog_7_method_4_code
def yX5_feed : MethodName := ⟨RX5, "feed", "(II)I"⟩
abbrev cX5_cut : ByteArray := prog_7_method_5_code
def yX5_cut : MethodName := ⟨RX5, "cut", "(II)Z"⟩
abbrev cX5_put : ByteArray := prog_7_method_6_code
def yX5_put : MethodName := ⟨RX5, "put", "(III)Z"⟩
abbrev cX5_shape : ByteArray := prog_7_method_7_code
def yX5_shape : MethodName := ⟨RX5, "shape", "(II)Z"⟩
abbrev cX5_sumOf : ByteArray := prog_7_method_8_code
def yX5_sumOf : MethodName := ⟨RX5, "sumOf", "(II)I"⟩
abbrev cX5_digestOf : ByteArray := prog_7_method_9_code
def yX5_digestOf : MethodName := ⟨RX5, "digestOf", "(II)V"⟩
abbrev cX5_mix : ByteArray := prog_7_method_10_code
def yX5_mix : MethodName := ⟨RX5, "mix", "(I)V"⟩
abbrev cX5_digestByte : ByteArray := prog_7_method_11_code
def yX5_digestByte : MethodName := ⟨RX5, "digestByte", "(I)I"⟩
abbrev cX5_sign : ByteArray := prog_7_method_12_code
def yX5_sign : MethodName := ⟨RX5, "sign", "()I"⟩
abbrev cX5_sum : ByteArray := prog_7_method_13_code
def yX5_sum : MethodName := ⟨RX5, "sum", "(I)I"⟩
abbrev cX5_digest : ByteArray := prog_7_method_14_code
def yX5_digest : MethodName := ⟨RX5, "digest", "(II)I"⟩
abbrev cX5_isDigest : ByteArray := prog_7_method_15_code
def yX5_isDigest : MethodName := ⟨RX5, "isDigest", "(I)Z"⟩
abbrev cX5_blockAt : ByteArray := prog_7_method_16_code
def yX5_blockAt : MethodName := ⟨RX5, "blockAt", "(II)I"⟩
abbrev cX5_add : ByteArray := prog_7_method_17_code
def yX5_add : MethodName := ⟨RX5, "add", "(I)V"⟩
abbrev cX5_delta : ByteArray := prog_7_method_18_code
def yX5_delta : MethodName := ⟨RX5, "delta", "()I"⟩
abbrev cX5_apply : ByteArray := prog_7_method_19_code
def yX5_apply : MethodName := ⟨RX5, "apply", "()I"⟩
abbrev cX5_at : ByteArray := prog_7_method_20_code
def yX5_at : MethodName := ⟨RX5, "at", "(II)I"⟩
abbrev cX5_size : ByteArray := prog_7_method_21_code
def yX5_size : MethodName := ⟨RX5, "size", "(I)I"⟩
abbrev cX5_change : ByteArray := prog_7_method_22_code
def yX5_change : MethodName := ⟨RX5, "change", "(II)Z"⟩
abbrev cX5_push : ByteArray := prog_7_method_23_code
def yX5_push : MethodName := ⟨RX5, "push", "(I)Z"⟩
abbrev cX5_keep : ByteArray := prog_7_method_24_code
def yX5_keep : MethodName := ⟨RX5, "keep", "(I)Z"⟩
abbrev cX5_sumAt : ByteArray := prog_7_method_25_code
def yX5_sumAt : MethodName := ⟨RX5, "sumAt", "(III)I"⟩
abbrev cX5_md5 : ByteArray := prog_7_method_26_code
def yX5_md5 : MethodName := ⟨RX5, "md5", "(II)I"⟩
abbrev cX5_same : ByteArray := prog_7_method_27_code
def yX5_same : MethodName := ⟨RX5, "same", "()Z"⟩
abbrev cX5_count : ByteArray := prog_7_method_28_code
def yX5_count : MethodName := ⟨RX5, "count", "(I)I"⟩
def RJx8e188 : String := "java/lang/Cloneable"
def TJx8e188 : u_T := fun k => match k with
  | _ => ("", "", "", false)
def tyJx8e188 : Nat → FieldType := fun k => match k with
  | _ => .int
abbrev wsJx8e1880 : List Cond := u_ws RJx8e188 TJx8e188 0
theorem nmJx8e188 : ∀ a, a < 0 → ∀ b, b < 0 → a ≠ b → (TJx8e188 a).2.1 ≠ (TJx8e188 b).2.1 := by decide +kernel
theorem tyJx8e188_ok : ∀ k, k < 0 → parseFieldDescriptor (TJx8e188 k).2.2.1 = some (tyJx8e188 k) := by decide +kernel
def RJ9 : String := "java/lang/Math"
def TJ9 : u_T := fun k => match k with
  | _ => ("", "", "", false)
def tyJ9 : Nat → FieldType := fun k => match k with
  | _ => .int
abbrev wsJ90 : List Cond := u_ws RJ9 TJ9 0
theorem nmJ9 : ∀ a, a < 0 → ∀ b, b < 0 → a ≠ b → (TJ9 a).2.1 ≠ (TJ9 b).2.1 := by decide +kernel
theorem tyJ9_ok : ∀ k, k < 0 → parseFieldDescriptor (TJ9 k).2.2.1 = some (tyJ9 k) := by decide +kernel
abbrev cJ9_max_7cf53 : ByteArray := prog_9_method_65_code
def yJ9_max_7cf53 : MethodName := ⟨RJ9, "max", "(II)I"⟩
abbrev cJ9_min_7cf53 : ByteArray := prog_9_method_69_code
def yJ9_min_7cf53 : MethodName := ⟨RJ9, "min", "(II)I"⟩
def RJ10 : String := "java/lang/System"
def TJ10 : u_T := fun k => match k with
  | _ => ("", "", "", false)
def tyJ10 : Nat → FieldType := fun k => match k with
  | _ => .int
abbrev wsJ100 : List Cond := u_ws RJ10 TJ10 0
theorem nmJ10 : ∀ a, a < 0 → ∀ b, b < 0 → a ≠ b → (TJ10 a).2.1 ≠ (TJ10 b).2.1 := by decide +kernel
theorem tyJ10_ok : ∀ k, k < 0 → parseFieldDescriptor (TJ10 k).2.2.1 = some (tyJ10 k) := by decide +kernel
def RJ7 : String := "java/util/Arrays"
def TJ7 : u_T := fun k => match k with
  | _ => ("", "", "", false)
def tyJ7 : Nat → FieldType := fun k => match k with
  | _ => .int
abbrev wsJ70 : List Cond := u_ws RJ7 TJ7 0
theorem nmJ7 : ∀ a, a < 0 → ∀ b, b < 0 → a ≠ b → (TJ7 a).2.1 ≠ (TJ7 b).2.1 := by decide +kernel
theorem tyJ7_ok : ∀ k, k < 0 → parseFieldDescriptor (TJ7 k).2.2.1 = some (tyJ7 k) := by decide +kernel
abbrev cJ7_fill_53178 : ByteArray := prog_11_method_103_code
def yJ7_fill_53178 : MethodName := ⟨RJ7, "fill", "([II)V"⟩
abbrev cJ7_copyOf_59c91 : ByteArray := prog_11_method_123_code
def yJ7_copyOf_59c91 : MethodName := ⟨RJ7, "copyOf", "([II)[I"⟩
def RL : String := "DeltaSyncLaw"
abbrev cL_law : ByteArray := code
def yL_law : MethodName := ⟨RL, "law", "([I)Z"⟩
end
section
theorem dX0_init_0 : decode cX0_init 0 = .ok (.aload_n 0, 1) := by decide +kernel
theorem dX0_init_1 : decode cX0_init 1 = .ok (.invokespecial 3, 3) := by decide +kernel
theorem dX0_init_4 : decode cX0_init 4 = .ok (.aload_n 0, 1) := by decide +kernel
theorem dX0_init_5 : decode cX0_init 5 = .ok (.bipush 16, 2) := by decide +kernel
theorem dX0_init_7 : decode cX0_init 7 = .ok (.newarray .int, 2) := by decide +kernel
theorem dX0_init_9 : decode cX0_init 9 = .ok (.putfield 9, 3) := by decide +kernel
theorem dX0_init_12 : decode cX0_init 12 = .ok (.aload_n 0, 1) := by decide +kernel
theorem dX0_init_13 : decode cX0_init 13 = .ok (.iconst 4, 1) := by decide +kernel
theorem dX0_init_14 : decode cX0_init 14 = .ok (.newarray .int, 2) := by decide +kernel
theorem dX0_init_16 : decode cX0_init 16 = .ok (.putfield 15, 3) := by decide +kernel
theorem dX0_init_19 : decode cX0_init 19 = .ok (.return_, 1) := by decide +kernel
theorem dX0_take_0 : decode cX0_take 0 = .ok (.aload_n 0, 1) := by decide +kernel
theorem dX0_take_1 : decode cX0_take 1 = .ok (.getfield 15, 3) := by decide +kernel
theorem dX0_take_4 : decode cX0_take 4 = .ok (.iconst 0, 1) := by decide +kernel
theorem dX0_take_5 : decode cX0_take 5 = .ok (.ldc 18, 2) := by decide +kernel
theorem dX0_take_7 : decode cX0_take 7 = .ok (.iastore, 1) := by decide +kernel
theorem dX0_take_8 : decode cX0_take 8 = .ok (.aload_n 0, 1) := by decide +kernel
theorem dX0_take_9 : decode cX0_take 9 = .ok (.getfield 15, 3) := by decide +kernel
theorem dX0_take_12 : decode cX0_take 12 = .ok (.iconst 1, 1) := by decide +kernel
theorem dX0_take_13 : decode cX0_take 13 = .ok (.ldc 19, 2) := by decide +kernel
theorem dX0_take_15 : decode cX0_take 15 = .ok (.iastore, 1) := by decide +kernel
theorem dX0_take_16 : decode cX0_take 16 = .ok (.aload_n 0, 1) := by decide +kernel
theorem dX0_take_17 : decode cX0_take 17 = .ok (.getfield 15, 3) := by decide +kernel
theorem dX0_take_20 : decode cX0_take 20 = .ok (.iconst 2, 1) := by decide +kernel
theorem dX0_take_21 : decode cX0_take 21 = .ok (.ldc 20, 2) := by decide +kernel
theorem dX0_take_23 : decode cX0_take 23 = .ok (.iastore, 1) := by decide +kernel
theorem dX0_take_24 : decode cX0_take 24 = .ok (.aload_n 0, 1) := by decide +kernel
theorem dX0_take_25 : decode cX0_take 25 = .ok (.getfield 15, 3) := by decide +kernel
theorem dX0_take_28 : decode cX0_take 28 = .ok (.iconst 3, 1) := by decide +kernel
theorem dX0_take_29 : decode cX0_take 29 = .ok (.ldc 21, 2) := by decide +kernel
theorem dX0_take_31 : decode cX0_take 31 = .ok (.iastore, 1) := by decide +kernel
theorem dX0_take_32 : decode cX0_take 32 = .ok (.aload_n 1, 1) := by decide +kernel
theorem dX0_take_33 : decode cX0_take 33 = .ok (.iload_n 2, 1) := by decide +kernel
theorem dX0_take_34 : decode cX0_take 34 = .ok (.iload_n 3, 1) := by decide +kernel
theorem dX0_take_35 : decode cX0_take 35 = .ok (.invokevirtual 22, 3) := by decide +kernel
theorem dX0_take_38 : decode cX0_take 38 = .ok (.ifCond .ne 4, 3) := by decide +kernel
theorem dX0_take_41 : decode cX0_take 41 = .ok (.return_, 1) := by decide +kernel
theorem dX0_take_42 : decode cX0_take 42 = .ok (.iload_n 3, 1) := by decide +kernel
theorem dX0_take_43 : decode cX0_take 43 = .ok (.bipush 8, 2) := by decide +kernel
theorem dX0_take_45 : decode cX0_take 45 = .ok (.iadd, 1) := by decide +kernel
theorem dX0_take_46 : decode cX0_take 46 = .ok (.bipush 64, 2) := by decide +kernel
theorem dX0_take_48 : decode cX0_take 48 = .ok (.idiv, 1) := by decide +kernel
theorem dX0_take_49 : decode cX0_take 49 = .ok (.iconst 1, 1) := by decide +kernel
theorem dX0_take_50 : decode cX0_take 50 = .ok (.iadd, 1) := by decide +kernel
theorem dX0_take_51 : decode cX0_take 51 = .ok (.istore 4, 2) := by decide +kernel
theorem dX0_take_53 : decode cX0_take 53 = .ok (.iconst 0, 1) := by decide +kernel
theorem dX0_take_54 : decode cX0_take 54 = .ok (.istore 5, 2) := by decide +kernel
theorem dX0_take_56 : decode cX0_take 56 = .ok (.iload 5, 2) := by decide +kernel
theorem dX0_take_58 : decode cX0_take 58 = .ok (.iload 4, 2) := by decide +kernel
theorem dX0_take_60 : decode cX0_take 60 = .ok (.if_icmp .ge 55, 3) := by decide +kernel
theorem dX0_take_63 : decode cX0_take 63 = .ok (.aload_n 0, 1) := by decide +kernel
theorem dX0_take_64 : decode cX0_take 64 = .ok (.aload_n 1, 1) := by decide +kernel
theorem dX0_take_65 : decode cX0_take 65 = .ok (.iload_n 2, 1) := by decide +kernel
theorem dX0_take_66 : decode cX0_take 66 = .ok (.iload_n 3, 1) := by decide +kernel
theorem dX0_take_67 : decode cX0_take 67 = .ok (.iload 5, 2) := by decide +kernel
theorem dX0_take_69 : decode cX0_take 69 = .ok (.bipush 64, 2) := by decide +kernel
theorem dX0_take_71 : decode cX0_take 71 = .ok (.imul, 1) := by decide +kernel
theorem dX0_take_72 : decode cX0_take 72 = .ok (.invokevirtual 28, 3) := by decide +kernel
theorem dX0_take_75 : decode cX0_take 75 = .ok (.iload 5, 2) := by decide +kernel
theorem dX0_take_77 : decode cX0_take 77 = .ok (.iload 4, 2) := by decide +kernel
theorem dX0_take_79 : decode cX0_take 79 = .ok (.iconst 1, 1) := by decide +kernel
theorem dX0_take_80 : decode cX0_take 80 = .ok (.isub, 1) := by decide +kernel
theorem dX0_take_81 : decode cX0_take 81 = .ok (.if_icmp .ne 24, 3) := by decide +kernel
theorem dX0_take_84 : decode cX0_take 84 = .ok (.aload_n 0, 1) := by decide +kernel
theorem dX0_take_85 : decode cX0_take 85 = .ok (.getfield 9, 3) := by decide +kernel
theorem dX0_take_88 : decode cX0_take 88 = .ok (.bipush 14, 2) := by decide +kernel
theorem dX0_take_90 : decode cX0_take 90 = .ok (.iload_n 3, 1) := by decide +kernel
theorem dX0_take_91 : decode cX0_take 91 = .ok (.iconst 3, 1) := by decide +kernel
theorem dX0_take_92 : decode cX0_take 92 = .ok (.ishl, 1) := by decide +kernel
theorem dX0_take_93 : decode cX0_take 93 = .ok (.iastore, 1) := by decide +kernel
theorem dX0_take_94 : decode cX0_take 94 = .ok (.aload_n 0, 1) := by decide +kernel
theorem dX0_take_95 : decode cX0_take 95 = .ok (.getfield 9, 3) := by decide +kernel
theorem dX0_take_98 : decode cX0_take 98 = .ok (.bipush 15, 2) := by decide +kernel
theorem dX0_take_100 : decode cX0_take 100 = .ok (.iload_n 3, 1) := by decide +kernel
theorem dX0_take_101 : decode cX0_take 101 = .ok (.bipush 29, 2) := by decide +kernel
theorem dX0_take_103 : decode cX0_take 103 = .ok (.iushr, 1) := by decide +kernel
theorem dX0_take_104 : decode cX0_take 104 = .ok (.iastore, 1) := by decide +kernel
theorem dX0_take_105 : decode cX0_take 105 = .ok (.aload_n 0, 1) := by decide +kernel
theorem dX0_take_106 : decode cX0_take 106 = .ok (.invokevirtual 32, 3) := by decide +kernel
theorem dX0_take_109 : decode cX0_take 109 = .ok (.iinc 5 1, 3) := by decide +kernel
theorem dX0_take_112 : decode cX0_take 112 = .ok (.goto (-56), 3) := by decide +kernel
theorem dX0_take_115 : decode cX0_take 115 = .ok (.return_, 1) := by decide +kernel
theorem dX0_digestByte_0 : decode cX0_digestByte 0 = .ok (.iload_n 1, 1) := by decide +kernel
theorem dX0_digestByte_1 : decode cX0_digestByte 1 = .ok (.ifCond .lt 31, 3) := by decide +kernel
theorem dX0_digestByte_4 : decode cX0_digestByte 4 = .ok (.iload_n 1, 1) := by decide +kernel
theorem dX0_digestByte_5 : decode cX0_digestByte 5 = .ok (.bipush 16, 2) := by decide +kernel
theorem dX0_digestByte_7 : decode cX0_digestByte 7 = .ok (.if_icmp .ge 25, 3) := by decide +kernel
theorem dX0_digestByte_10 : decode cX0_digestByte 10 = .ok (.aload_n 0, 1) := by decide +kernel
theorem dX0_digestByte_11 : decode cX0_digestByte 11 = .ok (.getfield 15, 3) := by decide +kernel
theorem dX0_digestByte_14 : decode cX0_digestByte 14 = .ok (.iload_n 1, 1) := by decide +kernel
theorem dX0_digestByte_15 : decode cX0_digestByte 15 = .ok (.iconst 2, 1) := by decide +kernel
theorem dX0_digestByte_16 : decode cX0_digestByte 16 = .ok (.ishr, 1) := by decide +kernel
theorem dX0_digestByte_17 : decode cX0_digestByte 17 = .ok (.iaload, 1) := by decide +kernel
theorem dX0_digestByte_18 : decode cX0_digestByte 18 = .ok (.bipush 8, 2) := by decide +kernel
theorem dX0_digestByte_20 : decode cX0_digestByte 20 = .ok (.iload_n 1, 1) := by decide +kernel
theorem dX0_digestByte_21 : decode cX0_digestByte 21 = .ok (.iconst 3, 1) := by decide +kernel
theorem dX0_digestByte_22 : decode cX0_digestByte 22 = .ok (.iand, 1) := by decide +kernel
theorem dX0_digestByte_23 : decode cX0_digestByte 23 = .ok (.imul, 1) := by decide +kernel
theorem dX0_digestByte_24 : decode cX0_digestByte 24 = .ok (.iushr, 1) := by decide +kernel
theorem dX0_digestByte_25 : decode cX0_digestByte 25 = .ok (.sipush 255, 3) := by decide +kernel
theorem dX0_digestByte_28 : decode cX0_digestByte 28 = .ok (.iand, 1) := by decide +kernel
theorem dX0_digestByte_29 : decode cX0_digestByte 29 = .ok (.goto 4, 3) := by decide +kernel
theorem dX0_digestByte_32 : decode cX0_digestByte 32 = .ok (.iconst (-1), 1) := by decide +kernel
theorem dX0_digestByte_33 : decode cX0_digestByte 33 = .ok (.ireturn, 1) := by decide +kernel
theorem dX0_fillWords_0 : decode cX0_fillWords 0 = .ok (.aload_n 0, 1) := by decide +kernel
theorem dX0_fillWords_1 : decode cX0_fillWords 1 = .ok (.getfield 9, 3) := by decide +kernel
theorem dX0_fillWords_4 : decode cX0_fillWords 4 = .ok (.iconst 0, 1) := by decide +kernel
theorem dX0_fillWords_5 : decode cX0_fillWords 5 = .ok (.invokestatic 35, 3) := by decide +kernel
theorem dX0_fillWords_8 : decode cX0_fillWords 8 = .ok (.iload_n 3, 1) := by decide +kernel
theorem dX0_fillWords_9 : decode cX0_fillWords 9 = .ok (.iload 4, 2) := by decide +kernel
theorem dX0_fillWords_11 : decode cX0_fillWords 11 = .ok (.isub, 1) := by decide +kernel
theorem dX0_fillWords_12 : decode cX0_fillWords 12 = .ok (.bipush 64, 2) := by decide +kernel
theorem dX0_fillWords_14 : decode cX0_fillWords 14 = .ok (.invokestatic 41, 3) := by decide +kernel
theorem dX0_fillWords_17 : decode cX0_fillWords 17 = .ok (.istore 5, 2) := by decide +kernel
theorem dX0_fillWords_19 : decode cX0_fillWords 19 = .ok (.iconst 0, 1) := by decide +kernel
theorem dX0_fillWords_20 : decode cX0_fillWords 20 = .ok (.istore 6, 2) := by decide +kernel
theorem dX0_fillWords_22 : decode cX0_fillWords 22 = .ok (.iload 6, 2) := by decide +kernel
theorem dX0_fillWords_24 : decode cX0_fillWords 24 = .ok (.iload 5, 2) := by decide +kernel
theorem dX0_fillWords_26 : decode cX0_fillWords 26 = .ok (.if_icmp .ge 40, 3) := by decide +kernel
theorem dX0_fillWords_29 : decode cX0_fillWords 29 = .ok (.aload_n 0, 1) := by decide +kernel
theorem dX0_fillWords_30 : decode cX0_fillWords 30 = .ok (.getfield 9, 3) := by decide +kernel
theorem dX0_fillWords_33 : decode cX0_fillWords 33 = .ok (.iload 6, 2) := by decide +kernel
theorem dX0_fillWords_35 : decode cX0_fillWords 35 = .ok (.iconst 2, 1) := by decide +kernel
theorem dX0_fillWords_36 : decode cX0_fillWords 36 = .ok (.ishr, 1) := by decide +kernel
theorem dX0_fillWords_37 : decode cX0_fillWords 37 = .ok (.dup2, 1) := by decide +kernel
theorem dX0_fillWords_38 : decode cX0_fillWords 38 = .ok (.iaload, 1) := by decide +kernel
theorem dX0_fillWords_39 : decode cX0_fillWords 39 = .ok (.aload_n 1, 1) := by decide +kernel
theorem dX0_fillWords_40 : decode cX0_fillWords 40 = .ok (.iload_n 2, 1) := by decide +kernel
theorem dX0_fillWords_41 : decode cX0_fillWords 41 = .ok (.iload 4, 2) := by decide +kernel
theorem dX0_fillWords_43 : decode cX0_fillWords 43 = .ok (.iadd, 1) := by decide +kernel
theorem dX0_fillWords_44 : decode cX0_fillWords 44 = .ok (.iload 6, 2) := by decide +kernel
theorem dX0_fillWords_46 : decode cX0_fillWords 46 = .ok (.iadd, 1) := by decide +kernel
theorem dX0_fillWords_47 : decode cX0_fillWords 47 = .ok (.invokevirtual 47, 3) := by decide +kernel
theorem dX0_fillWords_50 : decode cX0_fillWords 50 = .ok (.bipush 8, 2) := by decide +kernel
theorem dX0_fillWords_52 : decode cX0_fillWords 52 = .ok (.iload 6, 2) := by decide +kernel
theorem dX0_fillWords_54 : decode cX0_fillWords 54 = .ok (.iconst 3, 1) := by decide +kernel
theorem dX0_fillWords_55 : decode cX0_fillWords 55 = .ok (.iand, 1) := by decide +kernel
theorem dX0_fillWords_56 : decode cX0_fillWords 56 = .ok (.imul, 1) := by decide +kernel
theorem dX0_fillWords_57 : decode cX0_fillWords 57 = .ok (.ishl, 1) := by decide +kernel
theorem dX0_fillWords_58 : decode cX0_fillWords 58 = .ok (.ior, 1) := by decide +kernel
theorem dX0_fillWords_59 : decode cX0_fillWords 59 = .ok (.iastore, 1) := by decide +kernel
theorem dX0_fillWords_60 : decode cX0_fillWords 60 = .ok (.iinc 6 1, 3) := by decide +kernel
theorem dX0_fillWords_63 : decode cX0_fillWords 63 = .ok (.goto (-41), 3) := by decide +kernel
theorem dX0_fillWords_66 : decode cX0_fillWords 66 = .ok (.iload 5, 2) := by decide +kernel
theorem dX0_fillWords_68 : decode cX0_fillWords 68 = .ok (.ifCond .lt 33, 3) := by decide +kernel
theorem dX0_fillWords_71 : decode cX0_fillWords 71 = .ok (.iload 5, 2) := by decide +kernel
theorem dX0_fillWords_73 : decode cX0_fillWords 73 = .ok (.bipush 64, 2) := by decide +kernel
theorem dX0_fillWords_75 : decode cX0_fillWords 75 = .ok (.if_icmp .ge 26, 3) := by decide +kernel
theorem dX0_fillWords_78 : decode cX0_fillWords 78 = .ok (.aload_n 0, 1) := by decide +kernel
theorem dX0_fillWords_79 : decode cX0_fillWords 79 = .ok (.getfield 9, 3) := by decide +kernel
theorem dX0_fillWords_82 : decode cX0_fillWords 82 = .ok (.iload 5, 2) := by decide +kernel
theorem dX0_fillWords_84 : decode cX0_fillWords 84 = .ok (.iconst 2, 1) := by decide +kernel
theorem dX0_fillWords_85 : decode cX0_fillWords 85 = .ok (.ishr, 1) := by decide +kernel
theorem dX0_fillWords_86 : decode cX0_fillWords 86 = .ok (.dup2, 1) := by decide +kernel
theorem dX0_fillWords_87 : decode cX0_fillWords 87 = .ok (.iaload, 1) := by decide +kernel
theorem dX0_fillWords_88 : decode cX0_fillWords 88 = .ok (.sipush 128, 3) := by decide +kernel
theorem dX0_fillWords_91 : decode cX0_fillWords 91 = .ok (.bipush 8, 2) := by decide +kernel
theorem dX0_fillWords_93 : decode cX0_fillWords 93 = .ok (.iload 5, 2) := by decide +kernel
theorem dX0_fillWords_95 : decode cX0_fillWords 95 = .ok (.iconst 3, 1) := by decide +kernel
theorem dX0_fillWords_96 : decode cX0_fillWords 96 = .ok (.iand, 1) := by decide +kernel
theorem dX0_fillWords_97 : decode cX0_fillWords 97 = .ok (.imul, 1) := by decide +kernel
theorem dX0_fillWords_98 : decode cX0_fillWords 98 = .ok (.ishl, 1) := by decide +kernel
theorem dX0_fillWords_99 : decode cX0_fillWords 99 = .ok (.ior, 1) := by decide +kernel
theorem dX0_fillWords_100 : decode cX0_fillWords 100 = .ok (.iastore, 1) := by decide +kernel
theorem dX0_fillWords_101 : decode cX0_fillWords 101 = .ok (.return_, 1) := by decide +kernel
theorem dX0_mixWords_0 : decode cX0_mixWords 0 = .ok (.aload_n 0, 1) := by decide +kernel
theorem dX0_mixWords_1 : decode cX0_mixWords 1 = .ok (.getfield 15, 3) := by decide +kernel
theorem dX0_mixWords_4 : decode cX0_mixWords 4 = .ok (.iconst 0, 1) := by decide +kernel
theorem dX0_mixWords_5 : decode cX0_mixWords 5 = .ok (.iaload, 1) := by decide +kernel
theorem dX0_mixWords_6 : decode cX0_mixWords 6 = .ok (.istore_n 1, 1) := by decide +kernel
theorem dX0_mixWords_7 : decode cX0_mixWords 7 = .ok (.aload_n 0, 1) := by decide +kernel
theorem dX0_mixWords_8 : decode cX0_mixWords 8 = .ok (.getfield 15, 3) := by decide +kernel
theorem dX0_mixWords_11 : decode cX0_mixWords 11 = .ok (.iconst 1, 1) := by decide +kernel
theorem dX0_mixWords_12 : decode cX0_mixWords 12 = .ok (.iaload, 1) := by decide +kernel
theorem dX0_mixWords_13 : decode cX0_mixWords 13 = .ok (.istore_n 2, 1) := by decide +kernel
theorem dX0_mixWords_14 : decode cX0_mixWords 14 = .ok (.aload_n 0, 1) := by decide +kernel
theorem dX0_mixWords_15 : decode cX0_mixWords 15 = .ok (.getfield 15, 3) := by decide +kernel
theorem dX0_mixWords_18 : decode cX0_mixWords 18 = .ok (.iconst 2, 1) := by decide +kernel
theorem dX0_mixWords_19 : decode cX0_mixWords 19 = .ok (.iaload, 1) := by decide +kernel
theorem dX0_mixWords_20 : decode cX0_mixWords 20 = .ok (.istore_n 3, 1) := by decide +kernel
theorem dX0_mixWords_21 : decode cX0_mixWords 21 = .ok (.aload_n 0, 1) := by decide +kernel
theorem dX0_mixWords_22 : decode cX0_mixWords 22 = .ok (.getfield 15, 3) := by decide +kernel
theorem dX0_mixWords_25 : decode cX0_mixWords 25 = .ok (.iconst 3, 1) := by decide +kernel
theorem dX0_mixWords_26 : decode cX0_mixWords 26 = .ok (.iaload, 1) := by decide +kernel
theorem dX0_mixWords_27 : decode cX0_mixWords 27 = .ok (.istore 4, 2) := by decide +kernel
theorem dX0_mixWords_29 : decode cX0_mixWords 29 = .ok (.iconst 0, 1) := by decide +kernel
theorem dX0_mixWords_30 : decode cX0_mixWords 30 = .ok (.istore 5, 2) := by decide +kernel
theorem dX0_mixWords_32 : decode cX0_mixWords 32 = .ok (.iload 5, 2) := by decide +kernel
theorem dX0_mixWords_34 : decode cX0_mixWords 34 = .ok (.bipush 64, 2) := by decide +kernel
theorem dX0_mixWords_36 : decode cX0_mixWords 36 = .ok (.if_icmp .ge 88, 3) := by decide +kernel
theorem dX0_mixWords_39 : decode cX0_mixWords 39 = .ok (.iload 5, 2) := by decide +kernel
theorem dX0_mixWords_41 : decode cX0_mixWords 41 = .ok (.iconst 4, 1) := by decide +kernel
theorem dX0_mixWords_42 : decode cX0_mixWords 42 = .ok (.ishr, 1) := by decide +kernel
theorem dX0_mixWords_43 : decode cX0_mixWords 43 = .ok (.istore 6, 2) := by decide +kernel
theorem dX0_mixWords_45 : decode cX0_mixWords 45 = .ok (.iload_n 1, 1) := by decide +kernel
theorem dX0_mixWords_46 : decode cX0_mixWords 46 = .ok (.iload 6, 2) := by decide +kernel
theorem dX0_mixWords_48 : decode cX0_mixWords 48 = .ok (.iload_n 2, 1) := by decide +kernel
theorem dX0_mixWords_49 : decode cX0_mixWords 49 = .ok (.iload_n 3, 1) := by decide +kernel
theorem dX0_mixWords_50 : decode cX0_mixWords 50 = .ok (.iload 4, 2) := by decide +kernel
theorem dX0_mixWords_52 : decode cX0_mixWords 52 = .ok (.invokestatic 51, 3) := by decide +kernel
theorem dX0_mixWords_55 : decode cX0_mixWords 55 = .ok (.iadd, 1) := by decide +kernel
theorem dX0_mixWords_56 : decode cX0_mixWords 56 = .ok (.getstatic 55, 3) := by decide +kernel
theorem dX0_mixWords_59 : decode cX0_mixWords 59 = .ok (.iload 5, 2) := by decide +kernel
theorem dX0_mixWords_61 : decode cX0_mixWords 61 = .ok (.iaload, 1) := by decide +kernel
theorem dX0_mixWords_62 : decode cX0_mixWords 62 = .ok (.iadd, 1) := by decide +kernel
theorem dX0_mixWords_63 : decode cX0_mixWords 63 = .ok (.aload_n 0, 1) := by decide +kernel
theorem dX0_mixWords_64 : decode cX0_mixWords 64 = .ok (.getfield 9, 3) := by decide +kernel
theorem dX0_mixWords_67 : decode cX0_mixWords 67 = .ok (.iload 6, 2) := by decide +kernel
theorem dX0_mixWords_69 : decode cX0_mixWords 69 = .ok (.iload 5, 2) := by decide +kernel
theorem dX0_mixWords_71 : decode cX0_mixWords 71 = .ok (.invokestatic 58, 3) := by decide +kernel
theorem dX0_mixWords_74 : decode cX0_mixWords 74 = .ok (.iaload, 1) := by decide +kernel
theorem dX0_mixWords_75 : decode cX0_mixWords 75 = .ok (.iadd, 1) := by decide +kernel
theorem dX0_mixWords_76 : decode cX0_mixWords 76 = .ok (.istore 7, 2) := by decide +kernel
theorem dX0_mixWords_78 : decode cX0_mixWords 78 = .ok (.getstatic 61, 3) := by decide +kernel
theorem dX0_mixWords_81 : decode cX0_mixWords 81 = .ok (.iconst 4, 1) := by decide +kernel
theorem dX0_mixWords_82 : decode cX0_mixWords 82 = .ok (.iload 6, 2) := by decide +kernel
theorem dX0_mixWords_84 : decode cX0_mixWords 84 = .ok (.imul, 1) := by decide +kernel
theorem dX0_mixWords_85 : decode cX0_mixWords 85 = .ok (.iload 5, 2) := by decide +kernel
theorem dX0_mixWords_87 : decode cX0_mixWords 87 = .ok (.iconst 3, 1) := by decide +kernel
theorem dX0_mixWords_88 : decode cX0_mixWords 88 = .ok (.iand, 1) := by decide +kernel
theorem dX0_mixWords_89 : decode cX0_mixWords 89 = .ok (.iadd, 1) := by decide +kernel
theorem dX0_mixWords_90 : decode cX0_mixWords 90 = .ok (.iaload, 1) := by decide +kernel
theorem dX0_mixWords_91 : decode cX0_mixWords 91 = .ok (.istore 8, 2) := by decide +kernel
theorem dX0_mixWords_93 : decode cX0_mixWords 93 = .ok (.iload 4, 2) := by decide +kernel
theorem dX0_mixWords_95 : decode cX0_mixWords 95 = .ok (.istore_n 1, 1) := by decide +kernel
theorem dX0_mixWords_96 : decode cX0_mixWords 96 = .ok (.iload_n 3, 1) := by decide +kernel
theorem dX0_mixWords_97 : decode cX0_mixWords 97 = .ok (.istore 4, 2) := by decide +kernel
theorem dX0_mixWords_99 : decode cX0_mixWords 99 = .ok (.iload_n 2, 1) := by decide +kernel
theorem dX0_mixWords_100 : decode cX0_mixWords 100 = .ok (.istore_n 3, 1) := by decide +kernel
theorem dX0_mixWords_101 : decode cX0_mixWords 101 = .ok (.iload_n 2, 1) := by decide +kernel
theorem dX0_mixWords_102 : decode cX0_mixWords 102 = .ok (.iload 7, 2) := by decide +kernel
theorem dX0_mixWords_104 : decode cX0_mixWords 104 = .ok (.iload 8, 2) := by decide +kernel
theorem dX0_mixWords_106 : decode cX0_mixWords 106 = .ok (.ishl, 1) := by decide +kernel
theorem dX0_mixWords_107 : decode cX0_mixWords 107 = .ok (.iload 7, 2) := by decide +kernel
theorem dX0_mixWords_109 : decode cX0_mixWords 109 = .ok (.bipush 32, 2) := by decide +kernel
theorem dX0_mixWords_111 : decode cX0_mixWords 111 = .ok (.iload 8, 2) := by decide +kernel
theorem dX0_mixWords_113 : decode cX0_mixWords 113 = .ok (.isub, 1) := by decide +kernel
theorem dX0_mixWords_114 : decode cX0_mixWords 114 = .ok (.iushr, 1) := by decide +kernel
theorem dX0_mixWords_115 : decode cX0_mixWords 115 = .ok (.ior, 1) := by decide +kernel
theorem dX0_mixWords_116 : decode cX0_mixWords 116 = .ok (.iadd, 1) := by decide +kernel
theorem dX0_mixWords_117 : decode cX0_mixWords 117 = .ok (.istore_n 2, 1) := by decide +kernel
theorem dX0_mixWords_118 : decode cX0_mixWords 118 = .ok (.iinc 5 1, 3) := by decide +kernel
theorem dX0_mixWords_121 : decode cX0_mixWords 121 = .ok (.goto (-89), 3) := by decide +kernel
theorem dX0_mixWords_124 : decode cX0_mixWords 124 = .ok (.aload_n 0, 1) := by decide +kernel
theorem dX0_mixWords_125 : decode cX0_mixWords 125 = .ok (.getfield 15, 3) := by decide +kernel
theorem dX0_mixWords_128 : decode cX0_mixWords 128 = .ok (.iconst 0, 1) := by decide +kernel
theorem dX0_mixWords_129 : decode cX0_mixWords 129 = .ok (.dup2, 1) := by decide +kernel
theorem dX0_mixWords_130 : decode cX0_mixWords 130 = .ok (.iaload, 1) := by decide +kernel
theorem dX0_mixWords_131 : decode cX0_mixWords 131 = .ok (.iload_n 1, 1) := by decide +kernel
theorem dX0_mixWords_132 : decode cX0_mixWords 132 = .ok (.iadd, 1) := by decide +kernel
theorem dX0_mixWords_133 : decode cX0_mixWords 133 = .ok (.iastore, 1) := by decide +kernel
theorem dX0_mixWords_134 : decode cX0_mixWords 134 = .ok (.aload_n 0, 1) := by decide +kernel
theorem dX0_mixWords_135 : decode cX0_mixWords 135 = .ok (.getfield 15, 3) := by decide +kernel
theorem dX0_mixWords_138 : decode cX0_mixWords 138 = .ok (.iconst 1, 1) := by decide +kernel
theorem dX0_mixWords_139 : decode cX0_mixWords 139 = .ok (.dup2, 1) := by decide +kernel
theorem dX0_mixWords_140 : decode cX0_mixWords 140 = .ok (.iaload, 1) := by decide +kernel
theorem dX0_mixWords_141 : decode cX0_mixWords 141 = .ok (.iload_n 2, 1) := by decide +kernel
theorem dX0_mixWords_142 : decode cX0_mixWords 142 = .ok (.iadd, 1) := by decide +kernel
theorem dX0_mixWords_143 : decode cX0_mixWords 143 = .ok (.iastore, 1) := by decide +kernel
theorem dX0_mixWords_144 : decode cX0_mixWords 144 = .ok (.aload_n 0, 1) := by decide +kernel
theorem dX0_mixWords_145 : decode cX0_mixWords 145 = .ok (.getfield 15, 3) := by decide +kernel
theorem dX0_mixWords_148 : decode cX0_mixWords 148 = .ok (.iconst 2, 1) := by decide +kernel
theorem dX0_mixWords_149 : decode cX0_mixWords 149 = .ok (.dup2, 1) := by decide +kernel
theorem dX0_mixWords_150 : decode cX0_mixWords 150 = .ok (.iaload, 1) := by decide +kernel
theorem dX0_mixWords_151 : decode cX0_mixWords 151 = .ok (.iload_n 3, 1) := by decide +kernel
theorem dX0_mixWords_152 : decode cX0_mixWords 152 = .ok (.iadd, 1) := by decide +kernel
theorem dX0_mixWords_153 : decode cX0_mixWords 153 = .ok (.iastore, 1) := by decide +kernel
theorem dX0_mixWords_154 : decode cX0_mixWords 154 = .ok (.aload_n 0, 1) := by decide +kernel
theorem dX0_mixWords_155 : decode cX0_mixWords 155 = .ok (.getfield 15, 3) := by decide +kernel
theorem dX0_mixWords_158 : decode cX0_mixWords 158 = .ok (.iconst 3, 1) := by decide +kernel
theorem dX0_mixWords_159 : decode cX0_mixWords 159 = .ok (.dup2, 1) := by decide +kernel
theorem dX0_mixWords_160 : decode cX0_mixWords 160 = .ok (.iaload, 1) := by decide +kernel
theorem dX0_mixWords_161 : decode cX0_mixWords 161 = .ok (.iload 4, 2) := by decide +kernel
theorem dX0_mixWords_163 : decode cX0_mixWords 163 = .ok (.iadd, 1) := by decide +kernel
theorem dX0_mixWords_164 : decode cX0_mixWords 164 = .ok (.iastore, 1) := by decide +kernel
theorem dX0_mixWords_165 : decode cX0_mixWords 165 = .ok (.return_, 1) := by decide +kernel
theorem dX0_mixed_0 : decode cX0_mixed 0 = .ok (.iload_n 0, 1) := by decide +kernel
theorem dX0_mixed_1 : decode cX0_mixed 1 = .ok (.tableswitch 53 0 2 #[27, 37, 47], 27) := by decide +kernel
theorem dX0_mixed_28 : decode cX0_mixed 28 = .ok (.iload_n 1, 1) := by decide +kernel
theorem dX0_mixed_29 : decode cX0_mixed 29 = .ok (.iload_n 2, 1) := by decide +kernel
theorem dX0_mixed_30 : decode cX0_mixed 30 = .ok (.iand, 1) := by decide +kernel
theorem dX0_mixed_31 : decode cX0_mixed 31 = .ok (.iload_n 1, 1) := by decide +kernel
theorem dX0_mixed_32 : decode cX0_mixed 32 = .ok (.iconst (-1), 1) := by decide +kernel
theorem dX0_mixed_33 : decode cX0_mixed 33 = .ok (.ixor, 1) := by decide +kernel
theorem dX0_mixed_34 : decode cX0_mixed 34 = .ok (.iload_n 3, 1) := by decide +kernel
theorem dX0_mixed_35 : decode cX0_mixed 35 = .ok (.iand, 1) := by decide +kernel
theorem dX0_mixed_36 : decode cX0_mixed 36 = .ok (.ior, 1) := by decide +kernel
theorem dX0_mixed_37 : decode cX0_mixed 37 = .ok (.ireturn, 1) := by decide +kernel
theorem dX0_mixed_38 : decode cX0_mixed 38 = .ok (.iload_n 1, 1) := by decide +kernel
theorem dX0_mixed_39 : decode cX0_mixed 39 = .ok (.iload_n 3, 1) := by decide +kernel
theorem dX0_mixed_40 : decode cX0_mixed 40 = .ok (.iand, 1) := by decide +kernel
theorem dX0_mixed_41 : decode cX0_mixed 41 = .ok (.iload_n 2, 1) := by decide +kernel
theorem dX0_mixed_42 : decode cX0_mixed 42 = .ok (.iload_n 3, 1) := by decide +kernel
theorem dX0_mixed_43 : decode cX0_mixed 43 = .ok (.iconst (-1), 1) := by decide +kernel
theorem dX0_mixed_44 : decode cX0_mixed 44 = .ok (.ixor, 1) := by decide +kernel
theorem dX0_mixed_45 : decode cX0_mixed 45 = .ok (.iand, 1) := by decide +kernel
theorem dX0_mixed_46 : decode cX0_mixed 46 = .ok (.ior, 1) := by decide +kernel
theorem dX0_mixed_47 : decode cX0_mixed 47 = .ok (.ireturn, 1) := by decide +kernel
theorem dX0_mixed_48 : decode cX0_mixed 48 = .ok (.iload_n 1, 1) := by decide +kernel
theorem dX0_mixed_49 : decode cX0_mixed 49 = .ok (.iload_n 2, 1) := by decide +kernel
theorem dX0_mixed_50 : decode cX0_mixed 50 = .ok (.ixor, 1) := by decide +kernel
theorem dX0_mixed_51 : decode cX0_mixed 51 = .ok (.iload_n 3, 1) := by decide +kernel
theorem dX0_mixed_52 : decode cX0_mixed 52 = .ok (.ixor, 1) := by decide +kernel
theorem dX0_mixed_53 : decode cX0_mixed 53 = .ok (.ireturn, 1) := by decide +kernel
theorem dX0_mixed_54 : decode cX0_mixed 54 = .ok (.iload_n 2, 1) := by decide +kernel
theorem dX0_mixed_55 : decode cX0_mixed 55 = .ok (.iload_n 1, 1) := by decide +kernel
theorem dX0_mixed_56 : decode cX0_mixed 56 = .ok (.iload_n 3, 1) := by decide +kernel
theorem dX0_mixed_57 : decode cX0_mixed 57 = .ok (.iconst (-1), 1) := by decide +kernel
theorem dX0_mixed_58 : decode cX0_mixed 58 = .ok (.ixor, 1) := by decide +kernel
theorem dX0_mixed_59 : decode cX0_mixed 59 = .ok (.ior, 1) := by decide +kernel
theorem dX0_mixed_60 : decode cX0_mixed 60 = .ok (.ixor, 1) := by decide +kernel
theorem dX0_mixed_61 : decode cX0_mixed 61 = .ok (.ireturn, 1) := by decide +kernel
theorem dX0_wordFor_0 : decode cX0_wordFor 0 = .ok (.iload_n 0, 1) := by decide +kernel
theorem dX0_wordFor_1 : decode cX0_wordFor 1 = .ok (.tableswitch 50 0 2 #[27, 32, 41], 27) := by decide +kernel
theorem dX0_wordFor_28 : decode cX0_wordFor 28 = .ok (.iload_n 1, 1) := by decide +kernel
theorem dX0_wordFor_29 : decode cX0_wordFor 29 = .ok (.bipush 15, 2) := by decide +kernel
theorem dX0_wordFor_31 : decode cX0_wordFor 31 = .ok (.iand, 1) := by decide +kernel
theorem dX0_wordFor_32 : decode cX0_wordFor 32 = .ok (.ireturn, 1) := by decide +kernel
theorem dX0_wordFor_33 : decode cX0_wordFor 33 = .ok (.iconst 5, 1) := by decide +kernel
theorem dX0_wordFor_34 : decode cX0_wordFor 34 = .ok (.iload_n 1, 1) := by decide +kernel
theorem dX0_wordFor_35 : decode cX0_wordFor 35 = .ok (.imul, 1) := by decide +kernel
theorem dX0_wordFor_36 : decode cX0_wordFor 36 = .ok (.iconst 1, 1) := by decide +kernel
theorem dX0_wordFor_37 : decode cX0_wordFor 37 = .ok (.iadd, 1) := by decide +kernel
theorem dX0_wordFor_38 : decode cX0_wordFor 38 = .ok (.bipush 15, 2) := by decide +kernel
theorem dX0_wordFor_40 : decode cX0_wordFor 40 = .ok (.iand, 1) := by decide +kernel
theorem dX0_wordFor_41 : decode cX0_wordFor 41 = .ok (.ireturn, 1) := by decide +kernel
theorem dX0_wordFor_42 : decode cX0_wordFor 42 = .ok (.iconst 3, 1) := by decide +kernel
theorem dX0_wordFor_43 : decode cX0_wordFor 43 = .ok (.iload_n 1, 1) := by decide +kernel
theorem dX0_wordFor_44 : decode cX0_wordFor 44 = .ok (.imul, 1) := by decide +kernel
theorem dX0_wordFor_45 : decode cX0_wordFor 45 = .ok (.iconst 5, 1) := by decide +kernel
theorem dX0_wordFor_46 : decode cX0_wordFor 46 = .ok (.iadd, 1) := by decide +kernel
theorem dX0_wordFor_47 : decode cX0_wordFor 47 = .ok (.bipush 15, 2) := by decide +kernel
theorem dX0_wordFor_49 : decode cX0_wordFor 49 = .ok (.iand, 1) := by decide +kernel
theorem dX0_wordFor_50 : decode cX0_wordFor 50 = .ok (.ireturn, 1) := by decide +kernel
theorem dX0_wordFor_51 : decode cX0_wordFor 51 = .ok (.bipush 7, 2) := by decide +kernel
theorem dX0_wordFor_53 : decode cX0_wordFor 53 = .ok (.iload_n 1, 1) := by decide +kernel
theorem dX0_wordFor_54 : decode cX0_wordFor 54 = .ok (.imul, 1) := by decide +kernel
theorem dX0_wordFor_55 : decode cX0_wordFor 55 = .ok (.bipush 15, 2) := by decide +kernel
theorem dX0_wordFor_57 : decode cX0_wordFor 57 = .ok (.iand, 1) := by decide +kernel
theorem dX0_wordFor_58 : decode cX0_wordFor 58 = .ok (.ireturn, 1) := by decide +kernel
end
section
theorem dX1_init_0 : decode cX1_init 0 = .ok (.aload_n 0, 1) := by decide +kernel
theorem dX1_init_1 : decode cX1_init 1 = .ok (.invokespecial 3, 3) := by decide +kernel
theorem dX1_init_4 : decode cX1_init 4 = .ok (.aload_n 0, 1) := by decide +kernel
theorem dX1_init_5 : decode cX1_init 5 = .ok (.iload_n 1, 1) := by decide +kernel
theorem dX1_init_6 : decode cX1_init 6 = .ok (.putfield 9, 3) := by decide +kernel
theorem dX1_init_9 : decode cX1_init 9 = .ok (.aload_n 0, 1) := by decide +kernel
theorem dX1_init_10 : decode cX1_init 10 = .ok (.bipush 64, 2) := by decide +kernel
theorem dX1_init_12 : decode cX1_init 12 = .ok (.newarray .int, 2) := by decide +kernel
theorem dX1_init_14 : decode cX1_init 14 = .ok (.putfield 15, 3) := by decide +kernel
theorem dX1_init_17 : decode cX1_init 17 = .ok (.aload_n 0, 1) := by decide +kernel
theorem dX1_init_18 : decode cX1_init 18 = .ok (.iconst 0, 1) := by decide +kernel
theorem dX1_init_19 : decode cX1_init 19 = .ok (.putfield 19, 3) := by decide +kernel
theorem dX1_init_22 : decode cX1_init 22 = .ok (.return_, 1) := by decide +kernel
theorem dX1_length_0 : decode cX1_length 0 = .ok (.aload_n 0, 1) := by decide +kernel
theorem dX1_length_1 : decode cX1_length 1 = .ok (.getfield 19, 3) := by decide +kernel
theorem dX1_length_4 : decode cX1_length 4 = .ok (.ireturn, 1) := by decide +kernel
theorem dX1_room_0 : decode cX1_room 0 = .ok (.aload_n 0, 1) := by decide +kernel
theorem dX1_room_1 : decode cX1_room 1 = .ok (.getfield 9, 3) := by decide +kernel
theorem dX1_room_4 : decode cX1_room 4 = .ok (.aload_n 0, 1) := by decide +kernel
theorem dX1_room_5 : decode cX1_room 5 = .ok (.getfield 19, 3) := by decide +kernel
theorem dX1_room_8 : decode cX1_room 8 = .ok (.isub, 1) := by decide +kernel
theorem dX1_room_9 : decode cX1_room 9 = .ok (.ireturn, 1) := by decide +kernel
theorem dX1_clear_0 : decode cX1_clear 0 = .ok (.aload_n 0, 1) := by decide +kernel
theorem dX1_clear_1 : decode cX1_clear 1 = .ok (.iconst 0, 1) := by decide +kernel
theorem dX1_clear_2 : decode cX1_clear 2 = .ok (.putfield 19, 3) := by decide +kernel
theorem dX1_clear_5 : decode cX1_clear 5 = .ok (.return_, 1) := by decide +kernel
theorem dX1_holds_0 : decode cX1_holds 0 = .ok (.iload_n 1, 1) := by decide +kernel
theorem dX1_holds_1 : decode cX1_holds 1 = .ok (.ifCond .lt 29, 3) := by decide +kernel
theorem dX1_holds_4 : decode cX1_holds 4 = .ok (.iload_n 2, 1) := by decide +kernel
theorem dX1_holds_5 : decode cX1_holds 5 = .ok (.ifCond .lt 25, 3) := by decide +kernel
theorem dX1_holds_8 : decode cX1_holds 8 = .ok (.iload_n 1, 1) := by decide +kernel
theorem dX1_holds_9 : decode cX1_holds 9 = .ok (.aload_n 0, 1) := by decide +kernel
theorem dX1_holds_10 : decode cX1_holds 10 = .ok (.getfield 19, 3) := by decide +kernel
theorem dX1_holds_13 : decode cX1_holds 13 = .ok (.if_icmp .gt 17, 3) := by decide +kernel
theorem dX1_holds_16 : decode cX1_holds 16 = .ok (.iload_n 2, 1) := by decide +kernel
theorem dX1_holds_17 : decode cX1_holds 17 = .ok (.aload_n 0, 1) := by decide +kernel
theorem dX1_holds_18 : decode cX1_holds 18 = .ok (.getfield 19, 3) := by decide +kernel
theorem dX1_holds_21 : decode cX1_holds 21 = .ok (.iload_n 1, 1) := by decide +kernel
theorem dX1_holds_22 : decode cX1_holds 22 = .ok (.isub, 1) := by decide +kernel
theorem dX1_holds_23 : decode cX1_holds 23 = .ok (.if_icmp .gt 7, 3) := by decide +kernel
theorem dX1_holds_26 : decode cX1_holds 26 = .ok (.iconst 1, 1) := by decide +kernel
theorem dX1_holds_27 : decode cX1_holds 27 = .ok (.goto 4, 3) := by decide +kernel
theorem dX1_holds_30 : decode cX1_holds 30 = .ok (.iconst 0, 1) := by decide +kernel
theorem dX1_holds_31 : decode cX1_holds 31 = .ok (.ireturn, 1) := by decide +kernel
theorem dX1_get_0 : decode cX1_get 0 = .ok (.iload_n 1, 1) := by decide +kernel
theorem dX1_get_1 : decode cX1_get 1 = .ok (.ifCond .lt 20, 3) := by decide +kernel
theorem dX1_get_4 : decode cX1_get 4 = .ok (.iload_n 1, 1) := by decide +kernel
theorem dX1_get_5 : decode cX1_get 5 = .ok (.aload_n 0, 1) := by decide +kernel
theorem dX1_get_6 : decode cX1_get 6 = .ok (.getfield 19, 3) := by decide +kernel
theorem dX1_get_9 : decode cX1_get 9 = .ok (.if_icmp .ge 12, 3) := by decide +kernel
theorem dX1_get_12 : decode cX1_get 12 = .ok (.aload_n 0, 1) := by decide +kernel
theorem dX1_get_13 : decode cX1_get 13 = .ok (.getfield 15, 3) := by decide +kernel
theorem dX1_get_16 : decode cX1_get 16 = .ok (.iload_n 1, 1) := by decide +kernel
theorem dX1_get_17 : decode cX1_get 17 = .ok (.iaload, 1) := by decide +kernel
theorem dX1_get_18 : decode cX1_get 18 = .ok (.goto 4, 3) := by decide +kernel
theorem dX1_get_21 : decode cX1_get 21 = .ok (.iconst (-1), 1) := by decide +kernel
theorem dX1_get_22 : decode cX1_get 22 = .ok (.ireturn, 1) := by decide +kernel
theorem dX1_set_0 : decode cX1_set 0 = .ok (.iload_n 1, 1) := by decide +kernel
theorem dX1_set_1 : decode cX1_set 1 = .ok (.ifCond .lt 18, 3) := by decide +kernel
theorem dX1_set_4 : decode cX1_set 4 = .ok (.iload_n 1, 1) := by decide +kernel
theorem dX1_set_5 : decode cX1_set 5 = .ok (.aload_n 0, 1) := by decide +kernel
theorem dX1_set_6 : decode cX1_set 6 = .ok (.getfield 19, 3) := by decide +kernel
theorem dX1_set_9 : decode cX1_set 9 = .ok (.if_icmp .ge 10, 3) := by decide +kernel
theorem dX1_set_12 : decode cX1_set 12 = .ok (.iload_n 2, 1) := by decide +kernel
theorem dX1_set_13 : decode cX1_set 13 = .ok (.invokestatic 22, 3) := by decide +kernel
theorem dX1_set_16 : decode cX1_set 16 = .ok (.ifCond .ne 5, 3) := by decide +kernel
theorem dX1_set_19 : decode cX1_set 19 = .ok (.iconst 0, 1) := by decide +kernel
theorem dX1_set_20 : decode cX1_set 20 = .ok (.ireturn, 1) := by decide +kernel
theorem dX1_set_21 : decode cX1_set 21 = .ok (.aload_n 0, 1) := by decide +kernel
theorem dX1_set_22 : decode cX1_set 22 = .ok (.getfield 15, 3) := by decide +kernel
theorem dX1_set_25 : decode cX1_set 25 = .ok (.iload_n 1, 1) := by decide +kernel
theorem dX1_set_26 : decode cX1_set 26 = .ok (.iload_n 2, 1) := by decide +kernel
theorem dX1_set_27 : decode cX1_set 27 = .ok (.iastore, 1) := by decide +kernel
theorem dX1_set_28 : decode cX1_set 28 = .ok (.iconst 1, 1) := by decide +kernel
theorem dX1_set_29 : decode cX1_set 29 = .ok (.ireturn, 1) := by decide +kernel
theorem dX1_add_0 : decode cX1_add 0 = .ok (.aload_n 0, 1) := by decide +kernel
theorem dX1_add_1 : decode cX1_add 1 = .ok (.getfield 19, 3) := by decide +kernel
theorem dX1_add_4 : decode cX1_add 4 = .ok (.aload_n 0, 1) := by decide +kernel
theorem dX1_add_5 : decode cX1_add 5 = .ok (.getfield 9, 3) := by decide +kernel
theorem dX1_add_8 : decode cX1_add 8 = .ok (.if_icmp .ge 10, 3) := by decide +kernel
theorem dX1_add_11 : decode cX1_add 11 = .ok (.iload_n 1, 1) := by decide +kernel
theorem dX1_add_12 : decode cX1_add 12 = .ok (.invokestatic 22, 3) := by decide +kernel
theorem dX1_add_15 : decode cX1_add 15 = .ok (.ifCond .ne 5, 3) := by decide +kernel
theorem dX1_add_18 : decode cX1_add 18 = .ok (.iconst 0, 1) := by decide +kernel
theorem dX1_add_19 : decode cX1_add 19 = .ok (.ireturn, 1) := by decide +kernel
theorem dX1_add_20 : decode cX1_add 20 = .ok (.aload_n 0, 1) := by decide +kernel
theorem dX1_add_21 : decode cX1_add 21 = .ok (.aload_n 0, 1) := by decide +kernel
theorem dX1_add_22 : decode cX1_add 22 = .ok (.getfield 19, 3) := by decide +kernel
theorem dX1_add_25 : decode cX1_add 25 = .ok (.iconst 1, 1) := by decide +kernel
theorem dX1_add_26 : decode cX1_add 26 = .ok (.iadd, 1) := by decide +kernel
theorem dX1_add_27 : decode cX1_add 27 = .ok (.invokevirtual 26, 3) := by decide +kernel
theorem dX1_add_30 : decode cX1_add 30 = .ok (.aload_n 0, 1) := by decide +kernel
theorem dX1_add_31 : decode cX1_add 31 = .ok (.getfield 15, 3) := by decide +kernel
theorem dX1_add_34 : decode cX1_add 34 = .ok (.aload_n 0, 1) := by decide +kernel
theorem dX1_add_35 : decode cX1_add 35 = .ok (.getfield 19, 3) := by decide +kernel
theorem dX1_add_38 : decode cX1_add 38 = .ok (.iload_n 1, 1) := by decide +kernel
theorem dX1_add_39 : decode cX1_add 39 = .ok (.iastore, 1) := by decide +kernel
theorem dX1_add_40 : decode cX1_add 40 = .ok (.aload_n 0, 1) := by decide +kernel
theorem dX1_add_41 : decode cX1_add 41 = .ok (.dup, 1) := by decide +kernel
theorem dX1_add_42 : decode cX1_add 42 = .ok (.getfield 19, 3) := by decide +kernel
theorem dX1_add_45 : decode cX1_add 45 = .ok (.iconst 1, 1) := by decide +kernel
theorem dX1_add_46 : decode cX1_add 46 = .ok (.iadd, 1) := by decide +kernel
theorem dX1_add_47 : decode cX1_add 47 = .ok (.putfield 19, 3) := by decide +kernel
theorem dX1_add_50 : decode cX1_add 50 = .ok (.iconst 1, 1) := by decide +kernel
theorem dX1_add_51 : decode cX1_add 51 = .ok (.ireturn, 1) := by decide +kernel
theorem dX1_addFrom_0 : decode cX1_addFrom 0 = .ok (.aload_n 1, 1) := by decide +kernel
theorem dX1_addFrom_1 : decode cX1_addFrom 1 = .ok (.iload_n 2, 1) := by decide +kernel
theorem dX1_addFrom_2 : decode cX1_addFrom 2 = .ok (.iload_n 3, 1) := by decide +kernel
theorem dX1_addFrom_3 : decode cX1_addFrom 3 = .ok (.invokevirtual 30, 3) := by decide +kernel
theorem dX1_addFrom_6 : decode cX1_addFrom 6 = .ok (.ifCond .eq 11, 3) := by decide +kernel
theorem dX1_addFrom_9 : decode cX1_addFrom 9 = .ok (.iload_n 3, 1) := by decide +kernel
theorem dX1_addFrom_10 : decode cX1_addFrom 10 = .ok (.aload_n 0, 1) := by decide +kernel
theorem dX1_addFrom_11 : decode cX1_addFrom 11 = .ok (.invokevirtual 34, 3) := by decide +kernel
theorem dX1_addFrom_14 : decode cX1_addFrom 14 = .ok (.if_icmp .le 5, 3) := by decide +kernel
theorem dX1_addFrom_17 : decode cX1_addFrom 17 = .ok (.iconst 0, 1) := by decide +kernel
theorem dX1_addFrom_18 : decode cX1_addFrom 18 = .ok (.ireturn, 1) := by decide +kernel
theorem dX1_addFrom_19 : decode cX1_addFrom 19 = .ok (.aload_n 0, 1) := by decide +kernel
theorem dX1_addFrom_20 : decode cX1_addFrom 20 = .ok (.aload_n 0, 1) := by decide +kernel
theorem dX1_addFrom_21 : decode cX1_addFrom 21 = .ok (.getfield 19, 3) := by decide +kernel
theorem dX1_addFrom_24 : decode cX1_addFrom 24 = .ok (.iload_n 3, 1) := by decide +kernel
theorem dX1_addFrom_25 : decode cX1_addFrom 25 = .ok (.iadd, 1) := by decide +kernel
theorem dX1_addFrom_26 : decode cX1_addFrom 26 = .ok (.invokevirtual 26, 3) := by decide +kernel
theorem dX1_addFrom_29 : decode cX1_addFrom 29 = .ok (.aload_n 1, 1) := by decide +kernel
theorem dX1_addFrom_30 : decode cX1_addFrom 30 = .ok (.getfield 15, 3) := by decide +kernel
theorem dX1_addFrom_33 : decode cX1_addFrom 33 = .ok (.iload_n 2, 1) := by decide +kernel
theorem dX1_addFrom_34 : decode cX1_addFrom 34 = .ok (.aload_n 0, 1) := by decide +kernel
theorem dX1_addFrom_35 : decode cX1_addFrom 35 = .ok (.getfield 15, 3) := by decide +kernel
theorem dX1_addFrom_38 : decode cX1_addFrom 38 = .ok (.aload_n 0, 1) := by decide +kernel
theorem dX1_addFrom_39 : decode cX1_addFrom 39 = .ok (.getfield 19, 3) := by decide +kernel
theorem dX1_addFrom_42 : decode cX1_addFrom 42 = .ok (.iload_n 3, 1) := by decide +kernel
theorem dX1_addFrom_43 : decode cX1_addFrom 43 = .ok (.invokestatic 38, 3) := by decide +kernel
theorem dX1_addFrom_46 : decode cX1_addFrom 46 = .ok (.aload_n 0, 1) := by decide +kernel
theorem dX1_addFrom_47 : decode cX1_addFrom 47 = .ok (.dup, 1) := by decide +kernel
theorem dX1_addFrom_48 : decode cX1_addFrom 48 = .ok (.getfield 19, 3) := by decide +kernel
theorem dX1_addFrom_51 : decode cX1_addFrom 51 = .ok (.iload_n 3, 1) := by decide +kernel
theorem dX1_addFrom_52 : decode cX1_addFrom 52 = .ok (.iadd, 1) := by decide +kernel
theorem dX1_addFrom_53 : decode cX1_addFrom 53 = .ok (.putfield 19, 3) := by decide +kernel
theorem dX1_addFrom_56 : decode cX1_addFrom 56 = .ok (.iconst 1, 1) := by decide +kernel
theorem dX1_addFrom_57 : decode cX1_addFrom 57 = .ok (.ireturn, 1) := by decide +kernel
theorem dX1_shorten_0 : decode cX1_shorten 0 = .ok (.iload_n 1, 1) := by decide +kernel
theorem dX1_shorten_1 : decode cX1_shorten 1 = .ok (.ifCond .lt 11, 3) := by decide +kernel
theorem dX1_shorten_4 : decode cX1_shorten 4 = .ok (.iload_n 1, 1) := by decide +kernel
theorem dX1_shorten_5 : decode cX1_shorten 5 = .ok (.aload_n 0, 1) := by decide +kernel
theorem dX1_shorten_6 : decode cX1_shorten 6 = .ok (.getfield 19, 3) := by decide +kernel
theorem dX1_shorten_9 : decode cX1_shorten 9 = .ok (.if_icmp .le 5, 3) := by decide +kernel
theorem dX1_shorten_12 : decode cX1_shorten 12 = .ok (.iconst 0, 1) := by decide +kernel
theorem dX1_shorten_13 : decode cX1_shorten 13 = .ok (.ireturn, 1) := by decide +kernel
theorem dX1_shorten_14 : decode cX1_shorten 14 = .ok (.aload_n 0, 1) := by decide +kernel
theorem dX1_shorten_15 : decode cX1_shorten 15 = .ok (.iload_n 1, 1) := by decide +kernel
theorem dX1_shorten_16 : decode cX1_shorten 16 = .ok (.putfield 19, 3) := by decide +kernel
theorem dX1_shorten_19 : decode cX1_shorten 19 = .ok (.iconst 1, 1) := by decide +kernel
theorem dX1_shorten_20 : decode cX1_shorten 20 = .ok (.ireturn, 1) := by decide +kernel
theorem dX1_equalTo_0 : decode cX1_equalTo 0 = .ok (.aload_n 0, 1) := by decide +kernel
theorem dX1_equalTo_1 : decode cX1_equalTo 1 = .ok (.getfield 19, 3) := by decide +kernel
theorem dX1_equalTo_4 : decode cX1_equalTo 4 = .ok (.aload_n 1, 1) := by decide +kernel
theorem dX1_equalTo_5 : decode cX1_equalTo 5 = .ok (.getfield 19, 3) := by decide +kernel
theorem dX1_equalTo_8 : decode cX1_equalTo 8 = .ok (.if_icmp .eq 5, 3) := by decide +kernel
theorem dX1_equalTo_11 : decode cX1_equalTo 11 = .ok (.iconst 0, 1) := by decide +kernel
theorem dX1_equalTo_12 : decode cX1_equalTo 12 = .ok (.ireturn, 1) := by decide +kernel
theorem dX1_equalTo_13 : decode cX1_equalTo 13 = .ok (.iconst 0, 1) := by decide +kernel
theorem dX1_equalTo_14 : decode cX1_equalTo 14 = .ok (.istore_n 2, 1) := by decide +kernel
theorem dX1_equalTo_15 : decode cX1_equalTo 15 = .ok (.iload_n 2, 1) := by decide +kernel
theorem dX1_equalTo_16 : decode cX1_equalTo 16 = .ok (.aload_n 0, 1) := by decide +kernel
theorem dX1_equalTo_17 : decode cX1_equalTo 17 = .ok (.getfield 19, 3) := by decide +kernel
theorem dX1_equalTo_20 : decode cX1_equalTo 20 = .ok (.if_icmp .ge 26, 3) := by decide +kernel
theorem dX1_equalTo_23 : decode cX1_equalTo 23 = .ok (.aload_n 0, 1) := by decide +kernel
theorem dX1_equalTo_24 : decode cX1_equalTo 24 = .ok (.getfield 15, 3) := by decide +kernel
theorem dX1_equalTo_27 : decode cX1_equalTo 27 = .ok (.iload_n 2, 1) := by decide +kernel
theorem dX1_equalTo_28 : decode cX1_equalTo 28 = .ok (.iaload, 1) := by decide +kernel
theorem dX1_equalTo_29 : decode cX1_equalTo 29 = .ok (.aload_n 1, 1) := by decide +kernel
theorem dX1_equalTo_30 : decode cX1_equalTo 30 = .ok (.getfield 15, 3) := by decide +kernel
theorem dX1_equalTo_33 : decode cX1_equalTo 33 = .ok (.iload_n 2, 1) := by decide +kernel
theorem dX1_equalTo_34 : decode cX1_equalTo 34 = .ok (.iaload, 1) := by decide +kernel
theorem dX1_equalTo_35 : decode cX1_equalTo 35 = .ok (.if_icmp .eq 5, 3) := by decide +kernel
theorem dX1_equalTo_38 : decode cX1_equalTo 38 = .ok (.iconst 0, 1) := by decide +kernel
theorem dX1_equalTo_39 : decode cX1_equalTo 39 = .ok (.ireturn, 1) := by decide +kernel
theorem dX1_equalTo_40 : decode cX1_equalTo 40 = .ok (.iinc 2 1, 3) := by decide +kernel
theorem dX1_equalTo_43 : decode cX1_equalTo 43 = .ok (.goto (-28), 3) := by decide +kernel
theorem dX1_equalTo_46 : decode cX1_equalTo 46 = .ok (.iconst 1, 1) := by decide +kernel
theorem dX1_equalTo_47 : decode cX1_equalTo 47 = .ok (.ireturn, 1) := by decide +kernel
theorem dX1_sumFrom_0 : decode cX1_sumFrom 0 = .ok (.aload_n 0, 1) := by decide +kernel
theorem dX1_sumFrom_1 : decode cX1_sumFrom 1 = .ok (.iload_n 1, 1) := by decide +kernel
theorem dX1_sumFrom_2 : decode cX1_sumFrom 2 = .ok (.iload_n 2, 1) := by decide +kernel
theorem dX1_sumFrom_3 : decode cX1_sumFrom 3 = .ok (.invokevirtual 30, 3) := by decide +kernel
theorem dX1_sumFrom_6 : decode cX1_sumFrom 6 = .ok (.ifCond .ne 5, 3) := by decide +kernel
theorem dX1_sumFrom_9 : decode cX1_sumFrom 9 = .ok (.iconst 0, 1) := by decide +kernel
theorem dX1_sumFrom_10 : decode cX1_sumFrom 10 = .ok (.ireturn, 1) := by decide +kernel
theorem dX1_sumFrom_11 : decode cX1_sumFrom 11 = .ok (.iconst 0, 1) := by decide +kernel
theorem dX1_sumFrom_12 : decode cX1_sumFrom 12 = .ok (.istore_n 3, 1) := by decide +kernel
theorem dX1_sumFrom_13 : decode cX1_sumFrom 13 = .ok (.iconst 0, 1) := by decide +kernel
theorem dX1_sumFrom_14 : decode cX1_sumFrom 14 = .ok (.istore 4, 2) := by decide +kernel
theorem dX1_sumFrom_16 : decode cX1_sumFrom 16 = .ok (.iconst 0, 1) := by decide +kernel
theorem dX1_sumFrom_17 : decode cX1_sumFrom 17 = .ok (.istore 5, 2) := by decide +kernel
theorem dX1_sumFrom_19 : decode cX1_sumFrom 19 = .ok (.iload 5, 2) := by decide +kernel
theorem dX1_sumFrom_21 : decode cX1_sumFrom 21 = .ok (.iload_n 2, 1) := by decide +kernel
theorem dX1_sumFrom_22 : decode cX1_sumFrom 22 = .ok (.if_icmp .ge 27, 3) := by decide +kernel
theorem dX1_sumFrom_25 : decode cX1_sumFrom 25 = .ok (.iload_n 3, 1) := by decide +kernel
theorem dX1_sumFrom_26 : decode cX1_sumFrom 26 = .ok (.aload_n 0, 1) := by decide +kernel
theorem dX1_sumFrom_27 : decode cX1_sumFrom 27 = .ok (.getfield 15, 3) := by decide +kernel
theorem dX1_sumFrom_30 : decode cX1_sumFrom 30 = .ok (.iload_n 1, 1) := by decide +kernel
theorem dX1_sumFrom_31 : decode cX1_sumFrom 31 = .ok (.iload 5, 2) := by decide +kernel
theorem dX1_sumFrom_33 : decode cX1_sumFrom 33 = .ok (.iadd, 1) := by decide +kernel
theorem dX1_sumFrom_34 : decode cX1_sumFrom 34 = .ok (.iaload, 1) := by decide +kernel
theorem dX1_sumFrom_35 : decode cX1_sumFrom 35 = .ok (.iadd, 1) := by decide +kernel
theorem dX1_sumFrom_36 : decode cX1_sumFrom 36 = .ok (.istore_n 3, 1) := by decide +kernel
theorem dX1_sumFrom_37 : decode cX1_sumFrom 37 = .ok (.iload 4, 2) := by decide +kernel
theorem dX1_sumFrom_39 : decode cX1_sumFrom 39 = .ok (.iload_n 3, 1) := by decide +kernel
theorem dX1_sumFrom_40 : decode cX1_sumFrom 40 = .ok (.iadd, 1) := by decide +kernel
theorem dX1_sumFrom_41 : decode cX1_sumFrom 41 = .ok (.istore 4, 2) := by decide +kernel
theorem dX1_sumFrom_43 : decode cX1_sumFrom 43 = .ok (.iinc 5 1, 3) := by decide +kernel
theorem dX1_sumFrom_46 : decode cX1_sumFrom 46 = .ok (.goto (-27), 3) := by decide +kernel
theorem dX1_sumFrom_49 : decode cX1_sumFrom 49 = .ok (.iload_n 3, 1) := by decide +kernel
theorem dX1_sumFrom_50 : decode cX1_sumFrom 50 = .ok (.iload 4, 2) := by decide +kernel
theorem dX1_sumFrom_52 : decode cX1_sumFrom 52 = .ok (.invokestatic 44, 3) := by decide +kernel
theorem dX1_sumFrom_55 : decode cX1_sumFrom 55 = .ok (.ireturn, 1) := by decide +kernel
theorem dX1_joined_0 : decode cX1_joined 0 = .ok (.iload_n 1, 1) := by decide +kernel
theorem dX1_joined_1 : decode cX1_joined 1 = .ok (.bipush 16, 2) := by decide +kernel
theorem dX1_joined_3 : decode cX1_joined 3 = .ok (.ishl, 1) := by decide +kernel
theorem dX1_joined_4 : decode cX1_joined 4 = .ok (.iload_n 0, 1) := by decide +kernel
theorem dX1_joined_5 : decode cX1_joined 5 = .ok (.ldc 48, 2) := by decide +kernel
theorem dX1_joined_7 : decode cX1_joined 7 = .ok (.iand, 1) := by decide +kernel
theorem dX1_joined_8 : decode cX1_joined 8 = .ok (.ior, 1) := by decide +kernel
theorem dX1_joined_9 : decode cX1_joined 9 = .ok (.ireturn, 1) := by decide +kernel
theorem dX1_isByte_0 : decode cX1_isByte 0 = .ok (.iload_n 0, 1) := by decide +kernel
theorem dX1_isByte_1 : decode cX1_isByte 1 = .ok (.ifCond .lt 14, 3) := by decide +kernel
theorem dX1_isByte_4 : decode cX1_isByte 4 = .ok (.iload_n 0, 1) := by decide +kernel
theorem dX1_isByte_5 : decode cX1_isByte 5 = .ok (.sipush 255, 3) := by decide +kernel
theorem dX1_isByte_8 : decode cX1_isByte 8 = .ok (.if_icmp .gt 7, 3) := by decide +kernel
theorem dX1_isByte_11 : decode cX1_isByte 11 = .ok (.iconst 1, 1) := by decide +kernel
theorem dX1_isByte_12 : decode cX1_isByte 12 = .ok (.goto 4, 3) := by decide +kernel
theorem dX1_isByte_15 : decode cX1_isByte 15 = .ok (.iconst 0, 1) := by decide +kernel
theorem dX1_isByte_16 : decode cX1_isByte 16 = .ok (.ireturn, 1) := by decide +kernel
theorem dX1_makeCells_0 : decode cX1_makeCells 0 = .ok (.iload_n 1, 1) := by decide +kernel
theorem dX1_makeCells_1 : decode cX1_makeCells 1 = .ok (.aload_n 0, 1) := by decide +kernel
theorem dX1_makeCells_2 : decode cX1_makeCells 2 = .ok (.getfield 15, 3) := by decide +kernel
theorem dX1_makeCells_5 : decode cX1_makeCells 5 = .ok (.arraylength, 1) := by decide +kernel
theorem dX1_makeCells_6 : decode cX1_makeCells 6 = .ok (.if_icmp .le 32, 3) := by decide +kernel
theorem dX1_makeCells_9 : decode cX1_makeCells 9 = .ok (.aload_n 0, 1) := by decide +kernel
theorem dX1_makeCells_10 : decode cX1_makeCells 10 = .ok (.aload_n 0, 1) := by decide +kernel
theorem dX1_makeCells_11 : decode cX1_makeCells 11 = .ok (.getfield 15, 3) := by decide +kernel
theorem dX1_makeCells_14 : decode cX1_makeCells 14 = .ok (.iload_n 1, 1) := by decide +kernel
theorem dX1_makeCells_15 : decode cX1_makeCells 15 = .ok (.aload_n 0, 1) := by decide +kernel
theorem dX1_makeCells_16 : decode cX1_makeCells 16 = .ok (.getfield 9, 3) := by decide +kernel
theorem dX1_makeCells_19 : decode cX1_makeCells 19 = .ok (.iconst 2, 1) := by decide +kernel
theorem dX1_makeCells_20 : decode cX1_makeCells 20 = .ok (.aload_n 0, 1) := by decide +kernel
theorem dX1_makeCells_21 : decode cX1_makeCells 21 = .ok (.getfield 15, 3) := by decide +kernel
theorem dX1_makeCells_24 : decode cX1_makeCells 24 = .ok (.arraylength, 1) := by decide +kernel
theorem dX1_makeCells_25 : decode cX1_makeCells 25 = .ok (.imul, 1) := by decide +kernel
theorem dX1_makeCells_26 : decode cX1_makeCells 26 = .ok (.invokestatic 49, 3) := by decide +kernel
theorem dX1_makeCells_29 : decode cX1_makeCells 29 = .ok (.invokestatic 54, 3) := by decide +kernel
theorem dX1_makeCells_32 : decode cX1_makeCells 32 = .ok (.invokestatic 57, 3) := by decide +kernel
theorem dX1_makeCells_35 : decode cX1_makeCells 35 = .ok (.putfield 15, 3) := by decide +kernel
theorem dX1_makeCells_38 : decode cX1_makeCells 38 = .ok (.return_, 1) := by decide +kernel
end
section
theorem dX2_init_0 : decode cX2_init 0 = .ok (.aload_n 0, 1) := by decide +kernel
theorem dX2_init_1 : decode cX2_init 1 = .ok (.invokespecial 3, 3) := by decide +kernel
theorem dX2_init_4 : decode cX2_init 4 = .ok (.aload_n 0, 1) := by decide +kernel
theorem dX2_init_5 : decode cX2_init 5 = .ok (.bipush 16, 2) := by decide +kernel
theorem dX2_init_7 : decode cX2_init 7 = .ok (.putfield 9, 3) := by decide +kernel
theorem dX2_init_10 : decode cX2_init 10 = .ok (.aload_n 0, 1) := by decide +kernel
theorem dX2_init_11 : decode cX2_init 11 = .ok (.bipush 8, 2) := by decide +kernel
theorem dX2_init_13 : decode cX2_init 13 = .ok (.putfield 15, 3) := by decide +kernel
theorem dX2_init_16 : decode cX2_init 16 = .ok (.aload_n 0, 1) := by decide +kernel
theorem dX2_init_17 : decode cX2_init 17 = .ok (.iconst 0, 1) := by decide +kernel
theorem dX2_init_18 : decode cX2_init 18 = .ok (.putfield 18, 3) := by decide +kernel
theorem dX2_init_21 : decode cX2_init 21 = .ok (.aload_n 0, 1) := by decide +kernel
theorem dX2_init_22 : decode cX2_init 22 = .ok (.bipush 16, 2) := by decide +kernel
theorem dX2_init_24 : decode cX2_init 24 = .ok (.newarray .int, 2) := by decide +kernel
theorem dX2_init_26 : decode cX2_init 26 = .ok (.putfield 21, 3) := by decide +kernel
theorem dX2_init_29 : decode cX2_init 29 = .ok (.aload_n 0, 1) := by decide +kernel
theorem dX2_init_30 : decode cX2_init 30 = .ok (.sipush 256, 3) := by decide +kernel
theorem dX2_init_33 : decode cX2_init 33 = .ok (.newarray .byte, 2) := by decide +kernel
theorem dX2_init_35 : decode cX2_init 35 = .ok (.putfield 25, 3) := by decide +kernel
theorem dX2_init_38 : decode cX2_init 38 = .ok (.aload_n 0, 1) := by decide +kernel
theorem dX2_init_39 : decode cX2_init 39 = .ok (.bipush 16, 2) := by decide +kernel
theorem dX2_init_41 : decode cX2_init 41 = .ok (.newarray .int, 2) := by decide +kernel
theorem dX2_init_43 : decode cX2_init 43 = .ok (.putfield 29, 3) := by decide +kernel
theorem dX2_init_46 : decode cX2_init 46 = .ok (.aload_n 0, 1) := by decide +kernel
theorem dX2_init_47 : decode cX2_init 47 = .ok (.sipush 256, 3) := by decide +kernel
theorem dX2_init_50 : decode cX2_init 50 = .ok (.newarray .int, 2) := by decide +kernel
theorem dX2_init_52 : decode cX2_init 52 = .ok (.putfield 32, 3) := by decide +kernel
theorem dX2_init_55 : decode cX2_init 55 = .ok (.aload_n 0, 1) := by decide +kernel
theorem dX2_init_56 : decode cX2_init 56 = .ok (.getfield 32, 3) := by decide +kernel
theorem dX2_init_59 : decode cX2_init 59 = .ok (.iconst (-1), 1) := by decide +kernel
theorem dX2_init_60 : decode cX2_init 60 = .ok (.invokestatic 35, 3) := by decide +kernel
theorem dX2_init_63 : decode cX2_init 63 = .ok (.return_, 1) := by decide +kernel
theorem dX2_blocks_0 : decode cX2_blocks 0 = .ok (.aload_n 0, 1) := by decide +kernel
theorem dX2_blocks_1 : decode cX2_blocks 1 = .ok (.getfield 18, 3) := by decide +kernel
theorem dX2_blocks_4 : decode cX2_blocks 4 = .ok (.ireturn, 1) := by decide +kernel
theorem dX2_blockSize_0 : decode cX2_blockSize 0 = .ok (.aload_n 0, 1) := by decide +kernel
theorem dX2_blockSize_1 : decode cX2_blockSize 1 = .ok (.getfield 9, 3) := by decide +kernel
theorem dX2_blockSize_4 : decode cX2_blockSize 4 = .ok (.ireturn, 1) := by decide +kernel
theorem dX2_width_0 : decode cX2_width 0 = .ok (.aload_n 0, 1) := by decide +kernel
theorem dX2_width_1 : decode cX2_width 1 = .ok (.getfield 15, 3) := by decide +kernel
theorem dX2_width_4 : decode cX2_width 4 = .ok (.ireturn, 1) := by decide +kernel
theorem dX2_sumOf_0 : decode cX2_sumOf 0 = .ok (.aload_n 0, 1) := by decide +kernel
theorem dX2_sumOf_1 : decode cX2_sumOf 1 = .ok (.iload_n 1, 1) := by decide +kernel
theorem dX2_sumOf_2 : decode cX2_sumOf 2 = .ok (.invokevirtual 41, 3) := by decide +kernel
theorem dX2_sumOf_5 : decode cX2_sumOf 5 = .ok (.ifCond .eq 12, 3) := by decide +kernel
theorem dX2_sumOf_8 : decode cX2_sumOf 8 = .ok (.aload_n 0, 1) := by decide +kernel
theorem dX2_sumOf_9 : decode cX2_sumOf 9 = .ok (.getfield 21, 3) := by decide +kernel
theorem dX2_sumOf_12 : decode cX2_sumOf 12 = .ok (.iload_n 1, 1) := by decide +kernel
theorem dX2_sumOf_13 : decode cX2_sumOf 13 = .ok (.iaload, 1) := by decide +kernel
theorem dX2_sumOf_14 : decode cX2_sumOf 14 = .ok (.goto 4, 3) := by decide +kernel
theorem dX2_sumOf_17 : decode cX2_sumOf 17 = .ok (.iconst 0, 1) := by decide +kernel
theorem dX2_sumOf_18 : decode cX2_sumOf 18 = .ok (.ireturn, 1) := by decide +kernel
theorem dX2_digestByte_0 : decode cX2_digestByte 0 = .ok (.aload_n 0, 1) := by decide +kernel
theorem dX2_digestByte_1 : decode cX2_digestByte 1 = .ok (.iload_n 1, 1) := by decide +kernel
theorem dX2_digestByte_2 : decode cX2_digestByte 2 = .ok (.invokevirtual 41, 3) := by decide +kernel
theorem dX2_digestByte_5 : decode cX2_digestByte 5 = .ok (.ifCond .eq 33, 3) := by decide +kernel
theorem dX2_digestByte_8 : decode cX2_digestByte 8 = .ok (.iload_n 2, 1) := by decide +kernel
theorem dX2_digestByte_9 : decode cX2_digestByte 9 = .ok (.ifCond .lt 29, 3) := by decide +kernel
theorem dX2_digestByte_12 : decode cX2_digestByte 12 = .ok (.iload_n 2, 1) := by decide +kernel
theorem dX2_digestByte_13 : decode cX2_digestByte 13 = .ok (.aload_n 0, 1) := by decide +kernel
theorem dX2_digestByte_14 : decode cX2_digestByte 14 = .ok (.getfield 15, 3) := by decide +kernel
theorem dX2_digestByte_17 : decode cX2_digestByte 17 = .ok (.if_icmp .ge 21, 3) := by decide +kernel
theorem dX2_digestByte_20 : decode cX2_digestByte 20 = .ok (.aload_n 0, 1) := by decide +kernel
theorem dX2_digestByte_21 : decode cX2_digestByte 21 = .ok (.getfield 25, 3) := by decide +kernel
theorem dX2_digestByte_24 : decode cX2_digestByte 24 = .ok (.iload_n 1, 1) := by decide +kernel
theorem dX2_digestByte_25 : decode cX2_digestByte 25 = .ok (.bipush 16, 2) := by decide +kernel
theorem dX2_digestByte_27 : decode cX2_digestByte 27 = .ok (.imul, 1) := by decide +kernel
theorem dX2_digestByte_28 : decode cX2_digestByte 28 = .ok (.iload_n 2, 1) := by decide +kernel
theorem dX2_digestByte_29 : decode cX2_digestByte 29 = .ok (.iadd, 1) := by decide +kernel
theorem dX2_digestByte_30 : decode cX2_digestByte 30 = .ok (.baload, 1) := by decide +kernel
theorem dX2_digestByte_31 : decode cX2_digestByte 31 = .ok (.sipush 255, 3) := by decide +kernel
theorem dX2_digestByte_34 : decode cX2_digestByte 34 = .ok (.iand, 1) := by decide +kernel
theorem dX2_digestByte_35 : decode cX2_digestByte 35 = .ok (.goto 4, 3) := by decide +kernel
theorem dX2_digestByte_38 : decode cX2_digestByte 38 = .ok (.iconst (-1), 1) := by decide +kernel
theorem dX2_digestByte_39 : decode cX2_digestByte 39 = .ok (.ireturn, 1) := by decide +kernel
theorem dX2_make_0 : decode cX2_make 0 = .ok (.iload_n 2, 1) := by decide +kernel
theorem dX2_make_1 : decode cX2_make 1 = .ok (.iconst 1, 1) := by decide +kernel
theorem dX2_make_2 : decode cX2_make 2 = .ok (.if_icmp .ge 4, 3) := by decide +kernel
theorem dX2_make_5 : decode cX2_make 5 = .ok (.return_, 1) := by decide +kernel
theorem dX2_make_6 : decode cX2_make 6 = .ok (.aload_n 0, 1) := by decide +kernel
theorem dX2_make_7 : decode cX2_make 7 = .ok (.iload_n 2, 1) := by decide +kernel
theorem dX2_make_8 : decode cX2_make 8 = .ok (.putfield 9, 3) := by decide +kernel
theorem dX2_make_11 : decode cX2_make 11 = .ok (.aload_n 0, 1) := by decide +kernel
theorem dX2_make_12 : decode cX2_make 12 = .ok (.iload_n 3, 1) := by decide +kernel
theorem dX2_make_13 : decode cX2_make 13 = .ok (.putfield 15, 3) := by decide +kernel
theorem dX2_make_16 : decode cX2_make 16 = .ok (.aload_n 0, 1) := by decide +kernel
theorem dX2_make_17 : decode cX2_make 17 = .ok (.aload_n 1, 1) := by decide +kernel
theorem dX2_make_18 : decode cX2_make 18 = .ok (.invokevirtual 45, 3) := by decide +kernel
theorem dX2_make_21 : decode cX2_make 21 = .ok (.iload_n 2, 1) := by decide +kernel
theorem dX2_make_22 : decode cX2_make 22 = .ok (.idiv, 1) := by decide +kernel
theorem dX2_make_23 : decode cX2_make 23 = .ok (.putfield 18, 3) := by decide +kernel
theorem dX2_make_26 : decode cX2_make 26 = .ok (.aload_n 0, 1) := by decide +kernel
theorem dX2_make_27 : decode cX2_make 27 = .ok (.invokevirtual 51, 3) := by decide +kernel
theorem dX2_make_30 : decode cX2_make 30 = .ok (.iconst 0, 1) := by decide +kernel
theorem dX2_make_31 : decode cX2_make 31 = .ok (.istore 5, 2) := by decide +kernel
theorem dX2_make_33 : decode cX2_make 33 = .ok (.iload 5, 2) := by decide +kernel
theorem dX2_make_35 : decode cX2_make 35 = .ok (.aload_n 0, 1) := by decide +kernel
theorem dX2_make_36 : decode cX2_make 36 = .ok (.getfield 18, 3) := by decide +kernel
theorem dX2_make_39 : decode cX2_make 39 = .ok (.if_icmp .ge 84, 3) := by decide +kernel
theorem dX2_make_42 : decode cX2_make 42 = .ok (.iload 5, 2) := by decide +kernel
theorem dX2_make_44 : decode cX2_make 44 = .ok (.aload_n 0, 1) := by decide +kernel
theorem dX2_make_45 : decode cX2_make 45 = .ok (.getfield 9, 3) := by decide +kernel
theorem dX2_make_48 : decode cX2_make 48 = .ok (.imul, 1) := by decide +kernel
theorem dX2_make_49 : decode cX2_make 49 = .ok (.istore 6, 2) := by decide +kernel
theorem dX2_make_51 : decode cX2_make 51 = .ok (.aload_n 0, 1) := by decide +kernel
theorem dX2_make_52 : decode cX2_make 52 = .ok (.getfield 21, 3) := by decide +kernel
theorem dX2_make_55 : decode cX2_make 55 = .ok (.iload 5, 2) := by decide +kernel
theorem dX2_make_57 : decode cX2_make 57 = .ok (.aload_n 1, 1) := by decide +kernel
theorem dX2_make_58 : decode cX2_make 58 = .ok (.iload 6, 2) := by decide +kernel
theorem dX2_make_60 : decode cX2_make 60 = .ok (.aload_n 0, 1) := by decide +kernel
theorem dX2_make_61 : decode cX2_make 61 = .ok (.getfield 9, 3) := by decide +kernel
theorem dX2_make_64 : decode cX2_make 64 = .ok (.invokevirtual 54, 3) := by decide +kernel
theorem dX2_make_67 : decode cX2_make 67 = .ok (.iastore, 1) := by decide +kernel
theorem dX2_make_68 : decode cX2_make 68 = .ok (.aload 4, 2) := by decide +kernel
theorem dX2_make_70 : decode cX2_make 70 = .ok (.aload_n 1, 1) := by decide +kernel
theorem dX2_make_71 : decode cX2_make 71 = .ok (.iload 6, 2) := by decide +kernel
theorem dX2_make_73 : decode cX2_make 73 = .ok (.aload_n 0, 1) := by decide +kernel
theorem dX2_make_74 : decode cX2_make 74 = .ok (.getfield 9, 3) := by decide +kernel
theorem dX2_make_77 : decode cX2_make 77 = .ok (.invokevirtual 58, 3) := by decide +kernel
theorem dX2_make_80 : decode cX2_make 80 = .ok (.iconst 0, 1) := by decide +kernel
theorem dX2_make_81 : decode cX2_make 81 = .ok (.istore 7, 2) := by decide +kernel
theorem dX2_make_83 : decode cX2_make 83 = .ok (.iload 7, 2) := by decide +kernel
theorem dX2_make_85 : decode cX2_make 85 = .ok (.bipush 16, 2) := by decide +kernel
theorem dX2_make_87 : decode cX2_make 87 = .ok (.if_icmp .ge 30, 3) := by decide +kernel
theorem dX2_make_90 : decode cX2_make 90 = .ok (.aload_n 0, 1) := by decide +kernel
theorem dX2_make_91 : decode cX2_make 91 = .ok (.getfield 25, 3) := by decide +kernel
theorem dX2_make_94 : decode cX2_make 94 = .ok (.iload 5, 2) := by decide +kernel
theorem dX2_make_96 : decode cX2_make 96 = .ok (.bipush 16, 2) := by decide +kernel
theorem dX2_make_98 : decode cX2_make 98 = .ok (.imul, 1) := by decide +kernel
theorem dX2_make_99 : decode cX2_make 99 = .ok (.iload 7, 2) := by decide +kernel
theorem dX2_make_101 : decode cX2_make 101 = .ok (.iadd, 1) := by decide +kernel
theorem dX2_make_102 : decode cX2_make 102 = .ok (.aload 4, 2) := by decide +kernel
theorem dX2_make_104 : decode cX2_make 104 = .ok (.iload 7, 2) := by decide +kernel
theorem dX2_make_106 : decode cX2_make 106 = .ok (.invokevirtual 64, 3) := by decide +kernel
theorem dX2_make_109 : decode cX2_make 109 = .ok (.i2b, 1) := by decide +kernel
theorem dX2_make_110 : decode cX2_make 110 = .ok (.bastore, 1) := by decide +kernel
theorem dX2_make_111 : decode cX2_make 111 = .ok (.iinc 7 1, 3) := by decide +kernel
theorem dX2_make_114 : decode cX2_make 114 = .ok (.goto (-31), 3) := by decide +kernel
theorem dX2_make_117 : decode cX2_make 117 = .ok (.iinc 5 1, 3) := by decide +kernel
theorem dX2_make_120 : decode cX2_make 120 = .ok (.goto (-87), 3) := by decide +kernel
theorem dX2_make_123 : decode cX2_make 123 = .ok (.aload_n 0, 1) := by decide +kernel
theorem dX2_make_124 : decode cX2_make 124 = .ok (.invokevirtual 68, 3) := by decide +kernel
theorem dX2_make_127 : decode cX2_make 127 = .ok (.return_, 1) := by decide +kernel
theorem dX2_hasSum_0 : decode cX2_hasSum 0 = .ok (.aload_n 0, 1) := by decide +kernel
theorem dX2_hasSum_1 : decode cX2_hasSum 1 = .ok (.aload_n 0, 1) := by decide +kernel
theorem dX2_hasSum_2 : decode cX2_hasSum 2 = .ok (.aload_n 0, 1) := by decide +kernel
theorem dX2_hasSum_3 : decode cX2_hasSum 3 = .ok (.getfield 32, 3) := by decide +kernel
theorem dX2_hasSum_6 : decode cX2_hasSum 6 = .ok (.iload_n 1, 1) := by decide +kernel
theorem dX2_hasSum_7 : decode cX2_hasSum 7 = .ok (.invokestatic 71, 3) := by decide +kernel
theorem dX2_hasSum_10 : decode cX2_hasSum 10 = .ok (.iaload, 1) := by decide +kernel
theorem dX2_hasSum_11 : decode cX2_hasSum 11 = .ok (.iload_n 1, 1) := by decide +kernel
theorem dX2_hasSum_12 : decode cX2_hasSum 12 = .ok (.invokevirtual 74, 3) := by decide +kernel
theorem dX2_hasSum_15 : decode cX2_hasSum 15 = .ok (.invokevirtual 41, 3) := by decide +kernel
theorem dX2_hasSum_18 : decode cX2_hasSum 18 = .ok (.ireturn, 1) := by decide +kernel
theorem dX2_find_0 : decode cX2_find 0 = .ok (.aload_n 0, 1) := by decide +kernel
theorem dX2_find_1 : decode cX2_find 1 = .ok (.iload_n 3, 1) := by decide +kernel
theorem dX2_find_2 : decode cX2_find 2 = .ok (.invokevirtual 41, 3) := by decide +kernel
theorem dX2_find_5 : decode cX2_find 5 = .ok (.ifCond .eq 24, 3) := by decide +kernel
theorem dX2_find_8 : decode cX2_find 8 = .ok (.aload_n 0, 1) := by decide +kernel
theorem dX2_find_9 : decode cX2_find 9 = .ok (.getfield 21, 3) := by decide +kernel
theorem dX2_find_12 : decode cX2_find 12 = .ok (.iload_n 3, 1) := by decide +kernel
theorem dX2_find_13 : decode cX2_find 13 = .ok (.iaload, 1) := by decide +kernel
theorem dX2_find_14 : decode cX2_find 14 = .ok (.iload_n 1, 1) := by decide +kernel
theorem dX2_find_15 : decode cX2_find 15 = .ok (.if_icmp .ne 14, 3) := by decide +kernel
theorem dX2_find_18 : decode cX2_find 18 = .ok (.aload_n 0, 1) := by decide +kernel
theorem dX2_find_19 : decode cX2_find 19 = .ok (.iload_n 3, 1) := by decide +kernel
theorem dX2_find_20 : decode cX2_find 20 = .ok (.aload_n 2, 1) := by decide +kernel
theorem dX2_find_21 : decode cX2_find 21 = .ok (.invokevirtual 77, 3) := by decide +kernel
theorem dX2_find_24 : decode cX2_find 24 = .ok (.ifCond .eq 5, 3) := by decide +kernel
theorem dX2_find_27 : decode cX2_find 27 = .ok (.iload_n 3, 1) := by decide +kernel
theorem dX2_find_28 : decode cX2_find 28 = .ok (.ireturn, 1) := by decide +kernel
theorem dX2_find_29 : decode cX2_find 29 = .ok (.aload_n 0, 1) := by decide +kernel
theorem dX2_find_30 : decode cX2_find 30 = .ok (.aload_n 0, 1) := by decide +kernel
theorem dX2_find_31 : decode cX2_find 31 = .ok (.getfield 32, 3) := by decide +kernel
theorem dX2_find_34 : decode cX2_find 34 = .ok (.iload_n 1, 1) := by decide +kernel
theorem dX2_find_35 : decode cX2_find 35 = .ok (.invokestatic 71, 3) := by decide +kernel
theorem dX2_find_38 : decode cX2_find 38 = .ok (.iaload, 1) := by decide +kernel
theorem dX2_find_39 : decode cX2_find 39 = .ok (.iload_n 1, 1) := by decide +kernel
theorem dX2_find_40 : decode cX2_find 40 = .ok (.invokevirtual 74, 3) := by decide +kernel
theorem dX2_find_43 : decode cX2_find 43 = .ok (.istore 4, 2) := by decide +kernel
theorem dX2_find_45 : decode cX2_find 45 = .ok (.iconst 0, 1) := by decide +kernel
theorem dX2_find_46 : decode cX2_find 46 = .ok (.istore 5, 2) := by decide +kernel
theorem dX2_find_48 : decode cX2_find 48 = .ok (.iload 5, 2) := by decide +kernel
theorem dX2_find_50 : decode cX2_find 50 = .ok (.aload_n 0, 1) := by decide +kernel
theorem dX2_find_51 : decode cX2_find 51 = .ok (.getfield 18, 3) := by decide +kernel
theorem dX2_find_54 : decode cX2_find 54 = .ok (.if_icmp .ge 45, 3) := by decide +kernel
theorem dX2_find_57 : decode cX2_find 57 = .ok (.aload_n 0, 1) := by decide +kernel
theorem dX2_find_58 : decode cX2_find 58 = .ok (.iload 4, 2) := by decide +kernel
theorem dX2_find_60 : decode cX2_find 60 = .ok (.invokevirtual 41, 3) := by decide +kernel
theorem dX2_find_63 : decode cX2_find 63 = .ok (.ifCond .eq 36, 3) := by decide +kernel
theorem dX2_find_66 : decode cX2_find 66 = .ok (.aload_n 0, 1) := by decide +kernel
theorem dX2_find_67 : decode cX2_find 67 = .ok (.iload 4, 2) := by decide +kernel
theorem dX2_find_69 : decode cX2_find 69 = .ok (.aload_n 2, 1) := by decide +kernel
theorem dX2_find_70 : decode cX2_find 70 = .ok (.invokevirtual 77, 3) := by decide +kernel
theorem dX2_find_73 : decode cX2_find 73 = .ok (.ifCond .eq 6, 3) := by decide +kernel
theorem dX2_find_76 : decode cX2_find 76 = .ok (.iload 4, 2) := by decide +kernel
theorem dX2_find_78 : decode cX2_find 78 = .ok (.ireturn, 1) := by decide +kernel
theorem dX2_find_79 : decode cX2_find 79 = .ok (.aload_n 0, 1) := by decide +kernel
theorem dX2_find_80 : decode cX2_find 80 = .ok (.aload_n 0, 1) := by decide +kernel
theorem dX2_find_81 : decode cX2_find 81 = .ok (.getfield 29, 3) := by decide +kernel
theorem dX2_find_84 : decode cX2_find 84 = .ok (.iload 4, 2) := by decide +kernel
theorem dX2_find_86 : decode cX2_find 86 = .ok (.iaload, 1) := by decide +kernel
theorem dX2_find_87 : decode cX2_find 87 = .ok (.iload_n 1, 1) := by decide +kernel
theorem dX2_find_88 : decode cX2_find 88 = .ok (.invokevirtual 74, 3) := by decide +kernel
theorem dX2_find_91 : decode cX2_find 91 = .ok (.istore 4, 2) := by decide +kernel
theorem dX2_find_93 : decode cX2_find 93 = .ok (.iinc 5 1, 3) := by decide +kernel
theorem dX2_find_96 : decode cX2_find 96 = .ok (.goto (-48), 3) := by decide +kernel
theorem dX2_find_99 : decode cX2_find 99 = .ok (.iconst (-1), 1) := by decide +kernel
theorem dX2_find_100 : decode cX2_find 100 = .ok (.ireturn, 1) := by decide +kernel
theorem dX2_has_0 : decode cX2_has 0 = .ok (.iload_n 1, 1) := by decide +kernel
theorem dX2_has_1 : decode cX2_has 1 = .ok (.ifCond .lt 15, 3) := by decide +kernel
theorem dX2_has_4 : decode cX2_has 4 = .ok (.iload_n 1, 1) := by decide +kernel
theorem dX2_has_5 : decode cX2_has 5 = .ok (.aload_n 0, 1) := by decide +kernel
theorem dX2_has_6 : decode cX2_has 6 = .ok (.getfield 18, 3) := by decide +kernel
theorem dX2_has_9 : decode cX2_has 9 = .ok (.if_icmp .ge 7, 3) := by decide +kernel
theorem dX2_has_12 : decode cX2_has 12 = .ok (.iconst 1, 1) := by decide +kernel
theorem dX2_has_13 : decode cX2_has 13 = .ok (.goto 4, 3) := by decide +kernel
theorem dX2_has_16 : decode cX2_has 16 = .ok (.iconst 0, 1) := by decide +kernel
theorem dX2_has_17 : decode cX2_has 17 = .ok (.ireturn, 1) := by decide +kernel
theorem dX2_firstInChain_0 : decode cX2_firstInChain 0 = .ok (.iload_n 1, 1) := by decide +kernel
theorem dX2_firstInChain_1 : decode cX2_firstInChain 1 = .ok (.istore_n 3, 1) := by decide +kernel
theorem dX2_firstInChain_2 : decode cX2_firstInChain 2 = .ok (.iconst 0, 1) := by decide +kernel
theorem dX2_firstInChain_3 : decode cX2_firstInChain 3 = .ok (.istore 4, 2) := by decide +kernel
theorem dX2_firstInChain_5 : decode cX2_firstInChain 5 = .ok (.iload 4, 2) := by decide +kernel
theorem dX2_firstInChain_7 : decode cX2_firstInChain 7 = .ok (.aload_n 0, 1) := by decide +kernel
theorem dX2_firstInChain_8 : decode cX2_firstInChain 8 = .ok (.getfield 18, 3) := by decide +kernel
theorem dX2_firstInChain_11 : decode cX2_firstInChain 11 = .ok (.if_icmp .ge 36, 3) := by decide +kernel
theorem dX2_firstInChain_14 : decode cX2_firstInChain 14 = .ok (.aload_n 0, 1) := by decide +kernel
theorem dX2_firstInChain_15 : decode cX2_firstInChain 15 = .ok (.iload_n 3, 1) := by decide +kernel
theorem dX2_firstInChain_16 : decode cX2_firstInChain 16 = .ok (.invokevirtual 41, 3) := by decide +kernel
theorem dX2_firstInChain_19 : decode cX2_firstInChain 19 = .ok (.ifCond .eq 28, 3) := by decide +kernel
theorem dX2_firstInChain_22 : decode cX2_firstInChain 22 = .ok (.aload_n 0, 1) := by decide +kernel
theorem dX2_firstInChain_23 : decode cX2_firstInChain 23 = .ok (.getfield 21, 3) := by decide +kernel
theorem dX2_firstInChain_26 : decode cX2_firstInChain 26 = .ok (.iload_n 3, 1) := by decide +kernel
theorem dX2_firstInChain_27 : decode cX2_firstInChain 27 = .ok (.iaload, 1) := by decide +kernel
theorem dX2_firstInChain_28 : decode cX2_firstInChain 28 = .ok (.iload_n 2, 1) := by decide +kernel
theorem dX2_firstInChain_29 : decode cX2_firstInChain 29 = .ok (.if_icmp .ne 5, 3) := by decide +kernel
theorem dX2_firstInChain_32 : decode cX2_firstInChain 32 = .ok (.iload_n 3, 1) := by decide +kernel
theorem dX2_firstInChain_33 : decode cX2_firstInChain 33 = .ok (.ireturn, 1) := by decide +kernel
theorem dX2_firstInChain_34 : decode cX2_firstInChain 34 = .ok (.aload_n 0, 1) := by decide +kernel
theorem dX2_firstInChain_35 : decode cX2_firstInChain 35 = .ok (.getfield 29, 3) := by decide +kernel
theorem dX2_firstInChain_38 : decode cX2_firstInChain 38 = .ok (.iload_n 3, 1) := by decide +kernel
theorem dX2_firstInChain_39 : decode cX2_firstInChain 39 = .ok (.iaload, 1) := by decide +kernel
theorem dX2_firstInChain_40 : decode cX2_firstInChain 40 = .ok (.istore_n 3, 1) := by decide +kernel
theorem dX2_firstInChain_41 : decode cX2_firstInChain 41 = .ok (.iinc 4 1, 3) := by decide +kernel
theorem dX2_firstInChain_44 : decode cX2_firstInChain 44 = .ok (.goto (-39), 3) := by decide +kernel
theorem dX2_firstInChain_47 : decode cX2_firstInChain 47 = .ok (.iconst (-1), 1) := by decide +kernel
theorem dX2_firstInChain_48 : decode cX2_firstInChain 48 = .ok (.ireturn, 1) := by decide +kernel
theorem dX2_hasDigest_0 : decode cX2_hasDigest 0 = .ok (.iconst 0, 1) := by decide +kernel
theorem dX2_hasDigest_1 : decode cX2_hasDigest 1 = .ok (.istore_n 3, 1) := by decide +kernel
theorem dX2_hasDigest_2 : decode cX2_hasDigest 2 = .ok (.iload_n 3, 1) := by decide +kernel
theorem dX2_hasDigest_3 : decode cX2_hasDigest 3 = .ok (.aload_n 0, 1) := by decide +kernel
theorem dX2_hasDigest_4 : decode cX2_hasDigest 4 = .ok (.getfield 15, 3) := by decide +kernel
theorem dX2_hasDigest_7 : decode cX2_hasDigest 7 = .ok (.if_icmp .ge 25, 3) := by decide +kernel
theorem dX2_hasDigest_10 : decode cX2_hasDigest 10 = .ok (.aload_n 0, 1) := by decide +kernel
theorem dX2_hasDigest_11 : decode cX2_hasDigest 11 = .ok (.iload_n 1, 1) := by decide +kernel
theorem dX2_hasDigest_12 : decode cX2_hasDigest 12 = .ok (.iload_n 3, 1) := by decide +kernel
theorem dX2_hasDigest_13 : decode cX2_hasDigest 13 = .ok (.invokevirtual 81, 3) := by decide +kernel
theorem dX2_hasDigest_16 : decode cX2_hasDigest 16 = .ok (.aload_n 2, 1) := by decide +kernel
theorem dX2_hasDigest_17 : decode cX2_hasDigest 17 = .ok (.iload_n 3, 1) := by decide +kernel
theorem dX2_hasDigest_18 : decode cX2_hasDigest 18 = .ok (.invokevirtual 64, 3) := by decide +kernel
theorem dX2_hasDigest_21 : decode cX2_hasDigest 21 = .ok (.if_icmp .eq 5, 3) := by decide +kernel
theorem dX2_hasDigest_24 : decode cX2_hasDigest 24 = .ok (.iconst 0, 1) := by decide +kernel
theorem dX2_hasDigest_25 : decode cX2_hasDigest 25 = .ok (.ireturn, 1) := by decide +kernel
theorem dX2_hasDigest_26 : decode cX2_hasDigest 26 = .ok (.iinc 3 1, 3) := by decide +kernel
theorem dX2_hasDigest_29 : decode cX2_hasDigest 29 = .ok (.goto (-27), 3) := by decide +kernel
theorem dX2_hasDigest_32 : decode cX2_hasDigest 32 = .ok (.iconst 1, 1) := by decide +kernel
theorem dX2_hasDigest_33 : decode cX2_hasDigest 33 = .ok (.ireturn, 1) := by decide +kernel
theorem dX2_makeRoom_0 : decode cX2_makeRoom 0 = .ok (.aload_n 0, 1) := by decide +kernel
theorem dX2_makeRoom_1 : decode cX2_makeRoom 1 = .ok (.getfield 18, 3) := by decide +kernel
theorem dX2_makeRoom_4 : decode cX2_makeRoom 4 = .ok (.aload_n 0, 1) := by decide +kernel
theorem dX2_makeRoom_5 : decode cX2_makeRoom 5 = .ok (.getfield 21, 3) := by decide +kernel
theorem dX2_makeRoom_8 : decode cX2_makeRoom 8 = .ok (.arraylength, 1) := by decide +kernel
theorem dX2_makeRoom_9 : decode cX2_makeRoom 9 = .ok (.if_icmp .le 48, 3) := by decide +kernel
theorem dX2_makeRoom_12 : decode cX2_makeRoom 12 = .ok (.aload_n 0, 1) := by decide +kernel
theorem dX2_makeRoom_13 : decode cX2_makeRoom 13 = .ok (.getfield 18, 3) := by decide +kernel
theorem dX2_makeRoom_16 : decode cX2_makeRoom 16 = .ok (.sipush 2000, 3) := by decide +kernel
theorem dX2_makeRoom_19 : decode cX2_makeRoom 19 = .ok (.iconst 2, 1) := by decide +kernel
theorem dX2_makeRoom_20 : decode cX2_makeRoom 20 = .ok (.aload_n 0, 1) := by decide +kernel
theorem dX2_makeRoom_21 : decode cX2_makeRoom 21 = .ok (.getfield 21, 3) := by decide +kernel
theorem dX2_makeRoom_24 : decode cX2_makeRoom 24 = .ok (.arraylength, 1) := by decide +kernel
theorem dX2_makeRoom_25 : decode cX2_makeRoom 25 = .ok (.imul, 1) := by decide +kernel
theorem dX2_makeRoom_26 : decode cX2_makeRoom 26 = .ok (.invokestatic 83, 3) := by decide +kernel
theorem dX2_makeRoom_29 : decode cX2_makeRoom 29 = .ok (.invokestatic 88, 3) := by decide +kernel
theorem dX2_makeRoom_32 : decode cX2_makeRoom 32 = .ok (.istore_n 1, 1) := by decide +kernel
theorem dX2_makeRoom_33 : decode cX2_makeRoom 33 = .ok (.aload_n 0, 1) := by decide +kernel
theorem dX2_makeRoom_34 : decode cX2_makeRoom 34 = .ok (.iload_n 1, 1) := by decide +kernel
theorem dX2_makeRoom_35 : decode cX2_makeRoom 35 = .ok (.newarray .int, 2) := by decide +kernel
theorem dX2_makeRoom_37 : decode cX2_makeRoom 37 = .ok (.putfield 21, 3) := by decide +kernel
theorem dX2_makeRoom_40 : decode cX2_makeRoom 40 = .ok (.aload_n 0, 1) := by decide +kernel
theorem dX2_makeRoom_41 : decode cX2_makeRoom 41 = .ok (.iload_n 1, 1) := by decide +kernel
theorem dX2_makeRoom_42 : decode cX2_makeRoom 42 = .ok (.bipush 16, 2) := by decide +kernel
theorem dX2_makeRoom_44 : decode cX2_makeRoom 44 = .ok (.imul, 1) := by decide +kernel
theorem dX2_makeRoom_45 : decode cX2_makeRoom 45 = .ok (.newarray .byte, 2) := by decide +kernel
theorem dX2_makeRoom_47 : decode cX2_makeRoom 47 = .ok (.putfield 25, 3) := by decide +kernel
theorem dX2_makeRoom_50 : decode cX2_makeRoom 50 = .ok (.aload_n 0, 1) := by decide +kernel
theorem dX2_makeRoom_51 : decode cX2_makeRoom 51 = .ok (.iload_n 1, 1) := by decide +kernel
theorem dX2_makeRoom_52 : decode cX2_makeRoom 52 = .ok (.newarray .int, 2) := by decide +kernel
theorem dX2_makeRoom_54 : decode cX2_makeRoom 54 = .ok (.putfield 29, 3) := by decide +kernel
theorem dX2_makeRoom_57 : decode cX2_makeRoom 57 = .ok (.return_, 1) := by decide +kernel
theorem dX2_chainBlocks_0 : decode cX2_chainBlocks 0 = .ok (.aload_n 0, 1) := by decide +kernel
theorem dX2_chainBlocks_1 : decode cX2_chainBlocks 1 = .ok (.getfield 32, 3) := by decide +kernel
theorem dX2_chainBlocks_4 : decode cX2_chainBlocks 4 = .ok (.iconst (-1), 1) := by decide +kernel
theorem dX2_chainBlocks_5 : decode cX2_chainBlocks 5 = .ok (.invokestatic 35, 3) := by decide +kernel
theorem dX2_chainBlocks_8 : decode cX2_chainBlocks 8 = .ok (.aload_n 0, 1) := by decide +kernel
theorem dX2_chainBlocks_9 : decode cX2_chainBlocks 9 = .ok (.getfield 18, 3) := by decide +kernel
theorem dX2_chainBlocks_12 : decode cX2_chainBlocks 12 = .ok (.iconst 1, 1) := by decide +kernel
theorem dX2_chainBlocks_13 : decode cX2_chainBlocks 13 = .ok (.isub, 1) := by decide +kernel
theorem dX2_chainBlocks_14 : decode cX2_chainBlocks 14 = .ok (.istore_n 1, 1) := by decide +kernel
theorem dX2_chainBlocks_15 : decode cX2_chainBlocks 15 = .ok (.iload_n 1, 1) := by decide +kernel
theorem dX2_chainBlocks_16 : decode cX2_chainBlocks 16 = .ok (.ifCond .lt 38, 3) := by decide +kernel
theorem dX2_chainBlocks_19 : decode cX2_chainBlocks 19 = .ok (.aload_n 0, 1) := by decide +kernel
theorem dX2_chainBlocks_20 : decode cX2_chainBlocks 20 = .ok (.getfield 21, 3) := by decide +kernel
theorem dX2_chainBlocks_23 : decode cX2_chainBlocks 23 = .ok (.iload_n 1, 1) := by decide +kernel
theorem dX2_chainBlocks_24 : decode cX2_chainBlocks 24 = .ok (.iaload, 1) := by decide +kernel
theorem dX2_chainBlocks_25 : decode cX2_chainBlocks 25 = .ok (.invokestatic 71, 3) := by decide +kernel
theorem dX2_chainBlocks_28 : decode cX2_chainBlocks 28 = .ok (.istore_n 2, 1) := by decide +kernel
theorem dX2_chainBlocks_29 : decode cX2_chainBlocks 29 = .ok (.aload_n 0, 1) := by decide +kernel
theorem dX2_chainBlocks_30 : decode cX2_chainBlocks 30 = .ok (.getfield 29, 3) := by decide +kernel
theorem dX2_chainBlocks_33 : decode cX2_chainBlocks 33 = .ok (.iload_n 1, 1) := by decide +kernel
theorem dX2_chainBlocks_34 : decode cX2_chainBlocks 34 = .ok (.aload_n 0, 1) := by decide +kernel
theorem dX2_chainBlocks_35 : decode cX2_chainBlocks 35 = .ok (.getfield 32, 3) := by decide +kernel
theorem dX2_chainBlocks_38 : decode cX2_chainBlocks 38 = .ok (.iload_n 2, 1) := by decide +kernel
theorem dX2_chainBlocks_39 : decode cX2_chainBlocks 39 = .ok (.iaload, 1) := by decide +kernel
theorem dX2_chainBlocks_40 : decode cX2_chainBlocks 40 = .ok (.iastore, 1) := by decide +kernel
theorem dX2_chainBlocks_41 : decode cX2_chainBlocks 41 = .ok (.aload_n 0, 1) := by decide +kernel
theorem dX2_chainBlocks_42 : decode cX2_chainBlocks 42 = .ok (.getfield 32, 3) := by decide +kernel
theorem dX2_chainBlocks_45 : decode cX2_chainBlocks 45 = .ok (.iload_n 2, 1) := by decide +kernel
theorem dX2_chainBlocks_46 : decode cX2_chainBlocks 46 = .ok (.iload_n 1, 1) := by decide +kernel
theorem dX2_chainBlocks_47 : decode cX2_chainBlocks 47 = .ok (.iastore, 1) := by decide +kernel
theorem dX2_chainBlocks_48 : decode cX2_chainBlocks 48 = .ok (.iinc 1 (-1), 3) := by decide +kernel
theorem dX2_chainBlocks_51 : decode cX2_chainBlocks 51 = .ok (.goto (-36), 3) := by decide +kernel
theorem dX2_chainBlocks_54 : decode cX2_chainBlocks 54 = .ok (.return_, 1) := by decide +kernel
theorem dX2_chainOf_0 : decode cX2_chainOf 0 = .ok (.iload_n 0, 1) := by decide +kernel
theorem dX2_chainOf_1 : decode cX2_chainOf 1 = .ok (.ldc 91, 2) := by decide +kernel
theorem dX2_chainOf_3 : decode cX2_chainOf 3 = .ok (.imul, 1) := by decide +kernel
theorem dX2_chainOf_4 : decode cX2_chainOf 4 = .ok (.bipush 24, 2) := by decide +kernel
theorem dX2_chainOf_6 : decode cX2_chainOf 6 = .ok (.iushr, 1) := by decide +kernel
theorem dX2_chainOf_7 : decode cX2_chainOf 7 = .ok (.ireturn, 1) := by decide +kernel
end
section
theorem dX3_init_0 : decode cX3_init 0 = .ok (.aload_n 0, 1) := by decide +kernel
theorem dX3_init_1 : decode cX3_init 1 = .ok (.invokespecial 3, 3) := by decide +kernel
theorem dX3_init_4 : decode cX3_init 4 = .ok (.aload_n 0, 1) := by decide +kernel
theorem dX3_init_5 : decode cX3_init 5 = .ok (.aload_n 1, 1) := by decide +kernel
theorem dX3_init_6 : decode cX3_init 6 = .ok (.putfield 9, 3) := by decide +kernel
theorem dX3_init_9 : decode cX3_init 9 = .ok (.aload_n 0, 1) := by decide +kernel
theorem dX3_init_10 : decode cX3_init 10 = .ok (.aload_n 2, 1) := by decide +kernel
theorem dX3_init_11 : decode cX3_init 11 = .ok (.putfield 15, 3) := by decide +kernel
theorem dX3_init_14 : decode cX3_init 14 = .ok (.aload_n 0, 1) := by decide +kernel
theorem dX3_init_15 : decode cX3_init 15 = .ok (.aload_n 3, 1) := by decide +kernel
theorem dX3_init_16 : decode cX3_init 16 = .ok (.putfield 18, 3) := by decide +kernel
theorem dX3_init_19 : decode cX3_init 19 = .ok (.aload_n 0, 1) := by decide +kernel
theorem dX3_init_20 : decode cX3_init 20 = .ok (.aload 4, 2) := by decide +kernel
theorem dX3_init_22 : decode cX3_init 22 = .ok (.putfield 22, 3) := by decide +kernel
theorem dX3_init_25 : decode cX3_init 25 = .ok (.aload_n 0, 1) := by decide +kernel
theorem dX3_init_26 : decode cX3_init 26 = .ok (.invokevirtual 26, 3) := by decide +kernel
theorem dX3_init_29 : decode cX3_init 29 = .ok (.return_, 1) := by decide +kernel
theorem dX3_references_0 : decode cX3_references 0 = .ok (.aload_n 0, 1) := by decide +kernel
theorem dX3_references_1 : decode cX3_references 1 = .ok (.getfield 29, 3) := by decide +kernel
theorem dX3_references_4 : decode cX3_references 4 = .ok (.ireturn, 1) := by decide +kernel
theorem dX3_literals_0 : decode cX3_literals 0 = .ok (.aload_n 0, 1) := by decide +kernel
theorem dX3_literals_1 : decode cX3_literals 1 = .ok (.getfield 33, 3) := by decide +kernel
theorem dX3_literals_4 : decode cX3_literals 4 = .ok (.ireturn, 1) := by decide +kernel
theorem dX3_rows_0 : decode cX3_rows 0 = .ok (.aload_n 0, 1) := by decide +kernel
theorem dX3_rows_1 : decode cX3_rows 1 = .ok (.getfield 36, 3) := by decide +kernel
theorem dX3_rows_4 : decode cX3_rows 4 = .ok (.ireturn, 1) := by decide +kernel
theorem dX3_alarms_0 : decode cX3_alarms 0 = .ok (.aload_n 0, 1) := by decide +kernel
theorem dX3_alarms_1 : decode cX3_alarms 1 = .ok (.getfield 39, 3) := by decide +kernel
theorem dX3_alarms_4 : decode cX3_alarms 4 = .ok (.ireturn, 1) := by decide +kernel
theorem dX3_tell_0 : decode cX3_tell 0 = .ok (.aload_n 0, 1) := by decide +kernel
theorem dX3_tell_1 : decode cX3_tell 1 = .ok (.getfield 15, 3) := by decide +kernel
theorem dX3_tell_4 : decode cX3_tell 4 = .ok (.invokevirtual 42, 3) := by decide +kernel
theorem dX3_tell_7 : decode cX3_tell 7 = .ok (.aload_n 0, 1) := by decide +kernel
theorem dX3_tell_8 : decode cX3_tell 8 = .ok (.invokevirtual 26, 3) := by decide +kernel
theorem dX3_tell_11 : decode cX3_tell 11 = .ok (.aload_n 0, 1) := by decide +kernel
theorem dX3_tell_12 : decode cX3_tell 12 = .ok (.getfield 18, 3) := by decide +kernel
theorem dX3_tell_15 : decode cX3_tell 15 = .ok (.invokevirtual 47, 3) := by decide +kernel
theorem dX3_tell_18 : decode cX3_tell 18 = .ok (.istore_n 1, 1) := by decide +kernel
theorem dX3_tell_19 : decode cX3_tell 19 = .ok (.aload_n 0, 1) := by decide +kernel
theorem dX3_tell_20 : decode cX3_tell 20 = .ok (.getfield 9, 3) := by decide +kernel
theorem dX3_tell_23 : decode cX3_tell 23 = .ok (.invokevirtual 53, 3) := by decide +kernel
theorem dX3_tell_26 : decode cX3_tell 26 = .ok (.istore_n 2, 1) := by decide +kernel
theorem dX3_tell_27 : decode cX3_tell 27 = .ok (.iconst 0, 1) := by decide +kernel
theorem dX3_tell_28 : decode cX3_tell 28 = .ok (.istore_n 3, 1) := by decide +kernel
theorem dX3_tell_29 : decode cX3_tell 29 = .ok (.aload_n 0, 1) := by decide +kernel
theorem dX3_tell_30 : decode cX3_tell 30 = .ok (.getfield 9, 3) := by decide +kernel
theorem dX3_tell_33 : decode cX3_tell 33 = .ok (.iconst 0, 1) := by decide +kernel
theorem dX3_tell_34 : decode cX3_tell 34 = .ok (.iload_n 1, 1) := by decide +kernel
theorem dX3_tell_35 : decode cX3_tell 35 = .ok (.invokevirtual 56, 3) := by decide +kernel
theorem dX3_tell_38 : decode cX3_tell 38 = .ok (.istore 4, 2) := by decide +kernel
theorem dX3_tell_40 : decode cX3_tell 40 = .ok (.iconst 0, 1) := by decide +kernel
theorem dX3_tell_41 : decode cX3_tell 41 = .ok (.istore 5, 2) := by decide +kernel
theorem dX3_tell_43 : decode cX3_tell 43 = .ok (.iload 5, 2) := by decide +kernel
theorem dX3_tell_45 : decode cX3_tell 45 = .ok (.iload_n 2, 1) := by decide +kernel
theorem dX3_tell_46 : decode cX3_tell 46 = .ok (.if_icmp .ge 95, 3) := by decide +kernel
theorem dX3_tell_49 : decode cX3_tell 49 = .ok (.iload_n 3, 1) := by decide +kernel
theorem dX3_tell_50 : decode cX3_tell 50 = .ok (.iload_n 2, 1) := by decide +kernel
theorem dX3_tell_51 : decode cX3_tell 51 = .ok (.if_icmp .ge 90, 3) := by decide +kernel
theorem dX3_tell_54 : decode cX3_tell 54 = .ok (.aload_n 0, 1) := by decide +kernel
theorem dX3_tell_55 : decode cX3_tell 55 = .ok (.getfield 9, 3) := by decide +kernel
theorem dX3_tell_58 : decode cX3_tell 58 = .ok (.iload_n 3, 1) := by decide +kernel
theorem dX3_tell_59 : decode cX3_tell 59 = .ok (.iload_n 1, 1) := by decide +kernel
theorem dX3_tell_60 : decode cX3_tell 60 = .ok (.invokevirtual 60, 3) := by decide +kernel
theorem dX3_tell_63 : decode cX3_tell 63 = .ok (.ifCond .eq 14, 3) := by decide +kernel
theorem dX3_tell_66 : decode cX3_tell 66 = .ok (.aload_n 0, 1) := by decide +kernel
theorem dX3_tell_67 : decode cX3_tell 67 = .ok (.iload_n 3, 1) := by decide +kernel
theorem dX3_tell_68 : decode cX3_tell 68 = .ok (.iload_n 1, 1) := by decide +kernel
theorem dX3_tell_69 : decode cX3_tell 69 = .ok (.iload 4, 2) := by decide +kernel
theorem dX3_tell_71 : decode cX3_tell 71 = .ok (.invokevirtual 64, 3) := by decide +kernel
theorem dX3_tell_74 : decode cX3_tell 74 = .ok (.goto 4, 3) := by decide +kernel
theorem dX3_tell_77 : decode cX3_tell 77 = .ok (.iconst (-1), 1) := by decide +kernel
theorem dX3_tell_78 : decode cX3_tell 78 = .ok (.istore 6, 2) := by decide +kernel
theorem dX3_tell_80 : decode cX3_tell 80 = .ok (.iload 6, 2) := by decide +kernel
theorem dX3_tell_82 : decode cX3_tell 82 = .ok (.iconst (-1), 1) := by decide +kernel
theorem dX3_tell_83 : decode cX3_tell 83 = .ok (.if_icmp .ne 31, 3) := by decide +kernel
theorem dX3_tell_86 : decode cX3_tell 86 = .ok (.aload_n 0, 1) := by decide +kernel
theorem dX3_tell_87 : decode cX3_tell 87 = .ok (.aload_n 0, 1) := by decide +kernel
theorem dX3_tell_88 : decode cX3_tell 88 = .ok (.getfield 9, 3) := by decide +kernel
theorem dX3_tell_91 : decode cX3_tell 91 = .ok (.iload_n 3, 1) := by decide +kernel
theorem dX3_tell_92 : decode cX3_tell 92 = .ok (.invokevirtual 68, 3) := by decide +kernel
theorem dX3_tell_95 : decode cX3_tell 95 = .ok (.invokevirtual 72, 3) := by decide +kernel
theorem dX3_tell_98 : decode cX3_tell 98 = .ok (.aload_n 0, 1) := by decide +kernel
theorem dX3_tell_99 : decode cX3_tell 99 = .ok (.iload 4, 2) := by decide +kernel
theorem dX3_tell_101 : decode cX3_tell 101 = .ok (.iload_n 3, 1) := by decide +kernel
theorem dX3_tell_102 : decode cX3_tell 102 = .ok (.iload_n 1, 1) := by decide +kernel
theorem dX3_tell_103 : decode cX3_tell 103 = .ok (.invokevirtual 76, 3) := by decide +kernel
theorem dX3_tell_106 : decode cX3_tell 106 = .ok (.istore 4, 2) := by decide +kernel
theorem dX3_tell_108 : decode cX3_tell 108 = .ok (.iinc 3 1, 3) := by decide +kernel
theorem dX3_tell_111 : decode cX3_tell 111 = .ok (.goto 24, 3) := by decide +kernel
theorem dX3_tell_114 : decode cX3_tell 114 = .ok (.aload_n 0, 1) := by decide +kernel
theorem dX3_tell_115 : decode cX3_tell 115 = .ok (.iload 6, 2) := by decide +kernel
theorem dX3_tell_117 : decode cX3_tell 117 = .ok (.invokevirtual 79, 3) := by decide +kernel
theorem dX3_tell_120 : decode cX3_tell 120 = .ok (.iload_n 3, 1) := by decide +kernel
theorem dX3_tell_121 : decode cX3_tell 121 = .ok (.iload_n 1, 1) := by decide +kernel
theorem dX3_tell_122 : decode cX3_tell 122 = .ok (.iadd, 1) := by decide +kernel
theorem dX3_tell_123 : decode cX3_tell 123 = .ok (.istore_n 3, 1) := by decide +kernel
theorem dX3_tell_124 : decode cX3_tell 124 = .ok (.aload_n 0, 1) := by decide +kernel
theorem dX3_tell_125 : decode cX3_tell 125 = .ok (.getfield 9, 3) := by decide +kernel
theorem dX3_tell_128 : decode cX3_tell 128 = .ok (.iload_n 3, 1) := by decide +kernel
theorem dX3_tell_129 : decode cX3_tell 129 = .ok (.iload_n 1, 1) := by decide +kernel
theorem dX3_tell_130 : decode cX3_tell 130 = .ok (.invokevirtual 56, 3) := by decide +kernel
theorem dX3_tell_133 : decode cX3_tell 133 = .ok (.istore 4, 2) := by decide +kernel
theorem dX3_tell_135 : decode cX3_tell 135 = .ok (.iinc 5 1, 3) := by decide +kernel
theorem dX3_tell_138 : decode cX3_tell 138 = .ok (.goto (-95), 3) := by decide +kernel
theorem dX3_tell_141 : decode cX3_tell 141 = .ok (.return_, 1) := by decide +kernel
theorem dX3_startAnew_0 : decode cX3_startAnew 0 = .ok (.aload_n 0, 1) := by decide +kernel
theorem dX3_startAnew_1 : decode cX3_startAnew 1 = .ok (.iconst 0, 1) := by decide +kernel
theorem dX3_startAnew_2 : decode cX3_startAnew 2 = .ok (.putfield 29, 3) := by decide +kernel
theorem dX3_startAnew_5 : decode cX3_startAnew 5 = .ok (.aload_n 0, 1) := by decide +kernel
theorem dX3_startAnew_6 : decode cX3_startAnew 6 = .ok (.iconst 0, 1) := by decide +kernel
theorem dX3_startAnew_7 : decode cX3_startAnew 7 = .ok (.putfield 33, 3) := by decide +kernel
theorem dX3_startAnew_10 : decode cX3_startAnew 10 = .ok (.aload_n 0, 1) := by decide +kernel
theorem dX3_startAnew_11 : decode cX3_startAnew 11 = .ok (.iconst 0, 1) := by decide +kernel
theorem dX3_startAnew_12 : decode cX3_startAnew 12 = .ok (.putfield 36, 3) := by decide +kernel
theorem dX3_startAnew_15 : decode cX3_startAnew 15 = .ok (.aload_n 0, 1) := by decide +kernel
theorem dX3_startAnew_16 : decode cX3_startAnew 16 = .ok (.iconst 0, 1) := by decide +kernel
theorem dX3_startAnew_17 : decode cX3_startAnew 17 = .ok (.putfield 39, 3) := by decide +kernel
theorem dX3_startAnew_20 : decode cX3_startAnew 20 = .ok (.aload_n 0, 1) := by decide +kernel
theorem dX3_startAnew_21 : decode cX3_startAnew 21 = .ok (.iconst 0, 1) := by decide +kernel
theorem dX3_startAnew_22 : decode cX3_startAnew 22 = .ok (.putfield 82, 3) := by decide +kernel
theorem dX3_startAnew_25 : decode cX3_startAnew 25 = .ok (.aload_n 0, 1) := by decide +kernel
theorem dX3_startAnew_26 : decode cX3_startAnew 26 = .ok (.iconst 0, 1) := by decide +kernel
theorem dX3_startAnew_27 : decode cX3_startAnew 27 = .ok (.putfield 85, 3) := by decide +kernel
theorem dX3_startAnew_30 : decode cX3_startAnew 30 = .ok (.aload_n 0, 1) := by decide +kernel
theorem dX3_startAnew_31 : decode cX3_startAnew 31 = .ok (.iconst (-1), 1) := by decide +kernel
theorem dX3_startAnew_32 : decode cX3_startAnew 32 = .ok (.putfield 88, 3) := by decide +kernel
theorem dX3_startAnew_35 : decode cX3_startAnew 35 = .ok (.return_, 1) := by decide +kernel
theorem dX3_blockFor_0 : decode cX3_blockFor 0 = .ok (.aload_n 0, 1) := by decide +kernel
theorem dX3_blockFor_1 : decode cX3_blockFor 1 = .ok (.getfield 18, 3) := by decide +kernel
theorem dX3_blockFor_4 : decode cX3_blockFor 4 = .ok (.iload_n 3, 1) := by decide +kernel
theorem dX3_blockFor_5 : decode cX3_blockFor 5 = .ok (.invokevirtual 91, 3) := by decide +kernel
theorem dX3_blockFor_8 : decode cX3_blockFor 8 = .ok (.ifCond .ne 5, 3) := by decide +kernel
theorem dX3_blockFor_11 : decode cX3_blockFor 11 = .ok (.iconst (-1), 1) := by decide +kernel
theorem dX3_blockFor_12 : decode cX3_blockFor 12 = .ok (.ireturn, 1) := by decide +kernel
theorem dX3_blockFor_13 : decode cX3_blockFor 13 = .ok (.aload_n 0, 1) := by decide +kernel
theorem dX3_blockFor_14 : decode cX3_blockFor 14 = .ok (.getfield 22, 3) := by decide +kernel
theorem dX3_blockFor_17 : decode cX3_blockFor 17 = .ok (.aload_n 0, 1) := by decide +kernel
theorem dX3_blockFor_18 : decode cX3_blockFor 18 = .ok (.getfield 9, 3) := by decide +kernel
theorem dX3_blockFor_21 : decode cX3_blockFor 21 = .ok (.iload_n 1, 1) := by decide +kernel
theorem dX3_blockFor_22 : decode cX3_blockFor 22 = .ok (.iload_n 2, 1) := by decide +kernel
theorem dX3_blockFor_23 : decode cX3_blockFor 23 = .ok (.invokevirtual 95, 3) := by decide +kernel
theorem dX3_blockFor_26 : decode cX3_blockFor 26 = .ok (.aload_n 0, 1) := by decide +kernel
theorem dX3_blockFor_27 : decode cX3_blockFor 27 = .ok (.getfield 88, 3) := by decide +kernel
theorem dX3_blockFor_30 : decode cX3_blockFor 30 = .ok (.iconst (-1), 1) := by decide +kernel
theorem dX3_blockFor_31 : decode cX3_blockFor 31 = .ok (.if_icmp .ne 7, 3) := by decide +kernel
theorem dX3_blockFor_34 : decode cX3_blockFor 34 = .ok (.iconst (-1), 1) := by decide +kernel
theorem dX3_blockFor_35 : decode cX3_blockFor 35 = .ok (.goto 9, 3) := by decide +kernel
theorem dX3_blockFor_38 : decode cX3_blockFor 38 = .ok (.aload_n 0, 1) := by decide +kernel
theorem dX3_blockFor_39 : decode cX3_blockFor 39 = .ok (.getfield 88, 3) := by decide +kernel
theorem dX3_blockFor_42 : decode cX3_blockFor 42 = .ok (.iconst 1, 1) := by decide +kernel
theorem dX3_blockFor_43 : decode cX3_blockFor 43 = .ok (.iadd, 1) := by decide +kernel
theorem dX3_blockFor_44 : decode cX3_blockFor 44 = .ok (.istore 4, 2) := by decide +kernel
theorem dX3_blockFor_46 : decode cX3_blockFor 46 = .ok (.aload_n 0, 1) := by decide +kernel
theorem dX3_blockFor_47 : decode cX3_blockFor 47 = .ok (.getfield 18, 3) := by decide +kernel
theorem dX3_blockFor_50 : decode cX3_blockFor 50 = .ok (.iload_n 3, 1) := by decide +kernel
theorem dX3_blockFor_51 : decode cX3_blockFor 51 = .ok (.aload_n 0, 1) := by decide +kernel
theorem dX3_blockFor_52 : decode cX3_blockFor 52 = .ok (.getfield 22, 3) := by decide +kernel
theorem dX3_blockFor_55 : decode cX3_blockFor 55 = .ok (.iload 4, 2) := by decide +kernel
theorem dX3_blockFor_57 : decode cX3_blockFor 57 = .ok (.invokevirtual 101, 3) := by decide +kernel
theorem dX3_blockFor_60 : decode cX3_blockFor 60 = .ok (.istore 5, 2) := by decide +kernel
theorem dX3_blockFor_62 : decode cX3_blockFor 62 = .ok (.iload 5, 2) := by decide +kernel
theorem dX3_blockFor_64 : decode cX3_blockFor 64 = .ok (.iconst (-1), 1) := by decide +kernel
theorem dX3_blockFor_65 : decode cX3_blockFor 65 = .ok (.if_icmp .ne 13, 3) := by decide +kernel
theorem dX3_blockFor_68 : decode cX3_blockFor 68 = .ok (.aload_n 0, 1) := by decide +kernel
theorem dX3_blockFor_69 : decode cX3_blockFor 69 = .ok (.dup, 1) := by decide +kernel
theorem dX3_blockFor_70 : decode cX3_blockFor 70 = .ok (.getfield 39, 3) := by decide +kernel
theorem dX3_blockFor_73 : decode cX3_blockFor 73 = .ok (.iconst 1, 1) := by decide +kernel
theorem dX3_blockFor_74 : decode cX3_blockFor 74 = .ok (.iadd, 1) := by decide +kernel
theorem dX3_blockFor_75 : decode cX3_blockFor 75 = .ok (.putfield 39, 3) := by decide +kernel
theorem dX3_blockFor_78 : decode cX3_blockFor 78 = .ok (.iload 5, 2) := by decide +kernel
theorem dX3_blockFor_80 : decode cX3_blockFor 80 = .ok (.ireturn, 1) := by decide +kernel
theorem dX3_rolled_0 : decode cX3_rolled 0 = .ok (.aload_n 0, 1) := by decide +kernel
theorem dX3_rolled_1 : decode cX3_rolled 1 = .ok (.getfield 9, 3) := by decide +kernel
theorem dX3_rolled_4 : decode cX3_rolled 4 = .ok (.iload_n 2, 1) := by decide +kernel
theorem dX3_rolled_5 : decode cX3_rolled 5 = .ok (.iload_n 3, 1) := by decide +kernel
theorem dX3_rolled_6 : decode cX3_rolled 6 = .ok (.iconst 1, 1) := by decide +kernel
theorem dX3_rolled_7 : decode cX3_rolled 7 = .ok (.iadd, 1) := by decide +kernel
theorem dX3_rolled_8 : decode cX3_rolled 8 = .ok (.invokevirtual 60, 3) := by decide +kernel
theorem dX3_rolled_11 : decode cX3_rolled 11 = .ok (.ifCond .ne 5, 3) := by decide +kernel
theorem dX3_rolled_14 : decode cX3_rolled 14 = .ok (.iconst 0, 1) := by decide +kernel
theorem dX3_rolled_15 : decode cX3_rolled 15 = .ok (.ireturn, 1) := by decide +kernel
theorem dX3_rolled_16 : decode cX3_rolled 16 = .ok (.aload_n 0, 1) := by decide +kernel
theorem dX3_rolled_17 : decode cX3_rolled 17 = .ok (.getfield 9, 3) := by decide +kernel
theorem dX3_rolled_20 : decode cX3_rolled 20 = .ok (.iload_n 2, 1) := by decide +kernel
theorem dX3_rolled_21 : decode cX3_rolled 21 = .ok (.invokevirtual 68, 3) := by decide +kernel
theorem dX3_rolled_24 : decode cX3_rolled 24 = .ok (.istore 4, 2) := by decide +kernel
theorem dX3_rolled_26 : decode cX3_rolled 26 = .ok (.iload_n 1, 1) := by decide +kernel
theorem dX3_rolled_27 : decode cX3_rolled 27 = .ok (.ldc 105, 2) := by decide +kernel
theorem dX3_rolled_29 : decode cX3_rolled 29 = .ok (.iand, 1) := by decide +kernel
theorem dX3_rolled_30 : decode cX3_rolled 30 = .ok (.iload 4, 2) := by decide +kernel
theorem dX3_rolled_32 : decode cX3_rolled 32 = .ok (.isub, 1) := by decide +kernel
theorem dX3_rolled_33 : decode cX3_rolled 33 = .ok (.aload_n 0, 1) := by decide +kernel
theorem dX3_rolled_34 : decode cX3_rolled 34 = .ok (.getfield 9, 3) := by decide +kernel
theorem dX3_rolled_37 : decode cX3_rolled 37 = .ok (.iload_n 2, 1) := by decide +kernel
theorem dX3_rolled_38 : decode cX3_rolled 38 = .ok (.iload_n 3, 1) := by decide +kernel
theorem dX3_rolled_39 : decode cX3_rolled 39 = .ok (.iadd, 1) := by decide +kernel
theorem dX3_rolled_40 : decode cX3_rolled 40 = .ok (.invokevirtual 68, 3) := by decide +kernel
theorem dX3_rolled_43 : decode cX3_rolled 43 = .ok (.iadd, 1) := by decide +kernel
theorem dX3_rolled_44 : decode cX3_rolled 44 = .ok (.istore 5, 2) := by decide +kernel
theorem dX3_rolled_46 : decode cX3_rolled 46 = .ok (.iload_n 1, 1) := by decide +kernel
theorem dX3_rolled_47 : decode cX3_rolled 47 = .ok (.bipush 16, 2) := by decide +kernel
theorem dX3_rolled_49 : decode cX3_rolled 49 = .ok (.iushr, 1) := by decide +kernel
theorem dX3_rolled_50 : decode cX3_rolled 50 = .ok (.iload_n 3, 1) := by decide +kernel
theorem dX3_rolled_51 : decode cX3_rolled 51 = .ok (.iload 4, 2) := by decide +kernel
theorem dX3_rolled_53 : decode cX3_rolled 53 = .ok (.imul, 1) := by decide +kernel
theorem dX3_rolled_54 : decode cX3_rolled 54 = .ok (.isub, 1) := by decide +kernel
theorem dX3_rolled_55 : decode cX3_rolled 55 = .ok (.iload 5, 2) := by decide +kernel
theorem dX3_rolled_57 : decode cX3_rolled 57 = .ok (.iadd, 1) := by decide +kernel
theorem dX3_rolled_58 : decode cX3_rolled 58 = .ok (.istore 6, 2) := by decide +kernel
theorem dX3_rolled_60 : decode cX3_rolled 60 = .ok (.iload 5, 2) := by decide +kernel
theorem dX3_rolled_62 : decode cX3_rolled 62 = .ok (.iload 6, 2) := by decide +kernel
theorem dX3_rolled_64 : decode cX3_rolled 64 = .ok (.invokestatic 106, 3) := by decide +kernel
theorem dX3_rolled_67 : decode cX3_rolled 67 = .ok (.ireturn, 1) := by decide +kernel
theorem dX3_writeLiteral_0 : decode cX3_writeLiteral 0 = .ok (.aload_n 0, 1) := by decide +kernel
theorem dX3_writeLiteral_1 : decode cX3_writeLiteral 1 = .ok (.getfield 88, 3) := by decide +kernel
theorem dX3_writeLiteral_4 : decode cX3_writeLiteral 4 = .ok (.iconst (-1), 1) := by decide +kernel
theorem dX3_writeLiteral_5 : decode cX3_writeLiteral 5 = .ok (.if_icmp .ne 24, 3) := by decide +kernel
theorem dX3_writeLiteral_8 : decode cX3_writeLiteral 8 = .ok (.aload_n 0, 1) := by decide +kernel
theorem dX3_writeLiteral_9 : decode cX3_writeLiteral 9 = .ok (.getfield 82, 3) := by decide +kernel
theorem dX3_writeLiteral_12 : decode cX3_writeLiteral 12 = .ok (.ifCond .le 17, 3) := by decide +kernel
theorem dX3_writeLiteral_15 : decode cX3_writeLiteral 15 = .ok (.aload_n 0, 1) := by decide +kernel
theorem dX3_writeLiteral_16 : decode cX3_writeLiteral 16 = .ok (.getfield 82, 3) := by decide +kernel
theorem dX3_writeLiteral_19 : decode cX3_writeLiteral 19 = .ok (.sipush 255, 3) := by decide +kernel
theorem dX3_writeLiteral_22 : decode cX3_writeLiteral 22 = .ok (.if_icmp .ge 7, 3) := by decide +kernel
theorem dX3_writeLiteral_25 : decode cX3_writeLiteral 25 = .ok (.iconst 1, 1) := by decide +kernel
theorem dX3_writeLiteral_26 : decode cX3_writeLiteral 26 = .ok (.goto 4, 3) := by decide +kernel
theorem dX3_writeLiteral_29 : decode cX3_writeLiteral 29 = .ok (.iconst 0, 1) := by decide +kernel
theorem dX3_writeLiteral_30 : decode cX3_writeLiteral 30 = .ok (.istore_n 2, 1) := by decide +kernel
theorem dX3_writeLiteral_31 : decode cX3_writeLiteral 31 = .ok (.iload_n 2, 1) := by decide +kernel
theorem dX3_writeLiteral_32 : decode cX3_writeLiteral 32 = .ok (.ifCond .eq 10, 3) := by decide +kernel
theorem dX3_writeLiteral_35 : decode cX3_writeLiteral 35 = .ok (.aload_n 0, 1) := by decide +kernel
theorem dX3_writeLiteral_36 : decode cX3_writeLiteral 36 = .ok (.invokevirtual 109, 3) := by decide +kernel
theorem dX3_writeLiteral_39 : decode cX3_writeLiteral 39 = .ok (.goto 16, 3) := by decide +kernel
theorem dX3_writeLiteral_42 : decode cX3_writeLiteral 42 = .ok (.aload_n 0, 1) := by decide +kernel
theorem dX3_writeLiteral_43 : decode cX3_writeLiteral 43 = .ok (.getfield 15, 3) := by decide +kernel
theorem dX3_writeLiteral_46 : decode cX3_writeLiteral 46 = .ok (.iconst 0, 1) := by decide +kernel
theorem dX3_writeLiteral_47 : decode cX3_writeLiteral 47 = .ok (.invokevirtual 112, 3) := by decide +kernel
theorem dX3_writeLiteral_50 : decode cX3_writeLiteral 50 = .ok (.pop, 1) := by decide +kernel
theorem dX3_writeLiteral_51 : decode cX3_writeLiteral 51 = .ok (.aload_n 0, 1) := by decide +kernel
theorem dX3_writeLiteral_52 : decode cX3_writeLiteral 52 = .ok (.invokevirtual 115, 3) := by decide +kernel
theorem dX3_writeLiteral_55 : decode cX3_writeLiteral 55 = .ok (.aload_n 0, 1) := by decide +kernel
theorem dX3_writeLiteral_56 : decode cX3_writeLiteral 56 = .ok (.getfield 15, 3) := by decide +kernel
theorem dX3_writeLiteral_59 : decode cX3_writeLiteral 59 = .ok (.iload_n 1, 1) := by decide +kernel
theorem dX3_writeLiteral_60 : decode cX3_writeLiteral 60 = .ok (.invokevirtual 112, 3) := by decide +kernel
theorem dX3_writeLiteral_63 : decode cX3_writeLiteral 63 = .ok (.pop, 1) := by decide +kernel
theorem dX3_writeLiteral_64 : decode cX3_writeLiteral 64 = .ok (.aload_n 0, 1) := by decide +kernel
theorem dX3_writeLiteral_65 : decode cX3_writeLiteral 65 = .ok (.dup, 1) := by decide +kernel
theorem dX3_writeLiteral_66 : decode cX3_writeLiteral 66 = .ok (.getfield 33, 3) := by decide +kernel
theorem dX3_writeLiteral_69 : decode cX3_writeLiteral 69 = .ok (.iconst 1, 1) := by decide +kernel
theorem dX3_writeLiteral_70 : decode cX3_writeLiteral 70 = .ok (.iadd, 1) := by decide +kernel
theorem dX3_writeLiteral_71 : decode cX3_writeLiteral 71 = .ok (.putfield 33, 3) := by decide +kernel
theorem dX3_writeLiteral_74 : decode cX3_writeLiteral 74 = .ok (.aload_n 0, 1) := by decide +kernel
theorem dX3_writeLiteral_75 : decode cX3_writeLiteral 75 = .ok (.iconst (-1), 1) := by decide +kernel
theorem dX3_writeLiteral_76 : decode cX3_writeLiteral 76 = .ok (.putfield 88, 3) := by decide +kernel
theorem dX3_writeLiteral_79 : decode cX3_writeLiteral 79 = .ok (.return_, 1) := by decide +kernel
theorem dX3_writeReference_0 : decode cX3_writeReference 0 = .ok (.aload_n 0, 1) := by decide +kernel
theorem dX3_writeReference_1 : decode cX3_writeReference 1 = .ok (.getfield 88, 3) := by decide +kernel
theorem dX3_writeReference_4 : decode cX3_writeReference 4 = .ok (.iconst (-1), 1) := by decide +kernel
theorem dX3_writeReference_5 : decode cX3_writeReference 5 = .ok (.if_icmp .eq 27, 3) := by decide +kernel
theorem dX3_writeReference_8 : decode cX3_writeReference 8 = .ok (.iload_n 1, 1) := by decide +kernel
theorem dX3_writeReference_9 : decode cX3_writeReference 9 = .ok (.aload_n 0, 1) := by decide +kernel
theorem dX3_writeReference_10 : decode cX3_writeReference 10 = .ok (.getfield 88, 3) := by decide +kernel
theorem dX3_writeReference_13 : decode cX3_writeReference 13 = .ok (.iconst 1, 1) := by decide +kernel
theorem dX3_writeReference_14 : decode cX3_writeReference 14 = .ok (.iadd, 1) := by decide +kernel
theorem dX3_writeReference_15 : decode cX3_writeReference 15 = .ok (.if_icmp .ne 17, 3) := by decide +kernel
theorem dX3_writeReference_18 : decode cX3_writeReference 18 = .ok (.aload_n 0, 1) := by decide +kernel
theorem dX3_writeReference_19 : decode cX3_writeReference 19 = .ok (.getfield 82, 3) := by decide +kernel
theorem dX3_writeReference_22 : decode cX3_writeReference 22 = .ok (.sipush 255, 3) := by decide +kernel
theorem dX3_writeReference_25 : decode cX3_writeReference 25 = .ok (.if_icmp .ge 7, 3) := by decide +kernel
theorem dX3_writeReference_28 : decode cX3_writeReference 28 = .ok (.iconst 1, 1) := by decide +kernel
theorem dX3_writeReference_29 : decode cX3_writeReference 29 = .ok (.goto 4, 3) := by decide +kernel
theorem dX3_writeReference_32 : decode cX3_writeReference 32 = .ok (.iconst 0, 1) := by decide +kernel
theorem dX3_writeReference_33 : decode cX3_writeReference 33 = .ok (.istore_n 2, 1) := by decide +kernel
theorem dX3_writeReference_34 : decode cX3_writeReference 34 = .ok (.iload_n 2, 1) := by decide +kernel
theorem dX3_writeReference_35 : decode cX3_writeReference 35 = .ok (.ifCond .eq 10, 3) := by decide +kernel
theorem dX3_writeReference_38 : decode cX3_writeReference 38 = .ok (.aload_n 0, 1) := by decide +kernel
theorem dX3_writeReference_39 : decode cX3_writeReference 39 = .ok (.invokevirtual 109, 3) := by decide +kernel
theorem dX3_writeReference_42 : decode cX3_writeReference 42 = .ok (.goto 41, 3) := by decide +kernel
theorem dX3_writeReference_45 : decode cX3_writeReference 45 = .ok (.aload_n 0, 1) := by decide +kernel
theorem dX3_writeReference_46 : decode cX3_writeReference 46 = .ok (.getfield 15, 3) := by decide +kernel
theorem dX3_writeReference_49 : decode cX3_writeReference 49 = .ok (.iconst 1, 1) := by decide +kernel
theorem dX3_writeReference_50 : decode cX3_writeReference 50 = .ok (.invokevirtual 112, 3) := by decide +kernel
theorem dX3_writeReference_53 : decode cX3_writeReference 53 = .ok (.pop, 1) := by decide +kernel
theorem dX3_writeReference_54 : decode cX3_writeReference 54 = .ok (.aload_n 0, 1) := by decide +kernel
theorem dX3_writeReference_55 : decode cX3_writeReference 55 = .ok (.getfield 15, 3) := by decide +kernel
theorem dX3_writeReference_58 : decode cX3_writeReference 58 = .ok (.iload_n 1, 1) := by decide +kernel
theorem dX3_writeReference_59 : decode cX3_writeReference 59 = .ok (.bipush 8, 2) := by decide +kernel
theorem dX3_writeReference_61 : decode cX3_writeReference 61 = .ok (.ishr, 1) := by decide +kernel
theorem dX3_writeReference_62 : decode cX3_writeReference 62 = .ok (.invokevirtual 112, 3) := by decide +kernel
theorem dX3_writeReference_65 : decode cX3_writeReference 65 = .ok (.pop, 1) := by decide +kernel
theorem dX3_writeReference_66 : decode cX3_writeReference 66 = .ok (.aload_n 0, 1) := by decide +kernel
theorem dX3_writeReference_67 : decode cX3_writeReference 67 = .ok (.getfield 15, 3) := by decide +kernel
theorem dX3_writeReference_70 : decode cX3_writeReference 70 = .ok (.iload_n 1, 1) := by decide +kernel
theorem dX3_writeReference_71 : decode cX3_writeReference 71 = .ok (.sipush 255, 3) := by decide +kernel
theorem dX3_writeReference_74 : decode cX3_writeReference 74 = .ok (.iand, 1) := by decide +kernel
theorem dX3_writeReference_75 : decode cX3_writeReference 75 = .ok (.invokevirtual 112, 3) := by decide +kernel
theorem dX3_writeReference_78 : decode cX3_writeReference 78 = .ok (.pop, 1) := by decide +kernel
theorem dX3_writeReference_79 : decode cX3_writeReference 79 = .ok (.aload_n 0, 1) := by decide +kernel
theorem dX3_writeReference_80 : decode cX3_writeReference 80 = .ok (.invokevirtual 115, 3) := by decide +kernel
theorem dX3_writeReference_83 : decode cX3_writeReference 83 = .ok (.aload_n 0, 1) := by decide +kernel
theorem dX3_writeReference_84 : decode cX3_writeReference 84 = .ok (.dup, 1) := by decide +kernel
theorem dX3_writeReference_85 : decode cX3_writeReference 85 = .ok (.getfield 29, 3) := by decide +kernel
theorem dX3_writeReference_88 : decode cX3_writeReference 88 = .ok (.iconst 1, 1) := by decide +kernel
theorem dX3_writeReference_89 : decode cX3_writeReference 89 = .ok (.iadd, 1) := by decide +kernel
theorem dX3_writeReference_90 : decode cX3_writeReference 90 = .ok (.putfield 29, 3) := by decide +kernel
theorem dX3_writeReference_93 : decode cX3_writeReference 93 = .ok (.aload_n 0, 1) := by decide +kernel
theorem dX3_writeReference_94 : decode cX3_writeReference 94 = .ok (.iload_n 1, 1) := by decide +kernel
theorem dX3_writeReference_95 : decode cX3_writeReference 95 = .ok (.putfield 88, 3) := by decide +kernel
theorem dX3_writeReference_98 : decode cX3_writeReference 98 = .ok (.return_, 1) := by decide +kernel
theorem dX3_openRow_0 : decode cX3_openRow 0 = .ok (.aload_n 0, 1) := by decide +kernel
theorem dX3_openRow_1 : decode cX3_openRow 1 = .ok (.iconst 1, 1) := by decide +kernel
theorem dX3_openRow_2 : decode cX3_openRow 2 = .ok (.putfield 82, 3) := by decide +kernel
theorem dX3_openRow_5 : decode cX3_openRow 5 = .ok (.aload_n 0, 1) := by decide +kernel
theorem dX3_openRow_6 : decode cX3_openRow 6 = .ok (.aload_n 0, 1) := by decide +kernel
theorem dX3_openRow_7 : decode cX3_openRow 7 = .ok (.getfield 15, 3) := by decide +kernel
theorem dX3_openRow_10 : decode cX3_openRow 10 = .ok (.invokevirtual 53, 3) := by decide +kernel
theorem dX3_openRow_13 : decode cX3_openRow 13 = .ok (.putfield 85, 3) := by decide +kernel
theorem dX3_openRow_16 : decode cX3_openRow 16 = .ok (.aload_n 0, 1) := by decide +kernel
theorem dX3_openRow_17 : decode cX3_openRow 17 = .ok (.getfield 15, 3) := by decide +kernel
theorem dX3_openRow_20 : decode cX3_openRow 20 = .ok (.aload_n 0, 1) := by decide +kernel
theorem dX3_openRow_21 : decode cX3_openRow 21 = .ok (.getfield 82, 3) := by decide +kernel
theorem dX3_openRow_24 : decode cX3_openRow 24 = .ok (.invokevirtual 112, 3) := by decide +kernel
theorem dX3_openRow_27 : decode cX3_openRow 27 = .ok (.pop, 1) := by decide +kernel
theorem dX3_openRow_28 : decode cX3_openRow 28 = .ok (.aload_n 0, 1) := by decide +kernel
theorem dX3_openRow_29 : decode cX3_openRow 29 = .ok (.dup, 1) := by decide +kernel
theorem dX3_openRow_30 : decode cX3_openRow 30 = .ok (.getfield 36, 3) := by decide +kernel
theorem dX3_openRow_33 : decode cX3_openRow 33 = .ok (.iconst 1, 1) := by decide +kernel
theorem dX3_openRow_34 : decode cX3_openRow 34 = .ok (.iadd, 1) := by decide +kernel
theorem dX3_openRow_35 : decode cX3_openRow 35 = .ok (.putfield 36, 3) := by decide +kernel
theorem dX3_openRow_38 : decode cX3_openRow 38 = .ok (.return_, 1) := by decide +kernel
theorem dX3_growRow_0 : decode cX3_growRow 0 = .ok (.aload_n 0, 1) := by decide +kernel
theorem dX3_growRow_1 : decode cX3_growRow 1 = .ok (.dup, 1) := by decide +kernel
theorem dX3_growRow_2 : decode cX3_growRow 2 = .ok (.getfield 82, 3) := by decide +kernel
theorem dX3_growRow_5 : decode cX3_growRow 5 = .ok (.iconst 1, 1) := by decide +kernel
theorem dX3_growRow_6 : decode cX3_growRow 6 = .ok (.iadd, 1) := by decide +kernel
theorem dX3_growRow_7 : decode cX3_growRow 7 = .ok (.putfield 82, 3) := by decide +kernel
theorem dX3_growRow_10 : decode cX3_growRow 10 = .ok (.aload_n 0, 1) := by decide +kernel
theorem dX3_growRow_11 : decode cX3_growRow 11 = .ok (.getfield 15, 3) := by decide +kernel
theorem dX3_growRow_14 : decode cX3_growRow 14 = .ok (.aload_n 0, 1) := by decide +kernel
theorem dX3_growRow_15 : decode cX3_growRow 15 = .ok (.getfield 85, 3) := by decide +kernel
theorem dX3_growRow_18 : decode cX3_growRow 18 = .ok (.aload_n 0, 1) := by decide +kernel
theorem dX3_growRow_19 : decode cX3_growRow 19 = .ok (.getfield 82, 3) := by decide +kernel
theorem dX3_growRow_22 : decode cX3_growRow 22 = .ok (.invokevirtual 118, 3) := by decide +kernel
theorem dX3_growRow_25 : decode cX3_growRow 25 = .ok (.pop, 1) := by decide +kernel
theorem dX3_growRow_26 : decode cX3_growRow 26 = .ok (.return_, 1) := by decide +kernel
end
section
theorem dX4_init_0 : decode cX4_init 0 = .ok (.aload_n 0, 1) := by decide +kernel
theorem dX4_init_1 : decode cX4_init 1 = .ok (.invokespecial 3, 3) := by decide +kernel
theorem dX4_init_4 : decode cX4_init 4 = .ok (.aload_n 0, 1) := by decide +kernel
theorem dX4_init_5 : decode cX4_init 5 = .ok (.new 9, 3) := by decide +kernel
theorem dX4_init_8 : decode cX4_init 8 = .ok (.dup, 1) := by decide +kernel
theorem dX4_init_9 : decode cX4_init 9 = .ok (.sipush 2000, 3) := by decide +kernel
theorem dX4_init_12 : decode cX4_init 12 = .ok (.invokespecial 11, 3) := by decide +kernel
theorem dX4_init_15 : decode cX4_init 15 = .ok (.putfield 14, 3) := by decide +kernel
theorem dX4_init_18 : decode cX4_init 18 = .ok (.aload_n 0, 1) := by decide +kernel
theorem dX4_init_19 : decode cX4_init 19 = .ok (.new 9, 3) := by decide +kernel
theorem dX4_init_22 : decode cX4_init 22 = .ok (.dup, 1) := by decide +kernel
theorem dX4_init_23 : decode cX4_init 23 = .ok (.sipush 2000, 3) := by decide +kernel
theorem dX4_init_26 : decode cX4_init 26 = .ok (.invokespecial 11, 3) := by decide +kernel
theorem dX4_init_29 : decode cX4_init 29 = .ok (.putfield 18, 3) := by decide +kernel
theorem dX4_init_32 : decode cX4_init 32 = .ok (.aload_n 0, 1) := by decide +kernel
theorem dX4_init_33 : decode cX4_init 33 = .ok (.new 9, 3) := by decide +kernel
theorem dX4_init_36 : decode cX4_init 36 = .ok (.dup, 1) := by decide +kernel
theorem dX4_init_37 : decode cX4_init 37 = .ok (.sipush 8000, 3) := by decide +kernel
theorem dX4_init_40 : decode cX4_init 40 = .ok (.invokespecial 11, 3) := by decide +kernel
theorem dX4_init_43 : decode cX4_init 43 = .ok (.putfield 21, 3) := by decide +kernel
theorem dX4_init_46 : decode cX4_init 46 = .ok (.aload_n 0, 1) := by decide +kernel
theorem dX4_init_47 : decode cX4_init 47 = .ok (.new 9, 3) := by decide +kernel
theorem dX4_init_50 : decode cX4_init 50 = .ok (.dup, 1) := by decide +kernel
theorem dX4_init_51 : decode cX4_init 51 = .ok (.sipush 2000, 3) := by decide +kernel
theorem dX4_init_54 : decode cX4_init 54 = .ok (.invokespecial 11, 3) := by decide +kernel
theorem dX4_init_57 : decode cX4_init 57 = .ok (.putfield 24, 3) := by decide +kernel
theorem dX4_init_60 : decode cX4_init 60 = .ok (.aload_n 0, 1) := by decide +kernel
theorem dX4_init_61 : decode cX4_init 61 = .ok (.new 27, 3) := by decide +kernel
theorem dX4_init_64 : decode cX4_init 64 = .ok (.dup, 1) := by decide +kernel
theorem dX4_init_65 : decode cX4_init 65 = .ok (.invokespecial 29, 3) := by decide +kernel
theorem dX4_init_68 : decode cX4_init 68 = .ok (.putfield 30, 3) := by decide +kernel
theorem dX4_init_71 : decode cX4_init 71 = .ok (.aload_n 0, 1) := by decide +kernel
theorem dX4_init_72 : decode cX4_init 72 = .ok (.new 34, 3) := by decide +kernel
theorem dX4_init_75 : decode cX4_init 75 = .ok (.dup, 1) := by decide +kernel
theorem dX4_init_76 : decode cX4_init 76 = .ok (.invokespecial 36, 3) := by decide +kernel
theorem dX4_init_79 : decode cX4_init 79 = .ok (.putfield 37, 3) := by decide +kernel
theorem dX4_init_82 : decode cX4_init 82 = .ok (.aload_n 0, 1) := by decide +kernel
theorem dX4_init_83 : decode cX4_init 83 = .ok (.new 41, 3) := by decide +kernel
theorem dX4_init_86 : decode cX4_init 86 = .ok (.dup, 1) := by decide +kernel
theorem dX4_init_87 : decode cX4_init 87 = .ok (.aload_n 0, 1) := by decide +kernel
theorem dX4_init_88 : decode cX4_init 88 = .ok (.getfield 18, 3) := by decide +kernel
theorem dX4_init_91 : decode cX4_init 91 = .ok (.aload_n 0, 1) := by decide +kernel
theorem dX4_init_92 : decode cX4_init 92 = .ok (.getfield 21, 3) := by decide +kernel
theorem dX4_init_95 : decode cX4_init 95 = .ok (.aload_n 0, 1) := by decide +kernel
theorem dX4_init_96 : decode cX4_init 96 = .ok (.getfield 37, 3) := by decide +kernel
theorem dX4_init_99 : decode cX4_init 99 = .ok (.aload_n 0, 1) := by decide +kernel
theorem dX4_init_100 : decode cX4_init 100 = .ok (.getfield 30, 3) := by decide +kernel
theorem dX4_init_103 : decode cX4_init 103 = .ok (.invokespecial 43, 3) := by decide +kernel
theorem dX4_init_106 : decode cX4_init 106 = .ok (.putfield 46, 3) := by decide +kernel
theorem dX4_init_109 : decode cX4_init 109 = .ok (.aload_n 0, 1) := by decide +kernel
theorem dX4_init_110 : decode cX4_init 110 = .ok (.bipush 16, 2) := by decide +kernel
theorem dX4_init_112 : decode cX4_init 112 = .ok (.putfield 50, 3) := by decide +kernel
theorem dX4_init_115 : decode cX4_init 115 = .ok (.aload_n 0, 1) := by decide +kernel
theorem dX4_init_116 : decode cX4_init 116 = .ok (.bipush 8, 2) := by decide +kernel
theorem dX4_init_118 : decode cX4_init 118 = .ok (.putfield 54, 3) := by decide +kernel
theorem dX4_init_121 : decode cX4_init 121 = .ok (.return_, 1) := by decide +kernel
theorem dX4_feed_0 : decode cX4_feed 0 = .ok (.aload_n 0, 1) := by decide +kernel
theorem dX4_feed_1 : decode cX4_feed 1 = .ok (.iload_n 1, 1) := by decide +kernel
theorem dX4_feed_2 : decode cX4_feed 2 = .ok (.invokevirtual 57, 3) := by decide +kernel
theorem dX4_feed_5 : decode cX4_feed 5 = .ok (.astore_n 3, 1) := by decide +kernel
theorem dX4_feed_6 : decode cX4_feed 6 = .ok (.aload_n 3, 1) := by decide +kernel
theorem dX4_feed_7 : decode cX4_feed 7 = .ok (.ifnull 11, 3) := by decide +kernel
theorem dX4_feed_10 : decode cX4_feed 10 = .ok (.aload_n 3, 1) := by decide +kernel
theorem dX4_feed_11 : decode cX4_feed 11 = .ok (.invokevirtual 61, 3) := by decide +kernel
theorem dX4_feed_14 : decode cX4_feed 14 = .ok (.iconst 4, 1) := by decide +kernel
theorem dX4_feed_15 : decode cX4_feed 15 = .ok (.if_icmp .ge 5, 3) := by decide +kernel
theorem dX4_feed_18 : decode cX4_feed 18 = .ok (.iconst (-1), 1) := by decide +kernel
theorem dX4_feed_19 : decode cX4_feed 19 = .ok (.ireturn, 1) := by decide +kernel
theorem dX4_feed_20 : decode cX4_feed 20 = .ok (.bipush 24, 2) := by decide +kernel
theorem dX4_feed_22 : decode cX4_feed 22 = .ok (.istore 4, 2) := by decide +kernel
theorem dX4_feed_24 : decode cX4_feed 24 = .ok (.iload 4, 2) := by decide +kernel
theorem dX4_feed_26 : decode cX4_feed 26 = .ok (.ifCond .lt 22, 3) := by decide +kernel
theorem dX4_feed_29 : decode cX4_feed 29 = .ok (.aload_n 3, 1) := by decide +kernel
theorem dX4_feed_30 : decode cX4_feed 30 = .ok (.iload_n 2, 1) := by decide +kernel
theorem dX4_feed_31 : decode cX4_feed 31 = .ok (.iload 4, 2) := by decide +kernel
theorem dX4_feed_33 : decode cX4_feed 33 = .ok (.iushr, 1) := by decide +kernel
theorem dX4_feed_34 : decode cX4_feed 34 = .ok (.sipush 255, 3) := by decide +kernel
theorem dX4_feed_37 : decode cX4_feed 37 = .ok (.iand, 1) := by decide +kernel
theorem dX4_feed_38 : decode cX4_feed 38 = .ok (.invokevirtual 65, 3) := by decide +kernel
theorem dX4_feed_41 : decode cX4_feed 41 = .ok (.pop, 1) := by decide +kernel
theorem dX4_feed_42 : decode cX4_feed 42 = .ok (.iinc 4 (-8), 3) := by decide +kernel
theorem dX4_feed_45 : decode cX4_feed 45 = .ok (.goto (-21), 3) := by decide +kernel
theorem dX4_feed_48 : decode cX4_feed 48 = .ok (.aload_n 3, 1) := by decide +kernel
theorem dX4_feed_49 : decode cX4_feed 49 = .ok (.invokevirtual 69, 3) := by decide +kernel
theorem dX4_feed_52 : decode cX4_feed 52 = .ok (.ireturn, 1) := by decide +kernel
theorem dX4_cut_0 : decode cX4_cut 0 = .ok (.aload_n 0, 1) := by decide +kernel
theorem dX4_cut_1 : decode cX4_cut 1 = .ok (.iload_n 1, 1) := by decide +kernel
theorem dX4_cut_2 : decode cX4_cut 2 = .ok (.invokevirtual 57, 3) := by decide +kernel
theorem dX4_cut_5 : decode cX4_cut 5 = .ok (.astore_n 3, 1) := by decide +kernel
theorem dX4_cut_6 : decode cX4_cut 6 = .ok (.aload_n 3, 1) := by decide +kernel
theorem dX4_cut_7 : decode cX4_cut 7 = .ok (.ifnull 15, 3) := by decide +kernel
theorem dX4_cut_10 : decode cX4_cut 10 = .ok (.aload_n 3, 1) := by decide +kernel
theorem dX4_cut_11 : decode cX4_cut 11 = .ok (.iload_n 2, 1) := by decide +kernel
theorem dX4_cut_12 : decode cX4_cut 12 = .ok (.invokevirtual 72, 3) := by decide +kernel
theorem dX4_cut_15 : decode cX4_cut 15 = .ok (.ifCond .eq 7, 3) := by decide +kernel
theorem dX4_cut_18 : decode cX4_cut 18 = .ok (.iconst 1, 1) := by decide +kernel
theorem dX4_cut_19 : decode cX4_cut 19 = .ok (.goto 4, 3) := by decide +kernel
theorem dX4_cut_22 : decode cX4_cut 22 = .ok (.iconst 0, 1) := by decide +kernel
theorem dX4_cut_23 : decode cX4_cut 23 = .ok (.ireturn, 1) := by decide +kernel
theorem dX4_put_0 : decode cX4_put 0 = .ok (.aload_n 0, 1) := by decide +kernel
theorem dX4_put_1 : decode cX4_put 1 = .ok (.iload_n 1, 1) := by decide +kernel
theorem dX4_put_2 : decode cX4_put 2 = .ok (.invokevirtual 57, 3) := by decide +kernel
theorem dX4_put_5 : decode cX4_put 5 = .ok (.astore 4, 2) := by decide +kernel
theorem dX4_put_7 : decode cX4_put 7 = .ok (.aload 4, 2) := by decide +kernel
theorem dX4_put_9 : decode cX4_put 9 = .ok (.ifnull 17, 3) := by decide +kernel
theorem dX4_put_12 : decode cX4_put 12 = .ok (.aload 4, 2) := by decide +kernel
theorem dX4_put_14 : decode cX4_put 14 = .ok (.iload_n 2, 1) := by decide +kernel
theorem dX4_put_15 : decode cX4_put 15 = .ok (.iload_n 3, 1) := by decide +kernel
theorem dX4_put_16 : decode cX4_put 16 = .ok (.invokevirtual 75, 3) := by decide +kernel
theorem dX4_put_19 : decode cX4_put 19 = .ok (.ifCond .eq 7, 3) := by decide +kernel
theorem dX4_put_22 : decode cX4_put 22 = .ok (.iconst 1, 1) := by decide +kernel
theorem dX4_put_23 : decode cX4_put 23 = .ok (.goto 4, 3) := by decide +kernel
theorem dX4_put_26 : decode cX4_put 26 = .ok (.iconst 0, 1) := by decide +kernel
theorem dX4_put_27 : decode cX4_put 27 = .ok (.ireturn, 1) := by decide +kernel
theorem dX4_shape_0 : decode cX4_shape 0 = .ok (.iload_n 1, 1) := by decide +kernel
theorem dX4_shape_1 : decode cX4_shape 1 = .ok (.iconst 1, 1) := by decide +kernel
theorem dX4_shape_2 : decode cX4_shape 2 = .ok (.if_icmp .lt 21, 3) := by decide +kernel
theorem dX4_shape_5 : decode cX4_shape 5 = .ok (.iload_n 1, 1) := by decide +kernel
theorem dX4_shape_6 : decode cX4_shape 6 = .ok (.sipush 256, 3) := by decide +kernel
theorem dX4_shape_9 : decode cX4_shape 9 = .ok (.if_icmp .gt 14, 3) := by decide +kernel
theorem dX4_shape_12 : decode cX4_shape 12 = .ok (.iload_n 2, 1) := by decide +kernel
theorem dX4_shape_13 : decode cX4_shape 13 = .ok (.iconst 1, 1) := by decide +kernel
theorem dX4_shape_14 : decode cX4_shape 14 = .ok (.if_icmp .lt 9, 3) := by decide +kernel
theorem dX4_shape_17 : decode cX4_shape 17 = .ok (.iload_n 2, 1) := by decide +kernel
theorem dX4_shape_18 : decode cX4_shape 18 = .ok (.bipush 16, 2) := by decide +kernel
theorem dX4_shape_20 : decode cX4_shape 20 = .ok (.if_icmp .le 5, 3) := by decide +kernel
theorem dX4_shape_23 : decode cX4_shape 23 = .ok (.iconst 0, 1) := by decide +kernel
theorem dX4_shape_24 : decode cX4_shape 24 = .ok (.ireturn, 1) := by decide +kernel
theorem dX4_shape_25 : decode cX4_shape 25 = .ok (.aload_n 0, 1) := by decide +kernel
theorem dX4_shape_26 : decode cX4_shape 26 = .ok (.iload_n 1, 1) := by decide +kernel
theorem dX4_shape_27 : decode cX4_shape 27 = .ok (.putfield 50, 3) := by decide +kernel
theorem dX4_shape_30 : decode cX4_shape 30 = .ok (.aload_n 0, 1) := by decide +kernel
theorem dX4_shape_31 : decode cX4_shape 31 = .ok (.iload_n 2, 1) := by decide +kernel
theorem dX4_shape_32 : decode cX4_shape 32 = .ok (.putfield 54, 3) := by decide +kernel
theorem dX4_shape_35 : decode cX4_shape 35 = .ok (.iconst 1, 1) := by decide +kernel
theorem dX4_shape_36 : decode cX4_shape 36 = .ok (.ireturn, 1) := by decide +kernel
theorem dX4_sign_0 : decode cX4_sign 0 = .ok (.aload_n 0, 1) := by decide +kernel
theorem dX4_sign_1 : decode cX4_sign 1 = .ok (.getfield 37, 3) := by decide +kernel
theorem dX4_sign_4 : decode cX4_sign 4 = .ok (.aload_n 0, 1) := by decide +kernel
theorem dX4_sign_5 : decode cX4_sign 5 = .ok (.getfield 14, 3) := by decide +kernel
theorem dX4_sign_8 : decode cX4_sign 8 = .ok (.aload_n 0, 1) := by decide +kernel
theorem dX4_sign_9 : decode cX4_sign 9 = .ok (.getfield 50, 3) := by decide +kernel
theorem dX4_sign_12 : decode cX4_sign 12 = .ok (.aload_n 0, 1) := by decide +kernel
theorem dX4_sign_13 : decode cX4_sign 13 = .ok (.getfield 54, 3) := by decide +kernel
theorem dX4_sign_16 : decode cX4_sign 16 = .ok (.aload_n 0, 1) := by decide +kernel
theorem dX4_sign_17 : decode cX4_sign 17 = .ok (.getfield 30, 3) := by decide +kernel
theorem dX4_sign_20 : decode cX4_sign 20 = .ok (.invokevirtual 79, 3) := by decide +kernel
theorem dX4_sign_23 : decode cX4_sign 23 = .ok (.aload_n 0, 1) := by decide +kernel
theorem dX4_sign_24 : decode cX4_sign 24 = .ok (.getfield 37, 3) := by decide +kernel
theorem dX4_sign_27 : decode cX4_sign 27 = .ok (.invokevirtual 83, 3) := by decide +kernel
theorem dX4_sign_30 : decode cX4_sign 30 = .ok (.ireturn, 1) := by decide +kernel
theorem dX4_sum_0 : decode cX4_sum 0 = .ok (.aload_n 0, 1) := by decide +kernel
theorem dX4_sum_1 : decode cX4_sum 1 = .ok (.getfield 37, 3) := by decide +kernel
theorem dX4_sum_4 : decode cX4_sum 4 = .ok (.iload_n 1, 1) := by decide +kernel
theorem dX4_sum_5 : decode cX4_sum 5 = .ok (.invokevirtual 86, 3) := by decide +kernel
theorem dX4_sum_8 : decode cX4_sum 8 = .ok (.ireturn, 1) := by decide +kernel
theorem dX4_digest_0 : decode cX4_digest 0 = .ok (.aload_n 0, 1) := by decide +kernel
theorem dX4_digest_1 : decode cX4_digest 1 = .ok (.getfield 37, 3) := by decide +kernel
theorem dX4_digest_4 : decode cX4_digest 4 = .ok (.iload_n 1, 1) := by decide +kernel
theorem dX4_digest_5 : decode cX4_digest 5 = .ok (.iload_n 2, 1) := by decide +kernel
theorem dX4_digest_6 : decode cX4_digest 6 = .ok (.invokevirtual 90, 3) := by decide +kernel
theorem dX4_digest_9 : decode cX4_digest 9 = .ok (.ireturn, 1) := by decide +kernel
theorem dX4_delta_0 : decode cX4_delta 0 = .ok (.aload_n 0, 1) := by decide +kernel
theorem dX4_delta_1 : decode cX4_delta 1 = .ok (.getfield 46, 3) := by decide +kernel
theorem dX4_delta_4 : decode cX4_delta 4 = .ok (.invokevirtual 94, 3) := by decide +kernel
theorem dX4_delta_7 : decode cX4_delta 7 = .ok (.aload_n 0, 1) := by decide +kernel
theorem dX4_delta_8 : decode cX4_delta 8 = .ok (.getfield 21, 3) := by decide +kernel
theorem dX4_delta_11 : decode cX4_delta 11 = .ok (.invokevirtual 69, 3) := by decide +kernel
theorem dX4_delta_14 : decode cX4_delta 14 = .ok (.ireturn, 1) := by decide +kernel
theorem dX4_apply_0 : decode cX4_apply 0 = .ok (.aload_n 0, 1) := by decide +kernel
theorem dX4_apply_1 : decode cX4_apply 1 = .ok (.getfield 24, 3) := by decide +kernel
theorem dX4_apply_4 : decode cX4_apply 4 = .ok (.invokevirtual 97, 3) := by decide +kernel
theorem dX4_apply_7 : decode cX4_apply 7 = .ok (.aload_n 0, 1) := by decide +kernel
theorem dX4_apply_8 : decode cX4_apply 8 = .ok (.invokevirtual 100, 3) := by decide +kernel
theorem dX4_apply_11 : decode cX4_apply 11 = .ok (.ifCond .ne 13, 3) := by decide +kernel
theorem dX4_apply_14 : decode cX4_apply 14 = .ok (.aload_n 0, 1) := by decide +kernel
theorem dX4_apply_15 : decode cX4_apply 15 = .ok (.getfield 24, 3) := by decide +kernel
theorem dX4_apply_18 : decode cX4_apply 18 = .ok (.invokevirtual 97, 3) := by decide +kernel
theorem dX4_apply_21 : decode cX4_apply 21 = .ok (.bipush (-2), 2) := by decide +kernel
theorem dX4_apply_23 : decode cX4_apply 23 = .ok (.ireturn, 1) := by decide +kernel
theorem dX4_apply_24 : decode cX4_apply 24 = .ok (.aload_n 0, 1) := by decide +kernel
theorem dX4_apply_25 : decode cX4_apply 25 = .ok (.getfield 24, 3) := by decide +kernel
theorem dX4_apply_28 : decode cX4_apply 28 = .ok (.invokevirtual 69, 3) := by decide +kernel
theorem dX4_apply_31 : decode cX4_apply 31 = .ok (.ireturn, 1) := by decide +kernel
theorem dX4_at_0 : decode cX4_at 0 = .ok (.aload_n 0, 1) := by decide +kernel
theorem dX4_at_1 : decode cX4_at 1 = .ok (.iload_n 1, 1) := by decide +kernel
theorem dX4_at_2 : decode cX4_at 2 = .ok (.invokevirtual 104, 3) := by decide +kernel
theorem dX4_at_5 : decode cX4_at 5 = .ok (.astore_n 3, 1) := by decide +kernel
theorem dX4_at_6 : decode cX4_at 6 = .ok (.aload_n 3, 1) := by decide +kernel
theorem dX4_at_7 : decode cX4_at 7 = .ok (.ifnonnull 7, 3) := by decide +kernel
theorem dX4_at_10 : decode cX4_at 10 = .ok (.iconst (-1), 1) := by decide +kernel
theorem dX4_at_11 : decode cX4_at 11 = .ok (.goto 8, 3) := by decide +kernel
theorem dX4_at_14 : decode cX4_at 14 = .ok (.aload_n 3, 1) := by decide +kernel
theorem dX4_at_15 : decode cX4_at 15 = .ok (.iload_n 2, 1) := by decide +kernel
theorem dX4_at_16 : decode cX4_at 16 = .ok (.invokevirtual 107, 3) := by decide +kernel
theorem dX4_at_19 : decode cX4_at 19 = .ok (.ireturn, 1) := by decide +kernel
theorem dX4_size_0 : decode cX4_size 0 = .ok (.aload_n 0, 1) := by decide +kernel
theorem dX4_size_1 : decode cX4_size 1 = .ok (.iload_n 1, 1) := by decide +kernel
theorem dX4_size_2 : decode cX4_size 2 = .ok (.invokevirtual 104, 3) := by decide +kernel
theorem dX4_size_5 : decode cX4_size 5 = .ok (.astore_n 2, 1) := by decide +kernel
theorem dX4_size_6 : decode cX4_size 6 = .ok (.aload_n 2, 1) := by decide +kernel
theorem dX4_size_7 : decode cX4_size 7 = .ok (.ifnonnull 7, 3) := by decide +kernel
theorem dX4_size_10 : decode cX4_size 10 = .ok (.iconst (-1), 1) := by decide +kernel
theorem dX4_size_11 : decode cX4_size 11 = .ok (.goto 7, 3) := by decide +kernel
theorem dX4_size_14 : decode cX4_size 14 = .ok (.aload_n 2, 1) := by decide +kernel
theorem dX4_size_15 : decode cX4_size 15 = .ok (.invokevirtual 69, 3) := by decide +kernel
theorem dX4_size_18 : decode cX4_size 18 = .ok (.ireturn, 1) := by decide +kernel
theorem dX4_change_0 : decode cX4_change 0 = .ok (.aload_n 0, 1) := by decide +kernel
theorem dX4_change_1 : decode cX4_change 1 = .ok (.getfield 21, 3) := by decide +kernel
theorem dX4_change_4 : decode cX4_change 4 = .ok (.iload_n 1, 1) := by decide +kernel
theorem dX4_change_5 : decode cX4_change 5 = .ok (.iload_n 2, 1) := by decide +kernel
theorem dX4_change_6 : decode cX4_change 6 = .ok (.invokevirtual 75, 3) := by decide +kernel
theorem dX4_change_9 : decode cX4_change 9 = .ok (.ireturn, 1) := by decide +kernel
theorem dX4_push_0 : decode cX4_push 0 = .ok (.aload_n 0, 1) := by decide +kernel
theorem dX4_push_1 : decode cX4_push 1 = .ok (.getfield 21, 3) := by decide +kernel
theorem dX4_push_4 : decode cX4_push 4 = .ok (.invokevirtual 69, 3) := by decide +kernel
theorem dX4_push_7 : decode cX4_push 7 = .ok (.sipush 6000, 3) := by decide +kernel
theorem dX4_push_10 : decode cX4_push 10 = .ok (.if_icmp .ge 18, 3) := by decide +kernel
theorem dX4_push_13 : decode cX4_push 13 = .ok (.aload_n 0, 1) := by decide +kernel
theorem dX4_push_14 : decode cX4_push 14 = .ok (.getfield 21, 3) := by decide +kernel
theorem dX4_push_17 : decode cX4_push 17 = .ok (.iload_n 1, 1) := by decide +kernel
theorem dX4_push_18 : decode cX4_push 18 = .ok (.invokevirtual 65, 3) := by decide +kernel
theorem dX4_push_21 : decode cX4_push 21 = .ok (.ifCond .eq 7, 3) := by decide +kernel
theorem dX4_push_24 : decode cX4_push 24 = .ok (.iconst 1, 1) := by decide +kernel
theorem dX4_push_25 : decode cX4_push 25 = .ok (.goto 4, 3) := by decide +kernel
theorem dX4_push_28 : decode cX4_push 28 = .ok (.iconst 0, 1) := by decide +kernel
theorem dX4_push_29 : decode cX4_push 29 = .ok (.ireturn, 1) := by decide +kernel
theorem dX4_keep_0 : decode cX4_keep 0 = .ok (.aload_n 0, 1) := by decide +kernel
theorem dX4_keep_1 : decode cX4_keep 1 = .ok (.getfield 21, 3) := by decide +kernel
theorem dX4_keep_4 : decode cX4_keep 4 = .ok (.iload_n 1, 1) := by decide +kernel
theorem dX4_keep_5 : decode cX4_keep 5 = .ok (.invokevirtual 72, 3) := by decide +kernel
theorem dX4_keep_8 : decode cX4_keep 8 = .ok (.ireturn, 1) := by decide +kernel
theorem dX4_sumAt_0 : decode cX4_sumAt 0 = .ok (.aload_n 0, 1) := by decide +kernel
theorem dX4_sumAt_1 : decode cX4_sumAt 1 = .ok (.iload_n 1, 1) := by decide +kernel
theorem dX4_sumAt_2 : decode cX4_sumAt 2 = .ok (.invokevirtual 57, 3) := by decide +kernel
theorem dX4_sumAt_5 : decode cX4_sumAt 5 = .ok (.astore 4, 2) := by decide +kernel
theorem dX4_sumAt_7 : decode cX4_sumAt 7 = .ok (.aload 4, 2) := by decide +kernel
theorem dX4_sumAt_9 : decode cX4_sumAt 9 = .ok (.ifnonnull 7, 3) := by decide +kernel
theorem dX4_sumAt_12 : decode cX4_sumAt 12 = .ok (.iconst 0, 1) := by decide +kernel
theorem dX4_sumAt_13 : decode cX4_sumAt 13 = .ok (.goto 10, 3) := by decide +kernel
theorem dX4_sumAt_16 : decode cX4_sumAt 16 = .ok (.aload 4, 2) := by decide +kernel
theorem dX4_sumAt_18 : decode cX4_sumAt 18 = .ok (.iload_n 2, 1) := by decide +kernel
theorem dX4_sumAt_19 : decode cX4_sumAt 19 = .ok (.iload_n 3, 1) := by decide +kernel
theorem dX4_sumAt_20 : decode cX4_sumAt 20 = .ok (.invokevirtual 110, 3) := by decide +kernel
theorem dX4_sumAt_23 : decode cX4_sumAt 23 = .ok (.ireturn, 1) := by decide +kernel
theorem dX4_md5_0 : decode cX4_md5 0 = .ok (.aload_n 0, 1) := by decide +kernel
theorem dX4_md5_1 : decode cX4_md5 1 = .ok (.iload_n 1, 1) := by decide +kernel
theorem dX4_md5_2 : decode cX4_md5 2 = .ok (.invokevirtual 57, 3) := by decide +kernel
theorem dX4_md5_5 : decode cX4_md5 5 = .ok (.astore_n 3, 1) := by decide +kernel
theorem dX4_md5_6 : decode cX4_md5 6 = .ok (.aload_n 3, 1) := by decide +kernel
theorem dX4_md5_7 : decode cX4_md5 7 = .ok (.ifnull 13, 3) := by decide +kernel
theorem dX4_md5_10 : decode cX4_md5 10 = .ok (.iload_n 2, 1) := by decide +kernel
theorem dX4_md5_11 : decode cX4_md5 11 = .ok (.ifCond .lt 9, 3) := by decide +kernel
theorem dX4_md5_14 : decode cX4_md5 14 = .ok (.iload_n 2, 1) := by decide +kernel
theorem dX4_md5_15 : decode cX4_md5 15 = .ok (.bipush 16, 2) := by decide +kernel
theorem dX4_md5_17 : decode cX4_md5 17 = .ok (.if_icmp .lt 5, 3) := by decide +kernel
theorem dX4_md5_20 : decode cX4_md5 20 = .ok (.iconst (-1), 1) := by decide +kernel
theorem dX4_md5_21 : decode cX4_md5 21 = .ok (.ireturn, 1) := by decide +kernel
theorem dX4_md5_22 : decode cX4_md5 22 = .ok (.aload_n 0, 1) := by decide +kernel
theorem dX4_md5_23 : decode cX4_md5 23 = .ok (.getfield 30, 3) := by decide +kernel
theorem dX4_md5_26 : decode cX4_md5 26 = .ok (.aload_n 3, 1) := by decide +kernel
theorem dX4_md5_27 : decode cX4_md5 27 = .ok (.iconst 0, 1) := by decide +kernel
theorem dX4_md5_28 : decode cX4_md5 28 = .ok (.aload_n 3, 1) := by decide +kernel
theorem dX4_md5_29 : decode cX4_md5 29 = .ok (.invokevirtual 69, 3) := by decide +kernel
theorem dX4_md5_32 : decode cX4_md5 32 = .ok (.invokevirtual 113, 3) := by decide +kernel
theorem dX4_md5_35 : decode cX4_md5 35 = .ok (.aload_n 0, 1) := by decide +kernel
theorem dX4_md5_36 : decode cX4_md5 36 = .ok (.getfield 30, 3) := by decide +kernel
theorem dX4_md5_39 : decode cX4_md5 39 = .ok (.iload_n 2, 1) := by decide +kernel
theorem dX4_md5_40 : decode cX4_md5 40 = .ok (.invokevirtual 117, 3) := by decide +kernel
theorem dX4_md5_43 : decode cX4_md5 43 = .ok (.ireturn, 1) := by decide +kernel
theorem dX4_same_0 : decode cX4_same 0 = .ok (.aload_n 0, 1) := by decide +kernel
theorem dX4_same_1 : decode cX4_same 1 = .ok (.getfield 24, 3) := by decide +kernel
theorem dX4_same_4 : decode cX4_same 4 = .ok (.aload_n 0, 1) := by decide +kernel
theorem dX4_same_5 : decode cX4_same 5 = .ok (.getfield 18, 3) := by decide +kernel
theorem dX4_same_8 : decode cX4_same 8 = .ok (.invokevirtual 119, 3) := by decide +kernel
theorem dX4_same_11 : decode cX4_same 11 = .ok (.ireturn, 1) := by decide +kernel
theorem dX4_count_0 : decode cX4_count 0 = .ok (.iload_n 1, 1) := by decide +kernel
theorem dX4_count_1 : decode cX4_count 1 = .ok (.tableswitch 99 0 6 #[43, 51, 59, 67, 75, 83, 91], 43) := by decide +kernel
theorem dX4_count_44 : decode cX4_count 44 = .ok (.aload_n 0, 1) := by decide +kernel
theorem dX4_count_45 : decode cX4_count 45 = .ok (.getfield 46, 3) := by decide +kernel
theorem dX4_count_48 : decode cX4_count 48 = .ok (.invokevirtual 123, 3) := by decide +kernel
theorem dX4_count_51 : decode cX4_count 51 = .ok (.ireturn, 1) := by decide +kernel
theorem dX4_count_52 : decode cX4_count 52 = .ok (.aload_n 0, 1) := by decide +kernel
theorem dX4_count_53 : decode cX4_count 53 = .ok (.getfield 46, 3) := by decide +kernel
theorem dX4_count_56 : decode cX4_count 56 = .ok (.invokevirtual 126, 3) := by decide +kernel
theorem dX4_count_59 : decode cX4_count 59 = .ok (.ireturn, 1) := by decide +kernel
theorem dX4_count_60 : decode cX4_count 60 = .ok (.aload_n 0, 1) := by decide +kernel
theorem dX4_count_61 : decode cX4_count 61 = .ok (.getfield 46, 3) := by decide +kernel
theorem dX4_count_64 : decode cX4_count 64 = .ok (.invokevirtual 129, 3) := by decide +kernel
theorem dX4_count_67 : decode cX4_count 67 = .ok (.ireturn, 1) := by decide +kernel
theorem dX4_count_68 : decode cX4_count 68 = .ok (.aload_n 0, 1) := by decide +kernel
theorem dX4_count_69 : decode cX4_count 69 = .ok (.getfield 46, 3) := by decide +kernel
theorem dX4_count_72 : decode cX4_count 72 = .ok (.invokevirtual 132, 3) := by decide +kernel
theorem dX4_count_75 : decode cX4_count 75 = .ok (.ireturn, 1) := by decide +kernel
theorem dX4_count_76 : decode cX4_count 76 = .ok (.aload_n 0, 1) := by decide +kernel
theorem dX4_count_77 : decode cX4_count 77 = .ok (.getfield 37, 3) := by decide +kernel
theorem dX4_count_80 : decode cX4_count 80 = .ok (.invokevirtual 83, 3) := by decide +kernel
theorem dX4_count_83 : decode cX4_count 83 = .ok (.ireturn, 1) := by decide +kernel
theorem dX4_count_84 : decode cX4_count 84 = .ok (.aload_n 0, 1) := by decide +kernel
theorem dX4_count_85 : decode cX4_count 85 = .ok (.getfield 37, 3) := by decide +kernel
theorem dX4_count_88 : decode cX4_count 88 = .ok (.invokevirtual 135, 3) := by decide +kernel
theorem dX4_count_91 : decode cX4_count 91 = .ok (.ireturn, 1) := by decide +kernel
theorem dX4_count_92 : decode cX4_count 92 = .ok (.aload_n 0, 1) := by decide +kernel
theorem dX4_count_93 : decode cX4_count 93 = .ok (.getfield 37, 3) := by decide +kernel
theorem dX4_count_96 : decode cX4_count 96 = .ok (.invokevirtual 138, 3) := by decide +kernel
theorem dX4_count_99 : decode cX4_count 99 = .ok (.ireturn, 1) := by decide +kernel
theorem dX4_count_100 : decode cX4_count 100 = .ok (.iconst (-1), 1) := by decide +kernel
theorem dX4_count_101 : decode cX4_count 101 = .ok (.ireturn, 1) := by decide +kernel
theorem dX4_fileOf_0 : decode cX4_fileOf 0 = .ok (.iload_n 1, 1) := by decide +kernel
theorem dX4_fileOf_1 : decode cX4_fileOf 1 = .ok (.ifCond .eq 8, 3) := by decide +kernel
theorem dX4_fileOf_4 : decode cX4_fileOf 4 = .ok (.iload_n 1, 1) := by decide +kernel
theorem dX4_fileOf_5 : decode cX4_fileOf 5 = .ok (.iconst 1, 1) := by decide +kernel
theorem dX4_fileOf_6 : decode cX4_fileOf 6 = .ok (.if_icmp .ne 11, 3) := by decide +kernel
theorem dX4_fileOf_9 : decode cX4_fileOf 9 = .ok (.aload_n 0, 1) := by decide +kernel
theorem dX4_fileOf_10 : decode cX4_fileOf 10 = .ok (.iload_n 1, 1) := by decide +kernel
theorem dX4_fileOf_11 : decode cX4_fileOf 11 = .ok (.invokevirtual 104, 3) := by decide +kernel
theorem dX4_fileOf_14 : decode cX4_fileOf 14 = .ok (.goto 4, 3) := by decide +kernel
theorem dX4_fileOf_17 : decode cX4_fileOf 17 = .ok (.aconst_null, 1) := by decide +kernel
theorem dX4_fileOf_18 : decode cX4_fileOf 18 = .ok (.areturn, 1) := by decide +kernel
theorem dX4_rowOf_0 : decode cX4_rowOf 0 = .ok (.iload_n 1, 1) := by decide +kernel
theorem dX4_rowOf_1 : decode cX4_rowOf 1 = .ok (.tableswitch 51 0 3 #[31, 36, 41, 46], 31) := by decide +kernel
theorem dX4_rowOf_32 : decode cX4_rowOf 32 = .ok (.aload_n 0, 1) := by decide +kernel
theorem dX4_rowOf_33 : decode cX4_rowOf 33 = .ok (.getfield 14, 3) := by decide +kernel
theorem dX4_rowOf_36 : decode cX4_rowOf 36 = .ok (.areturn, 1) := by decide +kernel
theorem dX4_rowOf_37 : decode cX4_rowOf 37 = .ok (.aload_n 0, 1) := by decide +kernel
theorem dX4_rowOf_38 : decode cX4_rowOf 38 = .ok (.getfield 18, 3) := by decide +kernel
theorem dX4_rowOf_41 : decode cX4_rowOf 41 = .ok (.areturn, 1) := by decide +kernel
theorem dX4_rowOf_42 : decode cX4_rowOf 42 = .ok (.aload_n 0, 1) := by decide +kernel
theorem dX4_rowOf_43 : decode cX4_rowOf 43 = .ok (.getfield 21, 3) := by decide +kernel
theorem dX4_rowOf_46 : decode cX4_rowOf 46 = .ok (.areturn, 1) := by decide +kernel
theorem dX4_rowOf_47 : decode cX4_rowOf 47 = .ok (.aload_n 0, 1) := by decide +kernel
theorem dX4_rowOf_48 : decode cX4_rowOf 48 = .ok (.getfield 24, 3) := by decide +kernel
theorem dX4_rowOf_51 : decode cX4_rowOf 51 = .ok (.areturn, 1) := by decide +kernel
theorem dX4_rowOf_52 : decode cX4_rowOf 52 = .ok (.aconst_null, 1) := by decide +kernel
theorem dX4_rowOf_53 : decode cX4_rowOf 53 = .ok (.areturn, 1) := by decide +kernel
theorem dX4_allRowsApplied_0 : decode cX4_allRowsApplied 0 = .ok (.aload_n 0, 1) := by decide +kernel
theorem dX4_allRowsApplied_1 : decode cX4_allRowsApplied 1 = .ok (.getfield 21, 3) := by decide +kernel
theorem dX4_allRowsApplied_4 : decode cX4_allRowsApplied 4 = .ok (.invokevirtual 69, 3) := by decide +kernel
theorem dX4_allRowsApplied_7 : decode cX4_allRowsApplied 7 = .ok (.istore_n 1, 1) := by decide +kernel
theorem dX4_allRowsApplied_8 : decode cX4_allRowsApplied 8 = .ok (.iconst 0, 1) := by decide +kernel
theorem dX4_allRowsApplied_9 : decode cX4_allRowsApplied 9 = .ok (.istore_n 2, 1) := by decide +kernel
theorem dX4_allRowsApplied_10 : decode cX4_allRowsApplied 10 = .ok (.iconst 0, 1) := by decide +kernel
theorem dX4_allRowsApplied_11 : decode cX4_allRowsApplied 11 = .ok (.istore_n 3, 1) := by decide +kernel
theorem dX4_allRowsApplied_12 : decode cX4_allRowsApplied 12 = .ok (.iload_n 3, 1) := by decide +kernel
theorem dX4_allRowsApplied_13 : decode cX4_allRowsApplied 13 = .ok (.iload_n 1, 1) := by decide +kernel
theorem dX4_allRowsApplied_14 : decode cX4_allRowsApplied 14 = .ok (.if_icmp .ge 35, 3) := by decide +kernel
theorem dX4_allRowsApplied_17 : decode cX4_allRowsApplied 17 = .ok (.iload_n 2, 1) := by decide +kernel
theorem dX4_allRowsApplied_18 : decode cX4_allRowsApplied 18 = .ok (.iload_n 1, 1) := by decide +kernel
theorem dX4_allRowsApplied_19 : decode cX4_allRowsApplied 19 = .ok (.if_icmp .ge 30, 3) := by decide +kernel
theorem dX4_allRowsApplied_22 : decode cX4_allRowsApplied 22 = .ok (.aload_n 0, 1) := by decide +kernel
theorem dX4_allRowsApplied_23 : decode cX4_allRowsApplied 23 = .ok (.iload_n 2, 1) := by decide +kernel
theorem dX4_allRowsApplied_24 : decode cX4_allRowsApplied 24 = .ok (.invokevirtual 141, 3) := by decide +kernel
theorem dX4_allRowsApplied_27 : decode cX4_allRowsApplied 27 = .ok (.istore 4, 2) := by decide +kernel
theorem dX4_allRowsApplied_29 : decode cX4_allRowsApplied 29 = .ok (.iload 4, 2) := by decide +kernel
theorem dX4_allRowsApplied_31 : decode cX4_allRowsApplied 31 = .ok (.bipush (-2), 2) := by decide +kernel
theorem dX4_allRowsApplied_33 : decode cX4_allRowsApplied 33 = .ok (.if_icmp .ne 5, 3) := by decide +kernel
theorem dX4_allRowsApplied_36 : decode cX4_allRowsApplied 36 = .ok (.iconst 0, 1) := by decide +kernel
theorem dX4_allRowsApplied_37 : decode cX4_allRowsApplied 37 = .ok (.ireturn, 1) := by decide +kernel
theorem dX4_allRowsApplied_38 : decode cX4_allRowsApplied 38 = .ok (.iload_n 2, 1) := by decide +kernel
theorem dX4_allRowsApplied_39 : decode cX4_allRowsApplied 39 = .ok (.iload 4, 2) := by decide +kernel
theorem dX4_allRowsApplied_41 : decode cX4_allRowsApplied 41 = .ok (.iadd, 1) := by decide +kernel
theorem dX4_allRowsApplied_42 : decode cX4_allRowsApplied 42 = .ok (.istore_n 2, 1) := by decide +kernel
theorem dX4_allRowsApplied_43 : decode cX4_allRowsApplied 43 = .ok (.iinc 3 1, 3) := by decide +kernel
theorem dX4_allRowsApplied_46 : decode cX4_allRowsApplied 46 = .ok (.goto (-34), 3) := by decide +kernel
theorem dX4_allRowsApplied_49 : decode cX4_allRowsApplied 49 = .ok (.iconst 1, 1) := by decide +kernel
theorem dX4_allRowsApplied_50 : decode cX4_allRowsApplied 50 = .ok (.ireturn, 1) := by decide +kernel
theorem dX4_applyRow_0 : decode cX4_applyRow 0 = .ok (.aload_n 0, 1) := by decide +kernel
theorem dX4_applyRow_1 : decode cX4_applyRow 1 = .ok (.getfield 21, 3) := by decide +kernel
theorem dX4_applyRow_4 : decode cX4_applyRow 4 = .ok (.iload_n 1, 1) := by decide +kernel
theorem dX4_applyRow_5 : decode cX4_applyRow 5 = .ok (.invokevirtual 107, 3) := by decide +kernel
theorem dX4_applyRow_8 : decode cX4_applyRow 8 = .ok (.lookupswitch 40 #[(0, 28), (1, 34)], 28) := by decide +kernel
theorem dX4_applyRow_36 : decode cX4_applyRow 36 = .ok (.aload_n 0, 1) := by decide +kernel
theorem dX4_applyRow_37 : decode cX4_applyRow 37 = .ok (.iload_n 1, 1) := by decide +kernel
theorem dX4_applyRow_38 : decode cX4_applyRow 38 = .ok (.invokevirtual 144, 3) := by decide +kernel
theorem dX4_applyRow_41 : decode cX4_applyRow 41 = .ok (.ireturn, 1) := by decide +kernel
theorem dX4_applyRow_42 : decode cX4_applyRow 42 = .ok (.aload_n 0, 1) := by decide +kernel
theorem dX4_applyRow_43 : decode cX4_applyRow 43 = .ok (.iload_n 1, 1) := by decide +kernel
theorem dX4_applyRow_44 : decode cX4_applyRow 44 = .ok (.invokevirtual 147, 3) := by decide +kernel
theorem dX4_applyRow_47 : decode cX4_applyRow 47 = .ok (.ireturn, 1) := by decide +kernel
theorem dX4_applyRow_48 : decode cX4_applyRow 48 = .ok (.bipush (-2), 2) := by decide +kernel
theorem dX4_applyRow_50 : decode cX4_applyRow 50 = .ok (.ireturn, 1) := by decide +kernel
theorem dX4_applyLiterals_0 : decode cX4_applyLiterals 0 = .ok (.aload_n 0, 1) := by decide +kernel
theorem dX4_applyLiterals_1 : decode cX4_applyLiterals 1 = .ok (.getfield 21, 3) := by decide +kernel
theorem dX4_applyLiterals_4 : decode cX4_applyLiterals 4 = .ok (.iload_n 1, 1) := by decide +kernel
theorem dX4_applyLiterals_5 : decode cX4_applyLiterals 5 = .ok (.iconst 1, 1) := by decide +kernel
theorem dX4_applyLiterals_6 : decode cX4_applyLiterals 6 = .ok (.iadd, 1) := by decide +kernel
theorem dX4_applyLiterals_7 : decode cX4_applyLiterals 7 = .ok (.invokevirtual 107, 3) := by decide +kernel
theorem dX4_applyLiterals_10 : decode cX4_applyLiterals 10 = .ok (.istore_n 2, 1) := by decide +kernel
theorem dX4_applyLiterals_11 : decode cX4_applyLiterals 11 = .ok (.iload_n 2, 1) := by decide +kernel
theorem dX4_applyLiterals_12 : decode cX4_applyLiterals 12 = .ok (.iconst 1, 1) := by decide +kernel
theorem dX4_applyLiterals_13 : decode cX4_applyLiterals 13 = .ok (.if_icmp .lt 21, 3) := by decide +kernel
theorem dX4_applyLiterals_16 : decode cX4_applyLiterals 16 = .ok (.aload_n 0, 1) := by decide +kernel
theorem dX4_applyLiterals_17 : decode cX4_applyLiterals 17 = .ok (.getfield 24, 3) := by decide +kernel
theorem dX4_applyLiterals_20 : decode cX4_applyLiterals 20 = .ok (.aload_n 0, 1) := by decide +kernel
theorem dX4_applyLiterals_21 : decode cX4_applyLiterals 21 = .ok (.getfield 21, 3) := by decide +kernel
theorem dX4_applyLiterals_24 : decode cX4_applyLiterals 24 = .ok (.iload_n 1, 1) := by decide +kernel
theorem dX4_applyLiterals_25 : decode cX4_applyLiterals 25 = .ok (.iconst 2, 1) := by decide +kernel
theorem dX4_applyLiterals_26 : decode cX4_applyLiterals 26 = .ok (.iadd, 1) := by decide +kernel
theorem dX4_applyLiterals_27 : decode cX4_applyLiterals 27 = .ok (.iload_n 2, 1) := by decide +kernel
theorem dX4_applyLiterals_28 : decode cX4_applyLiterals 28 = .ok (.invokevirtual 150, 3) := by decide +kernel
theorem dX4_applyLiterals_31 : decode cX4_applyLiterals 31 = .ok (.ifCond .ne 6, 3) := by decide +kernel
theorem dX4_applyLiterals_34 : decode cX4_applyLiterals 34 = .ok (.bipush (-2), 2) := by decide +kernel
theorem dX4_applyLiterals_36 : decode cX4_applyLiterals 36 = .ok (.ireturn, 1) := by decide +kernel
theorem dX4_applyLiterals_37 : decode cX4_applyLiterals 37 = .ok (.iconst 2, 1) := by decide +kernel
theorem dX4_applyLiterals_38 : decode cX4_applyLiterals 38 = .ok (.iload_n 2, 1) := by decide +kernel
theorem dX4_applyLiterals_39 : decode cX4_applyLiterals 39 = .ok (.iadd, 1) := by decide +kernel
theorem dX4_applyLiterals_40 : decode cX4_applyLiterals 40 = .ok (.ireturn, 1) := by decide +kernel
theorem dX4_applyReferences_0 : decode cX4_applyReferences 0 = .ok (.aload_n 0, 1) := by decide +kernel
theorem dX4_applyReferences_1 : decode cX4_applyReferences 1 = .ok (.getfield 21, 3) := by decide +kernel
theorem dX4_applyReferences_4 : decode cX4_applyReferences 4 = .ok (.iload_n 1, 1) := by decide +kernel
theorem dX4_applyReferences_5 : decode cX4_applyReferences 5 = .ok (.iconst 4, 1) := by decide +kernel
theorem dX4_applyReferences_6 : decode cX4_applyReferences 6 = .ok (.invokevirtual 154, 3) := by decide +kernel
theorem dX4_applyReferences_9 : decode cX4_applyReferences 9 = .ok (.ifCond .ne 6, 3) := by decide +kernel
theorem dX4_applyReferences_12 : decode cX4_applyReferences 12 = .ok (.bipush (-2), 2) := by decide +kernel
theorem dX4_applyReferences_14 : decode cX4_applyReferences 14 = .ok (.ireturn, 1) := by decide +kernel
theorem dX4_applyReferences_15 : decode cX4_applyReferences 15 = .ok (.aload_n 0, 1) := by decide +kernel
theorem dX4_applyReferences_16 : decode cX4_applyReferences 16 = .ok (.getfield 21, 3) := by decide +kernel
theorem dX4_applyReferences_19 : decode cX4_applyReferences 19 = .ok (.iload_n 1, 1) := by decide +kernel
theorem dX4_applyReferences_20 : decode cX4_applyReferences 20 = .ok (.iconst 1, 1) := by decide +kernel
theorem dX4_applyReferences_21 : decode cX4_applyReferences 21 = .ok (.iadd, 1) := by decide +kernel
theorem dX4_applyReferences_22 : decode cX4_applyReferences 22 = .ok (.invokevirtual 107, 3) := by decide +kernel
theorem dX4_applyReferences_25 : decode cX4_applyReferences 25 = .ok (.sipush 256, 3) := by decide +kernel
theorem dX4_applyReferences_28 : decode cX4_applyReferences 28 = .ok (.imul, 1) := by decide +kernel
theorem dX4_applyReferences_29 : decode cX4_applyReferences 29 = .ok (.aload_n 0, 1) := by decide +kernel
theorem dX4_applyReferences_30 : decode cX4_applyReferences 30 = .ok (.getfield 21, 3) := by decide +kernel
theorem dX4_applyReferences_33 : decode cX4_applyReferences 33 = .ok (.iload_n 1, 1) := by decide +kernel
theorem dX4_applyReferences_34 : decode cX4_applyReferences 34 = .ok (.iconst 2, 1) := by decide +kernel
theorem dX4_applyReferences_35 : decode cX4_applyReferences 35 = .ok (.iadd, 1) := by decide +kernel
theorem dX4_applyReferences_36 : decode cX4_applyReferences 36 = .ok (.invokevirtual 107, 3) := by decide +kernel
theorem dX4_applyReferences_39 : decode cX4_applyReferences 39 = .ok (.iadd, 1) := by decide +kernel
theorem dX4_applyReferences_40 : decode cX4_applyReferences 40 = .ok (.istore_n 2, 1) := by decide +kernel
theorem dX4_applyReferences_41 : decode cX4_applyReferences 41 = .ok (.aload_n 0, 1) := by decide +kernel
theorem dX4_applyReferences_42 : decode cX4_applyReferences 42 = .ok (.getfield 21, 3) := by decide +kernel
theorem dX4_applyReferences_45 : decode cX4_applyReferences 45 = .ok (.iload_n 1, 1) := by decide +kernel
theorem dX4_applyReferences_46 : decode cX4_applyReferences 46 = .ok (.iconst 3, 1) := by decide +kernel
theorem dX4_applyReferences_47 : decode cX4_applyReferences 47 = .ok (.iadd, 1) := by decide +kernel
theorem dX4_applyReferences_48 : decode cX4_applyReferences 48 = .ok (.invokevirtual 107, 3) := by decide +kernel
theorem dX4_applyReferences_51 : decode cX4_applyReferences 51 = .ok (.istore_n 3, 1) := by decide +kernel
theorem dX4_applyReferences_52 : decode cX4_applyReferences 52 = .ok (.aload_n 0, 1) := by decide +kernel
theorem dX4_applyReferences_53 : decode cX4_applyReferences 53 = .ok (.getfield 37, 3) := by decide +kernel
theorem dX4_applyReferences_56 : decode cX4_applyReferences 56 = .ok (.invokevirtual 135, 3) := by decide +kernel
theorem dX4_applyReferences_59 : decode cX4_applyReferences 59 = .ok (.istore 4, 2) := by decide +kernel
theorem dX4_applyReferences_61 : decode cX4_applyReferences 61 = .ok (.iload_n 3, 1) := by decide +kernel
theorem dX4_applyReferences_62 : decode cX4_applyReferences 62 = .ok (.iconst 1, 1) := by decide +kernel
theorem dX4_applyReferences_63 : decode cX4_applyReferences 63 = .ok (.if_icmp .lt 25, 3) := by decide +kernel
theorem dX4_applyReferences_66 : decode cX4_applyReferences 66 = .ok (.aload_n 0, 1) := by decide +kernel
theorem dX4_applyReferences_67 : decode cX4_applyReferences 67 = .ok (.getfield 24, 3) := by decide +kernel
theorem dX4_applyReferences_70 : decode cX4_applyReferences 70 = .ok (.aload_n 0, 1) := by decide +kernel
theorem dX4_applyReferences_71 : decode cX4_applyReferences 71 = .ok (.getfield 14, 3) := by decide +kernel
theorem dX4_applyReferences_74 : decode cX4_applyReferences 74 = .ok (.iload_n 2, 1) := by decide +kernel
theorem dX4_applyReferences_75 : decode cX4_applyReferences 75 = .ok (.iload 4, 2) := by decide +kernel
theorem dX4_applyReferences_77 : decode cX4_applyReferences 77 = .ok (.imul, 1) := by decide +kernel
theorem dX4_applyReferences_78 : decode cX4_applyReferences 78 = .ok (.iload_n 3, 1) := by decide +kernel
theorem dX4_applyReferences_79 : decode cX4_applyReferences 79 = .ok (.iload 4, 2) := by decide +kernel
theorem dX4_applyReferences_81 : decode cX4_applyReferences 81 = .ok (.imul, 1) := by decide +kernel
theorem dX4_applyReferences_82 : decode cX4_applyReferences 82 = .ok (.invokevirtual 150, 3) := by decide +kernel
theorem dX4_applyReferences_85 : decode cX4_applyReferences 85 = .ok (.ifCond .ne 6, 3) := by decide +kernel
theorem dX4_applyReferences_88 : decode cX4_applyReferences 88 = .ok (.bipush (-2), 2) := by decide +kernel
theorem dX4_applyReferences_90 : decode cX4_applyReferences 90 = .ok (.ireturn, 1) := by decide +kernel
theorem dX4_applyReferences_91 : decode cX4_applyReferences 91 = .ok (.iconst 4, 1) := by decide +kernel
theorem dX4_applyReferences_92 : decode cX4_applyReferences 92 = .ok (.ireturn, 1) := by decide +kernel
end
section
theorem dX5_init_0 : decode cX5_init 0 = .ok (.aload_n 0, 1) := by decide +kernel
theorem dX5_init_1 : decode cX5_init 1 = .ok (.invokespecial 1, 3) := by decide +kernel
theorem dX5_init_4 : decode cX5_init 4 = .ok (.aload_n 0, 1) := by decide +kernel
theorem dX5_init_5 : decode cX5_init 5 = .ok (.sipush 6000, 3) := by decide +kernel
theorem dX5_init_8 : decode cX5_init 8 = .ok (.newarray .byte, 2) := by decide +kernel
theorem dX5_init_10 : decode cX5_init 10 = .ok (.putfield 7, 3) := by decide +kernel
theorem dX5_init_13 : decode cX5_init 13 = .ok (.aload_n 0, 1) := by decide +kernel
theorem dX5_init_14 : decode cX5_init 14 = .ok (.iconst 3, 1) := by decide +kernel
theorem dX5_init_15 : decode cX5_init 15 = .ok (.newarray .int, 2) := by decide +kernel
theorem dX5_init_17 : decode cX5_init 17 = .ok (.putfield 13, 3) := by decide +kernel
theorem dX5_init_20 : decode cX5_init 20 = .ok (.aload_n 0, 1) := by decide +kernel
theorem dX5_init_21 : decode cX5_init 21 = .ok (.sipush 8100, 3) := by decide +kernel
theorem dX5_init_24 : decode cX5_init 24 = .ok (.newarray .byte, 2) := by decide +kernel
theorem dX5_init_26 : decode cX5_init 26 = .ok (.putfield 17, 3) := by decide +kernel
theorem dX5_init_29 : decode cX5_init 29 = .ok (.aload_n 0, 1) := by decide +kernel
theorem dX5_init_30 : decode cX5_init 30 = .ok (.bipush 16, 2) := by decide +kernel
theorem dX5_init_32 : decode cX5_init 32 = .ok (.putfield 20, 3) := by decide +kernel
theorem dX5_init_35 : decode cX5_init 35 = .ok (.aload_n 0, 1) := by decide +kernel
theorem dX5_init_36 : decode cX5_init 36 = .ok (.bipush 8, 2) := by decide +kernel
theorem dX5_init_38 : decode cX5_init 38 = .ok (.putfield 24, 3) := by decide +kernel
theorem dX5_init_41 : decode cX5_init 41 = .ok (.aload_n 0, 1) := by decide +kernel
theorem dX5_init_42 : decode cX5_init 42 = .ok (.bipush 16, 2) := by decide +kernel
theorem dX5_init_44 : decode cX5_init 44 = .ok (.putfield 27, 3) := by decide +kernel
theorem dX5_init_47 : decode cX5_init 47 = .ok (.aload_n 0, 1) := by decide +kernel
theorem dX5_init_48 : decode cX5_init 48 = .ok (.bipush 8, 2) := by decide +kernel
theorem dX5_init_50 : decode cX5_init 50 = .ok (.putfield 30, 3) := by decide +kernel
theorem dX5_init_53 : decode cX5_init 53 = .ok (.aload_n 0, 1) := by decide +kernel
theorem dX5_init_54 : decode cX5_init 54 = .ok (.sipush 2000, 3) := by decide +kernel
theorem dX5_init_57 : decode cX5_init 57 = .ok (.newarray .int, 2) := by decide +kernel
theorem dX5_init_59 : decode cX5_init 59 = .ok (.putfield 33, 3) := by decide +kernel
theorem dX5_init_62 : decode cX5_init 62 = .ok (.aload_n 0, 1) := by decide +kernel
theorem dX5_init_63 : decode cX5_init 63 = .ok (.sipush 32000, 3) := by decide +kernel
theorem dX5_init_66 : decode cX5_init 66 = .ok (.newarray .byte, 2) := by decide +kernel
theorem dX5_init_68 : decode cX5_init 68 = .ok (.putfield 36, 3) := by decide +kernel
theorem dX5_init_71 : decode cX5_init 71 = .ok (.aload_n 0, 1) := by decide +kernel
theorem dX5_init_72 : decode cX5_init 72 = .ok (.sipush 2112, 3) := by decide +kernel
theorem dX5_init_75 : decode cX5_init 75 = .ok (.newarray .byte, 2) := by decide +kernel
theorem dX5_init_77 : decode cX5_init 77 = .ok (.putfield 39, 3) := by decide +kernel
theorem dX5_init_80 : decode cX5_init 80 = .ok (.aload_n 0, 1) := by decide +kernel
theorem dX5_init_81 : decode cX5_init 81 = .ok (.iconst 4, 1) := by decide +kernel
theorem dX5_init_82 : decode cX5_init 82 = .ok (.newarray .int, 2) := by decide +kernel
theorem dX5_init_84 : decode cX5_init 84 = .ok (.putfield 42, 3) := by decide +kernel
theorem dX5_init_87 : decode cX5_init 87 = .ok (.aload_n 0, 1) := by decide +kernel
theorem dX5_init_88 : decode cX5_init 88 = .ok (.bipush 16, 2) := by decide +kernel
theorem dX5_init_90 : decode cX5_init 90 = .ok (.newarray .int, 2) := by decide +kernel
theorem dX5_init_92 : decode cX5_init 92 = .ok (.putfield 45, 3) := by decide +kernel
theorem dX5_init_95 : decode cX5_init 95 = .ok (.aload_n 0, 1) := by decide +kernel
theorem dX5_init_96 : decode cX5_init 96 = .ok (.bipush 64, 2) := by decide +kernel
theorem dX5_init_98 : decode cX5_init 98 = .ok (.newarray .int, 2) := by decide +kernel
theorem dX5_init_100 : decode cX5_init 100 = .ok (.dup, 1) := by decide +kernel
theorem dX5_init_101 : decode cX5_init 101 = .ok (.iconst 0, 1) := by decide +kernel
theorem dX5_init_102 : decode cX5_init 102 = .ok (.ldc 48, 2) := by decide +kernel
theorem dX5_init_104 : decode cX5_init 104 = .ok (.iastore, 1) := by decide +kernel
theorem dX5_init_105 : decode cX5_init 105 = .ok (.dup, 1) := by decide +kernel
theorem dX5_init_106 : decode cX5_init 106 = .ok (.iconst 1, 1) := by decide +kernel
theorem dX5_init_107 : decode cX5_init 107 = .ok (.ldc 49, 2) := by decide +kernel
theorem dX5_init_109 : decode cX5_init 109 = .ok (.iastore, 1) := by decide +kernel
theorem dX5_init_110 : decode cX5_init 110 = .ok (.dup, 1) := by decide +kernel
theorem dX5_init_111 : decode cX5_init 111 = .ok (.iconst 2, 1) := by decide +kernel
theorem dX5_init_112 : decode cX5_init 112 = .ok (.ldc 50, 2) := by decide +kernel
theorem dX5_init_114 : decode cX5_init 114 = .ok (.iastore, 1) := by decide +kernel
theorem dX5_init_115 : decode cX5_init 115 = .ok (.dup, 1) := by decide +kernel
theorem dX5_init_116 : decode cX5_init 116 = .ok (.iconst 3, 1) := by decide +kernel
theorem dX5_init_117 : decode cX5_init 117 = .ok (.ldc 51, 2) := by decide +kernel
theorem dX5_init_119 : decode cX5_init 119 = .ok (.iastore, 1) := by decide +kernel
theorem dX5_init_120 : decode cX5_init 120 = .ok (.dup, 1) := by decide +kernel
theorem dX5_init_121 : decode cX5_init 121 = .ok (.iconst 4, 1) := by decide +kernel
theorem dX5_init_122 : decode cX5_init 122 = .ok (.ldc 52, 2) := by decide +kernel
theorem dX5_init_124 : decode cX5_init 124 = .ok (.iastore, 1) := by decide +kernel
theorem dX5_init_125 : decode cX5_init 125 = .ok (.dup, 1) := by decide +kernel
theorem dX5_init_126 : decode cX5_init 126 = .ok (.iconst 5, 1) := by decide +kernel
theorem dX5_init_127 : decode cX5_init 127 = .ok (.ldc 53, 2) := by decide +kernel
theorem dX5_init_129 : decode cX5_init 129 = .ok (.iastore, 1) := by decide +kernel
theorem dX5_init_130 : decode cX5_init 130 = .ok (.dup, 1) := by decide +kernel
theorem dX5_init_131 : decode cX5_init 131 = .ok (.bipush 6, 2) := by decide +kernel
theorem dX5_init_133 : decode cX5_init 133 = .ok (.ldc 54, 2) := by decide +kernel
theorem dX5_init_135 : decode cX5_init 135 = .ok (.iastore, 1) := by decide +kernel
theorem dX5_init_136 : decode cX5_init 136 = .ok (.dup, 1) := by decide +kernel
theorem dX5_init_137 : decode cX5_init 137 = .ok (.bipush 7, 2) := by decide +kernel
theorem dX5_init_139 : decode cX5_init 139 = .ok (.ldc 55, 2) := by decide +kernel
theorem dX5_init_141 : decode cX5_init 141 = .ok (.iastore, 1) := by decide +kernel
theorem dX5_init_142 : decode cX5_init 142 = .ok (.dup, 1) := by decide +kernel
theorem dX5_init_143 : decode cX5_init 143 = .ok (.bipush 8, 2) := by decide +kernel
theorem dX5_init_145 : decode cX5_init 145 = .ok (.ldc 56, 2) := by decide +kernel
theorem dX5_init_147 : decode cX5_init 147 = .ok (.iastore, 1) := by decide +kernel
theorem dX5_init_148 : decode cX5_init 148 = .ok (.dup, 1) := by decide +kernel
theorem dX5_init_149 : decode cX5_init 149 = .ok (.bipush 9, 2) := by decide +kernel
theorem dX5_init_151 : decode cX5_init 151 = .ok (.ldc 57, 2) := by decide +kernel
theorem dX5_init_153 : decode cX5_init 153 = .ok (.iastore, 1) := by decide +kernel
theorem dX5_init_154 : decode cX5_init 154 = .ok (.dup, 1) := by decide +kernel
theorem dX5_init_155 : decode cX5_init 155 = .ok (.bipush 10, 2) := by decide +kernel
theorem dX5_init_157 : decode cX5_init 157 = .ok (.ldc 58, 2) := by decide +kernel
theorem dX5_init_159 : decode cX5_init 159 = .ok (.iastore, 1) := by decide +kernel
theorem dX5_init_160 : decode cX5_init 160 = .ok (.dup, 1) := by decide +kernel
theorem dX5_init_161 : decode cX5_init 161 = .ok (.bipush 11, 2) := by decide +kernel
theorem dX5_init_163 : decode cX5_init 163 = .ok (.ldc 59, 2) := by decide +kernel
theorem dX5_init_165 : decode cX5_init 165 = .ok (.iastore, 1) := by decide +kernel
theorem dX5_init_166 : decode cX5_init 166 = .ok (.dup, 1) := by decide +kernel
theorem dX5_init_167 : decode cX5_init 167 = .ok (.bipush 12, 2) := by decide +kernel
theorem dX5_init_169 : decode cX5_init 169 = .ok (.ldc 60, 2) := by decide +kernel
theorem dX5_init_171 : decode cX5_init 171 = .ok (.iastore, 1) := by decide +kernel
theorem dX5_init_172 : decode cX5_init 172 = .ok (.dup, 1) := by decide +kernel
theorem dX5_init_173 : decode cX5_init 173 = .ok (.bipush 13, 2) := by decide +kernel
theorem dX5_init_175 : decode cX5_init 175 = .ok (.ldc 61, 2) := by decide +kernel
theorem dX5_init_177 : decode cX5_init 177 = .ok (.iastore, 1) := by decide +kernel
theorem dX5_init_178 : decode cX5_init 178 = .ok (.dup, 1) := by decide +kernel
theorem dX5_init_179 : decode cX5_init 179 = .ok (.bipush 14, 2) := by decide +kernel
theorem dX5_init_181 : decode cX5_init 181 = .ok (.ldc 62, 2) := by decide +kernel
theorem dX5_init_183 : decode cX5_init 183 = .ok (.iastore, 1) := by decide +kernel
theorem dX5_init_184 : decode cX5_init 184 = .ok (.dup, 1) := by decide +kernel
theorem dX5_init_185 : decode cX5_init 185 = .ok (.bipush 15, 2) := by decide +kernel
theorem dX5_init_187 : decode cX5_init 187 = .ok (.ldc 63, 2) := by decide +kernel
theorem dX5_init_189 : decode cX5_init 189 = .ok (.iastore, 1) := by decide +kernel
theorem dX5_init_190 : decode cX5_init 190 = .ok (.dup, 1) := by decide +kernel
theorem dX5_init_191 : decode cX5_init 191 = .ok (.bipush 16, 2) := by decide +kernel
theorem dX5_init_193 : decode cX5_init 193 = .ok (.ldc 64, 2) := by decide +kernel
theorem dX5_init_195 : decode cX5_init 195 = .ok (.iastore, 1) := by decide +kernel
theorem dX5_init_196 : decode cX5_init 196 = .ok (.dup, 1) := by decide +kernel
theorem dX5_init_197 : decode cX5_init 197 = .ok (.bipush 17, 2) := by decide +kernel
theorem dX5_init_199 : decode cX5_init 199 = .ok (.ldc 65, 2) := by decide +kernel
theorem dX5_init_201 : decode cX5_init 201 = .ok (.iastore, 1) := by decide +kernel
theorem dX5_init_202 : decode cX5_init 202 = .ok (.dup, 1) := by decide +kernel
theorem dX5_init_203 : decode cX5_init 203 = .ok (.bipush 18, 2) := by decide +kernel
theorem dX5_init_205 : decode cX5_init 205 = .ok (.ldc 66, 2) := by decide +kernel
theorem dX5_init_207 : decode cX5_init 207 = .ok (.iastore, 1) := by decide +kernel
theorem dX5_init_208 : decode cX5_init 208 = .ok (.dup, 1) := by decide +kernel
theorem dX5_init_209 : decode cX5_init 209 = .ok (.bipush 19, 2) := by decide +kernel
theorem dX5_init_211 : decode cX5_init 211 = .ok (.ldc 67, 2) := by decide +kernel
theorem dX5_init_213 : decode cX5_init 213 = .ok (.iastore, 1) := by decide +kernel
theorem dX5_init_214 : decode cX5_init 214 = .ok (.dup, 1) := by decide +kernel
theorem dX5_init_215 : decode cX5_init 215 = .ok (.bipush 20, 2) := by decide +kernel
theorem dX5_init_217 : decode cX5_init 217 = .ok (.ldc 68, 2) := by decide +kernel
theorem dX5_init_219 : decode cX5_init 219 = .ok (.iastore, 1) := by decide +kernel
theorem dX5_init_220 : decode cX5_init 220 = .ok (.dup, 1) := by decide +kernel
theorem dX5_init_221 : decode cX5_init 221 = .ok (.bipush 21, 2) := by decide +kernel
theorem dX5_init_223 : decode cX5_init 223 = .ok (.ldc 69, 2) := by decide +kernel
theorem dX5_init_225 : decode cX5_init 225 = .ok (.iastore, 1) := by decide +kernel
theorem dX5_init_226 : decode cX5_init 226 = .ok (.dup, 1) := by decide +kernel
theorem dX5_init_227 : decode cX5_init 227 = .ok (.bipush 22, 2) := by decide +kernel
theorem dX5_init_229 : decode cX5_init 229 = .ok (.ldc 70, 2) := by decide +kernel
theorem dX5_init_231 : decode cX5_init 231 = .ok (.iastore, 1) := by decide +kernel
theorem dX5_init_232 : decode cX5_init 232 = .ok (.dup, 1) := by decide +kernel
theorem dX5_init_233 : decode cX5_init 233 = .ok (.bipush 23, 2) := by decide +kernel
theorem dX5_init_235 : decode cX5_init 235 = .ok (.ldc 71, 2) := by decide +kernel
theorem dX5_init_237 : decode cX5_init 237 = .ok (.iastore, 1) := by decide +kernel
theorem dX5_init_238 : decode cX5_init 238 = .ok (.dup, 1) := by decide +kernel
theorem dX5_init_239 : decode cX5_init 239 = .ok (.bipush 24, 2) := by decide +kernel
theorem dX5_init_241 : decode cX5_init 241 = .ok (.ldc 72, 2) := by decide +kernel
theorem dX5_init_243 : decode cX5_init 243 = .ok (.iastore, 1) := by decide +kernel
theorem dX5_init_244 : decode cX5_init 244 = .ok (.dup, 1) := by decide +kernel
theorem dX5_init_245 : decode cX5_init 245 = .ok (.bipush 25, 2) := by decide +kernel
theorem dX5_init_247 : decode cX5_init 247 = .ok (.ldc 73, 2) := by decide +kernel
theorem dX5_init_249 : decode cX5_init 249 = .ok (.iastore, 1) := by decide +kernel
theorem dX5_init_250 : decode cX5_init 250 = .ok (.dup, 1) := by decide +kernel
theorem dX5_init_251 : decode cX5_init 251 = .ok (.bipush 26, 2) := by decide +kernel
theorem dX5_init_253 : decode cX5_init 253 = .ok (.ldc 74, 2) := by decide +kernel
theorem dX5_init_255 : decode cX5_init 255 = .ok (.iastore, 1) := by decide +kernel
theorem dX5_init_256 : decode cX5_init 256 = .ok (.dup, 1) := by decide +kernel
theorem dX5_init_257 : decode cX5_init 257 = .ok (.bipush 27, 2) := by decide +kernel
theorem dX5_init_259 : decode cX5_init 259 = .ok (.ldc 75, 2) := by decide +kernel
theorem dX5_init_261 : decode cX5_init 261 = .ok (.iastore, 1) := by decide +kernel
theorem dX5_init_262 : decode cX5_init 262 = .ok (.dup, 1) := by decide +kernel
theorem dX5_init_263 : decode cX5_init 263 = .ok (.bipush 28, 2) := by decide +kernel
theorem dX5_init_265 : decode cX5_init 265 = .ok (.ldc 76, 2) := by decide +kernel
theorem dX5_init_267 : decode cX5_init 267 = .ok (.iastore, 1) := by decide +kernel
theorem dX5_init_268 : decode cX5_init 268 = .ok (.dup, 1) := by decide +kernel
theorem dX5_init_269 : decode cX5_init 269 = .ok (.bipush 29, 2) := by decide +kernel
theorem dX5_init_271 : decode cX5_init 271 = .ok (.ldc 77, 2) := by decide +kernel
theorem dX5_init_273 : decode cX5_init 273 = .ok (.iastore, 1) := by decide +kernel
theorem dX5_init_274 : decode cX5_init 274 = .ok (.dup, 1) := by decide +kernel
theorem dX5_init_275 : decode cX5_init 275 = .ok (.bipush 30, 2) := by decide +kernel
theorem dX5_init_277 : decode cX5_init 277 = .ok (.ldc 78, 2) := by decide +kernel
theorem dX5_init_279 : decode cX5_init 279 = .ok (.iastore, 1) := by decide +kernel
theorem dX5_init_280 : decode cX5_init 280 = .ok (.dup, 1) := by decide +kernel
theorem dX5_init_281 : decode cX5_init 281 = .ok (.bipush 31, 2) := by decide +kernel
theorem dX5_init_283 : decode cX5_init 283 = .ok (.ldc 79, 2) := by decide +kernel
theorem dX5_init_285 : decode cX5_init 285 = .ok (.iastore, 1) := by decide +kernel
theorem dX5_init_286 : decode cX5_init 286 = .ok (.dup, 1) := by decide +kernel
theorem dX5_init_287 : decode cX5_init 287 = .ok (.bipush 32, 2) := by decide +kernel
theorem dX5_init_289 : decode cX5_init 289 = .ok (.ldc 80, 2) := by decide +kernel
theorem dX5_init_291 : decode cX5_init 291 = .ok (.iastore, 1) := by decide +kernel
theorem dX5_init_292 : decode cX5_init 292 = .ok (.dup, 1) := by decide +kernel
theorem dX5_init_293 : decode cX5_init 293 = .ok (.bipush 33, 2) := by decide +kernel
theorem dX5_init_295 : decode cX5_init 295 = .ok (.ldc 81, 2) := by decide +kernel
theorem dX5_init_297 : decode cX5_init 297 = .ok (.iastore, 1) := by decide +kernel
theorem dX5_init_298 : decode cX5_init 298 = .ok (.dup, 1) := by decide +kernel
theorem dX5_init_299 : decode cX5_init 299 = .ok (.bipush 34, 2) := by decide +kernel
theorem dX5_init_301 : decode cX5_init 301 = .ok (.ldc 82, 2) := by decide +kernel
theorem dX5_init_303 : decode cX5_init 303 = .ok (.iastore, 1) := by decide +kernel
theorem dX5_init_304 : decode cX5_init 304 = .ok (.dup, 1) := by decide +kernel
theorem dX5_init_305 : decode cX5_init 305 = .ok (.bipush 35, 2) := by decide +kernel
theorem dX5_init_307 : decode cX5_init 307 = .ok (.ldc 83, 2) := by decide +kernel
theorem dX5_init_309 : decode cX5_init 309 = .ok (.iastore, 1) := by decide +kernel
theorem dX5_init_310 : decode cX5_init 310 = .ok (.dup, 1) := by decide +kernel
theorem dX5_init_311 : decode cX5_init 311 = .ok (.bipush 36, 2) := by decide +kernel
theorem dX5_init_313 : decode cX5_init 313 = .ok (.ldc 84, 2) := by decide +kernel
theorem dX5_init_315 : decode cX5_init 315 = .ok (.iastore, 1) := by decide +kernel
theorem dX5_init_316 : decode cX5_init 316 = .ok (.dup, 1) := by decide +kernel
theorem dX5_init_317 : decode cX5_init 317 = .ok (.bipush 37, 2) := by decide +kernel
theorem dX5_init_319 : decode cX5_init 319 = .ok (.ldc 85, 2) := by decide +kernel
theorem dX5_init_321 : decode cX5_init 321 = .ok (.iastore, 1) := by decide +kernel
theorem dX5_init_322 : decode cX5_init 322 = .ok (.dup, 1) := by decide +kernel
theorem dX5_init_323 : decode cX5_init 323 = .ok (.bipush 38, 2) := by decide +kernel
theorem dX5_init_325 : decode cX5_init 325 = .ok (.ldc 86, 2) := by decide +kernel
theorem dX5_init_327 : decode cX5_init 327 = .ok (.iastore, 1) := by decide +kernel
theorem dX5_init_328 : decode cX5_init 328 = .ok (.dup, 1) := by decide +kernel
theorem dX5_init_329 : decode cX5_init 329 = .ok (.bipush 39, 2) := by decide +kernel
theorem dX5_init_331 : decode cX5_init 331 = .ok (.ldc 87, 2) := by decide +kernel
theorem dX5_init_333 : decode cX5_init 333 = .ok (.iastore, 1) := by decide +kernel
theorem dX5_init_334 : decode cX5_init 334 = .ok (.dup, 1) := by decide +kernel
theorem dX5_init_335 : decode cX5_init 335 = .ok (.bipush 40, 2) := by decide +kernel
theorem dX5_init_337 : decode cX5_init 337 = .ok (.ldc 88, 2) := by decide +kernel
theorem dX5_init_339 : decode cX5_init 339 = .ok (.iastore, 1) := by decide +kernel
theorem dX5_init_340 : decode cX5_init 340 = .ok (.dup, 1) := by decide +kernel
theorem dX5_init_341 : decode cX5_init 341 = .ok (.bipush 41, 2) := by decide +kernel
theorem dX5_init_343 : decode cX5_init 343 = .ok (.ldc 89, 2) := by decide +kernel
theorem dX5_init_345 : decode cX5_init 345 = .ok (.iastore, 1) := by decide +kernel
theorem dX5_init_346 : decode cX5_init 346 = .ok (.dup, 1) := by decide +kernel
theorem dX5_init_347 : decode cX5_init 347 = .ok (.bipush 42, 2) := by decide +kernel
theorem dX5_init_349 : decode cX5_init 349 = .ok (.ldc 90, 2) := by decide +kernel
theorem dX5_init_351 : decode cX5_init 351 = .ok (.iastore, 1) := by decide +kernel
theorem dX5_init_352 : decode cX5_init 352 = .ok (.dup, 1) := by decide +kernel
theorem dX5_init_353 : decode cX5_init 353 = .ok (.bipush 43, 2) := by decide +kernel
theorem dX5_init_355 : decode cX5_init 355 = .ok (.ldc 91, 2) := by decide +kernel
theorem dX5_init_357 : decode cX5_init 357 = .ok (.iastore, 1) := by decide +kernel
theorem dX5_init_358 : decode cX5_init 358 = .ok (.dup, 1) := by decide +kernel
theorem dX5_init_359 : decode cX5_init 359 = .ok (.bipush 44, 2) := by decide +kernel
theorem dX5_init_361 : decode cX5_init 361 = .ok (.ldc 92, 2) := by decide +kernel
theorem dX5_init_363 : decode cX5_init 363 = .ok (.iastore, 1) := by decide +kernel
theorem dX5_init_364 : decode cX5_init 364 = .ok (.dup, 1) := by decide +kernel
theorem dX5_init_365 : decode cX5_init 365 = .ok (.bipush 45, 2) := by decide +kernel
theorem dX5_init_367 : decode cX5_init 367 = .ok (.ldc 93, 2) := by decide +kernel
theorem dX5_init_369 : decode cX5_init 369 = .ok (.iastore, 1) := by decide +kernel
theorem dX5_init_370 : decode cX5_init 370 = .ok (.dup, 1) := by decide +kernel
theorem dX5_init_371 : decode cX5_init 371 = .ok (.bipush 46, 2) := by decide +kernel
theorem dX5_init_373 : decode cX5_init 373 = .ok (.ldc 94, 2) := by decide +kernel
theorem dX5_init_375 : decode cX5_init 375 = .ok (.iastore, 1) := by decide +kernel
theorem dX5_init_376 : decode cX5_init 376 = .ok (.dup, 1) := by decide +kernel
theorem dX5_init_377 : decode cX5_init 377 = .ok (.bipush 47, 2) := by decide +kernel
theorem dX5_init_379 : decode cX5_init 379 = .ok (.ldc 95, 2) := by decide +kernel
theorem dX5_init_381 : decode cX5_init 381 = .ok (.iastore, 1) := by decide +kernel
theorem dX5_init_382 : decode cX5_init 382 = .ok (.dup, 1) := by decide +kernel
theorem dX5_init_383 : decode cX5_init 383 = .ok (.bipush 48, 2) := by decide +kernel
theorem dX5_init_385 : decode cX5_init 385 = .ok (.ldc 96, 2) := by decide +kernel
theorem dX5_init_387 : decode cX5_init 387 = .ok (.iastore, 1) := by decide +kernel
theorem dX5_init_388 : decode cX5_init 388 = .ok (.dup, 1) := by decide +kernel
theorem dX5_init_389 : decode cX5_init 389 = .ok (.bipush 49, 2) := by decide +kernel
theorem dX5_init_391 : decode cX5_init 391 = .ok (.ldc 97, 2) := by decide +kernel
theorem dX5_init_393 : decode cX5_init 393 = .ok (.iastore, 1) := by decide +kernel
theorem dX5_init_394 : decode cX5_init 394 = .ok (.dup, 1) := by decide +kernel
theorem dX5_init_395 : decode cX5_init 395 = .ok (.bipush 50, 2) := by decide +kernel
theorem dX5_init_397 : decode cX5_init 397 = .ok (.ldc 98, 2) := by decide +kernel
theorem dX5_init_399 : decode cX5_init 399 = .ok (.iastore, 1) := by decide +kernel
theorem dX5_init_400 : decode cX5_init 400 = .ok (.dup, 1) := by decide +kernel
theorem dX5_init_401 : decode cX5_init 401 = .ok (.bipush 51, 2) := by decide +kernel
theorem dX5_init_403 : decode cX5_init 403 = .ok (.ldc 99, 2) := by decide +kernel
theorem dX5_init_405 : decode cX5_init 405 = .ok (.iastore, 1) := by decide +kernel
theorem dX5_init_406 : decode cX5_init 406 = .ok (.dup, 1) := by decide +kernel
theorem dX5_init_407 : decode cX5_init 407 = .ok (.bipush 52, 2) := by decide +kernel
theorem dX5_init_409 : decode cX5_init 409 = .ok (.ldc 100, 2) := by decide +kernel
theorem dX5_init_411 : decode cX5_init 411 = .ok (.iastore, 1) := by decide +kernel
theorem dX5_init_412 : decode cX5_init 412 = .ok (.dup, 1) := by decide +kernel
theorem dX5_init_413 : decode cX5_init 413 = .ok (.bipush 53, 2) := by decide +kernel
theorem dX5_init_415 : decode cX5_init 415 = .ok (.ldc 101, 2) := by decide +kernel
theorem dX5_init_417 : decode cX5_init 417 = .ok (.iastore, 1) := by decide +kernel
theorem dX5_init_418 : decode cX5_init 418 = .ok (.dup, 1) := by decide +kernel
theorem dX5_init_419 : decode cX5_init 419 = .ok (.bipush 54, 2) := by decide +kernel
theorem dX5_init_421 : decode cX5_init 421 = .ok (.ldc 102, 2) := by decide +kernel
theorem dX5_init_423 : decode cX5_init 423 = .ok (.iastore, 1) := by decide +kernel
theorem dX5_init_424 : decode cX5_init 424 = .ok (.dup, 1) := by decide +kernel
theorem dX5_init_425 : decode cX5_init 425 = .ok (.bipush 55, 2) := by decide +kernel
theorem dX5_init_427 : decode cX5_init 427 = .ok (.ldc 103, 2) := by decide +kernel
theorem dX5_init_429 : decode cX5_init 429 = .ok (.iastore, 1) := by decide +kernel
theorem dX5_init_430 : decode cX5_init 430 = .ok (.dup, 1) := by decide +kernel
theorem dX5_init_431 : decode cX5_init 431 = .ok (.bipush 56, 2) := by decide +kernel
theorem dX5_init_433 : decode cX5_init 433 = .ok (.ldc 104, 2) := by decide +kernel
theorem dX5_init_435 : decode cX5_init 435 = .ok (.iastore, 1) := by decide +kernel
theorem dX5_init_436 : decode cX5_init 436 = .ok (.dup, 1) := by decide +kernel
theorem dX5_init_437 : decode cX5_init 437 = .ok (.bipush 57, 2) := by decide +kernel
theorem dX5_init_439 : decode cX5_init 439 = .ok (.ldc 105, 2) := by decide +kernel
theorem dX5_init_441 : decode cX5_init 441 = .ok (.iastore, 1) := by decide +kernel
theorem dX5_init_442 : decode cX5_init 442 = .ok (.dup, 1) := by decide +kernel
theorem dX5_init_443 : decode cX5_init 443 = .ok (.bipush 58, 2) := by decide +kernel
theorem dX5_init_445 : decode cX5_init 445 = .ok (.ldc 106, 2) := by decide +kernel
theorem dX5_init_447 : decode cX5_init 447 = .ok (.iastore, 1) := by decide +kernel
theorem dX5_init_448 : decode cX5_init 448 = .ok (.dup, 1) := by decide +kernel
theorem dX5_init_449 : decode cX5_init 449 = .ok (.bipush 59, 2) := by decide +kernel
theorem dX5_init_451 : decode cX5_init 451 = .ok (.ldc 107, 2) := by decide +kernel
theorem dX5_init_453 : decode cX5_init 453 = .ok (.iastore, 1) := by decide +kernel
theorem dX5_init_454 : decode cX5_init 454 = .ok (.dup, 1) := by decide +kernel
theorem dX5_init_455 : decode cX5_init 455 = .ok (.bipush 60, 2) := by decide +kernel
theorem dX5_init_457 : decode cX5_init 457 = .ok (.ldc 108, 2) := by decide +kernel
theorem dX5_init_459 : decode cX5_init 459 = .ok (.iastore, 1) := by decide +kernel
theorem dX5_init_460 : decode cX5_init 460 = .ok (.dup, 1) := by decide +kernel
theorem dX5_init_461 : decode cX5_init 461 = .ok (.bipush 61, 2) := by decide +kernel
theorem dX5_init_463 : decode cX5_init 463 = .ok (.ldc 109, 2) := by decide +kernel
theorem dX5_init_465 : decode cX5_init 465 = .ok (.iastore, 1) := by decide +kernel
theorem dX5_init_466 : decode cX5_init 466 = .ok (.dup, 1) := by decide +kernel
theorem dX5_init_467 : decode cX5_init 467 = .ok (.bipush 62, 2) := by decide +kernel
theorem dX5_init_469 : decode cX5_init 469 = .ok (.ldc 110, 2) := by decide +kernel
theorem dX5_init_471 : decode cX5_init 471 = .ok (.iastore, 1) := by decide +kernel
theorem dX5_init_472 : decode cX5_init 472 = .ok (.dup, 1) := by decide +kernel
theorem dX5_init_473 : decode cX5_init 473 = .ok (.bipush 63, 2) := by decide +kernel
theorem dX5_init_475 : decode cX5_init 475 = .ok (.ldc 111, 2) := by decide +kernel
theorem dX5_init_477 : decode cX5_init 477 = .ok (.iastore, 1) := by decide +kernel
theorem dX5_init_478 : decode cX5_init 478 = .ok (.putfield 112, 3) := by decide +kernel
theorem dX5_init_481 : decode cX5_init 481 = .ok (.aload_n 0, 1) := by decide +kernel
theorem dX5_init_482 : decode cX5_init 482 = .ok (.bipush 16, 2) := by decide +kernel
theorem dX5_init_484 : decode cX5_init 484 = .ok (.newarray .int, 2) := by decide +kernel
theorem dX5_init_486 : decode cX5_init 486 = .ok (.dup, 1) := by decide +kernel
theorem dX5_init_487 : decode cX5_init 487 = .ok (.iconst 0, 1) := by decide +kernel
theorem dX5_init_488 : decode cX5_init 488 = .ok (.bipush 7, 2) := by decide +kernel
theorem dX5_init_490 : decode cX5_init 490 = .ok (.iastore, 1) := by decide +kernel
theorem dX5_init_491 : decode cX5_init 491 = .ok (.dup, 1) := by decide +kernel
theorem dX5_init_492 : decode cX5_init 492 = .ok (.iconst 1, 1) := by decide +kernel
theorem dX5_init_493 : decode cX5_init 493 = .ok (.bipush 12, 2) := by decide +kernel
theorem dX5_init_495 : decode cX5_init 495 = .ok (.iastore, 1) := by decide +kernel
theorem dX5_init_496 : decode cX5_init 496 = .ok (.dup, 1) := by decide +kernel
theorem dX5_init_497 : decode cX5_init 497 = .ok (.iconst 2, 1) := by decide +kernel
theorem dX5_init_498 : decode cX5_init 498 = .ok (.bipush 17, 2) := by decide +kernel
theorem dX5_init_500 : decode cX5_init 500 = .ok (.iastore, 1) := by decide +kernel
theorem dX5_init_501 : decode cX5_init 501 = .ok (.dup, 1) := by decide +kernel
theorem dX5_init_502 : decode cX5_init 502 = .ok (.iconst 3, 1) := by decide +kernel
theorem dX5_init_503 : decode cX5_init 503 = .ok (.bipush 22, 2) := by decide +kernel
theorem dX5_init_505 : decode cX5_init 505 = .ok (.iastore, 1) := by decide +kernel
theorem dX5_init_506 : decode cX5_init 506 = .ok (.dup, 1) := by decide +kernel
theorem dX5_init_507 : decode cX5_init 507 = .ok (.iconst 4, 1) := by decide +kernel
theorem dX5_init_508 : decode cX5_init 508 = .ok (.iconst 5, 1) := by decide +kernel
theorem dX5_init_509 : decode cX5_init 509 = .ok (.iastore, 1) := by decide +kernel
theorem dX5_init_510 : decode cX5_init 510 = .ok (.dup, 1) := by decide +kernel
theorem dX5_init_511 : decode cX5_init 511 = .ok (.iconst 5, 1) := by decide +kernel
theorem dX5_init_512 : decode cX5_init 512 = .ok (.bipush 9, 2) := by decide +kernel
theorem dX5_init_514 : decode cX5_init 514 = .ok (.iastore, 1) := by decide +kernel
theorem dX5_init_515 : decode cX5_init 515 = .ok (.dup, 1) := by decide +kernel
theorem dX5_init_516 : decode cX5_init 516 = .ok (.bipush 6, 2) := by decide +kernel
theorem dX5_init_518 : decode cX5_init 518 = .ok (.bipush 14, 2) := by decide +kernel
theorem dX5_init_520 : decode cX5_init 520 = .ok (.iastore, 1) := by decide +kernel
theorem dX5_init_521 : decode cX5_init 521 = .ok (.dup, 1) := by decide +kernel
theorem dX5_init_522 : decode cX5_init 522 = .ok (.bipush 7, 2) := by decide +kernel
theorem dX5_init_524 : decode cX5_init 524 = .ok (.bipush 20, 2) := by decide +kernel
theorem dX5_init_526 : decode cX5_init 526 = .ok (.iastore, 1) := by decide +kernel
theorem dX5_init_527 : decode cX5_init 527 = .ok (.dup, 1) := by decide +kernel
theorem dX5_init_528 : decode cX5_init 528 = .ok (.bipush 8, 2) := by decide +kernel
theorem dX5_init_530 : decode cX5_init 530 = .ok (.iconst 4, 1) := by decide +kernel
theorem dX5_init_531 : decode cX5_init 531 = .ok (.iastore, 1) := by decide +kernel
theorem dX5_init_532 : decode cX5_init 532 = .ok (.dup, 1) := by decide +kernel
theorem dX5_init_533 : decode cX5_init 533 = .ok (.bipush 9, 2) := by decide +kernel
theorem dX5_init_535 : decode cX5_init 535 = .ok (.bipush 11, 2) := by decide +kernel
theorem dX5_init_537 : decode cX5_init 537 = .ok (.iastore, 1) := by decide +kernel
theorem dX5_init_538 : decode cX5_init 538 = .ok (.dup, 1) := by decide +kernel
theorem dX5_init_539 : decode cX5_init 539 = .ok (.bipush 10, 2) := by decide +kernel
theorem dX5_init_541 : decode cX5_init 541 = .ok (.bipush 16, 2) := by decide +kernel
theorem dX5_init_543 : decode cX5_init 543 = .ok (.iastore, 1) := by decide +kernel
theorem dX5_init_544 : decode cX5_init 544 = .ok (.dup, 1) := by decide +kernel
theorem dX5_init_545 : decode cX5_init 545 = .ok (.bipush 11, 2) := by decide +kernel
theorem dX5_init_547 : decode cX5_init 547 = .ok (.bipush 23, 2) := by decide +kernel
theorem dX5_init_549 : decode cX5_init 549 = .ok (.iastore, 1) := by decide +kernel
theorem dX5_init_550 : decode cX5_init 550 = .ok (.dup, 1) := by decide +kernel
theorem dX5_init_551 : decode cX5_init 551 = .ok (.bipush 12, 2) := by decide +kernel
theorem dX5_init_553 : decode cX5_init 553 = .ok (.bipush 6, 2) := by decide +kernel
theorem dX5_init_555 : decode cX5_init 555 = .ok (.iastore, 1) := by decide +kernel
theorem dX5_init_556 : decode cX5_init 556 = .ok (.dup, 1) := by decide +kernel
theorem dX5_init_557 : decode cX5_init 557 = .ok (.bipush 13, 2) := by decide +kernel
theorem dX5_init_559 : decode cX5_init 559 = .ok (.bipush 10, 2) := by decide +kernel
theorem dX5_init_561 : decode cX5_init 561 = .ok (.iastore, 1) := by decide +kernel
theorem dX5_init_562 : decode cX5_init 562 = .ok (.dup, 1) := by decide +kernel
theorem dX5_init_563 : decode cX5_init 563 = .ok (.bipush 14, 2) := by decide +kernel
theorem dX5_init_565 : decode cX5_init 565 = .ok (.bipush 15, 2) := by decide +kernel
theorem dX5_init_567 : decode cX5_init 567 = .ok (.iastore, 1) := by decide +kernel
theorem dX5_init_568 : decode cX5_init 568 = .ok (.dup, 1) := by decide +kernel
theorem dX5_init_569 : decode cX5_init 569 = .ok (.bipush 15, 2) := by decide +kernel
theorem dX5_init_571 : decode cX5_init 571 = .ok (.bipush 21, 2) := by decide +kernel
theorem dX5_init_573 : decode cX5_init 573 = .ok (.iastore, 1) := by decide +kernel
theorem dX5_init_574 : decode cX5_init 574 = .ok (.putfield 115, 3) := by decide +kernel
theorem dX5_init_577 : decode cX5_init 577 = .ok (.aload_n 0, 1) := by decide +kernel
theorem dX5_init_578 : decode cX5_init 578 = .ok (.sipush 2000, 3) := by decide +kernel
theorem dX5_init_581 : decode cX5_init 581 = .ok (.newarray .int, 2) := by decide +kernel
theorem dX5_init_583 : decode cX5_init 583 = .ok (.putfield 118, 3) := by decide +kernel
theorem dX5_init_586 : decode cX5_init 586 = .ok (.aload_n 0, 1) := by decide +kernel
theorem dX5_init_587 : decode cX5_init 587 = .ok (.bipush 16, 2) := by decide +kernel
theorem dX5_init_589 : decode cX5_init 589 = .ok (.putfield 20, 3) := by decide +kernel
theorem dX5_init_592 : decode cX5_init 592 = .ok (.return_, 1) := by decide +kernel
theorem dX5_isFile_0 : decode cX5_isFile 0 = .ok (.iload_n 0, 1) := by decide +kernel
theorem dX5_isFile_1 : decode cX5_isFile 1 = .ok (.ifCond .eq 8, 3) := by decide +kernel
theorem dX5_isFile_4 : decode cX5_isFile 4 = .ok (.iload_n 0, 1) := by decide +kernel
theorem dX5_isFile_5 : decode cX5_isFile 5 = .ok (.iconst 1, 1) := by decide +kernel
theorem dX5_isFile_6 : decode cX5_isFile 6 = .ok (.if_icmp .ne 7, 3) := by decide +kernel
theorem dX5_isFile_9 : decode cX5_isFile 9 = .ok (.iconst 1, 1) := by decide +kernel
theorem dX5_isFile_10 : decode cX5_isFile 10 = .ok (.goto 4, 3) := by decide +kernel
theorem dX5_isFile_13 : decode cX5_isFile 13 = .ok (.iconst 0, 1) := by decide +kernel
theorem dX5_isFile_14 : decode cX5_isFile 14 = .ok (.ireturn, 1) := by decide +kernel
theorem dX5_feed_0 : decode cX5_feed 0 = .ok (.iload_n 1, 1) := by decide +kernel
theorem dX5_feed_1 : decode cX5_feed 1 = .ok (.invokestatic 121, 3) := by decide +kernel
theorem dX5_feed_4 : decode cX5_feed 4 = .ok (.ifCond .eq 17, 3) := by decide +kernel
theorem dX5_feed_7 : decode cX5_feed 7 = .ok (.aload_n 0, 1) := by decide +kernel
theorem dX5_feed_8 : decode cX5_feed 8 = .ok (.getfield 13, 3) := by decide +kernel
theorem dX5_feed_11 : decode cX5_feed 11 = .ok (.iload_n 1, 1) := by decide +kernel
theorem dX5_feed_12 : decode cX5_feed 12 = .ok (.iaload, 1) := by decide +kernel
theorem dX5_feed_13 : decode cX5_feed 13 = .ok (.iconst 4, 1) := by decide +kernel
theorem dX5_feed_14 : decode cX5_feed 14 = .ok (.iadd, 1) := by decide +kernel
theorem dX5_feed_15 : decode cX5_feed 15 = .ok (.sipush 2000, 3) := by decide +kernel
theorem dX5_feed_18 : decode cX5_feed 18 = .ok (.if_icmp .le 5, 3) := by decide +kernel
theorem dX5_feed_21 : decode cX5_feed 21 = .ok (.iconst (-1), 1) := by decide +kernel
theorem dX5_feed_22 : decode cX5_feed 22 = .ok (.ireturn, 1) := by decide +kernel
theorem dX5_feed_23 : decode cX5_feed 23 = .ok (.bipush 24, 2) := by decide +kernel
theorem dX5_feed_25 : decode cX5_feed 25 = .ok (.istore_n 3, 1) := by decide +kernel
theorem dX5_feed_26 : decode cX5_feed 26 = .ok (.iload_n 3, 1) := by decide +kernel
theorem dX5_feed_27 : decode cX5_feed 27 = .ok (.ifCond .lt 40, 3) := by decide +kernel
theorem dX5_feed_30 : decode cX5_feed 30 = .ok (.aload_n 0, 1) := by decide +kernel
theorem dX5_feed_31 : decode cX5_feed 31 = .ok (.getfield 7, 3) := by decide +kernel
theorem dX5_feed_34 : decode cX5_feed 34 = .ok (.sipush 2000, 3) := by decide +kernel
theorem dX5_feed_37 : decode cX5_feed 37 = .ok (.iload_n 1, 1) := by decide +kernel
theorem dX5_feed_38 : decode cX5_feed 38 = .ok (.imul, 1) := by decide +kernel
theorem dX5_feed_39 : decode cX5_feed 39 = .ok (.aload_n 0, 1) := by decide +kernel
theorem dX5_feed_40 : decode cX5_feed 40 = .ok (.getfield 13, 3) := by decide +kernel
theorem dX5_feed_43 : decode cX5_feed 43 = .ok (.iload_n 1, 1) := by decide +kernel
theorem dX5_feed_44 : decode cX5_feed 44 = .ok (.iaload, 1) := by decide +kernel
theorem dX5_feed_45 : decode cX5_feed 45 = .ok (.iadd, 1) := by decide +kernel
theorem dX5_feed_46 : decode cX5_feed 46 = .ok (.iload_n 2, 1) := by decide +kernel
theorem dX5_feed_47 : decode cX5_feed 47 = .ok (.iload_n 3, 1) := by decide +kernel
theorem dX5_feed_48 : decode cX5_feed 48 = .ok (.ishr, 1) := by decide +kernel
theorem dX5_feed_49 : decode cX5_feed 49 = .ok (.i2b, 1) := by decide +kernel
theorem dX5_feed_50 : decode cX5_feed 50 = .ok (.bastore, 1) := by decide +kernel
theorem dX5_feed_51 : decode cX5_feed 51 = .ok (.aload_n 0, 1) := by decide +kernel
theorem dX5_feed_52 : decode cX5_feed 52 = .ok (.getfield 13, 3) := by decide +kernel
theorem dX5_feed_55 : decode cX5_feed 55 = .ok (.iload_n 1, 1) := by decide +kernel
theorem dX5_feed_56 : decode cX5_feed 56 = .ok (.dup2, 1) := by decide +kernel
theorem dX5_feed_57 : decode cX5_feed 57 = .ok (.iaload, 1) := by decide +kernel
theorem dX5_feed_58 : decode cX5_feed 58 = .ok (.iconst 1, 1) := by decide +kernel
theorem dX5_feed_59 : decode cX5_feed 59 = .ok (.iadd, 1) := by decide +kernel
theorem dX5_feed_60 : decode cX5_feed 60 = .ok (.iastore, 1) := by decide +kernel
theorem dX5_feed_61 : decode cX5_feed 61 = .ok (.iinc 3 (-8), 3) := by decide +kernel
theorem dX5_feed_64 : decode cX5_feed 64 = .ok (.goto (-38), 3) := by decide +kernel
theorem dX5_feed_67 : decode cX5_feed 67 = .ok (.aload_n 0, 1) := by decide +kernel
theorem dX5_feed_68 : decode cX5_feed 68 = .ok (.getfield 13, 3) := by decide +kernel
theorem dX5_feed_71 : decode cX5_feed 71 = .ok (.iload_n 1, 1) := by decide +kernel
theorem dX5_feed_72 : decode cX5_feed 72 = .ok (.iaload, 1) := by decide +kernel
theorem dX5_feed_73 : decode cX5_feed 73 = .ok (.ireturn, 1) := by decide +kernel
theorem dX5_cut_0 : decode cX5_cut 0 = .ok (.iload_n 1, 1) := by decide +kernel
theorem dX5_cut_1 : decode cX5_cut 1 = .ok (.invokestatic 121, 3) := by decide +kernel
theorem dX5_cut_4 : decode cX5_cut 4 = .ok (.ifCond .eq 17, 3) := by decide +kernel
theorem dX5_cut_7 : decode cX5_cut 7 = .ok (.iload_n 2, 1) := by decide +kernel
theorem dX5_cut_8 : decode cX5_cut 8 = .ok (.ifCond .lt 13, 3) := by decide +kernel
theorem dX5_cut_11 : decode cX5_cut 11 = .ok (.iload_n 2, 1) := by decide +kernel
theorem dX5_cut_12 : decode cX5_cut 12 = .ok (.aload_n 0, 1) := by decide +kernel
theorem dX5_cut_13 : decode cX5_cut 13 = .ok (.getfield 13, 3) := by decide +kernel
theorem dX5_cut_16 : decode cX5_cut 16 = .ok (.iload_n 1, 1) := by decide +kernel
theorem dX5_cut_17 : decode cX5_cut 17 = .ok (.iaload, 1) := by decide +kernel
theorem dX5_cut_18 : decode cX5_cut 18 = .ok (.if_icmp .le 5, 3) := by decide +kernel
theorem dX5_cut_21 : decode cX5_cut 21 = .ok (.iconst 0, 1) := by decide +kernel
theorem dX5_cut_22 : decode cX5_cut 22 = .ok (.ireturn, 1) := by decide +kernel
theorem dX5_cut_23 : decode cX5_cut 23 = .ok (.aload_n 0, 1) := by decide +kernel
theorem dX5_cut_24 : decode cX5_cut 24 = .ok (.getfield 13, 3) := by decide +kernel
theorem dX5_cut_27 : decode cX5_cut 27 = .ok (.iload_n 1, 1) := by decide +kernel
theorem dX5_cut_28 : decode cX5_cut 28 = .ok (.iload_n 2, 1) := by decide +kernel
theorem dX5_cut_29 : decode cX5_cut 29 = .ok (.iastore, 1) := by decide +kernel
theorem dX5_cut_30 : decode cX5_cut 30 = .ok (.iconst 1, 1) := by decide +kernel
theorem dX5_cut_31 : decode cX5_cut 31 = .ok (.ireturn, 1) := by decide +kernel
theorem dX5_put_0 : decode cX5_put 0 = .ok (.iload_n 1, 1) := by decide +kernel
theorem dX5_put_1 : decode cX5_put 1 = .ok (.invokestatic 121, 3) := by decide +kernel
theorem dX5_put_4 : decode cX5_put 4 = .ok (.ifCond .eq 28, 3) := by decide +kernel
theorem dX5_put_7 : decode cX5_put 7 = .ok (.iload_n 2, 1) := by decide +kernel
theorem dX5_put_8 : decode cX5_put 8 = .ok (.ifCond .lt 24, 3) := by decide +kernel
theorem dX5_put_11 : decode cX5_put 11 = .ok (.iload_n 2, 1) := by decide +kernel
theorem dX5_put_12 : decode cX5_put 12 = .ok (.aload_n 0, 1) := by decide +kernel
theorem dX5_put_13 : decode cX5_put 13 = .ok (.getfield 13, 3) := by decide +kernel
theorem dX5_put_16 : decode cX5_put 16 = .ok (.iload_n 1, 1) := by decide +kernel
theorem dX5_put_17 : decode cX5_put 17 = .ok (.iaload, 1) := by decide +kernel
theorem dX5_put_18 : decode cX5_put 18 = .ok (.if_icmp .ge 14, 3) := by decide +kernel
theorem dX5_put_21 : decode cX5_put 21 = .ok (.iload_n 3, 1) := by decide +kernel
theorem dX5_put_22 : decode cX5_put 22 = .ok (.ifCond .lt 10, 3) := by decide +kernel
theorem dX5_put_25 : decode cX5_put 25 = .ok (.iload_n 3, 1) := by decide +kernel
theorem dX5_put_26 : decode cX5_put 26 = .ok (.sipush 255, 3) := by decide +kernel
theorem dX5_put_29 : decode cX5_put 29 = .ok (.if_icmp .le 5, 3) := by decide +kernel
theorem dX5_put_32 : decode cX5_put 32 = .ok (.iconst 0, 1) := by decide +kernel
theorem dX5_put_33 : decode cX5_put 33 = .ok (.ireturn, 1) := by decide +kernel
theorem dX5_put_34 : decode cX5_put 34 = .ok (.aload_n 0, 1) := by decide +kernel
theorem dX5_put_35 : decode cX5_put 35 = .ok (.getfield 7, 3) := by decide +kernel
theorem dX5_put_38 : decode cX5_put 38 = .ok (.sipush 2000, 3) := by decide +kernel
theorem dX5_put_41 : decode cX5_put 41 = .ok (.iload_n 1, 1) := by decide +kernel
theorem dX5_put_42 : decode cX5_put 42 = .ok (.imul, 1) := by decide +kernel
theorem dX5_put_43 : decode cX5_put 43 = .ok (.iload_n 2, 1) := by decide +kernel
theorem dX5_put_44 : decode cX5_put 44 = .ok (.iadd, 1) := by decide +kernel
theorem dX5_put_45 : decode cX5_put 45 = .ok (.iload_n 3, 1) := by decide +kernel
theorem dX5_put_46 : decode cX5_put 46 = .ok (.i2b, 1) := by decide +kernel
theorem dX5_put_47 : decode cX5_put 47 = .ok (.bastore, 1) := by decide +kernel
theorem dX5_put_48 : decode cX5_put 48 = .ok (.iconst 1, 1) := by decide +kernel
theorem dX5_put_49 : decode cX5_put 49 = .ok (.ireturn, 1) := by decide +kernel
theorem dX5_shape_0 : decode cX5_shape 0 = .ok (.iload_n 1, 1) := by decide +kernel
theorem dX5_shape_1 : decode cX5_shape 1 = .ok (.iconst 1, 1) := by decide +kernel
theorem dX5_shape_2 : decode cX5_shape 2 = .ok (.if_icmp .lt 21, 3) := by decide +kernel
theorem dX5_shape_5 : decode cX5_shape 5 = .ok (.iload_n 1, 1) := by decide +kernel
theorem dX5_shape_6 : decode cX5_shape 6 = .ok (.sipush 256, 3) := by decide +kernel
theorem dX5_shape_9 : decode cX5_shape 9 = .ok (.if_icmp .gt 14, 3) := by decide +kernel
theorem dX5_shape_12 : decode cX5_shape 12 = .ok (.iload_n 2, 1) := by decide +kernel
theorem dX5_shape_13 : decode cX5_shape 13 = .ok (.iconst 1, 1) := by decide +kernel
theorem dX5_shape_14 : decode cX5_shape 14 = .ok (.if_icmp .lt 9, 3) := by decide +kernel
theorem dX5_shape_17 : decode cX5_shape 17 = .ok (.iload_n 2, 1) := by decide +kernel
theorem dX5_shape_18 : decode cX5_shape 18 = .ok (.bipush 16, 2) := by decide +kernel
theorem dX5_shape_20 : decode cX5_shape 20 = .ok (.if_icmp .le 5, 3) := by decide +kernel
theorem dX5_shape_23 : decode cX5_shape 23 = .ok (.iconst 0, 1) := by decide +kernel
theorem dX5_shape_24 : decode cX5_shape 24 = .ok (.ireturn, 1) := by decide +kernel
theorem dX5_shape_25 : decode cX5_shape 25 = .ok (.aload_n 0, 1) := by decide +kernel
theorem dX5_shape_26 : decode cX5_shape 26 = .ok (.iload_n 1, 1) := by decide +kernel
theorem dX5_shape_27 : decode cX5_shape 27 = .ok (.putfield 20, 3) := by decide +kernel
theorem dX5_shape_30 : decode cX5_shape 30 = .ok (.aload_n 0, 1) := by decide +kernel
theorem dX5_shape_31 : decode cX5_shape 31 = .ok (.iload_n 2, 1) := by decide +kernel
theorem dX5_shape_32 : decode cX5_shape 32 = .ok (.putfield 24, 3) := by decide +kernel
theorem dX5_shape_35 : decode cX5_shape 35 = .ok (.iconst 1, 1) := by decide +kernel
theorem dX5_shape_36 : decode cX5_shape 36 = .ok (.ireturn, 1) := by decide +kernel
theorem dX5_sumOf_0 : decode cX5_sumOf 0 = .ok (.iconst 0, 1) := by decide +kernel
theorem dX5_sumOf_1 : decode cX5_sumOf 1 = .ok (.istore_n 3, 1) := by decide +kernel
theorem dX5_sumOf_2 : decode cX5_sumOf 2 = .ok (.iconst 0, 1) := by decide +kernel
theorem dX5_sumOf_3 : decode cX5_sumOf 3 = .ok (.istore 4, 2) := by decide +kernel
theorem dX5_sumOf_5 : decode cX5_sumOf 5 = .ok (.iconst 0, 1) := by decide +kernel
theorem dX5_sumOf_6 : decode cX5_sumOf 6 = .ok (.istore 5, 2) := by decide +kernel
theorem dX5_sumOf_8 : decode cX5_sumOf 8 = .ok (.iload 5, 2) := by decide +kernel
theorem dX5_sumOf_10 : decode cX5_sumOf 10 = .ok (.iload_n 2, 1) := by decide +kernel
theorem dX5_sumOf_11 : decode cX5_sumOf 11 = .ok (.if_icmp .ge 47, 3) := by decide +kernel
theorem dX5_sumOf_14 : decode cX5_sumOf 14 = .ok (.aload_n 0, 1) := by decide +kernel
theorem dX5_sumOf_15 : decode cX5_sumOf 15 = .ok (.getfield 7, 3) := by decide +kernel
theorem dX5_sumOf_18 : decode cX5_sumOf 18 = .ok (.iload_n 1, 1) := by decide +kernel
theorem dX5_sumOf_19 : decode cX5_sumOf 19 = .ok (.iload 5, 2) := by decide +kernel
theorem dX5_sumOf_21 : decode cX5_sumOf 21 = .ok (.iadd, 1) := by decide +kernel
theorem dX5_sumOf_22 : decode cX5_sumOf 22 = .ok (.baload, 1) := by decide +kernel
theorem dX5_sumOf_23 : decode cX5_sumOf 23 = .ok (.sipush 255, 3) := by decide +kernel
theorem dX5_sumOf_26 : decode cX5_sumOf 26 = .ok (.iand, 1) := by decide +kernel
theorem dX5_sumOf_27 : decode cX5_sumOf 27 = .ok (.istore 6, 2) := by decide +kernel
theorem dX5_sumOf_29 : decode cX5_sumOf 29 = .ok (.iload_n 3, 1) := by decide +kernel
theorem dX5_sumOf_30 : decode cX5_sumOf 30 = .ok (.iload 6, 2) := by decide +kernel
theorem dX5_sumOf_32 : decode cX5_sumOf 32 = .ok (.iadd, 1) := by decide +kernel
theorem dX5_sumOf_33 : decode cX5_sumOf 33 = .ok (.ldc 125, 2) := by decide +kernel
theorem dX5_sumOf_35 : decode cX5_sumOf 35 = .ok (.iand, 1) := by decide +kernel
theorem dX5_sumOf_36 : decode cX5_sumOf 36 = .ok (.istore_n 3, 1) := by decide +kernel
theorem dX5_sumOf_37 : decode cX5_sumOf 37 = .ok (.iload 4, 2) := by decide +kernel
theorem dX5_sumOf_39 : decode cX5_sumOf 39 = .ok (.iload_n 2, 1) := by decide +kernel
theorem dX5_sumOf_40 : decode cX5_sumOf 40 = .ok (.iload 5, 2) := by decide +kernel
theorem dX5_sumOf_42 : decode cX5_sumOf 42 = .ok (.isub, 1) := by decide +kernel
theorem dX5_sumOf_43 : decode cX5_sumOf 43 = .ok (.iload 6, 2) := by decide +kernel
theorem dX5_sumOf_45 : decode cX5_sumOf 45 = .ok (.imul, 1) := by decide +kernel
theorem dX5_sumOf_46 : decode cX5_sumOf 46 = .ok (.iadd, 1) := by decide +kernel
theorem dX5_sumOf_47 : decode cX5_sumOf 47 = .ok (.ldc 125, 2) := by decide +kernel
theorem dX5_sumOf_49 : decode cX5_sumOf 49 = .ok (.iand, 1) := by decide +kernel
theorem dX5_sumOf_50 : decode cX5_sumOf 50 = .ok (.istore 4, 2) := by decide +kernel
theorem dX5_sumOf_52 : decode cX5_sumOf 52 = .ok (.iinc 5 1, 3) := by decide +kernel
theorem dX5_sumOf_55 : decode cX5_sumOf 55 = .ok (.goto (-47), 3) := by decide +kernel
theorem dX5_sumOf_58 : decode cX5_sumOf 58 = .ok (.iload 4, 2) := by decide +kernel
theorem dX5_sumOf_60 : decode cX5_sumOf 60 = .ok (.bipush 16, 2) := by decide +kernel
theorem dX5_sumOf_62 : decode cX5_sumOf 62 = .ok (.ishl, 1) := by decide +kernel
theorem dX5_sumOf_63 : decode cX5_sumOf 63 = .ok (.iload_n 3, 1) := by decide +kernel
theorem dX5_sumOf_64 : decode cX5_sumOf 64 = .ok (.ior, 1) := by decide +kernel
theorem dX5_sumOf_65 : decode cX5_sumOf 65 = .ok (.ireturn, 1) := by decide +kernel
theorem dX5_digestOf_0 : decode cX5_digestOf 0 = .ok (.iload_n 2, 1) := by decide +kernel
theorem dX5_digestOf_1 : decode cX5_digestOf 1 = .ok (.bipush 8, 2) := by decide +kernel
theorem dX5_digestOf_3 : decode cX5_digestOf 3 = .ok (.iadd, 1) := by decide +kernel
theorem dX5_digestOf_4 : decode cX5_digestOf 4 = .ok (.bipush 64, 2) := by decide +kernel
theorem dX5_digestOf_6 : decode cX5_digestOf 6 = .ok (.idiv, 1) := by decide +kernel
theorem dX5_digestOf_7 : decode cX5_digestOf 7 = .ok (.bipush 64, 2) := by decide +kernel
theorem dX5_digestOf_9 : decode cX5_digestOf 9 = .ok (.imul, 1) := by decide +kernel
theorem dX5_digestOf_10 : decode cX5_digestOf 10 = .ok (.bipush 64, 2) := by decide +kernel
theorem dX5_digestOf_12 : decode cX5_digestOf 12 = .ok (.iadd, 1) := by decide +kernel
theorem dX5_digestOf_13 : decode cX5_digestOf 13 = .ok (.istore_n 3, 1) := by decide +kernel
theorem dX5_digestOf_14 : decode cX5_digestOf 14 = .ok (.iconst 0, 1) := by decide +kernel
theorem dX5_digestOf_15 : decode cX5_digestOf 15 = .ok (.istore 4, 2) := by decide +kernel
theorem dX5_digestOf_17 : decode cX5_digestOf 17 = .ok (.iload 4, 2) := by decide +kernel
theorem dX5_digestOf_19 : decode cX5_digestOf 19 = .ok (.iload_n 3, 1) := by decide +kernel
theorem dX5_digestOf_20 : decode cX5_digestOf 20 = .ok (.if_icmp .ge 35, 3) := by decide +kernel
theorem dX5_digestOf_23 : decode cX5_digestOf 23 = .ok (.aload_n 0, 1) := by decide +kernel
theorem dX5_digestOf_24 : decode cX5_digestOf 24 = .ok (.getfield 39, 3) := by decide +kernel
theorem dX5_digestOf_27 : decode cX5_digestOf 27 = .ok (.iload 4, 2) := by decide +kernel
theorem dX5_digestOf_29 : decode cX5_digestOf 29 = .ok (.iload 4, 2) := by decide +kernel
theorem dX5_digestOf_31 : decode cX5_digestOf 31 = .ok (.iload_n 2, 1) := by decide +kernel
theorem dX5_digestOf_32 : decode cX5_digestOf 32 = .ok (.if_icmp .ge 15, 3) := by decide +kernel
theorem dX5_digestOf_35 : decode cX5_digestOf 35 = .ok (.aload_n 0, 1) := by decide +kernel
theorem dX5_digestOf_36 : decode cX5_digestOf 36 = .ok (.getfield 7, 3) := by decide +kernel
theorem dX5_digestOf_39 : decode cX5_digestOf 39 = .ok (.iload_n 1, 1) := by decide +kernel
theorem dX5_digestOf_40 : decode cX5_digestOf 40 = .ok (.iload 4, 2) := by decide +kernel
theorem dX5_digestOf_42 : decode cX5_digestOf 42 = .ok (.iadd, 1) := by decide +kernel
theorem dX5_digestOf_43 : decode cX5_digestOf 43 = .ok (.baload, 1) := by decide +kernel
theorem dX5_digestOf_44 : decode cX5_digestOf 44 = .ok (.goto 4, 3) := by decide +kernel
theorem dX5_digestOf_47 : decode cX5_digestOf 47 = .ok (.iconst 0, 1) := by decide +kernel
theorem dX5_digestOf_48 : decode cX5_digestOf 48 = .ok (.bastore, 1) := by decide +kernel
theorem dX5_digestOf_49 : decode cX5_digestOf 49 = .ok (.iinc 4 1, 3) := by decide +kernel
theorem dX5_digestOf_52 : decode cX5_digestOf 52 = .ok (.goto (-35), 3) := by decide +kernel
theorem dX5_digestOf_55 : decode cX5_digestOf 55 = .ok (.aload_n 0, 1) := by decide +kernel
theorem dX5_digestOf_56 : decode cX5_digestOf 56 = .ok (.getfield 39, 3) := by decide +kernel
theorem dX5_digestOf_59 : decode cX5_digestOf 59 = .ok (.iload_n 2, 1) := by decide +kernel
theorem dX5_digestOf_60 : decode cX5_digestOf 60 = .ok (.bipush (-128), 2) := by decide +kernel
theorem dX5_digestOf_62 : decode cX5_digestOf 62 = .ok (.bastore, 1) := by decide +kernel
theorem dX5_digestOf_63 : decode cX5_digestOf 63 = .ok (.ldc2_w 126, 3) := by decide +kernel
theorem dX5_digestOf_66 : decode cX5_digestOf 66 = .ok (.iload_n 2, 1) := by decide +kernel
theorem dX5_digestOf_67 : decode cX5_digestOf 67 = .ok (.i2l, 1) := by decide +kernel
theorem dX5_digestOf_68 : decode cX5_digestOf 68 = .ok (.lmul, 1) := by decide +kernel
theorem dX5_digestOf_69 : decode cX5_digestOf 69 = .ok (.lstore 4, 2) := by decide +kernel
theorem dX5_digestOf_71 : decode cX5_digestOf 71 = .ok (.iconst 0, 1) := by decide +kernel
theorem dX5_digestOf_72 : decode cX5_digestOf 72 = .ok (.istore 6, 2) := by decide +kernel
theorem dX5_digestOf_74 : decode cX5_digestOf 74 = .ok (.iload 6, 2) := by decide +kernel
theorem dX5_digestOf_76 : decode cX5_digestOf 76 = .ok (.bipush 8, 2) := by decide +kernel
theorem dX5_digestOf_78 : decode cX5_digestOf 78 = .ok (.if_icmp .ge 31, 3) := by decide +kernel
theorem dX5_digestOf_81 : decode cX5_digestOf 81 = .ok (.aload_n 0, 1) := by decide +kernel
end
section
theorem dX5_digestOf_82 : decode cX5_digestOf 82 = .ok (.getfield 39, 3) := by decide +kernel
theorem dX5_digestOf_85 : decode cX5_digestOf 85 = .ok (.iload_n 3, 1) := by decide +kernel
theorem dX5_digestOf_86 : decode cX5_digestOf 86 = .ok (.bipush 8, 2) := by decide +kernel
theorem dX5_digestOf_88 : decode cX5_digestOf 88 = .ok (.isub, 1) := by decide +kernel
theorem dX5_digestOf_89 : decode cX5_digestOf 89 = .ok (.iload 6, 2) := by decide +kernel
theorem dX5_digestOf_91 : decode cX5_digestOf 91 = .ok (.iadd, 1) := by decide +kernel
theorem dX5_digestOf_92 : decode cX5_digestOf 92 = .ok (.lload 4, 2) := by decide +kernel
theorem dX5_digestOf_94 : decode cX5_digestOf 94 = .ok (.bipush 8, 2) := by decide +kernel
theorem dX5_digestOf_96 : decode cX5_digestOf 96 = .ok (.iload 6, 2) := by decide +kernel
theorem dX5_digestOf_98 : decode cX5_digestOf 98 = .ok (.imul, 1) := by decide +kernel
theorem dX5_digestOf_99 : decode cX5_digestOf 99 = .ok (.lshr, 1) := by decide +kernel
theorem dX5_digestOf_100 : decode cX5_digestOf 100 = .ok (.l2i, 1) := by decide +kernel
theorem dX5_digestOf_101 : decode cX5_digestOf 101 = .ok (.i2b, 1) := by decide +kernel
theorem dX5_digestOf_102 : decode cX5_digestOf 102 = .ok (.bastore, 1) := by decide +kernel
theorem dX5_digestOf_103 : decode cX5_digestOf 103 = .ok (.iinc 6 1, 3) := by decide +kernel
theorem dX5_digestOf_106 : decode cX5_digestOf 106 = .ok (.goto (-32), 3) := by decide +kernel
theorem dX5_digestOf_109 : decode cX5_digestOf 109 = .ok (.aload_n 0, 1) := by decide +kernel
theorem dX5_digestOf_110 : decode cX5_digestOf 110 = .ok (.getfield 42, 3) := by decide +kernel
theorem dX5_digestOf_113 : decode cX5_digestOf 113 = .ok (.iconst 0, 1) := by decide +kernel
theorem dX5_digestOf_114 : decode cX5_digestOf 114 = .ok (.ldc 128, 2) := by decide +kernel
theorem dX5_digestOf_116 : decode cX5_digestOf 116 = .ok (.iastore, 1) := by decide +kernel
theorem dX5_digestOf_117 : decode cX5_digestOf 117 = .ok (.aload_n 0, 1) := by decide +kernel
theorem dX5_digestOf_118 : decode cX5_digestOf 118 = .ok (.getfield 42, 3) := by decide +kernel
theorem dX5_digestOf_121 : decode cX5_digestOf 121 = .ok (.iconst 1, 1) := by decide +kernel
theorem dX5_digestOf_122 : decode cX5_digestOf 122 = .ok (.ldc 129, 2) := by decide +kernel
theorem dX5_digestOf_124 : decode cX5_digestOf 124 = .ok (.iastore, 1) := by decide +kernel
theorem dX5_digestOf_125 : decode cX5_digestOf 125 = .ok (.aload_n 0, 1) := by decide +kernel
theorem dX5_digestOf_126 : decode cX5_digestOf 126 = .ok (.getfield 42, 3) := by decide +kernel
theorem dX5_digestOf_129 : decode cX5_digestOf 129 = .ok (.iconst 2, 1) := by decide +kernel
theorem dX5_digestOf_130 : decode cX5_digestOf 130 = .ok (.ldc 130, 2) := by decide +kernel
theorem dX5_digestOf_132 : decode cX5_digestOf 132 = .ok (.iastore, 1) := by decide +kernel
theorem dX5_digestOf_133 : decode cX5_digestOf 133 = .ok (.aload_n 0, 1) := by decide +kernel
theorem dX5_digestOf_134 : decode cX5_digestOf 134 = .ok (.getfield 42, 3) := by decide +kernel
theorem dX5_digestOf_137 : decode cX5_digestOf 137 = .ok (.iconst 3, 1) := by decide +kernel
theorem dX5_digestOf_138 : decode cX5_digestOf 138 = .ok (.ldc 131, 2) := by decide +kernel
theorem dX5_digestOf_140 : decode cX5_digestOf 140 = .ok (.iastore, 1) := by decide +kernel
theorem dX5_digestOf_141 : decode cX5_digestOf 141 = .ok (.iconst 0, 1) := by decide +kernel
theorem dX5_digestOf_142 : decode cX5_digestOf 142 = .ok (.istore 6, 2) := by decide +kernel
theorem dX5_digestOf_144 : decode cX5_digestOf 144 = .ok (.iload 6, 2) := by decide +kernel
theorem dX5_digestOf_146 : decode cX5_digestOf 146 = .ok (.iload_n 3, 1) := by decide +kernel
theorem dX5_digestOf_147 : decode cX5_digestOf 147 = .ok (.if_icmp .ge 15, 3) := by decide +kernel
theorem dX5_digestOf_150 : decode cX5_digestOf 150 = .ok (.aload_n 0, 1) := by decide +kernel
theorem dX5_digestOf_151 : decode cX5_digestOf 151 = .ok (.iload 6, 2) := by decide +kernel
theorem dX5_digestOf_153 : decode cX5_digestOf 153 = .ok (.invokevirtual 132, 3) := by decide +kernel
theorem dX5_digestOf_156 : decode cX5_digestOf 156 = .ok (.iinc 6 64, 3) := by decide +kernel
theorem dX5_digestOf_159 : decode cX5_digestOf 159 = .ok (.goto (-15), 3) := by decide +kernel
theorem dX5_digestOf_162 : decode cX5_digestOf 162 = .ok (.return_, 1) := by decide +kernel
theorem dX5_mix_0 : decode cX5_mix 0 = .ok (.iconst 0, 1) := by decide +kernel
theorem dX5_mix_1 : decode cX5_mix 1 = .ok (.istore_n 2, 1) := by decide +kernel
theorem dX5_mix_2 : decode cX5_mix 2 = .ok (.iload_n 2, 1) := by decide +kernel
theorem dX5_mix_3 : decode cX5_mix 3 = .ok (.bipush 16, 2) := by decide +kernel
theorem dX5_mix_5 : decode cX5_mix 5 = .ok (.if_icmp .ge 60, 3) := by decide +kernel
theorem dX5_mix_8 : decode cX5_mix 8 = .ok (.aload_n 0, 1) := by decide +kernel
theorem dX5_mix_9 : decode cX5_mix 9 = .ok (.getfield 45, 3) := by decide +kernel
theorem dX5_mix_12 : decode cX5_mix 12 = .ok (.iload_n 2, 1) := by decide +kernel
theorem dX5_mix_13 : decode cX5_mix 13 = .ok (.iconst 0, 1) := by decide +kernel
theorem dX5_mix_14 : decode cX5_mix 14 = .ok (.iastore, 1) := by decide +kernel
theorem dX5_mix_15 : decode cX5_mix 15 = .ok (.iconst 3, 1) := by decide +kernel
theorem dX5_mix_16 : decode cX5_mix 16 = .ok (.istore_n 3, 1) := by decide +kernel
theorem dX5_mix_17 : decode cX5_mix 17 = .ok (.iload_n 3, 1) := by decide +kernel
theorem dX5_mix_18 : decode cX5_mix 18 = .ok (.ifCond .lt 41, 3) := by decide +kernel
theorem dX5_mix_21 : decode cX5_mix 21 = .ok (.aload_n 0, 1) := by decide +kernel
theorem dX5_mix_22 : decode cX5_mix 22 = .ok (.getfield 45, 3) := by decide +kernel
theorem dX5_mix_25 : decode cX5_mix 25 = .ok (.iload_n 2, 1) := by decide +kernel
theorem dX5_mix_26 : decode cX5_mix 26 = .ok (.aload_n 0, 1) := by decide +kernel
theorem dX5_mix_27 : decode cX5_mix 27 = .ok (.getfield 45, 3) := by decide +kernel
theorem dX5_mix_30 : decode cX5_mix 30 = .ok (.iload_n 2, 1) := by decide +kernel
theorem dX5_mix_31 : decode cX5_mix 31 = .ok (.iaload, 1) := by decide +kernel
theorem dX5_mix_32 : decode cX5_mix 32 = .ok (.bipush 8, 2) := by decide +kernel
theorem dX5_mix_34 : decode cX5_mix 34 = .ok (.ishl, 1) := by decide +kernel
theorem dX5_mix_35 : decode cX5_mix 35 = .ok (.aload_n 0, 1) := by decide +kernel
theorem dX5_mix_36 : decode cX5_mix 36 = .ok (.getfield 39, 3) := by decide +kernel
theorem dX5_mix_39 : decode cX5_mix 39 = .ok (.iload_n 1, 1) := by decide +kernel
theorem dX5_mix_40 : decode cX5_mix 40 = .ok (.iconst 4, 1) := by decide +kernel
theorem dX5_mix_41 : decode cX5_mix 41 = .ok (.iload_n 2, 1) := by decide +kernel
theorem dX5_mix_42 : decode cX5_mix 42 = .ok (.imul, 1) := by decide +kernel
theorem dX5_mix_43 : decode cX5_mix 43 = .ok (.iadd, 1) := by decide +kernel
theorem dX5_mix_44 : decode cX5_mix 44 = .ok (.iload_n 3, 1) := by decide +kernel
theorem dX5_mix_45 : decode cX5_mix 45 = .ok (.iadd, 1) := by decide +kernel
theorem dX5_mix_46 : decode cX5_mix 46 = .ok (.baload, 1) := by decide +kernel
theorem dX5_mix_47 : decode cX5_mix 47 = .ok (.sipush 255, 3) := by decide +kernel
theorem dX5_mix_50 : decode cX5_mix 50 = .ok (.iand, 1) := by decide +kernel
theorem dX5_mix_51 : decode cX5_mix 51 = .ok (.ior, 1) := by decide +kernel
theorem dX5_mix_52 : decode cX5_mix 52 = .ok (.iastore, 1) := by decide +kernel
theorem dX5_mix_53 : decode cX5_mix 53 = .ok (.iinc 3 (-1), 3) := by decide +kernel
theorem dX5_mix_56 : decode cX5_mix 56 = .ok (.goto (-39), 3) := by decide +kernel
theorem dX5_mix_59 : decode cX5_mix 59 = .ok (.iinc 2 1, 3) := by decide +kernel
theorem dX5_mix_62 : decode cX5_mix 62 = .ok (.goto (-60), 3) := by decide +kernel
theorem dX5_mix_65 : decode cX5_mix 65 = .ok (.aload_n 0, 1) := by decide +kernel
theorem dX5_mix_66 : decode cX5_mix 66 = .ok (.getfield 42, 3) := by decide +kernel
theorem dX5_mix_69 : decode cX5_mix 69 = .ok (.iconst 0, 1) := by decide +kernel
theorem dX5_mix_70 : decode cX5_mix 70 = .ok (.iaload, 1) := by decide +kernel
theorem dX5_mix_71 : decode cX5_mix 71 = .ok (.istore_n 2, 1) := by decide +kernel
theorem dX5_mix_72 : decode cX5_mix 72 = .ok (.aload_n 0, 1) := by decide +kernel
theorem dX5_mix_73 : decode cX5_mix 73 = .ok (.getfield 42, 3) := by decide +kernel
theorem dX5_mix_76 : decode cX5_mix 76 = .ok (.iconst 1, 1) := by decide +kernel
theorem dX5_mix_77 : decode cX5_mix 77 = .ok (.iaload, 1) := by decide +kernel
theorem dX5_mix_78 : decode cX5_mix 78 = .ok (.istore_n 3, 1) := by decide +kernel
theorem dX5_mix_79 : decode cX5_mix 79 = .ok (.aload_n 0, 1) := by decide +kernel
theorem dX5_mix_80 : decode cX5_mix 80 = .ok (.getfield 42, 3) := by decide +kernel
theorem dX5_mix_83 : decode cX5_mix 83 = .ok (.iconst 2, 1) := by decide +kernel
theorem dX5_mix_84 : decode cX5_mix 84 = .ok (.iaload, 1) := by decide +kernel
theorem dX5_mix_85 : decode cX5_mix 85 = .ok (.istore 4, 2) := by decide +kernel
theorem dX5_mix_87 : decode cX5_mix 87 = .ok (.aload_n 0, 1) := by decide +kernel
theorem dX5_mix_88 : decode cX5_mix 88 = .ok (.getfield 42, 3) := by decide +kernel
theorem dX5_mix_91 : decode cX5_mix 91 = .ok (.iconst 3, 1) := by decide +kernel
theorem dX5_mix_92 : decode cX5_mix 92 = .ok (.iaload, 1) := by decide +kernel
theorem dX5_mix_93 : decode cX5_mix 93 = .ok (.istore 5, 2) := by decide +kernel
theorem dX5_mix_95 : decode cX5_mix 95 = .ok (.iconst 0, 1) := by decide +kernel
theorem dX5_mix_96 : decode cX5_mix 96 = .ok (.istore 6, 2) := by decide +kernel
theorem dX5_mix_98 : decode cX5_mix 98 = .ok (.iload 6, 2) := by decide +kernel
theorem dX5_mix_100 : decode cX5_mix 100 = .ok (.bipush 64, 2) := by decide +kernel
theorem dX5_mix_102 : decode cX5_mix 102 = .ok (.if_icmp .ge 204, 3) := by decide +kernel
theorem dX5_mix_105 : decode cX5_mix 105 = .ok (.iload 6, 2) := by decide +kernel
theorem dX5_mix_107 : decode cX5_mix 107 = .ok (.bipush 16, 2) := by decide +kernel
theorem dX5_mix_109 : decode cX5_mix 109 = .ok (.idiv, 1) := by decide +kernel
theorem dX5_mix_110 : decode cX5_mix 110 = .ok (.istore 7, 2) := by decide +kernel
theorem dX5_mix_112 : decode cX5_mix 112 = .ok (.iload 7, 2) := by decide +kernel
theorem dX5_mix_114 : decode cX5_mix 114 = .ok (.ifCond .ne 17, 3) := by decide +kernel
theorem dX5_mix_117 : decode cX5_mix 117 = .ok (.iload_n 3, 1) := by decide +kernel
theorem dX5_mix_118 : decode cX5_mix 118 = .ok (.iload 4, 2) := by decide +kernel
theorem dX5_mix_120 : decode cX5_mix 120 = .ok (.iand, 1) := by decide +kernel
theorem dX5_mix_121 : decode cX5_mix 121 = .ok (.iload_n 3, 1) := by decide +kernel
theorem dX5_mix_122 : decode cX5_mix 122 = .ok (.iconst (-1), 1) := by decide +kernel
theorem dX5_mix_123 : decode cX5_mix 123 = .ok (.ixor, 1) := by decide +kernel
theorem dX5_mix_124 : decode cX5_mix 124 = .ok (.iload 5, 2) := by decide +kernel
theorem dX5_mix_126 : decode cX5_mix 126 = .ok (.iand, 1) := by decide +kernel
theorem dX5_mix_127 : decode cX5_mix 127 = .ok (.ior, 1) := by decide +kernel
theorem dX5_mix_128 : decode cX5_mix 128 = .ok (.goto 49, 3) := by decide +kernel
theorem dX5_mix_131 : decode cX5_mix 131 = .ok (.iload 7, 2) := by decide +kernel
theorem dX5_mix_133 : decode cX5_mix 133 = .ok (.iconst 1, 1) := by decide +kernel
theorem dX5_mix_134 : decode cX5_mix 134 = .ok (.if_icmp .ne 18, 3) := by decide +kernel
theorem dX5_mix_137 : decode cX5_mix 137 = .ok (.iload 5, 2) := by decide +kernel
theorem dX5_mix_139 : decode cX5_mix 139 = .ok (.iload_n 3, 1) := by decide +kernel
theorem dX5_mix_140 : decode cX5_mix 140 = .ok (.iand, 1) := by decide +kernel
theorem dX5_mix_141 : decode cX5_mix 141 = .ok (.iload 5, 2) := by decide +kernel
theorem dX5_mix_143 : decode cX5_mix 143 = .ok (.iconst (-1), 1) := by decide +kernel
theorem dX5_mix_144 : decode cX5_mix 144 = .ok (.ixor, 1) := by decide +kernel
theorem dX5_mix_145 : decode cX5_mix 145 = .ok (.iload 4, 2) := by decide +kernel
theorem dX5_mix_147 : decode cX5_mix 147 = .ok (.iand, 1) := by decide +kernel
theorem dX5_mix_148 : decode cX5_mix 148 = .ok (.ior, 1) := by decide +kernel
theorem dX5_mix_149 : decode cX5_mix 149 = .ok (.goto 28, 3) := by decide +kernel
theorem dX5_mix_152 : decode cX5_mix 152 = .ok (.iload 7, 2) := by decide +kernel
theorem dX5_mix_154 : decode cX5_mix 154 = .ok (.iconst 2, 1) := by decide +kernel
theorem dX5_mix_155 : decode cX5_mix 155 = .ok (.if_icmp .ne 13, 3) := by decide +kernel
theorem dX5_mix_158 : decode cX5_mix 158 = .ok (.iload_n 3, 1) := by decide +kernel
theorem dX5_mix_159 : decode cX5_mix 159 = .ok (.iload 4, 2) := by decide +kernel
theorem dX5_mix_161 : decode cX5_mix 161 = .ok (.ixor, 1) := by decide +kernel
theorem dX5_mix_162 : decode cX5_mix 162 = .ok (.iload 5, 2) := by decide +kernel
theorem dX5_mix_164 : decode cX5_mix 164 = .ok (.ixor, 1) := by decide +kernel
theorem dX5_mix_165 : decode cX5_mix 165 = .ok (.goto 12, 3) := by decide +kernel
theorem dX5_mix_168 : decode cX5_mix 168 = .ok (.iload 4, 2) := by decide +kernel
theorem dX5_mix_170 : decode cX5_mix 170 = .ok (.iload_n 3, 1) := by decide +kernel
theorem dX5_mix_171 : decode cX5_mix 171 = .ok (.iload 5, 2) := by decide +kernel
theorem dX5_mix_173 : decode cX5_mix 173 = .ok (.iconst (-1), 1) := by decide +kernel
theorem dX5_mix_174 : decode cX5_mix 174 = .ok (.ixor, 1) := by decide +kernel
theorem dX5_mix_175 : decode cX5_mix 175 = .ok (.ior, 1) := by decide +kernel
theorem dX5_mix_176 : decode cX5_mix 176 = .ok (.ixor, 1) := by decide +kernel
theorem dX5_mix_177 : decode cX5_mix 177 = .ok (.istore 8, 2) := by decide +kernel
theorem dX5_mix_179 : decode cX5_mix 179 = .ok (.iload 7, 2) := by decide +kernel
theorem dX5_mix_181 : decode cX5_mix 181 = .ok (.ifCond .ne 8, 3) := by decide +kernel
theorem dX5_mix_184 : decode cX5_mix 184 = .ok (.iload 6, 2) := by decide +kernel
theorem dX5_mix_186 : decode cX5_mix 186 = .ok (.goto 47, 3) := by decide +kernel
theorem dX5_mix_189 : decode cX5_mix 189 = .ok (.iload 7, 2) := by decide +kernel
theorem dX5_mix_191 : decode cX5_mix 191 = .ok (.iconst 1, 1) := by decide +kernel
theorem dX5_mix_192 : decode cX5_mix 192 = .ok (.if_icmp .ne 15, 3) := by decide +kernel
theorem dX5_mix_195 : decode cX5_mix 195 = .ok (.iconst 5, 1) := by decide +kernel
theorem dX5_mix_196 : decode cX5_mix 196 = .ok (.iload 6, 2) := by decide +kernel
theorem dX5_mix_198 : decode cX5_mix 198 = .ok (.imul, 1) := by decide +kernel
theorem dX5_mix_199 : decode cX5_mix 199 = .ok (.iconst 1, 1) := by decide +kernel
theorem dX5_mix_200 : decode cX5_mix 200 = .ok (.iadd, 1) := by decide +kernel
theorem dX5_mix_201 : decode cX5_mix 201 = .ok (.bipush 16, 2) := by decide +kernel
theorem dX5_mix_203 : decode cX5_mix 203 = .ok (.irem, 1) := by decide +kernel
theorem dX5_mix_204 : decode cX5_mix 204 = .ok (.goto 29, 3) := by decide +kernel
theorem dX5_mix_207 : decode cX5_mix 207 = .ok (.iload 7, 2) := by decide +kernel
theorem dX5_mix_209 : decode cX5_mix 209 = .ok (.iconst 2, 1) := by decide +kernel
theorem dX5_mix_210 : decode cX5_mix 210 = .ok (.if_icmp .ne 15, 3) := by decide +kernel
theorem dX5_mix_213 : decode cX5_mix 213 = .ok (.iconst 3, 1) := by decide +kernel
theorem dX5_mix_214 : decode cX5_mix 214 = .ok (.iload 6, 2) := by decide +kernel
theorem dX5_mix_216 : decode cX5_mix 216 = .ok (.imul, 1) := by decide +kernel
theorem dX5_mix_217 : decode cX5_mix 217 = .ok (.iconst 5, 1) := by decide +kernel
theorem dX5_mix_218 : decode cX5_mix 218 = .ok (.iadd, 1) := by decide +kernel
theorem dX5_mix_219 : decode cX5_mix 219 = .ok (.bipush 16, 2) := by decide +kernel
theorem dX5_mix_221 : decode cX5_mix 221 = .ok (.irem, 1) := by decide +kernel
theorem dX5_mix_222 : decode cX5_mix 222 = .ok (.goto 11, 3) := by decide +kernel
theorem dX5_mix_225 : decode cX5_mix 225 = .ok (.bipush 7, 2) := by decide +kernel
theorem dX5_mix_227 : decode cX5_mix 227 = .ok (.iload 6, 2) := by decide +kernel
theorem dX5_mix_229 : decode cX5_mix 229 = .ok (.imul, 1) := by decide +kernel
theorem dX5_mix_230 : decode cX5_mix 230 = .ok (.bipush 16, 2) := by decide +kernel
theorem dX5_mix_232 : decode cX5_mix 232 = .ok (.irem, 1) := by decide +kernel
theorem dX5_mix_233 : decode cX5_mix 233 = .ok (.istore 9, 2) := by decide +kernel
theorem dX5_mix_235 : decode cX5_mix 235 = .ok (.iload_n 2, 1) := by decide +kernel
theorem dX5_mix_236 : decode cX5_mix 236 = .ok (.iload 8, 2) := by decide +kernel
theorem dX5_mix_238 : decode cX5_mix 238 = .ok (.iadd, 1) := by decide +kernel
theorem dX5_mix_239 : decode cX5_mix 239 = .ok (.aload_n 0, 1) := by decide +kernel
theorem dX5_mix_240 : decode cX5_mix 240 = .ok (.getfield 112, 3) := by decide +kernel
theorem dX5_mix_243 : decode cX5_mix 243 = .ok (.iload 6, 2) := by decide +kernel
theorem dX5_mix_245 : decode cX5_mix 245 = .ok (.iaload, 1) := by decide +kernel
theorem dX5_mix_246 : decode cX5_mix 246 = .ok (.iadd, 1) := by decide +kernel
theorem dX5_mix_247 : decode cX5_mix 247 = .ok (.aload_n 0, 1) := by decide +kernel
theorem dX5_mix_248 : decode cX5_mix 248 = .ok (.getfield 45, 3) := by decide +kernel
theorem dX5_mix_251 : decode cX5_mix 251 = .ok (.iload 9, 2) := by decide +kernel
theorem dX5_mix_253 : decode cX5_mix 253 = .ok (.iaload, 1) := by decide +kernel
theorem dX5_mix_254 : decode cX5_mix 254 = .ok (.iadd, 1) := by decide +kernel
theorem dX5_mix_255 : decode cX5_mix 255 = .ok (.istore 10, 2) := by decide +kernel
theorem dX5_mix_257 : decode cX5_mix 257 = .ok (.aload_n 0, 1) := by decide +kernel
theorem dX5_mix_258 : decode cX5_mix 258 = .ok (.getfield 115, 3) := by decide +kernel
theorem dX5_mix_261 : decode cX5_mix 261 = .ok (.iconst 4, 1) := by decide +kernel
theorem dX5_mix_262 : decode cX5_mix 262 = .ok (.iload 7, 2) := by decide +kernel
theorem dX5_mix_264 : decode cX5_mix 264 = .ok (.imul, 1) := by decide +kernel
theorem dX5_mix_265 : decode cX5_mix 265 = .ok (.iload 6, 2) := by decide +kernel
theorem dX5_mix_267 : decode cX5_mix 267 = .ok (.iconst 4, 1) := by decide +kernel
theorem dX5_mix_268 : decode cX5_mix 268 = .ok (.irem, 1) := by decide +kernel
theorem dX5_mix_269 : decode cX5_mix 269 = .ok (.iadd, 1) := by decide +kernel
theorem dX5_mix_270 : decode cX5_mix 270 = .ok (.iaload, 1) := by decide +kernel
theorem dX5_mix_271 : decode cX5_mix 271 = .ok (.istore 11, 2) := by decide +kernel
theorem dX5_mix_273 : decode cX5_mix 273 = .ok (.iload 5, 2) := by decide +kernel
theorem dX5_mix_275 : decode cX5_mix 275 = .ok (.istore_n 2, 1) := by decide +kernel
theorem dX5_mix_276 : decode cX5_mix 276 = .ok (.iload 4, 2) := by decide +kernel
theorem dX5_mix_278 : decode cX5_mix 278 = .ok (.istore 5, 2) := by decide +kernel
theorem dX5_mix_280 : decode cX5_mix 280 = .ok (.iload_n 3, 1) := by decide +kernel
theorem dX5_mix_281 : decode cX5_mix 281 = .ok (.istore 4, 2) := by decide +kernel
theorem dX5_mix_283 : decode cX5_mix 283 = .ok (.iload_n 3, 1) := by decide +kernel
theorem dX5_mix_284 : decode cX5_mix 284 = .ok (.iload 10, 2) := by decide +kernel
theorem dX5_mix_286 : decode cX5_mix 286 = .ok (.iload 11, 2) := by decide +kernel
theorem dX5_mix_288 : decode cX5_mix 288 = .ok (.ishl, 1) := by decide +kernel
theorem dX5_mix_289 : decode cX5_mix 289 = .ok (.iload 10, 2) := by decide +kernel
theorem dX5_mix_291 : decode cX5_mix 291 = .ok (.bipush 32, 2) := by decide +kernel
theorem dX5_mix_293 : decode cX5_mix 293 = .ok (.iload 11, 2) := by decide +kernel
theorem dX5_mix_295 : decode cX5_mix 295 = .ok (.isub, 1) := by decide +kernel
theorem dX5_mix_296 : decode cX5_mix 296 = .ok (.iushr, 1) := by decide +kernel
theorem dX5_mix_297 : decode cX5_mix 297 = .ok (.ior, 1) := by decide +kernel
theorem dX5_mix_298 : decode cX5_mix 298 = .ok (.iadd, 1) := by decide +kernel
theorem dX5_mix_299 : decode cX5_mix 299 = .ok (.istore_n 3, 1) := by decide +kernel
theorem dX5_mix_300 : decode cX5_mix 300 = .ok (.iinc 6 1, 3) := by decide +kernel
theorem dX5_mix_303 : decode cX5_mix 303 = .ok (.goto (-205), 3) := by decide +kernel
theorem dX5_mix_306 : decode cX5_mix 306 = .ok (.aload_n 0, 1) := by decide +kernel
theorem dX5_mix_307 : decode cX5_mix 307 = .ok (.getfield 42, 3) := by decide +kernel
theorem dX5_mix_310 : decode cX5_mix 310 = .ok (.iconst 0, 1) := by decide +kernel
theorem dX5_mix_311 : decode cX5_mix 311 = .ok (.dup2, 1) := by decide +kernel
theorem dX5_mix_312 : decode cX5_mix 312 = .ok (.iaload, 1) := by decide +kernel
theorem dX5_mix_313 : decode cX5_mix 313 = .ok (.iload_n 2, 1) := by decide +kernel
theorem dX5_mix_314 : decode cX5_mix 314 = .ok (.iadd, 1) := by decide +kernel
theorem dX5_mix_315 : decode cX5_mix 315 = .ok (.iastore, 1) := by decide +kernel
theorem dX5_mix_316 : decode cX5_mix 316 = .ok (.aload_n 0, 1) := by decide +kernel
theorem dX5_mix_317 : decode cX5_mix 317 = .ok (.getfield 42, 3) := by decide +kernel
theorem dX5_mix_320 : decode cX5_mix 320 = .ok (.iconst 1, 1) := by decide +kernel
theorem dX5_mix_321 : decode cX5_mix 321 = .ok (.dup2, 1) := by decide +kernel
theorem dX5_mix_322 : decode cX5_mix 322 = .ok (.iaload, 1) := by decide +kernel
theorem dX5_mix_323 : decode cX5_mix 323 = .ok (.iload_n 3, 1) := by decide +kernel
theorem dX5_mix_324 : decode cX5_mix 324 = .ok (.iadd, 1) := by decide +kernel
theorem dX5_mix_325 : decode cX5_mix 325 = .ok (.iastore, 1) := by decide +kernel
theorem dX5_mix_326 : decode cX5_mix 326 = .ok (.aload_n 0, 1) := by decide +kernel
theorem dX5_mix_327 : decode cX5_mix 327 = .ok (.getfield 42, 3) := by decide +kernel
theorem dX5_mix_330 : decode cX5_mix 330 = .ok (.iconst 2, 1) := by decide +kernel
theorem dX5_mix_331 : decode cX5_mix 331 = .ok (.dup2, 1) := by decide +kernel
theorem dX5_mix_332 : decode cX5_mix 332 = .ok (.iaload, 1) := by decide +kernel
theorem dX5_mix_333 : decode cX5_mix 333 = .ok (.iload 4, 2) := by decide +kernel
theorem dX5_mix_335 : decode cX5_mix 335 = .ok (.iadd, 1) := by decide +kernel
theorem dX5_mix_336 : decode cX5_mix 336 = .ok (.iastore, 1) := by decide +kernel
theorem dX5_mix_337 : decode cX5_mix 337 = .ok (.aload_n 0, 1) := by decide +kernel
theorem dX5_mix_338 : decode cX5_mix 338 = .ok (.getfield 42, 3) := by decide +kernel
theorem dX5_mix_341 : decode cX5_mix 341 = .ok (.iconst 3, 1) := by decide +kernel
theorem dX5_mix_342 : decode cX5_mix 342 = .ok (.dup2, 1) := by decide +kernel
theorem dX5_mix_343 : decode cX5_mix 343 = .ok (.iaload, 1) := by decide +kernel
theorem dX5_mix_344 : decode cX5_mix 344 = .ok (.iload 5, 2) := by decide +kernel
theorem dX5_mix_346 : decode cX5_mix 346 = .ok (.iadd, 1) := by decide +kernel
theorem dX5_mix_347 : decode cX5_mix 347 = .ok (.iastore, 1) := by decide +kernel
theorem dX5_mix_348 : decode cX5_mix 348 = .ok (.return_, 1) := by decide +kernel
theorem dX5_digestByte_0 : decode cX5_digestByte 0 = .ok (.aload_n 0, 1) := by decide +kernel
theorem dX5_digestByte_1 : decode cX5_digestByte 1 = .ok (.getfield 42, 3) := by decide +kernel
theorem dX5_digestByte_4 : decode cX5_digestByte 4 = .ok (.iload_n 1, 1) := by decide +kernel
theorem dX5_digestByte_5 : decode cX5_digestByte 5 = .ok (.iconst 4, 1) := by decide +kernel
theorem dX5_digestByte_6 : decode cX5_digestByte 6 = .ok (.idiv, 1) := by decide +kernel
theorem dX5_digestByte_7 : decode cX5_digestByte 7 = .ok (.iaload, 1) := by decide +kernel
theorem dX5_digestByte_8 : decode cX5_digestByte 8 = .ok (.bipush 8, 2) := by decide +kernel
theorem dX5_digestByte_10 : decode cX5_digestByte 10 = .ok (.iload_n 1, 1) := by decide +kernel
theorem dX5_digestByte_11 : decode cX5_digestByte 11 = .ok (.iconst 4, 1) := by decide +kernel
theorem dX5_digestByte_12 : decode cX5_digestByte 12 = .ok (.irem, 1) := by decide +kernel
theorem dX5_digestByte_13 : decode cX5_digestByte 13 = .ok (.imul, 1) := by decide +kernel
theorem dX5_digestByte_14 : decode cX5_digestByte 14 = .ok (.iushr, 1) := by decide +kernel
theorem dX5_digestByte_15 : decode cX5_digestByte 15 = .ok (.sipush 255, 3) := by decide +kernel
theorem dX5_digestByte_18 : decode cX5_digestByte 18 = .ok (.iand, 1) := by decide +kernel
theorem dX5_digestByte_19 : decode cX5_digestByte 19 = .ok (.ireturn, 1) := by decide +kernel
theorem dX5_sign_0 : decode cX5_sign 0 = .ok (.aload_n 0, 1) := by decide +kernel
theorem dX5_sign_1 : decode cX5_sign 1 = .ok (.aload_n 0, 1) := by decide +kernel
theorem dX5_sign_2 : decode cX5_sign 2 = .ok (.getfield 20, 3) := by decide +kernel
theorem dX5_sign_5 : decode cX5_sign 5 = .ok (.putfield 27, 3) := by decide +kernel
theorem dX5_sign_8 : decode cX5_sign 8 = .ok (.aload_n 0, 1) := by decide +kernel
theorem dX5_sign_9 : decode cX5_sign 9 = .ok (.aload_n 0, 1) := by decide +kernel
theorem dX5_sign_10 : decode cX5_sign 10 = .ok (.getfield 24, 3) := by decide +kernel
theorem dX5_sign_13 : decode cX5_sign 13 = .ok (.putfield 30, 3) := by decide +kernel
theorem dX5_sign_16 : decode cX5_sign 16 = .ok (.aload_n 0, 1) := by decide +kernel
theorem dX5_sign_17 : decode cX5_sign 17 = .ok (.aload_n 0, 1) := by decide +kernel
theorem dX5_sign_18 : decode cX5_sign 18 = .ok (.getfield 13, 3) := by decide +kernel
theorem dX5_sign_21 : decode cX5_sign 21 = .ok (.iconst 0, 1) := by decide +kernel
theorem dX5_sign_22 : decode cX5_sign 22 = .ok (.iaload, 1) := by decide +kernel
theorem dX5_sign_23 : decode cX5_sign 23 = .ok (.aload_n 0, 1) := by decide +kernel
theorem dX5_sign_24 : decode cX5_sign 24 = .ok (.getfield 20, 3) := by decide +kernel
theorem dX5_sign_27 : decode cX5_sign 27 = .ok (.idiv, 1) := by decide +kernel
theorem dX5_sign_28 : decode cX5_sign 28 = .ok (.putfield 136, 3) := by decide +kernel
theorem dX5_sign_31 : decode cX5_sign 31 = .ok (.iconst 0, 1) := by decide +kernel
theorem dX5_sign_32 : decode cX5_sign 32 = .ok (.istore_n 1, 1) := by decide +kernel
theorem dX5_sign_33 : decode cX5_sign 33 = .ok (.iload_n 1, 1) := by decide +kernel
theorem dX5_sign_34 : decode cX5_sign 34 = .ok (.aload_n 0, 1) := by decide +kernel
theorem dX5_sign_35 : decode cX5_sign 35 = .ok (.getfield 136, 3) := by decide +kernel
theorem dX5_sign_38 : decode cX5_sign 38 = .ok (.if_icmp .ge 74, 3) := by decide +kernel
theorem dX5_sign_41 : decode cX5_sign 41 = .ok (.aload_n 0, 1) := by decide +kernel
theorem dX5_sign_42 : decode cX5_sign 42 = .ok (.getfield 33, 3) := by decide +kernel
theorem dX5_sign_45 : decode cX5_sign 45 = .ok (.iload_n 1, 1) := by decide +kernel
theorem dX5_sign_46 : decode cX5_sign 46 = .ok (.aload_n 0, 1) := by decide +kernel
theorem dX5_sign_47 : decode cX5_sign 47 = .ok (.aload_n 0, 1) := by decide +kernel
theorem dX5_sign_48 : decode cX5_sign 48 = .ok (.getfield 20, 3) := by decide +kernel
theorem dX5_sign_51 : decode cX5_sign 51 = .ok (.iload_n 1, 1) := by decide +kernel
theorem dX5_sign_52 : decode cX5_sign 52 = .ok (.imul, 1) := by decide +kernel
theorem dX5_sign_53 : decode cX5_sign 53 = .ok (.aload_n 0, 1) := by decide +kernel
theorem dX5_sign_54 : decode cX5_sign 54 = .ok (.getfield 20, 3) := by decide +kernel
theorem dX5_sign_57 : decode cX5_sign 57 = .ok (.invokevirtual 139, 3) := by decide +kernel
theorem dX5_sign_60 : decode cX5_sign 60 = .ok (.iastore, 1) := by decide +kernel
theorem dX5_sign_61 : decode cX5_sign 61 = .ok (.aload_n 0, 1) := by decide +kernel
theorem dX5_sign_62 : decode cX5_sign 62 = .ok (.aload_n 0, 1) := by decide +kernel
theorem dX5_sign_63 : decode cX5_sign 63 = .ok (.getfield 20, 3) := by decide +kernel
theorem dX5_sign_66 : decode cX5_sign 66 = .ok (.iload_n 1, 1) := by decide +kernel
theorem dX5_sign_67 : decode cX5_sign 67 = .ok (.imul, 1) := by decide +kernel
theorem dX5_sign_68 : decode cX5_sign 68 = .ok (.aload_n 0, 1) := by decide +kernel
theorem dX5_sign_69 : decode cX5_sign 69 = .ok (.getfield 20, 3) := by decide +kernel
theorem dX5_sign_72 : decode cX5_sign 72 = .ok (.invokevirtual 143, 3) := by decide +kernel
theorem dX5_sign_75 : decode cX5_sign 75 = .ok (.iconst 0, 1) := by decide +kernel
theorem dX5_sign_76 : decode cX5_sign 76 = .ok (.istore_n 2, 1) := by decide +kernel
theorem dX5_sign_77 : decode cX5_sign 77 = .ok (.iload_n 2, 1) := by decide +kernel
theorem dX5_sign_78 : decode cX5_sign 78 = .ok (.bipush 16, 2) := by decide +kernel
theorem dX5_sign_80 : decode cX5_sign 80 = .ok (.if_icmp .ge 26, 3) := by decide +kernel
theorem dX5_sign_83 : decode cX5_sign 83 = .ok (.aload_n 0, 1) := by decide +kernel
theorem dX5_sign_84 : decode cX5_sign 84 = .ok (.getfield 36, 3) := by decide +kernel
theorem dX5_sign_87 : decode cX5_sign 87 = .ok (.bipush 16, 2) := by decide +kernel
theorem dX5_sign_89 : decode cX5_sign 89 = .ok (.iload_n 1, 1) := by decide +kernel
theorem dX5_sign_90 : decode cX5_sign 90 = .ok (.imul, 1) := by decide +kernel
theorem dX5_sign_91 : decode cX5_sign 91 = .ok (.iload_n 2, 1) := by decide +kernel
theorem dX5_sign_92 : decode cX5_sign 92 = .ok (.iadd, 1) := by decide +kernel
theorem dX5_sign_93 : decode cX5_sign 93 = .ok (.aload_n 0, 1) := by decide +kernel
theorem dX5_sign_94 : decode cX5_sign 94 = .ok (.iload_n 2, 1) := by decide +kernel
theorem dX5_sign_95 : decode cX5_sign 95 = .ok (.invokevirtual 147, 3) := by decide +kernel
theorem dX5_sign_98 : decode cX5_sign 98 = .ok (.i2b, 1) := by decide +kernel
theorem dX5_sign_99 : decode cX5_sign 99 = .ok (.bastore, 1) := by decide +kernel
theorem dX5_sign_100 : decode cX5_sign 100 = .ok (.iinc 2 1, 3) := by decide +kernel
theorem dX5_sign_103 : decode cX5_sign 103 = .ok (.goto (-26), 3) := by decide +kernel
theorem dX5_sign_106 : decode cX5_sign 106 = .ok (.iinc 1 1, 3) := by decide +kernel
theorem dX5_sign_109 : decode cX5_sign 109 = .ok (.goto (-76), 3) := by decide +kernel
theorem dX5_sign_112 : decode cX5_sign 112 = .ok (.aload_n 0, 1) := by decide +kernel
theorem dX5_sign_113 : decode cX5_sign 113 = .ok (.getfield 136, 3) := by decide +kernel
theorem dX5_sign_116 : decode cX5_sign 116 = .ok (.ireturn, 1) := by decide +kernel
theorem dX5_sum_0 : decode cX5_sum 0 = .ok (.iload_n 1, 1) := by decide +kernel
theorem dX5_sum_1 : decode cX5_sum 1 = .ok (.ifCond .lt 20, 3) := by decide +kernel
theorem dX5_sum_4 : decode cX5_sum 4 = .ok (.iload_n 1, 1) := by decide +kernel
theorem dX5_sum_5 : decode cX5_sum 5 = .ok (.aload_n 0, 1) := by decide +kernel
theorem dX5_sum_6 : decode cX5_sum 6 = .ok (.getfield 136, 3) := by decide +kernel
theorem dX5_sum_9 : decode cX5_sum 9 = .ok (.if_icmp .ge 12, 3) := by decide +kernel
theorem dX5_sum_12 : decode cX5_sum 12 = .ok (.aload_n 0, 1) := by decide +kernel
theorem dX5_sum_13 : decode cX5_sum 13 = .ok (.getfield 33, 3) := by decide +kernel
theorem dX5_sum_16 : decode cX5_sum 16 = .ok (.iload_n 1, 1) := by decide +kernel
theorem dX5_sum_17 : decode cX5_sum 17 = .ok (.iaload, 1) := by decide +kernel
theorem dX5_sum_18 : decode cX5_sum 18 = .ok (.goto 4, 3) := by decide +kernel
theorem dX5_sum_21 : decode cX5_sum 21 = .ok (.iconst 0, 1) := by decide +kernel
theorem dX5_sum_22 : decode cX5_sum 22 = .ok (.ireturn, 1) := by decide +kernel
theorem dX5_digest_0 : decode cX5_digest 0 = .ok (.iload_n 1, 1) := by decide +kernel
theorem dX5_digest_1 : decode cX5_digest 1 = .ok (.ifCond .lt 41, 3) := by decide +kernel
theorem dX5_digest_4 : decode cX5_digest 4 = .ok (.iload_n 1, 1) := by decide +kernel
theorem dX5_digest_5 : decode cX5_digest 5 = .ok (.aload_n 0, 1) := by decide +kernel
theorem dX5_digest_6 : decode cX5_digest 6 = .ok (.getfield 136, 3) := by decide +kernel
theorem dX5_digest_9 : decode cX5_digest 9 = .ok (.if_icmp .ge 33, 3) := by decide +kernel
theorem dX5_digest_12 : decode cX5_digest 12 = .ok (.iload_n 2, 1) := by decide +kernel
theorem dX5_digest_13 : decode cX5_digest 13 = .ok (.ifCond .lt 29, 3) := by decide +kernel
theorem dX5_digest_16 : decode cX5_digest 16 = .ok (.iload_n 2, 1) := by decide +kernel
theorem dX5_digest_17 : decode cX5_digest 17 = .ok (.aload_n 0, 1) := by decide +kernel
theorem dX5_digest_18 : decode cX5_digest 18 = .ok (.getfield 30, 3) := by decide +kernel
theorem dX5_digest_21 : decode cX5_digest 21 = .ok (.if_icmp .ge 21, 3) := by decide +kernel
theorem dX5_digest_24 : decode cX5_digest 24 = .ok (.aload_n 0, 1) := by decide +kernel
theorem dX5_digest_25 : decode cX5_digest 25 = .ok (.getfield 36, 3) := by decide +kernel
theorem dX5_digest_28 : decode cX5_digest 28 = .ok (.bipush 16, 2) := by decide +kernel
theorem dX5_digest_30 : decode cX5_digest 30 = .ok (.iload_n 1, 1) := by decide +kernel
theorem dX5_digest_31 : decode cX5_digest 31 = .ok (.imul, 1) := by decide +kernel
theorem dX5_digest_32 : decode cX5_digest 32 = .ok (.iload_n 2, 1) := by decide +kernel
theorem dX5_digest_33 : decode cX5_digest 33 = .ok (.iadd, 1) := by decide +kernel
theorem dX5_digest_34 : decode cX5_digest 34 = .ok (.baload, 1) := by decide +kernel
theorem dX5_digest_35 : decode cX5_digest 35 = .ok (.sipush 255, 3) := by decide +kernel
theorem dX5_digest_38 : decode cX5_digest 38 = .ok (.iand, 1) := by decide +kernel
theorem dX5_digest_39 : decode cX5_digest 39 = .ok (.goto 4, 3) := by decide +kernel
theorem dX5_digest_42 : decode cX5_digest 42 = .ok (.iconst (-1), 1) := by decide +kernel
theorem dX5_digest_43 : decode cX5_digest 43 = .ok (.ireturn, 1) := by decide +kernel
theorem dX5_isDigest_0 : decode cX5_isDigest 0 = .ok (.iconst 1, 1) := by decide +kernel
theorem dX5_isDigest_1 : decode cX5_isDigest 1 = .ok (.istore_n 2, 1) := by decide +kernel
theorem dX5_isDigest_2 : decode cX5_isDigest 2 = .ok (.iconst 0, 1) := by decide +kernel
theorem dX5_isDigest_3 : decode cX5_isDigest 3 = .ok (.istore_n 3, 1) := by decide +kernel
theorem dX5_isDigest_4 : decode cX5_isDigest 4 = .ok (.iload_n 3, 1) := by decide +kernel
theorem dX5_isDigest_5 : decode cX5_isDigest 5 = .ok (.aload_n 0, 1) := by decide +kernel
theorem dX5_isDigest_6 : decode cX5_isDigest 6 = .ok (.getfield 30, 3) := by decide +kernel
theorem dX5_isDigest_9 : decode cX5_isDigest 9 = .ok (.if_icmp .ge 42, 3) := by decide +kernel
theorem dX5_isDigest_12 : decode cX5_isDigest 12 = .ok (.iload_n 2, 1) := by decide +kernel
theorem dX5_isDigest_13 : decode cX5_isDigest 13 = .ok (.ifCond .eq 30, 3) := by decide +kernel
theorem dX5_isDigest_16 : decode cX5_isDigest 16 = .ok (.aload_n 0, 1) := by decide +kernel
theorem dX5_isDigest_17 : decode cX5_isDigest 17 = .ok (.getfield 36, 3) := by decide +kernel
theorem dX5_isDigest_20 : decode cX5_isDigest 20 = .ok (.bipush 16, 2) := by decide +kernel
theorem dX5_isDigest_22 : decode cX5_isDigest 22 = .ok (.iload_n 1, 1) := by decide +kernel
theorem dX5_isDigest_23 : decode cX5_isDigest 23 = .ok (.imul, 1) := by decide +kernel
theorem dX5_isDigest_24 : decode cX5_isDigest 24 = .ok (.iload_n 3, 1) := by decide +kernel
theorem dX5_isDigest_25 : decode cX5_isDigest 25 = .ok (.iadd, 1) := by decide +kernel
theorem dX5_isDigest_26 : decode cX5_isDigest 26 = .ok (.baload, 1) := by decide +kernel
theorem dX5_isDigest_27 : decode cX5_isDigest 27 = .ok (.sipush 255, 3) := by decide +kernel
theorem dX5_isDigest_30 : decode cX5_isDigest 30 = .ok (.iand, 1) := by decide +kernel
theorem dX5_isDigest_31 : decode cX5_isDigest 31 = .ok (.aload_n 0, 1) := by decide +kernel
theorem dX5_isDigest_32 : decode cX5_isDigest 32 = .ok (.iload_n 3, 1) := by decide +kernel
theorem dX5_isDigest_33 : decode cX5_isDigest 33 = .ok (.invokevirtual 147, 3) := by decide +kernel
theorem dX5_isDigest_36 : decode cX5_isDigest 36 = .ok (.if_icmp .ne 7, 3) := by decide +kernel
theorem dX5_isDigest_39 : decode cX5_isDigest 39 = .ok (.iconst 1, 1) := by decide +kernel
theorem dX5_isDigest_40 : decode cX5_isDigest 40 = .ok (.goto 4, 3) := by decide +kernel
theorem dX5_isDigest_43 : decode cX5_isDigest 43 = .ok (.iconst 0, 1) := by decide +kernel
theorem dX5_isDigest_44 : decode cX5_isDigest 44 = .ok (.istore_n 2, 1) := by decide +kernel
theorem dX5_isDigest_45 : decode cX5_isDigest 45 = .ok (.iinc 3 1, 3) := by decide +kernel
theorem dX5_isDigest_48 : decode cX5_isDigest 48 = .ok (.goto (-44), 3) := by decide +kernel
theorem dX5_isDigest_51 : decode cX5_isDigest 51 = .ok (.iload_n 2, 1) := by decide +kernel
theorem dX5_isDigest_52 : decode cX5_isDigest 52 = .ok (.ireturn, 1) := by decide +kernel
theorem dX5_blockAt_0 : decode cX5_blockAt 0 = .ok (.iload_n 1, 1) := by decide +kernel
theorem dX5_blockAt_1 : decode cX5_blockAt 1 = .ok (.aload_n 0, 1) := by decide +kernel
theorem dX5_blockAt_2 : decode cX5_blockAt 2 = .ok (.getfield 27, 3) := by decide +kernel
theorem dX5_blockAt_5 : decode cX5_blockAt 5 = .ok (.iadd, 1) := by decide +kernel
theorem dX5_blockAt_6 : decode cX5_blockAt 6 = .ok (.aload_n 0, 1) := by decide +kernel
theorem dX5_blockAt_7 : decode cX5_blockAt 7 = .ok (.getfield 13, 3) := by decide +kernel
theorem dX5_blockAt_10 : decode cX5_blockAt 10 = .ok (.iconst 1, 1) := by decide +kernel
theorem dX5_blockAt_11 : decode cX5_blockAt 11 = .ok (.iaload, 1) := by decide +kernel
theorem dX5_blockAt_12 : decode cX5_blockAt 12 = .ok (.if_icmp .le 5, 3) := by decide +kernel
theorem dX5_blockAt_15 : decode cX5_blockAt 15 = .ok (.iconst (-1), 1) := by decide +kernel
theorem dX5_blockAt_16 : decode cX5_blockAt 16 = .ok (.ireturn, 1) := by decide +kernel
theorem dX5_blockAt_17 : decode cX5_blockAt 17 = .ok (.aload_n 0, 1) := by decide +kernel
theorem dX5_blockAt_18 : decode cX5_blockAt 18 = .ok (.sipush 2000, 3) := by decide +kernel
theorem dX5_blockAt_21 : decode cX5_blockAt 21 = .ok (.iload_n 1, 1) := by decide +kernel
theorem dX5_blockAt_22 : decode cX5_blockAt 22 = .ok (.iadd, 1) := by decide +kernel
theorem dX5_blockAt_23 : decode cX5_blockAt 23 = .ok (.aload_n 0, 1) := by decide +kernel
theorem dX5_blockAt_24 : decode cX5_blockAt 24 = .ok (.getfield 27, 3) := by decide +kernel
theorem dX5_blockAt_27 : decode cX5_blockAt 27 = .ok (.invokevirtual 139, 3) := by decide +kernel
theorem dX5_blockAt_30 : decode cX5_blockAt 30 = .ok (.istore_n 3, 1) := by decide +kernel
theorem dX5_blockAt_31 : decode cX5_blockAt 31 = .ok (.iconst 0, 1) := by decide +kernel
theorem dX5_blockAt_32 : decode cX5_blockAt 32 = .ok (.istore 4, 2) := by decide +kernel
theorem dX5_blockAt_34 : decode cX5_blockAt 34 = .ok (.iconst (-1), 1) := by decide +kernel
theorem dX5_blockAt_35 : decode cX5_blockAt 35 = .ok (.istore 5, 2) := by decide +kernel
theorem dX5_blockAt_37 : decode cX5_blockAt 37 = .ok (.iconst 0, 1) := by decide +kernel
theorem dX5_blockAt_38 : decode cX5_blockAt 38 = .ok (.istore 6, 2) := by decide +kernel
theorem dX5_blockAt_40 : decode cX5_blockAt 40 = .ok (.iload 6, 2) := by decide +kernel
theorem dX5_blockAt_42 : decode cX5_blockAt 42 = .ok (.aload_n 0, 1) := by decide +kernel
theorem dX5_blockAt_43 : decode cX5_blockAt 43 = .ok (.getfield 136, 3) := by decide +kernel
theorem dX5_blockAt_46 : decode cX5_blockAt 46 = .ok (.if_icmp .ge 74, 3) := by decide +kernel
theorem dX5_blockAt_49 : decode cX5_blockAt 49 = .ok (.aload_n 0, 1) := by decide +kernel
theorem dX5_blockAt_50 : decode cX5_blockAt 50 = .ok (.getfield 33, 3) := by decide +kernel
theorem dX5_blockAt_53 : decode cX5_blockAt 53 = .ok (.iload 6, 2) := by decide +kernel
theorem dX5_blockAt_55 : decode cX5_blockAt 55 = .ok (.iaload, 1) := by decide +kernel
theorem dX5_blockAt_56 : decode cX5_blockAt 56 = .ok (.iload_n 3, 1) := by decide +kernel
theorem dX5_blockAt_57 : decode cX5_blockAt 57 = .ok (.if_icmp .ne 57, 3) := by decide +kernel
theorem dX5_blockAt_60 : decode cX5_blockAt 60 = .ok (.iload 4, 2) := by decide +kernel
theorem dX5_blockAt_62 : decode cX5_blockAt 62 = .ok (.ifCond .ne 16, 3) := by decide +kernel
theorem dX5_blockAt_65 : decode cX5_blockAt 65 = .ok (.aload_n 0, 1) := by decide +kernel
theorem dX5_blockAt_66 : decode cX5_blockAt 66 = .ok (.sipush 2000, 3) := by decide +kernel
theorem dX5_blockAt_69 : decode cX5_blockAt 69 = .ok (.iload_n 1, 1) := by decide +kernel
theorem dX5_blockAt_70 : decode cX5_blockAt 70 = .ok (.iadd, 1) := by decide +kernel
theorem dX5_blockAt_71 : decode cX5_blockAt 71 = .ok (.aload_n 0, 1) := by decide +kernel
theorem dX5_blockAt_72 : decode cX5_blockAt 72 = .ok (.getfield 27, 3) := by decide +kernel
theorem dX5_blockAt_75 : decode cX5_blockAt 75 = .ok (.invokevirtual 143, 3) := by decide +kernel
theorem dX5_blockAt_78 : decode cX5_blockAt 78 = .ok (.iconst 1, 1) := by decide +kernel
theorem dX5_blockAt_79 : decode cX5_blockAt 79 = .ok (.istore 4, 2) := by decide +kernel
theorem dX5_blockAt_81 : decode cX5_blockAt 81 = .ok (.aload_n 0, 1) := by decide +kernel
theorem dX5_blockAt_82 : decode cX5_blockAt 82 = .ok (.iload 6, 2) := by decide +kernel
theorem dX5_blockAt_84 : decode cX5_blockAt 84 = .ok (.invokevirtual 151, 3) := by decide +kernel
theorem dX5_blockAt_87 : decode cX5_blockAt 87 = .ok (.ifCond .eq 27, 3) := by decide +kernel
theorem dX5_blockAt_90 : decode cX5_blockAt 90 = .ok (.iload 6, 2) := by decide +kernel
theorem dX5_blockAt_92 : decode cX5_blockAt 92 = .ok (.iload_n 2, 1) := by decide +kernel
theorem dX5_blockAt_93 : decode cX5_blockAt 93 = .ok (.if_icmp .ne 6, 3) := by decide +kernel
theorem dX5_blockAt_96 : decode cX5_blockAt 96 = .ok (.iload 6, 2) := by decide +kernel
theorem dX5_blockAt_98 : decode cX5_blockAt 98 = .ok (.ireturn, 1) := by decide +kernel
theorem dX5_blockAt_99 : decode cX5_blockAt 99 = .ok (.iload 5, 2) := by decide +kernel
theorem dX5_blockAt_101 : decode cX5_blockAt 101 = .ok (.iconst (-1), 1) := by decide +kernel
theorem dX5_blockAt_102 : decode cX5_blockAt 102 = .ok (.if_icmp .ne 8, 3) := by decide +kernel
theorem dX5_blockAt_105 : decode cX5_blockAt 105 = .ok (.iload 6, 2) := by decide +kernel
theorem dX5_blockAt_107 : decode cX5_blockAt 107 = .ok (.goto 5, 3) := by decide +kernel
theorem dX5_blockAt_110 : decode cX5_blockAt 110 = .ok (.iload 5, 2) := by decide +kernel
theorem dX5_blockAt_112 : decode cX5_blockAt 112 = .ok (.istore 5, 2) := by decide +kernel
theorem dX5_blockAt_114 : decode cX5_blockAt 114 = .ok (.iinc 6 1, 3) := by decide +kernel
theorem dX5_blockAt_117 : decode cX5_blockAt 117 = .ok (.goto (-77), 3) := by decide +kernel
theorem dX5_blockAt_120 : decode cX5_blockAt 120 = .ok (.aload_n 0, 1) := by decide +kernel
theorem dX5_blockAt_121 : decode cX5_blockAt 121 = .ok (.dup, 1) := by decide +kernel
theorem dX5_blockAt_122 : decode cX5_blockAt 122 = .ok (.getfield 154, 3) := by decide +kernel
theorem dX5_blockAt_125 : decode cX5_blockAt 125 = .ok (.iload 4, 2) := by decide +kernel
theorem dX5_blockAt_127 : decode cX5_blockAt 127 = .ok (.ifCond .eq 13, 3) := by decide +kernel
theorem dX5_blockAt_130 : decode cX5_blockAt 130 = .ok (.iload 5, 2) := by decide +kernel
theorem dX5_blockAt_132 : decode cX5_blockAt 132 = .ok (.iconst (-1), 1) := by decide +kernel
theorem dX5_blockAt_133 : decode cX5_blockAt 133 = .ok (.if_icmp .ne 7, 3) := by decide +kernel
theorem dX5_blockAt_136 : decode cX5_blockAt 136 = .ok (.iconst 1, 1) := by decide +kernel
theorem dX5_blockAt_137 : decode cX5_blockAt 137 = .ok (.goto 4, 3) := by decide +kernel
theorem dX5_blockAt_140 : decode cX5_blockAt 140 = .ok (.iconst 0, 1) := by decide +kernel
theorem dX5_blockAt_141 : decode cX5_blockAt 141 = .ok (.iadd, 1) := by decide +kernel
theorem dX5_blockAt_142 : decode cX5_blockAt 142 = .ok (.putfield 154, 3) := by decide +kernel
theorem dX5_blockAt_145 : decode cX5_blockAt 145 = .ok (.iload 5, 2) := by decide +kernel
theorem dX5_blockAt_147 : decode cX5_blockAt 147 = .ok (.ireturn, 1) := by decide +kernel
theorem dX5_add_0 : decode cX5_add 0 = .ok (.aload_n 0, 1) := by decide +kernel
theorem dX5_add_1 : decode cX5_add 1 = .ok (.getfield 17, 3) := by decide +kernel
theorem dX5_add_4 : decode cX5_add 4 = .ok (.aload_n 0, 1) := by decide +kernel
theorem dX5_add_5 : decode cX5_add 5 = .ok (.getfield 157, 3) := by decide +kernel
theorem dX5_add_8 : decode cX5_add 8 = .ok (.iload_n 1, 1) := by decide +kernel
theorem dX5_add_9 : decode cX5_add 9 = .ok (.i2b, 1) := by decide +kernel
theorem dX5_add_10 : decode cX5_add 10 = .ok (.bastore, 1) := by decide +kernel
theorem dX5_add_11 : decode cX5_add 11 = .ok (.aload_n 0, 1) := by decide +kernel
theorem dX5_add_12 : decode cX5_add 12 = .ok (.dup, 1) := by decide +kernel
theorem dX5_add_13 : decode cX5_add 13 = .ok (.getfield 157, 3) := by decide +kernel
theorem dX5_add_16 : decode cX5_add 16 = .ok (.iconst 1, 1) := by decide +kernel
theorem dX5_add_17 : decode cX5_add 17 = .ok (.iadd, 1) := by decide +kernel
theorem dX5_add_18 : decode cX5_add 18 = .ok (.putfield 157, 3) := by decide +kernel
theorem dX5_add_21 : decode cX5_add 21 = .ok (.return_, 1) := by decide +kernel
theorem dX5_delta_0 : decode cX5_delta 0 = .ok (.aload_n 0, 1) := by decide +kernel
theorem dX5_delta_1 : decode cX5_delta 1 = .ok (.iconst 0, 1) := by decide +kernel
theorem dX5_delta_2 : decode cX5_delta 2 = .ok (.putfield 160, 3) := by decide +kernel
theorem dX5_delta_5 : decode cX5_delta 5 = .ok (.aload_n 0, 1) := by decide +kernel
theorem dX5_delta_6 : decode cX5_delta 6 = .ok (.iconst 0, 1) := by decide +kernel
theorem dX5_delta_7 : decode cX5_delta 7 = .ok (.putfield 163, 3) := by decide +kernel
theorem dX5_delta_10 : decode cX5_delta 10 = .ok (.aload_n 0, 1) := by decide +kernel
theorem dX5_delta_11 : decode cX5_delta 11 = .ok (.iconst 0, 1) := by decide +kernel
theorem dX5_delta_12 : decode cX5_delta 12 = .ok (.putfield 166, 3) := by decide +kernel
theorem dX5_delta_15 : decode cX5_delta 15 = .ok (.aload_n 0, 1) := by decide +kernel
theorem dX5_delta_16 : decode cX5_delta 16 = .ok (.iconst 0, 1) := by decide +kernel
theorem dX5_delta_17 : decode cX5_delta 17 = .ok (.putfield 154, 3) := by decide +kernel
theorem dX5_delta_20 : decode cX5_delta 20 = .ok (.aload_n 0, 1) := by decide +kernel
theorem dX5_delta_21 : decode cX5_delta 21 = .ok (.iconst 0, 1) := by decide +kernel
theorem dX5_delta_22 : decode cX5_delta 22 = .ok (.putfield 169, 3) := by decide +kernel
theorem dX5_delta_25 : decode cX5_delta 25 = .ok (.iconst 0, 1) := by decide +kernel
theorem dX5_delta_26 : decode cX5_delta 26 = .ok (.istore_n 1, 1) := by decide +kernel
theorem dX5_delta_27 : decode cX5_delta 27 = .ok (.iconst (-1), 1) := by decide +kernel
theorem dX5_delta_28 : decode cX5_delta 28 = .ok (.istore_n 2, 1) := by decide +kernel
theorem dX5_delta_29 : decode cX5_delta 29 = .ok (.iload_n 1, 1) := by decide +kernel
theorem dX5_delta_30 : decode cX5_delta 30 = .ok (.aload_n 0, 1) := by decide +kernel
theorem dX5_delta_31 : decode cX5_delta 31 = .ok (.getfield 13, 3) := by decide +kernel
theorem dX5_delta_34 : decode cX5_delta 34 = .ok (.iconst 1, 1) := by decide +kernel
theorem dX5_delta_35 : decode cX5_delta 35 = .ok (.iaload, 1) := by decide +kernel
theorem dX5_delta_36 : decode cX5_delta 36 = .ok (.if_icmp .ge 124, 3) := by decide +kernel
theorem dX5_delta_39 : decode cX5_delta 39 = .ok (.aload_n 0, 1) := by decide +kernel
theorem dX5_delta_40 : decode cX5_delta 40 = .ok (.iload_n 1, 1) := by decide +kernel
theorem dX5_delta_41 : decode cX5_delta 41 = .ok (.iload_n 2, 1) := by decide +kernel
theorem dX5_delta_42 : decode cX5_delta 42 = .ok (.invokevirtual 172, 3) := by decide +kernel
theorem dX5_delta_45 : decode cX5_delta 45 = .ok (.istore_n 3, 1) := by decide +kernel
theorem dX5_delta_46 : decode cX5_delta 46 = .ok (.aload_n 0, 1) := by decide +kernel
theorem dX5_delta_47 : decode cX5_delta 47 = .ok (.getfield 118, 3) := by decide +kernel
theorem dX5_delta_50 : decode cX5_delta 50 = .ok (.aload_n 0, 1) := by decide +kernel
theorem dX5_delta_51 : decode cX5_delta 51 = .ok (.getfield 169, 3) := by decide +kernel
theorem dX5_delta_54 : decode cX5_delta 54 = .ok (.iload_n 3, 1) := by decide +kernel
theorem dX5_delta_55 : decode cX5_delta 55 = .ok (.iconst (-1), 1) := by decide +kernel
theorem dX5_delta_56 : decode cX5_delta 56 = .ok (.if_icmp .ne 22, 3) := by decide +kernel
theorem dX5_delta_59 : decode cX5_delta 59 = .ok (.iconst (-1), 1) := by decide +kernel
theorem dX5_delta_60 : decode cX5_delta 60 = .ok (.aload_n 0, 1) := by decide +kernel
theorem dX5_delta_61 : decode cX5_delta 61 = .ok (.getfield 7, 3) := by decide +kernel
theorem dX5_delta_64 : decode cX5_delta 64 = .ok (.sipush 2000, 3) := by decide +kernel
theorem dX5_delta_67 : decode cX5_delta 67 = .ok (.iload_n 1, 1) := by decide +kernel
theorem dX5_delta_68 : decode cX5_delta 68 = .ok (.iadd, 1) := by decide +kernel
theorem dX5_delta_69 : decode cX5_delta 69 = .ok (.baload, 1) := by decide +kernel
theorem dX5_delta_70 : decode cX5_delta 70 = .ok (.sipush 255, 3) := by decide +kernel
theorem dX5_delta_73 : decode cX5_delta 73 = .ok (.iand, 1) := by decide +kernel
theorem dX5_delta_74 : decode cX5_delta 74 = .ok (.isub, 1) := by decide +kernel
theorem dX5_delta_75 : decode cX5_delta 75 = .ok (.goto 4, 3) := by decide +kernel
theorem dX5_delta_78 : decode cX5_delta 78 = .ok (.iload_n 3, 1) := by decide +kernel
theorem dX5_delta_79 : decode cX5_delta 79 = .ok (.iastore, 1) := by decide +kernel
theorem dX5_delta_80 : decode cX5_delta 80 = .ok (.aload_n 0, 1) := by decide +kernel
theorem dX5_delta_81 : decode cX5_delta 81 = .ok (.dup, 1) := by decide +kernel
theorem dX5_delta_82 : decode cX5_delta 82 = .ok (.getfield 169, 3) := by decide +kernel
theorem dX5_delta_85 : decode cX5_delta 85 = .ok (.iconst 1, 1) := by decide +kernel
theorem dX5_delta_86 : decode cX5_delta 86 = .ok (.iadd, 1) := by decide +kernel
theorem dX5_delta_87 : decode cX5_delta 87 = .ok (.putfield 169, 3) := by decide +kernel
theorem dX5_delta_90 : decode cX5_delta 90 = .ok (.iload_n 3, 1) := by decide +kernel
theorem dX5_delta_91 : decode cX5_delta 91 = .ok (.iconst (-1), 1) := by decide +kernel
theorem dX5_delta_92 : decode cX5_delta 92 = .ok (.if_icmp .ne 7, 3) := by decide +kernel
theorem dX5_delta_95 : decode cX5_delta 95 = .ok (.iconst (-1), 1) := by decide +kernel
theorem dX5_delta_96 : decode cX5_delta 96 = .ok (.goto 6, 3) := by decide +kernel
theorem dX5_delta_99 : decode cX5_delta 99 = .ok (.iload_n 3, 1) := by decide +kernel
theorem dX5_delta_100 : decode cX5_delta 100 = .ok (.iconst 1, 1) := by decide +kernel
theorem dX5_delta_101 : decode cX5_delta 101 = .ok (.iadd, 1) := by decide +kernel
theorem dX5_delta_102 : decode cX5_delta 102 = .ok (.istore_n 2, 1) := by decide +kernel
theorem dX5_delta_103 : decode cX5_delta 103 = .ok (.iload_n 1, 1) := by decide +kernel
theorem dX5_delta_104 : decode cX5_delta 104 = .ok (.iload_n 3, 1) := by decide +kernel
theorem dX5_delta_105 : decode cX5_delta 105 = .ok (.iconst (-1), 1) := by decide +kernel
theorem dX5_delta_106 : decode cX5_delta 106 = .ok (.if_icmp .ne 7, 3) := by decide +kernel
theorem dX5_delta_109 : decode cX5_delta 109 = .ok (.iconst 1, 1) := by decide +kernel
theorem dX5_delta_110 : decode cX5_delta 110 = .ok (.goto 7, 3) := by decide +kernel
theorem dX5_delta_113 : decode cX5_delta 113 = .ok (.aload_n 0, 1) := by decide +kernel
theorem dX5_delta_114 : decode cX5_delta 114 = .ok (.getfield 27, 3) := by decide +kernel
theorem dX5_delta_117 : decode cX5_delta 117 = .ok (.iadd, 1) := by decide +kernel
theorem dX5_delta_118 : decode cX5_delta 118 = .ok (.istore_n 1, 1) := by decide +kernel
theorem dX5_delta_119 : decode cX5_delta 119 = .ok (.aload_n 0, 1) := by decide +kernel
theorem dX5_delta_120 : decode cX5_delta 120 = .ok (.dup, 1) := by decide +kernel
theorem dX5_delta_121 : decode cX5_delta 121 = .ok (.getfield 160, 3) := by decide +kernel
theorem dX5_delta_124 : decode cX5_delta 124 = .ok (.iload_n 3, 1) := by decide +kernel
theorem dX5_delta_125 : decode cX5_delta 125 = .ok (.iconst (-1), 1) := by decide +kernel
theorem dX5_delta_126 : decode cX5_delta 126 = .ok (.if_icmp .ne 7, 3) := by decide +kernel
theorem dX5_delta_129 : decode cX5_delta 129 = .ok (.iconst 0, 1) := by decide +kernel
theorem dX5_delta_130 : decode cX5_delta 130 = .ok (.goto 4, 3) := by decide +kernel
theorem dX5_delta_133 : decode cX5_delta 133 = .ok (.iconst 1, 1) := by decide +kernel
theorem dX5_delta_134 : decode cX5_delta 134 = .ok (.iadd, 1) := by decide +kernel
theorem dX5_delta_135 : decode cX5_delta 135 = .ok (.putfield 160, 3) := by decide +kernel
end
section
theorem dX5_delta_138 : decode cX5_delta 138 = .ok (.aload_n 0, 1) := by decide +kernel
theorem dX5_delta_139 : decode cX5_delta 139 = .ok (.dup, 1) := by decide +kernel
theorem dX5_delta_140 : decode cX5_delta 140 = .ok (.getfield 163, 3) := by decide +kernel
theorem dX5_delta_143 : decode cX5_delta 143 = .ok (.iload_n 3, 1) := by decide +kernel
theorem dX5_delta_144 : decode cX5_delta 144 = .ok (.iconst (-1), 1) := by decide +kernel
theorem dX5_delta_145 : decode cX5_delta 145 = .ok (.if_icmp .ne 7, 3) := by decide +kernel
theorem dX5_delta_148 : decode cX5_delta 148 = .ok (.iconst 1, 1) := by decide +kernel
theorem dX5_delta_149 : decode cX5_delta 149 = .ok (.goto 4, 3) := by decide +kernel
theorem dX5_delta_152 : decode cX5_delta 152 = .ok (.iconst 0, 1) := by decide +kernel
theorem dX5_delta_153 : decode cX5_delta 153 = .ok (.iadd, 1) := by decide +kernel
theorem dX5_delta_154 : decode cX5_delta 154 = .ok (.putfield 163, 3) := by decide +kernel
theorem dX5_delta_157 : decode cX5_delta 157 = .ok (.goto (-128), 3) := by decide +kernel
theorem dX5_delta_160 : decode cX5_delta 160 = .ok (.aload_n 0, 1) := by decide +kernel
theorem dX5_delta_161 : decode cX5_delta 161 = .ok (.iconst 0, 1) := by decide +kernel
theorem dX5_delta_162 : decode cX5_delta 162 = .ok (.putfield 157, 3) := by decide +kernel
theorem dX5_delta_165 : decode cX5_delta 165 = .ok (.iconst 0, 1) := by decide +kernel
theorem dX5_delta_166 : decode cX5_delta 166 = .ok (.istore_n 3, 1) := by decide +kernel
theorem dX5_delta_167 : decode cX5_delta 167 = .ok (.iload_n 3, 1) := by decide +kernel
theorem dX5_delta_168 : decode cX5_delta 168 = .ok (.aload_n 0, 1) := by decide +kernel
theorem dX5_delta_169 : decode cX5_delta 169 = .ok (.getfield 169, 3) := by decide +kernel
theorem dX5_delta_172 : decode cX5_delta 172 = .ok (.if_icmp .ge 190, 3) := by decide +kernel
theorem dX5_delta_175 : decode cX5_delta 175 = .ok (.iconst 1, 1) := by decide +kernel
theorem dX5_delta_176 : decode cX5_delta 176 = .ok (.istore 4, 2) := by decide +kernel
theorem dX5_delta_178 : decode cX5_delta 178 = .ok (.aload_n 0, 1) := by decide +kernel
theorem dX5_delta_179 : decode cX5_delta 179 = .ok (.getfield 118, 3) := by decide +kernel
theorem dX5_delta_182 : decode cX5_delta 182 = .ok (.iload_n 3, 1) := by decide +kernel
theorem dX5_delta_183 : decode cX5_delta 183 = .ok (.iaload, 1) := by decide +kernel
theorem dX5_delta_184 : decode cX5_delta 184 = .ok (.ifCond .ge 7, 3) := by decide +kernel
theorem dX5_delta_187 : decode cX5_delta 187 = .ok (.iconst 1, 1) := by decide +kernel
theorem dX5_delta_188 : decode cX5_delta 188 = .ok (.goto 4, 3) := by decide +kernel
theorem dX5_delta_191 : decode cX5_delta 191 = .ok (.iconst 0, 1) := by decide +kernel
theorem dX5_delta_192 : decode cX5_delta 192 = .ok (.istore 5, 2) := by decide +kernel
theorem dX5_delta_194 : decode cX5_delta 194 = .ok (.iload 4, 2) := by decide +kernel
theorem dX5_delta_196 : decode cX5_delta 196 = .ok (.sipush 255, 3) := by decide +kernel
theorem dX5_delta_199 : decode cX5_delta 199 = .ok (.if_icmp .ge 61, 3) := by decide +kernel
theorem dX5_delta_202 : decode cX5_delta 202 = .ok (.iload_n 3, 1) := by decide +kernel
theorem dX5_delta_203 : decode cX5_delta 203 = .ok (.iload 4, 2) := by decide +kernel
theorem dX5_delta_205 : decode cX5_delta 205 = .ok (.iadd, 1) := by decide +kernel
theorem dX5_delta_206 : decode cX5_delta 206 = .ok (.aload_n 0, 1) := by decide +kernel
theorem dX5_delta_207 : decode cX5_delta 207 = .ok (.getfield 169, 3) := by decide +kernel
theorem dX5_delta_210 : decode cX5_delta 210 = .ok (.if_icmp .ge 50, 3) := by decide +kernel
theorem dX5_delta_213 : decode cX5_delta 213 = .ok (.iload 5, 2) := by decide +kernel
theorem dX5_delta_215 : decode cX5_delta 215 = .ok (.ifCond .eq 18, 3) := by decide +kernel
theorem dX5_delta_218 : decode cX5_delta 218 = .ok (.aload_n 0, 1) := by decide +kernel
theorem dX5_delta_219 : decode cX5_delta 219 = .ok (.getfield 118, 3) := by decide +kernel
theorem dX5_delta_222 : decode cX5_delta 222 = .ok (.iload_n 3, 1) := by decide +kernel
theorem dX5_delta_223 : decode cX5_delta 223 = .ok (.iload 4, 2) := by decide +kernel
theorem dX5_delta_225 : decode cX5_delta 225 = .ok (.iadd, 1) := by decide +kernel
theorem dX5_delta_226 : decode cX5_delta 226 = .ok (.iaload, 1) := by decide +kernel
theorem dX5_delta_227 : decode cX5_delta 227 = .ok (.ifCond .ge 33, 3) := by decide +kernel
theorem dX5_delta_230 : decode cX5_delta 230 = .ok (.goto 24, 3) := by decide +kernel
theorem dX5_delta_233 : decode cX5_delta 233 = .ok (.aload_n 0, 1) := by decide +kernel
theorem dX5_delta_234 : decode cX5_delta 234 = .ok (.getfield 118, 3) := by decide +kernel
theorem dX5_delta_237 : decode cX5_delta 237 = .ok (.iload_n 3, 1) := by decide +kernel
theorem dX5_delta_238 : decode cX5_delta 238 = .ok (.iload 4, 2) := by decide +kernel
theorem dX5_delta_240 : decode cX5_delta 240 = .ok (.iadd, 1) := by decide +kernel
theorem dX5_delta_241 : decode cX5_delta 241 = .ok (.iaload, 1) := by decide +kernel
theorem dX5_delta_242 : decode cX5_delta 242 = .ok (.aload_n 0, 1) := by decide +kernel
theorem dX5_delta_243 : decode cX5_delta 243 = .ok (.getfield 118, 3) := by decide +kernel
theorem dX5_delta_246 : decode cX5_delta 246 = .ok (.iload_n 3, 1) := by decide +kernel
theorem dX5_delta_247 : decode cX5_delta 247 = .ok (.iaload, 1) := by decide +kernel
theorem dX5_delta_248 : decode cX5_delta 248 = .ok (.iload 4, 2) := by decide +kernel
theorem dX5_delta_250 : decode cX5_delta 250 = .ok (.iadd, 1) := by decide +kernel
theorem dX5_delta_251 : decode cX5_delta 251 = .ok (.if_icmp .ne 9, 3) := by decide +kernel
theorem dX5_delta_254 : decode cX5_delta 254 = .ok (.iinc 4 1, 3) := by decide +kernel
theorem dX5_delta_257 : decode cX5_delta 257 = .ok (.goto (-63), 3) := by decide +kernel
theorem dX5_delta_260 : decode cX5_delta 260 = .ok (.aload_n 0, 1) := by decide +kernel
theorem dX5_delta_261 : decode cX5_delta 261 = .ok (.dup, 1) := by decide +kernel
theorem dX5_delta_262 : decode cX5_delta 262 = .ok (.getfield 166, 3) := by decide +kernel
theorem dX5_delta_265 : decode cX5_delta 265 = .ok (.iconst 1, 1) := by decide +kernel
theorem dX5_delta_266 : decode cX5_delta 266 = .ok (.iadd, 1) := by decide +kernel
theorem dX5_delta_267 : decode cX5_delta 267 = .ok (.putfield 166, 3) := by decide +kernel
theorem dX5_delta_270 : decode cX5_delta 270 = .ok (.iload 5, 2) := by decide +kernel
theorem dX5_delta_272 : decode cX5_delta 272 = .ok (.ifCond .eq 48, 3) := by decide +kernel
theorem dX5_delta_275 : decode cX5_delta 275 = .ok (.aload_n 0, 1) := by decide +kernel
theorem dX5_delta_276 : decode cX5_delta 276 = .ok (.iconst 0, 1) := by decide +kernel
theorem dX5_delta_277 : decode cX5_delta 277 = .ok (.invokevirtual 175, 3) := by decide +kernel
theorem dX5_delta_280 : decode cX5_delta 280 = .ok (.aload_n 0, 1) := by decide +kernel
theorem dX5_delta_281 : decode cX5_delta 281 = .ok (.iload 4, 2) := by decide +kernel
theorem dX5_delta_283 : decode cX5_delta 283 = .ok (.invokevirtual 175, 3) := by decide +kernel
theorem dX5_delta_286 : decode cX5_delta 286 = .ok (.iconst 0, 1) := by decide +kernel
theorem dX5_delta_287 : decode cX5_delta 287 = .ok (.istore 6, 2) := by decide +kernel
theorem dX5_delta_289 : decode cX5_delta 289 = .ok (.iload 6, 2) := by decide +kernel
theorem dX5_delta_291 : decode cX5_delta 291 = .ok (.iload 4, 2) := by decide +kernel
theorem dX5_delta_293 : decode cX5_delta 293 = .ok (.if_icmp .ge 24, 3) := by decide +kernel
theorem dX5_delta_296 : decode cX5_delta 296 = .ok (.aload_n 0, 1) := by decide +kernel
theorem dX5_delta_297 : decode cX5_delta 297 = .ok (.iconst (-1), 1) := by decide +kernel
theorem dX5_delta_298 : decode cX5_delta 298 = .ok (.aload_n 0, 1) := by decide +kernel
theorem dX5_delta_299 : decode cX5_delta 299 = .ok (.getfield 118, 3) := by decide +kernel
theorem dX5_delta_302 : decode cX5_delta 302 = .ok (.iload_n 3, 1) := by decide +kernel
theorem dX5_delta_303 : decode cX5_delta 303 = .ok (.iload 6, 2) := by decide +kernel
theorem dX5_delta_305 : decode cX5_delta 305 = .ok (.iadd, 1) := by decide +kernel
theorem dX5_delta_306 : decode cX5_delta 306 = .ok (.iaload, 1) := by decide +kernel
theorem dX5_delta_307 : decode cX5_delta 307 = .ok (.isub, 1) := by decide +kernel
theorem dX5_delta_308 : decode cX5_delta 308 = .ok (.invokevirtual 175, 3) := by decide +kernel
theorem dX5_delta_311 : decode cX5_delta 311 = .ok (.iinc 6 1, 3) := by decide +kernel
theorem dX5_delta_314 : decode cX5_delta 314 = .ok (.goto (-25), 3) := by decide +kernel
theorem dX5_delta_317 : decode cX5_delta 317 = .ok (.goto 37, 3) := by decide +kernel
theorem dX5_delta_320 : decode cX5_delta 320 = .ok (.aload_n 0, 1) := by decide +kernel
theorem dX5_delta_321 : decode cX5_delta 321 = .ok (.iconst 1, 1) := by decide +kernel
theorem dX5_delta_322 : decode cX5_delta 322 = .ok (.invokevirtual 175, 3) := by decide +kernel
theorem dX5_delta_325 : decode cX5_delta 325 = .ok (.aload_n 0, 1) := by decide +kernel
theorem dX5_delta_326 : decode cX5_delta 326 = .ok (.aload_n 0, 1) := by decide +kernel
theorem dX5_delta_327 : decode cX5_delta 327 = .ok (.getfield 118, 3) := by decide +kernel
theorem dX5_delta_330 : decode cX5_delta 330 = .ok (.iload_n 3, 1) := by decide +kernel
theorem dX5_delta_331 : decode cX5_delta 331 = .ok (.iaload, 1) := by decide +kernel
theorem dX5_delta_332 : decode cX5_delta 332 = .ok (.bipush 8, 2) := by decide +kernel
theorem dX5_delta_334 : decode cX5_delta 334 = .ok (.ishr, 1) := by decide +kernel
theorem dX5_delta_335 : decode cX5_delta 335 = .ok (.invokevirtual 175, 3) := by decide +kernel
theorem dX5_delta_338 : decode cX5_delta 338 = .ok (.aload_n 0, 1) := by decide +kernel
theorem dX5_delta_339 : decode cX5_delta 339 = .ok (.aload_n 0, 1) := by decide +kernel
theorem dX5_delta_340 : decode cX5_delta 340 = .ok (.getfield 118, 3) := by decide +kernel
theorem dX5_delta_343 : decode cX5_delta 343 = .ok (.iload_n 3, 1) := by decide +kernel
theorem dX5_delta_344 : decode cX5_delta 344 = .ok (.iaload, 1) := by decide +kernel
theorem dX5_delta_345 : decode cX5_delta 345 = .ok (.invokevirtual 175, 3) := by decide +kernel
theorem dX5_delta_348 : decode cX5_delta 348 = .ok (.aload_n 0, 1) := by decide +kernel
theorem dX5_delta_349 : decode cX5_delta 349 = .ok (.iload 4, 2) := by decide +kernel
theorem dX5_delta_351 : decode cX5_delta 351 = .ok (.invokevirtual 175, 3) := by decide +kernel
theorem dX5_delta_354 : decode cX5_delta 354 = .ok (.iload_n 3, 1) := by decide +kernel
theorem dX5_delta_355 : decode cX5_delta 355 = .ok (.iload 4, 2) := by decide +kernel
theorem dX5_delta_357 : decode cX5_delta 357 = .ok (.iadd, 1) := by decide +kernel
theorem dX5_delta_358 : decode cX5_delta 358 = .ok (.istore_n 3, 1) := by decide +kernel
theorem dX5_delta_359 : decode cX5_delta 359 = .ok (.goto (-192), 3) := by decide +kernel
theorem dX5_delta_362 : decode cX5_delta 362 = .ok (.aload_n 0, 1) := by decide +kernel
theorem dX5_delta_363 : decode cX5_delta 363 = .ok (.getfield 157, 3) := by decide +kernel
theorem dX5_delta_366 : decode cX5_delta 366 = .ok (.ireturn, 1) := by decide +kernel
theorem dX5_apply_0 : decode cX5_apply 0 = .ok (.aload_n 0, 1) := by decide +kernel
theorem dX5_apply_1 : decode cX5_apply 1 = .ok (.getfield 13, 3) := by decide +kernel
theorem dX5_apply_4 : decode cX5_apply 4 = .ok (.iconst 2, 1) := by decide +kernel
theorem dX5_apply_5 : decode cX5_apply 5 = .ok (.iconst 0, 1) := by decide +kernel
theorem dX5_apply_6 : decode cX5_apply 6 = .ok (.iastore, 1) := by decide +kernel
theorem dX5_apply_7 : decode cX5_apply 7 = .ok (.iconst 0, 1) := by decide +kernel
theorem dX5_apply_8 : decode cX5_apply 8 = .ok (.istore_n 1, 1) := by decide +kernel
theorem dX5_apply_9 : decode cX5_apply 9 = .ok (.iconst 0, 1) := by decide +kernel
theorem dX5_apply_10 : decode cX5_apply 10 = .ok (.istore_n 2, 1) := by decide +kernel
theorem dX5_apply_11 : decode cX5_apply 11 = .ok (.iload_n 2, 1) := by decide +kernel
theorem dX5_apply_12 : decode cX5_apply 12 = .ok (.aload_n 0, 1) := by decide +kernel
theorem dX5_apply_13 : decode cX5_apply 13 = .ok (.getfield 157, 3) := by decide +kernel
theorem dX5_apply_16 : decode cX5_apply 16 = .ok (.if_icmp .ge 266, 3) := by decide +kernel
theorem dX5_apply_19 : decode cX5_apply 19 = .ok (.aload_n 0, 1) := by decide +kernel
theorem dX5_apply_20 : decode cX5_apply 20 = .ok (.getfield 17, 3) := by decide +kernel
theorem dX5_apply_23 : decode cX5_apply 23 = .ok (.iload_n 2, 1) := by decide +kernel
theorem dX5_apply_24 : decode cX5_apply 24 = .ok (.baload, 1) := by decide +kernel
theorem dX5_apply_25 : decode cX5_apply 25 = .ok (.sipush 255, 3) := by decide +kernel
theorem dX5_apply_28 : decode cX5_apply 28 = .ok (.iand, 1) := by decide +kernel
theorem dX5_apply_29 : decode cX5_apply 29 = .ok (.istore_n 3, 1) := by decide +kernel
theorem dX5_apply_30 : decode cX5_apply 30 = .ok (.iload_n 3, 1) := by decide +kernel
theorem dX5_apply_31 : decode cX5_apply 31 = .ok (.ifCond .ne 7, 3) := by decide +kernel
theorem dX5_apply_34 : decode cX5_apply 34 = .ok (.iconst 2, 1) := by decide +kernel
theorem dX5_apply_35 : decode cX5_apply 35 = .ok (.goto 4, 3) := by decide +kernel
theorem dX5_apply_38 : decode cX5_apply 38 = .ok (.iconst 4, 1) := by decide +kernel
theorem dX5_apply_39 : decode cX5_apply 39 = .ok (.istore 4, 2) := by decide +kernel
theorem dX5_apply_41 : decode cX5_apply 41 = .ok (.iload_n 3, 1) := by decide +kernel
theorem dX5_apply_42 : decode cX5_apply 42 = .ok (.iconst 1, 1) := by decide +kernel
theorem dX5_apply_43 : decode cX5_apply 43 = .ok (.if_icmp .gt 14, 3) := by decide +kernel
theorem dX5_apply_46 : decode cX5_apply 46 = .ok (.iload_n 2, 1) := by decide +kernel
theorem dX5_apply_47 : decode cX5_apply 47 = .ok (.iload 4, 2) := by decide +kernel
theorem dX5_apply_49 : decode cX5_apply 49 = .ok (.iadd, 1) := by decide +kernel
theorem dX5_apply_50 : decode cX5_apply 50 = .ok (.aload_n 0, 1) := by decide +kernel
theorem dX5_apply_51 : decode cX5_apply 51 = .ok (.getfield 157, 3) := by decide +kernel
theorem dX5_apply_54 : decode cX5_apply 54 = .ok (.if_icmp .le 6, 3) := by decide +kernel
theorem dX5_apply_57 : decode cX5_apply 57 = .ok (.bipush (-2), 2) := by decide +kernel
theorem dX5_apply_59 : decode cX5_apply 59 = .ok (.ireturn, 1) := by decide +kernel
theorem dX5_apply_60 : decode cX5_apply 60 = .ok (.aload_n 0, 1) := by decide +kernel
theorem dX5_apply_61 : decode cX5_apply 61 = .ok (.getfield 17, 3) := by decide +kernel
theorem dX5_apply_64 : decode cX5_apply 64 = .ok (.iload_n 2, 1) := by decide +kernel
theorem dX5_apply_65 : decode cX5_apply 65 = .ok (.iload 4, 2) := by decide +kernel
theorem dX5_apply_67 : decode cX5_apply 67 = .ok (.iadd, 1) := by decide +kernel
theorem dX5_apply_68 : decode cX5_apply 68 = .ok (.iconst 1, 1) := by decide +kernel
theorem dX5_apply_69 : decode cX5_apply 69 = .ok (.isub, 1) := by decide +kernel
theorem dX5_apply_70 : decode cX5_apply 70 = .ok (.baload, 1) := by decide +kernel
theorem dX5_apply_71 : decode cX5_apply 71 = .ok (.sipush 255, 3) := by decide +kernel
theorem dX5_apply_74 : decode cX5_apply 74 = .ok (.iand, 1) := by decide +kernel
theorem dX5_apply_75 : decode cX5_apply 75 = .ok (.istore 5, 2) := by decide +kernel
theorem dX5_apply_77 : decode cX5_apply 77 = .ok (.iload_n 3, 1) := by decide +kernel
theorem dX5_apply_78 : decode cX5_apply 78 = .ok (.ifCond .ne 7, 3) := by decide +kernel
theorem dX5_apply_81 : decode cX5_apply 81 = .ok (.iconst 0, 1) := by decide +kernel
theorem dX5_apply_82 : decode cX5_apply 82 = .ok (.goto 36, 3) := by decide +kernel
theorem dX5_apply_85 : decode cX5_apply 85 = .ok (.aload_n 0, 1) := by decide +kernel
theorem dX5_apply_86 : decode cX5_apply 86 = .ok (.getfield 17, 3) := by decide +kernel
theorem dX5_apply_89 : decode cX5_apply 89 = .ok (.iload_n 2, 1) := by decide +kernel
theorem dX5_apply_90 : decode cX5_apply 90 = .ok (.iconst 1, 1) := by decide +kernel
theorem dX5_apply_91 : decode cX5_apply 91 = .ok (.iadd, 1) := by decide +kernel
theorem dX5_apply_92 : decode cX5_apply 92 = .ok (.baload, 1) := by decide +kernel
theorem dX5_apply_93 : decode cX5_apply 93 = .ok (.sipush 255, 3) := by decide +kernel
theorem dX5_apply_96 : decode cX5_apply 96 = .ok (.iand, 1) := by decide +kernel
theorem dX5_apply_97 : decode cX5_apply 97 = .ok (.bipush 8, 2) := by decide +kernel
theorem dX5_apply_99 : decode cX5_apply 99 = .ok (.ishl, 1) := by decide +kernel
theorem dX5_apply_100 : decode cX5_apply 100 = .ok (.aload_n 0, 1) := by decide +kernel
theorem dX5_apply_101 : decode cX5_apply 101 = .ok (.getfield 17, 3) := by decide +kernel
theorem dX5_apply_104 : decode cX5_apply 104 = .ok (.iload_n 2, 1) := by decide +kernel
theorem dX5_apply_105 : decode cX5_apply 105 = .ok (.iconst 2, 1) := by decide +kernel
theorem dX5_apply_106 : decode cX5_apply 106 = .ok (.iadd, 1) := by decide +kernel
theorem dX5_apply_107 : decode cX5_apply 107 = .ok (.baload, 1) := by decide +kernel
theorem dX5_apply_108 : decode cX5_apply 108 = .ok (.sipush 255, 3) := by decide +kernel
theorem dX5_apply_111 : decode cX5_apply 111 = .ok (.iand, 1) := by decide +kernel
theorem dX5_apply_112 : decode cX5_apply 112 = .ok (.ior, 1) := by decide +kernel
theorem dX5_apply_113 : decode cX5_apply 113 = .ok (.aload_n 0, 1) := by decide +kernel
theorem dX5_apply_114 : decode cX5_apply 114 = .ok (.getfield 27, 3) := by decide +kernel
theorem dX5_apply_117 : decode cX5_apply 117 = .ok (.imul, 1) := by decide +kernel
theorem dX5_apply_118 : decode cX5_apply 118 = .ok (.istore 6, 2) := by decide +kernel
theorem dX5_apply_120 : decode cX5_apply 120 = .ok (.iload_n 3, 1) := by decide +kernel
theorem dX5_apply_121 : decode cX5_apply 121 = .ok (.ifCond .ne 8, 3) := by decide +kernel
theorem dX5_apply_124 : decode cX5_apply 124 = .ok (.iload 5, 2) := by decide +kernel
theorem dX5_apply_126 : decode cX5_apply 126 = .ok (.goto 10, 3) := by decide +kernel
theorem dX5_apply_129 : decode cX5_apply 129 = .ok (.iload 5, 2) := by decide +kernel
theorem dX5_apply_131 : decode cX5_apply 131 = .ok (.aload_n 0, 1) := by decide +kernel
theorem dX5_apply_132 : decode cX5_apply 132 = .ok (.getfield 27, 3) := by decide +kernel
theorem dX5_apply_135 : decode cX5_apply 135 = .ok (.imul, 1) := by decide +kernel
theorem dX5_apply_136 : decode cX5_apply 136 = .ok (.istore 7, 2) := by decide +kernel
theorem dX5_apply_138 : decode cX5_apply 138 = .ok (.iload 5, 2) := by decide +kernel
theorem dX5_apply_140 : decode cX5_apply 140 = .ok (.ifCond .le 51, 3) := by decide +kernel
theorem dX5_apply_143 : decode cX5_apply 143 = .ok (.iload_n 1, 1) := by decide +kernel
theorem dX5_apply_144 : decode cX5_apply 144 = .ok (.iload 7, 2) := by decide +kernel
theorem dX5_apply_146 : decode cX5_apply 146 = .ok (.iadd, 1) := by decide +kernel
theorem dX5_apply_147 : decode cX5_apply 147 = .ok (.sipush 2000, 3) := by decide +kernel
theorem dX5_apply_150 : decode cX5_apply 150 = .ok (.if_icmp .gt 41, 3) := by decide +kernel
theorem dX5_apply_153 : decode cX5_apply 153 = .ok (.iload_n 3, 1) := by decide +kernel
theorem dX5_apply_154 : decode cX5_apply 154 = .ok (.ifCond .ne 19, 3) := by decide +kernel
theorem dX5_apply_157 : decode cX5_apply 157 = .ok (.iload_n 2, 1) := by decide +kernel
theorem dX5_apply_158 : decode cX5_apply 158 = .ok (.iconst 2, 1) := by decide +kernel
theorem dX5_apply_159 : decode cX5_apply 159 = .ok (.iadd, 1) := by decide +kernel
theorem dX5_apply_160 : decode cX5_apply 160 = .ok (.iload 5, 2) := by decide +kernel
theorem dX5_apply_162 : decode cX5_apply 162 = .ok (.iadd, 1) := by decide +kernel
theorem dX5_apply_163 : decode cX5_apply 163 = .ok (.aload_n 0, 1) := by decide +kernel
theorem dX5_apply_164 : decode cX5_apply 164 = .ok (.getfield 157, 3) := by decide +kernel
theorem dX5_apply_167 : decode cX5_apply 167 = .ok (.if_icmp .gt 24, 3) := by decide +kernel
theorem dX5_apply_170 : decode cX5_apply 170 = .ok (.goto 17, 3) := by decide +kernel
theorem dX5_apply_173 : decode cX5_apply 173 = .ok (.iload 6, 2) := by decide +kernel
theorem dX5_apply_175 : decode cX5_apply 175 = .ok (.iload 7, 2) := by decide +kernel
theorem dX5_apply_177 : decode cX5_apply 177 = .ok (.iadd, 1) := by decide +kernel
theorem dX5_apply_178 : decode cX5_apply 178 = .ok (.aload_n 0, 1) := by decide +kernel
theorem dX5_apply_179 : decode cX5_apply 179 = .ok (.getfield 13, 3) := by decide +kernel
theorem dX5_apply_182 : decode cX5_apply 182 = .ok (.iconst 0, 1) := by decide +kernel
theorem dX5_apply_183 : decode cX5_apply 183 = .ok (.iaload, 1) := by decide +kernel
theorem dX5_apply_184 : decode cX5_apply 184 = .ok (.if_icmp .gt 7, 3) := by decide +kernel
theorem dX5_apply_187 : decode cX5_apply 187 = .ok (.iconst 1, 1) := by decide +kernel
theorem dX5_apply_188 : decode cX5_apply 188 = .ok (.goto 4, 3) := by decide +kernel
theorem dX5_apply_191 : decode cX5_apply 191 = .ok (.iconst 0, 1) := by decide +kernel
theorem dX5_apply_192 : decode cX5_apply 192 = .ok (.istore 8, 2) := by decide +kernel
theorem dX5_apply_194 : decode cX5_apply 194 = .ok (.iload 8, 2) := by decide +kernel
theorem dX5_apply_196 : decode cX5_apply 196 = .ok (.ifCond .ne 6, 3) := by decide +kernel
theorem dX5_apply_199 : decode cX5_apply 199 = .ok (.bipush (-2), 2) := by decide +kernel
theorem dX5_apply_201 : decode cX5_apply 201 = .ok (.ireturn, 1) := by decide +kernel
theorem dX5_apply_202 : decode cX5_apply 202 = .ok (.iconst 0, 1) := by decide +kernel
theorem dX5_apply_203 : decode cX5_apply 203 = .ok (.istore 9, 2) := by decide +kernel
theorem dX5_apply_205 : decode cX5_apply 205 = .ok (.iload 9, 2) := by decide +kernel
theorem dX5_apply_207 : decode cX5_apply 207 = .ok (.iload 7, 2) := by decide +kernel
theorem dX5_apply_209 : decode cX5_apply 209 = .ok (.if_icmp .ge 50, 3) := by decide +kernel
theorem dX5_apply_212 : decode cX5_apply 212 = .ok (.aload_n 0, 1) := by decide +kernel
theorem dX5_apply_213 : decode cX5_apply 213 = .ok (.getfield 7, 3) := by decide +kernel
theorem dX5_apply_216 : decode cX5_apply 216 = .ok (.sipush 4000, 3) := by decide +kernel
theorem dX5_apply_219 : decode cX5_apply 219 = .ok (.iload_n 1, 1) := by decide +kernel
theorem dX5_apply_220 : decode cX5_apply 220 = .ok (.iadd, 1) := by decide +kernel
theorem dX5_apply_221 : decode cX5_apply 221 = .ok (.iload 9, 2) := by decide +kernel
theorem dX5_apply_223 : decode cX5_apply 223 = .ok (.iadd, 1) := by decide +kernel
theorem dX5_apply_224 : decode cX5_apply 224 = .ok (.iload_n 3, 1) := by decide +kernel
theorem dX5_apply_225 : decode cX5_apply 225 = .ok (.ifCond .ne 17, 3) := by decide +kernel
theorem dX5_apply_228 : decode cX5_apply 228 = .ok (.aload_n 0, 1) := by decide +kernel
theorem dX5_apply_229 : decode cX5_apply 229 = .ok (.getfield 17, 3) := by decide +kernel
theorem dX5_apply_232 : decode cX5_apply 232 = .ok (.iload_n 2, 1) := by decide +kernel
theorem dX5_apply_233 : decode cX5_apply 233 = .ok (.iconst 2, 1) := by decide +kernel
theorem dX5_apply_234 : decode cX5_apply 234 = .ok (.iadd, 1) := by decide +kernel
theorem dX5_apply_235 : decode cX5_apply 235 = .ok (.iload 9, 2) := by decide +kernel
theorem dX5_apply_237 : decode cX5_apply 237 = .ok (.iadd, 1) := by decide +kernel
theorem dX5_apply_238 : decode cX5_apply 238 = .ok (.baload, 1) := by decide +kernel
theorem dX5_apply_239 : decode cX5_apply 239 = .ok (.goto 13, 3) := by decide +kernel
theorem dX5_apply_242 : decode cX5_apply 242 = .ok (.aload_n 0, 1) := by decide +kernel
theorem dX5_apply_243 : decode cX5_apply 243 = .ok (.getfield 7, 3) := by decide +kernel
theorem dX5_apply_246 : decode cX5_apply 246 = .ok (.iload 6, 2) := by decide +kernel
theorem dX5_apply_248 : decode cX5_apply 248 = .ok (.iload 9, 2) := by decide +kernel
theorem dX5_apply_250 : decode cX5_apply 250 = .ok (.iadd, 1) := by decide +kernel
theorem dX5_apply_251 : decode cX5_apply 251 = .ok (.baload, 1) := by decide +kernel
theorem dX5_apply_252 : decode cX5_apply 252 = .ok (.bastore, 1) := by decide +kernel
theorem dX5_apply_253 : decode cX5_apply 253 = .ok (.iinc 9 1, 3) := by decide +kernel
theorem dX5_apply_256 : decode cX5_apply 256 = .ok (.goto (-51), 3) := by decide +kernel
theorem dX5_apply_259 : decode cX5_apply 259 = .ok (.iload_n 1, 1) := by decide +kernel
theorem dX5_apply_260 : decode cX5_apply 260 = .ok (.iload 7, 2) := by decide +kernel
theorem dX5_apply_262 : decode cX5_apply 262 = .ok (.iadd, 1) := by decide +kernel
theorem dX5_apply_263 : decode cX5_apply 263 = .ok (.istore_n 1, 1) := by decide +kernel
theorem dX5_apply_264 : decode cX5_apply 264 = .ok (.iload_n 2, 1) := by decide +kernel
theorem dX5_apply_265 : decode cX5_apply 265 = .ok (.iload_n 3, 1) := by decide +kernel
theorem dX5_apply_266 : decode cX5_apply 266 = .ok (.ifCond .ne 10, 3) := by decide +kernel
theorem dX5_apply_269 : decode cX5_apply 269 = .ok (.iconst 2, 1) := by decide +kernel
theorem dX5_apply_270 : decode cX5_apply 270 = .ok (.iload 5, 2) := by decide +kernel
theorem dX5_apply_272 : decode cX5_apply 272 = .ok (.iadd, 1) := by decide +kernel
theorem dX5_apply_273 : decode cX5_apply 273 = .ok (.goto 4, 3) := by decide +kernel
theorem dX5_apply_276 : decode cX5_apply 276 = .ok (.iconst 4, 1) := by decide +kernel
theorem dX5_apply_277 : decode cX5_apply 277 = .ok (.iadd, 1) := by decide +kernel
theorem dX5_apply_278 : decode cX5_apply 278 = .ok (.istore_n 2, 1) := by decide +kernel
theorem dX5_apply_279 : decode cX5_apply 279 = .ok (.goto (-268), 3) := by decide +kernel
theorem dX5_apply_282 : decode cX5_apply 282 = .ok (.aload_n 0, 1) := by decide +kernel
theorem dX5_apply_283 : decode cX5_apply 283 = .ok (.getfield 13, 3) := by decide +kernel
theorem dX5_apply_286 : decode cX5_apply 286 = .ok (.iconst 2, 1) := by decide +kernel
theorem dX5_apply_287 : decode cX5_apply 287 = .ok (.iload_n 1, 1) := by decide +kernel
theorem dX5_apply_288 : decode cX5_apply 288 = .ok (.iastore, 1) := by decide +kernel
theorem dX5_apply_289 : decode cX5_apply 289 = .ok (.iload_n 1, 1) := by decide +kernel
theorem dX5_apply_290 : decode cX5_apply 290 = .ok (.ireturn, 1) := by decide +kernel
theorem dX5_at_0 : decode cX5_at 0 = .ok (.iload_n 1, 1) := by decide +kernel
theorem dX5_at_1 : decode cX5_at 1 = .ok (.ifCond .lt 21, 3) := by decide +kernel
theorem dX5_at_4 : decode cX5_at 4 = .ok (.iload_n 1, 1) := by decide +kernel
theorem dX5_at_5 : decode cX5_at 5 = .ok (.iconst 3, 1) := by decide +kernel
theorem dX5_at_6 : decode cX5_at 6 = .ok (.if_icmp .gt 16, 3) := by decide +kernel
theorem dX5_at_9 : decode cX5_at 9 = .ok (.iload_n 2, 1) := by decide +kernel
theorem dX5_at_10 : decode cX5_at 10 = .ok (.ifCond .lt 12, 3) := by decide +kernel
theorem dX5_at_13 : decode cX5_at 13 = .ok (.iload_n 2, 1) := by decide +kernel
theorem dX5_at_14 : decode cX5_at 14 = .ok (.aload_n 0, 1) := by decide +kernel
theorem dX5_at_15 : decode cX5_at 15 = .ok (.iload_n 1, 1) := by decide +kernel
theorem dX5_at_16 : decode cX5_at 16 = .ok (.invokevirtual 178, 3) := by decide +kernel
theorem dX5_at_19 : decode cX5_at 19 = .ok (.if_icmp .lt 5, 3) := by decide +kernel
theorem dX5_at_22 : decode cX5_at 22 = .ok (.iconst (-1), 1) := by decide +kernel
theorem dX5_at_23 : decode cX5_at 23 = .ok (.ireturn, 1) := by decide +kernel
theorem dX5_at_24 : decode cX5_at 24 = .ok (.iload_n 1, 1) := by decide +kernel
theorem dX5_at_25 : decode cX5_at 25 = .ok (.iconst 2, 1) := by decide +kernel
theorem dX5_at_26 : decode cX5_at 26 = .ok (.if_icmp .ne 12, 3) := by decide +kernel
theorem dX5_at_29 : decode cX5_at 29 = .ok (.aload_n 0, 1) := by decide +kernel
theorem dX5_at_30 : decode cX5_at 30 = .ok (.getfield 17, 3) := by decide +kernel
theorem dX5_at_33 : decode cX5_at 33 = .ok (.iload_n 2, 1) := by decide +kernel
theorem dX5_at_34 : decode cX5_at 34 = .ok (.baload, 1) := by decide +kernel
theorem dX5_at_35 : decode cX5_at 35 = .ok (.goto 24, 3) := by decide +kernel
theorem dX5_at_38 : decode cX5_at 38 = .ok (.aload_n 0, 1) := by decide +kernel
theorem dX5_at_39 : decode cX5_at 39 = .ok (.getfield 7, 3) := by decide +kernel
theorem dX5_at_42 : decode cX5_at 42 = .ok (.sipush 2000, 3) := by decide +kernel
theorem dX5_at_45 : decode cX5_at 45 = .ok (.iload_n 1, 1) := by decide +kernel
theorem dX5_at_46 : decode cX5_at 46 = .ok (.iconst 3, 1) := by decide +kernel
theorem dX5_at_47 : decode cX5_at 47 = .ok (.if_icmp .ne 7, 3) := by decide +kernel
theorem dX5_at_50 : decode cX5_at 50 = .ok (.iconst 2, 1) := by decide +kernel
theorem dX5_at_51 : decode cX5_at 51 = .ok (.goto 4, 3) := by decide +kernel
theorem dX5_at_54 : decode cX5_at 54 = .ok (.iload_n 1, 1) := by decide +kernel
theorem dX5_at_55 : decode cX5_at 55 = .ok (.imul, 1) := by decide +kernel
theorem dX5_at_56 : decode cX5_at 56 = .ok (.iload_n 2, 1) := by decide +kernel
theorem dX5_at_57 : decode cX5_at 57 = .ok (.iadd, 1) := by decide +kernel
theorem dX5_at_58 : decode cX5_at 58 = .ok (.baload, 1) := by decide +kernel
theorem dX5_at_59 : decode cX5_at 59 = .ok (.sipush 255, 3) := by decide +kernel
theorem dX5_at_62 : decode cX5_at 62 = .ok (.iand, 1) := by decide +kernel
theorem dX5_at_63 : decode cX5_at 63 = .ok (.ireturn, 1) := by decide +kernel
theorem dX5_size_0 : decode cX5_size 0 = .ok (.iload_n 1, 1) := by decide +kernel
theorem dX5_size_1 : decode cX5_size 1 = .ok (.ifCond .eq 8, 3) := by decide +kernel
theorem dX5_size_4 : decode cX5_size 4 = .ok (.iload_n 1, 1) := by decide +kernel
theorem dX5_size_5 : decode cX5_size 5 = .ok (.iconst 1, 1) := by decide +kernel
theorem dX5_size_6 : decode cX5_size 6 = .ok (.if_icmp .ne 12, 3) := by decide +kernel
theorem dX5_size_9 : decode cX5_size 9 = .ok (.aload_n 0, 1) := by decide +kernel
theorem dX5_size_10 : decode cX5_size 10 = .ok (.getfield 13, 3) := by decide +kernel
theorem dX5_size_13 : decode cX5_size 13 = .ok (.iload_n 1, 1) := by decide +kernel
theorem dX5_size_14 : decode cX5_size 14 = .ok (.iaload, 1) := by decide +kernel
theorem dX5_size_15 : decode cX5_size 15 = .ok (.goto 30, 3) := by decide +kernel
theorem dX5_size_18 : decode cX5_size 18 = .ok (.iload_n 1, 1) := by decide +kernel
theorem dX5_size_19 : decode cX5_size 19 = .ok (.iconst 2, 1) := by decide +kernel
theorem dX5_size_20 : decode cX5_size 20 = .ok (.if_icmp .ne 10, 3) := by decide +kernel
theorem dX5_size_23 : decode cX5_size 23 = .ok (.aload_n 0, 1) := by decide +kernel
theorem dX5_size_24 : decode cX5_size 24 = .ok (.getfield 157, 3) := by decide +kernel
theorem dX5_size_27 : decode cX5_size 27 = .ok (.goto 18, 3) := by decide +kernel
theorem dX5_size_30 : decode cX5_size 30 = .ok (.iload_n 1, 1) := by decide +kernel
theorem dX5_size_31 : decode cX5_size 31 = .ok (.iconst 3, 1) := by decide +kernel
theorem dX5_size_32 : decode cX5_size 32 = .ok (.if_icmp .ne 12, 3) := by decide +kernel
theorem dX5_size_35 : decode cX5_size 35 = .ok (.aload_n 0, 1) := by decide +kernel
theorem dX5_size_36 : decode cX5_size 36 = .ok (.getfield 13, 3) := by decide +kernel
theorem dX5_size_39 : decode cX5_size 39 = .ok (.iconst 2, 1) := by decide +kernel
theorem dX5_size_40 : decode cX5_size 40 = .ok (.iaload, 1) := by decide +kernel
theorem dX5_size_41 : decode cX5_size 41 = .ok (.goto 4, 3) := by decide +kernel
theorem dX5_size_44 : decode cX5_size 44 = .ok (.iconst (-1), 1) := by decide +kernel
theorem dX5_size_45 : decode cX5_size 45 = .ok (.ireturn, 1) := by decide +kernel
theorem dX5_change_0 : decode cX5_change 0 = .ok (.iload_n 1, 1) := by decide +kernel
theorem dX5_change_1 : decode cX5_change 1 = .ok (.ifCond .lt 22, 3) := by decide +kernel
theorem dX5_change_4 : decode cX5_change 4 = .ok (.iload_n 1, 1) := by decide +kernel
theorem dX5_change_5 : decode cX5_change 5 = .ok (.aload_n 0, 1) := by decide +kernel
theorem dX5_change_6 : decode cX5_change 6 = .ok (.getfield 157, 3) := by decide +kernel
theorem dX5_change_9 : decode cX5_change 9 = .ok (.if_icmp .ge 14, 3) := by decide +kernel
theorem dX5_change_12 : decode cX5_change 12 = .ok (.iload_n 2, 1) := by decide +kernel
theorem dX5_change_13 : decode cX5_change 13 = .ok (.ifCond .lt 10, 3) := by decide +kernel
theorem dX5_change_16 : decode cX5_change 16 = .ok (.iload_n 2, 1) := by decide +kernel
theorem dX5_change_17 : decode cX5_change 17 = .ok (.sipush 255, 3) := by decide +kernel
theorem dX5_change_20 : decode cX5_change 20 = .ok (.if_icmp .le 5, 3) := by decide +kernel
theorem dX5_change_23 : decode cX5_change 23 = .ok (.iconst 0, 1) := by decide +kernel
theorem dX5_change_24 : decode cX5_change 24 = .ok (.ireturn, 1) := by decide +kernel
theorem dX5_change_25 : decode cX5_change 25 = .ok (.aload_n 0, 1) := by decide +kernel
theorem dX5_change_26 : decode cX5_change 26 = .ok (.getfield 17, 3) := by decide +kernel
theorem dX5_change_29 : decode cX5_change 29 = .ok (.iload_n 1, 1) := by decide +kernel
theorem dX5_change_30 : decode cX5_change 30 = .ok (.iload_n 2, 1) := by decide +kernel
theorem dX5_change_31 : decode cX5_change 31 = .ok (.i2b, 1) := by decide +kernel
theorem dX5_change_32 : decode cX5_change 32 = .ok (.bastore, 1) := by decide +kernel
theorem dX5_change_33 : decode cX5_change 33 = .ok (.iconst 1, 1) := by decide +kernel
theorem dX5_change_34 : decode cX5_change 34 = .ok (.ireturn, 1) := by decide +kernel
theorem dX5_push_0 : decode cX5_push 0 = .ok (.iload_n 1, 1) := by decide +kernel
theorem dX5_push_1 : decode cX5_push 1 = .ok (.ifCond .lt 20, 3) := by decide +kernel
theorem dX5_push_4 : decode cX5_push 4 = .ok (.iload_n 1, 1) := by decide +kernel
theorem dX5_push_5 : decode cX5_push 5 = .ok (.sipush 255, 3) := by decide +kernel
theorem dX5_push_8 : decode cX5_push 8 = .ok (.if_icmp .gt 13, 3) := by decide +kernel
theorem dX5_push_11 : decode cX5_push 11 = .ok (.aload_n 0, 1) := by decide +kernel
theorem dX5_push_12 : decode cX5_push 12 = .ok (.getfield 157, 3) := by decide +kernel
theorem dX5_push_15 : decode cX5_push 15 = .ok (.sipush 6000, 3) := by decide +kernel
theorem dX5_push_18 : decode cX5_push 18 = .ok (.if_icmp .lt 5, 3) := by decide +kernel
theorem dX5_push_21 : decode cX5_push 21 = .ok (.iconst 0, 1) := by decide +kernel
theorem dX5_push_22 : decode cX5_push 22 = .ok (.ireturn, 1) := by decide +kernel
theorem dX5_push_23 : decode cX5_push 23 = .ok (.aload_n 0, 1) := by decide +kernel
theorem dX5_push_24 : decode cX5_push 24 = .ok (.iload_n 1, 1) := by decide +kernel
theorem dX5_push_25 : decode cX5_push 25 = .ok (.invokevirtual 175, 3) := by decide +kernel
theorem dX5_push_28 : decode cX5_push 28 = .ok (.iconst 1, 1) := by decide +kernel
theorem dX5_push_29 : decode cX5_push 29 = .ok (.ireturn, 1) := by decide +kernel
theorem dX5_keep_0 : decode cX5_keep 0 = .ok (.iload_n 1, 1) := by decide +kernel
theorem dX5_keep_1 : decode cX5_keep 1 = .ok (.ifCond .lt 11, 3) := by decide +kernel
theorem dX5_keep_4 : decode cX5_keep 4 = .ok (.iload_n 1, 1) := by decide +kernel
theorem dX5_keep_5 : decode cX5_keep 5 = .ok (.aload_n 0, 1) := by decide +kernel
theorem dX5_keep_6 : decode cX5_keep 6 = .ok (.getfield 157, 3) := by decide +kernel
theorem dX5_keep_9 : decode cX5_keep 9 = .ok (.if_icmp .le 5, 3) := by decide +kernel
theorem dX5_keep_12 : decode cX5_keep 12 = .ok (.iconst 0, 1) := by decide +kernel
theorem dX5_keep_13 : decode cX5_keep 13 = .ok (.ireturn, 1) := by decide +kernel
theorem dX5_keep_14 : decode cX5_keep 14 = .ok (.aload_n 0, 1) := by decide +kernel
theorem dX5_keep_15 : decode cX5_keep 15 = .ok (.iload_n 1, 1) := by decide +kernel
theorem dX5_keep_16 : decode cX5_keep 16 = .ok (.putfield 157, 3) := by decide +kernel
theorem dX5_keep_19 : decode cX5_keep 19 = .ok (.iconst 1, 1) := by decide +kernel
theorem dX5_keep_20 : decode cX5_keep 20 = .ok (.ireturn, 1) := by decide +kernel
theorem dX5_sumAt_0 : decode cX5_sumAt 0 = .ok (.iload_n 1, 1) := by decide +kernel
theorem dX5_sumAt_1 : decode cX5_sumAt 1 = .ok (.invokestatic 121, 3) := by decide +kernel
theorem dX5_sumAt_4 : decode cX5_sumAt 4 = .ok (.ifCond .eq 33, 3) := by decide +kernel
theorem dX5_sumAt_7 : decode cX5_sumAt 7 = .ok (.iload_n 2, 1) := by decide +kernel
theorem dX5_sumAt_8 : decode cX5_sumAt 8 = .ok (.ifCond .lt 29, 3) := by decide +kernel
theorem dX5_sumAt_11 : decode cX5_sumAt 11 = .ok (.iload_n 3, 1) := by decide +kernel
theorem dX5_sumAt_12 : decode cX5_sumAt 12 = .ok (.ifCond .lt 25, 3) := by decide +kernel
theorem dX5_sumAt_15 : decode cX5_sumAt 15 = .ok (.iload_n 2, 1) := by decide +kernel
theorem dX5_sumAt_16 : decode cX5_sumAt 16 = .ok (.aload_n 0, 1) := by decide +kernel
theorem dX5_sumAt_17 : decode cX5_sumAt 17 = .ok (.getfield 13, 3) := by decide +kernel
theorem dX5_sumAt_20 : decode cX5_sumAt 20 = .ok (.iload_n 1, 1) := by decide +kernel
theorem dX5_sumAt_21 : decode cX5_sumAt 21 = .ok (.iaload, 1) := by decide +kernel
theorem dX5_sumAt_22 : decode cX5_sumAt 22 = .ok (.if_icmp .gt 15, 3) := by decide +kernel
theorem dX5_sumAt_25 : decode cX5_sumAt 25 = .ok (.iload_n 3, 1) := by decide +kernel
theorem dX5_sumAt_26 : decode cX5_sumAt 26 = .ok (.aload_n 0, 1) := by decide +kernel
theorem dX5_sumAt_27 : decode cX5_sumAt 27 = .ok (.getfield 13, 3) := by decide +kernel
theorem dX5_sumAt_30 : decode cX5_sumAt 30 = .ok (.iload_n 1, 1) := by decide +kernel
theorem dX5_sumAt_31 : decode cX5_sumAt 31 = .ok (.iaload, 1) := by decide +kernel
theorem dX5_sumAt_32 : decode cX5_sumAt 32 = .ok (.iload_n 2, 1) := by decide +kernel
theorem dX5_sumAt_33 : decode cX5_sumAt 33 = .ok (.isub, 1) := by decide +kernel
theorem dX5_sumAt_34 : decode cX5_sumAt 34 = .ok (.if_icmp .le 5, 3) := by decide +kernel
theorem dX5_sumAt_37 : decode cX5_sumAt 37 = .ok (.iconst 0, 1) := by decide +kernel
theorem dX5_sumAt_38 : decode cX5_sumAt 38 = .ok (.ireturn, 1) := by decide +kernel
theorem dX5_sumAt_39 : decode cX5_sumAt 39 = .ok (.aload_n 0, 1) := by decide +kernel
theorem dX5_sumAt_40 : decode cX5_sumAt 40 = .ok (.sipush 2000, 3) := by decide +kernel
theorem dX5_sumAt_43 : decode cX5_sumAt 43 = .ok (.iload_n 1, 1) := by decide +kernel
theorem dX5_sumAt_44 : decode cX5_sumAt 44 = .ok (.imul, 1) := by decide +kernel
theorem dX5_sumAt_45 : decode cX5_sumAt 45 = .ok (.iload_n 2, 1) := by decide +kernel
theorem dX5_sumAt_46 : decode cX5_sumAt 46 = .ok (.iadd, 1) := by decide +kernel
theorem dX5_sumAt_47 : decode cX5_sumAt 47 = .ok (.iload_n 3, 1) := by decide +kernel
theorem dX5_sumAt_48 : decode cX5_sumAt 48 = .ok (.invokevirtual 139, 3) := by decide +kernel
theorem dX5_sumAt_51 : decode cX5_sumAt 51 = .ok (.ireturn, 1) := by decide +kernel
theorem dX5_md5_0 : decode cX5_md5 0 = .ok (.iload_n 1, 1) := by decide +kernel
theorem dX5_md5_1 : decode cX5_md5 1 = .ok (.invokestatic 121, 3) := by decide +kernel
theorem dX5_md5_4 : decode cX5_md5 4 = .ok (.ifCond .eq 13, 3) := by decide +kernel
theorem dX5_md5_7 : decode cX5_md5 7 = .ok (.iload_n 2, 1) := by decide +kernel
theorem dX5_md5_8 : decode cX5_md5 8 = .ok (.ifCond .lt 9, 3) := by decide +kernel
theorem dX5_md5_11 : decode cX5_md5 11 = .ok (.iload_n 2, 1) := by decide +kernel
theorem dX5_md5_12 : decode cX5_md5 12 = .ok (.bipush 15, 2) := by decide +kernel
theorem dX5_md5_14 : decode cX5_md5 14 = .ok (.if_icmp .le 5, 3) := by decide +kernel
theorem dX5_md5_17 : decode cX5_md5 17 = .ok (.iconst (-1), 1) := by decide +kernel
theorem dX5_md5_18 : decode cX5_md5 18 = .ok (.ireturn, 1) := by decide +kernel
theorem dX5_md5_19 : decode cX5_md5 19 = .ok (.aload_n 0, 1) := by decide +kernel
theorem dX5_md5_20 : decode cX5_md5 20 = .ok (.sipush 2000, 3) := by decide +kernel
theorem dX5_md5_23 : decode cX5_md5 23 = .ok (.iload_n 1, 1) := by decide +kernel
theorem dX5_md5_24 : decode cX5_md5 24 = .ok (.imul, 1) := by decide +kernel
theorem dX5_md5_25 : decode cX5_md5 25 = .ok (.aload_n 0, 1) := by decide +kernel
theorem dX5_md5_26 : decode cX5_md5 26 = .ok (.getfield 13, 3) := by decide +kernel
theorem dX5_md5_29 : decode cX5_md5 29 = .ok (.iload_n 1, 1) := by decide +kernel
theorem dX5_md5_30 : decode cX5_md5 30 = .ok (.iaload, 1) := by decide +kernel
theorem dX5_md5_31 : decode cX5_md5 31 = .ok (.invokevirtual 143, 3) := by decide +kernel
theorem dX5_md5_34 : decode cX5_md5 34 = .ok (.aload_n 0, 1) := by decide +kernel
theorem dX5_md5_35 : decode cX5_md5 35 = .ok (.iload_n 2, 1) := by decide +kernel
theorem dX5_md5_36 : decode cX5_md5 36 = .ok (.invokevirtual 147, 3) := by decide +kernel
theorem dX5_md5_39 : decode cX5_md5 39 = .ok (.ireturn, 1) := by decide +kernel
theorem dX5_same_0 : decode cX5_same 0 = .ok (.aload_n 0, 1) := by decide +kernel
theorem dX5_same_1 : decode cX5_same 1 = .ok (.getfield 13, 3) := by decide +kernel
theorem dX5_same_4 : decode cX5_same 4 = .ok (.iconst 1, 1) := by decide +kernel
theorem dX5_same_5 : decode cX5_same 5 = .ok (.iaload, 1) := by decide +kernel
theorem dX5_same_6 : decode cX5_same 6 = .ok (.aload_n 0, 1) := by decide +kernel
theorem dX5_same_7 : decode cX5_same 7 = .ok (.getfield 13, 3) := by decide +kernel
theorem dX5_same_10 : decode cX5_same 10 = .ok (.iconst 2, 1) := by decide +kernel
theorem dX5_same_11 : decode cX5_same 11 = .ok (.iaload, 1) := by decide +kernel
theorem dX5_same_12 : decode cX5_same 12 = .ok (.if_icmp .ne 7, 3) := by decide +kernel
theorem dX5_same_15 : decode cX5_same 15 = .ok (.iconst 1, 1) := by decide +kernel
theorem dX5_same_16 : decode cX5_same 16 = .ok (.goto 4, 3) := by decide +kernel
theorem dX5_same_19 : decode cX5_same 19 = .ok (.iconst 0, 1) := by decide +kernel
theorem dX5_same_20 : decode cX5_same 20 = .ok (.istore_n 1, 1) := by decide +kernel
theorem dX5_same_21 : decode cX5_same 21 = .ok (.iconst 0, 1) := by decide +kernel
theorem dX5_same_22 : decode cX5_same 22 = .ok (.istore_n 2, 1) := by decide +kernel
theorem dX5_same_23 : decode cX5_same 23 = .ok (.iload_n 2, 1) := by decide +kernel
theorem dX5_same_24 : decode cX5_same 24 = .ok (.aload_n 0, 1) := by decide +kernel
theorem dX5_same_25 : decode cX5_same 25 = .ok (.getfield 13, 3) := by decide +kernel
theorem dX5_same_28 : decode cX5_same 28 = .ok (.iconst 1, 1) := by decide +kernel
theorem dX5_same_29 : decode cX5_same 29 = .ok (.iaload, 1) := by decide +kernel
theorem dX5_same_30 : decode cX5_same 30 = .ok (.if_icmp .ge 42, 3) := by decide +kernel
theorem dX5_same_33 : decode cX5_same 33 = .ok (.iload_n 1, 1) := by decide +kernel
theorem dX5_same_34 : decode cX5_same 34 = .ok (.ifCond .eq 38, 3) := by decide +kernel
theorem dX5_same_37 : decode cX5_same 37 = .ok (.aload_n 0, 1) := by decide +kernel
theorem dX5_same_38 : decode cX5_same 38 = .ok (.getfield 7, 3) := by decide +kernel
theorem dX5_same_41 : decode cX5_same 41 = .ok (.sipush 2000, 3) := by decide +kernel
theorem dX5_same_44 : decode cX5_same 44 = .ok (.iload_n 2, 1) := by decide +kernel
theorem dX5_same_45 : decode cX5_same 45 = .ok (.iadd, 1) := by decide +kernel
theorem dX5_same_46 : decode cX5_same 46 = .ok (.baload, 1) := by decide +kernel
theorem dX5_same_47 : decode cX5_same 47 = .ok (.aload_n 0, 1) := by decide +kernel
theorem dX5_same_48 : decode cX5_same 48 = .ok (.getfield 7, 3) := by decide +kernel
theorem dX5_same_51 : decode cX5_same 51 = .ok (.sipush 4000, 3) := by decide +kernel
theorem dX5_same_54 : decode cX5_same 54 = .ok (.iload_n 2, 1) := by decide +kernel
theorem dX5_same_55 : decode cX5_same 55 = .ok (.iadd, 1) := by decide +kernel
theorem dX5_same_56 : decode cX5_same 56 = .ok (.baload, 1) := by decide +kernel
theorem dX5_same_57 : decode cX5_same 57 = .ok (.if_icmp .ne 7, 3) := by decide +kernel
theorem dX5_same_60 : decode cX5_same 60 = .ok (.iconst 1, 1) := by decide +kernel
theorem dX5_same_61 : decode cX5_same 61 = .ok (.goto 4, 3) := by decide +kernel
theorem dX5_same_64 : decode cX5_same 64 = .ok (.iconst 0, 1) := by decide +kernel
theorem dX5_same_65 : decode cX5_same 65 = .ok (.istore_n 1, 1) := by decide +kernel
theorem dX5_same_66 : decode cX5_same 66 = .ok (.iinc 2 1, 3) := by decide +kernel
theorem dX5_same_69 : decode cX5_same 69 = .ok (.goto (-46), 3) := by decide +kernel
theorem dX5_same_72 : decode cX5_same 72 = .ok (.iload_n 1, 1) := by decide +kernel
theorem dX5_same_73 : decode cX5_same 73 = .ok (.ireturn, 1) := by decide +kernel
theorem dX5_count_0 : decode cX5_count 0 = .ok (.iload_n 1, 1) := by decide +kernel
theorem dX5_count_1 : decode cX5_count 1 = .ok (.tableswitch 78 0 6 #[43, 48, 53, 58, 63, 68, 73], 43) := by decide +kernel
theorem dX5_count_44 : decode cX5_count 44 = .ok (.aload_n 0, 1) := by decide +kernel
theorem dX5_count_45 : decode cX5_count 45 = .ok (.getfield 160, 3) := by decide +kernel
theorem dX5_count_48 : decode cX5_count 48 = .ok (.ireturn, 1) := by decide +kernel
theorem dX5_count_49 : decode cX5_count 49 = .ok (.aload_n 0, 1) := by decide +kernel
theorem dX5_count_50 : decode cX5_count 50 = .ok (.getfield 163, 3) := by decide +kernel
theorem dX5_count_53 : decode cX5_count 53 = .ok (.ireturn, 1) := by decide +kernel
theorem dX5_count_54 : decode cX5_count 54 = .ok (.aload_n 0, 1) := by decide +kernel
theorem dX5_count_55 : decode cX5_count 55 = .ok (.getfield 166, 3) := by decide +kernel
theorem dX5_count_58 : decode cX5_count 58 = .ok (.ireturn, 1) := by decide +kernel
theorem dX5_count_59 : decode cX5_count 59 = .ok (.aload_n 0, 1) := by decide +kernel
theorem dX5_count_60 : decode cX5_count 60 = .ok (.getfield 154, 3) := by decide +kernel
theorem dX5_count_63 : decode cX5_count 63 = .ok (.ireturn, 1) := by decide +kernel
theorem dX5_count_64 : decode cX5_count 64 = .ok (.aload_n 0, 1) := by decide +kernel
theorem dX5_count_65 : decode cX5_count 65 = .ok (.getfield 136, 3) := by decide +kernel
theorem dX5_count_68 : decode cX5_count 68 = .ok (.ireturn, 1) := by decide +kernel
theorem dX5_count_69 : decode cX5_count 69 = .ok (.aload_n 0, 1) := by decide +kernel
theorem dX5_count_70 : decode cX5_count 70 = .ok (.getfield 27, 3) := by decide +kernel
theorem dX5_count_73 : decode cX5_count 73 = .ok (.ireturn, 1) := by decide +kernel
theorem dX5_count_74 : decode cX5_count 74 = .ok (.aload_n 0, 1) := by decide +kernel
theorem dX5_count_75 : decode cX5_count 75 = .ok (.getfield 30, 3) := by decide +kernel
theorem dX5_count_78 : decode cX5_count 78 = .ok (.ireturn, 1) := by decide +kernel
theorem dX5_count_79 : decode cX5_count 79 = .ok (.iconst (-1), 1) := by decide +kernel
theorem dX5_count_80 : decode cX5_count 80 = .ok (.ireturn, 1) := by decide +kernel
end
section
theorem dJ9_max_7cf53_0 : decode cJ9_max_7cf53 0 = .ok (.iload_n 0, 1) := by decide +kernel
theorem dJ9_max_7cf53_1 : decode cJ9_max_7cf53 1 = .ok (.iload_n 1, 1) := by decide +kernel
theorem dJ9_max_7cf53_2 : decode cJ9_max_7cf53 2 = .ok (.if_icmp .lt 7, 3) := by decide +kernel
theorem dJ9_max_7cf53_5 : decode cJ9_max_7cf53 5 = .ok (.iload_n 0, 1) := by decide +kernel
theorem dJ9_max_7cf53_6 : decode cJ9_max_7cf53 6 = .ok (.goto 4, 3) := by decide +kernel
theorem dJ9_max_7cf53_9 : decode cJ9_max_7cf53 9 = .ok (.iload_n 1, 1) := by decide +kernel
theorem dJ9_max_7cf53_10 : decode cJ9_max_7cf53 10 = .ok (.ireturn, 1) := by decide +kernel
theorem dJ9_min_7cf53_0 : decode cJ9_min_7cf53 0 = .ok (.iload_n 0, 1) := by decide +kernel
theorem dJ9_min_7cf53_1 : decode cJ9_min_7cf53 1 = .ok (.iload_n 1, 1) := by decide +kernel
theorem dJ9_min_7cf53_2 : decode cJ9_min_7cf53 2 = .ok (.if_icmp .gt 7, 3) := by decide +kernel
theorem dJ9_min_7cf53_5 : decode cJ9_min_7cf53 5 = .ok (.iload_n 0, 1) := by decide +kernel
theorem dJ9_min_7cf53_6 : decode cJ9_min_7cf53 6 = .ok (.goto 4, 3) := by decide +kernel
theorem dJ9_min_7cf53_9 : decode cJ9_min_7cf53 9 = .ok (.iload_n 1, 1) := by decide +kernel
theorem dJ9_min_7cf53_10 : decode cJ9_min_7cf53 10 = .ok (.ireturn, 1) := by decide +kernel
end
section
theorem dJ7_fill_53178_0 : decode cJ7_fill_53178 0 = .ok (.iconst 0, 1) := by decide +kernel
theorem dJ7_fill_53178_1 : decode cJ7_fill_53178 1 = .ok (.istore_n 2, 1) := by decide +kernel
theorem dJ7_fill_53178_2 : decode cJ7_fill_53178 2 = .ok (.aload_n 0, 1) := by decide +kernel
theorem dJ7_fill_53178_3 : decode cJ7_fill_53178 3 = .ok (.arraylength, 1) := by decide +kernel
theorem dJ7_fill_53178_4 : decode cJ7_fill_53178 4 = .ok (.istore_n 3, 1) := by decide +kernel
theorem dJ7_fill_53178_5 : decode cJ7_fill_53178 5 = .ok (.iload_n 2, 1) := by decide +kernel
theorem dJ7_fill_53178_6 : decode cJ7_fill_53178 6 = .ok (.iload_n 3, 1) := by decide +kernel
theorem dJ7_fill_53178_7 : decode cJ7_fill_53178 7 = .ok (.if_icmp .ge 13, 3) := by decide +kernel
theorem dJ7_fill_53178_10 : decode cJ7_fill_53178 10 = .ok (.aload_n 0, 1) := by decide +kernel
theorem dJ7_fill_53178_11 : decode cJ7_fill_53178 11 = .ok (.iload_n 2, 1) := by decide +kernel
theorem dJ7_fill_53178_12 : decode cJ7_fill_53178 12 = .ok (.iload_n 1, 1) := by decide +kernel
theorem dJ7_fill_53178_13 : decode cJ7_fill_53178 13 = .ok (.iastore, 1) := by decide +kernel
theorem dJ7_fill_53178_14 : decode cJ7_fill_53178 14 = .ok (.iinc 2 1, 3) := by decide +kernel
theorem dJ7_fill_53178_17 : decode cJ7_fill_53178 17 = .ok (.goto (-12), 3) := by decide +kernel
theorem dJ7_fill_53178_20 : decode cJ7_fill_53178 20 = .ok (.return_, 1) := by decide +kernel
theorem dJ7_copyOf_59c91_0 : decode cJ7_copyOf_59c91 0 = .ok (.iload_n 1, 1) := by decide +kernel
theorem dJ7_copyOf_59c91_1 : decode cJ7_copyOf_59c91 1 = .ok (.aload_n 0, 1) := by decide +kernel
theorem dJ7_copyOf_59c91_2 : decode cJ7_copyOf_59c91 2 = .ok (.arraylength, 1) := by decide +kernel
theorem dJ7_copyOf_59c91_3 : decode cJ7_copyOf_59c91 3 = .ok (.if_icmp .ne 11, 3) := by decide +kernel
theorem dJ7_copyOf_59c91_6 : decode cJ7_copyOf_59c91 6 = .ok (.aload_n 0, 1) := by decide +kernel
theorem dJ7_copyOf_59c91_7 : decode cJ7_copyOf_59c91 7 = .ok (.invokevirtual 316, 3) := by decide +kernel
theorem dJ7_copyOf_59c91_10 : decode cJ7_copyOf_59c91 10 = .ok (.checkcast 317, 3) := by decide +kernel
theorem dJ7_copyOf_59c91_13 : decode cJ7_copyOf_59c91 13 = .ok (.areturn, 1) := by decide +kernel
theorem dJ7_copyOf_59c91_14 : decode cJ7_copyOf_59c91 14 = .ok (.iload_n 1, 1) := by decide +kernel
theorem dJ7_copyOf_59c91_15 : decode cJ7_copyOf_59c91 15 = .ok (.newarray .int, 2) := by decide +kernel
theorem dJ7_copyOf_59c91_17 : decode cJ7_copyOf_59c91 17 = .ok (.astore_n 2, 1) := by decide +kernel
theorem dJ7_copyOf_59c91_18 : decode cJ7_copyOf_59c91 18 = .ok (.aload_n 0, 1) := by decide +kernel
theorem dJ7_copyOf_59c91_19 : decode cJ7_copyOf_59c91 19 = .ok (.iconst 0, 1) := by decide +kernel
theorem dJ7_copyOf_59c91_20 : decode cJ7_copyOf_59c91 20 = .ok (.aload_n 2, 1) := by decide +kernel
theorem dJ7_copyOf_59c91_21 : decode cJ7_copyOf_59c91 21 = .ok (.iconst 0, 1) := by decide +kernel
theorem dJ7_copyOf_59c91_22 : decode cJ7_copyOf_59c91 22 = .ok (.aload_n 0, 1) := by decide +kernel
theorem dJ7_copyOf_59c91_23 : decode cJ7_copyOf_59c91 23 = .ok (.arraylength, 1) := by decide +kernel
theorem dJ7_copyOf_59c91_24 : decode cJ7_copyOf_59c91 24 = .ok (.iload_n 1, 1) := by decide +kernel
theorem dJ7_copyOf_59c91_25 : decode cJ7_copyOf_59c91 25 = .ok (.invokestatic 304, 3) := by decide +kernel
theorem dJ7_copyOf_59c91_28 : decode cJ7_copyOf_59c91 28 = .ok (.invokestatic 150, 3) := by decide +kernel
theorem dJ7_copyOf_59c91_31 : decode cJ7_copyOf_59c91 31 = .ok (.aload_n 2, 1) := by decide +kernel
theorem dJ7_copyOf_59c91_32 : decode cJ7_copyOf_59c91 32 = .ok (.areturn, 1) := by decide +kernel
end
section
theorem dL_law_0 : decode cL_law 0 = .ok (.new 7, 3) := by decide +kernel
theorem dL_law_3 : decode cL_law 3 = .ok (.dup, 1) := by decide +kernel
theorem dL_law_4 : decode cL_law 4 = .ok (.invokespecial 9, 3) := by decide +kernel
theorem dL_law_7 : decode cL_law 7 = .ok (.astore_n 1, 1) := by decide +kernel
theorem dL_law_8 : decode cL_law 8 = .ok (.new 10, 3) := by decide +kernel
theorem dL_law_11 : decode cL_law 11 = .ok (.dup, 1) := by decide +kernel
theorem dL_law_12 : decode cL_law 12 = .ok (.invokespecial 12, 3) := by decide +kernel
theorem dL_law_15 : decode cL_law 15 = .ok (.astore_n 2, 1) := by decide +kernel
theorem dL_law_16 : decode cL_law 16 = .ok (.iconst 0, 1) := by decide +kernel
theorem dL_law_17 : decode cL_law 17 = .ok (.istore_n 3, 1) := by decide +kernel
theorem dL_law_18 : decode cL_law 18 = .ok (.iload_n 3, 1) := by decide +kernel
theorem dL_law_19 : decode cL_law 19 = .ok (.aload_n 0, 1) := by decide +kernel
theorem dL_law_20 : decode cL_law 20 = .ok (.arraylength, 1) := by decide +kernel
theorem dL_law_21 : decode cL_law 21 = .ok (.iconst 4, 1) := by decide +kernel
theorem dL_law_22 : decode cL_law 22 = .ok (.isub, 1) := by decide +kernel
theorem dL_law_23 : decode cL_law 23 = .ok (.if_icmp .gt 587, 3) := by decide +kernel
theorem dL_law_26 : decode cL_law 26 = .ok (.aload_n 0, 1) := by decide +kernel
theorem dL_law_27 : decode cL_law 27 = .ok (.iload_n 3, 1) := by decide +kernel
theorem dL_law_28 : decode cL_law 28 = .ok (.iaload, 1) := by decide +kernel
theorem dL_law_29 : decode cL_law 29 = .ok (.bipush 31, 2) := by decide +kernel
theorem dL_law_31 : decode cL_law 31 = .ok (.iand, 1) := by decide +kernel
theorem dL_law_32 : decode cL_law 32 = .ok (.tableswitch 572 0 17 #[88, 121, 154, 197, 230, 243, 266, 299, 312, 325, 358, 381, 414, 437, 460, 503, 536, 549], 88) := by decide +kernel
theorem dL_law_120 : decode cL_law 120 = .ok (.aload_n 1, 1) := by decide +kernel
theorem dL_law_121 : decode cL_law 121 = .ok (.aload_n 0, 1) := by decide +kernel
theorem dL_law_122 : decode cL_law 122 = .ok (.iload_n 3, 1) := by decide +kernel
theorem dL_law_123 : decode cL_law 123 = .ok (.iconst 1, 1) := by decide +kernel
theorem dL_law_124 : decode cL_law 124 = .ok (.iadd, 1) := by decide +kernel
theorem dL_law_125 : decode cL_law 125 = .ok (.iaload, 1) := by decide +kernel
theorem dL_law_126 : decode cL_law 126 = .ok (.aload_n 0, 1) := by decide +kernel
theorem dL_law_127 : decode cL_law 127 = .ok (.iload_n 3, 1) := by decide +kernel
theorem dL_law_128 : decode cL_law 128 = .ok (.iconst 2, 1) := by decide +kernel
theorem dL_law_129 : decode cL_law 129 = .ok (.iadd, 1) := by decide +kernel
theorem dL_law_130 : decode cL_law 130 = .ok (.iaload, 1) := by decide +kernel
theorem dL_law_131 : decode cL_law 131 = .ok (.invokevirtual 13, 3) := by decide +kernel
theorem dL_law_134 : decode cL_law 134 = .ok (.aload_n 2, 1) := by decide +kernel
theorem dL_law_135 : decode cL_law 135 = .ok (.aload_n 0, 1) := by decide +kernel
theorem dL_law_136 : decode cL_law 136 = .ok (.iload_n 3, 1) := by decide +kernel
theorem dL_law_137 : decode cL_law 137 = .ok (.iconst 1, 1) := by decide +kernel
theorem dL_law_138 : decode cL_law 138 = .ok (.iadd, 1) := by decide +kernel
theorem dL_law_139 : decode cL_law 139 = .ok (.iaload, 1) := by decide +kernel
theorem dL_law_140 : decode cL_law 140 = .ok (.aload_n 0, 1) := by decide +kernel
theorem dL_law_141 : decode cL_law 141 = .ok (.iload_n 3, 1) := by decide +kernel
theorem dL_law_142 : decode cL_law 142 = .ok (.iconst 2, 1) := by decide +kernel
theorem dL_law_143 : decode cL_law 143 = .ok (.iadd, 1) := by decide +kernel
theorem dL_law_144 : decode cL_law 144 = .ok (.iaload, 1) := by decide +kernel
theorem dL_law_145 : decode cL_law 145 = .ok (.invokevirtual 17, 3) := by decide +kernel
theorem dL_law_148 : decode cL_law 148 = .ok (.if_icmp .eq 456, 3) := by decide +kernel
theorem dL_law_151 : decode cL_law 151 = .ok (.iconst 0, 1) := by decide +kernel
theorem dL_law_152 : decode cL_law 152 = .ok (.ireturn, 1) := by decide +kernel
theorem dL_law_153 : decode cL_law 153 = .ok (.aload_n 1, 1) := by decide +kernel
theorem dL_law_154 : decode cL_law 154 = .ok (.aload_n 0, 1) := by decide +kernel
theorem dL_law_155 : decode cL_law 155 = .ok (.iload_n 3, 1) := by decide +kernel
theorem dL_law_156 : decode cL_law 156 = .ok (.iconst 1, 1) := by decide +kernel
theorem dL_law_157 : decode cL_law 157 = .ok (.iadd, 1) := by decide +kernel
theorem dL_law_158 : decode cL_law 158 = .ok (.iaload, 1) := by decide +kernel
theorem dL_law_159 : decode cL_law 159 = .ok (.aload_n 0, 1) := by decide +kernel
theorem dL_law_160 : decode cL_law 160 = .ok (.iload_n 3, 1) := by decide +kernel
theorem dL_law_161 : decode cL_law 161 = .ok (.iconst 2, 1) := by decide +kernel
theorem dL_law_162 : decode cL_law 162 = .ok (.iadd, 1) := by decide +kernel
theorem dL_law_163 : decode cL_law 163 = .ok (.iaload, 1) := by decide +kernel
theorem dL_law_164 : decode cL_law 164 = .ok (.invokevirtual 18, 3) := by decide +kernel
theorem dL_law_167 : decode cL_law 167 = .ok (.aload_n 2, 1) := by decide +kernel
theorem dL_law_168 : decode cL_law 168 = .ok (.aload_n 0, 1) := by decide +kernel
theorem dL_law_169 : decode cL_law 169 = .ok (.iload_n 3, 1) := by decide +kernel
theorem dL_law_170 : decode cL_law 170 = .ok (.iconst 1, 1) := by decide +kernel
theorem dL_law_171 : decode cL_law 171 = .ok (.iadd, 1) := by decide +kernel
theorem dL_law_172 : decode cL_law 172 = .ok (.iaload, 1) := by decide +kernel
theorem dL_law_173 : decode cL_law 173 = .ok (.aload_n 0, 1) := by decide +kernel
theorem dL_law_174 : decode cL_law 174 = .ok (.iload_n 3, 1) := by decide +kernel
theorem dL_law_175 : decode cL_law 175 = .ok (.iconst 2, 1) := by decide +kernel
theorem dL_law_176 : decode cL_law 176 = .ok (.iadd, 1) := by decide +kernel
theorem dL_law_177 : decode cL_law 177 = .ok (.iaload, 1) := by decide +kernel
theorem dL_law_178 : decode cL_law 178 = .ok (.invokevirtual 22, 3) := by decide +kernel
theorem dL_law_181 : decode cL_law 181 = .ok (.if_icmp .eq 423, 3) := by decide +kernel
theorem dL_law_184 : decode cL_law 184 = .ok (.iconst 0, 1) := by decide +kernel
theorem dL_law_185 : decode cL_law 185 = .ok (.ireturn, 1) := by decide +kernel
theorem dL_law_186 : decode cL_law 186 = .ok (.aload_n 1, 1) := by decide +kernel
theorem dL_law_187 : decode cL_law 187 = .ok (.aload_n 0, 1) := by decide +kernel
theorem dL_law_188 : decode cL_law 188 = .ok (.iload_n 3, 1) := by decide +kernel
theorem dL_law_189 : decode cL_law 189 = .ok (.iconst 1, 1) := by decide +kernel
theorem dL_law_190 : decode cL_law 190 = .ok (.iadd, 1) := by decide +kernel
theorem dL_law_191 : decode cL_law 191 = .ok (.iaload, 1) := by decide +kernel
theorem dL_law_192 : decode cL_law 192 = .ok (.aload_n 0, 1) := by decide +kernel
theorem dL_law_193 : decode cL_law 193 = .ok (.iload_n 3, 1) := by decide +kernel
theorem dL_law_194 : decode cL_law 194 = .ok (.iconst 2, 1) := by decide +kernel
theorem dL_law_195 : decode cL_law 195 = .ok (.iadd, 1) := by decide +kernel
theorem dL_law_196 : decode cL_law 196 = .ok (.iaload, 1) := by decide +kernel
theorem dL_law_197 : decode cL_law 197 = .ok (.aload_n 0, 1) := by decide +kernel
theorem dL_law_198 : decode cL_law 198 = .ok (.iload_n 3, 1) := by decide +kernel
theorem dL_law_199 : decode cL_law 199 = .ok (.iconst 3, 1) := by decide +kernel
theorem dL_law_200 : decode cL_law 200 = .ok (.iadd, 1) := by decide +kernel
theorem dL_law_201 : decode cL_law 201 = .ok (.iaload, 1) := by decide +kernel
theorem dL_law_202 : decode cL_law 202 = .ok (.invokevirtual 23, 3) := by decide +kernel
theorem dL_law_205 : decode cL_law 205 = .ok (.aload_n 2, 1) := by decide +kernel
theorem dL_law_206 : decode cL_law 206 = .ok (.aload_n 0, 1) := by decide +kernel
theorem dL_law_207 : decode cL_law 207 = .ok (.iload_n 3, 1) := by decide +kernel
theorem dL_law_208 : decode cL_law 208 = .ok (.iconst 1, 1) := by decide +kernel
theorem dL_law_209 : decode cL_law 209 = .ok (.iadd, 1) := by decide +kernel
theorem dL_law_210 : decode cL_law 210 = .ok (.iaload, 1) := by decide +kernel
theorem dL_law_211 : decode cL_law 211 = .ok (.aload_n 0, 1) := by decide +kernel
theorem dL_law_212 : decode cL_law 212 = .ok (.iload_n 3, 1) := by decide +kernel
theorem dL_law_213 : decode cL_law 213 = .ok (.iconst 2, 1) := by decide +kernel
theorem dL_law_214 : decode cL_law 214 = .ok (.iadd, 1) := by decide +kernel
theorem dL_law_215 : decode cL_law 215 = .ok (.iaload, 1) := by decide +kernel
theorem dL_law_216 : decode cL_law 216 = .ok (.aload_n 0, 1) := by decide +kernel
theorem dL_law_217 : decode cL_law 217 = .ok (.iload_n 3, 1) := by decide +kernel
theorem dL_law_218 : decode cL_law 218 = .ok (.iconst 3, 1) := by decide +kernel
theorem dL_law_219 : decode cL_law 219 = .ok (.iadd, 1) := by decide +kernel
theorem dL_law_220 : decode cL_law 220 = .ok (.iaload, 1) := by decide +kernel
theorem dL_law_221 : decode cL_law 221 = .ok (.invokevirtual 27, 3) := by decide +kernel
theorem dL_law_224 : decode cL_law 224 = .ok (.if_icmp .eq 380, 3) := by decide +kernel
theorem dL_law_227 : decode cL_law 227 = .ok (.iconst 0, 1) := by decide +kernel
theorem dL_law_228 : decode cL_law 228 = .ok (.ireturn, 1) := by decide +kernel
theorem dL_law_229 : decode cL_law 229 = .ok (.aload_n 1, 1) := by decide +kernel
theorem dL_law_230 : decode cL_law 230 = .ok (.aload_n 0, 1) := by decide +kernel
theorem dL_law_231 : decode cL_law 231 = .ok (.iload_n 3, 1) := by decide +kernel
theorem dL_law_232 : decode cL_law 232 = .ok (.iconst 1, 1) := by decide +kernel
theorem dL_law_233 : decode cL_law 233 = .ok (.iadd, 1) := by decide +kernel
theorem dL_law_234 : decode cL_law 234 = .ok (.iaload, 1) := by decide +kernel
theorem dL_law_235 : decode cL_law 235 = .ok (.aload_n 0, 1) := by decide +kernel
theorem dL_law_236 : decode cL_law 236 = .ok (.iload_n 3, 1) := by decide +kernel
theorem dL_law_237 : decode cL_law 237 = .ok (.iconst 2, 1) := by decide +kernel
theorem dL_law_238 : decode cL_law 238 = .ok (.iadd, 1) := by decide +kernel
theorem dL_law_239 : decode cL_law 239 = .ok (.iaload, 1) := by decide +kernel
theorem dL_law_240 : decode cL_law 240 = .ok (.invokevirtual 28, 3) := by decide +kernel
theorem dL_law_243 : decode cL_law 243 = .ok (.aload_n 2, 1) := by decide +kernel
theorem dL_law_244 : decode cL_law 244 = .ok (.aload_n 0, 1) := by decide +kernel
theorem dL_law_245 : decode cL_law 245 = .ok (.iload_n 3, 1) := by decide +kernel
theorem dL_law_246 : decode cL_law 246 = .ok (.iconst 1, 1) := by decide +kernel
theorem dL_law_247 : decode cL_law 247 = .ok (.iadd, 1) := by decide +kernel
theorem dL_law_248 : decode cL_law 248 = .ok (.iaload, 1) := by decide +kernel
theorem dL_law_249 : decode cL_law 249 = .ok (.aload_n 0, 1) := by decide +kernel
theorem dL_law_250 : decode cL_law 250 = .ok (.iload_n 3, 1) := by decide +kernel
theorem dL_law_251 : decode cL_law 251 = .ok (.iconst 2, 1) := by decide +kernel
theorem dL_law_252 : decode cL_law 252 = .ok (.iadd, 1) := by decide +kernel
theorem dL_law_253 : decode cL_law 253 = .ok (.iaload, 1) := by decide +kernel
theorem dL_law_254 : decode cL_law 254 = .ok (.invokevirtual 31, 3) := by decide +kernel
theorem dL_law_257 : decode cL_law 257 = .ok (.if_icmp .eq 347, 3) := by decide +kernel
theorem dL_law_260 : decode cL_law 260 = .ok (.iconst 0, 1) := by decide +kernel
theorem dL_law_261 : decode cL_law 261 = .ok (.ireturn, 1) := by decide +kernel
theorem dL_law_262 : decode cL_law 262 = .ok (.aload_n 1, 1) := by decide +kernel
theorem dL_law_263 : decode cL_law 263 = .ok (.invokevirtual 32, 3) := by decide +kernel
theorem dL_law_266 : decode cL_law 266 = .ok (.aload_n 2, 1) := by decide +kernel
theorem dL_law_267 : decode cL_law 267 = .ok (.invokevirtual 36, 3) := by decide +kernel
theorem dL_law_270 : decode cL_law 270 = .ok (.if_icmp .eq 334, 3) := by decide +kernel
theorem dL_law_273 : decode cL_law 273 = .ok (.iconst 0, 1) := by decide +kernel
theorem dL_law_274 : decode cL_law 274 = .ok (.ireturn, 1) := by decide +kernel
theorem dL_law_275 : decode cL_law 275 = .ok (.aload_n 1, 1) := by decide +kernel
theorem dL_law_276 : decode cL_law 276 = .ok (.aload_n 0, 1) := by decide +kernel
theorem dL_law_277 : decode cL_law 277 = .ok (.iload_n 3, 1) := by decide +kernel
theorem dL_law_278 : decode cL_law 278 = .ok (.iconst 1, 1) := by decide +kernel
theorem dL_law_279 : decode cL_law 279 = .ok (.iadd, 1) := by decide +kernel
theorem dL_law_280 : decode cL_law 280 = .ok (.iaload, 1) := by decide +kernel
theorem dL_law_281 : decode cL_law 281 = .ok (.invokevirtual 37, 3) := by decide +kernel
theorem dL_law_284 : decode cL_law 284 = .ok (.aload_n 2, 1) := by decide +kernel
theorem dL_law_285 : decode cL_law 285 = .ok (.aload_n 0, 1) := by decide +kernel
theorem dL_law_286 : decode cL_law 286 = .ok (.iload_n 3, 1) := by decide +kernel
theorem dL_law_287 : decode cL_law 287 = .ok (.iconst 1, 1) := by decide +kernel
theorem dL_law_288 : decode cL_law 288 = .ok (.iadd, 1) := by decide +kernel
theorem dL_law_289 : decode cL_law 289 = .ok (.iaload, 1) := by decide +kernel
theorem dL_law_290 : decode cL_law 290 = .ok (.invokevirtual 41, 3) := by decide +kernel
theorem dL_law_293 : decode cL_law 293 = .ok (.if_icmp .eq 311, 3) := by decide +kernel
theorem dL_law_296 : decode cL_law 296 = .ok (.iconst 0, 1) := by decide +kernel
theorem dL_law_297 : decode cL_law 297 = .ok (.ireturn, 1) := by decide +kernel
theorem dL_law_298 : decode cL_law 298 = .ok (.aload_n 1, 1) := by decide +kernel
theorem dL_law_299 : decode cL_law 299 = .ok (.aload_n 0, 1) := by decide +kernel
theorem dL_law_300 : decode cL_law 300 = .ok (.iload_n 3, 1) := by decide +kernel
theorem dL_law_301 : decode cL_law 301 = .ok (.iconst 1, 1) := by decide +kernel
theorem dL_law_302 : decode cL_law 302 = .ok (.iadd, 1) := by decide +kernel
theorem dL_law_303 : decode cL_law 303 = .ok (.iaload, 1) := by decide +kernel
theorem dL_law_304 : decode cL_law 304 = .ok (.aload_n 0, 1) := by decide +kernel
theorem dL_law_305 : decode cL_law 305 = .ok (.iload_n 3, 1) := by decide +kernel
theorem dL_law_306 : decode cL_law 306 = .ok (.iconst 2, 1) := by decide +kernel
theorem dL_law_307 : decode cL_law 307 = .ok (.iadd, 1) := by decide +kernel
theorem dL_law_308 : decode cL_law 308 = .ok (.iaload, 1) := by decide +kernel
theorem dL_law_309 : decode cL_law 309 = .ok (.invokevirtual 42, 3) := by decide +kernel
theorem dL_law_312 : decode cL_law 312 = .ok (.aload_n 2, 1) := by decide +kernel
theorem dL_law_313 : decode cL_law 313 = .ok (.aload_n 0, 1) := by decide +kernel
theorem dL_law_314 : decode cL_law 314 = .ok (.iload_n 3, 1) := by decide +kernel
theorem dL_law_315 : decode cL_law 315 = .ok (.iconst 1, 1) := by decide +kernel
theorem dL_law_316 : decode cL_law 316 = .ok (.iadd, 1) := by decide +kernel
theorem dL_law_317 : decode cL_law 317 = .ok (.iaload, 1) := by decide +kernel
theorem dL_law_318 : decode cL_law 318 = .ok (.aload_n 0, 1) := by decide +kernel
theorem dL_law_319 : decode cL_law 319 = .ok (.iload_n 3, 1) := by decide +kernel
theorem dL_law_320 : decode cL_law 320 = .ok (.iconst 2, 1) := by decide +kernel
theorem dL_law_321 : decode cL_law 321 = .ok (.iadd, 1) := by decide +kernel
theorem dL_law_322 : decode cL_law 322 = .ok (.iaload, 1) := by decide +kernel
theorem dL_law_323 : decode cL_law 323 = .ok (.invokevirtual 45, 3) := by decide +kernel
theorem dL_law_326 : decode cL_law 326 = .ok (.if_icmp .eq 278, 3) := by decide +kernel
theorem dL_law_329 : decode cL_law 329 = .ok (.iconst 0, 1) := by decide +kernel
theorem dL_law_330 : decode cL_law 330 = .ok (.ireturn, 1) := by decide +kernel
theorem dL_law_331 : decode cL_law 331 = .ok (.aload_n 1, 1) := by decide +kernel
theorem dL_law_332 : decode cL_law 332 = .ok (.invokevirtual 46, 3) := by decide +kernel
theorem dL_law_335 : decode cL_law 335 = .ok (.aload_n 2, 1) := by decide +kernel
theorem dL_law_336 : decode cL_law 336 = .ok (.invokevirtual 49, 3) := by decide +kernel
theorem dL_law_339 : decode cL_law 339 = .ok (.if_icmp .eq 265, 3) := by decide +kernel
theorem dL_law_342 : decode cL_law 342 = .ok (.iconst 0, 1) := by decide +kernel
theorem dL_law_343 : decode cL_law 343 = .ok (.ireturn, 1) := by decide +kernel
theorem dL_law_344 : decode cL_law 344 = .ok (.aload_n 1, 1) := by decide +kernel
theorem dL_law_345 : decode cL_law 345 = .ok (.invokevirtual 50, 3) := by decide +kernel
theorem dL_law_348 : decode cL_law 348 = .ok (.aload_n 2, 1) := by decide +kernel
theorem dL_law_349 : decode cL_law 349 = .ok (.invokevirtual 53, 3) := by decide +kernel
theorem dL_law_352 : decode cL_law 352 = .ok (.if_icmp .eq 252, 3) := by decide +kernel
theorem dL_law_355 : decode cL_law 355 = .ok (.iconst 0, 1) := by decide +kernel
theorem dL_law_356 : decode cL_law 356 = .ok (.ireturn, 1) := by decide +kernel
theorem dL_law_357 : decode cL_law 357 = .ok (.aload_n 1, 1) := by decide +kernel
theorem dL_law_358 : decode cL_law 358 = .ok (.aload_n 0, 1) := by decide +kernel
theorem dL_law_359 : decode cL_law 359 = .ok (.iload_n 3, 1) := by decide +kernel
theorem dL_law_360 : decode cL_law 360 = .ok (.iconst 1, 1) := by decide +kernel
theorem dL_law_361 : decode cL_law 361 = .ok (.iadd, 1) := by decide +kernel
theorem dL_law_362 : decode cL_law 362 = .ok (.iaload, 1) := by decide +kernel
theorem dL_law_363 : decode cL_law 363 = .ok (.aload_n 0, 1) := by decide +kernel
theorem dL_law_364 : decode cL_law 364 = .ok (.iload_n 3, 1) := by decide +kernel
theorem dL_law_365 : decode cL_law 365 = .ok (.iconst 2, 1) := by decide +kernel
theorem dL_law_366 : decode cL_law 366 = .ok (.iadd, 1) := by decide +kernel
theorem dL_law_367 : decode cL_law 367 = .ok (.iaload, 1) := by decide +kernel
theorem dL_law_368 : decode cL_law 368 = .ok (.invokevirtual 54, 3) := by decide +kernel
theorem dL_law_371 : decode cL_law 371 = .ok (.aload_n 2, 1) := by decide +kernel
theorem dL_law_372 : decode cL_law 372 = .ok (.aload_n 0, 1) := by decide +kernel
theorem dL_law_373 : decode cL_law 373 = .ok (.iload_n 3, 1) := by decide +kernel
theorem dL_law_374 : decode cL_law 374 = .ok (.iconst 1, 1) := by decide +kernel
theorem dL_law_375 : decode cL_law 375 = .ok (.iadd, 1) := by decide +kernel
theorem dL_law_376 : decode cL_law 376 = .ok (.iaload, 1) := by decide +kernel
theorem dL_law_377 : decode cL_law 377 = .ok (.aload_n 0, 1) := by decide +kernel
theorem dL_law_378 : decode cL_law 378 = .ok (.iload_n 3, 1) := by decide +kernel
theorem dL_law_379 : decode cL_law 379 = .ok (.iconst 2, 1) := by decide +kernel
theorem dL_law_380 : decode cL_law 380 = .ok (.iadd, 1) := by decide +kernel
theorem dL_law_381 : decode cL_law 381 = .ok (.iaload, 1) := by decide +kernel
theorem dL_law_382 : decode cL_law 382 = .ok (.invokevirtual 57, 3) := by decide +kernel
theorem dL_law_385 : decode cL_law 385 = .ok (.if_icmp .eq 219, 3) := by decide +kernel
theorem dL_law_388 : decode cL_law 388 = .ok (.iconst 0, 1) := by decide +kernel
theorem dL_law_389 : decode cL_law 389 = .ok (.ireturn, 1) := by decide +kernel
theorem dL_law_390 : decode cL_law 390 = .ok (.aload_n 1, 1) := by decide +kernel
theorem dL_law_391 : decode cL_law 391 = .ok (.aload_n 0, 1) := by decide +kernel
theorem dL_law_392 : decode cL_law 392 = .ok (.iload_n 3, 1) := by decide +kernel
theorem dL_law_393 : decode cL_law 393 = .ok (.iconst 1, 1) := by decide +kernel
theorem dL_law_394 : decode cL_law 394 = .ok (.iadd, 1) := by decide +kernel
theorem dL_law_395 : decode cL_law 395 = .ok (.iaload, 1) := by decide +kernel
theorem dL_law_396 : decode cL_law 396 = .ok (.invokevirtual 58, 3) := by decide +kernel
theorem dL_law_399 : decode cL_law 399 = .ok (.aload_n 2, 1) := by decide +kernel
theorem dL_law_400 : decode cL_law 400 = .ok (.aload_n 0, 1) := by decide +kernel
theorem dL_law_401 : decode cL_law 401 = .ok (.iload_n 3, 1) := by decide +kernel
theorem dL_law_402 : decode cL_law 402 = .ok (.iconst 1, 1) := by decide +kernel
theorem dL_law_403 : decode cL_law 403 = .ok (.iadd, 1) := by decide +kernel
theorem dL_law_404 : decode cL_law 404 = .ok (.iaload, 1) := by decide +kernel
theorem dL_law_405 : decode cL_law 405 = .ok (.invokevirtual 61, 3) := by decide +kernel
theorem dL_law_408 : decode cL_law 408 = .ok (.if_icmp .eq 196, 3) := by decide +kernel
theorem dL_law_411 : decode cL_law 411 = .ok (.iconst 0, 1) := by decide +kernel
theorem dL_law_412 : decode cL_law 412 = .ok (.ireturn, 1) := by decide +kernel
theorem dL_law_413 : decode cL_law 413 = .ok (.aload_n 1, 1) := by decide +kernel
theorem dL_law_414 : decode cL_law 414 = .ok (.aload_n 0, 1) := by decide +kernel
theorem dL_law_415 : decode cL_law 415 = .ok (.iload_n 3, 1) := by decide +kernel
theorem dL_law_416 : decode cL_law 416 = .ok (.iconst 1, 1) := by decide +kernel
theorem dL_law_417 : decode cL_law 417 = .ok (.iadd, 1) := by decide +kernel
theorem dL_law_418 : decode cL_law 418 = .ok (.iaload, 1) := by decide +kernel
theorem dL_law_419 : decode cL_law 419 = .ok (.aload_n 0, 1) := by decide +kernel
theorem dL_law_420 : decode cL_law 420 = .ok (.iload_n 3, 1) := by decide +kernel
theorem dL_law_421 : decode cL_law 421 = .ok (.iconst 2, 1) := by decide +kernel
theorem dL_law_422 : decode cL_law 422 = .ok (.iadd, 1) := by decide +kernel
theorem dL_law_423 : decode cL_law 423 = .ok (.iaload, 1) := by decide +kernel
theorem dL_law_424 : decode cL_law 424 = .ok (.invokevirtual 62, 3) := by decide +kernel
theorem dL_law_427 : decode cL_law 427 = .ok (.aload_n 2, 1) := by decide +kernel
theorem dL_law_428 : decode cL_law 428 = .ok (.aload_n 0, 1) := by decide +kernel
theorem dL_law_429 : decode cL_law 429 = .ok (.iload_n 3, 1) := by decide +kernel
theorem dL_law_430 : decode cL_law 430 = .ok (.iconst 1, 1) := by decide +kernel
theorem dL_law_431 : decode cL_law 431 = .ok (.iadd, 1) := by decide +kernel
theorem dL_law_432 : decode cL_law 432 = .ok (.iaload, 1) := by decide +kernel
theorem dL_law_433 : decode cL_law 433 = .ok (.aload_n 0, 1) := by decide +kernel
theorem dL_law_434 : decode cL_law 434 = .ok (.iload_n 3, 1) := by decide +kernel
theorem dL_law_435 : decode cL_law 435 = .ok (.iconst 2, 1) := by decide +kernel
theorem dL_law_436 : decode cL_law 436 = .ok (.iadd, 1) := by decide +kernel
theorem dL_law_437 : decode cL_law 437 = .ok (.iaload, 1) := by decide +kernel
theorem dL_law_438 : decode cL_law 438 = .ok (.invokevirtual 65, 3) := by decide +kernel
theorem dL_law_441 : decode cL_law 441 = .ok (.if_icmp .eq 163, 3) := by decide +kernel
theorem dL_law_444 : decode cL_law 444 = .ok (.iconst 0, 1) := by decide +kernel
theorem dL_law_445 : decode cL_law 445 = .ok (.ireturn, 1) := by decide +kernel
theorem dL_law_446 : decode cL_law 446 = .ok (.aload_n 1, 1) := by decide +kernel
theorem dL_law_447 : decode cL_law 447 = .ok (.aload_n 0, 1) := by decide +kernel
theorem dL_law_448 : decode cL_law 448 = .ok (.iload_n 3, 1) := by decide +kernel
theorem dL_law_449 : decode cL_law 449 = .ok (.iconst 1, 1) := by decide +kernel
theorem dL_law_450 : decode cL_law 450 = .ok (.iadd, 1) := by decide +kernel
theorem dL_law_451 : decode cL_law 451 = .ok (.iaload, 1) := by decide +kernel
theorem dL_law_452 : decode cL_law 452 = .ok (.invokevirtual 66, 3) := by decide +kernel
theorem dL_law_455 : decode cL_law 455 = .ok (.aload_n 2, 1) := by decide +kernel
theorem dL_law_456 : decode cL_law 456 = .ok (.aload_n 0, 1) := by decide +kernel
theorem dL_law_457 : decode cL_law 457 = .ok (.iload_n 3, 1) := by decide +kernel
theorem dL_law_458 : decode cL_law 458 = .ok (.iconst 1, 1) := by decide +kernel
theorem dL_law_459 : decode cL_law 459 = .ok (.iadd, 1) := by decide +kernel
theorem dL_law_460 : decode cL_law 460 = .ok (.iaload, 1) := by decide +kernel
theorem dL_law_461 : decode cL_law 461 = .ok (.invokevirtual 70, 3) := by decide +kernel
theorem dL_law_464 : decode cL_law 464 = .ok (.if_icmp .eq 140, 3) := by decide +kernel
theorem dL_law_467 : decode cL_law 467 = .ok (.iconst 0, 1) := by decide +kernel
theorem dL_law_468 : decode cL_law 468 = .ok (.ireturn, 1) := by decide +kernel
theorem dL_law_469 : decode cL_law 469 = .ok (.aload_n 1, 1) := by decide +kernel
theorem dL_law_470 : decode cL_law 470 = .ok (.aload_n 0, 1) := by decide +kernel
theorem dL_law_471 : decode cL_law 471 = .ok (.iload_n 3, 1) := by decide +kernel
theorem dL_law_472 : decode cL_law 472 = .ok (.iconst 1, 1) := by decide +kernel
theorem dL_law_473 : decode cL_law 473 = .ok (.iadd, 1) := by decide +kernel
theorem dL_law_474 : decode cL_law 474 = .ok (.iaload, 1) := by decide +kernel
theorem dL_law_475 : decode cL_law 475 = .ok (.invokevirtual 71, 3) := by decide +kernel
theorem dL_law_478 : decode cL_law 478 = .ok (.aload_n 2, 1) := by decide +kernel
theorem dL_law_479 : decode cL_law 479 = .ok (.aload_n 0, 1) := by decide +kernel
theorem dL_law_480 : decode cL_law 480 = .ok (.iload_n 3, 1) := by decide +kernel
theorem dL_law_481 : decode cL_law 481 = .ok (.iconst 1, 1) := by decide +kernel
theorem dL_law_482 : decode cL_law 482 = .ok (.iadd, 1) := by decide +kernel
theorem dL_law_483 : decode cL_law 483 = .ok (.iaload, 1) := by decide +kernel
theorem dL_law_484 : decode cL_law 484 = .ok (.invokevirtual 74, 3) := by decide +kernel
theorem dL_law_487 : decode cL_law 487 = .ok (.if_icmp .eq 117, 3) := by decide +kernel
theorem dL_law_490 : decode cL_law 490 = .ok (.iconst 0, 1) := by decide +kernel
theorem dL_law_491 : decode cL_law 491 = .ok (.ireturn, 1) := by decide +kernel
theorem dL_law_492 : decode cL_law 492 = .ok (.aload_n 1, 1) := by decide +kernel
theorem dL_law_493 : decode cL_law 493 = .ok (.aload_n 0, 1) := by decide +kernel
theorem dL_law_494 : decode cL_law 494 = .ok (.iload_n 3, 1) := by decide +kernel
theorem dL_law_495 : decode cL_law 495 = .ok (.iconst 1, 1) := by decide +kernel
theorem dL_law_496 : decode cL_law 496 = .ok (.iadd, 1) := by decide +kernel
theorem dL_law_497 : decode cL_law 497 = .ok (.iaload, 1) := by decide +kernel
theorem dL_law_498 : decode cL_law 498 = .ok (.aload_n 0, 1) := by decide +kernel
theorem dL_law_499 : decode cL_law 499 = .ok (.iload_n 3, 1) := by decide +kernel
theorem dL_law_500 : decode cL_law 500 = .ok (.iconst 2, 1) := by decide +kernel
theorem dL_law_501 : decode cL_law 501 = .ok (.iadd, 1) := by decide +kernel
theorem dL_law_502 : decode cL_law 502 = .ok (.iaload, 1) := by decide +kernel
theorem dL_law_503 : decode cL_law 503 = .ok (.aload_n 0, 1) := by decide +kernel
theorem dL_law_504 : decode cL_law 504 = .ok (.iload_n 3, 1) := by decide +kernel
theorem dL_law_505 : decode cL_law 505 = .ok (.iconst 3, 1) := by decide +kernel
theorem dL_law_506 : decode cL_law 506 = .ok (.iadd, 1) := by decide +kernel
theorem dL_law_507 : decode cL_law 507 = .ok (.iaload, 1) := by decide +kernel
theorem dL_law_508 : decode cL_law 508 = .ok (.invokevirtual 75, 3) := by decide +kernel
theorem dL_law_511 : decode cL_law 511 = .ok (.aload_n 2, 1) := by decide +kernel
theorem dL_law_512 : decode cL_law 512 = .ok (.aload_n 0, 1) := by decide +kernel
theorem dL_law_513 : decode cL_law 513 = .ok (.iload_n 3, 1) := by decide +kernel
theorem dL_law_514 : decode cL_law 514 = .ok (.iconst 1, 1) := by decide +kernel
theorem dL_law_515 : decode cL_law 515 = .ok (.iadd, 1) := by decide +kernel
theorem dL_law_516 : decode cL_law 516 = .ok (.iaload, 1) := by decide +kernel
theorem dL_law_517 : decode cL_law 517 = .ok (.aload_n 0, 1) := by decide +kernel
theorem dL_law_518 : decode cL_law 518 = .ok (.iload_n 3, 1) := by decide +kernel
theorem dL_law_519 : decode cL_law 519 = .ok (.iconst 2, 1) := by decide +kernel
theorem dL_law_520 : decode cL_law 520 = .ok (.iadd, 1) := by decide +kernel
theorem dL_law_521 : decode cL_law 521 = .ok (.iaload, 1) := by decide +kernel
theorem dL_law_522 : decode cL_law 522 = .ok (.aload_n 0, 1) := by decide +kernel
theorem dL_law_523 : decode cL_law 523 = .ok (.iload_n 3, 1) := by decide +kernel
theorem dL_law_524 : decode cL_law 524 = .ok (.iconst 3, 1) := by decide +kernel
theorem dL_law_525 : decode cL_law 525 = .ok (.iadd, 1) := by decide +kernel
theorem dL_law_526 : decode cL_law 526 = .ok (.iaload, 1) := by decide +kernel
theorem dL_law_527 : decode cL_law 527 = .ok (.invokevirtual 79, 3) := by decide +kernel
theorem dL_law_530 : decode cL_law 530 = .ok (.if_icmp .eq 74, 3) := by decide +kernel
theorem dL_law_533 : decode cL_law 533 = .ok (.iconst 0, 1) := by decide +kernel
theorem dL_law_534 : decode cL_law 534 = .ok (.ireturn, 1) := by decide +kernel
theorem dL_law_535 : decode cL_law 535 = .ok (.aload_n 1, 1) := by decide +kernel
theorem dL_law_536 : decode cL_law 536 = .ok (.aload_n 0, 1) := by decide +kernel
theorem dL_law_537 : decode cL_law 537 = .ok (.iload_n 3, 1) := by decide +kernel
theorem dL_law_538 : decode cL_law 538 = .ok (.iconst 1, 1) := by decide +kernel
theorem dL_law_539 : decode cL_law 539 = .ok (.iadd, 1) := by decide +kernel
theorem dL_law_540 : decode cL_law 540 = .ok (.iaload, 1) := by decide +kernel
theorem dL_law_541 : decode cL_law 541 = .ok (.aload_n 0, 1) := by decide +kernel
theorem dL_law_542 : decode cL_law 542 = .ok (.iload_n 3, 1) := by decide +kernel
theorem dL_law_543 : decode cL_law 543 = .ok (.iconst 2, 1) := by decide +kernel
theorem dL_law_544 : decode cL_law 544 = .ok (.iadd, 1) := by decide +kernel
theorem dL_law_545 : decode cL_law 545 = .ok (.iaload, 1) := by decide +kernel
theorem dL_law_546 : decode cL_law 546 = .ok (.invokevirtual 80, 3) := by decide +kernel
theorem dL_law_549 : decode cL_law 549 = .ok (.aload_n 2, 1) := by decide +kernel
theorem dL_law_550 : decode cL_law 550 = .ok (.aload_n 0, 1) := by decide +kernel
theorem dL_law_551 : decode cL_law 551 = .ok (.iload_n 3, 1) := by decide +kernel
theorem dL_law_552 : decode cL_law 552 = .ok (.iconst 1, 1) := by decide +kernel
theorem dL_law_553 : decode cL_law 553 = .ok (.iadd, 1) := by decide +kernel
theorem dL_law_554 : decode cL_law 554 = .ok (.iaload, 1) := by decide +kernel
theorem dL_law_555 : decode cL_law 555 = .ok (.aload_n 0, 1) := by decide +kernel
theorem dL_law_556 : decode cL_law 556 = .ok (.iload_n 3, 1) := by decide +kernel
theorem dL_law_557 : decode cL_law 557 = .ok (.iconst 2, 1) := by decide +kernel
theorem dL_law_558 : decode cL_law 558 = .ok (.iadd, 1) := by decide +kernel
theorem dL_law_559 : decode cL_law 559 = .ok (.iaload, 1) := by decide +kernel
theorem dL_law_560 : decode cL_law 560 = .ok (.invokevirtual 83, 3) := by decide +kernel
theorem dL_law_563 : decode cL_law 563 = .ok (.if_icmp .eq 41, 3) := by decide +kernel
theorem dL_law_566 : decode cL_law 566 = .ok (.iconst 0, 1) := by decide +kernel
theorem dL_law_567 : decode cL_law 567 = .ok (.ireturn, 1) := by decide +kernel
theorem dL_law_568 : decode cL_law 568 = .ok (.aload_n 1, 1) := by decide +kernel
theorem dL_law_569 : decode cL_law 569 = .ok (.invokevirtual 84, 3) := by decide +kernel
theorem dL_law_572 : decode cL_law 572 = .ok (.aload_n 2, 1) := by decide +kernel
theorem dL_law_573 : decode cL_law 573 = .ok (.invokevirtual 88, 3) := by decide +kernel
theorem dL_law_576 : decode cL_law 576 = .ok (.if_icmp .eq 28, 3) := by decide +kernel
theorem dL_law_579 : decode cL_law 579 = .ok (.iconst 0, 1) := by decide +kernel
theorem dL_law_580 : decode cL_law 580 = .ok (.ireturn, 1) := by decide +kernel
theorem dL_law_581 : decode cL_law 581 = .ok (.aload_n 1, 1) := by decide +kernel
theorem dL_law_582 : decode cL_law 582 = .ok (.aload_n 0, 1) := by decide +kernel
theorem dL_law_583 : decode cL_law 583 = .ok (.iload_n 3, 1) := by decide +kernel
theorem dL_law_584 : decode cL_law 584 = .ok (.iconst 1, 1) := by decide +kernel
theorem dL_law_585 : decode cL_law 585 = .ok (.iadd, 1) := by decide +kernel
theorem dL_law_586 : decode cL_law 586 = .ok (.iaload, 1) := by decide +kernel
theorem dL_law_587 : decode cL_law 587 = .ok (.invokevirtual 89, 3) := by decide +kernel
theorem dL_law_590 : decode cL_law 590 = .ok (.aload_n 2, 1) := by decide +kernel
theorem dL_law_591 : decode cL_law 591 = .ok (.aload_n 0, 1) := by decide +kernel
theorem dL_law_592 : decode cL_law 592 = .ok (.iload_n 3, 1) := by decide +kernel
theorem dL_law_593 : decode cL_law 593 = .ok (.iconst 1, 1) := by decide +kernel
theorem dL_law_594 : decode cL_law 594 = .ok (.iadd, 1) := by decide +kernel
theorem dL_law_595 : decode cL_law 595 = .ok (.iaload, 1) := by decide +kernel
theorem dL_law_596 : decode cL_law 596 = .ok (.invokevirtual 92, 3) := by decide +kernel
theorem dL_law_599 : decode cL_law 599 = .ok (.if_icmp .eq 5, 3) := by decide +kernel
theorem dL_law_602 : decode cL_law 602 = .ok (.iconst 0, 1) := by decide +kernel
theorem dL_law_603 : decode cL_law 603 = .ok (.ireturn, 1) := by decide +kernel
theorem dL_law_604 : decode cL_law 604 = .ok (.iinc 3 4, 3) := by decide +kernel
theorem dL_law_607 : decode cL_law 607 = .ok (.goto (-589), 3) := by decide +kernel
theorem dL_law_610 : decode cL_law 610 = .ok (.iconst 1, 1) := by decide +kernel
theorem dL_law_611 : decode cL_law 611 = .ok (.ireturn, 1) := by decide +kernel
end
section
/-! the tables of Md5, the classes, one judgement over pure configurations -/
def kSinL : List Int32 := [(-680876936), (-389564586), 606105819, (-1044525330), (-176418897), 1200080426, (-1473231341), (-45705983), 1770035416, (-1958414417), (-42063), (-1990404162), 1804603682, (-40341101), (-1502002290), 1236535329, (-165796510), (-1069501632), 643717713, (-373897302), (-701558691), 38016083, (-660478335), (-405537848), 568446438, (-1019803690), (-187363961), 1163531501, (-1444681467), (-51403784), 1735328473, (-1926607734), (-378558), (-2022574463), 1839030562, (-35309556), (-1530992060), 1272893353, (-155497632), (-1094730640), 681279174, (-358537222), (-722521979), 76029189, (-640364487), (-421815835), 530742520, (-995338651), (-198630844), 1126891415, (-1416354905), (-57434055), 1700485571, (-1894986606), (-1051523), (-2054922799), 1873313359, (-30611744), (-1560198380), 1309151649, (-145523070), (-1120210379), 718787259, (-343485551)]
def kSin (j : Nat) : Int32 := kSinL.getD j 0
def kTrnL : List Int32 := [7, 12, 17, 22, 5, 9, 14, 20, 4, 11, 16, 23, 6, 10, 15, 21]
def kTrn (j : Nat) : Int32 := kTrnL.getD j 0
abbrev kCl : List vw_C := [(RX0, TX0, 2), (RX1, TX1, 3), (RX2, TX2, 7), (RX3, TX3, 11), (RX4, TX4, 9), (RX5, TX5, 22)]
abbrev kTy (cI cB : ClassId) : List (ClassId × FieldType) := [(cI, .int), (cB, .byte)]
def kZ (A : Nat → Prop) (U : State) (H : Heap) : Prop := ∃ t1 t2 : Nat, va_Z "DeltaSync$Md5" "SINES" "[I" (.ref t1) A U H ∧ va_T .int t1 64 (fun j => .int (kSin j)) A U H ∧ va_Z "DeltaSync$Md5" "TURNS" "[I" (.ref t2) A U H ∧ va_T .int t2 16 (fun j => .int (kTrn j)) A U H
theorem kZ_go {A B : Nat → Prop} {u U : State} {H H1 : Heap} (h : kZ A u H) (hvm : u.vm.Alike U.vm) (hq : ∀ a : Nat, a < H.size → ¬ A a → H1[a]? = H[a]?) (hAB : ∀ q, B q → A q) : kZ B U H1 := by
  obtain ⟨t1, t2, h1, h2, h3, h4⟩ := h
  exact ⟨t1, t2, va_Z.moved hvm (va_Z.narrow (va_Z.kept h1 hq) hAB), va_T.moved hvm (va_T.narrow (va_T.kept h2 hq) hAB), va_Z.moved hvm (va_Z.narrow (va_Z.kept h3 hq) hAB), va_T.moved hvm (va_T.narrow (va_T.kept h4 hq) hAB)⟩
def kT : List Cond := lw_tbl.filter goodWord
def kPre (D : va_G) (cI cB : ClassId) (WS : va_W) (sz : Nat) (U : State) : Prop := U.heap.size = sz ∧ va_P D kCl WS U.heap ∧ va_K D kCl (kTy cI cB) U ∧ va_D (fun _ => True) WS ∧ kZ (va_A WS sz) U U.heap
def kPost (D : va_G) (A : Nat → Prop) (post : Option Value → va_W → Prop) : Array Value → State → Outcome → State → Prop := fun _ st oc t => (∃ (v : Option Value) (u : va_W), oc = .returned v ∧ post v u ∧ va_P D kCl u t.heap ∧ va_D A u) ∧ va_F A st t
def kC (l : Launch) (y : MethodName) (b : ByteArray) (maxL : Nat) (ret : Option FieldType) (fr lo mc ms : Nat) (D : va_G) (cI cB : ClassId) (av : List Value) (WS : va_W) (post : Option Value → va_W → Prop) : Prop :=
  ∀ sz : Nat, Met l y (.code y b maxL ret :: kT) { frames := fr, cells := mc, slots := ms, locals := lo } (va_Pc av (kPre D cI cB WS sz)) (kPost D (va_A WS sz) post) mc ms (va_A WS sz)
def kX (p : Program) (s : State) (m : MethodId) (args : Array Value) (meth : Method) (c : Code) (cc : ByteArray) (nL : Nat) (own : String) (D : va_G) (cI cB : ClassId) (A : Nat → Prop) : Prop :=
  p.tables.exec = Jvm.exec ∧ c.code = cc ∧ c.maxLocals = nL ∧ s.vm.findClass own = some m.cls ∧ (∀ w ∈ kT, w.before args s = true) ∧ va_K D kCl (kTy cI cB) s ∧ kZ A s s.heap ∧ (∀ q : Nat, s.heap.size ≤ q → A q) ∧ meth.locks = false
def kW (p : Program) (l : Launch) (e : Env) (R : Room) (s : State) (m : MethodId) (args : Array Value) (below : List Frame) (meth : Method) (c : Code) (nL : Nat) (D : va_G) (A : Nat → Prop) (Q : State → Prop) (cells slots : Nat) (ws : va_W) (pc : Nat) (lv : List (Nat × Value)) (st : List Value) : Prop :=
  ∀ (H : Heap) (locs : List Loc) (ls : Array Slot), va_P D kCl ws H → va_D A ws → va_S A s.heap H locs → lv_has ls nL lv → W p l e R s m args below meth c H locs cells slots Q (F0 m pc ls st)
theorem k_good {y : MethodName} {b : ByteArray} {n : Nat} {r : Option FieldType} (h : Cond.code y b n r ∈ kT) : GoodIn kT (Cond.code y b n r :: kT) := by
  intro w hw
  have h1 : w ∈ kT := by
    rcases List.mem_cons.mp hw with e | e
    · rw [e]; exact h
    · exact e
  exact ⟨h1, good_of_word (List.mem_filter.mp h1).2⟩
theorem k_mem {w : Cond} (i : Nat) (h : lw_tbl[i]? = some w) (hg : goodWord w = true) : w ∈ kT := List.mem_filter.mpr ⟨List.mem_of_getElem? h, hg⟩

section KK
variable {p : Program} {l : Launch} {e : Env} {R : Room} {s : State} {m : MethodId} {args : Array Value} {below : List Frame} {meth : Method} {c : Code} {cc : ByteArray} {nL : Nat} {own : String} {D : va_G} {cI cB : ClassId} {A : Nat → Prop} {Q : State → Prop} {cells slots pc : Nat} {ws : va_W} {lv : List (Nat × Value)} {st : List Value}
theorem k_iconst (X : kX p s m args meth c cc nL own D cI cB A) {n : Int} {v : Int32} (hdg : decode cc pc = .ok (.iconst n, 1)) (hv : Int32.ofInt n = v)
    (kk : kW p l e R s m args below meth c nL D A Q (cells) (slots) (ws) (pc + 1) (lv) (.int v :: st)) : kW p l e R s m args below meth c nL D A Q (cells) (slots) (ws) (pc) (lv) (st) := fun H locs ls hP hD hS hl => lv_iconst X.1 X.2.1 hdg hv (kk H locs ls hP hD hS hl)
theorem k_bipush (X : kX p s m args meth c cc nL own D cI cB A) {n : Int} {v : Int32} (hdg : decode cc pc = .ok (.bipush n, 2)) (hv : (Int8.ofInt n).toInt32 = v)
    (kk : kW p l e R s m args below meth c nL D A Q (cells) (slots) (ws) (pc + 2) (lv) (.int v :: st)) : kW p l e R s m args below meth c nL D A Q (cells) (slots) (ws) (pc) (lv) (st) := fun H locs ls hP hD hS hl => lv_bipush X.1 X.2.1 hdg hv (kk H locs ls hP hD hS hl)
theorem k_sipush (X : kX p s m args meth c cc nL own D cI cB A) {n : Int} {v : Int32} (hdg : decode cc pc = .ok (.sipush n, 3)) (hv : (Int16.ofInt n).toInt32 = v)
    (kk : kW p l e R s m args below meth c nL D A Q (cells) (slots) (ws) (pc + 3) (lv) (.int v :: st)) : kW p l e R s m args below meth c nL D A Q (cells) (slots) (ws) (pc) (lv) (st) := fun H locs ls hP hD hS hl => lv_sipush X.1 X.2.1 hdg hv (kk H locs ls hP hD hS hl)
theorem k_ldc (X : kX p s m args meth c cc nL own D cI cB A) {index : Nat} {v : Int32} (hw : Cond.constant own index v ∈ kT) (hdg : decode cc pc = .ok (.ldc index, 2))
    (kk : kW p l e R s m args below meth c nL D A Q (cells) (slots) (ws) (pc + 2) (lv) (.int v :: st)) : kW p l e R s m args below meth c nL D A Q (cells) (slots) (ws) (pc) (lv) (st) := fun H locs ls hP hD hS hl => W.ldc X.1 X.2.1 X.2.2.2.1 (X.2.2.2.2.1 _ hw) (g := F0 m pc ls st) rfl hdg (kk H locs ls hP hD hS hl)
theorem k_iload_n (X : kX p s m args meth c cc nL own D cI cB A) {j : Fin 4} {i : Nat} {x : Int32} (hdg : decode cc pc = .ok (.iload_n j, 1)) (hi : (j : Nat) = i) (k : Nat) (hk : lv[k]? = some (i, .int x))
    (kk : kW p l e R s m args below meth c nL D A Q (cells) (slots) (ws) (pc + 1) (lv) (.int x :: st)) : kW p l e R s m args below meth c nL D A Q (cells) (slots) (ws) (pc) (lv) (st) := fun H locs ls hP hD hS hl => lv_iload_n X.1 X.2.1 hdg hi (lv_at hl k hk) (kk H locs ls hP hD hS hl)
theorem k_aload_n (X : kX p s m args meth c cc nL own D cI cB A) {j : Fin 4} {i : Nat} {x : Nat} (hdg : decode cc pc = .ok (.aload_n j, 1)) (hi : (j : Nat) = i) (k : Nat) (hk : lv[k]? = some (i, .ref x))
    (kk : kW p l e R s m args below meth c nL D A Q (cells) (slots) (ws) (pc + 1) (lv) (.ref x :: st)) : kW p l e R s m args below meth c nL D A Q (cells) (slots) (ws) (pc) (lv) (st) := fun H locs ls hP hD hS hl => lv_aload_n X.1 X.2.1 hdg hi (lv_at hl k hk) (kk H locs ls hP hD hS hl)
theorem k_iload (X : kX p s m args meth c cc nL own D cI cB A) {i : Nat} {x : Int32} (hdg : decode cc pc = .ok (.iload i, 2)) (k : Nat) (hk : lv[k]? = some (i, .int x))
    (kk : kW p l e R s m args below meth c nL D A Q (cells) (slots) (ws) (pc + 2) (lv) (.int x :: st)) : kW p l e R s m args below meth c nL D A Q (cells) (slots) (ws) (pc) (lv) (st) := fun H locs ls hP hD hS hl => lv_iload X.1 X.2.1 hdg (lv_at hl k hk) (kk H locs ls hP hD hS hl)
theorem k_aload (X : kX p s m args meth c cc nL own D cI cB A) {i : Nat} {x : Nat} (hdg : decode cc pc = .ok (.aload i, 2)) (k : Nat) (hk : lv[k]? = some (i, .ref x))
    (kk : kW p l e R s m args below meth c nL D A Q (cells) (slots) (ws) (pc + 2) (lv) (.ref x :: st)) : kW p l e R s m args below meth c nL D A Q (cells) (slots) (ws) (pc) (lv) (st) := fun H locs ls hP hD hS hl => lv_aload X.1 X.2.1 hdg (lv_at hl k hk) (kk H locs ls hP hD hS hl)
theorem k_lload (X : kX p s m args meth c cc nL own D cI cB A) {i : Nat} {x : Int64} (hdg : decode cc pc = .ok (.lload i, 2)) (k : Nat) (hk : lv[k]? = some (i, .long x))
    (kk : kW p l e R s m args below meth c nL D A Q (cells) (slots) (ws) (pc + 2) (lv) (.long x :: st)) : kW p l e R s m args below meth c nL D A Q (cells) (slots) (ws) (pc) (lv) (st) := fun H locs ls hP hD hS hl => lv_lload X.1 X.2.1 hdg (lv_at hl k hk) (kk H locs ls hP hD hS hl)
theorem k_aload_nN (X : kX p s m args meth c cc nL own D cI cB A) {j : Fin 4} {i : Nat} (hdg : decode cc pc = .ok (.aload_n j, 1)) (hi : (j : Nat) = i) (k : Nat) (hk : lv[k]? = some (i, .null))
    (kk : kW p l e R s m args below meth c nL D A Q (cells) (slots) (ws) (pc + 1) (lv) (.null :: st)) : kW p l e R s m args below meth c nL D A Q (cells) (slots) (ws) (pc) (lv) (st) := fun H locs ls hP hD hS hl => lv_aload_nN X.1 X.2.1 hdg hi (lv_at hl k hk) (kk H locs ls hP hD hS hl)
theorem k_istore_n (X : kX p s m args meth c cc nL own D cI cB A) {j : Fin 4} {i : Nat} {x : Int32} {lv' : List (Nat × Value)} (hdg : decode cc pc = .ok (.istore_n j, 1)) (hi : (j : Nat) = i) (hn : i < nL) (hl' : (i, Value.int x) :: lv.filter (fun q => !(q.1 == i) && !(q.1 + 1 == i && q.2.category == 2)) = lv')
    (kk : kW p l e R s m args below meth c nL D A Q (cells) (slots) (ws) (pc + 1) (lv') (st)) : kW p l e R s m args below meth c nL D A Q (cells) (slots) (ws) (pc) (lv) (.int x :: st) := fun H locs ls hP hD hS hl => lv_istore_n X.1 X.2.1 hdg hi hl hn hl' (fun ls' hl2 => kk H locs ls' hP hD hS hl2)
theorem k_istore (X : kX p s m args meth c cc nL own D cI cB A) {i : Nat} {x : Int32} {lv' : List (Nat × Value)} (hdg : decode cc pc = .ok (.istore i, 2)) (hn : i < nL) (hl' : (i, Value.int x) :: lv.filter (fun q => !(q.1 == i) && !(q.1 + 1 == i && q.2.category == 2)) = lv')
    (kk : kW p l e R s m args below meth c nL D A Q (cells) (slots) (ws) (pc + 2) (lv') (st)) : kW p l e R s m args below meth c nL D A Q (cells) (slots) (ws) (pc) (lv) (.int x :: st) := fun H locs ls hP hD hS hl => lv_istore X.1 X.2.1 hdg hl hn hl' (fun ls' hl2 => kk H locs ls' hP hD hS hl2)
theorem k_astore_n (X : kX p s m args meth c cc nL own D cI cB A) {j : Fin 4} {i : Nat} {x : Nat} {lv' : List (Nat × Value)} (hdg : decode cc pc = .ok (.astore_n j, 1)) (hi : (j : Nat) = i) (hn : i < nL) (hl' : (i, Value.ref x) :: lv.filter (fun q => !(q.1 == i) && !(q.1 + 1 == i && q.2.category == 2)) = lv')
    (kk : kW p l e R s m args below meth c nL D A Q (cells) (slots) (ws) (pc + 1) (lv') (st)) : kW p l e R s m args below meth c nL D A Q (cells) (slots) (ws) (pc) (lv) (.ref x :: st) := fun H locs ls hP hD hS hl => lv_astore_n X.1 X.2.1 hdg hi hl hn hl' (fun ls' hl2 => kk H locs ls' hP hD hS hl2)
theorem k_astore (X : kX p s m args meth c cc nL own D cI cB A) {i : Nat} {x : Nat} {lv' : List (Nat × Value)} (hdg : decode cc pc = .ok (.astore i, 2)) (hn : i < nL) (hl' : (i, Value.ref x) :: lv.filter (fun q => !(q.1 == i) && !(q.1 + 1 == i && q.2.category == 2)) = lv')
    (kk : kW p l e R s m args below meth c nL D A Q (cells) (slots) (ws) (pc + 2) (lv') (st)) : kW p l e R s m args below meth c nL D A Q (cells) (slots) (ws) (pc) (lv) (.ref x :: st) := fun H locs ls hP hD hS hl => lv_astore X.1 X.2.1 hdg hl hn hl' (fun ls' hl2 => kk H locs ls' hP hD hS hl2)
theorem k_astore_nN (X : kX p s m args meth c cc nL own D cI cB A) {j : Fin 4} {i : Nat} {lv' : List (Nat × Value)} (hdg : decode cc pc = .ok (.astore_n j, 1)) (hi : (j : Nat) = i) (hn : i < nL) (hl' : (i, Value.null) :: lv.filter (fun q => !(q.1 == i) && !(q.1 + 1 == i && q.2.category == 2)) = lv')
    (kk : kW p l e R s m args below meth c nL D A Q (cells) (slots) (ws) (pc + 1) (lv') (st)) : kW p l e R s m args below meth c nL D A Q (cells) (slots) (ws) (pc) (lv) (.null :: st) := fun H locs ls hP hD hS hl => lv_astore_nN X.1 X.2.1 hdg hi hl hn hl' (fun ls' hl2 => kk H locs ls' hP hD hS hl2)
theorem k_iinc (X : kX p s m args meth c cc nL own D cI cB A) {i : Nat} {n : Int} {x v : Int32} {lv' : List (Nat × Value)} (hdg : decode cc pc = .ok (.iinc i n, 3)) (k : Nat) (hk : lv[k]? = some (i, .int x)) (hv : x + Int32.ofInt n = v) (hn : i < nL) (hl' : (i, Value.int v) :: lv.filter (fun q => !(q.1 == i) && !(q.1 + 1 == i && q.2.category == 2)) = lv')
    (kk : kW p l e R s m args below meth c nL D A Q (cells) (slots) (ws) (pc + 3) (lv') (st)) : kW p l e R s m args below meth c nL D A Q (cells) (slots) (ws) (pc) (lv) (st) := fun H locs ls hP hD hS hl => lv_iinc X.1 X.2.1 hdg hl hk hv hn hl' (fun ls' hl2 => kk H locs ls' hP hD hS hl2)
theorem k_iadd (X : kX p s m args meth c cc nL own D cI cB A) {x y : Int32} (hdg : decode cc pc = .ok (.iadd, 1))
    (kk : kW p l e R s m args below meth c nL D A Q (cells) (slots) (ws) (pc + 1) (lv) (.int (x + y) :: st)) : kW p l e R s m args below meth c nL D A Q (cells) (slots) (ws) (pc) (lv) (.int y :: .int x :: st) := fun H locs ls hP hD hS hl => lv_iadd X.1 X.2.1 hdg (kk H locs ls hP hD hS hl)
theorem k_isub (X : kX p s m args meth c cc nL own D cI cB A) {x y : Int32} (hdg : decode cc pc = .ok (.isub, 1))
    (kk : kW p l e R s m args below meth c nL D A Q (cells) (slots) (ws) (pc + 1) (lv) (.int (x - y) :: st)) : kW p l e R s m args below meth c nL D A Q (cells) (slots) (ws) (pc) (lv) (.int y :: .int x :: st) := fun H locs ls hP hD hS hl => lv_isub X.1 X.2.1 hdg (kk H locs ls hP hD hS hl)
theorem k_imul (X : kX p s m args meth c cc nL own D cI cB A) {x y : Int32} (hdg : decode cc pc = .ok (.imul, 1))
    (kk : kW p l e R s m args below meth c nL D A Q (cells) (slots) (ws) (pc + 1) (lv) (.int (x * y) :: st)) : kW p l e R s m args below meth c nL D A Q (cells) (slots) (ws) (pc) (lv) (.int y :: .int x :: st) := fun H locs ls hP hD hS hl => lv_imul X.1 X.2.1 hdg (kk H locs ls hP hD hS hl)
theorem k_iand (X : kX p s m args meth c cc nL own D cI cB A) {x y : Int32} (hdg : decode cc pc = .ok (.iand, 1))
    (kk : kW p l e R s m args below meth c nL D A Q (cells) (slots) (ws) (pc + 1) (lv) (.int (x &&& y) :: st)) : kW p l e R s m args below meth c nL D A Q (cells) (slots) (ws) (pc) (lv) (.int y :: .int x :: st) := fun H locs ls hP hD hS hl => lv_iand X.1 X.2.1 hdg (kk H locs ls hP hD hS hl)
theorem k_ior (X : kX p s m args meth c cc nL own D cI cB A) {x y : Int32} (hdg : decode cc pc = .ok (.ior, 1))
    (kk : kW p l e R s m args below meth c nL D A Q (cells) (slots) (ws) (pc + 1) (lv) (.int (x ||| y) :: st)) : kW p l e R s m args below meth c nL D A Q (cells) (slots) (ws) (pc) (lv) (.int y :: .int x :: st) := fun H locs ls hP hD hS hl => lv_ior X.1 X.2.1 hdg (kk H locs ls hP hD hS hl)
theorem k_ixor (X : kX p s m args meth c cc nL own D cI cB A) {x y : Int32} (hdg : decode cc pc = .ok (.ixor, 1))
    (kk : kW p l e R s m args below meth c nL D A Q (cells) (slots) (ws) (pc + 1) (lv) (.int (x ^^^ y) :: st)) : kW p l e R s m args below meth c nL D A Q (cells) (slots) (ws) (pc) (lv) (.int y :: .int x :: st) := fun H locs ls hP hD hS hl => lv_ixor X.1 X.2.1 hdg (kk H locs ls hP hD hS hl)
theorem k_ishl (X : kX p s m args meth c cc nL own D cI cB A) {x y : Int32} (hdg : decode cc pc = .ok (.ishl, 1))
    (kk : kW p l e R s m args below meth c nL D A Q (cells) (slots) (ws) (pc + 1) (lv) (.int (x <<< (y &&& 31)) :: st)) : kW p l e R s m args below meth c nL D A Q (cells) (slots) (ws) (pc) (lv) (.int y :: .int x :: st) := fun H locs ls hP hD hS hl => lv_ishl X.1 X.2.1 hdg (kk H locs ls hP hD hS hl)
theorem k_ishr (X : kX p s m args meth c cc nL own D cI cB A) {x y : Int32} (hdg : decode cc pc = .ok (.ishr, 1))
    (kk : kW p l e R s m args below meth c nL D A Q (cells) (slots) (ws) (pc + 1) (lv) (.int (x >>> (y &&& 31)) :: st)) : kW p l e R s m args below meth c nL D A Q (cells) (slots) (ws) (pc) (lv) (.int y :: .int x :: st) := fun H locs ls hP hD hS hl => lv_ishr X.1 X.2.1 hdg (kk H locs ls hP hD hS hl)
theorem k_idiv (X : kX p s m args meth c cc nL own D cI cB A) {x y : Int32} (hdg : decode cc pc = .ok (.idiv, 1)) (hne : ¬ y = 0)
    (kk : kW p l e R s m args below meth c nL D A Q (cells) (slots) (ws) (pc + 1) (lv) (.int (x / y) :: st)) : kW p l e R s m args below meth c nL D A Q (cells) (slots) (ws) (pc) (lv) (.int y :: .int x :: st) := fun H locs ls hP hD hS hl => lv_idiv X.1 X.2.1 hdg hne (kk H locs ls hP hD hS hl)
theorem k_irem (X : kX p s m args meth c cc nL own D cI cB A) {x y : Int32} (hdg : decode cc pc = .ok (.irem, 1)) (hne : ¬ y = 0)
    (kk : kW p l e R s m args below meth c nL D A Q (cells) (slots) (ws) (pc + 1) (lv) (.int (x - x / y * y) :: st)) : kW p l e R s m args below meth c nL D A Q (cells) (slots) (ws) (pc) (lv) (.int y :: .int x :: st) := fun H locs ls hP hD hS hl => lv_irem X.1 X.2.1 hdg hne (kk H locs ls hP hD hS hl)
theorem k_iushr (X : kX p s m args meth c cc nL own D cI cB A) {x y v : Int32} (hdg : decode cc pc = .ok (.iushr, 1)) (hv : (x.toUInt32 >>> (y.toUInt32 &&& Int32.toUInt32 31)).toInt32 = v)
    (kk : kW p l e R s m args below meth c nL D A Q (cells) (slots) (ws) (pc + 1) (lv) (.int v :: st)) : kW p l e R s m args below meth c nL D A Q (cells) (slots) (ws) (pc) (lv) (.int y :: .int x :: st) := fun H locs ls hP hD hS hl => lv_iushr X.1 X.2.1 hdg hv (kk H locs ls hP hD hS hl)
theorem k_i2b (X : kX p s m args meth c cc nL own D cI cB A) {x v : Int32} (hdg : decode cc pc = .ok (.i2b, 1)) (hv : x.toInt8.toInt32 = v)
    (kk : kW p l e R s m args below meth c nL D A Q (cells) (slots) (ws) (pc + 1) (lv) (.int v :: st)) : kW p l e R s m args below meth c nL D A Q (cells) (slots) (ws) (pc) (lv) (.int x :: st) := fun H locs ls hP hD hS hl => lv_i2b X.1 X.2.1 hdg hv (kk H locs ls hP hD hS hl)
theorem k_dup (X : kX p s m args meth c cc nL own D cI cB A) {va : Value} (hdg : decode cc pc = .ok (.dup, 1)) (hva : va.category = 1)
    (kk : kW p l e R s m args below meth c nL D A Q (cells) (slots) (ws) (pc + 1) (lv) (va :: va :: st)) : kW p l e R s m args below meth c nL D A Q (cells) (slots) (ws) (pc) (lv) (va :: st) := fun H locs ls hP hD hS hl => lv_dup X.1 X.2.1 hdg hva (kk H locs ls hP hD hS hl)
theorem k_pop (X : kX p s m args meth c cc nL own D cI cB A) {va : Value} (hdg : decode cc pc = .ok (.pop, 1)) (hva : va.category = 1)
    (kk : kW p l e R s m args below meth c nL D A Q (cells) (slots) (ws) (pc + 1) (lv) (st)) : kW p l e R s m args below meth c nL D A Q (cells) (slots) (ws) (pc) (lv) (va :: st) := fun H locs ls hP hD hS hl => lv_pop X.1 X.2.1 hdg hva (kk H locs ls hP hD hS hl)
theorem k_dup2 (X : kX p s m args meth c cc nL own D cI cB A) {va vb : Value} (hdg : decode cc pc = .ok (.dup2, 1)) (hva : va.category = 1) (hvb : vb.category = 1)
    (kk : kW p l e R s m args below meth c nL D A Q (cells) (slots) (ws) (pc + 1) (lv) (va :: vb :: va :: vb :: st)) : kW p l e R s m args below meth c nL D A Q (cells) (slots) (ws) (pc) (lv) (va :: vb :: st) := fun H locs ls hP hD hS hl => lv_dup2_11 X.1 X.2.1 hdg hva hvb (kk H locs ls hP hD hS hl)
theorem k_if_eq (X : kX p s m args meth c cc nL own D cI cB A) {x : Int32} {xi : Int} {off : Int} {tgt : Nat} (hx : x.toInt = xi) (hdg : decode cc pc = .ok (.ifCond .eq off, 3)) (ht : (pc : Int) + off = (tgt : Int))
    (kt : xi = 0 → kW p l e R s m args below meth c nL D A Q (cells) (slots) (ws) (tgt) (lv) (st)) (kf : ¬ (xi = 0) → kW p l e R s m args below meth c nL D A Q (cells) (slots) (ws) (pc + 3) (lv) (st)) : kW p l e R s m args below meth c nL D A Q (cells) (slots) (ws) (pc) (lv) (.int x :: st) := fun H locs ls hP hD hS hl => lv_if_eq X.1 X.2.1 hdg ht (fun h => kt (by (try rw [← hx]); (try rw [← hy]); first | exact h | exact Int32.lt_iff_toInt_lt.mp h | exact Int32.le_iff_toInt_le.mp h | exact congrArg Int32.toInt h | exact fun z => h (Int32.toInt_inj.mp z)) H locs ls hP hD hS hl) (fun h => kf (by (try rw [← hx]); (try rw [← hy]); first | exact h | exact fun z => h (Int32.lt_iff_toInt_lt.mpr z) | exact fun z => h (Int32.le_iff_toInt_le.mpr z) | exact congrArg Int32.toInt h | exact fun z => h (Int32.toInt_inj.mp z)) H locs ls hP hD hS hl)
theorem k_if_ne (X : kX p s m args meth c cc nL own D cI cB A) {x : Int32} {xi : Int} {off : Int} {tgt : Nat} (hx : x.toInt = xi) (hdg : decode cc pc = .ok (.ifCond .ne off, 3)) (ht : (pc : Int) + off = (tgt : Int))
    (kt : ¬ xi = 0 → kW p l e R s m args below meth c nL D A Q (cells) (slots) (ws) (tgt) (lv) (st)) (kf : xi = 0 → kW p l e R s m args below meth c nL D A Q (cells) (slots) (ws) (pc + 3) (lv) (st)) : kW p l e R s m args below meth c nL D A Q (cells) (slots) (ws) (pc) (lv) (.int x :: st) := fun H locs ls hP hD hS hl => lv_if_ne X.1 X.2.1 hdg ht (fun h => kt (by (try rw [← hx]); (try rw [← hy]); first | exact h | exact Int32.lt_iff_toInt_lt.mp h | exact Int32.le_iff_toInt_le.mp h | exact congrArg Int32.toInt h | exact fun z => h (Int32.toInt_inj.mp z)) H locs ls hP hD hS hl) (fun h => kf (by (try rw [← hx]); (try rw [← hy]); first | exact h | exact fun z => h (Int32.lt_iff_toInt_lt.mpr z) | exact fun z => h (Int32.le_iff_toInt_le.mpr z) | exact congrArg Int32.toInt h | exact fun z => h (Int32.toInt_inj.mp z)) H locs ls hP hD hS hl)
theorem k_if_lt (X : kX p s m args meth c cc nL own D cI cB A) {x : Int32} {xi : Int} {off : Int} {tgt : Nat} (hx : x.toInt = xi) (hdg : decode cc pc = .ok (.ifCond .lt off, 3)) (ht : (pc : Int) + off = (tgt : Int))
    (kt : xi < 0 → kW p l e R s m args below meth c nL D A Q (cells) (slots) (ws) (tgt) (lv) (st)) (kf : ¬ (xi < 0) → kW p l e R s m args below meth c nL D A Q (cells) (slots) (ws) (pc + 3) (lv) (st)) : kW p l e R s m args below meth c nL D A Q (cells) (slots) (ws) (pc) (lv) (.int x :: st) := fun H locs ls hP hD hS hl => lv_if_lt X.1 X.2.1 hdg ht (fun h => kt (by (try rw [← hx]); (try rw [← hy]); first | exact h | exact Int32.lt_iff_toInt_lt.mp h | exact Int32.le_iff_toInt_le.mp h | exact congrArg Int32.toInt h | exact fun z => h (Int32.toInt_inj.mp z)) H locs ls hP hD hS hl) (fun h => kf (by (try rw [← hx]); (try rw [← hy]); first | exact h | exact fun z => h (Int32.lt_iff_toInt_lt.mpr z) | exact fun z => h (Int32.le_iff_toInt_le.mpr z) | exact congrArg Int32.toInt h | exact fun z => h (Int32.toInt_inj.mp z)) H locs ls hP hD hS hl)
theorem k_if_ge (X : kX p s m args meth c cc nL own D cI cB A) {x : Int32} {xi : Int} {off : Int} {tgt : Nat} (hx : x.toInt = xi) (hdg : decode cc pc = .ok (.ifCond .ge off, 3)) (ht : (pc : Int) + off = (tgt : Int))
    (kt : 0 ≤ xi → kW p l e R s m args below meth c nL D A Q (cells) (slots) (ws) (tgt) (lv) (st)) (kf : ¬ (0 ≤ xi) → kW p l e R s m args below meth c nL D A Q (cells) (slots) (ws) (pc + 3) (lv) (st)) : kW p l e R s m args below meth c nL D A Q (cells) (slots) (ws) (pc) (lv) (.int x :: st) := fun H locs ls hP hD hS hl => lv_if_ge X.1 X.2.1 hdg ht (fun h => kt (by (try rw [← hx]); (try rw [← hy]); first | exact h | exact Int32.lt_iff_toInt_lt.mp h | exact Int32.le_iff_toInt_le.mp h | exact congrArg Int32.toInt h | exact fun z => h (Int32.toInt_inj.mp z)) H locs ls hP hD hS hl) (fun h => kf (by (try rw [← hx]); (try rw [← hy]); first | exact h | exact fun z => h (Int32.lt_iff_toInt_lt.mpr z) | exact fun z => h (Int32.le_iff_toInt_le.mpr z) | exact congrArg Int32.toInt h | exact fun z => h (Int32.toInt_inj.mp z)) H locs ls hP hD hS hl)
theorem k_if_gt (X : kX p s m args meth c cc nL own D cI cB A) {x : Int32} {xi : Int} {off : Int} {tgt : Nat} (hx : x.toInt = xi) (hdg : decode cc pc = .ok (.ifCond .gt off, 3)) (ht : (pc : Int) + off = (tgt : Int))
    (kt : 0 < xi → kW p l e R s m args below meth c nL D A Q (cells) (slots) (ws) (tgt) (lv) (st)) (kf : ¬ (0 < xi) → kW p l e R s m args below meth c nL D A Q (cells) (slots) (ws) (pc + 3) (lv) (st)) : kW p l e R s m args below meth c nL D A Q (cells) (slots) (ws) (pc) (lv) (.int x :: st) := fun H locs ls hP hD hS hl => lv_if_gt X.1 X.2.1 hdg ht (fun h => kt (by (try rw [← hx]); (try rw [← hy]); first | exact h | exact Int32.lt_iff_toInt_lt.mp h | exact Int32.le_iff_toInt_le.mp h | exact congrArg Int32.toInt h | exact fun z => h (Int32.toInt_inj.mp z)) H locs ls hP hD hS hl) (fun h => kf (by (try rw [← hx]); (try rw [← hy]); first | exact h | exact fun z => h (Int32.lt_iff_toInt_lt.mpr z) | exact fun z => h (Int32.le_iff_toInt_le.mpr z) | exact congrArg Int32.toInt h | exact fun z => h (Int32.toInt_inj.mp z)) H locs ls hP hD hS hl)
theorem k_if_le (X : kX p s m args meth c cc nL own D cI cB A) {x : Int32} {xi : Int} {off : Int} {tgt : Nat} (hx : x.toInt = xi) (hdg : decode cc pc = .ok (.ifCond .le off, 3)) (ht : (pc : Int) + off = (tgt : Int))
    (kt : xi ≤ 0 → kW p l e R s m args below meth c nL D A Q (cells) (slots) (ws) (tgt) (lv) (st)) (kf : ¬ (xi ≤ 0) → kW p l e R s m args below meth c nL D A Q (cells) (slots) (ws) (pc + 3) (lv) (st)) : kW p l e R s m args below meth c nL D A Q (cells) (slots) (ws) (pc) (lv) (.int x :: st) := fun H locs ls hP hD hS hl => lv_if_le X.1 X.2.1 hdg ht (fun h => kt (by (try rw [← hx]); (try rw [← hy]); first | exact h | exact Int32.lt_iff_toInt_lt.mp h | exact Int32.le_iff_toInt_le.mp h | exact congrArg Int32.toInt h | exact fun z => h (Int32.toInt_inj.mp z)) H locs ls hP hD hS hl) (fun h => kf (by (try rw [← hx]); (try rw [← hy]); first | exact h | exact fun z => h (Int32.lt_iff_toInt_lt.mpr z) | exact fun z => h (Int32.le_iff_toInt_le.mpr z) | exact congrArg Int32.toInt h | exact fun z => h (Int32.toInt_inj.mp z)) H locs ls hP hD hS hl)
theorem k_icmp_eq (X : kX p s m args meth c cc nL own D cI cB A) {x y : Int32} {xi yi : Int} {off : Int} {tgt : Nat} (hx : x.toInt = xi) (hy : y.toInt = yi) (hdg : decode cc pc = .ok (.if_icmp .eq off, 3)) (ht : (pc : Int) + off = (tgt : Int))
    (kt : xi = yi → kW p l e R s m args below meth c nL D A Q (cells) (slots) (ws) (tgt) (lv) (st)) (kf : ¬ (xi = yi) → kW p l e R s m args below meth c nL D A Q (cells) (slots) (ws) (pc + 3) (lv) (st)) : kW p l e R s m args below meth c nL D A Q (cells) (slots) (ws) (pc) (lv) (.int y :: .int x :: st) := fun H locs ls hP hD hS hl => lv_icmp_eq X.1 X.2.1 hdg ht (fun h => kt (by (try rw [← hx]); (try rw [← hy]); first | exact h | exact Int32.lt_iff_toInt_lt.mp h | exact Int32.le_iff_toInt_le.mp h | exact congrArg Int32.toInt h | exact fun z => h (Int32.toInt_inj.mp z)) H locs ls hP hD hS hl) (fun h => kf (by (try rw [← hx]); (try rw [← hy]); first | exact h | exact fun z => h (Int32.lt_iff_toInt_lt.mpr z) | exact fun z => h (Int32.le_iff_toInt_le.mpr z) | exact congrArg Int32.toInt h | exact fun z => h (Int32.toInt_inj.mp z)) H locs ls hP hD hS hl)
theorem k_icmp_ne (X : kX p s m args meth c cc nL own D cI cB A) {x y : Int32} {xi yi : Int} {off : Int} {tgt : Nat} (hx : x.toInt = xi) (hy : y.toInt = yi) (hdg : decode cc pc = .ok (.if_icmp .ne off, 3)) (ht : (pc : Int) + off = (tgt : Int))
    (kt : ¬ xi = yi → kW p l e R s m args below meth c nL D A Q (cells) (slots) (ws) (tgt) (lv) (st)) (kf : xi = yi → kW p l e R s m args below meth c nL D A Q (cells) (slots) (ws) (pc + 3) (lv) (st)) : kW p l e R s m args below meth c nL D A Q (cells) (slots) (ws) (pc) (lv) (.int y :: .int x :: st) := fun H locs ls hP hD hS hl => lv_icmp_ne X.1 X.2.1 hdg ht (fun h => kt (by (try rw [← hx]); (try rw [← hy]); first | exact h | exact Int32.lt_iff_toInt_lt.mp h | exact Int32.le_iff_toInt_le.mp h | exact congrArg Int32.toInt h | exact fun z => h (Int32.toInt_inj.mp z)) H locs ls hP hD hS hl) (fun h => kf (by (try rw [← hx]); (try rw [← hy]); first | exact h | exact fun z => h (Int32.lt_iff_toInt_lt.mpr z) | exact fun z => h (Int32.le_iff_toInt_le.mpr z) | exact congrArg Int32.toInt h | exact fun z => h (Int32.toInt_inj.mp z)) H locs ls hP hD hS hl)
theorem k_icmp_lt (X : kX p s m args meth c cc nL own D cI cB A) {x y : Int32} {xi yi : Int} {off : Int} {tgt : Nat} (hx : x.toInt = xi) (hy : y.toInt = yi) (hdg : decode cc pc = .ok (.if_icmp .lt off, 3)) (ht : (pc : Int) + off = (tgt : Int))
    (kt : xi < yi → kW p l e R s m args below meth c nL D A Q (cells) (slots) (ws) (tgt) (lv) (st)) (kf : ¬ (xi < yi) → kW p l e R s m args below meth c nL D A Q (cells) (slots) (ws) (pc + 3) (lv) (st)) : kW p l e R s m args below meth c nL D A Q (cells) (slots) (ws) (pc) (lv) (.int y :: .int x :: st) := fun H locs ls hP hD hS hl => lv_icmp_lt X.1 X.2.1 hdg ht (fun h => kt (by (try rw [← hx]); (try rw [← hy]); first | exact h | exact Int32.lt_iff_toInt_lt.mp h | exact Int32.le_iff_toInt_le.mp h | exact congrArg Int32.toInt h | exact fun z => h (Int32.toInt_inj.mp z)) H locs ls hP hD hS hl) (fun h => kf (by (try rw [← hx]); (try rw [← hy]); first | exact h | exact fun z => h (Int32.lt_iff_toInt_lt.mpr z) | exact fun z => h (Int32.le_iff_toInt_le.mpr z) | exact congrArg Int32.toInt h | exact fun z => h (Int32.toInt_inj.mp z)) H locs ls hP hD hS hl)
theorem k_icmp_ge (X : kX p s m args meth c cc nL own D cI cB A) {x y : Int32} {xi yi : Int} {off : Int} {tgt : Nat} (hx : x.toInt = xi) (hy : y.toInt = yi) (hdg : decode cc pc = .ok (.if_icmp .ge off, 3)) (ht : (pc : Int) + off = (tgt : Int))
    (kt : yi ≤ xi → kW p l e R s m args below meth c nL D A Q (cells) (slots) (ws) (tgt) (lv) (st)) (kf : ¬ (yi ≤ xi) → kW p l e R s m args below meth c nL D A Q (cells) (slots) (ws) (pc + 3) (lv) (st)) : kW p l e R s m args below meth c nL D A Q (cells) (slots) (ws) (pc) (lv) (.int y :: .int x :: st) := fun H locs ls hP hD hS hl => lv_icmp_ge X.1 X.2.1 hdg ht (fun h => kt (by (try rw [← hx]); (try rw [← hy]); first | exact h | exact Int32.lt_iff_toInt_lt.mp h | exact Int32.le_iff_toInt_le.mp h | exact congrArg Int32.toInt h | exact fun z => h (Int32.toInt_inj.mp z)) H locs ls hP hD hS hl) (fun h => kf (by (try rw [← hx]); (try rw [← hy]); first | exact h | exact fun z => h (Int32.lt_iff_toInt_lt.mpr z) | exact fun z => h (Int32.le_iff_toInt_le.mpr z) | exact congrArg Int32.toInt h | exact fun z => h (Int32.toInt_inj.mp z)) H locs ls hP hD hS hl)
theorem k_icmp_gt (X : kX p s m args meth c cc nL own D cI cB A) {x y : Int32} {xi yi : Int} {off : Int} {tgt : Nat} (hx : x.toInt = xi) (hy : y.toInt = yi) (hdg : decode cc pc = .ok (.if_icmp .gt off, 3)) (ht : (pc : Int) + off = (tgt : Int))
    (kt : yi < xi → kW p l e R s m args below meth c nL D A Q (cells) (slots) (ws) (tgt) (lv) (st)) (kf : ¬ (yi < xi) → kW p l e R s m args below meth c nL D A Q (cells) (slots) (ws) (pc + 3) (lv) (st)) : kW p l e R s m args below meth c nL D A Q (cells) (slots) (ws) (pc) (lv) (.int y :: .int x :: st) := fun H locs ls hP hD hS hl => lv_icmp_gt X.1 X.2.1 hdg ht (fun h => kt (by (try rw [← hx]); (try rw [← hy]); first | exact h | exact Int32.lt_iff_toInt_lt.mp h | exact Int32.le_iff_toInt_le.mp h | exact congrArg Int32.toInt h | exact fun z => h (Int32.toInt_inj.mp z)) H locs ls hP hD hS hl) (fun h => kf (by (try rw [← hx]); (try rw [← hy]); first | exact h | exact fun z => h (Int32.lt_iff_toInt_lt.mpr z) | exact fun z => h (Int32.le_iff_toInt_le.mpr z) | exact congrArg Int32.toInt h | exact fun z => h (Int32.toInt_inj.mp z)) H locs ls hP hD hS hl)
theorem k_icmp_le (X : kX p s m args meth c cc nL own D cI cB A) {x y : Int32} {xi yi : Int} {off : Int} {tgt : Nat} (hx : x.toInt = xi) (hy : y.toInt = yi) (hdg : decode cc pc = .ok (.if_icmp .le off, 3)) (ht : (pc : Int) + off = (tgt : Int))
    (kt : xi ≤ yi → kW p l e R s m args below meth c nL D A Q (cells) (slots) (ws) (tgt) (lv) (st)) (kf : ¬ (xi ≤ yi) → kW p l e R s m args below meth c nL D A Q (cells) (slots) (ws) (pc + 3) (lv) (st)) : kW p l e R s m args below meth c nL D A Q (cells) (slots) (ws) (pc) (lv) (.int y :: .int x :: st) := fun H locs ls hP hD hS hl => lv_icmp_le X.1 X.2.1 hdg ht (fun h => kt (by (try rw [← hx]); (try rw [← hy]); first | exact h | exact Int32.lt_iff_toInt_lt.mp h | exact Int32.le_iff_toInt_le.mp h | exact congrArg Int32.toInt h | exact fun z => h (Int32.toInt_inj.mp z)) H locs ls hP hD hS hl) (fun h => kf (by (try rw [← hx]); (try rw [← hy]); first | exact h | exact fun z => h (Int32.lt_iff_toInt_lt.mpr z) | exact fun z => h (Int32.le_iff_toInt_le.mpr z) | exact congrArg Int32.toInt h | exact fun z => h (Int32.toInt_inj.mp z)) H locs ls hP hD hS hl)
theorem k_goto (X : kX p s m args meth c cc nL own D cI cB A) {off : Int} {tgt : Nat} (hdg : decode cc pc = .ok (.goto off, 3)) (ht : (pc : Int) + off = (tgt : Int))
    (kk : kW p l e R s m args below meth c nL D A Q (cells) (slots) (ws) (tgt) (lv) (st)) : kW p l e R s m args below meth c nL D A Q (cells) (slots) (ws) (pc) (lv) (st) := fun H locs ls hP hD hS hl => lv_goto X.1 X.2.1 hdg ht (kk H locs ls hP hD hS hl)
theorem k_ifnull (X : kX p s m args meth c cc nL own D cI cB A) {x : Nat} {off : Int} (hdg : decode cc pc = .ok (.ifnull off, 3))
    (kk : kW p l e R s m args below meth c nL D A Q (cells) (slots) (ws) (pc + 3) (lv) (st)) : kW p l e R s m args below meth c nL D A Q (cells) (slots) (ws) (pc) (lv) (.ref x :: st) := fun H locs ls hP hD hS hl => lv_ifnull X.1 X.2.1 hdg (kk H locs ls hP hD hS hl)
theorem k_ifnonnull (X : kX p s m args meth c cc nL own D cI cB A) {x : Nat} {off : Int} {tgt : Nat} (hdg : decode cc pc = .ok (.ifnonnull off, 3)) (ht : (pc : Int) + off = (tgt : Int))
    (kk : kW p l e R s m args below meth c nL D A Q (cells) (slots) (ws) (tgt) (lv) (st)) : kW p l e R s m args below meth c nL D A Q (cells) (slots) (ws) (pc) (lv) (.ref x :: st) := fun H locs ls hP hD hS hl => lv_ifnonnull X.1 X.2.1 hdg ht (kk H locs ls hP hD hS hl)
theorem k_get (X : kX p s m args meth c cc nL own D cI cB A) {C ref : String} {T : u_T} {N index a : Nat} (q0 ci k : Nat) {fs : List Value} {v : Value} (he : ws[q0]? = some (a, .inr (ci, fs))) (hc : kCl[ci]? = some (C, T, N)) (hk : k < N) (hw : Cond.fieldLink own index ref (T k).2.1 (T k).2.2.1 ∈ kT) (hin : ∀ w ∈ u_ws C T N, w ∈ kT) (href : ref = (T k).1) (hv : fs[k]? = some v) (hdg : decode cc pc = .ok (.getfield index, 3))
    (kk : kW p l e R s m args below meth c nL D A Q (cells) (slots) (ws) (pc + 3) (lv) (v :: st)) : kW p l e R s m args below meth c nL D A Q (cells) (slots) (ws) (pc) (lv) (.ref a :: st) := fun H locs ls hP hD hS hl => va_get (C := C) (T := T) (N := N) X.1 X.2.1 X.2.2.2.2.1 hin X.2.2.2.1 X.2.2.2.2.2.1 hP q0 he hc k hk (X.2.2.2.2.1 _ hw) (fun x hx => by rw [href]; exact hx) hv hdg (kk H locs ls hP hD hS hl)
theorem k_put (X : kX p s m args meth c cc nL own D cI cB A) {C ref : String} {T : u_T} {N index a : Nat} (q0 ci k : Nat) {fs : List Value} {v : Value} {ty : FieldType} {ws' : va_W} (ty0 : Nat → FieldType) (hty : ∀ k, k < N → parseFieldDescriptor (T k).2.2.1 = some (ty0 k)) (hnm : ∀ a, a < N → ∀ b, b < N → a ≠ b → (T a).2.1 ≠ (T b).2.1) (he : ws[q0]? = some (a, .inr (ci, fs))) (hc : kCl[ci]? = some (C, T, N)) (hk : k < N) (hw : Cond.fieldLink own index ref (T k).2.1 (T k).2.2.1 ∈ kT) (hin : ∀ w ∈ u_ws C T N, w ∈ kT) (href : ref = (T k).1) (hfin : (T k).2.2.2 = false) (hd : parseFieldDescriptor (T k).2.2.1 = some ty) (hnr : narrow ty v = v) (hfit : fits ty v = true) (hlen : k < fs.length) (hws : ws.set q0 (a, .inr (ci, fs.set k v)) = ws') (hdg : decode cc pc = .ok (.putfield index, 3))
    (kk : kW p l e R s m args below meth c nL D A Q (cells) (slots) (ws') (pc + 3) (lv) (st)) : kW p l e R s m args below meth c nL D A Q (cells) (slots) (ws) (pc) (lv) (v :: .ref a :: st) := fun H locs ls hP hD hS hl => va_put (C := C) (T := T) (N := N) X.1 X.2.1 X.2.2.2.2.1 hin ty0 hty hnm X.2.2.2.1 X.2.2.2.2.2.1 hP hD hS q0 he hc k hk (X.2.2.2.2.1 _ hw) (fun x hx => by rw [href]; exact hx) hfin hd hnr hfit hlen hdg (fun H1 locs1 hP1 hD1 hS1 => kk H1 locs1 ls (hws ▸ hP1) (hws ▸ hD1) hS1 hl)
theorem k_putF (X : kX p s m args meth c cc nL own D cI cB A) {C ref : String} {T : u_T} {N index a : Nat} (q0 ci k : Nat) {fs : List Value} {v : Value} {ty : FieldType} {ws' : va_W} (ty0 : Nat → FieldType) (hty : ∀ k, k < N → parseFieldDescriptor (T k).2.2.1 = some (ty0 k)) (hnm : ∀ a, a < N → ∀ b, b < N → a ≠ b → (T a).2.1 ≠ (T b).2.1) (he : ws[q0]? = some (a, .inr (ci, fs))) (hc : kCl[ci]? = some (C, T, N)) (hk : k < N) (hw : Cond.fieldLink own index ref (T k).2.1 (T k).2.2.1 ∈ kT) (hin : ∀ w ∈ u_ws C T N, w ∈ kT) (href : ref = (T k).1) (hfin : (T k).2.2.2 = true) (hin2 : meth.name = "<init>") (hdecl : (T k).1 = own) (hd : parseFieldDescriptor (T k).2.2.1 = some ty) (hnr : narrow ty v = v) (hfit : fits ty v = true) (hlen : k < fs.length) (hws : ws.set q0 (a, .inr (ci, fs.set k v)) = ws') (hdg : decode cc pc = .ok (.putfield index, 3))
    (kk : kW p l e R s m args below meth c nL D A Q (cells) (slots) (ws') (pc + 3) (lv) (st)) : kW p l e R s m args below meth c nL D A Q (cells) (slots) (ws) (pc) (lv) (v :: .ref a :: st) := fun H locs ls hP hD hS hl => va_putF (C := C) (T := T) (N := N) X.1 X.2.1 X.2.2.2.2.1 hin ty0 hty hnm X.2.2.2.1 X.2.2.2.2.2.1 hP hD hS q0 he hc k hk (X.2.2.2.2.1 _ hw) (fun x hx => by rw [href]; exact hx) hfin hin2 hdecl hd hnr hfit hlen hdg (fun H1 locs1 hP1 hD1 hS1 => kk H1 locs1 ls (hws ▸ hP1) (hws ▸ hD1) hS1 hl)
theorem k_iald (X : kX p s m args meth c cc nL own D cI cB A) {a n : Nat} (q0 : Nat) {f : Nat → Int32} {i v : Int32} (ha : ws[q0]? = some (a, .inl (cI, n, .inl f))) (hi : vp_in i n) (hv : f i.toNatClampNeg = v) (hdg : decode cc pc = .ok (.iaload, 1))
    (kk : kW p l e R s m args below meth c nL D A Q (cells) (slots) (ws) (pc + 1) (lv) (.int v :: st)) : kW p l e R s m args below meth c nL D A Q (cells) (slots) (ws) (pc) (lv) (.int i :: .ref a :: st) := fun H locs ls hP hD hS hl => va_iald X.1 X.2.1 X.2.2.2.2.2.1 hP q0 0 ha rfl hi hdg (hv ▸ kk H locs ls hP hD hS hl)
theorem k_bald (X : kX p s m args meth c cc nL own D cI cB A) {a n : Nat} (q0 : Nat) {f : Nat → Int32} {i v : Int32} (ha : ws[q0]? = some (a, .inl (cB, n, .inl f))) (hi : vp_in i n) (hv : f i.toNatClampNeg = v) (hdg : decode cc pc = .ok (.baload, 1))
    (kk : kW p l e R s m args below meth c nL D A Q (cells) (slots) (ws) (pc + 1) (lv) (.int v :: st)) : kW p l e R s m args below meth c nL D A Q (cells) (slots) (ws) (pc) (lv) (.int i :: .ref a :: st) := fun H locs ls hP hD hS hl => va_bald X.1 X.2.1 X.2.2.2.2.2.1 hP q0 1 ha rfl hi hdg (hv ▸ kk H locs ls hP hD hS hl)
theorem k_iast (X : kX p s m args meth c cc nL own D cI cB A) {a n : Nat} (q0 : Nat) {f f' : Nat → Int32} {i x : Int32} {ws' : va_W} (ha : ws[q0]? = some (a, .inl (cI, n, .inl f))) (hi : vp_in i n) (hf : upd f i.toNatClampNeg x = f') (hws : ws.set q0 (a, .inl (cI, n, .inl f')) = ws') (hdg : decode cc pc = .ok (.iastore, 1))
    (kk : kW p l e R s m args below meth c nL D A Q (cells) (slots) (ws') (pc + 1) (lv) (st)) : kW p l e R s m args below meth c nL D A Q (cells) (slots) (ws) (pc) (lv) (.int x :: .int i :: .ref a :: st) := fun H locs ls hP hD hS hl => va_iast X.1 X.2.1 X.2.2.2.2.2.1 hP hD hS q0 0 ha rfl hi hdg (fun H1 locs1 hP1 hD1 hS1 => kk H1 locs1 ls (hws ▸ hf ▸ hP1) (hws ▸ hf ▸ hD1) hS1 hl)
theorem k_bast (X : kX p s m args meth c cc nL own D cI cB A) {a n : Nat} (q0 : Nat) {f f' : Nat → Int32} {i x : Int32} {ws' : va_W} (ha : ws[q0]? = some (a, .inl (cB, n, .inl f))) (hi : vp_in i n) (hf : upd f i.toNatClampNeg (vp_nar .byte x) = f') (hws : ws.set q0 (a, .inl (cB, n, .inl f')) = ws') (hdg : decode cc pc = .ok (.bastore, 1))
    (kk : kW p l e R s m args below meth c nL D A Q (cells) (slots) (ws') (pc + 1) (lv) (st)) : kW p l e R s m args below meth c nL D A Q (cells) (slots) (ws) (pc) (lv) (.int x :: .int i :: .ref a :: st) := fun H locs ls hP hD hS hl => va_bast X.1 X.2.1 X.2.2.2.2.2.1 hP hD hS q0 1 ha rfl hi hdg (fun H1 locs1 hP1 hD1 hS1 => kk H1 locs1 ls (hws ▸ hf ▸ hP1) (hws ▸ hf ▸ hD1) hS1 hl)
theorem k_alenI (X : kX p s m args meth c cc nL own D cI cB A) {a : Nat} (q0 : Nat) {x : vp_A} {v : Int32} (ha : ws[q0]? = some (a, .inl (cI, x))) (hv : Int32.ofNat x.1 = v) (hdg : decode cc pc = .ok (.arraylength, 1))
    (kk : kW p l e R s m args below meth c nL D A Q (cells) (slots) (ws) (pc + 1) (lv) (.int v :: st)) : kW p l e R s m args below meth c nL D A Q (cells) (slots) (ws) (pc) (lv) (.ref a :: st) := fun H locs ls hP hD hS hl => va_alen X.1 X.2.1 X.2.2.2.2.2.1 hP q0 0 ha rfl hv hdg (kk H locs ls hP hD hS hl)
theorem k_alenB (X : kX p s m args meth c cc nL own D cI cB A) {a : Nat} (q0 : Nat) {x : vp_A} {v : Int32} (ha : ws[q0]? = some (a, .inl (cB, x))) (hv : Int32.ofNat x.1 = v) (hdg : decode cc pc = .ok (.arraylength, 1))
    (kk : kW p l e R s m args below meth c nL D A Q (cells) (slots) (ws) (pc + 1) (lv) (.int v :: st)) : kW p l e R s m args below meth c nL D A Q (cells) (slots) (ws) (pc) (lv) (.ref a :: st) := fun H locs ls hP hD hS hl => va_alen X.1 X.2.1 X.2.2.2.2.2.1 hP q0 1 ha rfl hv hdg (kk H locs ls hP hD hS hl)
theorem k_newI (X : kX p s m args meth c cc nL own D cI cB A) {n : Int32} (N : Nat) (hN : n = nI N) (hb : N < 2 ^ 27) (hw : Cond.arrayClass .int ∈ kT) (hcells : cells + 1 ≤ R.cells) (hslots : slots + N ≤ R.slots) (hdg : decode cc pc = .ok (.newarray .int, 2))
    (kk : ∀ q : Nat, kW p l e R s m args below meth c nL D A Q (cells + 1) (slots + N) (ws ++ [(q, .inl (cI, N, .inl (fun _ => 0)))]) (pc + 2) (lv) (.ref q :: st)) : kW p l e R s m args below meth c nL D A Q (cells) (slots) (ws) (pc) (lv) (.int n :: st) := by
  intro H locs ls hP hD hS hl
  have h31 : N < 2 ^ 31 := Nat.lt_of_lt_of_le hb (by decide)
  refine va_newa (atype := .int) (ty := .int) (N' := N) (a0 := (N, .inl (fun _ => 0))) X.1 X.2.1 (X.2.2.2.2.1 _ hw) rfl X.2.2.2.2.2.1 hP hD hS X.2.2.2.2.2.2.2.1 (fun cA => rfl) (by rw [hN]; exact nI_pos h31) (by rw [hN]; exact nI_clamp h31) (Nat.le_trans (Nat.mul_le_mul_right _ (Nat.le_of_lt hb)) (by decide)) hcells hslots hdg (fun q cA H1 hK hP1 hD1 hS1 => ?_)
  have e : cA = cI := by
    have h1 := (hK.2 2 _ rfl).2
    have h2 := (X.2.2.2.2.2.1.2 0 _ rfl).2
    exact Option.some.inj (Eq.trans (Eq.symm h1) h2)
  subst e
  exact kk q H1 locs ls hP1 hD1 hS1 hl
theorem k_newB (X : kX p s m args meth c cc nL own D cI cB A) {n : Int32} (N : Nat) (hN : n = nI N) (hb : N < 2 ^ 27) (hw : Cond.arrayClass .byte ∈ kT) (hcells : cells + 1 ≤ R.cells) (hslots : slots + N ≤ R.slots) (hdg : decode cc pc = .ok (.newarray .byte, 2))
    (kk : ∀ q : Nat, kW p l e R s m args below meth c nL D A Q (cells + 1) (slots + N) (ws ++ [(q, .inl (cB, N, .inl (fun _ => 0)))]) (pc + 2) (lv) (.ref q :: st)) : kW p l e R s m args below meth c nL D A Q (cells) (slots) (ws) (pc) (lv) (.int n :: st) := by
  intro H locs ls hP hD hS hl
  have h31 : N < 2 ^ 31 := Nat.lt_of_lt_of_le hb (by decide)
  refine va_newa (atype := .byte) (ty := .byte) (N' := N) (a0 := (N, .inl (fun _ => 0))) X.1 X.2.1 (X.2.2.2.2.1 _ hw) rfl X.2.2.2.2.2.1 hP hD hS X.2.2.2.2.2.2.2.1 (fun cA => rfl) (by rw [hN]; exact nI_pos h31) (by rw [hN]; exact nI_clamp h31) (Nat.le_trans (Nat.mul_le_mul_right _ (Nat.le_of_lt hb)) (by decide)) hcells hslots hdg (fun q cA H1 hK hP1 hD1 hS1 => ?_)
  have e : cA = cB := by
    have h1 := (hK.2 2 _ rfl).2
    have h2 := (X.2.2.2.2.2.1.2 1 _ rfl).2
    exact Option.some.inj (Eq.trans (Eq.symm h1) h2)
  subst e
  exact kk q H1 locs ls hP1 hD1 hS1 hl
theorem k_new (X : kX p s m args meth c cc nL own D cI cB A) {C : String} {T : u_T} {N index : Nat} (ci : Nat) {fs : List Value} (ty : Nat → FieldType) (hty : ∀ k, k < N → parseFieldDescriptor (T k).2.2.1 = some (ty k)) (hc : kCl[ci]? = some (C, T, N)) (hin : ∀ w ∈ u_ws C T N, w ∈ kT) (hcl : Cond.classLink own index C ∈ kT) (hinst : Cond.instantiable C N ∈ kT) (hini : Cond.initialized C ∈ kT) (hfs : ∀ j, j < N → defaultValue (ty j) = vp_V fs j) (hcells : cells + 1 ≤ R.cells) (hslots : slots + N ≤ R.slots) (hdg : decode cc pc = .ok (.new index, 3))
    (kk : ∀ q : Nat, kW p l e R s m args below meth c nL D A Q (cells + 1) (slots + N) (ws ++ [(q, .inr (ci, fs))]) (pc + 3) (lv) (.ref q :: st)) : kW p l e R s m args below meth c nL D A Q (cells) (slots) (ws) (pc) (lv) (st) := fun H locs ls hP hD hS hl => va_new (C := C) (T := T) (N := N) X.1 X.2.1 X.2.2.2.2.1 hin ty hty X.2.2.2.1 (X.2.2.2.2.1 _ hcl) (X.2.2.2.2.1 _ hinst) (X.2.2.2.2.1 _ hini) X.2.2.2.2.2.1 hP hD hS X.2.2.2.2.2.2.2.1 hc hfs hcells hslots hdg (fun q H1 hP1 hD1 hS1 => kk q H1 locs ls hP1 hD1 hS1 hl)
theorem k_objInit (X : kX p s m args meth c cc nL own D cI cB A) {idx a : Nat} (hw : Cond.methodLink own idx objectInit ∈ kT) (hw2 : Cond.instanceMethod objectInit ∈ kT) (hw3 : Cond.code objectInit ⟨#[0xb1]⟩ 1 none ∈ kT) (hst : (st.map fun v => v.category).sum + 12 ≤ R.locals) (hf : 1 ≤ R.frames) (hdg : decode cc pc = .ok (.invokespecial idx, 3))
    (kk : kW p l e R s m args below meth c nL D A Q (cells) (slots) (ws) (pc + 3) (lv) (st)) : kW p l e R s m args below meth c nL D A Q (cells) (slots) (ws) (pc) (lv) (.ref a :: st) := by
  intro H locs ls hP hD hS hl
  refine W.objInit X.1 X.2.1 X.2.2.2.1 (X.2.2.2.2.1 _ hw) (X.2.2.2.2.1 _ hw2) (X.2.2.2.2.1 _ hw3) (g := F0 m pc ls (.ref a :: st)) rfl (by rw [X.2.2.1]; exact hl.1) rfl hdg hf (by show 2 * 0 + _ + 12 ≤ _; omega) (kk H locs ls hP hD hS hl)
theorem k_mmax (X : kX p s m args meth c cc nL own D cI cB A) {x y : Int32} {index : Nat} (hw : Cond.methodLink own index Lib.Math.max.name ∈ kT) (hw2 : Cond.static Lib.Math.max.name ∈ kT) (hw3 : Cond.initialized "java/lang/Math" ∈ kT) (hw4 : Cond.code Lib.Math.max.name Lib.Math.max.code 2 (some .int) ∈ kT) (hf : 1 ≤ R.frames) (hlo : (st.map fun v => v.category).sum + 13 ≤ R.locals) (hc : cells ≤ R.cells) (hs : slots ≤ R.slots) (hdg : decode cc pc = .ok (.invokestatic index, 3))
    (kk : kW p l e R s m args below meth c nL D A Q (cells) (slots) (ws) (pc + 3) (lv) (.int (if x < y then y else x) :: st)) : kW p l e R s m args below meth c nL D A Q (cells) (slots) (ws) (pc) (lv) (.int y :: .int x :: st) := fun H locs ls hP hD hS hl => va_mmax X.1 X.2.1 (by rw [X.2.2.1]; exact hl.1.symm) X.2.2.2.1 (X.2.2.2.2.1 _ hw) (X.2.2.2.2.1 _ hw2) (X.2.2.2.2.1 _ hw3) (X.2.2.2.2.1 _ hw4) hf hlo hc hs hdg (kk H locs ls hP hD hS hl)
theorem k_mmin (X : kX p s m args meth c cc nL own D cI cB A) {x y : Int32} {index : Nat} (hw : Cond.methodLink own index Lib.Math.min.name ∈ kT) (hw2 : Cond.static Lib.Math.min.name ∈ kT) (hw3 : Cond.initialized "java/lang/Math" ∈ kT) (hw4 : Cond.code Lib.Math.min.name Lib.Math.min.code 2 (some .int) ∈ kT) (hf : 1 ≤ R.frames) (hlo : (st.map fun v => v.category).sum + 13 ≤ R.locals) (hc : cells ≤ R.cells) (hs : slots ≤ R.slots) (hdg : decode cc pc = .ok (.invokestatic index, 3))
    (kk : kW p l e R s m args below meth c nL D A Q (cells) (slots) (ws) (pc + 3) (lv) (.int (if y < x then y else x) :: st)) : kW p l e R s m args below meth c nL D A Q (cells) (slots) (ws) (pc) (lv) (.int y :: .int x :: st) := fun H locs ls hP hD hS hl => va_mmin X.1 X.2.1 (by rw [X.2.2.1]; exact hl.1.symm) X.2.2.2.1 (X.2.2.2.2.1 _ hw) (X.2.2.2.2.1 _ hw2) (X.2.2.2.2.1 _ hw3) (X.2.2.2.2.1 _ hw4) hf hlo hc hs hdg (kk H locs ls hP hD hS hl)
theorem k_as {x y : Int32} (h : x = y) (kk : kW p l e R s m args below meth c nL D A Q (cells) (slots) (ws) (pc) (lv) (.int y :: st)) : kW p l e R s m args below meth c nL D A Q (cells) (slots) (ws) (pc) (lv) (.int x :: st) := h ▸ kk
theorem k_ws {ws' : va_W} (h : ws = ws') (kk : kW p l e R s m args below meth c nL D A Q (cells) (slots) (ws') (pc) (lv) (st)) : kW p l e R s m args below meth c nL D A Q (cells) (slots) (ws) (pc) (lv) (st) := h ▸ kk
theorem k_to {ws' : va_W} {st' : List Value} (h : ws = ws') (h2 : st = st') (kk : kW p l e R s m args below meth c nL D A Q (cells) (slots) (ws') (pc) (lv) (st')) : kW p l e R s m args below meth c nL D A Q (cells) (slots) (ws) (pc) (lv) (st) := h ▸ h2 ▸ kk
theorem k_sub {ws' : va_W} (is : List Nat) (hn : va_nd is = true) (hs : is.map (fun i => ws[i]?) = ws'.map some) (hs2 : is.filterMap (fun i => ws[i]?) = ws') (kk : kW p l e R s m args below meth c nL D A Q (cells) (slots) (ws') (pc) (lv) (st)) : kW p l e R s m args below meth c nL D A Q (cells) (slots) (ws) (pc) (lv) (st) := fun H locs ls hP hD hS hl => kk H locs ls (hP.sub is hs2) (hD.sub is hn hs) hS hl
theorem k_lv {lv' : List (Nat × Value)} (ks : List Nat) (h : lv_pick lv ks = lv') (kk : kW p l e R s m args below meth c nL D A Q (cells) (slots) (ws) (pc) (lv') (st)) : kW p l e R s m args below meth c nL D A Q (cells) (slots) (ws) (pc) (lv) (st) := fun H locs ls hP hD hS hl => kk H locs ls hP hD hS (lv_sub hl ks h)
theorem k_wide {k n : Nat} (h1 : cells ≤ k) (h2 : slots ≤ n) (kk : kW p l e R s m args below meth c nL D A Q (k) (n) (ws) (pc) (lv) (st)) : kW p l e R s m args below meth c nL D A Q (cells) (slots) (ws) (pc) (lv) (st) := fun H locs ls hP hD hS hl => W.widen h1 h2 (kk H locs ls hP hD hS hl)
theorem k_iret (X : kX p s m args meth c cc nL own D cI cB A) {post : Option Value → va_W → Prop} {mc ms : Nat} {u : va_W} {v : Int32}  (hr : meth.sig.returnType = some .int) (is : List Nat) (hn : va_nd is = true) (hs : is.map (fun i => ws[i]?) = u.map some) (hs2 : is.filterMap (fun i => ws[i]?) = u) (hpost : post (some (.int v)) u) (h1 : cells ≤ mc) (h2 : slots ≤ ms) (hdg : decode cc pc = .ok (.ireturn, 1)) : kW p l e R s m args below meth c nL D A (MQ below (kPost D A post) args s mc ms A) cells slots ws pc lv ([.int v]) := by
  intro H locs ls hP hD hS hl
  refine W.widen h1 h2 ?_
  have hlocks : meth.locks = false := X.2.2.2.2.2.2.2.2
  exact W.iret X.1 X.2.1 hr (fun t ht hW => ⟨⟨_, u, rfl, hpost, by rw [ht]; exact hP.sub is hs2, hD.sub is hn hs⟩, hS.F ht⟩) hS.2.2 hdg hlocks
theorem k_zret (X : kX p s m args meth c cc nL own D cI cB A) {post : Option Value → va_W → Prop} {mc ms : Nat} {u : va_W} {v : Int32} (hnar : narrow .boolean (.int v) = .int v) (hr : meth.sig.returnType = some .boolean) (is : List Nat) (hn : va_nd is = true) (hs : is.map (fun i => ws[i]?) = u.map some) (hs2 : is.filterMap (fun i => ws[i]?) = u) (hpost : post (some (.int v)) u) (h1 : cells ≤ mc) (h2 : slots ≤ ms) (hdg : decode cc pc = .ok (.ireturn, 1)) : kW p l e R s m args below meth c nL D A (MQ below (kPost D A post) args s mc ms A) cells slots ws pc lv ([.int v]) := by
  intro H locs ls hP hD hS hl
  refine W.widen h1 h2 ?_
  have hlocks : meth.locks = false := X.2.2.2.2.2.2.2.2
  exact W.zret X.1 X.2.1 hr hnar (fun t ht hW => ⟨⟨_, u, rfl, hpost, by rw [ht]; exact hP.sub is hs2, hD.sub is hn hs⟩, hS.F ht⟩) hS.2.2 hdg hlocks
theorem k_vret (X : kX p s m args meth c cc nL own D cI cB A) {post : Option Value → va_W → Prop} {mc ms : Nat} {u : va_W}   (hr : meth.sig.returnType = none) (is : List Nat) (hn : va_nd is = true) (hs : is.map (fun i => ws[i]?) = u.map some) (hs2 : is.filterMap (fun i => ws[i]?) = u) (hpost : post (none) u) (h1 : cells ≤ mc) (h2 : slots ≤ ms) (hdg : decode cc pc = .ok (.return_, 1)) : kW p l e R s m args below meth c nL D A (MQ below (kPost D A post) args s mc ms A) cells slots ws pc lv ([]) := by
  intro H locs ls hP hD hS hl
  refine W.widen h1 h2 ?_
  have hlocks : meth.locks = false := X.2.2.2.2.2.2.2.2
  exact W.vret X.1 X.2.1 hr (fun t ht hW => ⟨⟨_, u, rfl, hpost, by rw [ht]; exact hP.sub is hs2, hD.sub is hn hs⟩, hS.F ht⟩) hS.2.2 hdg hlocks
theorem k_aret (X : kX p s m args meth c cc nL own D cI cB A) {post : Option Value → va_W → Prop} {mc ms : Nat} {u : va_W} {v : Value} {rt : FieldType} (hrt : (∃ n, rt = .object n) ∨ ∃ t, rt = .array t) (hv : v = .null ∨ ∃ a, v = .ref a) (hr : meth.sig.returnType = some rt) (is : List Nat) (hn : va_nd is = true) (hs : is.map (fun i => ws[i]?) = u.map some) (hs2 : is.filterMap (fun i => ws[i]?) = u) (hpost : post (some v) u) (h1 : cells ≤ mc) (h2 : slots ≤ ms) (hdg : decode cc pc = .ok (.areturn, 1)) : kW p l e R s m args below meth c nL D A (MQ below (kPost D A post) args s mc ms A) cells slots ws pc lv ([v]) := by
  intro H locs ls hP hD hS hl
  refine W.widen h1 h2 ?_
  have hlocks : meth.locks = false := X.2.2.2.2.2.2.2.2
  exact W.aret X.1 X.2.1 hr hrt hv (fun t ht hW => ⟨⟨_, u, rfl, hpost, by rw [ht]; exact hP.sub is hs2, hD.sub is hn hs⟩, hS.F ht⟩) hS.2.2 hdg hlocks
theorem k_entry {y : MethodName} {b : ByteArray} {maxL fr lo mc ms : Nat} {ret : Option FieldType} {av : List Value} {WS : va_W} {post : Option Value → va_W → Prop} {lv0 : List (Nat × Value)} (hy : plainName y.cls = true) (hlen : (lg_sl av).length ≤ maxL) (hlv : lv_args 0 av = lv0)
    (body : ∀ (p : Program) (e : Env) (s : State) (m : MethodId) (below : List Frame) (meth : Method) (c : Code) (A : Nat → Prop), kX p s m av.toArray meth c b maxL y.cls D cI cB A → meth.sig.returnType = ret → meth.name = y.name →
      kW p l e { frames := fr, cells := mc, slots := ms, locals := lo } s m av.toArray below meth c maxL D A (MQ below (kPost D A post) av.toArray s mc ms A) 0 0 WS 0 lv0 []) : kC l y b maxL ret fr lo mc ms D cI cB av WS post := by
  intro sz
  refine Met.ofW (cc := b) (maxL := maxL) (ret := ret) hy rfl ?_
  intro p e s m args below meth c s₁ B hml hv
  obtain ⟨rfl, hsz, hP, hK, hD0, hZ⟩ := hv
  have hts := atoms_spec (ws := Cond.code y b maxL ret :: kT) B.pre
  have hown : s.vm.findClass y.cls = some m.cls := findClass_of_methodNamed B.named
  have hin : meth.name = y.name := (name_of_methodNamed B.named B.method).1
  subst hsz
  have hD := hD0.self (sz := s.heap.size)
  have hl := lv_entry av (n := maxL) hlen
  rw [lg_entry_eq]
  generalize (lg_sl av ++ List.replicate (maxL - (lg_sl av).length) Slot.unset).toArray = ls at hl ⊢
  rw [hlv] at hl
  exact body p e s m below meth c (va_A WS s.heap.size) ⟨B.exec, B.bytes, hml, hown, fun w hw => hts w (List.mem_cons_of_mem _ hw), hK, hZ, fun q h => Or.inr h, B.notSynchronized⟩ B.returns hin s.heap [] ls hP hD va_S.rf hl
theorem k_back {H : Heap} {locs : List Loc} {ls : Array Slot} {st0 : List Value} {av : Array Value} {mc ms : Nat} {post : Option Value → va_W → Prop} {wc wr : va_W} {isC isR : List Nat} (hA : ∀ q : Nat, s.heap.size ≤ q → A q) (hP : va_P D kCl ws H) (hD : va_D A ws) (hS : va_S A s.heap H locs) (hl : lv_has ls nL lv) (hC : isC.map (fun i => ws[i]?) = wc.map some) (hC2 : isC.filterMap (fun i => ws[i]?) = wc) (hRe : isR.map (fun i => ws[i]?) = wr.map some) (hnC : va_nd isC = true) (hnR : va_nd isR = true) (hdis : ∀ i ∈ isR, i ∉ isC)
    (hr : va_Run p l e R s m args below meth c H locs cells slots mc ms (F0 m pc ls st0) st (kPost D (va_A wc H.size) post av) (va_A wc H.size))
    (kk : ∀ (v : Option Value) (u : va_W), post v u → kW p l e R s m args below meth c nL D A Q (cells + mc) (slots + ms) (wr ++ u) (pc + 3) (lv) (v.toList ++ st)) : W p l e R s m args below meth c H locs cells slots Q (F0 m pc ls st0) := by
  intro T hT X
  have hF := va_free (wc := wc) hD hS hA isC hC
  obtain ⟨v, st₀, t, T', L, h0, X', hL, e1, e2, ⟨⟨v2, u, hv, hp, hP1, hD1⟩, hz, hk⟩, stp⟩ := hr T hT X
  cases hv
  rw [h0] at hz hk
  have hk1 : ∀ q : Nat, q < H.size → ¬ va_A wc H.size q → T'.heap[q]? = H[q]? := fun q h1 h2 => by rw [e1]; exact hk q h1 h2
  rw [← e1] at hP1
  obtain ⟨hPj, hDj⟩ := va_join (wr := wr) (w1 := u) hP hD isC isR hC hRe hnR hdis hk1 hF hP1 hD1
  have hS1 : va_S A s.heap T'.heap (locs ++ L) := ⟨Nat.le_trans hS.1 (by rw [e1]; exact hz), fun q h1 h2 => by rw [hk1 q (Nat.lt_of_lt_of_le h1 hS.1) (fun z => h2 (hF q z))]; exact hS.2.1 q h1 h2, fun q hq => by
    rcases List.mem_append.mp hq with h | h
    · exact hS.2.2 q h
    · exact hF _ (hL q h)⟩
  obtain ⟨t2, a1, b1⟩ := kk v u hp T'.heap (locs ++ L) ls hPj hDj hS1 hl T' rfl X'
  exact ⟨t2, stp t2 a1, b1⟩
theorem k_pre {H : Heap} {locs : List Loc} {wc : va_W} {isC : List Nat} {av : List Value} (X : kX p s m args meth c cc nL own D cI cB A) (hP : va_P D kCl ws H) (hD : va_D A ws) (hS : va_S A s.heap H locs) (hC : isC.map (fun i => ws[i]?) = wc.map some) (hC2 : isC.filterMap (fun i => ws[i]?) = wc) (hnC : va_nd isC = true) :
    PreS s H (va_Pc av (kPre D cI cB wc H.size)) av := by
  have hF := va_free (wc := wc) hD hS X.2.2.2.2.2.2.2.1 isC hC
  refine ⟨fun a U g mk q => ?_, fun U hU hW => ⟨rfl, by rw [hU], by rw [hU]; exact hP.sub isC hC2, va_K.moved hW.alike X.2.2.2.2.2.1, (hD.sub isC hnC hC).weaken (fun _ _ _ _ => trivial), ?_⟩⟩
  · obtain ⟨q0, q1, qP, qK, qD, qZ⟩ := q
    exact ⟨q0, q1, qP, va_K.moved (u := U) (U := U.calling g mk a) (Vm.Alike.refl U.vm) qK, qD, kZ_go qZ (Vm.Alike.refl U.vm) (fun _ _ _ => rfl) (fun _ h => h)⟩
  · rw [hU]
    exact kZ_go X.2.2.2.2.2.2.1 hW.alike (fun a h1 h2 => hS.2.1 a h1 h2) hF
theorem k_callV (X : kX p s m args meth c cc nL own D cI cB A) {y : MethodName} {b : ByteArray} {maxL fr lo mc ms : Nat} {ret : Option FieldType} {post : Option Value → va_W → Prop} {wc wr : va_W} {As : List Value} {index n : Nat}  {a ci q0 N : Nat} {T : u_T} {fs : List Value} (hM : kC l y b maxL ret fr lo mc ms D cI cB (.ref a :: As) wc post) (hci : kCl[ci]? = some (y.cls, T, N)) (hq : wc[q0]? = some (a, .inr (ci, fs))) (hw : Cond.methodLink own index y ∈ kT) (hinst : Cond.instanceMethod y ∈ kT) (hsel : Cond.selects y.cls y y ∈ kT) (hini : Cond.initialized y.cls ∈ kT) (hcode : Cond.code y b maxL ret ∈ kT) (hd : y.cls ≠ "java/lang/invoke/MethodHandle" ∧ y.cls ≠ "java/lang/invoke/VarHandle" ∧ (parseMethodDescriptor y.desc).map (fun d => d.parameters.length) = some n) (hn : As.length = n) (hR : fr + 1 ≤ R.frames ∧ 8 + (maxL + 11) + lo ≤ R.locals) (hf : cells + mc ≤ R.cells ∧ slots + ms ≤ R.slots) (hro : (st.map fun v => v.category).sum ≤ 8) (isC isR : List Nat) (hC : isC.map (fun i => ws[i]?) = wc.map some) (hC2 : isC.filterMap (fun i => ws[i]?) = wc) (hRe : isR.map (fun i => ws[i]?) = wr.map some) (hnC : va_nd isC = true) (hnR : va_nd isR = true) (hdis : ∀ i ∈ isR, i ∉ isC) {st0 : List Value} (hst : st0 = As.reverse ++ .ref a :: st) (hdg : decode cc pc = .ok (.invokevirtual index, 3))
    (kk : ∀ (v : Option Value) (u : va_W), post v u → kW p l e R s m args below meth c nL D A Q (cells + mc) (slots + ms) (wr ++ u) (pc + 3) (lv) (v.toList ++ st)) : kW p l e R s m args below meth c nL D A Q (cells) (slots) (ws) (pc) (lv) (st0) := by
  intro H locs ls hP hD hS hl
  have hpre := k_pre (av := .ref a :: As) X hP hD hS hC hC2 hnC
  have hroom : 2 * (F0 m pc ls st0).monitorRoom + (st.map fun v => v.category).sum ≤ 8 := lv_room hro
  have hB : CallB R s args own index y b maxL ret (Cond.code y b maxL ret :: kT) { frames := fr, cells := mc, slots := ms, locals := lo } mc ms n := callB_of n X.2.2.2.2.1 (k_good hcode) rfl rfl rfl (X.2.2.2.2.1 _ hini) (X.2.2.2.2.1 _ hw) hd hR
  refine k_back (isC := isC) (isR := isR) X.2.2.2.2.2.2.2.1 hP hD hS hl hC hC2 hRe hnC hnR hdis (va_runV (C := y.cls) ⟨X.1, X.2.1, X.2.2.1, X.2.2.2.1, X.2.2.2.2.1⟩ (hM H.size) ⟨hB, X.2.2.2.2.1 _ hinst, X.2.2.2.2.1 _ hsel⟩ ⟨hpre.1, va_recv X.2.2.2.2.2.1 (hP.sub isC hC2) hci hq, hpre.2⟩ rfl hn hl.1 hst hroom hdg hf) kk
theorem k_callS (X : kX p s m args meth c cc nL own D cI cB A) {y : MethodName} {b : ByteArray} {maxL fr lo mc ms : Nat} {ret : Option FieldType} {post : Option Value → va_W → Prop} {wc wr : va_W} {As : List Value} {index n : Nat}   (hM : kC l y b maxL ret fr lo mc ms D cI cB (As) wc post) (hw : Cond.methodLink own index y ∈ kT) (hstat : Cond.static y ∈ kT) (hini : Cond.initialized y.cls ∈ kT) (hcode : Cond.code y b maxL ret ∈ kT) (hd : y.cls ≠ "java/lang/invoke/MethodHandle" ∧ y.cls ≠ "java/lang/invoke/VarHandle" ∧ (parseMethodDescriptor y.desc).map (fun d => d.parameters.length) = some n) (hn : As.length = n) (hR : fr + 1 ≤ R.frames ∧ 8 + (maxL + 11) + lo ≤ R.locals) (hf : cells + mc ≤ R.cells ∧ slots + ms ≤ R.slots) (hro : (st.map fun v => v.category).sum ≤ 8) (isC isR : List Nat) (hC : isC.map (fun i => ws[i]?) = wc.map some) (hC2 : isC.filterMap (fun i => ws[i]?) = wc) (hRe : isR.map (fun i => ws[i]?) = wr.map some) (hnC : va_nd isC = true) (hnR : va_nd isR = true) (hdis : ∀ i ∈ isR, i ∉ isC) {st0 : List Value} (hst : st0 = As.reverse ++ st) (hdg : decode cc pc = .ok (.invokestatic index, 3))
    (kk : ∀ (v : Option Value) (u : va_W), post v u → kW p l e R s m args below meth c nL D A Q (cells + mc) (slots + ms) (wr ++ u) (pc + 3) (lv) (v.toList ++ st)) : kW p l e R s m args below meth c nL D A Q (cells) (slots) (ws) (pc) (lv) (st0) := by
  intro H locs ls hP hD hS hl
  have hpre := k_pre (av := As) X hP hD hS hC hC2 hnC
  have hroom : 2 * (F0 m pc ls st0).monitorRoom + (st.map fun v => v.category).sum ≤ 8 := lv_room hro
  have hB : CallB R s args own index y b maxL ret (Cond.code y b maxL ret :: kT) { frames := fr, cells := mc, slots := ms, locals := lo } mc ms n := callB_of n X.2.2.2.2.1 (k_good hcode) rfl rfl rfl (X.2.2.2.2.1 _ hini) (X.2.2.2.2.1 _ hw) hd hR
  refine k_back (isC := isC) (isR := isR) X.2.2.2.2.2.2.2.1 hP hD hS hl hC hC2 hRe hnC hnR hdis (va_runS ⟨X.1, X.2.1, X.2.2.1, X.2.2.2.1, X.2.2.2.2.1⟩ (hM H.size) ⟨hB, X.2.2.2.2.1 _ hstat⟩ hpre rfl hn hl.1 hst hroom hdg hf) kk
theorem k_callI (X : kX p s m args meth c cc nL own D cI cB A) {y : MethodName} {b : ByteArray} {maxL fr lo mc ms : Nat} {ret : Option FieldType} {post : Option Value → va_W → Prop} {wc wr : va_W} {As : List Value} {index n : Nat}  {a : Nat} (hM : kC l y b maxL none fr lo mc ms D cI cB (.ref a :: As) wc post) (hname : y.name = "<init>") (hw : Cond.methodLink own index y ∈ kT) (hinst : Cond.instanceMethod y ∈ kT) (hini : Cond.initialized y.cls ∈ kT) (hcode : Cond.code y b maxL none ∈ kT) (hd : y.cls ≠ "java/lang/invoke/MethodHandle" ∧ y.cls ≠ "java/lang/invoke/VarHandle" ∧ (parseMethodDescriptor y.desc).map (fun d => d.parameters.length) = some n) (hn : As.length = n) (hR : fr + 1 ≤ R.frames ∧ 8 + (maxL + 11) + lo ≤ R.locals) (hf : cells + mc ≤ R.cells ∧ slots + ms ≤ R.slots) (hro : (st.map fun v => v.category).sum ≤ 8) (isC isR : List Nat) (hC : isC.map (fun i => ws[i]?) = wc.map some) (hC2 : isC.filterMap (fun i => ws[i]?) = wc) (hRe : isR.map (fun i => ws[i]?) = wr.map some) (hnC : va_nd isC = true) (hnR : va_nd isR = true) (hdis : ∀ i ∈ isR, i ∉ isC) {st0 : List Value} (hst : st0 = As.reverse ++ .ref a :: st) (hdg : decode cc pc = .ok (.invokespecial index, 3))
    (kk : ∀ (v : Option Value) (u : va_W), post v u → kW p l e R s m args below meth c nL D A Q (cells + mc) (slots + ms) (wr ++ u) (pc + 3) (lv) (v.toList ++ st)) : kW p l e R s m args below meth c nL D A Q (cells) (slots) (ws) (pc) (lv) (st0) := by
  intro H locs ls hP hD hS hl
  have hpre := k_pre (av := .ref a :: As) X hP hD hS hC hC2 hnC
  have hroom : 2 * (F0 m pc ls st0).monitorRoom + (st.map fun v => v.category).sum ≤ 8 := lv_room hro
  have hB : CallB R s args own index y b maxL none (Cond.code y b maxL none :: kT) { frames := fr, cells := mc, slots := ms, locals := lo } mc ms n := callB_of n X.2.2.2.2.1 (k_good hcode) rfl rfl rfl (X.2.2.2.2.1 _ hini) (X.2.2.2.2.1 _ hw) hd hR
  refine k_back (isC := isC) (isR := isR) X.2.2.2.2.2.2.2.1 hP hD hS hl hC hC2 hRe hnC hnR hdis (va_runI ⟨X.1, X.2.1, X.2.2.1, X.2.2.2.1, X.2.2.2.2.1⟩ (hM H.size) ⟨hB, hname, X.2.2.2.2.1 _ hinst⟩ hpre rfl hn hl.1 hst hroom hdg hf) kk
end KK
end
section
theorem ini_L : Cond.initialized RL ∈ kT := k_mem 28 (by decide +kernel) rfl
theorem ini_X4 : Cond.initialized RX4 ∈ kT := k_mem 29 (by decide +kernel) rfl
theorem ini_X1 : Cond.initialized RX1 ∈ kT := k_mem 30 (by decide +kernel) rfl
theorem ini_X0 : Cond.initialized RX0 ∈ kT := k_mem 31 (by decide +kernel) rfl
theorem ini_X2 : Cond.initialized RX2 ∈ kT := k_mem 32 (by decide +kernel) rfl
theorem ini_J7 : Cond.initialized RJ7 ∈ kT := k_mem 33 (by decide +kernel) rfl
theorem ini_X3 : Cond.initialized RX3 ∈ kT := k_mem 34 (by decide +kernel) rfl
theorem ini_X5 : Cond.initialized RX5 ∈ kT := k_mem 35 (by decide +kernel) rfl
theorem ini_J9 : Cond.initialized "java/lang/Math" ∈ kT := k_mem 36 (by decide +kernel) rfl
theorem ini_J10 : Cond.initialized "java/lang/System" ∈ kT := k_mem 37 (by decide +kernel) rfl
theorem cl_L_7 : Cond.classLink RL 7 RX4 ∈ kT := k_mem 38 (by decide +kernel) rfl
theorem ins_X4 : Cond.instantiable RX4 9 ∈ kT := k_mem 39 (by decide +kernel) rfl
theorem ml_L_9 : Cond.methodLink RL 9 yX4_init ∈ kT := k_mem 40 (by decide +kernel) rfl
theorem im_X4_init : Cond.instanceMethod yX4_init ∈ kT := k_mem 41 (by decide +kernel) rfl
set_option maxRecDepth 40000 in
theorem co_X4_init : Cond.code yX4_init cX4_init 1 none ∈ kT := k_mem 42 rfl rfl
theorem ml_X4_3 : Cond.methodLink RX4 3 objectInit ∈ kT := k_mem 43 (by decide +kernel) rfl
theorem im_objInit : Cond.instanceMethod objectInit ∈ kT := k_mem 44 (by decide +kernel) rfl
set_option maxRecDepth 40000 in
theorem co_objInit : Cond.code objectInit ⟨#[0xb1]⟩ 1 none ∈ kT := k_mem 45 rfl rfl
theorem cl_X4_9 : Cond.classLink RX4 9 RX1 ∈ kT := k_mem 46 (by decide +kernel) rfl
theorem ins_X1 : Cond.instantiable RX1 3 ∈ kT := k_mem 47 (by decide +kernel) rfl
theorem ml_X4_11 : Cond.methodLink RX4 11 yX1_init ∈ kT := k_mem 48 (by decide +kernel) rfl
theorem im_X1_init : Cond.instanceMethod yX1_init ∈ kT := k_mem 49 (by decide +kernel) rfl
set_option maxRecDepth 40000 in
theorem co_X1_init : Cond.code yX1_init cX1_init 2 none ∈ kT := k_mem 50 rfl rfl
theorem ml_X1_3 : Cond.methodLink RX1 3 objectInit ∈ kT := k_mem 51 (by decide +kernel) rfl
theorem fl_X1_9 : Cond.fieldLink RX1 9 "DeltaSync$Row" "most" "I" ∈ kT := k_mem 52 (by decide +kernel) rfl
theorem fl_X1_15 : Cond.fieldLink RX1 15 "DeltaSync$Row" "cells" "[I" ∈ kT := k_mem 53 (by decide +kernel) rfl
theorem fl_X1_19 : Cond.fieldLink RX1 19 "DeltaSync$Row" "used" "I" ∈ kT := k_mem 54 (by decide +kernel) rfl
theorem ac_int : Cond.arrayClass .int ∈ kT := k_mem 62 (by decide +kernel) rfl
theorem cl_X4_27 : Cond.classLink RX4 27 RX0 ∈ kT := k_mem 63 (by decide +kernel) rfl
theorem ins_X0 : Cond.instantiable RX0 2 ∈ kT := k_mem 64 (by decide +kernel) rfl
theorem ml_X4_29 : Cond.methodLink RX4 29 yX0_init ∈ kT := k_mem 65 (by decide +kernel) rfl
theorem im_X0_init : Cond.instanceMethod yX0_init ∈ kT := k_mem 66 (by decide +kernel) rfl
set_option maxRecDepth 40000 in
theorem co_X0_init : Cond.code yX0_init cX0_init 1 none ∈ kT := k_mem 67 rfl rfl
theorem ml_X0_3 : Cond.methodLink RX0 3 objectInit ∈ kT := k_mem 68 (by decide +kernel) rfl
theorem fl_X0_9 : Cond.fieldLink RX0 9 "DeltaSync$Md5" "words" "[I" ∈ kT := k_mem 69 (by decide +kernel) rfl
theorem fl_X0_15 : Cond.fieldLink RX0 15 "DeltaSync$Md5" "state" "[I" ∈ kT := k_mem 70 (by decide +kernel) rfl
theorem cl_X4_34 : Cond.classLink RX4 34 RX2 ∈ kT := k_mem 76 (by decide +kernel) rfl
theorem ins_X2 : Cond.instantiable RX2 7 ∈ kT := k_mem 77 (by decide +kernel) rfl
theorem ml_X4_36 : Cond.methodLink RX4 36 yX2_init ∈ kT := k_mem 78 (by decide +kernel) rfl
theorem im_X2_init : Cond.instanceMethod yX2_init ∈ kT := k_mem 79 (by decide +kernel) rfl
set_option maxRecDepth 40000 in
theorem co_X2_init : Cond.code yX2_init cX2_init 1 none ∈ kT := k_mem 80 rfl rfl
theorem ml_X2_3 : Cond.methodLink RX2 3 objectInit ∈ kT := k_mem 81 (by decide +kernel) rfl
theorem ml_X2_35 : Cond.methodLink RX2 35 yJ7_fill_53178 ∈ kT := k_mem 82 (by decide +kernel) rfl
theorem sm_J7_fill_53178 : Cond.static yJ7_fill_53178 ∈ kT := k_mem 83 (by decide +kernel) rfl
set_option maxRecDepth 40000 in
theorem co_J7_fill_53178 : Cond.code yJ7_fill_53178 cJ7_fill_53178 4 none ∈ kT := k_mem 84 rfl rfl
theorem fl_X2_9 : Cond.fieldLink RX2 9 "DeltaSync$Signature" "blockSize" "I" ∈ kT := k_mem 85 (by decide +kernel) rfl
theorem fl_X2_15 : Cond.fieldLink RX2 15 "DeltaSync$Signature" "width" "I" ∈ kT := k_mem 86 (by decide +kernel) rfl
theorem fl_X2_18 : Cond.fieldLink RX2 18 "DeltaSync$Signature" "blocks" "I" ∈ kT := k_mem 87 (by decide +kernel) rfl
theorem fl_X2_21 : Cond.fieldLink RX2 21 "DeltaSync$Signature" "sums" "[I" ∈ kT := k_mem 88 (by decide +kernel) rfl
theorem fl_X2_25 : Cond.fieldLink RX2 25 "DeltaSync$Signature" "digests" "[B" ∈ kT := k_mem 89 (by decide +kernel) rfl
theorem fl_X2_32 : Cond.fieldLink RX2 32 "DeltaSync$Signature" "heads" "[I" ∈ kT := k_mem 90 (by decide +kernel) rfl
theorem fl_X2_29 : Cond.fieldLink RX2 29 "DeltaSync$Signature" "nexts" "[I" ∈ kT := k_mem 91 (by decide +kernel) rfl
theorem ac_byte : Cond.arrayClass .byte ∈ kT := k_mem 107 (by decide +kernel) rfl
theorem cl_X4_41 : Cond.classLink RX4 41 RX3 ∈ kT := k_mem 108 (by decide +kernel) rfl
theorem ins_X3 : Cond.instantiable RX3 11 ∈ kT := k_mem 109 (by decide +kernel) rfl
theorem ml_X4_43 : Cond.methodLink RX4 43 yX3_init ∈ kT := k_mem 110 (by decide +kernel) rfl
theorem im_X3_init : Cond.instanceMethod yX3_init ∈ kT := k_mem 111 (by decide +kernel) rfl
set_option maxRecDepth 40000 in
theorem co_X3_init : Cond.code yX3_init cX3_init 5 none ∈ kT := k_mem 112 rfl rfl
theorem ml_X3_3 : Cond.methodLink RX3 3 objectInit ∈ kT := k_mem 113 (by decide +kernel) rfl
theorem ml_X3_26 : Cond.methodLink RX3 26 yX3_startAnew ∈ kT := k_mem 114 (by decide +kernel) rfl
theorem im_X3_startAnew : Cond.instanceMethod yX3_startAnew ∈ kT := k_mem 116 (by decide +kernel) rfl
set_option maxRecDepth 40000 in
theorem co_X3_startAnew : Cond.code yX3_startAnew cX3_startAnew 1 none ∈ kT := k_mem 117 rfl rfl
theorem fl_X3_9 : Cond.fieldLink RX3 9 "DeltaSync$Teller" "source" "LDeltaSync$Row;" ∈ kT := k_mem 118 (by decide +kernel) rfl
theorem fl_X3_15 : Cond.fieldLink RX3 15 "DeltaSync$Teller" "target" "LDeltaSync$Row;" ∈ kT := k_mem 119 (by decide +kernel) rfl
theorem fl_X3_18 : Cond.fieldLink RX3 18 "DeltaSync$Teller" "signature" "LDeltaSync$Signature;" ∈ kT := k_mem 120 (by decide +kernel) rfl
theorem fl_X3_22 : Cond.fieldLink RX3 22 "DeltaSync$Teller" "hasher" "LDeltaSync$Md5;" ∈ kT := k_mem 121 (by decide +kernel) rfl
theorem fl_X3_29 : Cond.fieldLink RX3 29 "DeltaSync$Teller" "references" "I" ∈ kT := k_mem 122 (by decide +kernel) rfl
theorem fl_X3_33 : Cond.fieldLink RX3 33 "DeltaSync$Teller" "literals" "I" ∈ kT := k_mem 123 (by decide +kernel) rfl
theorem fl_X3_36 : Cond.fieldLink RX3 36 "DeltaSync$Teller" "rows" "I" ∈ kT := k_mem 124 (by decide +kernel) rfl
theorem fl_X3_39 : Cond.fieldLink RX3 39 "DeltaSync$Teller" "alarms" "I" ∈ kT := k_mem 125 (by decide +kernel) rfl
theorem fl_X3_82 : Cond.fieldLink RX3 82 "DeltaSync$Teller" "inRow" "I" ∈ kT := k_mem 126 (by decide +kernel) rfl
theorem fl_X3_85 : Cond.fieldLink RX3 85 "DeltaSync$Teller" "inRowAt" "I" ∈ kT := k_mem 127 (by decide +kernel) rfl
theorem fl_X3_88 : Cond.fieldLink RX3 88 "DeltaSync$Teller" "lastBlock" "I" ∈ kT := k_mem 128 (by decide +kernel) rfl
theorem fl_X4_14 : Cond.fieldLink RX4 14 "DeltaSync" "oldFile" "LDeltaSync$Row;" ∈ kT := k_mem 152 (by decide +kernel) rfl
theorem fl_X4_18 : Cond.fieldLink RX4 18 "DeltaSync" "newFile" "LDeltaSync$Row;" ∈ kT := k_mem 153 (by decide +kernel) rfl
theorem fl_X4_21 : Cond.fieldLink RX4 21 "DeltaSync" "told" "LDeltaSync$Row;" ∈ kT := k_mem 154 (by decide +kernel) rfl
theorem fl_X4_24 : Cond.fieldLink RX4 24 "DeltaSync" "result" "LDeltaSync$Row;" ∈ kT := k_mem 155 (by decide +kernel) rfl
theorem fl_X4_30 : Cond.fieldLink RX4 30 "DeltaSync" "hasher" "LDeltaSync$Md5;" ∈ kT := k_mem 156 (by decide +kernel) rfl
theorem fl_X4_37 : Cond.fieldLink RX4 37 "DeltaSync" "signature" "LDeltaSync$Signature;" ∈ kT := k_mem 157 (by decide +kernel) rfl
theorem fl_X4_46 : Cond.fieldLink RX4 46 "DeltaSync" "teller" "LDeltaSync$Teller;" ∈ kT := k_mem 158 (by decide +kernel) rfl
theorem fl_X4_50 : Cond.fieldLink RX4 50 "DeltaSync" "nextBlockSize" "I" ∈ kT := k_mem 159 (by decide +kernel) rfl
theorem fl_X4_54 : Cond.fieldLink RX4 54 "DeltaSync" "nextWidth" "I" ∈ kT := k_mem 160 (by decide +kernel) rfl
theorem ml_L_13 : Cond.methodLink RL 13 yX4_feed ∈ kT := k_mem 180 (by decide +kernel) rfl
theorem im_X4_feed : Cond.instanceMethod yX4_feed ∈ kT := k_mem 181 (by decide +kernel) rfl
theorem se_X4_feed : Cond.selects RX4 yX4_feed yX4_feed ∈ kT := k_mem 182 (by decide +kernel) rfl
set_option maxRecDepth 40000 in
theorem co_X4_feed : Cond.code yX4_feed cX4_feed 5 (some .int) ∈ kT := k_mem 183 rfl rfl
theorem ml_X4_57 : Cond.methodLink RX4 57 yX4_fileOf ∈ kT := k_mem 184 (by decide +kernel) rfl
theorem im_X4_fileOf : Cond.instanceMethod yX4_fileOf ∈ kT := k_mem 186 (by decide +kernel) rfl
set_option maxRecDepth 40000 in
theorem co_X4_fileOf : Cond.code yX4_fileOf cX4_fileOf 2 (some (.object "DeltaSync$Row")) ∈ kT := k_mem 187 rfl rfl
theorem ml_X4_104 : Cond.methodLink RX4 104 yX4_rowOf ∈ kT := k_mem 188 (by decide +kernel) rfl
theorem im_X4_rowOf : Cond.instanceMethod yX4_rowOf ∈ kT := k_mem 190 (by decide +kernel) rfl
set_option maxRecDepth 40000 in
theorem co_X4_rowOf : Cond.code yX4_rowOf cX4_rowOf 2 (some (.object "DeltaSync$Row")) ∈ kT := k_mem 191 rfl rfl
theorem ml_X4_61 : Cond.methodLink RX4 61 yX1_room ∈ kT := k_mem 192 (by decide +kernel) rfl
theorem im_X1_room : Cond.instanceMethod yX1_room ∈ kT := k_mem 193 (by decide +kernel) rfl
theorem se_X1_room : Cond.selects RX1 yX1_room yX1_room ∈ kT := k_mem 194 (by decide +kernel) rfl
set_option maxRecDepth 40000 in
theorem co_X1_room : Cond.code yX1_room cX1_room 1 (some .int) ∈ kT := k_mem 195 rfl rfl
theorem ml_X4_65 : Cond.methodLink RX4 65 yX1_add ∈ kT := k_mem 196 (by decide +kernel) rfl
theorem im_X1_add : Cond.instanceMethod yX1_add ∈ kT := k_mem 197 (by decide +kernel) rfl
theorem se_X1_add : Cond.selects RX1 yX1_add yX1_add ∈ kT := k_mem 198 (by decide +kernel) rfl
set_option maxRecDepth 40000 in
theorem co_X1_add : Cond.code yX1_add cX1_add 2 (some .boolean) ∈ kT := k_mem 199 rfl rfl
theorem ml_X1_22 : Cond.methodLink RX1 22 yX1_isByte ∈ kT := k_mem 200 (by decide +kernel) rfl
theorem sm_X1_isByte : Cond.static yX1_isByte ∈ kT := k_mem 201 (by decide +kernel) rfl
set_option maxRecDepth 40000 in
theorem co_X1_isByte : Cond.code yX1_isByte cX1_isByte 1 (some .boolean) ∈ kT := k_mem 202 rfl rfl
theorem ml_X1_26 : Cond.methodLink RX1 26 yX1_makeCells ∈ kT := k_mem 203 (by decide +kernel) rfl
theorem im_X1_makeCells : Cond.instanceMethod yX1_makeCells ∈ kT := k_mem 205 (by decide +kernel) rfl
set_option maxRecDepth 40000 in
theorem co_X1_makeCells : Cond.code yX1_makeCells cX1_makeCells 2 none ∈ kT := k_mem 206 rfl rfl
theorem ml_X1_49 : Cond.methodLink RX1 49 Lib.Math.min.name ∈ kT := k_mem 207 (by decide +kernel) rfl
theorem sm_Mmin : Cond.static Lib.Math.min.name ∈ kT := k_mem 208 (by decide +kernel) rfl
set_option maxRecDepth 40000 in
theorem co_Mmin : Cond.code Lib.Math.min.name Lib.Math.min.code 2 (some .int) ∈ kT := k_mem 209 rfl rfl
theorem ml_X1_54 : Cond.methodLink RX1 54 Lib.Math.max.name ∈ kT := k_mem 210 (by decide +kernel) rfl
theorem sm_Mmax : Cond.static Lib.Math.max.name ∈ kT := k_mem 211 (by decide +kernel) rfl
set_option maxRecDepth 40000 in
theorem co_Mmax : Cond.code Lib.Math.max.name Lib.Math.max.code 2 (some .int) ∈ kT := k_mem 212 rfl rfl
theorem ml_X1_57 : Cond.methodLink RX1 57 yJ7_copyOf_59c91 ∈ kT := k_mem 213 (by decide +kernel) rfl
theorem sm_J7_copyOf_59c91 : Cond.static yJ7_copyOf_59c91 ∈ kT := k_mem 214 (by decide +kernel) rfl
set_option maxRecDepth 40000 in
theorem co_J7_copyOf_59c91 : Cond.code yJ7_copyOf_59c91 cJ7_copyOf_59c91 3 (some (.array .int)) ∈ kT := k_mem 215 rfl rfl
theorem cl_J7_317 : Cond.classLink RJ7 317 "[I" ∈ kT := k_mem 222 (by decide +kernel) rfl
theorem ml_J7_304 : Cond.methodLink RJ7 304 Lib.Math.min.name ∈ kT := k_mem 223 (by decide +kernel) rfl
theorem ml_J7_150 : Cond.methodLink RJ7 150 arraycopyName ∈ kT := k_mem 224 (by decide +kernel) rfl
theorem sm_arraycopy : Cond.static arraycopyName ∈ kT := k_mem 225 (by decide +kernel) rfl
theorem nt_arraycopy : Cond.native arraycopyName ∈ kT := k_mem 226 (by decide +kernel) rfl
theorem ml_X4_69 : Cond.methodLink RX4 69 yX1_length ∈ kT := k_mem 227 (by decide +kernel) rfl
theorem im_X1_length : Cond.instanceMethod yX1_length ∈ kT := k_mem 228 (by decide +kernel) rfl
theorem se_X1_length : Cond.selects RX1 yX1_length yX1_length ∈ kT := k_mem 229 (by decide +kernel) rfl
set_option maxRecDepth 40000 in
theorem co_X1_length : Cond.code yX1_length cX1_length 1 (some .int) ∈ kT := k_mem 230 rfl rfl
theorem ml_L_18 : Cond.methodLink RL 18 yX4_cut ∈ kT := k_mem 231 (by decide +kernel) rfl
theorem im_X4_cut : Cond.instanceMethod yX4_cut ∈ kT := k_mem 232 (by decide +kernel) rfl
theorem se_X4_cut : Cond.selects RX4 yX4_cut yX4_cut ∈ kT := k_mem 233 (by decide +kernel) rfl
set_option maxRecDepth 40000 in
theorem co_X4_cut : Cond.code yX4_cut cX4_cut 4 (some .boolean) ∈ kT := k_mem 234 rfl rfl
theorem ml_X4_72 : Cond.methodLink RX4 72 yX1_shorten ∈ kT := k_mem 235 (by decide +kernel) rfl
theorem im_X1_shorten : Cond.instanceMethod yX1_shorten ∈ kT := k_mem 236 (by decide +kernel) rfl
theorem se_X1_shorten : Cond.selects RX1 yX1_shorten yX1_shorten ∈ kT := k_mem 237 (by decide +kernel) rfl
set_option maxRecDepth 40000 in
theorem co_X1_shorten : Cond.code yX1_shorten cX1_shorten 2 (some .boolean) ∈ kT := k_mem 238 rfl rfl
theorem ml_L_23 : Cond.methodLink RL 23 yX4_put ∈ kT := k_mem 239 (by decide +kernel) rfl
theorem im_X4_put : Cond.instanceMethod yX4_put ∈ kT := k_mem 240 (by decide +kernel) rfl
theorem se_X4_put : Cond.selects RX4 yX4_put yX4_put ∈ kT := k_mem 241 (by decide +kernel) rfl
set_option maxRecDepth 40000 in
theorem co_X4_put : Cond.code yX4_put cX4_put 5 (some .boolean) ∈ kT := k_mem 242 rfl rfl
theorem ml_X4_75 : Cond.methodLink RX4 75 yX1_set ∈ kT := k_mem 243 (by decide +kernel) rfl
theorem im_X1_set : Cond.instanceMethod yX1_set ∈ kT := k_mem 244 (by decide +kernel) rfl
theorem se_X1_set : Cond.selects RX1 yX1_set yX1_set ∈ kT := k_mem 245 (by decide +kernel) rfl
set_option maxRecDepth 40000 in
theorem co_X1_set : Cond.code yX1_set cX1_set 3 (some .boolean) ∈ kT := k_mem 246 rfl rfl
theorem ml_L_28 : Cond.methodLink RL 28 yX4_shape ∈ kT := k_mem 247 (by decide +kernel) rfl
theorem im_X4_shape : Cond.instanceMethod yX4_shape ∈ kT := k_mem 248 (by decide +kernel) rfl
theorem se_X4_shape : Cond.selects RX4 yX4_shape yX4_shape ∈ kT := k_mem 249 (by decide +kernel) rfl
set_option maxRecDepth 40000 in
theorem co_X4_shape : Cond.code yX4_shape cX4_shape 3 (some .boolean) ∈ kT := k_mem 250 rfl rfl
theorem ml_L_32 : Cond.methodLink RL 32 yX4_sign ∈ kT := k_mem 251 (by decide +kernel) rfl
theorem im_X4_sign : Cond.instanceMethod yX4_sign ∈ kT := k_mem 252 (by decide +kernel) rfl
theorem se_X4_sign : Cond.selects RX4 yX4_sign yX4_sign ∈ kT := k_mem 253 (by decide +kernel) rfl
set_option maxRecDepth 40000 in
theorem co_X4_sign : Cond.code yX4_sign cX4_sign 1 (some .int) ∈ kT := k_mem 254 rfl rfl
theorem ml_X4_79 : Cond.methodLink RX4 79 yX2_make ∈ kT := k_mem 255 (by decide +kernel) rfl
theorem im_X2_make : Cond.instanceMethod yX2_make ∈ kT := k_mem 256 (by decide +kernel) rfl
theorem se_X2_make : Cond.selects RX2 yX2_make yX2_make ∈ kT := k_mem 257 (by decide +kernel) rfl
set_option maxRecDepth 40000 in
theorem co_X2_make : Cond.code yX2_make cX2_make 8 none ∈ kT := k_mem 258 rfl rfl
theorem ml_X2_45 : Cond.methodLink RX2 45 yX1_length ∈ kT := k_mem 259 (by decide +kernel) rfl
theorem ml_X2_51 : Cond.methodLink RX2 51 yX2_makeRoom ∈ kT := k_mem 260 (by decide +kernel) rfl
theorem im_X2_makeRoom : Cond.instanceMethod yX2_makeRoom ∈ kT := k_mem 262 (by decide +kernel) rfl
set_option maxRecDepth 40000 in
theorem co_X2_makeRoom : Cond.code yX2_makeRoom cX2_makeRoom 2 none ∈ kT := k_mem 263 rfl rfl
theorem ml_X2_83 : Cond.methodLink RX2 83 Lib.Math.min.name ∈ kT := k_mem 264 (by decide +kernel) rfl
theorem ml_X2_88 : Cond.methodLink RX2 88 Lib.Math.max.name ∈ kT := k_mem 265 (by decide +kernel) rfl
theorem ml_X2_54 : Cond.methodLink RX2 54 yX1_sumFrom ∈ kT := k_mem 266 (by decide +kernel) rfl
theorem im_X1_sumFrom : Cond.instanceMethod yX1_sumFrom ∈ kT := k_mem 267 (by decide +kernel) rfl
theorem se_X1_sumFrom : Cond.selects RX1 yX1_sumFrom yX1_sumFrom ∈ kT := k_mem 268 (by decide +kernel) rfl
set_option maxRecDepth 40000 in
theorem co_X1_sumFrom : Cond.code yX1_sumFrom cX1_sumFrom 6 (some .int) ∈ kT := k_mem 269 rfl rfl
theorem ml_X1_30 : Cond.methodLink RX1 30 yX1_holds ∈ kT := k_mem 270 (by decide +kernel) rfl
theorem im_X1_holds : Cond.instanceMethod yX1_holds ∈ kT := k_mem 271 (by decide +kernel) rfl
theorem se_X1_holds : Cond.selects RX1 yX1_holds yX1_holds ∈ kT := k_mem 272 (by decide +kernel) rfl
set_option maxRecDepth 40000 in
theorem co_X1_holds : Cond.code yX1_holds cX1_holds 3 (some .boolean) ∈ kT := k_mem 273 rfl rfl
theorem ml_X1_44 : Cond.methodLink RX1 44 yX1_joined ∈ kT := k_mem 274 (by decide +kernel) rfl
theorem sm_X1_joined : Cond.static yX1_joined ∈ kT := k_mem 275 (by decide +kernel) rfl
set_option maxRecDepth 40000 in
theorem co_X1_joined : Cond.code yX1_joined cX1_joined 2 (some .int) ∈ kT := k_mem 276 rfl rfl
theorem kc_X1_48 : Cond.constant RX1 48 (65535) ∈ kT := k_mem 277 (by decide +kernel) rfl
theorem ml_X2_58 : Cond.methodLink RX2 58 yX0_take ∈ kT := k_mem 278 (by decide +kernel) rfl
theorem im_X0_take : Cond.instanceMethod yX0_take ∈ kT := k_mem 279 (by decide +kernel) rfl
theorem se_X0_take : Cond.selects RX0 yX0_take yX0_take ∈ kT := k_mem 280 (by decide +kernel) rfl
set_option maxRecDepth 40000 in
theorem co_X0_take : Cond.code yX0_take cX0_take 6 none ∈ kT := k_mem 281 rfl rfl
theorem kc_X0_18 : Cond.constant RX0 18 (1732584193) ∈ kT := k_mem 282 (by decide +kernel) rfl
theorem kc_X0_19 : Cond.constant RX0 19 (-271733879) ∈ kT := k_mem 283 (by decide +kernel) rfl
theorem kc_X0_20 : Cond.constant RX0 20 (-1732584194) ∈ kT := k_mem 284 (by decide +kernel) rfl
theorem kc_X0_21 : Cond.constant RX0 21 (271733878) ∈ kT := k_mem 285 (by decide +kernel) rfl
theorem ml_X0_22 : Cond.methodLink RX0 22 yX1_holds ∈ kT := k_mem 286 (by decide +kernel) rfl
theorem ml_X0_28 : Cond.methodLink RX0 28 yX0_fillWords ∈ kT := k_mem 287 (by decide +kernel) rfl
theorem im_X0_fillWords : Cond.instanceMethod yX0_fillWords ∈ kT := k_mem 289 (by decide +kernel) rfl
set_option maxRecDepth 40000 in
theorem co_X0_fillWords : Cond.code yX0_fillWords cX0_fillWords 7 none ∈ kT := k_mem 290 rfl rfl
theorem ml_X0_35 : Cond.methodLink RX0 35 yJ7_fill_53178 ∈ kT := k_mem 291 (by decide +kernel) rfl
theorem ml_X0_41 : Cond.methodLink RX0 41 Lib.Math.min.name ∈ kT := k_mem 292 (by decide +kernel) rfl
theorem ml_X0_47 : Cond.methodLink RX0 47 yX1_get ∈ kT := k_mem 293 (by decide +kernel) rfl
theorem im_X1_get : Cond.instanceMethod yX1_get ∈ kT := k_mem 294 (by decide +kernel) rfl
theorem se_X1_get : Cond.selects RX1 yX1_get yX1_get ∈ kT := k_mem 295 (by decide +kernel) rfl
set_option maxRecDepth 40000 in
theorem co_X1_get : Cond.code yX1_get cX1_get 2 (some .int) ∈ kT := k_mem 296 rfl rfl
theorem ml_X0_32 : Cond.methodLink RX0 32 yX0_mixWords ∈ kT := k_mem 297 (by decide +kernel) rfl
theorem im_X0_mixWords : Cond.instanceMethod yX0_mixWords ∈ kT := k_mem 299 (by decide +kernel) rfl
set_option maxRecDepth 40000 in
theorem co_X0_mixWords : Cond.code yX0_mixWords cX0_mixWords 9 none ∈ kT := k_mem 300 rfl rfl
theorem ml_X0_51 : Cond.methodLink RX0 51 yX0_mixed ∈ kT := k_mem 301 (by decide +kernel) rfl
theorem sm_X0_mixed : Cond.static yX0_mixed ∈ kT := k_mem 302 (by decide +kernel) rfl
set_option maxRecDepth 40000 in
theorem co_X0_mixed : Cond.code yX0_mixed cX0_mixed 4 (some .int) ∈ kT := k_mem 303 rfl rfl
theorem fl_X0_55 : Cond.fieldLink RX0 55 "DeltaSync$Md5" "SINES" "[I" ∈ kT := k_mem 304 (by decide +kernel) rfl
theorem ml_X0_58 : Cond.methodLink RX0 58 yX0_wordFor ∈ kT := k_mem 306 (by decide +kernel) rfl
theorem sm_X0_wordFor : Cond.static yX0_wordFor ∈ kT := k_mem 307 (by decide +kernel) rfl
set_option maxRecDepth 40000 in
theorem co_X0_wordFor : Cond.code yX0_wordFor cX0_wordFor 2 (some .int) ∈ kT := k_mem 308 rfl rfl
theorem fl_X0_61 : Cond.fieldLink RX0 61 "DeltaSync$Md5" "TURNS" "[I" ∈ kT := k_mem 309 (by decide +kernel) rfl
theorem ml_X2_64 : Cond.methodLink RX2 64 yX0_digestByte ∈ kT := k_mem 311 (by decide +kernel) rfl
theorem im_X0_digestByte : Cond.instanceMethod yX0_digestByte ∈ kT := k_mem 312 (by decide +kernel) rfl
theorem se_X0_digestByte : Cond.selects RX0 yX0_digestByte yX0_digestByte ∈ kT := k_mem 313 (by decide +kernel) rfl
set_option maxRecDepth 40000 in
theorem co_X0_digestByte : Cond.code yX0_digestByte cX0_digestByte 2 (some .int) ∈ kT := k_mem 314 rfl rfl
theorem ml_X2_68 : Cond.methodLink RX2 68 yX2_chainBlocks ∈ kT := k_mem 315 (by decide +kernel) rfl
theorem im_X2_chainBlocks : Cond.instanceMethod yX2_chainBlocks ∈ kT := k_mem 317 (by decide +kernel) rfl
set_option maxRecDepth 40000 in
theorem co_X2_chainBlocks : Cond.code yX2_chainBlocks cX2_chainBlocks 3 none ∈ kT := k_mem 318 rfl rfl
theorem ml_X2_71 : Cond.methodLink RX2 71 yX2_chainOf ∈ kT := k_mem 319 (by decide +kernel) rfl
theorem sm_X2_chainOf : Cond.static yX2_chainOf ∈ kT := k_mem 320 (by decide +kernel) rfl
set_option maxRecDepth 40000 in
theorem co_X2_chainOf : Cond.code yX2_chainOf cX2_chainOf 1 (some .int) ∈ kT := k_mem 321 rfl rfl
theorem kc_X2_91 : Cond.constant RX2 91 (-1640531535) ∈ kT := k_mem 322 (by decide +kernel) rfl
theorem ml_X4_83 : Cond.methodLink RX4 83 yX2_blocks ∈ kT := k_mem 323 (by decide +kernel) rfl
theorem im_X2_blocks : Cond.instanceMethod yX2_blocks ∈ kT := k_mem 324 (by decide +kernel) rfl
theorem se_X2_blocks : Cond.selects RX2 yX2_blocks yX2_blocks ∈ kT := k_mem 325 (by decide +kernel) rfl
set_option maxRecDepth 40000 in
theorem co_X2_blocks : Cond.code yX2_blocks cX2_blocks 1 (some .int) ∈ kT := k_mem 326 rfl rfl
theorem ml_L_37 : Cond.methodLink RL 37 yX4_sum ∈ kT := k_mem 327 (by decide +kernel) rfl
theorem im_X4_sum : Cond.instanceMethod yX4_sum ∈ kT := k_mem 328 (by decide +kernel) rfl
theorem se_X4_sum : Cond.selects RX4 yX4_sum yX4_sum ∈ kT := k_mem 329 (by decide +kernel) rfl
set_option maxRecDepth 40000 in
theorem co_X4_sum : Cond.code yX4_sum cX4_sum 2 (some .int) ∈ kT := k_mem 330 rfl rfl
theorem ml_X4_86 : Cond.methodLink RX4 86 yX2_sumOf ∈ kT := k_mem 331 (by decide +kernel) rfl
theorem im_X2_sumOf : Cond.instanceMethod yX2_sumOf ∈ kT := k_mem 332 (by decide +kernel) rfl
theorem se_X2_sumOf : Cond.selects RX2 yX2_sumOf yX2_sumOf ∈ kT := k_mem 333 (by decide +kernel) rfl
set_option maxRecDepth 40000 in
theorem co_X2_sumOf : Cond.code yX2_sumOf cX2_sumOf 2 (some .int) ∈ kT := k_mem 334 rfl rfl
theorem ml_X2_41 : Cond.methodLink RX2 41 yX2_has ∈ kT := k_mem 335 (by decide +kernel) rfl
theorem im_X2_has : Cond.instanceMethod yX2_has ∈ kT := k_mem 337 (by decide +kernel) rfl
set_option maxRecDepth 40000 in
theorem co_X2_has : Cond.code yX2_has cX2_has 2 (some .boolean) ∈ kT := k_mem 338 rfl rfl
theorem ml_L_42 : Cond.methodLink RL 42 yX4_digest ∈ kT := k_mem 339 (by decide +kernel) rfl
theorem im_X4_digest : Cond.instanceMethod yX4_digest ∈ kT := k_mem 340 (by decide +kernel) rfl
theorem se_X4_digest : Cond.selects RX4 yX4_digest yX4_digest ∈ kT := k_mem 341 (by decide +kernel) rfl
set_option maxRecDepth 40000 in
theorem co_X4_digest : Cond.code yX4_digest cX4_digest 3 (some .int) ∈ kT := k_mem 342 rfl rfl
theorem ml_X4_90 : Cond.methodLink RX4 90 yX2_digestByte ∈ kT := k_mem 343 (by decide +kernel) rfl
theorem im_X2_digestByte : Cond.instanceMethod yX2_digestByte ∈ kT := k_mem 344 (by decide +kernel) rfl
theorem se_X2_digestByte : Cond.selects RX2 yX2_digestByte yX2_digestByte ∈ kT := k_mem 345 (by decide +kernel) rfl
set_option maxRecDepth 40000 in
theorem co_X2_digestByte : Cond.code yX2_digestByte cX2_digestByte 3 (some .int) ∈ kT := k_mem 346 rfl rfl
theorem ml_L_46 : Cond.methodLink RL 46 yX4_delta ∈ kT := k_mem 347 (by decide +kernel) rfl
theorem im_X4_delta : Cond.instanceMethod yX4_delta ∈ kT := k_mem 348 (by decide +kernel) rfl
theorem se_X4_delta : Cond.selects RX4 yX4_delta yX4_delta ∈ kT := k_mem 349 (by decide +kernel) rfl
set_option maxRecDepth 40000 in
theorem co_X4_delta : Cond.code yX4_delta cX4_delta 1 (some .int) ∈ kT := k_mem 350 rfl rfl
theorem ml_X4_94 : Cond.methodLink RX4 94 yX3_tell ∈ kT := k_mem 351 (by decide +kernel) rfl
theorem im_X3_tell : Cond.instanceMethod yX3_tell ∈ kT := k_mem 352 (by decide +kernel) rfl
theorem se_X3_tell : Cond.selects RX3 yX3_tell yX3_tell ∈ kT := k_mem 353 (by decide +kernel) rfl
set_option maxRecDepth 40000 in
theorem co_X3_tell : Cond.code yX3_tell cX3_tell 7 none ∈ kT := k_mem 354 rfl rfl
theorem ml_X3_42 : Cond.methodLink RX3 42 yX1_clear ∈ kT := k_mem 355 (by decide +kernel) rfl
theorem im_X1_clear : Cond.instanceMethod yX1_clear ∈ kT := k_mem 356 (by decide +kernel) rfl
theorem se_X1_clear : Cond.selects RX1 yX1_clear yX1_clear ∈ kT := k_mem 357 (by decide +kernel) rfl
set_option maxRecDepth 40000 in
theorem co_X1_clear : Cond.code yX1_clear cX1_clear 1 none ∈ kT := k_mem 358 rfl rfl
theorem ml_X3_47 : Cond.methodLink RX3 47 yX2_blockSize ∈ kT := k_mem 359 (by decide +kernel) rfl
theorem im_X2_blockSize : Cond.instanceMethod yX2_blockSize ∈ kT := k_mem 360 (by decide +kernel) rfl
theorem se_X2_blockSize : Cond.selects RX2 yX2_blockSize yX2_blockSize ∈ kT := k_mem 361 (by decide +kernel) rfl
set_option maxRecDepth 40000 in
theorem co_X2_blockSize : Cond.code yX2_blockSize cX2_blockSize 1 (some .int) ∈ kT := k_mem 362 rfl rfl
theorem ml_X3_53 : Cond.methodLink RX3 53 yX1_length ∈ kT := k_mem 363 (by decide +kernel) rfl
theorem ml_X3_56 : Cond.methodLink RX3 56 yX1_sumFrom ∈ kT := k_mem 364 (by decide +kernel) rfl
theorem ml_X3_60 : Cond.methodLink RX3 60 yX1_holds ∈ kT := k_mem 365 (by decide +kernel) rfl
theorem ml_X3_64 : Cond.methodLink RX3 64 yX3_blockFor ∈ kT := k_mem 366 (by decide +kernel) rfl
theorem im_X3_blockFor : Cond.instanceMethod yX3_blockFor ∈ kT := k_mem 368 (by decide +kernel) rfl
set_option maxRecDepth 40000 in
theorem co_X3_blockFor : Cond.code yX3_blockFor cX3_blockFor 6 (some .int) ∈ kT := k_mem 369 rfl rfl
theorem ml_X3_91 : Cond.methodLink RX3 91 yX2_hasSum ∈ kT := k_mem 370 (by decide +kernel) rfl
theorem im_X2_hasSum : Cond.instanceMethod yX2_hasSum ∈ kT := k_mem 371 (by decide +kernel) rfl
theorem se_X2_hasSum : Cond.selects RX2 yX2_hasSum yX2_hasSum ∈ kT := k_mem 372 (by decide +kernel) rfl
set_option maxRecDepth 40000 in
theorem co_X2_hasSum : Cond.code yX2_hasSum cX2_hasSum 2 (some .boolean) ∈ kT := k_mem 373 rfl rfl
theorem ml_X2_74 : Cond.methodLink RX2 74 yX2_firstInChain ∈ kT := k_mem 374 (by decide +kernel) rfl
theorem im_X2_firstInChain : Cond.instanceMethod yX2_firstInChain ∈ kT := k_mem 376 (by decide +kernel) rfl
set_option maxRecDepth 40000 in
theorem co_X2_firstInChain : Cond.code yX2_firstInChain cX2_firstInChain 5 (some .int) ∈ kT := k_mem 377 rfl rfl
theorem ml_X3_95 : Cond.methodLink RX3 95 yX0_take ∈ kT := k_mem 378 (by decide +kernel) rfl
theorem ml_X3_101 : Cond.methodLink RX3 101 yX2_find ∈ kT := k_mem 379 (by decide +kernel) rfl
theorem im_X2_find : Cond.instanceMethod yX2_find ∈ kT := k_mem 380 (by decide +kernel) rfl
theorem se_X2_find : Cond.selects RX2 yX2_find yX2_find ∈ kT := k_mem 381 (by decide +kernel) rfl
set_option maxRecDepth 40000 in
theorem co_X2_find : Cond.code yX2_find cX2_find 6 (some .int) ∈ kT := k_mem 382 rfl rfl
theorem ml_X2_77 : Cond.methodLink RX2 77 yX2_hasDigest ∈ kT := k_mem 383 (by decide +kernel) rfl
theorem im_X2_hasDigest : Cond.instanceMethod yX2_hasDigest ∈ kT := k_mem 385 (by decide +kernel) rfl
set_option maxRecDepth 40000 in
theorem co_X2_hasDigest : Cond.code yX2_hasDigest cX2_hasDigest 4 (some .boolean) ∈ kT := k_mem 386 rfl rfl
theorem ml_X2_81 : Cond.methodLink RX2 81 yX2_digestByte ∈ kT := k_mem 387 (by decide +kernel) rfl
theorem ml_X3_68 : Cond.methodLink RX3 68 yX1_get ∈ kT := k_mem 388 (by decide +kernel) rfl
theorem ml_X3_72 : Cond.methodLink RX3 72 yX3_writeLiteral ∈ kT := k_mem 389 (by decide +kernel) rfl
theorem im_X3_writeLiteral : Cond.instanceMethod yX3_writeLiteral ∈ kT := k_mem 391 (by decide +kernel) rfl
set_option maxRecDepth 40000 in
theorem co_X3_writeLiteral : Cond.code yX3_writeLiteral cX3_writeLiteral 3 none ∈ kT := k_mem 392 rfl rfl
theorem ml_X3_109 : Cond.methodLink RX3 109 yX3_growRow ∈ kT := k_mem 393 (by decide +kernel) rfl
theorem im_X3_growRow : Cond.instanceMethod yX3_growRow ∈ kT := k_mem 395 (by decide +kernel) rfl
set_option maxRecDepth 40000 in
theorem co_X3_growRow : Cond.code yX3_growRow cX3_growRow 1 none ∈ kT := k_mem 396 rfl rfl
theorem ml_X3_118 : Cond.methodLink RX3 118 yX1_set ∈ kT := k_mem 397 (by decide +kernel) rfl
theorem ml_X3_112 : Cond.methodLink RX3 112 yX1_add ∈ kT := k_mem 398 (by decide +kernel) rfl
theorem ml_X3_115 : Cond.methodLink RX3 115 yX3_openRow ∈ kT := k_mem 399 (by decide +kernel) rfl
theorem im_X3_openRow : Cond.instanceMethod yX3_openRow ∈ kT := k_mem 401 (by decide +kernel) rfl
set_option maxRecDepth 40000 in
theorem co_X3_openRow : Cond.code yX3_openRow cX3_openRow 1 none ∈ kT := k_mem 402 rfl rfl
theorem ml_X3_76 : Cond.methodLink RX3 76 yX3_rolled ∈ kT := k_mem 403 (by decide +kernel) rfl
theorem im_X3_rolled : Cond.instanceMethod yX3_rolled ∈ kT := k_mem 405 (by decide +kernel) rfl
set_option maxRecDepth 40000 in
theorem co_X3_rolled : Cond.code yX3_rolled cX3_rolled 7 (some .int) ∈ kT := k_mem 406 rfl rfl
theorem kc_X3_105 : Cond.constant RX3 105 (65535) ∈ kT := k_mem 407 (by decide +kernel) rfl
theorem ml_X3_106 : Cond.methodLink RX3 106 yX1_joined ∈ kT := k_mem 408 (by decide +kernel) rfl
theorem ml_X3_79 : Cond.methodLink RX3 79 yX3_writeReference ∈ kT := k_mem 409 (by decide +kernel) rfl
theorem im_X3_writeReference : Cond.instanceMethod yX3_writeReference ∈ kT := k_mem 411 (by decide +kernel) rfl
set_option maxRecDepth 40000 in
theorem co_X3_writeReference : Cond.code yX3_writeReference cX3_writeReference 3 none ∈ kT := k_mem 412 rfl rfl
theorem ml_L_50 : Cond.methodLink RL 50 yX4_apply ∈ kT := k_mem 413 (by decide +kernel) rfl
theorem im_X4_apply : Cond.instanceMethod yX4_apply ∈ kT := k_mem 414 (by decide +kernel) rfl
theorem se_X4_apply : Cond.selects RX4 yX4_apply yX4_apply ∈ kT := k_mem 415 (by decide +kernel) rfl
set_option maxRecDepth 40000 in
theorem co_X4_apply : Cond.code yX4_apply cX4_apply 1 (some .int) ∈ kT := k_mem 416 rfl rfl
theorem ml_X4_97 : Cond.methodLink RX4 97 yX1_clear ∈ kT := k_mem 417 (by decide +kernel) rfl
theorem ml_X4_100 : Cond.methodLink RX4 100 yX4_allRowsApplied ∈ kT := k_mem 418 (by decide +kernel) rfl
theorem im_X4_allRowsApplied : Cond.instanceMethod yX4_allRowsApplied ∈ kT := k_mem 420 (by decide +kernel) rfl
set_option maxRecDepth 40000 in
theorem co_X4_allRowsApplied : Cond.code yX4_allRowsApplied cX4_allRowsApplied 5 (some .boolean) ∈ kT := k_mem 421 rfl rfl
theorem ml_X4_141 : Cond.methodLink RX4 141 yX4_applyRow ∈ kT := k_mem 422 (by decide +kernel) rfl
theorem im_X4_applyRow : Cond.instanceMethod yX4_applyRow ∈ kT := k_mem 424 (by decide +kernel) rfl
set_option maxRecDepth 40000 in
theorem co_X4_applyRow : Cond.code yX4_applyRow cX4_applyRow 2 (some .int) ∈ kT := k_mem 425 rfl rfl
theorem ml_X4_107 : Cond.methodLink RX4 107 yX1_get ∈ kT := k_mem 426 (by decide +kernel) rfl
theorem ml_X4_144 : Cond.methodLink RX4 144 yX4_applyLiterals ∈ kT := k_mem 427 (by decide +kernel) rfl
theorem im_X4_applyLiterals : Cond.instanceMethod yX4_applyLiterals ∈ kT := k_mem 429 (by decide +kernel) rfl
set_option maxRecDepth 40000 in
theorem co_X4_applyLiterals : Cond.code yX4_applyLiterals cX4_applyLiterals 3 (some .int) ∈ kT := k_mem 430 rfl rfl
theorem ml_X4_150 : Cond.methodLink RX4 150 yX1_addFrom ∈ kT := k_mem 431 (by decide +kernel) rfl
theorem im_X1_addFrom : Cond.instanceMethod yX1_addFrom ∈ kT := k_mem 432 (by decide +kernel) rfl
theorem se_X1_addFrom : Cond.selects RX1 yX1_addFrom yX1_addFrom ∈ kT := k_mem 433 (by decide +kernel) rfl
set_option maxRecDepth 40000 in
theorem co_X1_addFrom : Cond.code yX1_addFrom cX1_addFrom 4 (some .boolean) ∈ kT := k_mem 434 rfl rfl
theorem ml_X1_34 : Cond.methodLink RX1 34 yX1_room ∈ kT := k_mem 435 (by decide +kernel) rfl
theorem ml_X1_38 : Cond.methodLink RX1 38 arraycopyName ∈ kT := k_mem 436 (by decide +kernel) rfl
theorem ml_X4_147 : Cond.methodLink RX4 147 yX4_applyReferences ∈ kT := k_mem 437 (by decide +kernel) rfl
theorem im_X4_applyReferences : Cond.instanceMethod yX4_applyReferences ∈ kT := k_mem 439 (by decide +kernel) rfl
set_option maxRecDepth 40000 in
theorem co_X4_applyReferences : Cond.code yX4_applyReferences cX4_applyReferences 5 (some .int) ∈ kT := k_mem 440 rfl rfl
theorem ml_X4_154 : Cond.methodLink RX4 154 yX1_holds ∈ kT := k_mem 441 (by decide +kernel) rfl
theorem ml_X4_135 : Cond.methodLink RX4 135 yX2_blockSize ∈ kT := k_mem 442 (by decide +kernel) rfl
theorem ml_L_54 : Cond.methodLink RL 54 yX4_at ∈ kT := k_mem 443 (by decide +kernel) rfl
theorem im_X4_at : Cond.instanceMethod yX4_at ∈ kT := k_mem 444 (by decide +kernel) rfl
theorem se_X4_at : Cond.selects RX4 yX4_at yX4_at ∈ kT := k_mem 445 (by decide +kernel) rfl
set_option maxRecDepth 40000 in
theorem co_X4_at : Cond.code yX4_at cX4_at 4 (some .int) ∈ kT := k_mem 446 rfl rfl
theorem ml_L_58 : Cond.methodLink RL 58 yX4_size ∈ kT := k_mem 447 (by decide +kernel) rfl
theorem im_X4_size : Cond.instanceMethod yX4_size ∈ kT := k_mem 448 (by decide +kernel) rfl
theorem se_X4_size : Cond.selects RX4 yX4_size yX4_size ∈ kT := k_mem 449 (by decide +kernel) rfl
set_option maxRecDepth 40000 in
theorem co_X4_size : Cond.code yX4_size cX4_size 3 (some .int) ∈ kT := k_mem 450 rfl rfl
theorem ml_L_62 : Cond.methodLink RL 62 yX4_change ∈ kT := k_mem 451 (by decide +kernel) rfl
theorem im_X4_change : Cond.instanceMethod yX4_change ∈ kT := k_mem 452 (by decide +kernel) rfl
theorem se_X4_change : Cond.selects RX4 yX4_change yX4_change ∈ kT := k_mem 453 (by decide +kernel) rfl
set_option maxRecDepth 40000 in
theorem co_X4_change : Cond.code yX4_change cX4_change 3 (some .boolean) ∈ kT := k_mem 454 rfl rfl
theorem ml_L_66 : Cond.methodLink RL 66 yX4_push ∈ kT := k_mem 455 (by decide +kernel) rfl
theorem im_X4_push : Cond.instanceMethod yX4_push ∈ kT := k_mem 456 (by decide +kernel) rfl
theorem se_X4_push : Cond.selects RX4 yX4_push yX4_push ∈ kT := k_mem 457 (by decide +kernel) rfl
set_option maxRecDepth 40000 in
theorem co_X4_push : Cond.code yX4_push cX4_push 2 (some .boolean) ∈ kT := k_mem 458 rfl rfl
theorem ml_L_71 : Cond.methodLink RL 71 yX4_keep ∈ kT := k_mem 459 (by decide +kernel) rfl
theorem im_X4_keep : Cond.instanceMethod yX4_keep ∈ kT := k_mem 460 (by decide +kernel) rfl
theorem se_X4_keep : Cond.selects RX4 yX4_keep yX4_keep ∈ kT := k_mem 461 (by decide +kernel) rfl
set_option maxRecDepth 40000 in
theorem co_X4_keep : Cond.code yX4_keep cX4_keep 2 (some .boolean) ∈ kT := k_mem 462 rfl rfl
theorem ml_L_75 : Cond.methodLink RL 75 yX4_sumAt ∈ kT := k_mem 463 (by decide +kernel) rfl
theorem im_X4_sumAt : Cond.instanceMethod yX4_sumAt ∈ kT := k_mem 464 (by decide +kernel) rfl
theorem se_X4_sumAt : Cond.selects RX4 yX4_sumAt yX4_sumAt ∈ kT := k_mem 465 (by decide +kernel) rfl
set_option maxRecDepth 40000 in
theorem co_X4_sumAt : Cond.code yX4_sumAt cX4_sumAt 5 (some .int) ∈ kT := k_mem 466 rfl rfl
theorem ml_X4_110 : Cond.methodLink RX4 110 yX1_sumFrom ∈ kT := k_mem 467 (by decide +kernel) rfl
theorem ml_L_80 : Cond.methodLink RL 80 yX4_md5 ∈ kT := k_mem 468 (by decide +kernel) rfl
theorem im_X4_md5 : Cond.instanceMethod yX4_md5 ∈ kT := k_mem 469 (by decide +kernel) rfl
theorem se_X4_md5 : Cond.selects RX4 yX4_md5 yX4_md5 ∈ kT := k_mem 470 (by decide +kernel) rfl
set_option maxRecDepth 40000 in
theorem co_X4_md5 : Cond.code yX4_md5 cX4_md5 4 (some .int) ∈ kT := k_mem 471 rfl rfl
theorem ml_X4_113 : Cond.methodLink RX4 113 yX0_take ∈ kT := k_mem 472 (by decide +kernel) rfl
theorem ml_X4_117 : Cond.methodLink RX4 117 yX0_digestByte ∈ kT := k_mem 473 (by decide +kernel) rfl
theorem ml_L_84 : Cond.methodLink RL 84 yX4_same ∈ kT := k_mem 474 (by decide +kernel) rfl
theorem im_X4_same : Cond.instanceMethod yX4_same ∈ kT := k_mem 475 (by decide +kernel) rfl
theorem se_X4_same : Cond.selects RX4 yX4_same yX4_same ∈ kT := k_mem 476 (by decide +kernel) rfl
set_option maxRecDepth 40000 in
theorem co_X4_same : Cond.code yX4_same cX4_same 1 (some .boolean) ∈ kT := k_mem 477 rfl rfl
theorem ml_X4_119 : Cond.methodLink RX4 119 yX1_equalTo ∈ kT := k_mem 478 (by decide +kernel) rfl
theorem im_X1_equalTo : Cond.instanceMethod yX1_equalTo ∈ kT := k_mem 479 (by decide +kernel) rfl
theorem se_X1_equalTo : Cond.selects RX1 yX1_equalTo yX1_equalTo ∈ kT := k_mem 480 (by decide +kernel) rfl
set_option maxRecDepth 40000 in
theorem co_X1_equalTo : Cond.code yX1_equalTo cX1_equalTo 3 (some .boolean) ∈ kT := k_mem 481 rfl rfl
theorem ml_L_89 : Cond.methodLink RL 89 yX4_count ∈ kT := k_mem 482 (by decide +kernel) rfl
theorem im_X4_count : Cond.instanceMethod yX4_count ∈ kT := k_mem 483 (by decide +kernel) rfl
theorem se_X4_count : Cond.selects RX4 yX4_count yX4_count ∈ kT := k_mem 484 (by decide +kernel) rfl
set_option maxRecDepth 40000 in
theorem co_X4_count : Cond.code yX4_count cX4_count 2 (some .int) ∈ kT := k_mem 485 rfl rfl
theorem ml_X4_123 : Cond.methodLink RX4 123 yX3_references ∈ kT := k_mem 486 (by decide +kernel) rfl
theorem im_X3_references : Cond.instanceMethod yX3_references ∈ kT := k_mem 487 (by decide +kernel) rfl
theorem se_X3_references : Cond.selects RX3 yX3_references yX3_references ∈ kT := k_mem 488 (by decide +kernel) rfl
set_option maxRecDepth 40000 in
theorem co_X3_references : Cond.code yX3_references cX3_references 1 (some .int) ∈ kT := k_mem 489 rfl rfl
theorem ml_X4_126 : Cond.methodLink RX4 126 yX3_literals ∈ kT := k_mem 490 (by decide +kernel) rfl
theorem im_X3_literals : Cond.instanceMethod yX3_literals ∈ kT := k_mem 491 (by decide +kernel) rfl
theorem se_X3_literals : Cond.selects RX3 yX3_literals yX3_literals ∈ kT := k_mem 492 (by decide +kernel) rfl
set_option maxRecDepth 40000 in
theorem co_X3_literals : Cond.code yX3_literals cX3_literals 1 (some .int) ∈ kT := k_mem 493 rfl rfl
theorem ml_X4_129 : Cond.methodLink RX4 129 yX3_rows ∈ kT := k_mem 494 (by decide +kernel) rfl
theorem im_X3_rows : Cond.instanceMethod yX3_rows ∈ kT := k_mem 495 (by decide +kernel) rfl
theorem se_X3_rows : Cond.selects RX3 yX3_rows yX3_rows ∈ kT := k_mem 496 (by decide +kernel) rfl
set_option maxRecDepth 40000 in
theorem co_X3_rows : Cond.code yX3_rows cX3_rows 1 (some .int) ∈ kT := k_mem 497 rfl rfl
theorem ml_X4_132 : Cond.methodLink RX4 132 yX3_alarms ∈ kT := k_mem 498 (by decide +kernel) rfl
theorem im_X3_alarms : Cond.instanceMethod yX3_alarms ∈ kT := k_mem 499 (by decide +kernel) rfl
theorem se_X3_alarms : Cond.selects RX3 yX3_alarms yX3_alarms ∈ kT := k_mem 500 (by decide +kernel) rfl
set_option maxRecDepth 40000 in
theorem co_X3_alarms : Cond.code yX3_alarms cX3_alarms 1 (some .int) ∈ kT := k_mem 501 rfl rfl
theorem ml_X4_138 : Cond.methodLink RX4 138 yX2_width ∈ kT := k_mem 502 (by decide +kernel) rfl
theorem im_X2_width : Cond.instanceMethod yX2_width ∈ kT := k_mem 503 (by decide +kernel) rfl
theorem se_X2_width : Cond.selects RX2 yX2_width yX2_width ∈ kT := k_mem 504 (by decide +kernel) rfl
set_option maxRecDepth 40000 in
theorem co_X2_width : Cond.code yX2_width cX2_width 1 (some .int) ∈ kT := k_mem 505 rfl rfl
theorem cl_L_10 : Cond.classLink RL 10 RX5 ∈ kT := k_mem 506 (by decide +kernel) rfl
theorem ins_X5 : Cond.instantiable RX5 22 ∈ kT := k_mem 507 (by decide +kernel) rfl
theorem ml_L_12 : Cond.methodLink RL 12 yX5_init ∈ kT := k_mem 508 (by decide +kernel) rfl
theorem im_X5_init : Cond.instanceMethod yX5_init ∈ kT := k_mem 509 (by decide +kernel) rfl
set_option maxRecDepth 40000 in
theorem co_X5_init : Cond.code yX5_init cX5_init 1 none ∈ kT := k_mem 510 rfl rfl
theorem ml_X5_1 : Cond.methodLink RX5 1 objectInit ∈ kT := k_mem 511 (by decide +kernel) rfl
theorem kc_X5_48 : Cond.constant RX5 48 (-680876936) ∈ kT := k_mem 512 (by decide +kernel) rfl
theorem kc_X5_49 : Cond.constant RX5 49 (-389564586) ∈ kT := k_mem 513 (by decide +kernel) rfl
theorem kc_X5_50 : Cond.constant RX5 50 (606105819) ∈ kT := k_mem 514 (by decide +kernel) rfl
theorem kc_X5_51 : Cond.constant RX5 51 (-1044525330) ∈ kT := k_mem 515 (by decide +kernel) rfl
theorem kc_X5_52 : Cond.constant RX5 52 (-176418897) ∈ kT := k_mem 516 (by decide +kernel) rfl
theorem kc_X5_53 : Cond.constant RX5 53 (1200080426) ∈ kT := k_mem 517 (by decide +kernel) rfl
theorem kc_X5_54 : Cond.constant RX5 54 (-1473231341) ∈ kT := k_mem 518 (by decide +kernel) rfl
theorem kc_X5_55 : Cond.constant RX5 55 (-45705983) ∈ kT := k_mem 519 (by decide +kernel) rfl
theorem kc_X5_56 : Cond.constant RX5 56 (1770035416) ∈ kT := k_mem 520 (by decide +kernel) rfl
theorem kc_X5_57 : Cond.constant RX5 57 (-1958414417) ∈ kT := k_mem 521 (by decide +kernel) rfl
theorem kc_X5_58 : Cond.constant RX5 58 (-42063) ∈ kT := k_mem 522 (by decide +kernel) rfl
theorem kc_X5_59 : Cond.constant RX5 59 (-1990404162) ∈ kT := k_mem 523 (by decide +kernel) rfl
theorem kc_X5_60 : Cond.constant RX5 60 (1804603682) ∈ kT := k_mem 524 (by decide +kernel) rfl
theorem kc_X5_61 : Cond.constant RX5 61 (-40341101) ∈ kT := k_mem 525 (by decide +kernel) rfl
theorem kc_X5_62 : Cond.constant RX5 62 (-1502002290) ∈ kT := k_mem 526 (by decide +kernel) rfl
theorem kc_X5_63 : Cond.constant RX5 63 (1236535329) ∈ kT := k_mem 527 (by decide +kernel) rfl
theorem kc_X5_64 : Cond.constant RX5 64 (-165796510) ∈ kT := k_mem 528 (by decide +kernel) rfl
theorem kc_X5_65 : Cond.constant RX5 65 (-1069501632) ∈ kT := k_mem 529 (by decide +kernel) rfl
theorem kc_X5_66 : Cond.constant RX5 66 (643717713) ∈ kT := k_mem 530 (by decide +kernel) rfl
theorem kc_X5_67 : Cond.constant RX5 67 (-373897302) ∈ kT := k_mem 531 (by decide +kernel) rfl
theorem kc_X5_68 : Cond.constant RX5 68 (-701558691) ∈ kT := k_mem 532 (by decide +kernel) rfl
theorem kc_X5_69 : Cond.constant RX5 69 (38016083) ∈ kT := k_mem 533 (by decide +kernel) rfl
theorem kc_X5_70 : Cond.constant RX5 70 (-660478335) ∈ kT := k_mem 534 (by decide +kernel) rfl
theorem kc_X5_71 : Cond.constant RX5 71 (-405537848) ∈ kT := k_mem 535 (by decide +kernel) rfl
theorem kc_X5_72 : Cond.constant RX5 72 (568446438) ∈ kT := k_mem 536 (by decide +kernel) rfl
theorem kc_X5_73 : Cond.constant RX5 73 (-1019803690) ∈ kT := k_mem 537 (by decide +kernel) rfl
theorem kc_X5_74 : Cond.constant RX5 74 (-187363961) ∈ kT := k_mem 538 (by decide +kernel) rfl
theorem kc_X5_75 : Cond.constant RX5 75 (1163531501) ∈ kT := k_mem 539 (by decide +kernel) rfl
theorem kc_X5_76 : Cond.constant RX5 76 (-1444681467) ∈ kT := k_mem 540 (by decide +kernel) rfl
theorem kc_X5_77 : Cond.constant RX5 77 (-51403784) ∈ kT := k_mem 541 (by decide +kernel) rfl
theorem kc_X5_78 : Cond.constant RX5 78 (1735328473) ∈ kT := k_mem 542 (by decide +kernel) rfl
theorem kc_X5_79 : Cond.constant RX5 79 (-1926607734) ∈ kT := k_mem 543 (by decide +kernel) rfl
theorem kc_X5_80 : Cond.constant RX5 80 (-378558) ∈ kT := k_mem 544 (by decide +kernel) rfl
theorem kc_X5_81 : Cond.constant RX5 81 (-2022574463) ∈ kT := k_mem 545 (by decide +kernel) rfl
theorem kc_X5_82 : Cond.constant RX5 82 (1839030562) ∈ kT := k_mem 546 (by decide +kernel) rfl
theorem kc_X5_83 : Cond.constant RX5 83 (-35309556) ∈ kT := k_mem 547 (by decide +kernel) rfl
theorem kc_X5_84 : Cond.constant RX5 84 (-1530992060) ∈ kT := k_mem 548 (by decide +kernel) rfl
theorem kc_X5_85 : Cond.constant RX5 85 (1272893353) ∈ kT := k_mem 549 (by decide +kernel) rfl
theorem kc_X5_86 : Cond.constant RX5 86 (-155497632) ∈ kT := k_mem 550 (by decide +kernel) rfl
theorem kc_X5_87 : Cond.constant RX5 87 (-1094730640) ∈ kT := k_mem 551 (by decide +kernel) rfl
theorem kc_X5_88 : Cond.constant RX5 88 (681279174) ∈ kT := k_mem 552 (by decide +kernel) rfl
theorem kc_X5_89 : Cond.constant RX5 89 (-358537222) ∈ kT := k_mem 553 (by decide +kernel) rfl
theorem kc_X5_90 : Cond.constant RX5 90 (-722521979) ∈ kT := k_mem 554 (by decide +kernel) rfl
theorem kc_X5_91 : Cond.constant RX5 91 (76029189) ∈ kT := k_mem 555 (by decide +kernel) rfl
theorem kc_X5_92 : Cond.constant RX5 92 (-640364487) ∈ kT := k_mem 556 (by decide +kernel) rfl
theorem kc_X5_93 : Cond.constant RX5 93 (-421815835) ∈ kT := k_mem 557 (by decide +kernel) rfl
theorem kc_X5_94 : Cond.constant RX5 94 (530742520) ∈ kT := k_mem 558 (by decide +kernel) rfl
theorem kc_X5_95 : Cond.constant RX5 95 (-995338651) ∈ kT := k_mem 559 (by decide +kernel) rfl
theorem kc_X5_96 : Cond.constant RX5 96 (-198630844) ∈ kT := k_mem 560 (by decide +kernel) rfl
theorem kc_X5_97 : Cond.constant RX5 97 (1126891415) ∈ kT := k_mem 561 (by decide +kernel) rfl
theorem kc_X5_98 : Cond.constant RX5 98 (-1416354905) ∈ kT := k_mem 562 (by decide +kernel) rfl
theorem kc_X5_99 : Cond.constant RX5 99 (-57434055) ∈ kT := k_mem 563 (by decide +kernel) rfl
theorem kc_X5_100 : Cond.constant RX5 100 (1700485571) ∈ kT := k_mem 564 (by decide +kernel) rfl
theorem kc_X5_101 : Cond.constant RX5 101 (-1894986606) ∈ kT := k_mem 565 (by decide +kernel) rfl
theorem kc_X5_102 : Cond.constant RX5 102 (-1051523) ∈ kT := k_mem 566 (by decide +kernel) rfl
theorem kc_X5_103 : Cond.constant RX5 103 (-2054922799) ∈ kT := k_mem 567 (by decide +kernel) rfl
theorem kc_X5_104 : Cond.constant RX5 104 (1873313359) ∈ kT := k_mem 568 (by decide +kernel) rfl
theorem kc_X5_105 : Cond.constant RX5 105 (-30611744) ∈ kT := k_mem 569 (by decide +kernel) rfl
theorem kc_X5_106 : Cond.constant RX5 106 (-1560198380) ∈ kT := k_mem 570 (by decide +kernel) rfl
theorem kc_X5_107 : Cond.constant RX5 107 (1309151649) ∈ kT := k_mem 571 (by decide +kernel) rfl
theorem kc_X5_108 : Cond.constant RX5 108 (-145523070) ∈ kT := k_mem 572 (by decide +kernel) rfl
theorem kc_X5_109 : Cond.constant RX5 109 (-1120210379) ∈ kT := k_mem 573 (by decide +kernel) rfl
theorem kc_X5_110 : Cond.constant RX5 110 (718787259) ∈ kT := k_mem 574 (by decide +kernel) rfl
theorem kc_X5_111 : Cond.constant RX5 111 (-343485551) ∈ kT := k_mem 575 (by decide +kernel) rfl
theorem fl_X5_7 : Cond.fieldLink RX5 7 "DeltaSyncModel" "bytes" "[B" ∈ kT := k_mem 576 (by decide +kernel) rfl
theorem fl_X5_13 : Cond.fieldLink RX5 13 "DeltaSyncModel" "sizes" "[I" ∈ kT := k_mem 577 (by decide +kernel) rfl
theorem fl_X5_17 : Cond.fieldLink RX5 17 "DeltaSyncModel" "delta" "[B" ∈ kT := k_mem 578 (by decide +kernel) rfl
theorem fl_X5_157 : Cond.fieldLink RX5 157 "DeltaSyncModel" "deltaSize" "I" ∈ kT := k_mem 579 (by decide +kernel) rfl
theorem fl_X5_20 : Cond.fieldLink RX5 20 "DeltaSyncModel" "size" "I" ∈ kT := k_mem 580 (by decide +kernel) rfl
theorem fl_X5_24 : Cond.fieldLink RX5 24 "DeltaSyncModel" "width" "I" ∈ kT := k_mem 581 (by decide +kernel) rfl
theorem fl_X5_136 : Cond.fieldLink RX5 136 "DeltaSyncModel" "blocks" "I" ∈ kT := k_mem 582 (by decide +kernel) rfl
theorem fl_X5_27 : Cond.fieldLink RX5 27 "DeltaSyncModel" "signedSize" "I" ∈ kT := k_mem 583 (by decide +kernel) rfl
theorem fl_X5_30 : Cond.fieldLink RX5 30 "DeltaSyncModel" "signedWidth" "I" ∈ kT := k_mem 584 (by decide +kernel) rfl
theorem fl_X5_33 : Cond.fieldLink RX5 33 "DeltaSyncModel" "sums" "[I" ∈ kT := k_mem 585 (by decide +kernel) rfl
theorem fl_X5_36 : Cond.fieldLink RX5 36 "DeltaSyncModel" "digests" "[B" ∈ kT := k_mem 586 (by decide +kernel) rfl
theorem fl_X5_160 : Cond.fieldLink RX5 160 "DeltaSyncModel" "references" "I" ∈ kT := k_mem 587 (by decide +kernel) rfl
theorem fl_X5_163 : Cond.fieldLink RX5 163 "DeltaSyncModel" "literals" "I" ∈ kT := k_mem 588 (by decide +kernel) rfl
theorem fl_X5_166 : Cond.fieldLink RX5 166 "DeltaSyncModel" "rows" "I" ∈ kT := k_mem 589 (by decide +kernel) rfl
theorem fl_X5_154 : Cond.fieldLink RX5 154 "DeltaSyncModel" "alarms" "I" ∈ kT := k_mem 590 (by decide +kernel) rfl
theorem fl_X5_39 : Cond.fieldLink RX5 39 "DeltaSyncModel" "filled" "[B" ∈ kT := k_mem 591 (by decide +kernel) rfl
theorem fl_X5_42 : Cond.fieldLink RX5 42 "DeltaSyncModel" "state" "[I" ∈ kT := k_mem 592 (by decide +kernel) rfl
theorem fl_X5_45 : Cond.fieldLink RX5 45 "DeltaSyncModel" "words" "[I" ∈ kT := k_mem 593 (by decide +kernel) rfl
theorem fl_X5_112 : Cond.fieldLink RX5 112 "DeltaSyncModel" "sines" "[I" ∈ kT := k_mem 594 (by decide +kernel) rfl
theorem fl_X5_115 : Cond.fieldLink RX5 115 "DeltaSyncModel" "turns" "[I" ∈ kT := k_mem 595 (by decide +kernel) rfl
theorem fl_X5_118 : Cond.fieldLink RX5 118 "DeltaSyncModel" "told" "[I" ∈ kT := k_mem 596 (by decide +kernel) rfl
theorem fl_X5_169 : Cond.fieldLink RX5 169 "DeltaSyncModel" "tolds" "I" ∈ kT := k_mem 597 (by decide +kernel) rfl
theorem ml_L_17 : Cond.methodLink RL 17 yX5_feed ∈ kT := k_mem 643 (by decide +kernel) rfl
theorem im_X5_feed : Cond.instanceMethod yX5_feed ∈ kT := k_mem 644 (by decide +kernel) rfl
theorem se_X5_feed : Cond.selects RX5 yX5_feed yX5_feed ∈ kT := k_mem 645 (by decide +kernel) rfl
set_option maxRecDepth 40000 in
theorem co_X5_feed : Cond.code yX5_feed cX5_feed 4 (some .int) ∈ kT := k_mem 646 rfl rfl
theorem ml_X5_121 : Cond.methodLink RX5 121 yX5_isFile ∈ kT := k_mem 647 (by decide +kernel) rfl
theorem sm_X5_isFile : Cond.static yX5_isFile ∈ kT := k_mem 648 (by decide +kernel) rfl
set_option maxRecDepth 40000 in
theorem co_X5_isFile : Cond.code yX5_isFile cX5_isFile 1 (some .boolean) ∈ kT := k_mem 649 rfl rfl
theorem ml_L_22 : Cond.methodLink RL 22 yX5_cut ∈ kT := k_mem 650 (by decide +kernel) rfl
theorem im_X5_cut : Cond.instanceMethod yX5_cut ∈ kT := k_mem 651 (by decide +kernel) rfl
theorem se_X5_cut : Cond.selects RX5 yX5_cut yX5_cut ∈ kT := k_mem 652 (by decide +kernel) rfl
set_option maxRecDepth 40000 in
theorem co_X5_cut : Cond.code yX5_cut cX5_cut 3 (some .boolean) ∈ kT := k_mem 653 rfl rfl
theorem ml_L_27 : Cond.methodLink RL 27 yX5_put ∈ kT := k_mem 654 (by decide +kernel) rfl
theorem im_X5_put : Cond.instanceMethod yX5_put ∈ kT := k_mem 655 (by decide +kernel) rfl
theorem se_X5_put : Cond.selects RX5 yX5_put yX5_put ∈ kT := k_mem 656 (by decide +kernel) rfl
set_option maxRecDepth 40000 in
theorem co_X5_put : Cond.code yX5_put cX5_put 4 (some .boolean) ∈ kT := k_mem 657 rfl rfl
theorem ml_L_31 : Cond.methodLink RL 31 yX5_shape ∈ kT := k_mem 658 (by decide +kernel) rfl
theorem im_X5_shape : Cond.instanceMethod yX5_shape ∈ kT := k_mem 659 (by decide +kernel) rfl
theorem se_X5_shape : Cond.selects RX5 yX5_shape yX5_shape ∈ kT := k_mem 660 (by decide +kernel) rfl
set_option maxRecDepth 40000 in
theorem co_X5_shape : Cond.code yX5_shape cX5_shape 3 (some .boolean) ∈ kT := k_mem 661 rfl rfl
theorem ml_L_36 : Cond.methodLink RL 36 yX5_sign ∈ kT := k_mem 662 (by decide +kernel) rfl
theorem im_X5_sign : Cond.instanceMethod yX5_sign ∈ kT := k_mem 663 (by decide +kernel) rfl
theorem se_X5_sign : Cond.selects RX5 yX5_sign yX5_sign ∈ kT := k_mem 664 (by decide +kernel) rfl
set_option maxRecDepth 40000 in
theorem co_X5_sign : Cond.code yX5_sign cX5_sign 3 (some .int) ∈ kT := k_mem 665 rfl rfl
theorem ml_X5_139 : Cond.methodLink RX5 139 yX5_sumOf ∈ kT := k_mem 666 (by decide +kernel) rfl
theorem im_X5_sumOf : Cond.instanceMethod yX5_sumOf ∈ kT := k_mem 668 (by decide +kernel) rfl
set_option maxRecDepth 40000 in
theorem co_X5_sumOf : Cond.code yX5_sumOf cX5_sumOf 7 (some .int) ∈ kT := k_mem 669 rfl rfl
theorem kc_X5_125 : Cond.constant RX5 125 (65535) ∈ kT := k_mem 670 (by decide +kernel) rfl
theorem ml_X5_143 : Cond.methodLink RX5 143 yX5_digestOf ∈ kT := k_mem 671 (by decide +kernel) rfl
theorem im_X5_digestOf : Cond.instanceMethod yX5_digestOf ∈ kT := k_mem 673 (by decide +kernel) rfl
set_option maxRecDepth 40000 in
theorem co_X5_digestOf : Cond.code yX5_digestOf cX5_digestOf 7 none ∈ kT := k_mem 674 rfl rfl
theorem kc_X5_126 : Cond.constantLong RX5 126 (8) ∈ kT := k_mem 675 (by decide +kernel) rfl
theorem kc_X5_128 : Cond.constant RX5 128 (1732584193) ∈ kT := k_mem 676 (by decide +kernel) rfl
theorem kc_X5_129 : Cond.constant RX5 129 (-271733879) ∈ kT := k_mem 677 (by decide +kernel) rfl
theorem kc_X5_130 : Cond.constant RX5 130 (-1732584194) ∈ kT := k_mem 678 (by decide +kernel) rfl
theorem kc_X5_131 : Cond.constant RX5 131 (271733878) ∈ kT := k_mem 679 (by decide +kernel) rfl
theorem ml_X5_132 : Cond.methodLink RX5 132 yX5_mix ∈ kT := k_mem 680 (by decide +kernel) rfl
theorem im_X5_mix : Cond.instanceMethod yX5_mix ∈ kT := k_mem 682 (by decide +kernel) rfl
set_option maxRecDepth 40000 in
theorem co_X5_mix : Cond.code yX5_mix cX5_mix 12 none ∈ kT := k_mem 683 rfl rfl
theorem ml_X5_147 : Cond.methodLink RX5 147 yX5_digestByte ∈ kT := k_mem 684 (by decide +kernel) rfl
theorem im_X5_digestByte : Cond.instanceMethod yX5_digestByte ∈ kT := k_mem 686 (by decide +kernel) rfl
set_option maxRecDepth 40000 in
theorem co_X5_digestByte : Cond.code yX5_digestByte cX5_digestByte 2 (some .int) ∈ kT := k_mem 687 rfl rfl
theorem ml_L_41 : Cond.methodLink RL 41 yX5_sum ∈ kT := k_mem 688 (by decide +kernel) rfl
theorem im_X5_sum : Cond.instanceMethod yX5_sum ∈ kT := k_mem 689 (by decide +kernel) rfl
theorem se_X5_sum : Cond.selects RX5 yX5_sum yX5_sum ∈ kT := k_mem 690 (by decide +kernel) rfl
set_option maxRecDepth 40000 in
theorem co_X5_sum : Cond.code yX5_sum cX5_sum 2 (some .int) ∈ kT := k_mem 691 rfl rfl
theorem ml_L_45 : Cond.methodLink RL 45 yX5_digest ∈ kT := k_mem 692 (by decide +kernel) rfl
theorem im_X5_digest : Cond.instanceMethod yX5_digest ∈ kT := k_mem 693 (by decide +kernel) rfl
theorem se_X5_digest : Cond.selects RX5 yX5_digest yX5_digest ∈ kT := k_mem 694 (by decide +kernel) rfl
set_option maxRecDepth 40000 in
theorem co_X5_digest : Cond.code yX5_digest cX5_digest 3 (some .int) ∈ kT := k_mem 695 rfl rfl
theorem ml_L_49 : Cond.methodLink RL 49 yX5_delta ∈ kT := k_mem 696 (by decide +kernel) rfl
theorem im_X5_delta : Cond.instanceMethod yX5_delta ∈ kT := k_mem 697 (by decide +kernel) rfl
theorem se_X5_delta : Cond.selects RX5 yX5_delta yX5_delta ∈ kT := k_mem 698 (by decide +kernel) rfl
set_option maxRecDepth 40000 in
theorem co_X5_delta : Cond.code yX5_delta cX5_delta 7 (some .int) ∈ kT := k_mem 699 rfl rfl
theorem ml_X5_172 : Cond.methodLink RX5 172 yX5_blockAt ∈ kT := k_mem 700 (by decide +kernel) rfl
theorem im_X5_blockAt : Cond.instanceMethod yX5_blockAt ∈ kT := k_mem 702 (by decide +kernel) rfl
set_option maxRecDepth 40000 in
theorem co_X5_blockAt : Cond.code yX5_blockAt cX5_blockAt 7 (some .int) ∈ kT := k_mem 703 rfl rfl
theorem ml_X5_151 : Cond.methodLink RX5 151 yX5_isDigest ∈ kT := k_mem 704 (by decide +kernel) rfl
theorem im_X5_isDigest : Cond.instanceMethod yX5_isDigest ∈ kT := k_mem 706 (by decide +kernel) rfl
set_option maxRecDepth 40000 in
theorem co_X5_isDigest : Cond.code yX5_isDigest cX5_isDigest 4 (some .boolean) ∈ kT := k_mem 707 rfl rfl
theorem ml_X5_175 : Cond.methodLink RX5 175 yX5_add ∈ kT := k_mem 708 (by decide +kernel) rfl
theorem im_X5_add : Cond.instanceMethod yX5_add ∈ kT := k_mem 710 (by decide +kernel) rfl
set_option maxRecDepth 40000 in
theorem co_X5_add : Cond.code yX5_add cX5_add 2 none ∈ kT := k_mem 711 rfl rfl
theorem ml_L_53 : Cond.methodLink RL 53 yX5_apply ∈ kT := k_mem 712 (by decide +kernel) rfl
theorem im_X5_apply : Cond.instanceMethod yX5_apply ∈ kT := k_mem 713 (by decide +kernel) rfl
theorem se_X5_apply : Cond.selects RX5 yX5_apply yX5_apply ∈ kT := k_mem 714 (by decide +kernel) rfl
set_option maxRecDepth 40000 in
theorem co_X5_apply : Cond.code yX5_apply cX5_apply 10 (some .int) ∈ kT := k_mem 715 rfl rfl
theorem ml_L_57 : Cond.methodLink RL 57 yX5_at ∈ kT := k_mem 716 (by decide +kernel) rfl
theorem im_X5_at : Cond.instanceMethod yX5_at ∈ kT := k_mem 717 (by decide +kernel) rfl
theorem se_X5_at : Cond.selects RX5 yX5_at yX5_at ∈ kT := k_mem 718 (by decide +kernel) rfl
set_option maxRecDepth 40000 in
theorem co_X5_at : Cond.code yX5_at cX5_at 3 (some .int) ∈ kT := k_mem 719 rfl rfl
theorem ml_X5_178 : Cond.methodLink RX5 178 yX5_size ∈ kT := k_mem 720 (by decide +kernel) rfl
theorem im_X5_size : Cond.instanceMethod yX5_size ∈ kT := k_mem 721 (by decide +kernel) rfl
theorem se_X5_size : Cond.selects RX5 yX5_size yX5_size ∈ kT := k_mem 722 (by decide +kernel) rfl
set_option maxRecDepth 40000 in
theorem co_X5_size : Cond.code yX5_size cX5_size 2 (some .int) ∈ kT := k_mem 723 rfl rfl
theorem ml_L_61 : Cond.methodLink RL 61 yX5_size ∈ kT := k_mem 724 (by decide +kernel) rfl
theorem ml_L_65 : Cond.methodLink RL 65 yX5_change ∈ kT := k_mem 725 (by decide +kernel) rfl
theorem im_X5_change : Cond.instanceMethod yX5_change ∈ kT := k_mem 726 (by decide +kernel) rfl
theorem se_X5_change : Cond.selects RX5 yX5_change yX5_change ∈ kT := k_mem 727 (by decide +kernel) rfl
set_option maxRecDepth 40000 in
theorem co_X5_change : Cond.code yX5_change cX5_change 3 (some .boolean) ∈ kT := k_mem 728 rfl rfl
theorem ml_L_70 : Cond.methodLink RL 70 yX5_push ∈ kT := k_mem 729 (by decide +kernel) rfl
theorem im_X5_push : Cond.instanceMethod yX5_push ∈ kT := k_mem 730 (by decide +kernel) rfl
theorem se_X5_push : Cond.selects RX5 yX5_push yX5_push ∈ kT := k_mem 731 (by decide +kernel) rfl
set_option maxRecDepth 40000 in
theorem co_X5_push : Cond.code yX5_push cX5_push 2 (some .boolean) ∈ kT := k_mem 732 rfl rfl
theorem ml_L_74 : Cond.methodLink RL 74 yX5_keep ∈ kT := k_mem 733 (by decide +kernel) rfl
theorem im_X5_keep : Cond.instanceMethod yX5_keep ∈ kT := k_mem 734 (by decide +kernel) rfl
theorem se_X5_keep : Cond.selects RX5 yX5_keep yX5_keep ∈ kT := k_mem 735 (by decide +kernel) rfl
set_option maxRecDepth 40000 in
theorem co_X5_keep : Cond.code yX5_keep cX5_keep 2 (some .boolean) ∈ kT := k_mem 736 rfl rfl
theorem ml_L_79 : Cond.methodLink RL 79 yX5_sumAt ∈ kT := k_mem 737 (by decide +kernel) rfl
theorem im_X5_sumAt : Cond.instanceMethod yX5_sumAt ∈ kT := k_mem 738 (by decide +kernel) rfl
theorem se_X5_sumAt : Cond.selects RX5 yX5_sumAt yX5_sumAt ∈ kT := k_mem 739 (by decide +kernel) rfl
set_option maxRecDepth 40000 in
theorem co_X5_sumAt : Cond.code yX5_sumAt cX5_sumAt 4 (some .int) ∈ kT := k_mem 740 rfl rfl
theorem ml_L_83 : Cond.methodLink RL 83 yX5_md5 ∈ kT := k_mem 741 (by decide +kernel) rfl
theorem im_X5_md5 : Cond.instanceMethod yX5_md5 ∈ kT := k_mem 742 (by decide +kernel) rfl
theorem se_X5_md5 : Cond.selects RX5 yX5_md5 yX5_md5 ∈ kT := k_mem 743 (by decide +kernel) rfl
set_option maxRecDepth 40000 in
theorem co_X5_md5 : Cond.code yX5_md5 cX5_md5 3 (some .int) ∈ kT := k_mem 744 rfl rfl
theorem ml_L_88 : Cond.methodLink RL 88 yX5_same ∈ kT := k_mem 745 (by decide +kernel) rfl
theorem im_X5_same : Cond.instanceMethod yX5_same ∈ kT := k_mem 746 (by decide +kernel) rfl
theorem se_X5_same : Cond.selects RX5 yX5_same yX5_same ∈ kT := k_mem 747 (by decide +kernel) rfl
set_option maxRecDepth 40000 in
theorem co_X5_same : Cond.code yX5_same cX5_same 3 (some .boolean) ∈ kT := k_mem 748 rfl rfl
theorem ml_L_92 : Cond.methodLink RL 92 yX5_count ∈ kT := k_mem 749 (by decide +kernel) rfl
theorem im_X5_count : Cond.instanceMethod yX5_count ∈ kT := k_mem 750 (by decide +kernel) rfl
theorem se_X5_count : Cond.selects RX5 yX5_count yX5_count ∈ kT := k_mem 751 (by decide +kernel) rfl
set_option maxRecDepth 40000 in
theorem co_X5_count : Cond.code yX5_count cX5_count 2 (some .int) ∈ kT := k_mem 752 rfl rfl
theorem se_X3_startAnew : Cond.selects RX3 yX3_startAnew yX3_startAnew ∈ kT := k_mem 0 (by decide +kernel) rfl
theorem se_X4_fileOf : Cond.selects RX4 yX4_fileOf yX4_fileOf ∈ kT := k_mem 1 (by decide +kernel) rfl
theorem se_X4_rowOf : Cond.selects RX4 yX4_rowOf yX4_rowOf ∈ kT := k_mem 2 (by decide +kernel) rfl
theorem se_X1_makeCells : Cond.selects RX1 yX1_makeCells yX1_makeCells ∈ kT := k_mem 3 (by decide +kernel) rfl
theorem se_X2_makeRoom : Cond.selects RX2 yX2_makeRoom yX2_makeRoom ∈ kT := k_mem 4 (by decide +kernel) rfl
theorem se_X0_fillWords : Cond.selects RX0 yX0_fillWords yX0_fillWords ∈ kT := k_mem 5 (by decide +kernel) rfl
theorem se_X0_mixWords : Cond.selects RX0 yX0_mixWords yX0_mixWords ∈ kT := k_mem 6 (by decide +kernel) rfl
theorem se_X2_chainBlocks : Cond.selects RX2 yX2_chainBlocks yX2_chainBlocks ∈ kT := k_mem 7 (by decide +kernel) rfl
theorem se_X2_has : Cond.selects RX2 yX2_has yX2_has ∈ kT := k_mem 8 (by decide +kernel) rfl
theorem se_X3_blockFor : Cond.selects RX3 yX3_blockFor yX3_blockFor ∈ kT := k_mem 9 (by decide +kernel) rfl
theorem se_X2_firstInChain : Cond.selects RX2 yX2_firstInChain yX2_firstInChain ∈ kT := k_mem 10 (by decide +kernel) rfl
theorem se_X2_hasDigest : Cond.selects RX2 yX2_hasDigest yX2_hasDigest ∈ kT := k_mem 11 (by decide +kernel) rfl
theorem se_X3_writeLiteral : Cond.selects RX3 yX3_writeLiteral yX3_writeLiteral ∈ kT := k_mem 12 (by decide +kernel) rfl
theorem se_X3_growRow : Cond.selects RX3 yX3_growRow yX3_growRow ∈ kT := k_mem 13 (by decide +kernel) rfl
theorem se_X3_openRow : Cond.selects RX3 yX3_openRow yX3_openRow ∈ kT := k_mem 14 (by decide +kernel) rfl
theorem se_X3_rolled : Cond.selects RX3 yX3_rolled yX3_rolled ∈ kT := k_mem 15 (by decide +kernel) rfl
theorem se_X3_writeReference : Cond.selects RX3 yX3_writeReference yX3_writeReference ∈ kT := k_mem 16 (by decide +kernel) rfl
theorem se_X4_allRowsApplied : Cond.selects RX4 yX4_allRowsApplied yX4_allRowsApplied ∈ kT := k_mem 17 (by decide +kernel) rfl
theorem se_X4_applyRow : Cond.selects RX4 yX4_applyRow yX4_applyRow ∈ kT := k_mem 18 (by decide +kernel) rfl
theorem se_X4_applyLiterals : Cond.selects RX4 yX4_applyLiterals yX4_applyLiterals ∈ kT := k_mem 19 (by decide +kernel) rfl
theorem se_X4_applyReferences : Cond.selects RX4 yX4_applyReferences yX4_applyReferences ∈ kT := k_mem 20 (by decide +kernel) rfl
theorem se_X5_sumOf : Cond.selects RX5 yX5_sumOf yX5_sumOf ∈ kT := k_mem 21 (by decide +kernel) rfl
theorem se_X5_digestOf : Cond.selects RX5 yX5_digestOf yX5_digestOf ∈ kT := k_mem 22 (by decide +kernel) rfl
theorem se_X5_mix : Cond.selects RX5 yX5_mix yX5_mix ∈ kT := k_mem 23 (by decide +kernel) rfl
theorem se_X5_digestByte : Cond.selects RX5 yX5_digestByte yX5_digestByte ∈ kT := k_mem 24 (by decide +kernel) rfl
theorem se_X5_blockAt : Cond.selects RX5 yX5_blockAt yX5_blockAt ∈ kT := k_mem 25 (by decide +kernel) rfl
theorem se_X5_isDigest : Cond.selects RX5 yX5_isDigest yX5_isDigest ∈ kT := k_mem 26 (by decide +kernel) rfl
theorem se_X5_add : Cond.selects RX5 yX5_add yX5_add ∈ kT := k_mem 27 (by decide +kernel) rfl
theorem in_X0 : ∀ w ∈ u_ws RX0 TX0 2, w ∈ kT := fun w hw => List.mem_filter.mpr (show w ∈ lw_tbl ∧ goodWord w = true from (by decide +kernel : ∀ w ∈ u_ws RX0 TX0 2, w ∈ lw_tbl ∧ goodWord w = true) w hw)
theorem in_X1 : ∀ w ∈ u_ws RX1 TX1 3, w ∈ kT := fun w hw => List.mem_filter.mpr (show w ∈ lw_tbl ∧ goodWord w = true from (by decide +kernel : ∀ w ∈ u_ws RX1 TX1 3, w ∈ lw_tbl ∧ goodWord w = true) w hw)
theorem in_X2 : ∀ w ∈ u_ws RX2 TX2 7, w ∈ kT := fun w hw => List.mem_filter.mpr (show w ∈ lw_tbl ∧ goodWord w = true from (by decide +kernel : ∀ w ∈ u_ws RX2 TX2 7, w ∈ lw_tbl ∧ goodWord w = true) w hw)
theorem in_X3 : ∀ w ∈ u_ws RX3 TX3 11, w ∈ kT := fun w hw => List.mem_filter.mpr (show w ∈ lw_tbl ∧ goodWord w = true from (by decide +kernel : ∀ w ∈ u_ws RX3 TX3 11, w ∈ lw_tbl ∧ goodWord w = true) w hw)
theorem in_X4 : ∀ w ∈ u_ws RX4 TX4 9, w ∈ kT := fun w hw => List.mem_filter.mpr (show w ∈ lw_tbl ∧ goodWord w = true from (by decide +kernel : ∀ w ∈ u_ws RX4 TX4 9, w ∈ lw_tbl ∧ goodWord w = true) w hw)
theorem in_X5 : ∀ w ∈ u_ws RX5 TX5 22, w ∈ kT := fun w hw => List.mem_filter.mpr (show w ∈ lw_tbl ∧ goodWord w = true from (by decide +kernel : ∀ w ∈ u_ws RX5 TX5 22, w ∈ lw_tbl ∧ goodWord w = true) w hw)
end
section
section KK2
variable {p : Program} {l : Launch} {e : Env} {R : Room} {s : State} {m : MethodId} {args : Array Value} {below : List Frame} {meth : Method} {c : Code} {cc : ByteArray} {nL : Nat} {own : String} {D : va_G} {cI cB : ClassId} {A : Nat → Prop} {Q : State → Prop} {cells slots pc : Nat} {ws : va_W} {lv : List (Nat × Value)} {st : List Value}
def kTab (A : Nat → Prop) (s : State) (t N : Nat) (f : Nat → Int32) : Prop := va_T .int t N (fun j => .int (f j)) A s s.heap
theorem k_gsin (X : kX p s m args meth c cc nL own D cI cB A) {index : Nat} (hw : Cond.fieldLink own index "DeltaSync$Md5" "SINES" "[I" ∈ kT) (hdg : decode cc pc = .ok (.getstatic index, 3))
    (kk : ∀ t : Nat, kTab A s t 64 kSin → kW p l e R s m args below meth c nL D A Q (cells) (slots) (ws) (pc + 3) (lv) (.ref t :: st)) : kW p l e R s m args below meth c nL D A Q (cells) (slots) (ws) (pc) (lv) (st) := by
  intro H locs ls hP hD hS hl
  obtain ⟨t1, t2, h1, h2, h3, h4⟩ := X.2.2.2.2.2.2.1
  exact va_gets X.1 X.2.1 h1 hS X.2.2.2.1 (X.2.2.2.2.1 _ hw) (fun _ h => h) hdg (kk t1 h2 H locs ls hP hD hS hl)
theorem k_gtrn (X : kX p s m args meth c cc nL own D cI cB A) {index : Nat} (hw : Cond.fieldLink own index "DeltaSync$Md5" "TURNS" "[I" ∈ kT) (hdg : decode cc pc = .ok (.getstatic index, 3))
    (kk : ∀ t : Nat, kTab A s t 16 kTrn → kW p l e R s m args below meth c nL D A Q (cells) (slots) (ws) (pc + 3) (lv) (.ref t :: st)) : kW p l e R s m args below meth c nL D A Q (cells) (slots) (ws) (pc) (lv) (st) := by
  intro H locs ls hP hD hS hl
  obtain ⟨t1, t2, h1, h2, h3, h4⟩ := X.2.2.2.2.2.2.1
  exact va_gets X.1 X.2.1 h3 hS X.2.2.2.1 (X.2.2.2.2.1 _ hw) (fun _ h => h) hdg (kk t2 h4 H locs ls hP hD hS hl)
theorem k_tld (X : kX p s m args meth c cc nL own D cI cB A) {t N : Nat} {f : Nat → Int32} {i v : Int32} (hT : kTab A s t N f) (hi : vp_in i N) (hv : f i.toNatClampNeg = v) (hdg : decode cc pc = .ok (.iaload, 1))
    (kk : kW p l e R s m args below meth c nL D A Q (cells) (slots) (ws) (pc + 1) (lv) (.int v :: st)) : kW p l e R s m args below meth c nL D A Q (cells) (slots) (ws) (pc) (lv) (.int i :: .ref t :: st) := fun H locs ls hP hD hS hl => va_ti X.1 X.2.1 hT hS hi (by show Value.int (f i.toNatClampNeg) = _; rw [hv]) hdg (kk H locs ls hP hD hS hl)
theorem k_tableIn (X : kX p s m args meth c cc nL own D cI cB A) {dflt lo hi : Int} {offs : Array Int} {len : Nat} {x : Int32} {off : Int} {tgt : Nat} (hdg : decode cc pc = .ok (.tableswitch dflt lo hi offs, len)) (h1 : ¬ x.toInt < lo) (h2 : ¬ hi < x.toInt) (ho : offs[(x.toInt - lo).toNat]? = some off) (ht : (pc : Int) + off = (tgt : Int))
    (kk : kW p l e R s m args below meth c nL D A Q (cells) (slots) (ws) (tgt) (lv) (st)) : kW p l e R s m args below meth c nL D A Q (cells) (slots) (ws) (pc) (lv) (.int x :: st) := fun H locs ls hP hD hS hl => lv_tableIn X.1 X.2.1 hdg h1 h2 ho ht (kk H locs ls hP hD hS hl)
theorem k_tableOut (X : kX p s m args meth c cc nL own D cI cB A) {dflt lo hi : Int} {offs : Array Int} {len : Nat} {x : Int32} {tgt : Nat} (hdg : decode cc pc = .ok (.tableswitch dflt lo hi offs, len)) (h : x.toInt < lo ∨ hi < x.toInt) (ht : (pc : Int) + dflt = (tgt : Int))
    (kk : kW p l e R s m args below meth c nL D A Q (cells) (slots) (ws) (tgt) (lv) (st)) : kW p l e R s m args below meth c nL D A Q (cells) (slots) (ws) (pc) (lv) (.int x :: st) := fun H locs ls hP hD hS hl => lv_tableOut X.1 X.2.1 hdg h ht (kk H locs ls hP hD hS hl)
theorem k_lookup (X : kX p s m args meth c cc nL own D cI cB A) {dflt : Int} {ps : Array (Int × Int)} {len : Nat} {x : Int32} {off : Int} {tgt : Nat} (hdg : decode cc pc = .ok (.lookupswitch dflt ps, len)) (hp : (ps.toList.zip (ps.toList.drop 1)).all (fun (a, next) => a.1 < next.1) = true) (ho : Op.lookupswitch.offset ps.toList dflt x.toInt = off) (ht : (pc : Int) + off = (tgt : Int))
    (kk : kW p l e R s m args below meth c nL D A Q (cells) (slots) (ws) (tgt) (lv) (st)) : kW p l e R s m args below meth c nL D A Q (cells) (slots) (ws) (pc) (lv) (.int x :: st) := fun H locs ls hP hD hS hl => lv_lookup X.1 X.2.1 hdg hp ho ht (kk H locs ls hP hD hS hl)
theorem k_aconst_null (X : kX p s m args meth c cc nL own D cI cB A) (hdg : decode cc pc = .ok (.aconst_null, 1))
    (kk : kW p l e R s m args below meth c nL D A Q (cells) (slots) (ws) (pc + 1) (lv) (.null :: st)) : kW p l e R s m args below meth c nL D A Q (cells) (slots) (ws) (pc) (lv) (st) := fun H locs ls hP hD hS hl => lv_null X.1 X.2.1 hdg (kk H locs ls hP hD hS hl)
theorem k_ifnullN (X : kX p s m args meth c cc nL own D cI cB A) {off : Int} {tgt : Nat} (hdg : decode cc pc = .ok (.ifnull off, 3)) (ht : (pc : Int) + off = (tgt : Int))
    (kk : kW p l e R s m args below meth c nL D A Q (cells) (slots) (ws) (tgt) (lv) (st)) : kW p l e R s m args below meth c nL D A Q (cells) (slots) (ws) (pc) (lv) (.null :: st) := fun H locs ls hP hD hS hl => lv_ifnullN X.1 X.2.1 hdg ht (kk H locs ls hP hD hS hl)
theorem k_ifnonnullN (X : kX p s m args meth c cc nL own D cI cB A) {off : Int} (hdg : decode cc pc = .ok (.ifnonnull off, 3))
    (kk : kW p l e R s m args below meth c nL D A Q (cells) (slots) (ws) (pc + 3) (lv) (st)) : kW p l e R s m args below meth c nL D A Q (cells) (slots) (ws) (pc) (lv) (.null :: st) := fun H locs ls hP hD hS hl => lv_ifnonnullN X.1 X.2.1 hdg (kk H locs ls hP hD hS hl)
theorem k_copy (X : kX p s m args meth c cc nL own D cI cB A) {index a a0 n0 n1 : Nat} (q0 q1 : Nat) {f g f' : Nat → Int32} {sp dp n : Int32} {ws' : va_W} (hw : Cond.methodLink own index arraycopyName ∈ kT) (hw2 : Cond.native arraycopyName ∈ kT) (hw3 : Cond.static arraycopyName ∈ kT) (hw4 : Cond.initialized "java/lang/System" ∈ kT) (ha0 : ws[q0]? = some (a0, .inl (cI, n0, .inl f))) (ha1 : ws[q1]? = some (a, .inl (cI, n1, .inl g))) (h1 : ¬ sp < 0) (h2 : ¬ dp < 0) (h3 : ¬ n < 0) (h4 : sp.toNatClampNeg + n.toNatClampNeg ≤ n0) (h5 : dp.toNatClampNeg + n.toNatClampNeg ≤ n1) (hf : va_cpy f g sp.toNatClampNeg dp.toNatClampNeg n.toNatClampNeg = f') (hws : ws.set q1 (a, .inl (cI, n1, .inl f')) = ws') (hfr : 1 ≤ R.frames) (hlo : (st.map fun v => v.category).sum + (nativeFrameWords "java/lang/System" "arraycopy" 5 + 11) ≤ R.locals) (hdg : decode cc pc = .ok (.invokestatic index, 3))
    (kk : kW p l e R s m args below meth c nL D A Q (cells) (slots) (ws') (pc + 3) (lv) (st)) : kW p l e R s m args below meth c nL D A Q (cells) (slots) (ws) (pc) (lv) (.int n :: .int dp :: .ref a :: .int sp :: .ref a0 :: st) := fun H locs ls hP hD hS hl => va_copyi (ty := .int) X.1 X.2.1 (by rw [X.2.2.1]; exact hl.1.symm) X.2.2.2.1 (X.2.2.2.2.1 _ hw) (X.2.2.2.2.1 _ hw2) (X.2.2.2.2.1 _ hw3) (X.2.2.2.2.1 _ hw4) X.2.2.2.2.2.1 hP hD hS q0 q1 0 0 ha0 ha1 rfl rfl rfl h1 h2 h3 h4 h5 (fun _ _ => rfl) hfr hlo hdg (fun H1 locs1 hP1 hD1 hS1 => kk H1 locs1 ls (hws ▸ hf ▸ hP1) (hws ▸ hf ▸ hD1) hS1 hl)
theorem k_join0  (pc1 : Nat) (cl sl : Nat) (wsf : va_W) (lvf : List (Nat × Value)) (stf : List Value) (I : Prop) (kk : I → kW p l e R s m args below meth c nL D A Q cl sl wsf pc1 lvf stf) (k : (I → kW p l e R s m args below meth c nL D A Q cl sl wsf pc1 lvf stf) → kW p l e R s m args below meth c nL D A Q (cells) (slots) (ws) (pc) (lv) (st)) : kW p l e R s m args below meth c nL D A Q (cells) (slots) (ws) (pc) (lv) (st) := k kk
theorem k_join1 {T0 : Type} (pc1 : Nat) (cl sl : T0 → Nat) (wsf : T0 → va_W) (lvf : T0 → List (Nat × Value)) (stf : T0 → List Value) (I : T0 → Prop) (kk : ∀ (a0 : T0), (I a0) → kW p l e R s m args below meth c nL D A Q (cl a0) (sl a0) (wsf a0) pc1 (lvf a0) (stf a0)) (k : (∀ (a0 : T0), (I a0) → kW p l e R s m args below meth c nL D A Q (cl a0) (sl a0) (wsf a0) pc1 (lvf a0) (stf a0)) → kW p l e R s m args below meth c nL D A Q (cells) (slots) (ws) (pc) (lv) (st)) : kW p l e R s m args below meth c nL D A Q (cells) (slots) (ws) (pc) (lv) (st) := k kk
theorem k_loop1 {T0 : Type} (pc1 : Nat) (cl sl : T0 → Nat) (wsf : T0 → va_W) (lvf : T0 → List (Nat × Value)) (stf : T0 → List Value) (I : T0 → Prop) (mu : T0 → Nat) (body : ∀ (a0 : T0), (I a0) → (∀ (b0 : T0), (I b0) → (mu b0) < (mu a0) → kW p l e R s m args below meth c nL D A Q (cl b0) (sl b0) (wsf b0) pc1 (lvf b0) (stf b0)) → kW p l e R s m args below meth c nL D A Q (cl a0) (sl a0) (wsf a0) pc1 (lvf a0) (stf a0)) : ∀ (i0 : T0), (I i0) → kW p l e R s m args below meth c nL D A Q (cl i0) (sl i0) (wsf i0) pc1 (lvf i0) (stf i0) := by
  have key : ∀ (n : Nat), ∀ (a0 : T0), (mu a0) < n → (I a0) → kW p l e R s m args below meth c nL D A Q (cl a0) (sl a0) (wsf a0) pc1 (lvf a0) (stf a0) := by
    intro n
    induction n with
    | zero => intro a0 h; exact absurd h (Nat.not_lt_zero _)
    | succ n ih => intro a0 h hI; exact body a0 hI (fun b0 hb hlt => ih b0 (Nat.lt_of_lt_of_le hlt (Nat.le_of_lt_succ h)) hb)
  intro i0 h
  exact key _ i0 (Nat.lt_succ_self _) h
theorem k_join2 {T0 : Type} {T1 : Type} (pc1 : Nat) (cl sl : T0 → T1 → Nat) (wsf : T0 → T1 → va_W) (lvf : T0 → T1 → List (Nat × Value)) (stf : T0 → T1 → List Value) (I : T0 → T1 → Prop) (kk : ∀ (a0 : T0) (a1 : T1), (I a0 a1) → kW p l e R s m args below meth c nL D A Q (cl a0 a1) (sl a0 a1) (wsf a0 a1) pc1 (lvf a0 a1) (stf a0 a1)) (k : (∀ (a0 : T0) (a1 : T1), (I a0 a1) → kW p l e R s m args below meth c nL D A Q (cl a0 a1) (sl a0 a1) (wsf a0 a1) pc1 (lvf a0 a1) (stf a0 a1)) → kW p l e R s m args below meth c nL D A Q (cells) (slots) (ws) (pc) (lv) (st)) : kW p l e R s m args below meth c nL D A Q (cells) (slots) (ws) (pc) (lv) (st) := k kk
theorem k_loop2 {T0 : Type} {T1 : Type} (pc1 : Nat) (cl sl : T0 → T1 → Nat) (wsf : T0 → T1 → va_W) (lvf : T0 → T1 → List (Nat × Value)) (stf : T0 → T1 → List Value) (I : T0 → T1 → Prop) (mu : T0 → T1 → Nat) (body : ∀ (a0 : T0) (a1 : T1), (I a0 a1) → (∀ (b0 : T0) (b1 : T1), (I b0 b1) → (mu b0 b1) < (mu a0 a1) → kW p l e R s m args below meth c nL D A Q (cl b0 b1) (sl b0 b1) (wsf b0 b1) pc1 (lvf b0 b1) (stf b0 b1)) → kW p l e R s m args below meth c nL D A Q (cl a0 a1) (sl a0 a1) (wsf a0 a1) pc1 (lvf a0 a1) (stf a0 a1)) : ∀ (i0 : T0) (i1 : T1), (I i0 i1) → kW p l e R s m args below meth c nL D A Q (cl i0 i1) (sl i0 i1) (wsf i0 i1) pc1 (lvf i0 i1) (stf i0 i1) := by
  have key : ∀ (n : Nat), ∀ (a0 : T0) (a1 : T1), (mu a0 a1) < n → (I a0 a1) → kW p l e R s m args below meth c nL D A Q (cl a0 a1) (sl a0 a1) (wsf a0 a1) pc1 (lvf a0 a1) (stf a0 a1) := by
    intro n
    induction n with
    | zero => intro a0 a1 h; exact absurd h (Nat.not_lt_zero _)
    | succ n ih => intro a0 a1 h hI; exact body a0 a1 hI (fun b0 b1 hb hlt => ih b0 b1 (Nat.lt_of_lt_of_le hlt (Nat.le_of_lt_succ h)) hb)
  intro i0 i1 h
  exact key _ i0 i1 (Nat.lt_succ_self _) h
theorem k_join3 {T0 : Type} {T1 : Type} {T2 : Type} (pc1 : Nat) (cl sl : T0 → T1 → T2 → Nat) (wsf : T0 → T1 → T2 → va_W) (lvf : T0 → T1 → T2 → List (Nat × Value)) (stf : T0 → T1 → T2 → List Value) (I : T0 → T1 → T2 → Prop) (kk : ∀ (a0 : T0) (a1 : T1) (a2 : T2), (I a0 a1 a2) → kW p l e R s m args below meth c nL D A Q (cl a0 a1 a2) (sl a0 a1 a2) (wsf a0 a1 a2) pc1 (lvf a0 a1 a2) (stf a0 a1 a2)) (k : (∀ (a0 : T0) (a1 : T1) (a2 : T2), (I a0 a1 a2) → kW p l e R s m args below meth c nL D A Q (cl a0 a1 a2) (sl a0 a1 a2) (wsf a0 a1 a2) pc1 (lvf a0 a1 a2) (stf a0 a1 a2)) → kW p l e R s m args below meth c nL D A Q (cells) (slots) (ws) (pc) (lv) (st)) : kW p l e R s m args below meth c nL D A Q (cells) (slots) (ws) (pc) (lv) (st) := k kk
theorem k_loop3 {T0 : Type} {T1 : Type} {T2 : Type} (pc1 : Nat) (cl sl : T0 → T1 → T2 → Nat) (wsf : T0 → T1 → T2 → va_W) (lvf : T0 → T1 → T2 → List (Nat × Value)) (stf : T0 → T1 → T2 → List Value) (I : T0 → T1 → T2 → Prop) (mu : T0 → T1 → T2 → Nat) (body : ∀ (a0 : T0) (a1 : T1) (a2 : T2), (I a0 a1 a2) → (∀ (b0 : T0) (b1 : T1) (b2 : T2), (I b0 b1 b2) → (mu b0 b1 b2) < (mu a0 a1 a2) → kW p l e R s m args below meth c nL D A Q (cl b0 b1 b2) (sl b0 b1 b2) (wsf b0 b1 b2) pc1 (lvf b0 b1 b2) (stf b0 b1 b2)) → kW p l e R s m args below meth c nL D A Q (cl a0 a1 a2) (sl a0 a1 a2) (wsf a0 a1 a2) pc1 (lvf a0 a1 a2) (stf a0 a1 a2)) : ∀ (i0 : T0) (i1 : T1) (i2 : T2), (I i0 i1 i2) → kW p l e R s m args below meth c nL D A Q (cl i0 i1 i2) (sl i0 i1 i2) (wsf i0 i1 i2) pc1 (lvf i0 i1 i2) (stf i0 i1 i2) := by
  have key : ∀ (n : Nat), ∀ (a0 : T0) (a1 : T1) (a2 : T2), (mu a0 a1 a2) < n → (I a0 a1 a2) → kW p l e R s m args below meth c nL D A Q (cl a0 a1 a2) (sl a0 a1 a2) (wsf a0 a1 a2) pc1 (lvf a0 a1 a2) (stf a0 a1 a2) := by
    intro n
    induction n with
    | zero => intro a0 a1 a2 h; exact absurd h (Nat.not_lt_zero _)
    | succ n ih => intro a0 a1 a2 h hI; exact body a0 a1 a2 hI (fun b0 b1 b2 hb hlt => ih b0 b1 b2 (Nat.lt_of_lt_of_le hlt (Nat.le_of_lt_succ h)) hb)
  intro i0 i1 i2 h
  exact key _ i0 i1 i2 (Nat.lt_succ_self _) h
theorem k_join4 {T0 : Type} {T1 : Type} {T2 : Type} {T3 : Type} (pc1 : Nat) (cl sl : T0 → T1 → T2 → T3 → Nat) (wsf : T0 → T1 → T2 → T3 → va_W) (lvf : T0 → T1 → T2 → T3 → List (Nat × Value)) (stf : T0 → T1 → T2 → T3 → List Value) (I : T0 → T1 → T2 → T3 → Prop) (kk : ∀ (a0 : T0) (a1 : T1) (a2 : T2) (a3 : T3), (I a0 a1 a2 a3) → kW p l e R s m args below meth c nL D A Q (cl a0 a1 a2 a3) (sl a0 a1 a2 a3) (wsf a0 a1 a2 a3) pc1 (lvf a0 a1 a2 a3) (stf a0 a1 a2 a3)) (k : (∀ (a0 : T0) (a1 : T1) (a2 : T2) (a3 : T3), (I a0 a1 a2 a3) → kW p l e R s m args below meth c nL D A Q (cl a0 a1 a2 a3) (sl a0 a1 a2 a3) (wsf a0 a1 a2 a3) pc1 (lvf a0 a1 a2 a3) (stf a0 a1 a2 a3)) → kW p l e R s m args below meth c nL D A Q (cells) (slots) (ws) (pc) (lv) (st)) : kW p l e R s m args below meth c nL D A Q (cells) (slots) (ws) (pc) (lv) (st) := k kk
theorem k_loop4 {T0 : Type} {T1 : Type} {T2 : Type} {T3 : Type} (pc1 : Nat) (cl sl : T0 → T1 → T2 → T3 → Nat) (wsf : T0 → T1 → T2 → T3 → va_W) (lvf : T0 → T1 → T2 → T3 → List (Nat × Value)) (stf : T0 → T1 → T2 → T3 → List Value) (I : T0 → T1 → T2 → T3 → Prop) (mu : T0 → T1 → T2 → T3 → Nat) (body : ∀ (a0 : T0) (a1 : T1) (a2 : T2) (a3 : T3), (I a0 a1 a2 a3) → (∀ (b0 : T0) (b1 : T1) (b2 : T2) (b3 : T3), (I b0 b1 b2 b3) → (mu b0 b1 b2 b3) < (mu a0 a1 a2 a3) → kW p l e R s m args below meth c nL D A Q (cl b0 b1 b2 b3) (sl b0 b1 b2 b3) (wsf b0 b1 b2 b3) pc1 (lvf b0 b1 b2 b3) (stf b0 b1 b2 b3)) → kW p l e R s m args below meth c nL D A Q (cl a0 a1 a2 a3) (sl a0 a1 a2 a3) (wsf a0 a1 a2 a3) pc1 (lvf a0 a1 a2 a3) (stf a0 a1 a2 a3)) : ∀ (i0 : T0) (i1 : T1) (i2 : T2) (i3 : T3), (I i0 i1 i2 i3) → kW p l e R s m args below meth c nL D A Q (cl i0 i1 i2 i3) (sl i0 i1 i2 i3) (wsf i0 i1 i2 i3) pc1 (lvf i0 i1 i2 i3) (stf i0 i1 i2 i3) := by
  have key : ∀ (n : Nat), ∀ (a0 : T0) (a1 : T1) (a2 : T2) (a3 : T3), (mu a0 a1 a2 a3) < n → (I a0 a1 a2 a3) → kW p l e R s m args below meth c nL D A Q (cl a0 a1 a2 a3) (sl a0 a1 a2 a3) (wsf a0 a1 a2 a3) pc1 (lvf a0 a1 a2 a3) (stf a0 a1 a2 a3) := by
    intro n
    induction n with
    | zero => intro a0 a1 a2 a3 h; exact absurd h (Nat.not_lt_zero _)
    | succ n ih => intro a0 a1 a2 a3 h hI; exact body a0 a1 a2 a3 hI (fun b0 b1 b2 b3 hb hlt => ih b0 b1 b2 b3 (Nat.lt_of_lt_of_le hlt (Nat.le_of_lt_succ h)) hb)
  intro i0 i1 i2 i3 h
  exact key _ i0 i1 i2 i3 (Nat.lt_succ_self _) h
theorem k_join5 {T0 : Type} {T1 : Type} {T2 : Type} {T3 : Type} {T4 : Type} (pc1 : Nat) (cl sl : T0 → T1 → T2 → T3 → T4 → Nat) (wsf : T0 → T1 → T2 → T3 → T4 → va_W) (lvf : T0 → T1 → T2 → T3 → T4 → List (Nat × Value)) (stf : T0 → T1 → T2 → T3 → T4 → List Value) (I : T0 → T1 → T2 → T3 → T4 → Prop) (kk : ∀ (a0 : T0) (a1 : T1) (a2 : T2) (a3 : T3) (a4 : T4), (I a0 a1 a2 a3 a4) → kW p l e R s m args below meth c nL D A Q (cl a0 a1 a2 a3 a4) (sl a0 a1 a2 a3 a4) (wsf a0 a1 a2 a3 a4) pc1 (lvf a0 a1 a2 a3 a4) (stf a0 a1 a2 a3 a4)) (k : (∀ (a0 : T0) (a1 : T1) (a2 : T2) (a3 : T3) (a4 : T4), (I a0 a1 a2 a3 a4) → kW p l e R s m args below meth c nL D A Q (cl a0 a1 a2 a3 a4) (sl a0 a1 a2 a3 a4) (wsf a0 a1 a2 a3 a4) pc1 (lvf a0 a1 a2 a3 a4) (stf a0 a1 a2 a3 a4)) → kW p l e R s m args below meth c nL D A Q (cells) (slots) (ws) (pc) (lv) (st)) : kW p l e R s m args below meth c nL D A Q (cells) (slots) (ws) (pc) (lv) (st) := k kk
theorem k_loop5 {T0 : Type} {T1 : Type} {T2 : Type} {T3 : Type} {T4 : Type} (pc1 : Nat) (cl sl : T0 → T1 → T2 → T3 → T4 → Nat) (wsf : T0 → T1 → T2 → T3 → T4 → va_W) (lvf : T0 → T1 → T2 → T3 → T4 → List (Nat × Value)) (stf : T0 → T1 → T2 → T3 → T4 → List Value) (I : T0 → T1 → T2 → T3 → T4 → Prop) (mu : T0 → T1 → T2 → T3 → T4 → Nat) (body : ∀ (a0 : T0) (a1 : T1) (a2 : T2) (a3 : T3) (a4 : T4), (I a0 a1 a2 a3 a4) → (∀ (b0 : T0) (b1 : T1) (b2 : T2) (b3 : T3) (b4 : T4), (I b0 b1 b2 b3 b4) → (mu b0 b1 b2 b3 b4) < (mu a0 a1 a2 a3 a4) → kW p l e R s m args below meth c nL D A Q (cl b0 b1 b2 b3 b4) (sl b0 b1 b2 b3 b4) (wsf b0 b1 b2 b3 b4) pc1 (lvf b0 b1 b2 b3 b4) (stf b0 b1 b2 b3 b4)) → kW p l e R s m args below meth c nL D A Q (cl a0 a1 a2 a3 a4) (sl a0 a1 a2 a3 a4) (wsf a0 a1 a2 a3 a4) pc1 (lvf a0 a1 a2 a3 a4) (stf a0 a1 a2 a3 a4)) : ∀ (i0 : T0) (i1 : T1) (i2 : T2) (i3 : T3) (i4 : T4), (I i0 i1 i2 i3 i4) → kW p l e R s m args below meth c nL D A Q (cl i0 i1 i2 i3 i4) (sl i0 i1 i2 i3 i4) (wsf i0 i1 i2 i3 i4) pc1 (lvf i0 i1 i2 i3 i4) (stf i0 i1 i2 i3 i4) := by
  have key : ∀ (n : Nat), ∀ (a0 : T0) (a1 : T1) (a2 : T2) (a3 : T3) (a4 : T4), (mu a0 a1 a2 a3 a4) < n → (I a0 a1 a2 a3 a4) → kW p l e R s m args below meth c nL D A Q (cl a0 a1 a2 a3 a4) (sl a0 a1 a2 a3 a4) (wsf a0 a1 a2 a3 a4) pc1 (lvf a0 a1 a2 a3 a4) (stf a0 a1 a2 a3 a4) := by
    intro n
    induction n with
    | zero => intro a0 a1 a2 a3 a4 h; exact absurd h (Nat.not_lt_zero _)
    | succ n ih => intro a0 a1 a2 a3 a4 h hI; exact body a0 a1 a2 a3 a4 hI (fun b0 b1 b2 b3 b4 hb hlt => ih b0 b1 b2 b3 b4 (Nat.lt_of_lt_of_le hlt (Nat.le_of_lt_succ h)) hb)
  intro i0 i1 i2 i3 i4 h
  exact key _ i0 i1 i2 i3 i4 (Nat.lt_succ_self _) h
theorem k_join6 {T0 : Type} {T1 : Type} {T2 : Type} {T3 : Type} {T4 : Type} {T5 : Type} (pc1 : Nat) (cl sl : T0 → T1 → T2 → T3 → T4 → T5 → Nat) (wsf : T0 → T1 → T2 → T3 → T4 → T5 → va_W) (lvf : T0 → T1 → T2 → T3 → T4 → T5 → List (Nat × Value)) (stf : T0 → T1 → T2 → T3 → T4 → T5 → List Value) (I : T0 → T1 → T2 → T3 → T4 → T5 → Prop) (kk : ∀ (a0 : T0) (a1 : T1) (a2 : T2) (a3 : T3) (a4 : T4) (a5 : T5), (I a0 a1 a2 a3 a4 a5) → kW p l e R s m args below meth c nL D A Q (cl a0 a1 a2 a3 a4 a5) (sl a0 a1 a2 a3 a4 a5) (wsf a0 a1 a2 a3 a4 a5) pc1 (lvf a0 a1 a2 a3 a4 a5) (stf a0 a1 a2 a3 a4 a5)) (k : (∀ (a0 : T0) (a1 : T1) (a2 : T2) (a3 : T3) (a4 : T4) (a5 : T5), (I a0 a1 a2 a3 a4 a5) → kW p l e R s m args below meth c nL D A Q (cl a0 a1 a2 a3 a4 a5) (sl a0 a1 a2 a3 a4 a5) (wsf a0 a1 a2 a3 a4 a5) pc1 (lvf a0 a1 a2 a3 a4 a5) (stf a0 a1 a2 a3 a4 a5)) → kW p l e R s m args below meth c nL D A Q (cells) (slots) (ws) (pc) (lv) (st)) : kW p l e R s m args below meth c nL D A Q (cells) (slots) (ws) (pc) (lv) (st) := k kk
theorem k_loop6 {T0 : Type} {T1 : Type} {T2 : Type} {T3 : Type} {T4 : Type} {T5 : Type} (pc1 : Nat) (cl sl : T0 → T1 → T2 → T3 → T4 → T5 → Nat) (wsf : T0 → T1 → T2 → T3 → T4 → T5 → va_W) (lvf : T0 → T1 → T2 → T3 → T4 → T5 → List (Nat × Value)) (stf : T0 → T1 → T2 → T3 → T4 → T5 → List Value) (I : T0 → T1 → T2 → T3 → T4 → T5 → Prop) (mu : T0 → T1 → T2 → T3 → T4 → T5 → Nat) (body : ∀ (a0 : T0) (a1 : T1) (a2 : T2) (a3 : T3) (a4 : T4) (a5 : T5), (I a0 a1 a2 a3 a4 a5) → (∀ (b0 : T0) (b1 : T1) (b2 : T2) (b3 : T3) (b4 : T4) (b5 : T5), (I b0 b1 b2 b3 b4 b5) → (mu b0 b1 b2 b3 b4 b5) < (mu a0 a1 a2 a3 a4 a5) → kW p l e R s m args below meth c nL D A Q (cl b0 b1 b2 b3 b4 b5) (sl b0 b1 b2 b3 b4 b5) (wsf b0 b1 b2 b3 b4 b5) pc1 (lvf b0 b1 b2 b3 b4 b5) (stf b0 b1 b2 b3 b4 b5)) → kW p l e R s m args below meth c nL D A Q (cl a0 a1 a2 a3 a4 a5) (sl a0 a1 a2 a3 a4 a5) (wsf a0 a1 a2 a3 a4 a5) pc1 (lvf a0 a1 a2 a3 a4 a5) (stf a0 a1 a2 a3 a4 a5)) : ∀ (i0 : T0) (i1 : T1) (i2 : T2) (i3 : T3) (i4 : T4) (i5 : T5), (I i0 i1 i2 i3 i4 i5) → kW p l e R s m args below meth c nL D A Q (cl i0 i1 i2 i3 i4 i5) (sl i0 i1 i2 i3 i4 i5) (wsf i0 i1 i2 i3 i4 i5) pc1 (lvf i0 i1 i2 i3 i4 i5) (stf i0 i1 i2 i3 i4 i5) := by
  have key : ∀ (n : Nat), ∀ (a0 : T0) (a1 : T1) (a2 : T2) (a3 : T3) (a4 : T4) (a5 : T5), (mu a0 a1 a2 a3 a4 a5) < n → (I a0 a1 a2 a3 a4 a5) → kW p l e R s m args below meth c nL D A Q (cl a0 a1 a2 a3 a4 a5) (sl a0 a1 a2 a3 a4 a5) (wsf a0 a1 a2 a3 a4 a5) pc1 (lvf a0 a1 a2 a3 a4 a5) (stf a0 a1 a2 a3 a4 a5) := by
    intro n
    induction n with
    | zero => intro a0 a1 a2 a3 a4 a5 h; exact absurd h (Nat.not_lt_zero _)
    | succ n ih => intro a0 a1 a2 a3 a4 a5 h hI; exact body a0 a1 a2 a3 a4 a5 hI (fun b0 b1 b2 b3 b4 b5 hb hlt => ih b0 b1 b2 b3 b4 b5 (Nat.lt_of_lt_of_le hlt (Nat.le_of_lt_succ h)) hb)
  intro i0 i1 i2 i3 i4 i5 h
  exact key _ i0 i1 i2 i3 i4 i5 (Nat.lt_succ_self _) h
theorem k_join7 {T0 : Type} {T1 : Type} {T2 : Type} {T3 : Type} {T4 : Type} {T5 : Type} {T6 : Type} (pc1 : Nat) (cl sl : T0 → T1 → T2 → T3 → T4 → T5 → T6 → Nat) (wsf : T0 → T1 → T2 → T3 → T4 → T5 → T6 → va_W) (lvf : T0 → T1 → T2 → T3 → T4 → T5 → T6 → List (Nat × Value)) (stf : T0 → T1 → T2 → T3 → T4 → T5 → T6 → List Value) (I : T0 → T1 → T2 → T3 → T4 → T5 → T6 → Prop) (kk : ∀ (a0 : T0) (a1 : T1) (a2 : T2) (a3 : T3) (a4 : T4) (a5 : T5) (a6 : T6), (I a0 a1 a2 a3 a4 a5 a6) → kW p l e R s m args below meth c nL D A Q (cl a0 a1 a2 a3 a4 a5 a6) (sl a0 a1 a2 a3 a4 a5 a6) (wsf a0 a1 a2 a3 a4 a5 a6) pc1 (lvf a0 a1 a2 a3 a4 a5 a6) (stf a0 a1 a2 a3 a4 a5 a6)) (k : (∀ (a0 : T0) (a1 : T1) (a2 : T2) (a3 : T3) (a4 : T4) (a5 : T5) (a6 : T6), (I a0 a1 a2 a3 a4 a5 a6) → kW p l e R s m args below meth c nL D A Q (cl a0 a1 a2 a3 a4 a5 a6) (sl a0 a1 a2 a3 a4 a5 a6) (wsf a0 a1 a2 a3 a4 a5 a6) pc1 (lvf a0 a1 a2 a3 a4 a5 a6) (stf a0 a1 a2 a3 a4 a5 a6)) → kW p l e R s m args below meth c nL D A Q (cells) (slots) (ws) (pc) (lv) (st)) : kW p l e R s m args below meth c nL D A Q (cells) (slots) (ws) (pc) (lv) (st) := k kk
theorem k_loop7 {T0 : Type} {T1 : Type} {T2 : Type} {T3 : Type} {T4 : Type} {T5 : Type} {T6 : Type} (pc1 : Nat) (cl sl : T0 → T1 → T2 → T3 → T4 → T5 → T6 → Nat) (wsf : T0 → T1 → T2 → T3 → T4 → T5 → T6 → va_W) (lvf : T0 → T1 → T2 → T3 → T4 → T5 → T6 → List (Nat × Value)) (stf : T0 → T1 → T2 → T3 → T4 → T5 → T6 → List Value) (I : T0 → T1 → T2 → T3 → T4 → T5 → T6 → Prop) (mu : T0 → T1 → T2 → T3 → T4 → T5 → T6 → Nat) (body : ∀ (a0 : T0) (a1 : T1) (a2 : T2) (a3 : T3) (a4 : T4) (a5 : T5) (a6 : T6), (I a0 a1 a2 a3 a4 a5 a6) → (∀ (b0 : T0) (b1 : T1) (b2 : T2) (b3 : T3) (b4 : T4) (b5 : T5) (b6 : T6), (I b0 b1 b2 b3 b4 b5 b6) → (mu b0 b1 b2 b3 b4 b5 b6) < (mu a0 a1 a2 a3 a4 a5 a6) → kW p l e R s m args below meth c nL D A Q (cl b0 b1 b2 b3 b4 b5 b6) (sl b0 b1 b2 b3 b4 b5 b6) (wsf b0 b1 b2 b3 b4 b5 b6) pc1 (lvf b0 b1 b2 b3 b4 b5 b6) (stf b0 b1 b2 b3 b4 b5 b6)) → kW p l e R s m args below meth c nL D A Q (cl a0 a1 a2 a3 a4 a5 a6) (sl a0 a1 a2 a3 a4 a5 a6) (wsf a0 a1 a2 a3 a4 a5 a6) pc1 (lvf a0 a1 a2 a3 a4 a5 a6) (stf a0 a1 a2 a3 a4 a5 a6)) : ∀ (i0 : T0) (i1 : T1) (i2 : T2) (i3 : T3) (i4 : T4) (i5 : T5) (i6 : T6), (I i0 i1 i2 i3 i4 i5 i6) → kW p l e R s m args below meth c nL D A Q (cl i0 i1 i2 i3 i4 i5 i6) (sl i0 i1 i2 i3 i4 i5 i6) (wsf i0 i1 i2 i3 i4 i5 i6) pc1 (lvf i0 i1 i2 i3 i4 i5 i6) (stf i0 i1 i2 i3 i4 i5 i6) := by
  have key : ∀ (n : Nat), ∀ (a0 : T0) (a1 : T1) (a2 : T2) (a3 : T3) (a4 : T4) (a5 : T5) (a6 : T6), (mu a0 a1 a2 a3 a4 a5 a6) < n → (I a0 a1 a2 a3 a4 a5 a6) → kW p l e R s m args below meth c nL D A Q (cl a0 a1 a2 a3 a4 a5 a6) (sl a0 a1 a2 a3 a4 a5 a6) (wsf a0 a1 a2 a3 a4 a5 a6) pc1 (lvf a0 a1 a2 a3 a4 a5 a6) (stf a0 a1 a2 a3 a4 a5 a6) := by
    intro n
    induction n with
    | zero => intro a0 a1 a2 a3 a4 a5 a6 h; exact absurd h (Nat.not_lt_zero _)
    | succ n ih => intro a0 a1 a2 a3 a4 a5 a6 h hI; exact body a0 a1 a2 a3 a4 a5 a6 hI (fun b0 b1 b2 b3 b4 b5 b6 hb hlt => ih b0 b1 b2 b3 b4 b5 b6 (Nat.lt_of_lt_of_le hlt (Nat.le_of_lt_succ h)) hb)
  intro i0 i1 i2 i3 i4 i5 i6 h
  exact key _ i0 i1 i2 i3 i4 i5 i6 (Nat.lt_succ_self _) h
theorem k_join8 {T0 : Type} {T1 : Type} {T2 : Type} {T3 : Type} {T4 : Type} {T5 : Type} {T6 : Type} {T7 : Type} (pc1 : Nat) (cl sl : T0 → T1 → T2 → T3 → T4 → T5 → T6 → T7 → Nat) (wsf : T0 → T1 → T2 → T3 → T4 → T5 → T6 → T7 → va_W) (lvf : T0 → T1 → T2 → T3 → T4 → T5 → T6 → T7 → List (Nat × Value)) (stf : T0 → T1 → T2 → T3 → T4 → T5 → T6 → T7 → List Value) (I : T0 → T1 → T2 → T3 → T4 → T5 → T6 → T7 → Prop) (kk : ∀ (a0 : T0) (a1 : T1) (a2 : T2) (a3 : T3) (a4 : T4) (a5 : T5) (a6 : T6) (a7 : T7), (I a0 a1 a2 a3 a4 a5 a6 a7) → kW p l e R s m args below meth c nL D A Q (cl a0 a1 a2 a3 a4 a5 a6 a7) (sl a0 a1 a2 a3 a4 a5 a6 a7) (wsf a0 a1 a2 a3 a4 a5 a6 a7) pc1 (lvf a0 a1 a2 a3 a4 a5 a6 a7) (stf a0 a1 a2 a3 a4 a5 a6 a7)) (k : (∀ (a0 : T0) (a1 : T1) (a2 : T2) (a3 : T3) (a4 : T4) (a5 : T5) (a6 : T6) (a7 : T7), (I a0 a1 a2 a3 a4 a5 a6 a7) → kW p l e R s m args below meth c nL D A Q (cl a0 a1 a2 a3 a4 a5 a6 a7) (sl a0 a1 a2 a3 a4 a5 a6 a7) (wsf a0 a1 a2 a3 a4 a5 a6 a7) pc1 (lvf a0 a1 a2 a3 a4 a5 a6 a7) (stf a0 a1 a2 a3 a4 a5 a6 a7)) → kW p l e R s m args below meth c nL D A Q (cells) (slots) (ws) (pc) (lv) (st)) : kW p l e R s m args below meth c nL D A Q (cells) (slots) (ws) (pc) (lv) (st) := k kk
theorem k_loop8 {T0 : Type} {T1 : Type} {T2 : Type} {T3 : Type} {T4 : Type} {T5 : Type} {T6 : Type} {T7 : Type} (pc1 : Nat) (cl sl : T0 → T1 → T2 → T3 → T4 → T5 → T6 → T7 → Nat) (wsf : T0 → T1 → T2 → T3 → T4 → T5 → T6 → T7 → va_W) (lvf : T0 → T1 → T2 → T3 → T4 → T5 → T6 → T7 → List (Nat × Value)) (stf : T0 → T1 → T2 → T3 → T4 → T5 → T6 → T7 → List Value) (I : T0 → T1 → T2 → T3 → T4 → T5 → T6 → T7 → Prop) (mu : T0 → T1 → T2 → T3 → T4 → T5 → T6 → T7 → Nat) (body : ∀ (a0 : T0) (a1 : T1) (a2 : T2) (a3 : T3) (a4 : T4) (a5 : T5) (a6 : T6) (a7 : T7), (I a0 a1 a2 a3 a4 a5 a6 a7) → (∀ (b0 : T0) (b1 : T1) (b2 : T2) (b3 : T3) (b4 : T4) (b5 : T5) (b6 : T6) (b7 : T7), (I b0 b1 b2 b3 b4 b5 b6 b7) → (mu b0 b1 b2 b3 b4 b5 b6 b7) < (mu a0 a1 a2 a3 a4 a5 a6 a7) → kW p l e R s m args below meth c nL D A Q (cl b0 b1 b2 b3 b4 b5 b6 b7) (sl b0 b1 b2 b3 b4 b5 b6 b7) (wsf b0 b1 b2 b3 b4 b5 b6 b7) pc1 (lvf b0 b1 b2 b3 b4 b5 b6 b7) (stf b0 b1 b2 b3 b4 b5 b6 b7)) → kW p l e R s m args below meth c nL D A Q (cl a0 a1 a2 a3 a4 a5 a6 a7) (sl a0 a1 a2 a3 a4 a5 a6 a7) (wsf a0 a1 a2 a3 a4 a5 a6 a7) pc1 (lvf a0 a1 a2 a3 a4 a5 a6 a7) (stf a0 a1 a2 a3 a4 a5 a6 a7)) : ∀ (i0 : T0) (i1 : T1) (i2 : T2) (i3 : T3) (i4 : T4) (i5 : T5) (i6 : T6) (i7 : T7), (I i0 i1 i2 i3 i4 i5 i6 i7) → kW p l e R s m args below meth c nL D A Q (cl i0 i1 i2 i3 i4 i5 i6 i7) (sl i0 i1 i2 i3 i4 i5 i6 i7) (wsf i0 i1 i2 i3 i4 i5 i6 i7) pc1 (lvf i0 i1 i2 i3 i4 i5 i6 i7) (stf i0 i1 i2 i3 i4 i5 i6 i7) := by
  have key : ∀ (n : Nat), ∀ (a0 : T0) (a1 : T1) (a2 : T2) (a3 : T3) (a4 : T4) (a5 : T5) (a6 : T6) (a7 : T7), (mu a0 a1 a2 a3 a4 a5 a6 a7) < n → (I a0 a1 a2 a3 a4 a5 a6 a7) → kW p l e R s m args below meth c nL D A Q (cl a0 a1 a2 a3 a4 a5 a6 a7) (sl a0 a1 a2 a3 a4 a5 a6 a7) (wsf a0 a1 a2 a3 a4 a5 a6 a7) pc1 (lvf a0 a1 a2 a3 a4 a5 a6 a7) (stf a0 a1 a2 a3 a4 a5 a6 a7) := by
    intro n
    induction n with
    | zero => intro a0 a1 a2 a3 a4 a5 a6 a7 h; exact absurd h (Nat.not_lt_zero _)
    | succ n ih => intro a0 a1 a2 a3 a4 a5 a6 a7 h hI; exact body a0 a1 a2 a3 a4 a5 a6 a7 hI (fun b0 b1 b2 b3 b4 b5 b6 b7 hb hlt => ih b0 b1 b2 b3 b4 b5 b6 b7 (Nat.lt_of_lt_of_le hlt (Nat.le_of_lt_succ h)) hb)
  intro i0 i1 i2 i3 i4 i5 i6 i7 h
  exact key _ i0 i1 i2 i3 i4 i5 i6 i7 (Nat.lt_succ_self _) h
end KK2
end
section
/-! pure words for Row -/
theorem i_of {x : Int32} {n : Nat} (h0 : 0 ≤ x.toInt) (h1 : x.toInt < n) : x.toNatClampNeg < n ∧ x = nI x.toNatClampNeg ∧ x.toInt = (x.toNatClampNeg : Int) := by
  have hlt : x.toInt < 2 ^ 31 := Int32.toInt_lt x
  have hc : (x.toNatClampNeg : Int) = x.toInt := by
    have : x.toNatClampNeg = x.toInt.toNat := rfl
    omega
  refine ⟨by omega, ?_, by omega⟩
  apply Int32.toInt_inj.mp
  rw [nI_toInt (by omega)]
  omega
theorem i_sub {a b : Int32} (h1 : -2147483648 ≤ a.toInt - b.toInt) (h2 : a.toInt - b.toInt < 2147483648) : (a - b).toInt = a.toInt - b.toInt := by
  rw [Int32.toInt_sub]
  exact Int.bmod_eq_of_le (by omega) (by omega)
theorem i_add {a b : Int32} (h1 : -2147483648 ≤ a.toInt + b.toInt) (h2 : a.toInt + b.toInt < 2147483648) : (a + b).toInt = a.toInt + b.toInt := by
  rw [Int32.toInt_add]
  exact Int.bmod_eq_of_le (by omega) (by omega)
def b2i (b : Bool) : Int32 := if b then 1 else 0
theorem b2i_t {q : Prop} [Decidable q] (h : q) : b2i (decide q) = 1 := by simp [b2i, h]
theorem b2i_f {q : Prop} [Decidable q] (h : ¬ q) : b2i (decide q) = 0 := by simp [b2i, h]
theorem b2i_nar (b : Bool) : narrow .boolean (.int (b2i b)) = .int (b2i b) := by cases b <;> rfl
/-- the bytes x .. x + y - 1 are there, of k -/
abbrev rHolds (x y : Int32) (k : Nat) : Prop := 0 ≤ x.toInt ∧ 0 ≤ y.toInt ∧ x.toInt + y.toInt ≤ k
abbrev rIn (i : Int32) (k : Nat) : Prop := 0 ≤ i.toInt ∧ i.toInt < k
abbrev rByte (b : Int32) : Prop := 0 ≤ b.toInt ∧ b.toInt ≤ 255
def rGet (f : Nat → Int32) (k : Nat) (i : Int32) : Int32 := if rIn i k then f i.toNatClampNeg else -1
theorem rGet_nI {f : Nat → Int32} {k j : Nat} (h : j < k) (hk : k ≤ 100000) : rGet f k (nI j) = f j := by
  have h1 : rIn (nI j) k := by rw [rIn, nI_toInt (by omega)]; omega
  rw [rGet, if_pos h1, nI_clamp (by omega)]
theorem rGet_out {f : Nat → Int32} {k : Nat} {i : Int32} (h : ¬ rIn i k) : rGet f k i = -1 := by rw [rGet, if_neg h]
theorem rHolds_iff {x y k : Nat} (hx : x < 2 ^ 30) (hy : y < 2 ^ 30) : rHolds (nI x) (nI y) k ↔ x + y ≤ k := by
  rw [rHolds, nI_toInt (by omega), nI_toInt (by omega)]; omega
theorem rByte_nI {b : Nat} (h : b < 256) : rByte (nI b) := by rw [rByte, nI_toInt (by omega)]; omega
theorem mnI {a b : Nat} (ha : a < 2 ^ 31) (hb : b < 2 ^ 31) : (if nI b < nI a then nI b else nI a) = nI (min a b) := by
  by_cases h : b < a
  · rw [if_pos (nI_lt h ha), Nat.min_eq_right (Nat.le_of_lt h)]
  · rw [if_neg (nI_nlt (by omega) hb), Nat.min_eq_left (by omega)]
theorem mxI {a b : Nat} (ha : a < 2 ^ 31) (hb : b < 2 ^ 31) : (if nI a < nI b then nI b else nI a) = nI (max a b) := by
  by_cases h : a < b
  · rw [if_pos (nI_lt h hb), Nat.max_eq_right (Nat.le_of_lt h)]
  · rw [if_neg (nI_nlt (by omega) ha), Nat.max_eq_left (by omega)]
/-- how many cells a row has when w are wanted; what that costs -/
def rCap (mo n w : Nat) : Nat := if w ≤ n then n else max w (min mo (2 * n))
def rCost (mo n w : Nat) : Nat := if w ≤ n then 0 else max w (min mo (2 * n))
def rSet (f : Nat → Int32) (k : Nat) (i b : Int32) : Nat → Int32 := if rIn i k ∧ rByte b then upd f i.toNatClampNeg b else f
def sA (f : Nat → Int32) (x : Nat) : Nat → Int32
  | 0 => 0
  | n + 1 => sA f x n + f (x + n)
def sB (f : Nat → Int32) (x : Nat) : Nat → Int32
  | 0 => 0
  | n + 1 => sB f x n + sA f x (n + 1)
def sJ (a b : Int32) : Int32 := (b <<< ((16 : Int32) &&& 31)) ||| (a &&& 65535)
def sSum (f : Nat → Int32) (x n : Nat) : Int32 := sJ (sA f x n) (sB f x n)
set_option maxHeartbeats 4000000 in
set_option maxRecDepth 100000 in
theorem c_length (l : Launch) (D : va_G) (cI cB : ClassId) (r : Nat) (a : Nat) (mo : Nat) (k : Nat)  : kC l yX1_length cX1_length 1 (some .int) 0 0 (0) (0) D cI cB [.ref r] [(r, .inr (1, [.int (nI mo), .ref a, .int (nI k)]))] (fun (v : Option Value) (u : va_W) => v = some (.int (nI k)) ∧ u = [(r, .inr (1, [.int (nI mo), .ref a, .int (nI k)]))]) := by
  refine k_entry (lv0 := [(0, .ref r)]) (by decide) (Nat.le_of_ble_eq_true rfl) rfl ?_
  intro zp ze zs zm zb zt zc zA X hr hin
  refine k_aload_n X dX1_length_0 rfl 0 rfl ?_
  refine k_get (v := .int (nI k)) X 0 1 2 rfl rfl (by decide) fl_X1_19 in_X1 rfl rfl dX1_length_1 ?_
  exact k_iret (u := [(r, .inr (1, [.int (nI mo), .ref a, .int (nI k)]))]) X hr [0] (by decide) rfl rfl (⟨rfl, rfl⟩) (by (try dsimp only); omega) (by (try dsimp only); omega) dX1_length_4
set_option maxHeartbeats 4000000 in
set_option maxRecDepth 100000 in
theorem c_room (l : Launch) (D : va_G) (cI cB : ClassId) (r : Nat) (a : Nat) (mo : Nat) (k : Nat) (hk : k ≤ mo) (hmo : mo ≤ 8000) : kC l yX1_room cX1_room 1 (some .int) 0 0 (0) (0) D cI cB [.ref r] [(r, .inr (1, [.int (nI mo), .ref a, .int (nI k)]))] (fun (v : Option Value) (u : va_W) => v = some (.int (nI (mo - k))) ∧ u = [(r, .inr (1, [.int (nI mo), .ref a, .int (nI k)]))]) := by
  refine k_entry (lv0 := [(0, .ref r)]) (by decide) (Nat.le_of_ble_eq_true rfl) rfl ?_
  intro zp ze zs zm zb zt zc zA X hr hin
  refine k_aload_n X dX1_room_0 rfl 0 rfl ?_
  refine k_get (v := .int (nI mo)) X 0 1 0 rfl rfl (by decide) fl_X1_9 in_X1 rfl rfl dX1_room_1 ?_
  refine k_aload_n X dX1_room_4 rfl 0 rfl ?_
  refine k_get (v := .int (nI k)) X 0 1 2 rfl rfl (by decide) fl_X1_19 in_X1 rfl rfl dX1_room_5 ?_
  refine k_isub X dX1_room_8 ?_
  refine k_as (y := nI (mo - k)) (pk_sub hk) ?_
  exact k_iret (u := [(r, .inr (1, [.int (nI mo), .ref a, .int (nI k)]))]) X hr [0] (by decide) rfl rfl (⟨rfl, rfl⟩) (by (try dsimp only); omega) (by (try dsimp only); omega) dX1_room_9
set_option maxHeartbeats 4000000 in
set_option maxRecDepth 100000 in
theorem c_clear (l : Launch) (D : va_G) (cI cB : ClassId) (r : Nat) (a : Nat) (mo : Nat) (k : Nat)  : kC l yX1_clear cX1_clear 1 none 0 0 (0) (0) D cI cB [.ref r] [(r, .inr (1, [.int (nI mo), .ref a, .int (nI k)]))] (fun (v : Option Value) (u : va_W) => v = none ∧ u = [(r, .inr (1, [.int (nI mo), .ref a, .int (nI 0)]))]) := by
  refine k_entry (lv0 := [(0, .ref r)]) (by decide) (Nat.le_of_ble_eq_true rfl) rfl ?_
  intro zp ze zs zm zb zt zc zA X hr hin
  refine k_aload_n X dX1_clear_0 rfl 0 rfl ?_
  refine k_iconst (v := 0) X dX1_clear_1 (by decide) ?_
  refine k_put (v := .int 0) (ty := .int) (ws' := [(r, .inr (1, [.int (nI mo), .ref a, .int 0]))]) X 0 1 2 tyX1 tyX1_ok nmX1 rfl rfl (by decide) fl_X1_19 in_X1 rfl rfl (by decide +kernel) rfl rfl (Nat.le_of_ble_eq_true rfl) rfl dX1_clear_2 ?_
  exact k_vret (u := [(r, .inr (1, [.int (nI mo), .ref a, .int 0]))]) X hr [0] (by decide) rfl rfl (⟨rfl, rfl⟩) (by (try dsimp only); omega) (by (try dsimp only); omega) dX1_clear_5
set_option maxHeartbeats 4000000 in
set_option maxRecDepth 100000 in
theorem c_isByte (l : Launch) (D : va_G) (cI cB : ClassId) (b : Int32)  : kC l yX1_isByte cX1_isByte 1 (some .boolean) 0 0 (0) (0) D cI cB [.int b] [] (fun (v : Option Value) (u : va_W) => v = some (.int (b2i (decide (rByte b)))) ∧ u = []) := by
  refine k_entry (lv0 := [(0, .int b)]) (by decide) (Nat.le_of_ble_eq_true rfl) rfl ?_
  intro zp ze zs zm zb zt zc zA X hr hin
  refine k_iload_n X dX1_isByte_0 rfl 0 rfl ?_
  refine k_if_lt (tgt := 15) (xi := b.toInt) X (rfl) dX1_isByte_1 (by decide) (fun c_1 => ?_) (fun c_1 => ?_)
  · refine k_iconst (v := 0) X dX1_isByte_15 (by decide) ?_
    exact k_zret (u := []) X (by first | rfl | exact b2i_nar _ | decide) hr [] (by decide) rfl rfl (⟨by rw [b2i_f (by omega)], rfl⟩) (by (try dsimp only); omega) (by (try dsimp only); omega) dX1_isByte_16
  · refine k_iload_n X dX1_isByte_4 rfl 0 rfl ?_
    refine k_sipush (v := 255) X dX1_isByte_5 (by decide) ?_
    refine k_icmp_gt (tgt := 15) (xi := b.toInt) (yi := (255 : Int)) X (rfl) (by decide) dX1_isByte_8 (by decide) (fun c_8 => ?_) (fun c_8 => ?_)
    · refine k_iconst (v := 0) X dX1_isByte_15 (by decide) ?_
      exact k_zret (u := []) X (by first | rfl | exact b2i_nar _ | decide) hr [] (by decide) rfl rfl (⟨by rw [b2i_f (by omega)], rfl⟩) (by (try dsimp only); omega) (by (try dsimp only); omega) dX1_isByte_16
    · refine k_iconst (v := 1) X dX1_isByte_11 (by decide) ?_
      refine k_goto (tgt := 16) X dX1_isByte_12 (by decide) ?_
      exact k_zret (u := []) X (by first | rfl | exact b2i_nar _ | decide) hr [] (by decide) rfl rfl (⟨by rw [b2i_t (by omega)], rfl⟩) (by (try dsimp only); omega) (by (try dsimp only); omega) dX1_isByte_16
set_option maxHeartbeats 4000000 in
set_option maxRecDepth 100000 in
theorem c_holds (l : Launch) (D : va_G) (cI cB : ClassId) (r : Nat) (a : Nat) (mo : Nat) (k : Nat) (x : Int32) (y : Int32) (hk : k ≤ 8000) : kC l yX1_holds cX1_holds 3 (some .boolean) 0 0 (0) (0) D cI cB [.ref r, .int x, .int y] [(r, .inr (1, [.int (nI mo), .ref a, .int (nI k)]))] (fun (v : Option Value) (u : va_W) => v = some (.int (b2i (decide (rHolds x y k)))) ∧ u = [(r, .inr (1, [.int (nI mo), .ref a, .int (nI k)]))]) := by
  refine k_entry (lv0 := [(0, .ref r), (1, .int x), (2, .int y)]) (by decide) (Nat.le_of_ble_eq_true rfl) rfl ?_
  intro zp ze zs zm zb zt zc zA X hr hin
  refine k_iload_n X dX1_holds_0 rfl 1 rfl ?_
  refine k_if_lt (tgt := 30) (xi := x.toInt) X (rfl) dX1_holds_1 (by decide) (fun c_1 => ?_) (fun c_1 => ?_)
  · refine k_iconst (v := 0) X dX1_holds_30 (by decide) ?_
    exact k_zret (u := [(r, .inr (1, [.int (nI mo), .ref a, .int (nI k)]))]) X (by first | rfl | exact b2i_nar _ | decide) hr [0] (by decide) rfl rfl (⟨by rw [b2i_f (by omega)], rfl⟩) (by (try dsimp only); omega) (by (try dsimp only); omega) dX1_holds_31
  · refine k_iload_n X dX1_holds_4 rfl 2 rfl ?_
    refine k_if_lt (tgt := 30) (xi := y.toInt) X (rfl) dX1_holds_5 (by decide) (fun c_5 => ?_) (fun c_5 => ?_)
    · refine k_iconst (v := 0) X dX1_holds_30 (by decide) ?_
      exact k_zret (u := [(r, .inr (1, [.int (nI mo), .ref a, .int (nI k)]))]) X (by first | rfl | exact b2i_nar _ | decide) hr [0] (by decide) rfl rfl (⟨by rw [b2i_f (by omega)], rfl⟩) (by (try dsimp only); omega) (by (try dsimp only); omega) dX1_holds_31
    · refine k_iload_n X dX1_holds_8 rfl 1 rfl ?_
      refine k_aload_n X dX1_holds_9 rfl 0 rfl ?_
      refine k_get (v := .int (nI k)) X 0 1 2 rfl rfl (by decide) fl_X1_19 in_X1 rfl rfl dX1_holds_10 ?_
      refine k_icmp_gt (tgt := 30) (xi := x.toInt) (yi := ((k : Nat) : Int)) X (rfl) (nI_toInt (by omega)) dX1_holds_13 (by decide) (fun c_13 => ?_) (fun c_13 => ?_)
      · refine k_iconst (v := 0) X dX1_holds_30 (by decide) ?_
        exact k_zret (u := [(r, .inr (1, [.int (nI mo), .ref a, .int (nI k)]))]) X (by first | rfl | exact b2i_nar _ | decide) hr [0] (by decide) rfl rfl (⟨by rw [b2i_f (by omega)], rfl⟩) (by (try dsimp only); omega) (by (try dsimp only); omega) dX1_holds_31
      · refine k_iload_n X dX1_holds_16 rfl 2 rfl ?_
        refine k_aload_n X dX1_holds_17 rfl 0 rfl ?_
        refine k_get (v := .int (nI k)) X 0 1 2 rfl rfl (by decide) fl_X1_19 in_X1 rfl rfl dX1_holds_18 ?_
        refine k_iload_n X dX1_holds_21 rfl 1 rfl ?_
        refine k_isub X dX1_holds_22 ?_
        refine k_icmp_gt (tgt := 30) (xi := y.toInt) (yi := ((k : Nat) : Int) - x.toInt) X (rfl) (by rw [i_sub (by rw [nI_toInt (by omega)]; omega) (by rw [nI_toInt (by omega)]; omega), nI_toInt (by omega)]) dX1_holds_23 (by decide) (fun c_23 => ?_) (fun c_23 => ?_)
        · refine k_iconst (v := 0) X dX1_holds_30 (by decide) ?_
          exact k_zret (u := [(r, .inr (1, [.int (nI mo), .ref a, .int (nI k)]))]) X (by first | rfl | exact b2i_nar _ | decide) hr [0] (by decide) rfl rfl (⟨by rw [b2i_f (by omega)], rfl⟩) (by (try dsimp only); omega) (by (try dsimp only); omega) dX1_holds_31
        · refine k_iconst (v := 1) X dX1_holds_26 (by decide) ?_
          refine k_goto (tgt := 31) X dX1_holds_27 (by decide) ?_
          exact k_zret (u := [(r, .inr (1, [.int (nI mo), .ref a, .int (nI k)]))]) X (by first | rfl | exact b2i_nar _ | decide) hr [0] (by decide) rfl rfl (⟨by rw [b2i_t (by omega)], rfl⟩) (by (try dsimp only); omega) (by (try dsimp only); omega) dX1_holds_31
set_option maxHeartbeats 4000000 in
set_option maxRecDepth 100000 in
theorem c_get (l : Launch) (D : va_G) (cI cB : ClassId) (r : Nat) (a : Nat) (mo : Nat) (k : Nat) (n : Nat) (f : Nat → Int32) (i : Int32) (hk : k ≤ n) (hn : n ≤ mo) (hmo : mo ≤ 8000) : kC l yX1_get cX1_get 2 (some .int) 0 0 (0) (0) D cI cB [.ref r, .int i] [(r, .inr (1, [.int (nI mo), .ref a, .int (nI k)])), (a, .inl (cI, n, .inl f))] (fun (v : Option Value) (u : va_W) => v = some (.int (rGet f k i)) ∧ u = [(r, .inr (1, [.int (nI mo), .ref a, .int (nI k)])), (a, .inl (cI, n, .inl f))]) := by
  refine k_entry (lv0 := [(0, .ref r), (1, .int i)]) (by decide) (Nat.le_of_ble_eq_true rfl) rfl ?_
  intro zp ze zs zm zb zt zc zA X hr hin
  refine k_iload_n X dX1_get_0 rfl 1 rfl ?_
  refine k_if_lt (tgt := 21) (xi := i.toInt) X (rfl) dX1_get_1 (by decide) (fun c_1 => ?_) (fun c_1 => ?_)
  · refine k_iconst (v := -1) X dX1_get_21 (by decide) ?_
    exact k_iret (u := [(r, .inr (1, [.int (nI mo), .ref a, .int (nI k)])), (a, .inl (cI, n, .inl f))]) X hr [0, 1] (by decide) rfl rfl (⟨by rw [rGet_out (by omega)], rfl⟩) (by (try dsimp only); omega) (by (try dsimp only); omega) dX1_get_22
  · refine k_iload_n X dX1_get_4 rfl 1 rfl ?_
    refine k_aload_n X dX1_get_5 rfl 0 rfl ?_
    refine k_get (v := .int (nI k)) X 0 1 2 rfl rfl (by decide) fl_X1_19 in_X1 rfl rfl dX1_get_6 ?_
    refine k_icmp_ge (tgt := 21) (xi := i.toInt) (yi := ((k : Nat) : Int)) X (rfl) (nI_toInt (by omega)) dX1_get_9 (by decide) (fun c_9 => ?_) (fun c_9 => ?_)
    · refine k_iconst (v := -1) X dX1_get_21 (by decide) ?_
      exact k_iret (u := [(r, .inr (1, [.int (nI mo), .ref a, .int (nI k)])), (a, .inl (cI, n, .inl f))]) X hr [0, 1] (by decide) rfl rfl (⟨by rw [rGet_out (by omega)], rfl⟩) (by (try dsimp only); omega) (by (try dsimp only); omega) dX1_get_22
    · refine k_aload_n X dX1_get_12 rfl 0 rfl ?_
      refine k_get (v := .ref a) X 0 1 1 rfl rfl (by decide) fl_X1_15 in_X1 rfl rfl dX1_get_13 ?_
      refine k_iload_n X dX1_get_16 rfl 1 rfl ?_
      refine k_iald (v := f i.toNatClampNeg) X 1 rfl (vp_in_iff.mpr ⟨by omega, by omega⟩) (rfl) dX1_get_17 ?_
      refine k_goto (tgt := 22) X dX1_get_18 (by decide) ?_
      exact k_iret (u := [(r, .inr (1, [.int (nI mo), .ref a, .int (nI k)])), (a, .inl (cI, n, .inl f))]) X hr [0, 1] (by decide) rfl rfl (⟨by rw [rGet, if_pos (by omega)], rfl⟩) (by (try dsimp only); omega) (by (try dsimp only); omega) dX1_get_22
set_option maxHeartbeats 4000000 in
set_option maxRecDepth 100000 in
theorem c_set (l : Launch) (D : va_G) (cI cB : ClassId) (r : Nat) (a : Nat) (mo : Nat) (k : Nat) (n : Nat) (f : Nat → Int32) (i : Int32) (b : Int32) (hk : k ≤ n) (hn : n ≤ mo) (hmo : mo ≤ 8000) : kC l yX1_set cX1_set 3 (some .boolean) 1 20 (0) (0) D cI cB [.ref r, .int i, .int b] [(r, .inr (1, [.int (nI mo), .ref a, .int (nI k)])), (a, .inl (cI, n, .inl f))] (fun (v : Option Value) (u : va_W) => v = some (.int (b2i (decide (rIn i k ∧ rByte b)))) ∧ u = [(r, .inr (1, [.int (nI mo), .ref a, .int (nI k)])), (a, .inl (cI, n, .inl (rSet f k i b)))]) := by
  refine k_entry (lv0 := [(0, .ref r), (1, .int i), (2, .int b)]) (by decide) (Nat.le_of_ble_eq_true rfl) rfl ?_
  intro zp ze zs zm zb zt zc zA X hr hin
  refine k_iload_n X dX1_set_0 rfl 1 rfl ?_
  refine k_if_lt (tgt := 19) (xi := i.toInt) X (rfl) dX1_set_1 (by decide) (fun c_1 => ?_) (fun c_1 => ?_)
  · refine k_iconst (v := 0) X dX1_set_19 (by decide) ?_
    exact k_zret (u := [(r, .inr (1, [.int (nI mo), .ref a, .int (nI k)])), (a, .inl (cI, n, .inl f))]) X (by first | rfl | exact b2i_nar _ | decide) hr [0, 1] (by decide) rfl rfl (⟨by rw [b2i_f (by omega)], by rw [rSet, if_neg (by omega)]⟩) (by (try dsimp only); omega) (by (try dsimp only); omega) dX1_set_20
  · refine k_iload_n X dX1_set_4 rfl 1 rfl ?_
    refine k_aload_n X dX1_set_5 rfl 0 rfl ?_
    refine k_get (v := .int (nI k)) X 0 1 2 rfl rfl (by decide) fl_X1_19 in_X1 rfl rfl dX1_set_6 ?_
    refine k_icmp_ge (tgt := 19) (xi := i.toInt) (yi := ((k : Nat) : Int)) X (rfl) (nI_toInt (by omega)) dX1_set_9 (by decide) (fun c_9 => ?_) (fun c_9 => ?_)
    · refine k_iconst (v := 0) X dX1_set_19 (by decide) ?_
      exact k_zret (u := [(r, .inr (1, [.int (nI mo), .ref a, .int (nI k)])), (a, .inl (cI, n, .inl f))]) X (by first | rfl | exact b2i_nar _ | decide) hr [0, 1] (by decide) rfl rfl (⟨by rw [b2i_f (by omega)], by rw [rSet, if_neg (by omega)]⟩) (by (try dsimp only); omega) (by (try dsimp only); omega) dX1_set_20
    · refine k_iload_n X dX1_set_12 rfl 2 rfl ?_
      refine k_callS (wc := []) (wr := [(r, .inr (1, [.int (nI mo), .ref a, .int (nI k)])), (a, .inl (cI, n, .inl f))]) (As := [.int b]) (n := 1) (st := []) X (c_isByte l D cI cB b ) ml_X1_22 sm_X1_isByte ini_X1 co_X1_isByte (by decide +kernel) rfl ⟨Nat.le_of_ble_eq_true rfl, Nat.le_of_ble_eq_true rfl⟩ (⟨by (try dsimp only); omega, by (try dsimp only); omega⟩) (Nat.le_of_ble_eq_true rfl) [] [0, 1] rfl rfl rfl (by decide) (by decide) (by decide) rfl dX1_set_13 (fun v_13 u_13 hu_13 => ?_)
      obtain ⟨rfl, rfl⟩ := hu_13
      refine k_to (ws' := [(r, .inr (1, [.int (nI mo), .ref a, .int (nI k)])), (a, .inl (cI, n, .inl f))]) (st' := [.int (b2i (decide (rByte b)))]) rfl rfl ?_
      by_cases hb : rByte b
      · refine k_as (y := 1) (b2i_t hb) ?_
        refine k_if_ne (tgt := 21) (xi := (1 : Int)) X (by decide) dX1_set_16 (by decide) (fun c_16 => ?_) (fun c_16 => ?_)
        · refine k_aload_n X dX1_set_21 rfl 0 rfl ?_
          refine k_get (v := .ref a) X 0 1 1 rfl rfl (by decide) fl_X1_15 in_X1 rfl rfl dX1_set_22 ?_
          refine k_iload_n X dX1_set_25 rfl 1 rfl ?_
          refine k_iload_n X dX1_set_26 rfl 2 rfl ?_
          refine k_iast (f' := upd f i.toNatClampNeg b) (ws' := [(r, .inr (1, [.int (nI mo), .ref a, .int (nI k)])), (a, .inl (cI, n, .inl (upd f i.toNatClampNeg b)))]) X 1 rfl (vp_in_iff.mpr ⟨by omega, by omega⟩) (rfl) rfl dX1_set_27 ?_
          refine k_iconst (v := 1) X dX1_set_28 (by decide) ?_
          exact k_zret (u := [(r, .inr (1, [.int (nI mo), .ref a, .int (nI k)])), (a, .inl (cI, n, .inl (upd f i.toNatClampNeg b)))]) X (by first | rfl | exact b2i_nar _ | decide) hr [0, 1] (by decide) rfl rfl (⟨by rw [b2i_t (by omega)], by rw [rSet, if_pos (by omega)]⟩) (by (try dsimp only); omega) (by (try dsimp only); omega) dX1_set_29
        · exact absurd c_16 (by decide)
      · refine k_as (y := 0) (b2i_f hb) ?_
        refine k_if_ne (tgt := 21) (xi := (0 : Int)) X (by decide) dX1_set_16 (by decide) (fun c_16 => ?_) (fun c_16 => ?_)
        · exact absurd c_16 (by decide)
        · refine k_iconst (v := 0) X dX1_set_19 (by decide) ?_
          exact k_zret (u := [(r, .inr (1, [.int (nI mo), .ref a, .int (nI k)])), (a, .inl (cI, n, .inl f))]) X (by first | rfl | exact b2i_nar _ | decide) hr [0, 1] (by decide) rfl rfl (⟨by rw [b2i_f (by omega)], by rw [rSet, if_neg (by omega)]⟩) (by (try dsimp only); omega) (by (try dsimp only); omega) dX1_set_20
set_option maxHeartbeats 4000000 in
set_option maxRecDepth 100000 in
theorem c_shorten (l : Launch) (D : va_G) (cI cB : ClassId) (r : Nat) (a : Nat) (mo : Nat) (k : Nat) (x : Int32) (hk : k ≤ 8000) : kC l yX1_shorten cX1_shorten 2 (some .boolean) 0 0 (0) (0) D cI cB [.ref r, .int x] [(r, .inr (1, [.int (nI mo), .ref a, .int (nI k)]))] (fun (v : Option Value) (u : va_W) => v = some (.int (b2i (decide (0 ≤ x.toInt ∧ x.toInt ≤ k)))) ∧ u = [(r, .inr (1, [.int (nI mo), .ref a, .int (nI (if 0 ≤ x.toInt ∧ x.toInt ≤ k then x.toNatClampNeg else k))]))]) := by
  refine k_entry (lv0 := [(0, .ref r), (1, .int x)]) (by decide) (Nat.le_of_ble_eq_true rfl) rfl ?_
  intro zp ze zs zm zb zt zc zA X hr hin
  refine k_iload_n X dX1_shorten_0 rfl 1 rfl ?_
  refine k_if_lt (tgt := 12) (xi := x.toInt) X (rfl) dX1_shorten_1 (by decide) (fun c_1 => ?_) (fun c_1 => ?_)
  · refine k_iconst (v := 0) X dX1_shorten_12 (by decide) ?_
    exact k_zret (u := [(r, .inr (1, [.int (nI mo), .ref a, .int (nI k)]))]) X (by first | rfl | exact b2i_nar _ | decide) hr [0] (by decide) rfl rfl (⟨by rw [b2i_f (by omega)], by rw [if_neg (by omega)]⟩) (by (try dsimp only); omega) (by (try dsimp only); omega) dX1_shorten_13
  · refine k_iload_n X dX1_shorten_4 rfl 1 rfl ?_
    refine k_aload_n X dX1_shorten_5 rfl 0 rfl ?_
    refine k_get (v := .int (nI k)) X 0 1 2 rfl rfl (by decide) fl_X1_19 in_X1 rfl rfl dX1_shorten_6 ?_
    refine k_icmp_le (tgt := 14) (xi := x.toInt) (yi := ((k : Nat) : Int)) X (rfl) (nI_toInt (by omega)) dX1_shorten_9 (by decide) (fun c_9 => ?_) (fun c_9 => ?_)
    · refine k_aload_n X dX1_shorten_14 rfl 0 rfl ?_
      refine k_iload_n X dX1_shorten_15 rfl 1 rfl ?_
      refine k_as (y := nI x.toNatClampNeg) ((i_of (n := k + 1) (by omega) (by omega)).2.1) ?_
      refine k_put (v := .int (nI x.toNatClampNeg)) (ty := .int) (ws' := [(r, .inr (1, [.int (nI mo), .ref a, .int (nI x.toNatClampNeg)]))]) X 0 1 2 tyX1 tyX1_ok nmX1 rfl rfl (by decide) fl_X1_19 in_X1 rfl rfl (by decide +kernel) rfl rfl (Nat.le_of_ble_eq_true rfl) rfl dX1_shorten_16 ?_
      refine k_iconst (v := 1) X dX1_shorten_19 (by decide) ?_
      exact k_zret (u := [(r, .inr (1, [.int (nI mo), .ref a, .int (nI x.toNatClampNeg)]))]) X (by first | rfl | exact b2i_nar _ | decide) hr [0] (by decide) rfl rfl (⟨by rw [b2i_t (by omega)], by rw [if_pos (by omega)]⟩) (by (try dsimp only); omega) (by (try dsimp only); omega) dX1_shorten_20
    · refine k_iconst (v := 0) X dX1_shorten_12 (by decide) ?_
      exact k_zret (u := [(r, .inr (1, [.int (nI mo), .ref a, .int (nI k)]))]) X (by first | rfl | exact b2i_nar _ | decide) hr [0] (by decide) rfl rfl (⟨by rw [b2i_f (by omega)], by rw [if_neg (by omega)]⟩) (by (try dsimp only); omega) (by (try dsimp only); omega) dX1_shorten_13
set_option maxHeartbeats 4000000 in
set_option maxRecDepth 100000 in
theorem c_joined (l : Launch) (D : va_G) (cI cB : ClassId) (x : Int32) (y : Int32)  : kC l yX1_joined cX1_joined 2 (some .int) 0 0 (0) (0) D cI cB [.int x, .int y] [] (fun (v : Option Value) (u : va_W) => v = some (.int (sJ x y)) ∧ u = []) := by
  refine k_entry (lv0 := [(0, .int x), (1, .int y)]) (by decide) (Nat.le_of_ble_eq_true rfl) rfl ?_
  intro zp ze zs zm zb zt zc zA X hr hin
  refine k_iload_n X dX1_joined_0 rfl 1 rfl ?_
  refine k_bipush (v := 16) X dX1_joined_1 (by decide) ?_
  refine k_ishl X dX1_joined_3 ?_
  refine k_iload_n X dX1_joined_4 rfl 0 rfl ?_
  refine k_ldc X kc_X1_48 dX1_joined_5 ?_
  refine k_iand X dX1_joined_7 ?_
  refine k_ior X dX1_joined_8 ?_
  refine k_as (y := sJ x y) (rfl) ?_
  exact k_iret (u := []) X hr [] (by decide) rfl rfl (⟨rfl, rfl⟩) (by (try dsimp only); omega) (by (try dsimp only); omega) dX1_joined_9
set_option maxHeartbeats 4000000 in
set_option maxRecDepth 100000 in
theorem c_sumFrom (l : Launch) (D : va_G) (cI cB : ClassId) (r : Nat) (a : Nat) (mo : Nat) (k : Nat) (n : Nat) (f : Nat → Int32) (x : Nat) (y : Nat) (hk : k ≤ n) (hn : n ≤ mo) (hmo : mo ≤ 8000) (hxy : x + y ≤ k) : kC l yX1_sumFrom cX1_sumFrom 6 (some .int) 1 22 (0) (0) D cI cB [.ref r, .int (nI x), .int (nI y)] [(r, .inr (1, [.int (nI mo), .ref a, .int (nI k)])), (a, .inl (cI, n, .inl f))] (fun (v : Option Value) (u : va_W) => v = some (.int (sSum f x y)) ∧ u = [(r, .inr (1, [.int (nI mo), .ref a, .int (nI k)])), (a, .inl (cI, n, .inl f))]) := by
  refine k_entry (lv0 := [(0, .ref r), (1, .int (nI x)), (2, .int (nI y))]) (by decide) (Nat.le_of_ble_eq_true rfl) rfl ?_
  intro zp ze zs zm zb zt zc zA X hr hin
  refine k_aload_n X dX1_sumFrom_0 rfl 0 rfl ?_
  refine k_iload_n X dX1_sumFrom_1 rfl 1 rfl ?_
  refine k_iload_n X dX1_sumFrom_2 rfl 2 rfl ?_
  refine k_callV (wc := [(r, .inr (1, [.int (nI mo), .ref a, .int (nI k)]))]) (wr := [(a, .inl (cI, n, .inl f))]) (As := [.int (nI x), .int (nI y)]) (n := 2) (st := []) (q0 := 0) X (c_holds l D cI cB r a mo k (nI x) (nI y) (by omega)) rfl rfl ml_X1_30 im_X1_holds se_X1_holds ini_X1 co_X1_holds (by decide +kernel) rfl ⟨Nat.le_of_ble_eq_true rfl, Nat.le_of_ble_eq_true rfl⟩ (⟨by (try dsimp only); omega, by (try dsimp only); omega⟩) (Nat.le_of_ble_eq_true rfl) [0] [1] rfl rfl rfl (by decide) (by decide) (by decide) rfl dX1_sumFrom_3 (fun v_3 u_3 hu_3 => ?_)
  obtain ⟨rfl, rfl⟩ := hu_3
  refine k_to (ws' := [(a, .inl (cI, n, .inl f)), (r, .inr (1, [.int (nI mo), .ref a, .int (nI k)]))]) (st' := [.int (b2i (decide (rHolds (nI x) (nI y) k)))]) rfl rfl ?_
  refine k_as (y := 1) (b2i_t ((rHolds_iff (by omega) (by omega)).mpr hxy)) ?_
  refine k_if_ne (tgt := 11) (xi := (1 : Int)) X (by decide) dX1_sumFrom_6 (by decide) (fun c_6 => ?_) (fun c_6 => ?_)
  · refine k_iconst (v := 0) X dX1_sumFrom_11 (by decide) ?_
    refine k_istore_n (lv' := [(3, .int 0), (0, .ref r), (1, .int (nI x)), (2, .int (nI y))]) X dX1_sumFrom_12 rfl (by decide) rfl ?_
    refine k_iconst (v := 0) X dX1_sumFrom_13 (by decide) ?_
    refine k_istore (lv' := [(4, .int 0), (3, .int 0), (0, .ref r), (1, .int (nI x)), (2, .int (nI y))]) X dX1_sumFrom_14 (by decide) rfl ?_
    refine k_iconst (v := 0) X dX1_sumFrom_16 (by decide) ?_
    refine k_istore (lv' := [(5, .int 0), (4, .int 0), (3, .int 0), (0, .ref r), (1, .int (nI x)), (2, .int (nI y))]) X dX1_sumFrom_17 (by decide) rfl ?_
    refine k_lv (lv' := [(0, .ref r), (1, .int (nI x)), (2, .int (nI y)), (3, .int (sA f x 0)), (4, .int (sB f x 0)), (5, .int (nI 0))]) [3, 4, 5, 2, 1, 0] rfl ?_
    refine k_wide (k := 0) (n := 0) (by (try dsimp only); omega) (by (try dsimp only); omega) ?_
    refine k_loop1 (pc1 := 19) (cl := fun (i : Nat) => 0) (sl := fun (i : Nat) => 0) (wsf := fun (i : Nat) => [(a, .inl (cI, n, .inl f)), (r, .inr (1, [.int (nI mo), .ref a, .int (nI k)]))]) (lvf := fun (i : Nat) => [(0, .ref r), (1, .int (nI x)), (2, .int (nI y)), (3, .int (sA f x i)), (4, .int (sB f x i)), (5, .int (nI i))]) (stf := fun (i : Nat) => []) (I := fun (i : Nat) => i ≤ y) (mu := fun (i : Nat) => y - i) ?_ 0 (Nat.zero_le _)
    intro i hI ih
    try dsimp only at hI ih
    try dsimp only
    refine k_iload X dX1_sumFrom_19 5 rfl ?_
    refine k_iload_n X dX1_sumFrom_21 rfl 2 rfl ?_
    refine k_icmp_ge (tgt := 49) (xi := ((i : Nat) : Int)) (yi := ((y : Nat) : Int)) X (nI_toInt (by omega)) (nI_toInt (by omega)) dX1_sumFrom_22 (by decide) (fun c_22 => ?_) (fun c_22 => ?_)
    · refine k_iload_n X dX1_sumFrom_49 rfl 3 rfl ?_
      refine k_iload X dX1_sumFrom_50 4 rfl ?_
      refine k_callS (wc := []) (wr := [(a, .inl (cI, n, .inl f)), (r, .inr (1, [.int (nI mo), .ref a, .int (nI k)]))]) (As := [.int (sA f x i), .int (sB f x i)]) (n := 2) (st := []) X (c_joined l D cI cB (sA f x i) (sB f x i) ) ml_X1_44 sm_X1_joined ini_X1 co_X1_joined (by decide +kernel) rfl ⟨Nat.le_of_ble_eq_true rfl, Nat.le_of_ble_eq_true rfl⟩ (⟨by (try dsimp only); omega, by (try dsimp only); omega⟩) (Nat.le_of_ble_eq_true rfl) [] [0, 1] rfl rfl rfl (by decide) (by decide) (by decide) rfl dX1_sumFrom_52 (fun v_52 u_52 hu_52 => ?_)
      obtain ⟨rfl, rfl⟩ := hu_52
      refine k_to (ws' := [(a, .inl (cI, n, .inl f)), (r, .inr (1, [.int (nI mo), .ref a, .int (nI k)]))]) (st' := [.int (sJ (sA f x i) (sB f x i))]) rfl rfl ?_
      refine k_as (y := sSum f x y) (by rw [show i = y by omega]; rfl) ?_
      exact k_iret (u := [(r, .inr (1, [.int (nI mo), .ref a, .int (nI k)])), (a, .inl (cI, n, .inl f))]) X hr [1, 0] (by decide) rfl rfl (⟨rfl, rfl⟩) (by (try dsimp only); omega) (by (try dsimp only); omega) dX1_sumFrom_55
    · refine k_iload_n X dX1_sumFrom_25 rfl 3 rfl ?_
      refine k_aload_n X dX1_sumFrom_26 rfl 0 rfl ?_
      refine k_get (v := .ref a) X 1 1 1 rfl rfl (by decide) fl_X1_15 in_X1 rfl rfl dX1_sumFrom_27 ?_
      refine k_iload_n X dX1_sumFrom_30 rfl 1 rfl ?_
      refine k_iload X dX1_sumFrom_31 5 rfl ?_
      refine k_iadd X dX1_sumFrom_33 ?_
      refine k_as (y := nI (x + i)) (nI_add _ _) ?_
      refine k_iald (v := f (x + i)) X 0 rfl (vp_in_nI (n := x + i) (by omega) (by omega)) (by rw [nI_clamp (n := x + i) (by omega)]) dX1_sumFrom_34 ?_
      refine k_iadd X dX1_sumFrom_35 ?_
      refine k_as (y := sA f x (i + 1)) (rfl) ?_
      refine k_istore_n (lv' := [(3, .int (sA f x (i + 1))), (0, .ref r), (1, .int (nI x)), (2, .int (nI y)), (4, .int (sB f x i)), (5, .int (nI i))]) X dX1_sumFrom_36 rfl (by decide) rfl ?_
      refine k_iload X dX1_sumFrom_37 4 rfl ?_
      refine k_iload_n X dX1_sumFrom_39 rfl 0 rfl ?_
      refine k_iadd X dX1_sumFrom_40 ?_
      refine k_as (y := sB f x (i + 1)) (rfl) ?_
      refine k_istore (lv' := [(4, .int (sB f x (i + 1))), (3, .int (sA f x (i + 1))), (0, .ref r), (1, .int (nI x)), (2, .int (nI y)), (5, .int (nI i))]) X dX1_sumFrom_41 (by decide) rfl ?_
      refine k_iinc (v := nI (i + 1)) (lv' := [(5, .int (nI (i + 1))), (4, .int (sB f x (i + 1))), (3, .int (sA f x (i + 1))), (0, .ref r), (1, .int (nI x)), (2, .int (nI y))]) X dX1_sumFrom_43 5 rfl (nI_1 _) (by decide) rfl ?_
      refine k_goto (tgt := 19) X dX1_sumFrom_46 (by decide) ?_
      refine k_lv (lv' := [(0, .ref r), (1, .int (nI x)), (2, .int (nI y)), (3, .int (sA f x (i + 1))), (4, .int (sB f x (i + 1))), (5, .int (nI (i + 1)))]) [3, 4, 5, 2, 1, 0] rfl ?_
      refine k_sub (ws' := [(a, .inl (cI, n, .inl f)), (r, .inr (1, [.int (nI mo), .ref a, .int (nI k)]))]) [0, 1] (by decide) rfl rfl ?_
      refine k_wide (k := 0) (n := 0) (by (try dsimp only); omega) (by (try dsimp only); omega) ?_
      exact ih (i + 1) (by omega) (by omega)
  · exact absurd c_6 (by decide)
set_option maxHeartbeats 4000000 in
set_option maxRecDepth 100000 in
theorem c_sumFrom_f (l : Launch) (D : va_G) (cI cB : ClassId) (r : Nat) (a : Nat) (mo : Nat) (k : Nat) (x : Int32) (y : Int32) (hk : k ≤ 8000) (hxy : ¬ rHolds x y k) : kC l yX1_sumFrom cX1_sumFrom 6 (some .int) 1 22 (0) (0) D cI cB [.ref r, .int x, .int y] [(r, .inr (1, [.int (nI mo), .ref a, .int (nI k)]))] (fun (v : Option Value) (u : va_W) => v = some (.int 0) ∧ u = [(r, .inr (1, [.int (nI mo), .ref a, .int (nI k)]))]) := by
  refine k_entry (lv0 := [(0, .ref r), (1, .int x), (2, .int y)]) (by decide) (Nat.le_of_ble_eq_true rfl) rfl ?_
  intro zp ze zs zm zb zt zc zA X hr hin
  refine k_aload_n X dX1_sumFrom_0 rfl 0 rfl ?_
  refine k_iload_n X dX1_sumFrom_1 rfl 1 rfl ?_
  refine k_iload_n X dX1_sumFrom_2 rfl 2 rfl ?_
  refine k_callV (wc := [(r, .inr (1, [.int (nI mo), .ref a, .int (nI k)]))]) (wr := []) (As := [.int x, .int y]) (n := 2) (st := []) (q0 := 0) X (c_holds l D cI cB r a mo k x y (by omega)) rfl rfl ml_X1_30 im_X1_holds se_X1_holds ini_X1 co_X1_holds (by decide +kernel) rfl ⟨Nat.le_of_ble_eq_true rfl, Nat.le_of_ble_eq_true rfl⟩ (⟨by (try dsimp only); omega, by (try dsimp only); omega⟩) (Nat.le_of_ble_eq_true rfl) [0] [] rfl rfl rfl (by decide) (by decide) (by decide) rfl dX1_sumFrom_3 (fun v_3 u_3 hu_3 => ?_)
  obtain ⟨rfl, rfl⟩ := hu_3
  refine k_to (ws' := [(r, .inr (1, [.int (nI mo), .ref a, .int (nI k)]))]) (st' := [.int (b2i (decide (rHolds x y k)))]) rfl rfl ?_
  refine k_as (y := 0) (b2i_f hxy) ?_
  refine k_if_ne (tgt := 11) (xi := (0 : Int)) X (by decide) dX1_sumFrom_6 (by decide) (fun c_6 => ?_) (fun c_6 => ?_)
  · exact absurd c_6 (by decide)
  · refine k_iconst (v := 0) X dX1_sumFrom_9 (by decide) ?_
    exact k_iret (u := [(r, .inr (1, [.int (nI mo), .ref a, .int (nI k)]))]) X hr [0] (by decide) rfl rfl (⟨rfl, rfl⟩) (by (try dsimp only); omega) (by (try dsimp only); omega) dX1_sumFrom_10
set_option maxHeartbeats 4000000 in
set_option maxRecDepth 100000 in
theorem c_equalTo (l : Launch) (D : va_G) (cI cB : ClassId) (r : Nat) (a : Nat) (mo : Nat) (k : Nat) (n : Nat) (f : Nat → Int32) (r2 : Nat) (a2 : Nat) (mo2 : Nat) (k2 : Nat) (n2 : Nat) (f2 : Nat → Int32) (hk : k ≤ n) (hn : n ≤ mo) (hmo : mo ≤ 8000) (hk2 : k2 ≤ n2) (hn2 : n2 ≤ 8000) : kC l yX1_equalTo cX1_equalTo 3 (some .boolean) 0 0 (0) (0) D cI cB [.ref r, .ref r2] [(r, .inr (1, [.int (nI mo), .ref a, .int (nI k)])), (a, .inl (cI, n, .inl f)), (r2, .inr (1, [.int (nI mo2), .ref a2, .int (nI k2)])), (a2, .inl (cI, n2, .inl f2))] (fun (v : Option Value) (u : va_W) => ∃ (bb : Bool), v = some (.int (b2i bb)) ∧ u = [(r, .inr (1, [.int (nI mo), .ref a, .int (nI k)])), (a, .inl (cI, n, .inl f)), (r2, .inr (1, [.int (nI mo2), .ref a2, .int (nI k2)])), (a2, .inl (cI, n2, .inl f2))] ∧ (bb = true ↔ (k = k2 ∧ ∀ j, j < k → f j = f2 j))) := by
  refine k_entry (lv0 := [(0, .ref r), (1, .ref r2)]) (by decide) (Nat.le_of_ble_eq_true rfl) rfl ?_
  intro zp ze zs zm zb zt zc zA X hr hin
  refine k_aload_n X dX1_equalTo_0 rfl 0 rfl ?_
  refine k_get (v := .int (nI k)) X 0 1 2 rfl rfl (by decide) fl_X1_19 in_X1 rfl rfl dX1_equalTo_1 ?_
  refine k_aload_n X dX1_equalTo_4 rfl 1 rfl ?_
  refine k_get (v := .int (nI k2)) X 2 1 2 rfl rfl (by decide) fl_X1_19 in_X1 rfl rfl dX1_equalTo_5 ?_
  refine k_icmp_eq (tgt := 13) (xi := ((k : Nat) : Int)) (yi := ((k2 : Nat) : Int)) X (nI_toInt (by omega)) (nI_toInt (by omega)) dX1_equalTo_8 (by decide) (fun c_8 => ?_) (fun c_8 => ?_)
  · refine k_iconst (v := 0) X dX1_equalTo_13 (by decide) ?_
    refine k_istore_n (lv' := [(2, .int 0), (0, .ref r), (1, .ref r2)]) X dX1_equalTo_14 rfl (by decide) rfl ?_
    refine k_lv (lv' := [(0, .ref r), (1, .ref r2), (2, .int (nI 0))]) [1, 2, 0] rfl ?_
    refine k_wide (k := 0) (n := 0) (by (try dsimp only); omega) (by (try dsimp only); omega) ?_
    refine k_loop1 (pc1 := 15) (cl := fun (i : Nat) => 0) (sl := fun (i : Nat) => 0) (wsf := fun (i : Nat) => [(r, .inr (1, [.int (nI mo), .ref a, .int (nI k)])), (a, .inl (cI, n, .inl f)), (r2, .inr (1, [.int (nI mo2), .ref a2, .int (nI k2)])), (a2, .inl (cI, n2, .inl f2))]) (lvf := fun (i : Nat) => [(0, .ref r), (1, .ref r2), (2, .int (nI i))]) (stf := fun (i : Nat) => []) (I := fun (i : Nat) => i ≤ k ∧ ∀ j, j < i → f j = f2 j) (mu := fun (i : Nat) => k - i) ?_ 0 (⟨Nat.zero_le _, fun j h => absurd h (Nat.not_lt_zero j)⟩)
    intro i hI ih
    try dsimp only at hI ih
    try dsimp only
    have hi := hI.1
    refine k_iload_n X dX1_equalTo_15 rfl 2 rfl ?_
    refine k_aload_n X dX1_equalTo_16 rfl 0 rfl ?_
    refine k_get (v := .int (nI k)) X 0 1 2 rfl rfl (by decide) fl_X1_19 in_X1 rfl rfl dX1_equalTo_17 ?_
    refine k_icmp_ge (tgt := 46) (xi := ((i : Nat) : Int)) (yi := ((k : Nat) : Int)) X (nI_toInt (by omega)) (nI_toInt (by omega)) dX1_equalTo_20 (by decide) (fun c_20 => ?_) (fun c_20 => ?_)
    · refine k_iconst (v := 1) X dX1_equalTo_46 (by decide) ?_
      exact k_zret (u := [(r, .inr (1, [.int (nI mo), .ref a, .int (nI k)])), (a, .inl (cI, n, .inl f)), (r2, .inr (1, [.int (nI mo2), .ref a2, .int (nI k2)])), (a2, .inl (cI, n2, .inl f2))]) X (by first | rfl | exact b2i_nar _ | decide) hr [0, 1, 2, 3] (by decide) rfl rfl (⟨true, rfl, rfl, ⟨fun _ => ⟨by omega, fun j hj => hI.2 j (by omega)⟩, fun _ => rfl⟩⟩) (by (try dsimp only); omega) (by (try dsimp only); omega) dX1_equalTo_47
    · refine k_aload_n X dX1_equalTo_23 rfl 0 rfl ?_
      refine k_get (v := .ref a) X 0 1 1 rfl rfl (by decide) fl_X1_15 in_X1 rfl rfl dX1_equalTo_24 ?_
      refine k_iload_n X dX1_equalTo_27 rfl 2 rfl ?_
      refine k_iald (v := f i) X 1 rfl (vp_in_nI (n := i) (by omega) (by omega)) (by rw [nI_clamp (n := i) (by omega)]) dX1_equalTo_28 ?_
      refine k_aload_n X dX1_equalTo_29 rfl 1 rfl ?_
      refine k_get (v := .ref a2) X 2 1 1 rfl rfl (by decide) fl_X1_15 in_X1 rfl rfl dX1_equalTo_30 ?_
      refine k_iload_n X dX1_equalTo_33 rfl 2 rfl ?_
      refine k_iald (v := f2 i) X 3 rfl (vp_in_nI (n := i) (by omega) (by omega)) (by rw [nI_clamp (n := i) (by omega)]) dX1_equalTo_34 ?_
      refine k_icmp_eq (tgt := 40) (xi := (f i).toInt) (yi := (f2 i).toInt) X (rfl) (rfl) dX1_equalTo_35 (by decide) (fun c_35 => ?_) (fun c_35 => ?_)
      · refine k_iinc (v := nI (i + 1)) (lv' := [(2, .int (nI (i + 1))), (0, .ref r), (1, .ref r2)]) X dX1_equalTo_40 2 rfl (nI_1 _) (by decide) rfl ?_
        refine k_goto (tgt := 15) X dX1_equalTo_43 (by decide) ?_
        refine k_lv (lv' := [(0, .ref r), (1, .ref r2), (2, .int (nI (i + 1)))]) [1, 2, 0] rfl ?_
        refine k_sub (ws' := [(r, .inr (1, [.int (nI mo), .ref a, .int (nI k)])), (a, .inl (cI, n, .inl f)), (r2, .inr (1, [.int (nI mo2), .ref a2, .int (nI k2)])), (a2, .inl (cI, n2, .inl f2))]) [0, 1, 2, 3] (by decide) rfl rfl ?_
        refine k_wide (k := 0) (n := 0) (by (try dsimp only); omega) (by (try dsimp only); omega) ?_
        exact ih (i + 1) (⟨by omega, lt_s hI.2 (Int32.toInt_inj.mp c_35)⟩) (by omega)
      · refine k_iconst (v := 0) X dX1_equalTo_38 (by decide) ?_
        exact k_zret (u := [(r, .inr (1, [.int (nI mo), .ref a, .int (nI k)])), (a, .inl (cI, n, .inl f)), (r2, .inr (1, [.int (nI mo2), .ref a2, .int (nI k2)])), (a2, .inl (cI, n2, .inl f2))]) X (by first | rfl | exact b2i_nar _ | decide) hr [0, 1, 2, 3] (by decide) rfl rfl (⟨false, rfl, rfl, ⟨fun h => absurd h (by decide), fun h => absurd (congrArg Int32.toInt (h.2 i (by omega))) c_35⟩⟩) (by (try dsimp only); omega) (by (try dsimp only); omega) dX1_equalTo_39
  · refine k_iconst (v := 0) X dX1_equalTo_11 (by decide) ?_
    exact k_zret (u := [(r, .inr (1, [.int (nI mo), .ref a, .int (nI k)])), (a, .inl (cI, n, .inl f)), (r2, .inr (1, [.int (nI mo2), .ref a2, .int (nI k2)])), (a2, .inl (cI, n2, .inl f2))]) X (by first | rfl | exact b2i_nar _ | decide) hr [0, 1, 2, 3] (by decide) rfl rfl (⟨false, rfl, rfl, ⟨fun h => absurd h (by decide), fun h => absurd h.1 (by omega)⟩⟩) (by (try dsimp only); omega) (by (try dsimp only); omega) dX1_equalTo_12
set_option maxHeartbeats 4000000 in
set_option maxRecDepth 100000 in
theorem c_copyOf (l : Launch) (D : va_G) (cI cB : ClassId) (a : Nat) (n : Nat) (f : Nat → Int32) (N : Nat) (h1 : n < N) (h2 : N < 2 ^ 27) : kC l yJ7_copyOf_59c91 cJ7_copyOf_59c91 3 (some (.array .int)) 1 40 (1) (N) D cI cB [.ref a, .int (nI N)] [(a, .inl (cI, n, .inl f))] (fun (v : Option Value) (u : va_W) => ∃ (q : Nat), v = some (.ref q) ∧ u = [(a, .inl (cI, n, .inl f)), (q, .inl (cI, N, .inl (va_cpy f (fun _ => 0) 0 0 n)))]) := by
  refine k_entry (lv0 := [(0, .ref a), (1, .int (nI N))]) (by decide) (Nat.le_of_ble_eq_true rfl) rfl ?_
  intro zp ze zs zm zb zt zc zA X hr hin
  refine k_iload_n X dJ7_copyOf_59c91_0 rfl 1 rfl ?_
  refine k_aload_n X dJ7_copyOf_59c91_1 rfl 0 rfl ?_
  refine k_alenI (v := nI n) X 0 rfl rfl dJ7_copyOf_59c91_2 ?_
  refine k_icmp_ne (tgt := 14) (xi := ((N : Nat) : Int)) (yi := ((n : Nat) : Int)) X (nI_toInt (by omega)) (nI_toInt (by omega)) dJ7_copyOf_59c91_3 (by decide) (fun c_3 => ?_) (fun c_3 => ?_)
  · refine k_iload_n X dJ7_copyOf_59c91_14 rfl 1 rfl ?_
    refine k_newI X N (rfl) (by omega) ac_int (by (try dsimp only); omega) (by (try dsimp only); omega) dJ7_copyOf_59c91_15 (fun q_1 => ?_)
    refine k_ws (ws' := [(a, .inl (cI, n, .inl f)), (q_1, .inl (cI, N, .inl (fun _ => 0)))]) rfl ?_
    refine k_astore_n (lv' := [(2, .ref q_1), (0, .ref a), (1, .int (nI N))]) X dJ7_copyOf_59c91_17 rfl (by decide) rfl ?_
    refine k_aload_n X dJ7_copyOf_59c91_18 rfl 1 rfl ?_
    refine k_iconst (v := 0) X dJ7_copyOf_59c91_19 (by decide) ?_
    refine k_aload_n X dJ7_copyOf_59c91_20 rfl 0 rfl ?_
    refine k_iconst (v := 0) X dJ7_copyOf_59c91_21 (by decide) ?_
    refine k_aload_n X dJ7_copyOf_59c91_22 rfl 1 rfl ?_
    refine k_alenI (v := nI n) X 0 rfl rfl dJ7_copyOf_59c91_23 ?_
    refine k_iload_n X dJ7_copyOf_59c91_24 rfl 2 rfl ?_
    refine k_mmin X ml_J7_304 sm_Mmin ini_J9 co_Mmin (Nat.le_of_ble_eq_true rfl) (Nat.le_of_ble_eq_true rfl) (by (try dsimp only); omega) (by (try dsimp only); omega) dJ7_copyOf_59c91_25 ?_
    refine k_as (y := nI n) (if_neg (nI_nlt (by omega) (by omega))) ?_
    refine k_copy (f' := va_cpy f (fun _ => 0) 0 0 n) (ws' := [(a, .inl (cI, n, .inl f)), (q_1, .inl (cI, N, .inl (va_cpy f (fun _ => 0) 0 0 n)))]) X 0 1 ml_J7_150 nt_arraycopy sm_arraycopy ini_J10 rfl rfl (by decide) (by decide) (nI_pos (by omega)) (by rw [sb_cl0, nI_clamp (by omega)]; omega) (by rw [sb_cl0, nI_clamp (by omega)]; omega) (by rw [sb_cl0, nI_clamp (by omega)]) rfl (Nat.le_of_ble_eq_true rfl) (Nat.le_of_ble_eq_true rfl) dJ7_copyOf_59c91_28 ?_
    refine k_aload_n X dJ7_copyOf_59c91_31 rfl 0 rfl ?_
    exact k_aret (u := [(a, .inl (cI, n, .inl f)), (q_1, .inl (cI, N, .inl (va_cpy f (fun _ => 0) 0 0 n)))]) X (Or.inr ⟨_, rfl⟩) (Or.inr ⟨_, rfl⟩) hr [0, 1] (by decide) rfl rfl (⟨q_1, rfl, rfl⟩) (by (try dsimp only); omega) (by (try dsimp only); omega) dJ7_copyOf_59c91_32
  · exact absurd c_3 (by omega)
set_option maxHeartbeats 4000000 in
set_option maxRecDepth 100000 in
theorem c_makeCells (l : Launch) (D : va_G) (cI cB : ClassId) (r : Nat) (a : Nat) (mo : Nat) (k : Nat) (n : Nat) (f : Nat → Int32) (w : Nat) (hw : w ≤ mo) (hn : n ≤ mo) (hmo : mo ≤ 8000) (h1 : 1 ≤ n) : kC l yX1_makeCells cX1_makeCells 2 none 2 62 (1) (rCost mo n w) D cI cB [.ref r, .int (nI w)] [(r, .inr (1, [.int (nI mo), .ref a, .int (nI k)])), (a, .inl (cI, n, .inl f))] (fun (v : Option Value) (u : va_W) => ∃ (a2 : Nat) (f2 : Nat → Int32), v = none ∧ u = [(r, .inr (1, [.int (nI mo), .ref a2, .int (nI k)])), (a2, .inl (cI, rCap mo n w, .inl f2))] ∧ (∀ j, j < n → f2 j = f j)) := by
  refine k_entry (lv0 := [(0, .ref r), (1, .int (nI w))]) (by decide) (Nat.le_of_ble_eq_true rfl) rfl ?_
  intro zp ze zs zm zb zt zc zA X hr hin
  refine k_iload_n X dX1_makeCells_0 rfl 1 rfl ?_
  refine k_aload_n X dX1_makeCells_1 rfl 0 rfl ?_
  refine k_get (v := .ref a) X 0 1 1 rfl rfl (by decide) fl_X1_15 in_X1 rfl rfl dX1_makeCells_2 ?_
  refine k_alenI (v := nI n) X 1 rfl rfl dX1_makeCells_5 ?_
  refine k_icmp_le (tgt := 38) (xi := ((w : Nat) : Int)) (yi := ((n : Nat) : Int)) X (nI_toInt (by omega)) (nI_toInt (by omega)) dX1_makeCells_6 (by decide) (fun c_6 => ?_) (fun c_6 => ?_)
  · exact k_vret (u := [(r, .inr (1, [.int (nI mo), .ref a, .int (nI k)])), (a, .inl (cI, n, .inl f))]) X hr [0, 1] (by decide) rfl rfl (⟨a, f, rfl, by rw [rCap, if_pos (by omega)], fun _ _ => rfl⟩) (by (try dsimp only); omega) (by (try dsimp only); omega) dX1_makeCells_38
  · refine k_aload_n X dX1_makeCells_9 rfl 0 rfl ?_
    refine k_aload_n X dX1_makeCells_10 rfl 0 rfl ?_
    refine k_get (v := .ref a) X 0 1 1 rfl rfl (by decide) fl_X1_15 in_X1 rfl rfl dX1_makeCells_11 ?_
    refine k_iload_n X dX1_makeCells_14 rfl 1 rfl ?_
    refine k_aload_n X dX1_makeCells_15 rfl 0 rfl ?_
    refine k_get (v := .int (nI mo)) X 0 1 0 rfl rfl (by decide) fl_X1_9 in_X1 rfl rfl dX1_makeCells_16 ?_
    refine k_iconst (v := 2) X dX1_makeCells_19 (by decide) ?_
    refine k_aload_n X dX1_makeCells_20 rfl 0 rfl ?_
    refine k_get (v := .ref a) X 0 1 1 rfl rfl (by decide) fl_X1_15 in_X1 rfl rfl dX1_makeCells_21 ?_
    refine k_alenI (v := nI n) X 1 rfl rfl dX1_makeCells_24 ?_
    refine k_imul X dX1_makeCells_25 ?_
    refine k_as (y := nI (2 * n)) (by rw [show (2 : Int32) = nI 2 from rfl, pk_mul]) ?_
    refine k_mmin X ml_X1_49 sm_Mmin ini_J9 co_Mmin (Nat.le_of_ble_eq_true rfl) (Nat.le_of_ble_eq_true rfl) (by (try dsimp only); omega) (by (try dsimp only); omega) dX1_makeCells_26 ?_
    refine k_as (y := nI (min mo (2 * n))) (mnI (by omega) (by omega)) ?_
    refine k_mmax X ml_X1_54 sm_Mmax ini_J9 co_Mmax (Nat.le_of_ble_eq_true rfl) (Nat.le_of_ble_eq_true rfl) (by (try dsimp only); omega) (by (try dsimp only); omega) dX1_makeCells_29 ?_
    refine k_as (y := nI (max w (min mo (2 * n)))) (mxI (by omega) (by omega)) ?_
    refine k_callS (wc := [(a, .inl (cI, n, .inl f))]) (wr := [(r, .inr (1, [.int (nI mo), .ref a, .int (nI k)]))]) (As := [.ref a, .int (nI (max w (min mo (2 * n))))]) (n := 2) (st := [.ref r]) X (c_copyOf l D cI cB a n f (max w (min mo (2 * n))) (by omega) (by omega)) ml_X1_57 sm_J7_copyOf_59c91 ini_J7 co_J7_copyOf_59c91 (by decide +kernel) rfl ⟨Nat.le_of_ble_eq_true rfl, Nat.le_of_ble_eq_true rfl⟩ (⟨by (try dsimp only); omega, by (try dsimp only); rw [rCost, if_neg (by omega)]; omega⟩) (Nat.le_of_ble_eq_true rfl) [1] [0] rfl rfl rfl (by decide) (by decide) (by decide) rfl dX1_makeCells_32 (fun v_32 u_32 hu_32 => ?_)
    obtain ⟨q, rfl, rfl⟩ := hu_32
    refine k_to (ws' := [(r, .inr (1, [.int (nI mo), .ref a, .int (nI k)])), (a, .inl (cI, n, .inl f)), (q, .inl (cI, (max w (min mo (2 * n))), .inl (va_cpy f (fun _ => 0) 0 0 n)))]) (st' := [.ref q, .ref r]) rfl rfl ?_
    refine k_put (v := .ref q) (ty := .array .int) (ws' := [(r, .inr (1, [.int (nI mo), .ref q, .int (nI k)])), (a, .inl (cI, n, .inl f)), (q, .inl (cI, (max w (min mo (2 * n))), .inl (va_cpy f (fun _ => 0) 0 0 n)))]) X 0 1 1 tyX1 tyX1_ok nmX1 rfl rfl (by decide) fl_X1_15 in_X1 rfl rfl (by decide +kernel) rfl rfl (Nat.le_of_ble_eq_true rfl) rfl dX1_makeCells_35 ?_
    exact k_vret (u := [(r, .inr (1, [.int (nI mo), .ref q, .int (nI k)])), (q, .inl (cI, (max w (min mo (2 * n))), .inl (va_cpy f (fun _ => 0) 0 0 n)))]) X hr [0, 2] (by decide) rfl rfl (⟨q, _, rfl, by rw [rCap, if_neg (by omega)], fun j hj => by rw [pk_cpy_in (by omega) (by omega)]; congr 1; omega⟩) (by (try dsimp only); omega) (by (try dsimp only); rw [rCost, if_neg (by omega)]; omega) dX1_makeCells_38
set_option maxHeartbeats 4000000 in
set_option maxRecDepth 100000 in
theorem c_add (l : Launch) (D : va_G) (cI cB : ClassId) (r : Nat) (a : Nat) (mo : Nat) (k : Nat) (n : Nat) (f : Nat → Int32) (b : Int32) (hk : k ≤ n) (hn : n ≤ mo) (hmo : mo ≤ 8000) (h1 : 1 ≤ n) (hkm : k < mo) (hb : rByte b) : kC l yX1_add cX1_add 2 (some .boolean) 3 83 (1) (rCost mo n (k + 1)) D cI cB [.ref r, .int b] [(r, .inr (1, [.int (nI mo), .ref a, .int (nI k)])), (a, .inl (cI, n, .inl f))] (fun (v : Option Value) (u : va_W) => ∃ (a2 : Nat) (f2 : Nat → Int32), v = some (.int 1) ∧ u = [(r, .inr (1, [.int (nI mo), .ref a2, .int (nI (k + 1))])), (a2, .inl (cI, rCap mo n (k + 1), .inl f2))] ∧ (f2 k = b) ∧ (∀ j, j < k → f2 j = f j)) := by
  refine k_entry (lv0 := [(0, .ref r), (1, .int b)]) (by decide) (Nat.le_of_ble_eq_true rfl) rfl ?_
  intro zp ze zs zm zb zt zc zA X hr hin
  refine k_aload_n X dX1_add_0 rfl 0 rfl ?_
  refine k_get (v := .int (nI k)) X 0 1 2 rfl rfl (by decide) fl_X1_19 in_X1 rfl rfl dX1_add_1 ?_
  refine k_aload_n X dX1_add_4 rfl 0 rfl ?_
  refine k_get (v := .int (nI mo)) X 0 1 0 rfl rfl (by decide) fl_X1_9 in_X1 rfl rfl dX1_add_5 ?_
  refine k_icmp_ge (tgt := 18) (xi := ((k : Nat) : Int)) (yi := ((mo : Nat) : Int)) X (nI_toInt (by omega)) (nI_toInt (by omega)) dX1_add_8 (by decide) (fun c_8 => ?_) (fun c_8 => ?_)
  · exact absurd c_8 (by omega)
  · refine k_iload_n X dX1_add_11 rfl 1 rfl ?_
    refine k_callS (wc := []) (wr := [(r, .inr (1, [.int (nI mo), .ref a, .int (nI k)])), (a, .inl (cI, n, .inl f))]) (As := [.int b]) (n := 1) (st := []) X (c_isByte l D cI cB b ) ml_X1_22 sm_X1_isByte ini_X1 co_X1_isByte (by decide +kernel) rfl ⟨Nat.le_of_ble_eq_true rfl, Nat.le_of_ble_eq_true rfl⟩ (⟨by (try dsimp only); omega, by (try dsimp only); omega⟩) (Nat.le_of_ble_eq_true rfl) [] [0, 1] rfl rfl rfl (by decide) (by decide) (by decide) rfl dX1_add_12 (fun v_12 u_12 hu_12 => ?_)
    obtain ⟨rfl, rfl⟩ := hu_12
    refine k_to (ws' := [(r, .inr (1, [.int (nI mo), .ref a, .int (nI k)])), (a, .inl (cI, n, .inl f))]) (st' := [.int (b2i (decide (rByte b)))]) rfl rfl ?_
    refine k_as (y := 1) (b2i_t hb) ?_
    refine k_if_ne (tgt := 20) (xi := (1 : Int)) X (by decide) dX1_add_15 (by decide) (fun c_15 => ?_) (fun c_15 => ?_)
    · refine k_aload_n X dX1_add_20 rfl 0 rfl ?_
      refine k_aload_n X dX1_add_21 rfl 0 rfl ?_
      refine k_get (v := .int (nI k)) X 0 1 2 rfl rfl (by decide) fl_X1_19 in_X1 rfl rfl dX1_add_22 ?_
      refine k_iconst (v := 1) X dX1_add_25 (by decide) ?_
      refine k_iadd X dX1_add_26 ?_
      refine k_as (y := nI (k + 1)) (nI_1 k) ?_
      refine k_callV (wc := [(r, .inr (1, [.int (nI mo), .ref a, .int (nI k)])), (a, .inl (cI, n, .inl f))]) (wr := []) (As := [.int (nI (k + 1))]) (n := 1) (st := []) (q0 := 0) X (c_makeCells l D cI cB r a mo k n f (k + 1) (by omega) (hn) (hmo) (h1)) rfl rfl ml_X1_26 im_X1_makeCells se_X1_makeCells ini_X1 co_X1_makeCells (by decide +kernel) rfl ⟨Nat.le_of_ble_eq_true rfl, Nat.le_of_ble_eq_true rfl⟩ (⟨by (try dsimp only); omega, by (try dsimp only); omega⟩) (Nat.le_of_ble_eq_true rfl) [0, 1] [] rfl rfl rfl (by decide) (by decide) (by decide) rfl dX1_add_27 (fun v_27 u_27 hu_27 => ?_)
      obtain ⟨a3, f3, rfl, rfl, hf3⟩ := hu_27
      refine k_to (ws' := [(r, .inr (1, [.int (nI mo), .ref a3, .int (nI k)])), (a3, .inl (cI, rCap mo n (k + 1), .inl f3))]) (st' := []) rfl rfl ?_
      have hcap : k + 1 ≤ rCap mo n (k + 1) ∧ rCap mo n (k + 1) ≤ 8000 := by rw [rCap]; split <;> omega
      refine k_aload_n X dX1_add_30 rfl 0 rfl ?_
      refine k_get (v := .ref a3) X 0 1 1 rfl rfl (by decide) fl_X1_15 in_X1 rfl rfl dX1_add_31 ?_
      refine k_aload_n X dX1_add_34 rfl 0 rfl ?_
      refine k_get (v := .int (nI k)) X 0 1 2 rfl rfl (by decide) fl_X1_19 in_X1 rfl rfl dX1_add_35 ?_
      refine k_iload_n X dX1_add_38 rfl 1 rfl ?_
      refine k_iast (f' := upd f3 k b) (ws' := [(r, .inr (1, [.int (nI mo), .ref a3, .int (nI k)])), (a3, .inl (cI, rCap mo n (k + 1), .inl (upd f3 k b)))]) X 1 rfl (vp_in_nI (n := k) (by omega) (by omega)) (by rw [nI_clamp (n := k) (by omega)]) rfl dX1_add_39 ?_
      refine k_aload_n X dX1_add_40 rfl 0 rfl ?_
      refine k_dup X dX1_add_41 rfl ?_
      refine k_get (v := .int (nI k)) X 0 1 2 rfl rfl (by decide) fl_X1_19 in_X1 rfl rfl dX1_add_42 ?_
      refine k_iconst (v := 1) X dX1_add_45 (by decide) ?_
      refine k_iadd X dX1_add_46 ?_
      refine k_as (y := nI (k + 1)) (nI_1 k) ?_
      refine k_put (v := .int (nI (k + 1))) (ty := .int) (ws' := [(r, .inr (1, [.int (nI mo), .ref a3, .int (nI (k + 1))])), (a3, .inl (cI, rCap mo n (k + 1), .inl (upd f3 k b)))]) X 0 1 2 tyX1 tyX1_ok nmX1 rfl rfl (by decide) fl_X1_19 in_X1 rfl rfl (by decide +kernel) rfl rfl (Nat.le_of_ble_eq_true rfl) rfl dX1_add_47 ?_
      refine k_iconst (v := 1) X dX1_add_50 (by decide) ?_
      exact k_zret (u := [(r, .inr (1, [.int (nI mo), .ref a3, .int (nI (k + 1))])), (a3, .inl (cI, rCap mo n (k + 1), .inl (upd f3 k b)))]) X (by first | rfl | exact b2i_nar _ | decide) hr [0, 1] (by decide) rfl rfl (⟨a3, _, rfl, rfl, pk_us, fun j hj => by rw [pk_un (by omega), hf3 j (by omega)]⟩) (by (try dsimp only); omega) (by (try dsimp only); omega) dX1_add_51
    · exact absurd c_15 (by decide)
set_option maxHeartbeats 4000000 in
set_option maxRecDepth 100000 in
theorem c_add_f (l : Launch) (D : va_G) (cI cB : ClassId) (r : Nat) (a : Nat) (mo : Nat) (k : Nat) (b : Int32) (hk : k ≤ mo) (hmo : mo ≤ 8000) (hf : ¬ (k < mo ∧ rByte b)) : kC l yX1_add cX1_add 2 (some .boolean) 1 20 (0) (0) D cI cB [.ref r, .int b] [(r, .inr (1, [.int (nI mo), .ref a, .int (nI k)]))] (fun (v : Option Value) (u : va_W) => v = some (.int 0) ∧ u = [(r, .inr (1, [.int (nI mo), .ref a, .int (nI k)]))]) := by
  refine k_entry (lv0 := [(0, .ref r), (1, .int b)]) (by decide) (Nat.le_of_ble_eq_true rfl) rfl ?_
  intro zp ze zs zm zb zt zc zA X hr hin
  refine k_aload_n X dX1_add_0 rfl 0 rfl ?_
  refine k_get (v := .int (nI k)) X 0 1 2 rfl rfl (by decide) fl_X1_19 in_X1 rfl rfl dX1_add_1 ?_
  refine k_aload_n X dX1_add_4 rfl 0 rfl ?_
  refine k_get (v := .int (nI mo)) X 0 1 0 rfl rfl (by decide) fl_X1_9 in_X1 rfl rfl dX1_add_5 ?_
  refine k_icmp_ge (tgt := 18) (xi := ((k : Nat) : Int)) (yi := ((mo : Nat) : Int)) X (nI_toInt (by omega)) (nI_toInt (by omega)) dX1_add_8 (by decide) (fun c_8 => ?_) (fun c_8 => ?_)
  · refine k_iconst (v := 0) X dX1_add_18 (by decide) ?_
    exact k_zret (u := [(r, .inr (1, [.int (nI mo), .ref a, .int (nI k)]))]) X (by first | rfl | exact b2i_nar _ | decide) hr [0] (by decide) rfl rfl (⟨rfl, rfl⟩) (by (try dsimp only); omega) (by (try dsimp only); omega) dX1_add_19
  · refine k_iload_n X dX1_add_11 rfl 1 rfl ?_
    refine k_callS (wc := []) (wr := [(r, .inr (1, [.int (nI mo), .ref a, .int (nI k)]))]) (As := [.int b]) (n := 1) (st := []) X (c_isByte l D cI cB b ) ml_X1_22 sm_X1_isByte ini_X1 co_X1_isByte (by decide +kernel) rfl ⟨Nat.le_of_ble_eq_true rfl, Nat.le_of_ble_eq_true rfl⟩ (⟨by (try dsimp only); omega, by (try dsimp only); omega⟩) (Nat.le_of_ble_eq_true rfl) [] [0] rfl rfl rfl (by decide) (by decide) (by decide) rfl dX1_add_12 (fun v_12 u_12 hu_12 => ?_)
    obtain ⟨rfl, rfl⟩ := hu_12
    refine k_to (ws' := [(r, .inr (1, [.int (nI mo), .ref a, .int (nI k)]))]) (st' := [.int (b2i (decide (rByte b)))]) rfl rfl ?_
    refine k_as (y := 0) (b2i_f (by omega)) ?_
    refine k_if_ne (tgt := 20) (xi := (0 : Int)) X (by decide) dX1_add_15 (by decide) (fun c_15 => ?_) (fun c_15 => ?_)
    · exact absurd c_15 (by decide)
    · refine k_iconst (v := 0) X dX1_add_18 (by decide) ?_
      exact k_zret (u := [(r, .inr (1, [.int (nI mo), .ref a, .int (nI k)]))]) X (by first | rfl | exact b2i_nar _ | decide) hr [0] (by decide) rfl rfl (⟨rfl, rfl⟩) (by (try dsimp only); omega) (by (try dsimp only); omega) dX1_add_19
set_option maxHeartbeats 4000000 in
set_option maxRecDepth 100000 in
theorem c_addFrom (l : Launch) (D : va_G) (cI cB : ClassId) (r : Nat) (a : Nat) (mo : Nat) (k : Nat) (n : Nat) (f : Nat → Int32) (r2 : Nat) (a2 : Nat) (mo2 : Nat) (k2 : Nat) (n2 : Nat) (f2 : Nat → Int32) (x : Nat) (y : Nat) (hk : k ≤ n) (hn : n ≤ mo) (hmo : mo ≤ 8000) (h1 : 1 ≤ n) (hk2 : k2 ≤ n2) (hn2 : n2 ≤ 8000) (hxy : x + y ≤ k2) (hy : k + y ≤ mo) : kC l yX1_addFrom cX1_addFrom 4 (some .boolean) 3 83 (1) (rCost mo n (k + y)) D cI cB [.ref r, .ref r2, .int (nI x), .int (nI y)] [(r, .inr (1, [.int (nI mo), .ref a, .int (nI k)])), (a, .inl (cI, n, .inl f)), (r2, .inr (1, [.int (nI mo2), .ref a2, .int (nI k2)])), (a2, .inl (cI, n2, .inl f2))] (fun (v : Option Value) (u : va_W) => ∃ (a3 : Nat) (f3 : Nat → Int32), v = some (.int 1) ∧ u = [(r, .inr (1, [.int (nI mo), .ref a3, .int (nI (k + y))])), (a3, .inl (cI, rCap mo n (k + y), .inl f3)), (r2, .inr (1, [.int (nI mo2), .ref a2, .int (nI k2)])), (a2, .inl (cI, n2, .inl f2))] ∧ (∀ j, j < k → f3 j = f j) ∧ (∀ j, j < y → f3 (k + j) = f2 (x + j))) := by
  refine k_entry (lv0 := [(0, .ref r), (1, .ref r2), (2, .int (nI x)), (3, .int (nI y))]) (by decide) (Nat.le_of_ble_eq_true rfl) rfl ?_
  intro zp ze zs zm zb zt zc zA X hr hin
  refine k_aload_n X dX1_addFrom_0 rfl 1 rfl ?_
  refine k_iload_n X dX1_addFrom_1 rfl 2 rfl ?_
  refine k_iload_n X dX1_addFrom_2 rfl 3 rfl ?_
  refine k_callV (wc := [(r2, .inr (1, [.int (nI mo2), .ref a2, .int (nI k2)]))]) (wr := [(r, .inr (1, [.int (nI mo), .ref a, .int (nI k)])), (a, .inl (cI, n, .inl f)), (a2, .inl (cI, n2, .inl f2))]) (As := [.int (nI x), .int (nI y)]) (n := 2) (st := []) (q0 := 0) X (c_holds l D cI cB r2 a2 mo2 k2 (nI x) (nI y) (by omega)) rfl rfl ml_X1_30 im_X1_holds se_X1_holds ini_X1 co_X1_holds (by decide +kernel) rfl ⟨Nat.le_of_ble_eq_true rfl, Nat.le_of_ble_eq_true rfl⟩ (⟨by (try dsimp only); omega, by (try dsimp only); omega⟩) (Nat.le_of_ble_eq_true rfl) [2] [0, 1, 3] rfl rfl rfl (by decide) (by decide) (by decide) rfl dX1_addFrom_3 (fun v_3 u_3 hu_3 => ?_)
  obtain ⟨rfl, rfl⟩ := hu_3
  refine k_to (ws' := [(r, .inr (1, [.int (nI mo), .ref a, .int (nI k)])), (a, .inl (cI, n, .inl f)), (a2, .inl (cI, n2, .inl f2)), (r2, .inr (1, [.int (nI mo2), .ref a2, .int (nI k2)]))]) (st' := [.int (b2i (decide (rHolds (nI x) (nI y) k2)))]) rfl rfl ?_
  refine k_as (y := 1) (b2i_t ((rHolds_iff (by omega) (by omega)).mpr hxy)) ?_
  refine k_if_eq (tgt := 17) (xi := (1 : Int)) X (by decide) dX1_addFrom_6 (by decide) (fun c_6 => ?_) (fun c_6 => ?_)
  · exact absurd c_6 (by decide)
  · refine k_iload_n X dX1_addFrom_9 rfl 3 rfl ?_
    refine k_aload_n X dX1_addFrom_10 rfl 0 rfl ?_
    refine k_callV (wc := [(r, .inr (1, [.int (nI mo), .ref a, .int (nI k)]))]) (wr := [(a, .inl (cI, n, .inl f)), (a2, .inl (cI, n2, .inl f2)), (r2, .inr (1, [.int (nI mo2), .ref a2, .int (nI k2)]))]) (As := []) (n := 0) (st := [.int (nI y)]) (q0 := 0) X (c_room l D cI cB r a mo k (by omega) (hmo)) rfl rfl ml_X1_34 im_X1_room se_X1_room ini_X1 co_X1_room (by decide +kernel) rfl ⟨Nat.le_of_ble_eq_true rfl, Nat.le_of_ble_eq_true rfl⟩ (⟨by (try dsimp only); omega, by (try dsimp only); omega⟩) (Nat.le_of_ble_eq_true rfl) [0] [1, 2, 3] rfl rfl rfl (by decide) (by decide) (by decide) rfl dX1_addFrom_11 (fun v_11 u_11 hu_11 => ?_)
    obtain ⟨rfl, rfl⟩ := hu_11
    refine k_to (ws' := [(a, .inl (cI, n, .inl f)), (a2, .inl (cI, n2, .inl f2)), (r2, .inr (1, [.int (nI mo2), .ref a2, .int (nI k2)])), (r, .inr (1, [.int (nI mo), .ref a, .int (nI k)]))]) (st' := [.int (nI (mo - k)), .int (nI y)]) rfl rfl ?_
    refine k_icmp_le (tgt := 19) (xi := ((y : Nat) : Int)) (yi := (((mo - k) : Nat) : Int)) X (nI_toInt (by omega)) (nI_toInt (by omega)) dX1_addFrom_14 (by decide) (fun c_14 => ?_) (fun c_14 => ?_)
    · refine k_aload_n X dX1_addFrom_19 rfl 0 rfl ?_
      refine k_aload_n X dX1_addFrom_20 rfl 0 rfl ?_
      refine k_get (v := .int (nI k)) X 3 1 2 rfl rfl (by decide) fl_X1_19 in_X1 rfl rfl dX1_addFrom_21 ?_
      refine k_iload_n X dX1_addFrom_24 rfl 3 rfl ?_
      refine k_iadd X dX1_addFrom_25 ?_
      refine k_as (y := nI (k + y)) (nI_add _ _) ?_
      refine k_callV (wc := [(r, .inr (1, [.int (nI mo), .ref a, .int (nI k)])), (a, .inl (cI, n, .inl f))]) (wr := [(a2, .inl (cI, n2, .inl f2)), (r2, .inr (1, [.int (nI mo2), .ref a2, .int (nI k2)]))]) (As := [.int (nI (k + y))]) (n := 1) (st := []) (q0 := 0) X (c_makeCells l D cI cB r a mo k n f (k + y) (by omega) (hn) (hmo) (h1)) rfl rfl ml_X1_26 im_X1_makeCells se_X1_makeCells ini_X1 co_X1_makeCells (by decide +kernel) rfl ⟨Nat.le_of_ble_eq_true rfl, Nat.le_of_ble_eq_true rfl⟩ (⟨by (try dsimp only); omega, by (try dsimp only); omega⟩) (Nat.le_of_ble_eq_true rfl) [3, 0] [1, 2] rfl rfl rfl (by decide) (by decide) (by decide) rfl dX1_addFrom_26 (fun v_26 u_26 hu_26 => ?_)
      obtain ⟨a4, f4, rfl, rfl, hf4⟩ := hu_26
      refine k_to (ws' := [(a2, .inl (cI, n2, .inl f2)), (r2, .inr (1, [.int (nI mo2), .ref a2, .int (nI k2)])), (r, .inr (1, [.int (nI mo), .ref a4, .int (nI k)])), (a4, .inl (cI, rCap mo n (k + y), .inl f4))]) (st' := []) rfl rfl ?_
      have hcap : k + y ≤ rCap mo n (k + y) ∧ rCap mo n (k + y) ≤ 8000 := by rw [rCap]; split <;> omega
      refine k_aload_n X dX1_addFrom_29 rfl 1 rfl ?_
      refine k_get (v := .ref a2) X 1 1 1 rfl rfl (by decide) fl_X1_15 in_X1 rfl rfl dX1_addFrom_30 ?_
      refine k_iload_n X dX1_addFrom_33 rfl 2 rfl ?_
      refine k_aload_n X dX1_addFrom_34 rfl 0 rfl ?_
      refine k_get (v := .ref a4) X 2 1 1 rfl rfl (by decide) fl_X1_15 in_X1 rfl rfl dX1_addFrom_35 ?_
      refine k_aload_n X dX1_addFrom_38 rfl 0 rfl ?_
      refine k_get (v := .int (nI k)) X 2 1 2 rfl rfl (by decide) fl_X1_19 in_X1 rfl rfl dX1_addFrom_39 ?_
      refine k_iload_n X dX1_addFrom_42 rfl 3 rfl ?_
      refine k_copy (f' := va_cpy f2 f4 x k y) (ws' := [(a2, .inl (cI, n2, .inl f2)), (r2, .inr (1, [.int (nI mo2), .ref a2, .int (nI k2)])), (r, .inr (1, [.int (nI mo), .ref a4, .int (nI k)])), (a4, .inl (cI, rCap mo n (k + y), .inl (va_cpy f2 f4 x k y)))]) X 0 3 ml_X1_38 nt_arraycopy sm_arraycopy ini_J10 rfl rfl (nI_pos (by omega)) (nI_pos (by omega)) (nI_pos (by omega)) (by rw [nI_clamp (by omega), nI_clamp (by omega)]; omega) (by rw [nI_clamp (by omega), nI_clamp (by omega)]; omega) (by rw [nI_clamp (by omega), nI_clamp (by omega), nI_clamp (by omega)]) rfl (Nat.le_of_ble_eq_true rfl) (Nat.le_of_ble_eq_true rfl) dX1_addFrom_43 ?_
      refine k_aload_n X dX1_addFrom_46 rfl 0 rfl ?_
      refine k_dup X dX1_addFrom_47 rfl ?_
      refine k_get (v := .int (nI k)) X 2 1 2 rfl rfl (by decide) fl_X1_19 in_X1 rfl rfl dX1_addFrom_48 ?_
      refine k_iload_n X dX1_addFrom_51 rfl 3 rfl ?_
      refine k_iadd X dX1_addFrom_52 ?_
      refine k_as (y := nI (k + y)) (nI_add _ _) ?_
      refine k_put (v := .int (nI (k + y))) (ty := .int) (ws' := [(a2, .inl (cI, n2, .inl f2)), (r2, .inr (1, [.int (nI mo2), .ref a2, .int (nI k2)])), (r, .inr (1, [.int (nI mo), .ref a4, .int (nI (k + y))])), (a4, .inl (cI, rCap mo n (k + y), .inl (va_cpy f2 f4 x k y)))]) X 2 1 2 tyX1 tyX1_ok nmX1 rfl rfl (by decide) fl_X1_19 in_X1 rfl rfl (by decide +kernel) rfl rfl (Nat.le_of_ble_eq_true rfl) rfl dX1_addFrom_53 ?_
      refine k_iconst (v := 1) X dX1_addFrom_56 (by decide) ?_
      exact k_zret (u := [(r, .inr (1, [.int (nI mo), .ref a4, .int (nI (k + y))])), (a4, .inl (cI, rCap mo n (k + y), .inl (va_cpy f2 f4 x k y))), (r2, .inr (1, [.int (nI mo2), .ref a2, .int (nI k2)])), (a2, .inl (cI, n2, .inl f2))]) X (by first | rfl | exact b2i_nar _ | decide) hr [2, 3, 1, 0] (by decide) rfl rfl (⟨a4, _, rfl, rfl, fun j hj => by rw [pk_cpy_out (by omega), hf4 j (by omega)], fun j hj => by rw [pk_cpy_in (by omega) (by omega)]; congr 1; omega⟩) (by (try dsimp only); omega) (by (try dsimp only); omega) dX1_addFrom_57
    · exact absurd c_14 (by omega)
set_option maxHeartbeats 4000000 in
set_option maxRecDepth 100000 in
theorem c_addFrom_f (l : Launch) (D : va_G) (cI cB : ClassId) (r : Nat) (a : Nat) (mo : Nat) (k : Nat) (r2 : Nat) (a2 : Nat) (mo2 : Nat) (k2 : Nat) (x : Nat) (y : Nat) (hk : k ≤ mo) (hmo : mo ≤ 8000) (hk2 : k2 ≤ 8000) (hx : x < 2 ^ 30) (hy : y < 2 ^ 30) (hf : ¬ (x + y ≤ k2 ∧ k + y ≤ mo)) : kC l yX1_addFrom cX1_addFrom 4 (some .boolean) 1 22 (0) (0) D cI cB [.ref r, .ref r2, .int (nI x), .int (nI y)] [(r, .inr (1, [.int (nI mo), .ref a, .int (nI k)])), (r2, .inr (1, [.int (nI mo2), .ref a2, .int (nI k2)]))] (fun (v : Option Value) (u : va_W) => v = some (.int 0) ∧ u = [(r, .inr (1, [.int (nI mo), .ref a, .int (nI k)])), (r2, .inr (1, [.int (nI mo2), .ref a2, .int (nI k2)]))]) := by
  refine k_entry (lv0 := [(0, .ref r), (1, .ref r2), (2, .int (nI x)), (3, .int (nI y))]) (by decide) (Nat.le_of_ble_eq_true rfl) rfl ?_
  intro zp ze zs zm zb zt zc zA X hr hin
  refine k_aload_n X dX1_addFrom_0 rfl 1 rfl ?_
  refine k_iload_n X dX1_addFrom_1 rfl 2 rfl ?_
  refine k_iload_n X dX1_addFrom_2 rfl 3 rfl ?_
  refine k_callV (wc := [(r2, .inr (1, [.int (nI mo2), .ref a2, .int (nI k2)]))]) (wr := [(r, .inr (1, [.int (nI mo), .ref a, .int (nI k)]))]) (As := [.int (nI x), .int (nI y)]) (n := 2) (st := []) (q0 := 0) X (c_holds l D cI cB r2 a2 mo2 k2 (nI x) (nI y) (by omega)) rfl rfl ml_X1_30 im_X1_holds se_X1_holds ini_X1 co_X1_holds (by decide +kernel) rfl ⟨Nat.le_of_ble_eq_true rfl, Nat.le_of_ble_eq_true rfl⟩ (⟨by (try dsimp only); omega, by (try dsimp only); omega⟩) (Nat.le_of_ble_eq_true rfl) [1] [0] rfl rfl rfl (by decide) (by decide) (by decide) rfl dX1_addFrom_3 (fun v_3 u_3 hu_3 => ?_)
  obtain ⟨rfl, rfl⟩ := hu_3
  refine k_to (ws' := [(r, .inr (1, [.int (nI mo), .ref a, .int (nI k)])), (r2, .inr (1, [.int (nI mo2), .ref a2, .int (nI k2)]))]) (st' := [.int (b2i (decide (rHolds (nI x) (nI y) k2)))]) rfl rfl ?_
  by_cases hc : x + y ≤ k2
  · refine k_as (y := 1) (b2i_t ((rHolds_iff (by omega) (by omega)).mpr hc)) ?_
    refine k_if_eq (tgt := 17) (xi := (1 : Int)) X (by decide) dX1_addFrom_6 (by decide) (fun c_6 => ?_) (fun c_6 => ?_)
    · exact absurd c_6 (by decide)
    · refine k_iload_n X dX1_addFrom_9 rfl 3 rfl ?_
      refine k_aload_n X dX1_addFrom_10 rfl 0 rfl ?_
      refine k_callV (wc := [(r, .inr (1, [.int (nI mo), .ref a, .int (nI k)]))]) (wr := [(r2, .inr (1, [.int (nI mo2), .ref a2, .int (nI k2)]))]) (As := []) (n := 0) (st := [.int (nI y)]) (q0 := 0) X (c_room l D cI cB r a mo k (by omega) (hmo)) rfl rfl ml_X1_34 im_X1_room se_X1_room ini_X1 co_X1_room (by decide +kernel) rfl ⟨Nat.le_of_ble_eq_true rfl, Nat.le_of_ble_eq_true rfl⟩ (⟨by (try dsimp only); omega, by (try dsimp only); omega⟩) (Nat.le_of_ble_eq_true rfl) [0] [1] rfl rfl rfl (by decide) (by decide) (by decide) rfl dX1_addFrom_11 (fun v_11 u_11 hu_11 => ?_)
      obtain ⟨rfl, rfl⟩ := hu_11
      refine k_to (ws' := [(r2, .inr (1, [.int (nI mo2), .ref a2, .int (nI k2)])), (r, .inr (1, [.int (nI mo), .ref a, .int (nI k)]))]) (st' := [.int (nI (mo - k)), .int (nI y)]) rfl rfl ?_
      refine k_icmp_le (tgt := 19) (xi := ((y : Nat) : Int)) (yi := (((mo - k) : Nat) : Int)) X (nI_toInt (by omega)) (nI_toInt (by omega)) dX1_addFrom_14 (by decide) (fun c_14 => ?_) (fun c_14 => ?_)
      · exact absurd c_14 (by omega)
      · refine k_iconst (v := 0) X dX1_addFrom_17 (by decide) ?_
        exact k_zret (u := [(r, .inr (1, [.int (nI mo), .ref a, .int (nI k)])), (r2, .inr (1, [.int (nI mo2), .ref a2, .int (nI k2)]))]) X (by first | rfl | exact b2i_nar _ | decide) hr [1, 0] (by decide) rfl rfl (⟨rfl, rfl⟩) (by (try dsimp only); omega) (by (try dsimp only); omega) dX1_addFrom_18
  · refine k_as (y := 0) (b2i_f (fun z => hc ((rHolds_iff (by omega) (by omega)).mp z))) ?_
    refine k_if_eq (tgt := 17) (xi := (0 : Int)) X (by decide) dX1_addFrom_6 (by decide) (fun c_6 => ?_) (fun c_6 => ?_)
    · refine k_iconst (v := 0) X dX1_addFrom_17 (by decide) ?_
      exact k_zret (u := [(r, .inr (1, [.int (nI mo), .ref a, .int (nI k)])), (r2, .inr (1, [.int (nI mo2), .ref a2, .int (nI k2)]))]) X (by first | rfl | exact b2i_nar _ | decide) hr [0, 1] (by decide) rfl rfl (⟨rfl, rfl⟩) (by (try dsimp only); omega) (by (try dsimp only); omega) dX1_addFrom_18
    · exact absurd c_6 (by decide)
set_option maxHeartbeats 4000000 in
set_option maxRecDepth 100000 in
theorem c_Row (l : Launch) (D : va_G) (cI cB : ClassId) (r : Nat) (mo : Nat)  : kC l yX1_init cX1_init 2 none 1 12 (1) (64) D cI cB [.ref r, .int (nI mo)] [(r, .inr (1, [.int 0, .null, .int 0]))] (fun (v : Option Value) (u : va_W) => ∃ (a : Nat), v = none ∧ u = [(r, .inr (1, [.int (nI mo), .ref a, .int (nI 0)])), (a, .inl (cI, 64, .inl (fun _ => 0)))]) := by
  refine k_entry (lv0 := [(0, .ref r), (1, .int (nI mo))]) (by decide) (Nat.le_of_ble_eq_true rfl) rfl ?_
  intro zp ze zs zm zb zt zc zA X hr hin
  refine k_aload_n X dX1_init_0 rfl 0 rfl ?_
  refine k_objInit X ml_X1_3 im_objInit co_objInit (Nat.le_of_ble_eq_true rfl) (Nat.le_of_ble_eq_true rfl) dX1_init_1 ?_
  refine k_aload_n X dX1_init_4 rfl 0 rfl ?_
  refine k_iload_n X dX1_init_5 rfl 1 rfl ?_
  refine k_putF (v := .int (nI mo)) (ty := .int) (ws' := [(r, .inr (1, [.int (nI mo), .null, .int 0]))]) X 0 1 0 tyX1 tyX1_ok nmX1 rfl rfl (by decide) fl_X1_9 in_X1 rfl rfl hin rfl (by decide +kernel) rfl rfl (Nat.le_of_ble_eq_true rfl) rfl dX1_init_6 ?_
  refine k_aload_n X dX1_init_9 rfl 0 rfl ?_
  refine k_bipush (v := 64) X dX1_init_10 (by decide) ?_
  refine k_newI X 64 (rfl) (by omega) ac_int (by (try dsimp only); omega) (by (try dsimp only); omega) dX1_init_12 (fun q_1 => ?_)
  refine k_ws (ws' := [(r, .inr (1, [.int (nI mo), .null, .int 0])), (q_1, .inl (cI, 64, .inl (fun _ => 0)))]) rfl ?_
  refine k_put (v := .ref q_1) (ty := .array .int) (ws' := [(r, .inr (1, [.int (nI mo), .ref q_1, .int 0])), (q_1, .inl (cI, 64, .inl (fun _ => 0)))]) X 0 1 1 tyX1 tyX1_ok nmX1 rfl rfl (by decide) fl_X1_15 in_X1 rfl rfl (by decide +kernel) rfl rfl (Nat.le_of_ble_eq_true rfl) rfl dX1_init_14 ?_
  refine k_aload_n X dX1_init_17 rfl 0 rfl ?_
  refine k_iconst (v := 0) X dX1_init_18 (by decide) ?_
  refine k_put (v := .int 0) (ty := .int) (ws' := [(r, .inr (1, [.int (nI mo), .ref q_1, .int 0])), (q_1, .inl (cI, 64, .inl (fun _ => 0)))]) X 0 1 2 tyX1 tyX1_ok nmX1 rfl rfl (by decide) fl_X1_19 in_X1 rfl rfl (by decide +kernel) rfl rfl (Nat.le_of_ble_eq_true rfl) rfl dX1_init_19 ?_
  exact k_vret (u := [(r, .inr (1, [.int (nI mo), .ref q_1, .int 0])), (q_1, .inl (cI, 64, .inl (fun _ => 0)))]) X hr [0, 1] (by decide) rfl rfl (⟨q_1, rfl, rfl⟩) (by (try dsimp only); omega) (by (try dsimp only); omega) dX1_init_22
end
section
/-! MD5, as the class has it -/
def mF (r : Nat) (b c d : Int32) : Int32 := match r with
  | 0 => (b &&& c) ||| ((b ^^^ (-1)) &&& d)
  | 1 => (b &&& d) ||| (c &&& (d ^^^ (-1)))
  | 2 => (b ^^^ c) ^^^ d
  | _ => c ^^^ (b ||| (d ^^^ (-1)))
def mG (r i : Nat) : Nat := match r with
  | 0 => i % 16
  | 1 => (5 * i + 1) % 16
  | 2 => (3 * i + 5) % 16
  | _ => (7 * i) % 16
theorem mG_lt (r i : Nat) : mG r i < 16 := by
  unfold mG
  split <;> omega
def mR (x t : Int32) : Int32 := (x <<< (t &&& 31)) ||| (x.toUInt32 >>> ((32 - t).toUInt32 &&& Int32.toUInt32 31)).toInt32
abbrev m4 : Type := Int32 × Int32 × Int32 × Int32
def mStep (w : Nat → Int32) (i : Nat) (q : m4) : m4 := (q.2.2.2, q.2.1 + mR (q.1 + mF (i / 16) q.2.1 q.2.2.1 q.2.2.2 + kSin i + w (mG (i / 16) i)) (kTrn (4 * (i / 16) + i % 4)), q.2.1, q.2.2.1)
def mRun (w : Nat → Int32) (q : m4) : Nat → m4
  | 0 => q
  | n + 1 => mStep w n (mRun w q n)
def mQ (w h : Nat → Int32) (i : Nat) : m4 := mRun w (h 0, h 1, h 2, h 3) i
def mMix (w h : Nat → Int32) : Nat → Int32 := upd (upd (upd (upd h 0 (h 0 + (mQ w h 64).1)) 1 (h 1 + (mQ w h 64).2.1)) 2 (h 2 + (mQ w h 64).2.2.1)) 3 (h 3 + (mQ w h 64).2.2.2)
theorem mQ_congr {w w' h h' : Nat → Int32} (hw : ∀ j, j < 16 → w j = w' j) (hh : ∀ j, j < 4 → h j = h' j) : ∀ i, mQ w h i = mQ w' h' i := by
  intro i
  induction i with
  | zero => show (h 0, h 1, h 2, h 3) = (h' 0, h' 1, h' 2, h' 3); rw [hh 0 (by omega), hh 1 (by omega), hh 2 (by omega), hh 3 (by omega)]
  | succ n ih =>
    show mStep w n (mQ w h n) = mStep w' n (mQ w' h' n)
    rw [ih]
    unfold mStep
    rw [hw _ (mG_lt _ _)]
theorem mMix_at (w h : Nat → Int32) : mMix w h 0 = h 0 + (mQ w h 64).1 ∧ mMix w h 1 = h 1 + (mQ w h 64).2.1 ∧ mMix w h 2 = h 2 + (mQ w h 64).2.2.1 ∧ mMix w h 3 = h 3 + (mQ w h 64).2.2.2 := by
  unfold mMix
  generalize mQ w h 64 = q
  refine ⟨?_, ?_, ?_, ?_⟩
  · rw [pk_un (by decide), pk_un (by decide), pk_un (by decide), pk_us]
  · rw [pk_un (by decide), pk_un (by decide), pk_us]
  · rw [pk_un (by decide), pk_us]
  · rw [pk_us]
theorem mMix_congr {w w' h h' : Nat → Int32} (hw : ∀ j, j < 16 → w j = w' j) (hh : ∀ j, j < 4 → h j = h' j) : ∀ j, j < 4 → mMix w h j = mMix w' h' j := by
  intro j hj
  obtain ⟨a0, a1, a2, a3⟩ := mMix_at w h
  obtain ⟨b0, b1, b2, b3⟩ := mMix_at w' h'
  rw [mQ_congr hw hh] at a0 a1 a2 a3
  rcases (show j = 0 ∨ j = 1 ∨ j = 2 ∨ j = 3 by omega) with rfl | rfl | rfl | rfl
  · rw [a0, b0, hh 0 (by omega)]
  · rw [a1, b1, hh 1 (by omega)]
  · rw [a2, b2, hh 2 (by omega)]
  · rw [a3, b3, hh 3 (by omega)]
/-- the bytes with the mark behind them -/
def pb (f : Nat → Int32) (x n t : Nat) : Int32 := if t < n then f (x + t) else if t = n then 128 else 0
/-- the words out of the first i bytes -/
def mWp (g : Nat → Int32) : Nat → Nat → Int32
  | 0, _ => 0
  | i + 1, j => if j = i / 4 then mWp g i j ||| (g i <<< (nI (8 * (i % 4)) &&& 31)) else mWp g i j
theorem or_shl0 (a s : Int32) : a ||| ((0 : Int32) <<< s) = a := by
  have h : (0 : Int32) <<< s = 0 := by
    apply Int32.toBitVec_inj.mp
    simp
  rw [h]
  apply Int32.toBitVec_inj.mp
  simp
theorem mWp_zero {g : Nat → Int32} {m : Nat} : ∀ d, (∀ t, m ≤ t → t < m + d → g t = 0) → ∀ j, mWp g (m + d) j = mWp g m j := by
  intro d
  induction d with
  | zero => intro _ j; rfl
  | succ d ih =>
    intro h j
    show (if j = (m + d) / 4 then mWp g (m + d) j ||| (g (m + d) <<< (nI (8 * ((m + d) % 4)) &&& 31)) else mWp g (m + d) j) = _
    rw [h (m + d) (by omega) (by omega), or_shl0, ih (fun t h1 h2 => h t h1 (by omega)) j]
    split <;> rfl
theorem mWp_64 {g : Nat → Int32} {m : Nat} (hm : m ≤ 64) (h : ∀ t, m ≤ t → t < 64 → g t = 0) (j : Nat) : mWp g 64 j = mWp g m j := by
  have := mWp_zero (g := g) (m := m) (64 - m) (fun t h1 h2 => h t h1 (by omega)) j
  rw [show m + (64 - m) = 64 by omega] at this
  exact this
def mCh (f : Nat → Int32) (x n c : Nat) (j : Nat) : Int32 := if c = (n + 8) / 64 ∧ j = 14 then nI (8 * n) else if c = (n + 8) / 64 ∧ j = 15 then 0 else mWp (fun t => pb f x n (64 * c + t)) 64 j
def mIni : Nat → Int32 := upd (upd (upd (upd (fun _ => 0) 0 1732584193) 1 (-271733879)) 2 (-1732584194)) 3 271733878
def mSt (f : Nat → Int32) (x n : Nat) : Nat → Nat → Int32
  | 0 => mIni
  | c + 1 => mMix (mCh f x n c) (mSt f x n c)
def mDig (f : Nat → Int32) (x n : Nat) : Nat → Int32 := mSt f x n ((n + 8) / 64 + 1)
theorem mIni_eq (h : Nat → Int32) : ∀ j, j < 4 → upd (upd (upd (upd h 0 1732584193) 1 (-271733879)) 2 (-1732584194)) 3 271733878 j = mIni j := by
  intro j hj
  unfold mIni
  rcases (show j = 0 ∨ j = 1 ∨ j = 2 ∨ j = 3 by omega) with rfl | rfl | rfl | rfl <;> rfl
theorem mW_step {g gg : Nat → Int32} {i : Nat} {v : Int32} (hi : i < 64) (hv : gg i = v) (h : ∀ j, j < 16 → g j = mWp gg i j) : ∀ j, j < 16 → upd g (i / 4) (g (i / 4) ||| (v <<< (nI (8 * (i % 4)) &&& 31))) j = mWp gg (i + 1) j := by
  intro j hj
  show _ = (if j = i / 4 then mWp gg i j ||| (gg i <<< (nI (8 * (i % 4)) &&& 31)) else mWp gg i j)
  by_cases e : j = i / 4
  · rw [if_pos e, e, pk_us, h (i / 4) (by omega), hv]
  · rw [if_neg e, pk_un e, h j hj]
theorem mCh_mid {f w2 : Nat → Int32} {x m c : Nat} (hc : ¬ c = (m + 8) / 64) (h : ∀ j, j < 16 → w2 j = mWp (fun t => pb f x m (64 * c + t)) 64 j) : ∀ j, j < 16 → w2 j = mCh f x m c j := by
  intro j hj
  rw [h j hj, mCh, if_neg (fun z => hc z.1), if_neg (fun z => hc z.1)]
theorem mCh_last {f w2 : Nat → Int32} {x m c : Nat} (hc : c = (m + 8) / 64) (h : ∀ j, j < 16 → w2 j = mWp (fun t => pb f x m (64 * c + t)) 64 j) : ∀ j, j < 16 → upd (upd w2 14 (nI (8 * m))) 15 0 j = mCh f x m c j := by
  intro j hj
  by_cases e15 : j = 15
  · rw [e15, pk_us, mCh, if_neg (by omega), if_pos ⟨hc, rfl⟩]
  · rw [pk_un e15]
    by_cases e14 : j = 14
    · rw [e14, pk_us, mCh, if_pos ⟨hc, rfl⟩]
    · rw [pk_un e14, h j hj, mCh, if_neg (by omega), if_neg (by omega)]
theorem sh3 {m : Nat} (h : m ≤ 2000) : nI m <<< ((3 : Int32) &&& 31) = nI (8 * m) := by
  rw [pk_shlN _ 3 (by decide) (by omega)]
  congr 1
  omega
theorem sh29 {m : Nat} (h : m ≤ 2000) : ((nI m).toUInt32 >>> (Int32.toUInt32 29 &&& Int32.toUInt32 31)).toInt32 = 0 := by
  rw [pk_ushrN (by omega) 29 29 (by decide), show m / 2 ^ 29 = 0 by omega]
  rfl
def dByte (h : Nat → Int32) (k : Nat) : Int32 := ((h (k / 4)).toUInt32 >>> ((nI (8 * (k % 4))).toUInt32 &&& Int32.toUInt32 31)).toInt32 &&& 255
theorem n_shr {n : Nat} (h : n < 2 ^ 31) (k : Nat) {s : Int32} (hs : (s.toBitVec.smod 32).toNat = k) : nI n >>> s = nI (n / 2 ^ k) := pk_shrN h s k hs
theorem n_and {n : Nat} (h : n < 2 ^ 31) (k : Nat) {m : Int32} (hm : m.toBitVec.toNat = 2 ^ k - 1) : nI n &&& m = nI (n % 2 ^ k) := pk_andN (by omega) k hm
theorem n_mul (a b : Nat) : nI a * nI b = nI (a * b) := pk_mul a b
set_option maxHeartbeats 4000000 in
set_option maxRecDepth 100000 in
theorem c_fill (l : Launch) (D : va_G) (cI cB : ClassId) (a : Nat) (n : Nat) (f : Nat → Int32) (x : Int32) (hn : n ≤ 100000) : kC l yJ7_fill_53178 cJ7_fill_53178 4 none 0 0 (0) (0) D cI cB [.ref a, .int x] [(a, .inl (cI, n, .inl f))] (fun (v : Option Value) (u : va_W) => ∃ (g : Nat → Int32), v = none ∧ u = [(a, .inl (cI, n, .inl g))] ∧ (∀ j, j < n → g j = x)) := by
  refine k_entry (lv0 := [(0, .ref a), (1, .int x)]) (by decide) (Nat.le_of_ble_eq_true rfl) rfl ?_
  intro zp ze zs zm zb zt zc zA X hr hin
  refine k_iconst (v := 0) X dJ7_fill_53178_0 (by decide) ?_
  refine k_istore_n (lv' := [(2, .int 0), (0, .ref a), (1, .int x)]) X dJ7_fill_53178_1 rfl (by decide) rfl ?_
  refine k_aload_n X dJ7_fill_53178_2 rfl 1 rfl ?_
  refine k_alenI (v := nI n) X 0 rfl rfl dJ7_fill_53178_3 ?_
  refine k_istore_n (lv' := [(3, .int (nI n)), (2, .int 0), (0, .ref a), (1, .int x)]) X dJ7_fill_53178_4 rfl (by decide) rfl ?_
  refine k_lv (lv' := [(0, .ref a), (1, .int x), (2, .int (nI 0)), (3, .int (nI n))]) [2, 3, 1, 0] rfl ?_
  refine k_sub (ws' := [(a, .inl (cI, n, .inl f))]) [0] (by decide) rfl rfl ?_
  refine k_wide (k := 0) (n := 0) (by (try dsimp only); omega) (by (try dsimp only); omega) ?_
  refine k_loop2 (pc1 := 5) (cl := fun (i : Nat) (g : Nat → Int32) => 0) (sl := fun (i : Nat) (g : Nat → Int32) => 0) (wsf := fun (i : Nat) (g : Nat → Int32) => [(a, .inl (cI, n, .inl g))]) (lvf := fun (i : Nat) (g : Nat → Int32) => [(0, .ref a), (1, .int x), (2, .int (nI i)), (3, .int (nI n))]) (stf := fun (i : Nat) (g : Nat → Int32) => []) (I := fun (i : Nat) (g : Nat → Int32) => i ≤ n ∧ ∀ j, j < i → g j = x) (mu := fun (i : Nat) (g : Nat → Int32) => n - i) ?_ 0 f (⟨Nat.zero_le _, fun j h => absurd h (Nat.not_lt_zero j)⟩)
  intro i g hI ih
  try dsimp only at hI ih
  try dsimp only
  have hi := hI.1
  refine k_iload_n X dJ7_fill_53178_5 rfl 2 rfl ?_
  refine k_iload_n X dJ7_fill_53178_6 rfl 3 rfl ?_
  refine k_icmp_ge (tgt := 20) (xi := ((i : Nat) : Int)) (yi := ((n : Nat) : Int)) X (nI_toInt (by omega)) (nI_toInt (by omega)) dJ7_fill_53178_7 (by decide) (fun c_7 => ?_) (fun c_7 => ?_)
  · exact k_vret (u := [(a, .inl (cI, n, .inl g))]) X hr [0] (by decide) rfl rfl (⟨g, rfl, rfl, fun j hj => hI.2 j (by omega)⟩) (by (try dsimp only); omega) (by (try dsimp only); omega) dJ7_fill_53178_20
  · refine k_aload_n X dJ7_fill_53178_10 rfl 0 rfl ?_
    refine k_iload_n X dJ7_fill_53178_11 rfl 2 rfl ?_
    refine k_iload_n X dJ7_fill_53178_12 rfl 1 rfl ?_
    refine k_iast (f' := upd g i x) (ws' := [(a, .inl (cI, n, .inl (upd g i x)))]) X 0 rfl (vp_in_nI (n := i) (by omega) (by omega)) (by rw [nI_clamp (n := i) (by omega)]) rfl dJ7_fill_53178_13 ?_
    refine k_iinc (v := nI (i + 1)) (lv' := [(2, .int (nI (i + 1))), (0, .ref a), (1, .int x), (3, .int (nI n))]) X dJ7_fill_53178_14 2 rfl (nI_1 _) (by decide) rfl ?_
    refine k_goto (tgt := 5) X dJ7_fill_53178_17 (by decide) ?_
    refine k_lv (lv' := [(0, .ref a), (1, .int x), (2, .int (nI (i + 1))), (3, .int (nI n))]) [1, 2, 0, 3] rfl ?_
    refine k_sub (ws' := [(a, .inl (cI, n, .inl (upd g i x)))]) [0] (by decide) rfl rfl ?_
    refine k_wide (k := 0) (n := 0) (by (try dsimp only); omega) (by (try dsimp only); omega) ?_
    exact ih (i + 1) (upd g i x) (⟨by omega, lt_s (fun j hj => by rw [pk_un (by omega)]; exact hI.2 j hj) pk_us⟩) (by omega)
set_option maxHeartbeats 4000000 in
set_option maxRecDepth 100000 in
theorem c_Md5 (l : Launch) (D : va_G) (cI cB : ClassId) (o : Nat)  : kC l yX0_init cX0_init 1 none 1 12 (2) (20) D cI cB [.ref o] [(o, .inr (0, [.null, .null]))] (fun (v : Option Value) (u : va_W) => ∃ (aw : Nat) (ah : Nat), v = none ∧ u = [(o, .inr (0, [.ref aw, .ref ah])), (aw, .inl (cI, 16, .inl (fun _ => 0))), (ah, .inl (cI, 4, .inl (fun _ => 0)))]) := by
  refine k_entry (lv0 := [(0, .ref o)]) (by decide) (Nat.le_of_ble_eq_true rfl) rfl ?_
  intro zp ze zs zm zb zt zc zA X hr hin
  refine k_aload_n X dX0_init_0 rfl 0 rfl ?_
  refine k_objInit X ml_X0_3 im_objInit co_objInit (Nat.le_of_ble_eq_true rfl) (Nat.le_of_ble_eq_true rfl) dX0_init_1 ?_
  refine k_aload_n X dX0_init_4 rfl 0 rfl ?_
  refine k_bipush (v := 16) X dX0_init_5 (by decide) ?_
  refine k_newI X 16 (rfl) (by omega) ac_int (by (try dsimp only); omega) (by (try dsimp only); omega) dX0_init_7 (fun q_1 => ?_)
  refine k_ws (ws' := [(o, .inr (0, [.null, .null])), (q_1, .inl (cI, 16, .inl (fun _ => 0)))]) rfl ?_
  refine k_putF (v := .ref q_1) (ty := .array .int) (ws' := [(o, .inr (0, [.ref q_1, .null])), (q_1, .inl (cI, 16, .inl (fun _ => 0)))]) X 0 0 0 tyX0 tyX0_ok nmX0 rfl rfl (by decide) fl_X0_9 in_X0 rfl rfl hin rfl (by decide +kernel) rfl rfl (Nat.le_of_ble_eq_true rfl) rfl dX0_init_9 ?_
  refine k_aload_n X dX0_init_12 rfl 0 rfl ?_
  refine k_iconst (v := 4) X dX0_init_13 (by decide) ?_
  refine k_newI X 4 (rfl) (by omega) ac_int (by (try dsimp only); omega) (by (try dsimp only); omega) dX0_init_14 (fun q_2 => ?_)
  refine k_ws (ws' := [(o, .inr (0, [.ref q_1, .null])), (q_1, .inl (cI, 16, .inl (fun _ => 0))), (q_2, .inl (cI, 4, .inl (fun _ => 0)))]) rfl ?_
  refine k_putF (v := .ref q_2) (ty := .array .int) (ws' := [(o, .inr (0, [.ref q_1, .ref q_2])), (q_1, .inl (cI, 16, .inl (fun _ => 0))), (q_2, .inl (cI, 4, .inl (fun _ => 0)))]) X 0 0 1 tyX0 tyX0_ok nmX0 rfl rfl (by decide) fl_X0_15 in_X0 rfl rfl hin rfl (by decide +kernel) rfl rfl (Nat.le_of_ble_eq_true rfl) rfl dX0_init_16 ?_
  exact k_vret (u := [(o, .inr (0, [.ref q_1, .ref q_2])), (q_1, .inl (cI, 16, .inl (fun _ => 0))), (q_2, .inl (cI, 4, .inl (fun _ => 0)))]) X hr [0, 1, 2] (by decide) rfl rfl (⟨q_1, q_2, rfl, rfl⟩) (by (try dsimp only); omega) (by (try dsimp only); omega) dX0_init_19
set_option maxHeartbeats 4000000 in
set_option maxRecDepth 100000 in
theorem c_mixed (l : Launch) (D : va_G) (cI cB : ClassId) (r : Nat) (b : Int32) (x : Int32) (d : Int32) (hr4 : r < 4) : kC l yX0_mixed cX0_mixed 4 (some .int) 0 0 (0) (0) D cI cB [.int (nI r), .int b, .int x, .int d] [] (fun (v : Option Value) (u : va_W) => v = some (.int (mF r b x d)) ∧ u = []) := by
  refine k_entry (lv0 := [(0, .int (nI r)), (1, .int b), (2, .int x), (3, .int d)]) (by decide) (Nat.le_of_ble_eq_true rfl) rfl ?_
  intro zp ze zs zm zb zt zc zA X hr hin
  rcases (show r = 0 ∨ r = 1 ∨ r = 2 ∨ r = 3 by omega) with rfl | rfl | rfl | rfl
  · refine k_iload_n X dX0_mixed_0 rfl 0 rfl ?_
    refine k_tableIn (off := 27) (tgt := 28) X dX0_mixed_1 (by decide) (by decide) (by decide) (by decide) ?_
    refine k_iload_n X dX0_mixed_28 rfl 1 rfl ?_
    refine k_iload_n X dX0_mixed_29 rfl 2 rfl ?_
    refine k_iand X dX0_mixed_30 ?_
    refine k_iload_n X dX0_mixed_31 rfl 1 rfl ?_
    refine k_iconst (v := -1) X dX0_mixed_32 (by decide) ?_
    refine k_ixor X dX0_mixed_33 ?_
    refine k_iload_n X dX0_mixed_34 rfl 3 rfl ?_
    refine k_iand X dX0_mixed_35 ?_
    refine k_ior X dX0_mixed_36 ?_
    exact k_iret (u := []) X hr [] (by decide) rfl rfl (⟨rfl, rfl⟩) (by (try dsimp only); omega) (by (try dsimp only); omega) dX0_mixed_37
  · refine k_iload_n X dX0_mixed_0 rfl 0 rfl ?_
    refine k_tableIn (off := 37) (tgt := 38) X dX0_mixed_1 (by decide) (by decide) (by decide) (by decide) ?_
    refine k_iload_n X dX0_mixed_38 rfl 1 rfl ?_
    refine k_iload_n X dX0_mixed_39 rfl 3 rfl ?_
    refine k_iand X dX0_mixed_40 ?_
    refine k_iload_n X dX0_mixed_41 rfl 2 rfl ?_
    refine k_iload_n X dX0_mixed_42 rfl 3 rfl ?_
    refine k_iconst (v := -1) X dX0_mixed_43 (by decide) ?_
    refine k_ixor X dX0_mixed_44 ?_
    refine k_iand X dX0_mixed_45 ?_
    refine k_ior X dX0_mixed_46 ?_
    exact k_iret (u := []) X hr [] (by decide) rfl rfl (⟨rfl, rfl⟩) (by (try dsimp only); omega) (by (try dsimp only); omega) dX0_mixed_47
  · refine k_iload_n X dX0_mixed_0 rfl 0 rfl ?_
    refine k_tableIn (off := 47) (tgt := 48) X dX0_mixed_1 (by decide) (by decide) (by decide) (by decide) ?_
    refine k_iload_n X dX0_mixed_48 rfl 1 rfl ?_
    refine k_iload_n X dX0_mixed_49 rfl 2 rfl ?_
    refine k_ixor X dX0_mixed_50 ?_
    refine k_iload_n X dX0_mixed_51 rfl 3 rfl ?_
    refine k_ixor X dX0_mixed_52 ?_
    exact k_iret (u := []) X hr [] (by decide) rfl rfl (⟨rfl, rfl⟩) (by (try dsimp only); omega) (by (try dsimp only); omega) dX0_mixed_53
  · refine k_iload_n X dX0_mixed_0 rfl 0 rfl ?_
    refine k_tableOut (tgt := 54) X dX0_mixed_1 (by decide) (by decide) ?_
    refine k_iload_n X dX0_mixed_54 rfl 2 rfl ?_
    refine k_iload_n X dX0_mixed_55 rfl 1 rfl ?_
    refine k_iload_n X dX0_mixed_56 rfl 3 rfl ?_
    refine k_iconst (v := -1) X dX0_mixed_57 (by decide) ?_
    refine k_ixor X dX0_mixed_58 ?_
    refine k_ior X dX0_mixed_59 ?_
    refine k_ixor X dX0_mixed_60 ?_
    exact k_iret (u := []) X hr [] (by decide) rfl rfl (⟨rfl, rfl⟩) (by (try dsimp only); omega) (by (try dsimp only); omega) dX0_mixed_61
set_option maxHeartbeats 4000000 in
set_option maxRecDepth 100000 in
theorem c_wordFor (l : Launch) (D : va_G) (cI cB : ClassId) (r : Nat) (i : Nat) (hr4 : r < 4) (hi : i < 64) : kC l yX0_wordFor cX0_wordFor 2 (some .int) 0 0 (0) (0) D cI cB [.int (nI r), .int (nI i)] [] (fun (v : Option Value) (u : va_W) => v = some (.int (nI (mG r i))) ∧ u = []) := by
  refine k_entry (lv0 := [(0, .int (nI r)), (1, .int (nI i))]) (by decide) (Nat.le_of_ble_eq_true rfl) rfl ?_
  intro zp ze zs zm zb zt zc zA X hr hin
  rcases (show r = 0 ∨ r = 1 ∨ r = 2 ∨ r = 3 by omega) with rfl | rfl | rfl | rfl
  · refine k_iload_n X dX0_wordFor_0 rfl 0 rfl ?_
    refine k_tableIn (off := 27) (tgt := 28) X dX0_wordFor_1 (by decide) (by decide) (by decide) (by decide) ?_
    refine k_iload_n X dX0_wordFor_28 rfl 1 rfl ?_
    refine k_bipush (v := 15) X dX0_wordFor_29 (by decide) ?_
    refine k_iand X dX0_wordFor_31 ?_
    refine k_as (y := nI (i % 16)) (n_and (by omega) 4 (by decide)) ?_
    exact k_iret (u := []) X hr [] (by decide) rfl rfl (⟨rfl, rfl⟩) (by (try dsimp only); omega) (by (try dsimp only); omega) dX0_wordFor_32
  · refine k_iload_n X dX0_wordFor_0 rfl 0 rfl ?_
    refine k_tableIn (off := 32) (tgt := 33) X dX0_wordFor_1 (by decide) (by decide) (by decide) (by decide) ?_
    refine k_iconst (v := 5) X dX0_wordFor_33 (by decide) ?_
    refine k_iload_n X dX0_wordFor_34 rfl 1 rfl ?_
    refine k_imul X dX0_wordFor_35 ?_
    refine k_as (y := nI (5 * i)) (n_mul 5 i) ?_
    refine k_iconst (v := 1) X dX0_wordFor_36 (by decide) ?_
    refine k_iadd X dX0_wordFor_37 ?_
    refine k_as (y := nI (5 * i + 1)) (nI_1 _) ?_
    refine k_bipush (v := 15) X dX0_wordFor_38 (by decide) ?_
    refine k_iand X dX0_wordFor_40 ?_
    refine k_as (y := nI ((5 * i + 1) % 16)) (n_and (by omega) 4 (by decide)) ?_
    exact k_iret (u := []) X hr [] (by decide) rfl rfl (⟨rfl, rfl⟩) (by (try dsimp only); omega) (by (try dsimp only); omega) dX0_wordFor_41
  · refine k_iload_n X dX0_wordFor_0 rfl 0 rfl ?_
    refine k_tableIn (off := 41) (tgt := 42) X dX0_wordFor_1 (by decide) (by decide) (by decide) (by decide) ?_
    refine k_iconst (v := 3) X dX0_wordFor_42 (by decide) ?_
    refine k_iload_n X dX0_wordFor_43 rfl 1 rfl ?_
    refine k_imul X dX0_wordFor_44 ?_
    refine k_as (y := nI (3 * i)) (n_mul 3 i) ?_
    refine k_iconst (v := 5) X dX0_wordFor_45 (by decide) ?_
    refine k_iadd X dX0_wordFor_46 ?_
    refine k_as (y := nI (3 * i + 5)) (nI_add _ 5) ?_
    refine k_bipush (v := 15) X dX0_wordFor_47 (by decide) ?_
    refine k_iand X dX0_wordFor_49 ?_
    refine k_as (y := nI ((3 * i + 5) % 16)) (n_and (by omega) 4 (by decide)) ?_
    exact k_iret (u := []) X hr [] (by decide) rfl rfl (⟨rfl, rfl⟩) (by (try dsimp only); omega) (by (try dsimp only); omega) dX0_wordFor_50
  · refine k_iload_n X dX0_wordFor_0 rfl 0 rfl ?_
    refine k_tableOut (tgt := 51) X dX0_wordFor_1 (by decide) (by decide) ?_
    refine k_bipush (v := 7) X dX0_wordFor_51 (by decide) ?_
    refine k_iload_n X dX0_wordFor_53 rfl 1 rfl ?_
    refine k_imul X dX0_wordFor_54 ?_
    refine k_as (y := nI (7 * i)) (n_mul 7 i) ?_
    refine k_bipush (v := 15) X dX0_wordFor_55 (by decide) ?_
    refine k_iand X dX0_wordFor_57 ?_
    refine k_as (y := nI ((7 * i) % 16)) (n_and (by omega) 4 (by decide)) ?_
    exact k_iret (u := []) X hr [] (by decide) rfl rfl (⟨rfl, rfl⟩) (by (try dsimp only); omega) (by (try dsimp only); omega) dX0_wordFor_58
set_option maxHeartbeats 4000000 in
set_option maxRecDepth 100000 in
theorem c_mixWords (l : Launch) (D : va_G) (cI cB : ClassId) (o : Nat) (aw : Nat) (ah : Nat) (w : Nat → Int32) (h : Nat → Int32)  : kC l yX0_mixWords cX0_mixWords 9 none 1 23 (0) (0) D cI cB [.ref o] [(o, .inr (0, [.ref aw, .ref ah])), (aw, .inl (cI, 16, .inl w)), (ah, .inl (cI, 4, .inl h))] (fun (v : Option Value) (u : va_W) => v = none ∧ u = [(o, .inr (0, [.ref aw, .ref ah])), (aw, .inl (cI, 16, .inl w)), (ah, .inl (cI, 4, .inl (mMix w h)))]) := by
  refine k_entry (lv0 := [(0, .ref o)]) (by decide) (Nat.le_of_ble_eq_true rfl) rfl ?_
  intro zp ze zs zm zb zt zc zA X hr hin
  refine k_aload_n X dX0_mixWords_0 rfl 0 rfl ?_
  refine k_get (v := .ref ah) X 0 0 1 rfl rfl (by decide) fl_X0_15 in_X0 rfl rfl dX0_mixWords_1 ?_
  refine k_iconst (v := 0) X dX0_mixWords_4 (by decide) ?_
  refine k_iald (v := h 0) X 2 rfl (vp_in_nI (n := 0) (by omega) (by omega)) (by rw [show ((0 : Int32).toNatClampNeg) = 0 from rfl]) dX0_mixWords_5 ?_
  refine k_istore_n (lv' := [(1, .int (h 0)), (0, .ref o)]) X dX0_mixWords_6 rfl (by decide) rfl ?_
  refine k_aload_n X dX0_mixWords_7 rfl 1 rfl ?_
  refine k_get (v := .ref ah) X 0 0 1 rfl rfl (by decide) fl_X0_15 in_X0 rfl rfl dX0_mixWords_8 ?_
  refine k_iconst (v := 1) X dX0_mixWords_11 (by decide) ?_
  refine k_iald (v := h 1) X 2 rfl (vp_in_nI (n := 1) (by omega) (by omega)) (by rw [show ((1 : Int32).toNatClampNeg) = 1 from rfl]) dX0_mixWords_12 ?_
  refine k_istore_n (lv' := [(2, .int (h 1)), (1, .int (h 0)), (0, .ref o)]) X dX0_mixWords_13 rfl (by decide) rfl ?_
  refine k_aload_n X dX0_mixWords_14 rfl 2 rfl ?_
  refine k_get (v := .ref ah) X 0 0 1 rfl rfl (by decide) fl_X0_15 in_X0 rfl rfl dX0_mixWords_15 ?_
  refine k_iconst (v := 2) X dX0_mixWords_18 (by decide) ?_
  refine k_iald (v := h 2) X 2 rfl (vp_in_nI (n := 2) (by omega) (by omega)) (by rw [show ((2 : Int32).toNatClampNeg) = 2 from rfl]) dX0_mixWords_19 ?_
  refine k_istore_n (lv' := [(3, .int (h 2)), (2, .int (h 1)), (1, .int (h 0)), (0, .ref o)]) X dX0_mixWords_20 rfl (by decide) rfl ?_
  refine k_aload_n X dX0_mixWords_21 rfl 3 rfl ?_
  refine k_get (v := .ref ah) X 0 0 1 rfl rfl (by decide) fl_X0_15 in_X0 rfl rfl dX0_mixWords_22 ?_
  refine k_iconst (v := 3) X dX0_mixWords_25 (by decide) ?_
  refine k_iald (v := h 3) X 2 rfl (vp_in_nI (n := 3) (by omega) (by omega)) (by rw [show ((3 : Int32).toNatClampNeg) = 3 from rfl]) dX0_mixWords_26 ?_
  refine k_istore (lv' := [(4, .int (h 3)), (3, .int (h 2)), (2, .int (h 1)), (1, .int (h 0)), (0, .ref o)]) X dX0_mixWords_27 (by decide) rfl ?_
  refine k_iconst (v := 0) X dX0_mixWords_29 (by decide) ?_
  refine k_istore (lv' := [(5, .int 0), (4, .int (h 3)), (3, .int (h 2)), (2, .int (h 1)), (1, .int (h 0)), (0, .ref o)]) X dX0_mixWords_30 (by decide) rfl ?_
  refine k_lv (lv' := [(0, .ref o), (1, .int ((mQ w h 0).1)), (2, .int ((mQ w h 0).2.1)), (3, .int ((mQ w h 0).2.2.1)), (4, .int ((mQ w h 0).2.2.2)), (5, .int (nI 0))]) [5, 4, 3, 2, 1, 0] rfl ?_
  refine k_wide (k := 0) (n := 0) (by (try dsimp only); omega) (by (try dsimp only); omega) ?_
  refine k_loop1 (pc1 := 32) (cl := fun (i : Nat) => 0) (sl := fun (i : Nat) => 0) (wsf := fun (i : Nat) => [(o, .inr (0, [.ref aw, .ref ah])), (aw, .inl (cI, 16, .inl w)), (ah, .inl (cI, 4, .inl h))]) (lvf := fun (i : Nat) => [(0, .ref o), (1, .int ((mQ w h i).1)), (2, .int ((mQ w h i).2.1)), (3, .int ((mQ w h i).2.2.1)), (4, .int ((mQ w h i).2.2.2)), (5, .int (nI i))]) (stf := fun (i : Nat) => []) (I := fun (i : Nat) => i ≤ 64) (mu := fun (i : Nat) => 64 - i) ?_ 0 (Nat.zero_le _)
  intro i hI ih
  try dsimp only at hI ih
  try dsimp only
  refine k_iload X dX0_mixWords_32 5 rfl ?_
  refine k_bipush (v := 64) X dX0_mixWords_34 (by decide) ?_
  refine k_icmp_ge (tgt := 124) (xi := ((i : Nat) : Int)) (yi := (64 : Int)) X (nI_toInt (by omega)) (by decide) dX0_mixWords_36 (by decide) (fun c_36 => ?_) (fun c_36 => ?_)
  · obtain rfl : i = 64 := by omega
    refine k_aload_n X dX0_mixWords_124 rfl 0 rfl ?_
    refine k_get (v := .ref ah) X 0 0 1 rfl rfl (by decide) fl_X0_15 in_X0 rfl rfl dX0_mixWords_125 ?_
    refine k_iconst (v := 0) X dX0_mixWords_128 (by decide) ?_
    refine k_dup2 X dX0_mixWords_129 rfl rfl ?_
    refine k_iald (v := h 0) X 2 rfl (vp_in_nI (n := 0) (by omega) (by omega)) (by rw [show ((0 : Int32).toNatClampNeg) = 0 from rfl]) dX0_mixWords_130 ?_
    refine k_iload_n X dX0_mixWords_131 rfl 1 rfl ?_
    refine k_iadd X dX0_mixWords_132 ?_
    refine k_iast (f' := upd h 0 ((h 0) + ((mQ w h 64).1))) (ws' := [(o, .inr (0, [.ref aw, .ref ah])), (aw, .inl (cI, 16, .inl w)), (ah, .inl (cI, 4, .inl (upd h 0 ((h 0) + ((mQ w h 64).1)))))]) X 2 rfl (vp_in_nI (n := 0) (by omega) (by omega)) (by rw [show ((0 : Int32).toNatClampNeg) = 0 from rfl]) rfl dX0_mixWords_133 ?_
    refine k_aload_n X dX0_mixWords_134 rfl 0 rfl ?_
    refine k_get (v := .ref ah) X 0 0 1 rfl rfl (by decide) fl_X0_15 in_X0 rfl rfl dX0_mixWords_135 ?_
    refine k_iconst (v := 1) X dX0_mixWords_138 (by decide) ?_
    refine k_dup2 X dX0_mixWords_139 rfl rfl ?_
    refine k_iald (v := (upd h 0 ((h 0) + ((mQ w h 64).1))) 1) X 2 rfl (vp_in_nI (n := 1) (by omega) (by omega)) (by rw [show ((1 : Int32).toNatClampNeg) = 1 from rfl]) dX0_mixWords_140 ?_
    refine k_as (y := h 1) (pk_un (by decide)) ?_
    refine k_iload_n X dX0_mixWords_141 rfl 2 rfl ?_
    refine k_iadd X dX0_mixWords_142 ?_
    refine k_iast (f' := upd (upd h 0 ((h 0) + ((mQ w h 64).1))) 1 ((h 1) + ((mQ w h 64).2.1))) (ws' := [(o, .inr (0, [.ref aw, .ref ah])), (aw, .inl (cI, 16, .inl w)), (ah, .inl (cI, 4, .inl (upd (upd h 0 ((h 0) + ((mQ w h 64).1))) 1 ((h 1) + ((mQ w h 64).2.1)))))]) X 2 rfl (vp_in_nI (n := 1) (by omega) (by omega)) (by rw [show ((1 : Int32).toNatClampNeg) = 1 from rfl]) rfl dX0_mixWords_143 ?_
    refine k_aload_n X dX0_mixWords_144 rfl 0 rfl ?_
    refine k_get (v := .ref ah) X 0 0 1 rfl rfl (by decide) fl_X0_15 in_X0 rfl rfl dX0_mixWords_145 ?_
    refine k_iconst (v := 2) X dX0_mixWords_148 (by decide) ?_
    refine k_dup2 X dX0_mixWords_149 rfl rfl ?_
    refine k_iald (v := (upd (upd h 0 ((h 0) + ((mQ w h 64).1))) 1 ((h 1) + ((mQ w h 64).2.1))) 2) X 2 rfl (vp_in_nI (n := 2) (by omega) (by omega)) (by rw [show ((2 : Int32).toNatClampNeg) = 2 from rfl]) dX0_mixWords_150 ?_
    refine k_as (y := h 2) (by rw [pk_un (by decide), pk_un (by decide)]) ?_
    refine k_iload_n X dX0_mixWords_151 rfl 3 rfl ?_
    refine k_iadd X dX0_mixWords_152 ?_
    refine k_iast (f' := upd (upd (upd h 0 ((h 0) + ((mQ w h 64).1))) 1 ((h 1) + ((mQ w h 64).2.1))) 2 ((h 2) + ((mQ w h 64).2.2.1))) (ws' := [(o, .inr (0, [.ref aw, .ref ah])), (aw, .inl (cI, 16, .inl w)), (ah, .inl (cI, 4, .inl (upd (upd (upd h 0 ((h 0) + ((mQ w h 64).1))) 1 ((h 1) + ((mQ w h 64).2.1))) 2 ((h 2) + ((mQ w h 64).2.2.1)))))]) X 2 rfl (vp_in_nI (n := 2) (by omega) (by omega)) (by rw [show ((2 : Int32).toNatClampNeg) = 2 from rfl]) rfl dX0_mixWords_153 ?_
    refine k_aload_n X dX0_mixWords_154 rfl 0 rfl ?_
    refine k_get (v := .ref ah) X 0 0 1 rfl rfl (by decide) fl_X0_15 in_X0 rfl rfl dX0_mixWords_155 ?_
    refine k_iconst (v := 3) X dX0_mixWords_158 (by decide) ?_
    refine k_dup2 X dX0_mixWords_159 rfl rfl ?_
    refine k_iald (v := (upd (upd (upd h 0 ((h 0) + ((mQ w h 64).1))) 1 ((h 1) + ((mQ w h 64).2.1))) 2 ((h 2) + ((mQ w h 64).2.2.1))) 3) X 2 rfl (vp_in_nI (n := 3) (by omega) (by omega)) (by rw [show ((3 : Int32).toNatClampNeg) = 3 from rfl]) dX0_mixWords_160 ?_
    refine k_as (y := h 3) (by rw [pk_un (by decide), pk_un (by decide), pk_un (by decide)]) ?_
    refine k_iload X dX0_mixWords_161 4 rfl ?_
    refine k_iadd X dX0_mixWords_163 ?_
    refine k_iast (f' := upd (upd (upd (upd h 0 ((h 0) + ((mQ w h 64).1))) 1 ((h 1) + ((mQ w h 64).2.1))) 2 ((h 2) + ((mQ w h 64).2.2.1))) 3 ((h 3) + ((mQ w h 64).2.2.2))) (ws' := [(o, .inr (0, [.ref aw, .ref ah])), (aw, .inl (cI, 16, .inl w)), (ah, .inl (cI, 4, .inl (upd (upd (upd (upd h 0 ((h 0) + ((mQ w h 64).1))) 1 ((h 1) + ((mQ w h 64).2.1))) 2 ((h 2) + ((mQ w h 64).2.2.1))) 3 ((h 3) + ((mQ w h 64).2.2.2)))))]) X 2 rfl (vp_in_nI (n := 3) (by omega) (by omega)) (by rw [show ((3 : Int32).toNatClampNeg) = 3 from rfl]) rfl dX0_mixWords_164 ?_
    exact k_vret (u := [(o, .inr (0, [.ref aw, .ref ah])), (aw, .inl (cI, 16, .inl w)), (ah, .inl (cI, 4, .inl (upd (upd (upd (upd h 0 ((h 0) + ((mQ w h 64).1))) 1 ((h 1) + ((mQ w h 64).2.1))) 2 ((h 2) + ((mQ w h 64).2.2.1))) 3 ((h 3) + ((mQ w h 64).2.2.2)))))]) X hr [0, 1, 2] (by decide) rfl rfl (⟨rfl, rfl⟩) (by (try dsimp only); omega) (by (try dsimp only); omega) dX0_mixWords_165
  · refine k_iload X dX0_mixWords_39 5 rfl ?_
    refine k_iconst (v := 4) X dX0_mixWords_41 (by decide) ?_
    refine k_ishr X dX0_mixWords_42 ?_
    refine k_as (y := nI (i / 16)) (n_shr (by omega) 4 (by decide)) ?_
    refine k_istore (lv' := [(6, .int (nI (i / 16))), (0, .ref o), (1, .int ((mQ w h i).1)), (2, .int ((mQ w h i).2.1)), (3, .int ((mQ w h i).2.2.1)), (4, .int ((mQ w h i).2.2.2)), (5, .int (nI i))]) X dX0_mixWords_43 (by decide) rfl ?_
    refine k_iload_n X dX0_mixWords_45 rfl 2 rfl ?_
    refine k_iload X dX0_mixWords_46 0 rfl ?_
    refine k_iload_n X dX0_mixWords_48 rfl 3 rfl ?_
    refine k_iload_n X dX0_mixWords_49 rfl 4 rfl ?_
    refine k_iload X dX0_mixWords_50 5 rfl ?_
    refine k_callS (wc := []) (wr := [(o, .inr (0, [.ref aw, .ref ah])), (aw, .inl (cI, 16, .inl w)), (ah, .inl (cI, 4, .inl h))]) (As := [.int (nI (i / 16)), .int ((mQ w h i).2.1), .int ((mQ w h i).2.2.1), .int ((mQ w h i).2.2.2)]) (n := 4) (st := [.int ((mQ w h i).1)]) X (c_mixed l D cI cB (i / 16) ((mQ w h i).2.1) ((mQ w h i).2.2.1) ((mQ w h i).2.2.2) (by omega)) ml_X0_51 sm_X0_mixed ini_X0 co_X0_mixed (by decide +kernel) rfl ⟨Nat.le_of_ble_eq_true rfl, Nat.le_of_ble_eq_true rfl⟩ (⟨by (try dsimp only); omega, by (try dsimp only); omega⟩) (Nat.le_of_ble_eq_true rfl) [] [0, 1, 2] rfl rfl rfl (by decide) (by decide) (by decide) rfl dX0_mixWords_52 (fun v_52 u_52 hu_52 => ?_)
    obtain ⟨rfl, rfl⟩ := hu_52
    refine k_to (ws' := [(o, .inr (0, [.ref aw, .ref ah])), (aw, .inl (cI, 16, .inl w)), (ah, .inl (cI, 4, .inl h))]) (st' := [.int (mF (i / 16) ((mQ w h i).2.1) ((mQ w h i).2.2.1) ((mQ w h i).2.2.2)), .int ((mQ w h i).1)]) rfl rfl ?_
    refine k_iadd X dX0_mixWords_55 ?_
    refine k_gsin X fl_X0_55 dX0_mixWords_56 (fun t_56 ht_56 => ?_)
    refine k_iload X dX0_mixWords_59 6 rfl ?_
    refine k_tld (v := kSin i) X ht_56 (vp_in_nI (n := i) (by omega) (by omega)) (by rw [nI_clamp (n := i) (by omega)]) dX0_mixWords_61 ?_
    refine k_iadd X dX0_mixWords_62 ?_
    refine k_aload_n X dX0_mixWords_63 rfl 1 rfl ?_
    refine k_get (v := .ref aw) X 0 0 0 rfl rfl (by decide) fl_X0_9 in_X0 rfl rfl dX0_mixWords_64 ?_
    refine k_iload X dX0_mixWords_67 0 rfl ?_
    refine k_iload X dX0_mixWords_69 6 rfl ?_
    refine k_callS (wc := []) (wr := [(o, .inr (0, [.ref aw, .ref ah])), (aw, .inl (cI, 16, .inl w)), (ah, .inl (cI, 4, .inl h))]) (As := [.int (nI (i / 16)), .int (nI i)]) (n := 2) (st := [.ref aw, .int ((((mQ w h i).1) + (mF (i / 16) ((mQ w h i).2.1) ((mQ w h i).2.2.1) ((mQ w h i).2.2.2))) + (kSin i))]) X (c_wordFor l D cI cB (i / 16) i (by omega) (by omega)) ml_X0_58 sm_X0_wordFor ini_X0 co_X0_wordFor (by decide +kernel) rfl ⟨Nat.le_of_ble_eq_true rfl, Nat.le_of_ble_eq_true rfl⟩ (⟨by (try dsimp only); omega, by (try dsimp only); omega⟩) (Nat.le_of_ble_eq_true rfl) [] [0, 1, 2] rfl rfl rfl (by decide) (by decide) (by decide) rfl dX0_mixWords_71 (fun v_71 u_71 hu_71 => ?_)
    obtain ⟨rfl, rfl⟩ := hu_71
    refine k_to (ws' := [(o, .inr (0, [.ref aw, .ref ah])), (aw, .inl (cI, 16, .inl w)), (ah, .inl (cI, 4, .inl h))]) (st' := [.int (nI (mG (i / 16) i)), .ref aw, .int ((((mQ w h i).1) + (mF (i / 16) ((mQ w h i).2.1) ((mQ w h i).2.2.1) ((mQ w h i).2.2.2))) + (kSin i))]) rfl rfl ?_
    have hmG := mG_lt (i / 16) i
    refine k_iald (v := w (mG (i / 16) i)) X 1 rfl (vp_in_nI (n := mG (i / 16) i) (mG_lt _ _) (by decide)) (by rw [nI_clamp (n := mG (i / 16) i) (by omega)]) dX0_mixWords_74 ?_
    refine k_iadd X dX0_mixWords_75 ?_
    refine k_istore (lv' := [(7, .int (((((mQ w h i).1) + (mF (i / 16) ((mQ w h i).2.1) ((mQ w h i).2.2.1) ((mQ w h i).2.2.2))) + (kSin i)) + (w (mG (i / 16) i)))), (6, .int (nI (i / 16))), (0, .ref o), (1, .int ((mQ w h i).1)), (2, .int ((mQ w h i).2.1)), (3, .int ((mQ w h i).2.2.1)), (4, .int ((mQ w h i).2.2.2)), (5, .int (nI i))]) X dX0_mixWords_76 (by decide) rfl ?_
    refine k_gtrn X fl_X0_61 dX0_mixWords_78 (fun t_78 ht_78 => ?_)
    refine k_iconst (v := 4) X dX0_mixWords_81 (by decide) ?_
    refine k_iload X dX0_mixWords_82 1 rfl ?_
    refine k_imul X dX0_mixWords_84 ?_
    refine k_as (y := nI (4 * (i / 16))) (n_mul 4 _) ?_
    refine k_iload X dX0_mixWords_85 7 rfl ?_
    refine k_iconst (v := 3) X dX0_mixWords_87 (by decide) ?_
    refine k_iand X dX0_mixWords_88 ?_
    refine k_as (y := nI (i % 4)) (n_and (by omega) 2 (by decide)) ?_
    refine k_iadd X dX0_mixWords_89 ?_
    refine k_as (y := nI (4 * (i / 16) + i % 4)) (nI_add _ _) ?_
    refine k_tld (v := kTrn (4 * (i / 16) + i % 4)) X ht_78 (vp_in_nI (n := 4 * (i / 16) + i % 4) (by omega) (by omega)) (by rw [nI_clamp (n := 4 * (i / 16) + i % 4) (by omega)]) dX0_mixWords_90 ?_
    refine k_istore (lv' := [(8, .int (kTrn (4 * (i / 16) + i % 4))), (7, .int (((((mQ w h i).1) + (mF (i / 16) ((mQ w h i).2.1) ((mQ w h i).2.2.1) ((mQ w h i).2.2.2))) + (kSin i)) + (w (mG (i / 16) i)))), (6, .int (nI (i / 16))), (0, .ref o), (1, .int ((mQ w h i).1)), (2, .int ((mQ w h i).2.1)), (3, .int ((mQ w h i).2.2.1)), (4, .int ((mQ w h i).2.2.2)), (5, .int (nI i))]) X dX0_mixWords_91 (by decide) rfl ?_
    refine k_iload X dX0_mixWords_93 7 rfl ?_
    refine k_istore_n (lv' := [(1, .int ((mQ w h i).2.2.2)), (8, .int (kTrn (4 * (i / 16) + i % 4))), (7, .int (((((mQ w h i).1) + (mF (i / 16) ((mQ w h i).2.1) ((mQ w h i).2.2.1) ((mQ w h i).2.2.2))) + (kSin i)) + (w (mG (i / 16) i)))), (6, .int (nI (i / 16))), (0, .ref o), (2, .int ((mQ w h i).2.1)), (3, .int ((mQ w h i).2.2.1)), (4, .int ((mQ w h i).2.2.2)), (5, .int (nI i))]) X dX0_mixWords_95 rfl (by decide) rfl ?_
    refine k_iload_n X dX0_mixWords_96 rfl 6 rfl ?_
    refine k_istore (lv' := [(4, .int ((mQ w h i).2.2.1)), (1, .int ((mQ w h i).2.2.2)), (8, .int (kTrn (4 * (i / 16) + i % 4))), (7, .int (((((mQ w h i).1) + (mF (i / 16) ((mQ w h i).2.1) ((mQ w h i).2.2.1) ((mQ w h i).2.2.2))) + (kSin i)) + (w (mG (i / 16) i)))), (6, .int (nI (i / 16))), (0, .ref o), (2, .int ((mQ w h i).2.1)), (3, .int ((mQ w h i).2.2.1)), (5, .int (nI i))]) X dX0_mixWords_97 (by decide) rfl ?_
    refine k_iload_n X dX0_mixWords_99 rfl 6 rfl ?_
    refine k_istore_n (lv' := [(3, .int ((mQ w h i).2.1)), (4, .int ((mQ w h i).2.2.1)), (1, .int ((mQ w h i).2.2.2)), (8, .int (kTrn (4 * (i / 16) + i % 4))), (7, .int (((((mQ w h i).1) + (mF (i / 16) ((mQ w h i).2.1) ((mQ w h i).2.2.1) ((mQ w h i).2.2.2))) + (kSin i)) + (w (mG (i / 16) i)))), (6, .int (nI (i / 16))), (0, .ref o), (2, .int ((mQ w h i).2.1)), (5, .int (nI i))]) X dX0_mixWords_100 rfl (by decide) rfl ?_
    refine k_iload_n X dX0_mixWords_101 rfl 7 rfl ?_
    refine k_iload X dX0_mixWords_102 4 rfl ?_
    refine k_iload X dX0_mixWords_104 3 rfl ?_
    refine k_ishl X dX0_mixWords_106 ?_
    refine k_iload X dX0_mixWords_107 4 rfl ?_
    refine k_bipush (v := 32) X dX0_mixWords_109 (by decide) ?_
    refine k_iload X dX0_mixWords_111 3 rfl ?_
    refine k_isub X dX0_mixWords_113 ?_
    refine k_iushr (v := ((((((mQ w h i).1) + (mF (i / 16) ((mQ w h i).2.1) ((mQ w h i).2.2.1) ((mQ w h i).2.2.2))) + (kSin i)) + (w (mG (i / 16) i))).toUInt32 >>> ((32 - (kTrn (4 * (i / 16) + i % 4))).toUInt32 &&& Int32.toUInt32 31)).toInt32) X dX0_mixWords_114 rfl ?_
    refine k_ior X dX0_mixWords_115 ?_
    refine k_iadd X dX0_mixWords_116 ?_
    refine k_istore_n (lv' := [(2, .int (((mQ w h i).2.1) + (((((((mQ w h i).1) + (mF (i / 16) ((mQ w h i).2.1) ((mQ w h i).2.2.1) ((mQ w h i).2.2.2))) + (kSin i)) + (w (mG (i / 16) i))) <<< ((kTrn (4 * (i / 16) + i % 4)) &&& 31)) ||| (((((((mQ w h i).1) + (mF (i / 16) ((mQ w h i).2.1) ((mQ w h i).2.2.1) ((mQ w h i).2.2.2))) + (kSin i)) + (w (mG (i / 16) i))).toUInt32 >>> ((32 - (kTrn (4 * (i / 16) + i % 4))).toUInt32 &&& Int32.toUInt32 31)).toInt32)))), (3, .int ((mQ w h i).2.1)), (4, .int ((mQ w h i).2.2.1)), (1, .int ((mQ w h i).2.2.2)), (8, .int (kTrn (4 * (i / 16) + i % 4))), (7, .int (((((mQ w h i).1) + (mF (i / 16) ((mQ w h i).2.1) ((mQ w h i).2.2.1) ((mQ w h i).2.2.2))) + (kSin i)) + (w (mG (i / 16) i)))), (6, .int (nI (i / 16))), (0, .ref o), (5, .int (nI i))]) X dX0_mixWords_117 rfl (by decide) rfl ?_
    refine k_iinc (v := nI (i + 1)) (lv' := [(5, .int (nI (i + 1))), (2, .int (((mQ w h i).2.1) + (((((((mQ w h i).1) + (mF (i / 16) ((mQ w h i).2.1) ((mQ w h i).2.2.1) ((mQ w h i).2.2.2))) + (kSin i)) + (w (mG (i / 16) i))) <<< ((kTrn (4 * (i / 16) + i % 4)) &&& 31)) ||| (((((((mQ w h i).1) + (mF (i / 16) ((mQ w h i).2.1) ((mQ w h i).2.2.1) ((mQ w h i).2.2.2))) + (kSin i)) + (w (mG (i / 16) i))).toUInt32 >>> ((32 - (kTrn (4 * (i / 16) + i % 4))).toUInt32 &&& Int32.toUInt32 31)).toInt32)))), (3, .int ((mQ w h i).2.1)), (4, .int ((mQ w h i).2.2.1)), (1, .int ((mQ w h i).2.2.2)), (8, .int (kTrn (4 * (i / 16) + i % 4))), (7, .int (((((mQ w h i).1) + (mF (i / 16) ((mQ w h i).2.1) ((mQ w h i).2.2.1) ((mQ w h i).2.2.2))) + (kSin i)) + (w (mG (i / 16) i)))), (6, .int (nI (i / 16))), (0, .ref o)]) X dX0_mixWords_118 8 rfl (nI_1 _) (by decide) rfl ?_
    refine k_goto (tgt := 32) X dX0_mixWords_121 (by decide) ?_
    refine k_lv (lv' := [(0, .ref o), (1, .int ((mQ w h (i + 1)).1)), (2, .int ((mQ w h (i + 1)).2.1)), (3, .int ((mQ w h (i + 1)).2.2.1)), (4, .int ((mQ w h (i + 1)).2.2.2)), (5, .int (nI (i + 1)))]) [8, 4, 1, 2, 3, 0] rfl ?_
    refine k_sub (ws' := [(o, .inr (0, [.ref aw, .ref ah])), (aw, .inl (cI, 16, .inl w)), (ah, .inl (cI, 4, .inl h))]) [0, 1, 2] (by decide) rfl rfl ?_
    refine k_wide (k := 0) (n := 0) (by (try dsimp only); omega) (by (try dsimp only); omega) ?_
    exact ih (i + 1) (by omega) (by omega)
set_option maxHeartbeats 4000000 in
set_option maxRecDepth 100000 in
theorem c_digestByte (l : Launch) (D : va_G) (cI cB : ClassId) (o : Nat) (aw : Nat) (ah : Nat) (h : Nat → Int32) (k : Nat) (hk : k < 16) : kC l yX0_digestByte cX0_digestByte 2 (some .int) 0 0 (0) (0) D cI cB [.ref o, .int (nI k)] [(o, .inr (0, [.ref aw, .ref ah])), (ah, .inl (cI, 4, .inl h))] (fun (v : Option Value) (u : va_W) => v = some (.int (dByte h k)) ∧ u = [(o, .inr (0, [.ref aw, .ref ah])), (ah, .inl (cI, 4, .inl h))]) := by
  refine k_entry (lv0 := [(0, .ref o), (1, .int (nI k))]) (by decide) (Nat.le_of_ble_eq_true rfl) rfl ?_
  intro zp ze zs zm zb zt zc zA X hr hin
  refine k_iload_n X dX0_digestByte_0 rfl 1 rfl ?_
  refine k_if_lt (tgt := 32) (xi := ((k : Nat) : Int)) X (nI_toInt (by omega)) dX0_digestByte_1 (by decide) (fun c_1 => ?_) (fun c_1 => ?_)
  · exact absurd c_1 (by omega)
  · refine k_iload_n X dX0_digestByte_4 rfl 1 rfl ?_
    refine k_bipush (v := 16) X dX0_digestByte_5 (by decide) ?_
    refine k_icmp_ge (tgt := 32) (xi := ((k : Nat) : Int)) (yi := (16 : Int)) X (nI_toInt (by omega)) (by decide) dX0_digestByte_7 (by decide) (fun c_7 => ?_) (fun c_7 => ?_)
    · exact absurd c_7 (by omega)
    · refine k_aload_n X dX0_digestByte_10 rfl 0 rfl ?_
      refine k_get (v := .ref ah) X 0 0 1 rfl rfl (by decide) fl_X0_15 in_X0 rfl rfl dX0_digestByte_11 ?_
      refine k_iload_n X dX0_digestByte_14 rfl 1 rfl ?_
      refine k_iconst (v := 2) X dX0_digestByte_15 (by decide) ?_
      refine k_ishr X dX0_digestByte_16 ?_
      refine k_as (y := nI (k / 4)) (n_shr (by omega) 2 (by decide)) ?_
      refine k_iald (v := h (k / 4)) X 1 rfl (vp_in_nI (n := k / 4) (by omega) (by omega)) (by rw [nI_clamp (n := k / 4) (by omega)]) dX0_digestByte_17 ?_
      refine k_bipush (v := 8) X dX0_digestByte_18 (by decide) ?_
      refine k_iload_n X dX0_digestByte_20 rfl 1 rfl ?_
      refine k_iconst (v := 3) X dX0_digestByte_21 (by decide) ?_
      refine k_iand X dX0_digestByte_22 ?_
      refine k_as (y := nI (k % 4)) (n_and (by omega) 2 (by decide)) ?_
      refine k_imul X dX0_digestByte_23 ?_
      refine k_as (y := nI (8 * (k % 4))) (n_mul 8 _) ?_
      refine k_iushr (v := ((h (k / 4)).toUInt32 >>> ((nI (8 * (k % 4))).toUInt32 &&& Int32.toUInt32 31)).toInt32) X dX0_digestByte_24 rfl ?_
      refine k_sipush (v := 255) X dX0_digestByte_25 (by decide) ?_
      refine k_iand X dX0_digestByte_28 ?_
      refine k_as (y := dByte h k) (rfl) ?_
      refine k_goto (tgt := 33) X dX0_digestByte_29 (by decide) ?_
      exact k_iret (u := [(o, .inr (0, [.ref aw, .ref ah])), (ah, .inl (cI, 4, .inl h))]) X hr [0, 1] (by decide) rfl rfl (⟨rfl, rfl⟩) (by (try dsimp only); omega) (by (try dsimp only); omega) dX0_digestByte_33
set_option maxHeartbeats 4000000 in
set_option maxRecDepth 100000 in
theorem c_fillWords (l : Launch) (D : va_G) (cI cB : ClassId) (o : Nat) (aw : Nat) (ah : Nat) (w : Nat → Int32) (r : Nat) (a : Nat) (mo : Nat) (k : Nat) (n : Nat) (f : Nat → Int32) (x : Nat) (m : Nat) (st : Nat) (hk : k ≤ n) (hn : n ≤ mo) (hmo : mo ≤ 8000) (hxm : x + m ≤ k) (hm : m ≤ 2000) (hst : st ≤ 8000) (hle : st ≤ m) : kC l yX0_fillWords cX0_fillWords 7 none 1 23 (0) (0) D cI cB [.ref o, .ref r, .int (nI x), .int (nI m), .int (nI st)] [(o, .inr (0, [.ref aw, .ref ah])), (aw, .inl (cI, 16, .inl w)), (r, .inr (1, [.int (nI mo), .ref a, .int (nI k)])), (a, .inl (cI, n, .inl f))] (fun (v : Option Value) (u : va_W) => ∃ (w2 : Nat → Int32), v = none ∧ u = [(o, .inr (0, [.ref aw, .ref ah])), (aw, .inl (cI, 16, .inl w2)), (r, .inr (1, [.int (nI mo), .ref a, .int (nI k)])), (a, .inl (cI, n, .inl f))] ∧ (∀ j, j < 16 → w2 j = mWp (fun t => pb f x m (st + t)) 64 j)) := by
  refine k_entry (lv0 := [(0, .ref o), (1, .ref r), (2, .int (nI x)), (3, .int (nI m)), (4, .int (nI st))]) (by decide) (Nat.le_of_ble_eq_true rfl) rfl ?_
  intro zp ze zs zm zb zt zc zA X hr hin
  refine k_aload_n X dX0_fillWords_0 rfl 0 rfl ?_
  refine k_get (v := .ref aw) X 0 0 0 rfl rfl (by decide) fl_X0_9 in_X0 rfl rfl dX0_fillWords_1 ?_
  refine k_iconst (v := 0) X dX0_fillWords_4 (by decide) ?_
  refine k_callS (wc := [(aw, .inl (cI, 16, .inl w))]) (wr := [(o, .inr (0, [.ref aw, .ref ah])), (r, .inr (1, [.int (nI mo), .ref a, .int (nI k)])), (a, .inl (cI, n, .inl f))]) (As := [.ref aw, .int 0]) (n := 2) (st := []) X (c_fill l D cI cB aw 16 w 0 (by omega)) ml_X0_35 sm_J7_fill_53178 ini_J7 co_J7_fill_53178 (by decide +kernel) rfl ⟨Nat.le_of_ble_eq_true rfl, Nat.le_of_ble_eq_true rfl⟩ (⟨by (try dsimp only); omega, by (try dsimp only); omega⟩) (Nat.le_of_ble_eq_true rfl) [1] [0, 2, 3] rfl rfl rfl (by decide) (by decide) (by decide) rfl dX0_fillWords_5 (fun v_5 u_5 hu_5 => ?_)
  obtain ⟨g0, rfl, rfl, hg0⟩ := hu_5
  refine k_to (ws' := [(o, .inr (0, [.ref aw, .ref ah])), (r, .inr (1, [.int (nI mo), .ref a, .int (nI k)])), (a, .inl (cI, n, .inl f)), (aw, .inl (cI, 16, .inl g0))]) (st' := []) rfl rfl ?_
  refine k_iload_n X dX0_fillWords_8 rfl 3 rfl ?_
  refine k_iload X dX0_fillWords_9 4 rfl ?_
  refine k_isub X dX0_fillWords_11 ?_
  refine k_as (y := nI (m - st)) (pk_sub hle) ?_
  refine k_bipush (v := 64) X dX0_fillWords_12 (by decide) ?_
  refine k_mmin X ml_X0_41 sm_Mmin ini_J9 co_Mmin (Nat.le_of_ble_eq_true rfl) (Nat.le_of_ble_eq_true rfl) (by (try dsimp only); omega) (by (try dsimp only); omega) dX0_fillWords_14 ?_
  refine k_as (y := nI (min (m - st) 64)) (mnI (a := m - st) (b := 64) (by omega) (by omega)) ?_
  refine k_istore (lv' := [(5, .int (nI (min (m - st) 64))), (0, .ref o), (1, .ref r), (2, .int (nI x)), (3, .int (nI m)), (4, .int (nI st))]) X dX0_fillWords_17 (by decide) rfl ?_
  refine k_iconst (v := 0) X dX0_fillWords_19 (by decide) ?_
  refine k_istore (lv' := [(6, .int 0), (5, .int (nI (min (m - st) 64))), (0, .ref o), (1, .ref r), (2, .int (nI x)), (3, .int (nI m)), (4, .int (nI st))]) X dX0_fillWords_20 (by decide) rfl ?_
  refine k_lv (lv' := [(0, .ref o), (1, .ref r), (2, .int (nI x)), (3, .int (nI m)), (4, .int (nI st)), (5, .int (nI (min (m - st) 64))), (6, .int (nI 0))]) [2, 3, 4, 5, 6, 1, 0] rfl ?_
  refine k_sub (ws' := [(o, .inr (0, [.ref aw, .ref ah])), (aw, .inl (cI, 16, .inl g0)), (r, .inr (1, [.int (nI mo), .ref a, .int (nI k)])), (a, .inl (cI, n, .inl f))]) [0, 3, 1, 2] (by decide) rfl rfl ?_
  refine k_wide (k := 0) (n := 0) (by (try dsimp only); omega) (by (try dsimp only); omega) ?_
  refine k_loop2 (pc1 := 22) (cl := fun (i : Nat) (g : Nat → Int32) => 0) (sl := fun (i : Nat) (g : Nat → Int32) => 0) (wsf := fun (i : Nat) (g : Nat → Int32) => [(o, .inr (0, [.ref aw, .ref ah])), (aw, .inl (cI, 16, .inl g)), (r, .inr (1, [.int (nI mo), .ref a, .int (nI k)])), (a, .inl (cI, n, .inl f))]) (lvf := fun (i : Nat) (g : Nat → Int32) => [(0, .ref o), (1, .ref r), (2, .int (nI x)), (3, .int (nI m)), (4, .int (nI st)), (5, .int (nI (min (m - st) 64))), (6, .int (nI i))]) (stf := fun (i : Nat) (g : Nat → Int32) => []) (I := fun (i : Nat) (g : Nat → Int32) => i ≤ min (m - st) 64 ∧ ∀ j, j < 16 → g j = mWp (fun t => pb f x m (st + t)) i j) (mu := fun (i : Nat) (g : Nat → Int32) => min (m - st) 64 - i) ?_ 0 g0 (⟨Nat.zero_le _, fun j hj => hg0 j hj⟩)
  intro i g hI ih
  try dsimp only at hI ih
  try dsimp only
  have hi := hI.1
  refine k_iload X dX0_fillWords_22 6 rfl ?_
  refine k_iload X dX0_fillWords_24 5 rfl ?_
  refine k_icmp_ge (tgt := 66) (xi := ((i : Nat) : Int)) (yi := (((min (m - st) 64) : Nat) : Int)) X (nI_toInt (by omega)) (nI_toInt (by omega)) dX0_fillWords_26 (by decide) (fun c_26 => ?_) (fun c_26 => ?_)
  · obtain rfl : i = min (m - st) 64 := by omega
    refine k_iload X dX0_fillWords_66 5 rfl ?_
    refine k_if_lt (tgt := 101) (xi := (((min (m - st) 64) : Nat) : Int)) X (nI_toInt (by omega)) dX0_fillWords_68 (by decide) (fun c_68 => ?_) (fun c_68 => ?_)
    · exact absurd c_68 (by omega)
    · refine k_iload X dX0_fillWords_71 5 rfl ?_
      refine k_bipush (v := 64) X dX0_fillWords_73 (by decide) ?_
      refine k_icmp_ge (tgt := 101) (xi := (((min (m - st) 64) : Nat) : Int)) (yi := (64 : Int)) X (nI_toInt (by omega)) (by decide) dX0_fillWords_75 (by decide) (fun c_75 => ?_) (fun c_75 => ?_)
      · exact k_vret (u := [(o, .inr (0, [.ref aw, .ref ah])), (aw, .inl (cI, 16, .inl g)), (r, .inr (1, [.int (nI mo), .ref a, .int (nI k)])), (a, .inl (cI, n, .inl f))]) X hr [0, 1, 2, 3] (by decide) rfl rfl (⟨g, rfl, rfl, fun j hj => by rw [mWp_64 (m := 64) (by omega) (fun t h1 h2 => absurd h2 (by omega)), hI.2 j hj]; congr 1; omega⟩) (by (try dsimp only); omega) (by (try dsimp only); omega) dX0_fillWords_101
      · refine k_aload_n X dX0_fillWords_78 rfl 0 rfl ?_
        refine k_get (v := .ref aw) X 0 0 0 rfl rfl (by decide) fl_X0_9 in_X0 rfl rfl dX0_fillWords_79 ?_
        refine k_iload X dX0_fillWords_82 5 rfl ?_
        refine k_iconst (v := 2) X dX0_fillWords_84 (by decide) ?_
        refine k_ishr X dX0_fillWords_85 ?_
        refine k_as (y := nI ((min (m - st) 64) / 4)) (n_shr (by omega) 2 (by decide)) ?_
        refine k_dup2 X dX0_fillWords_86 rfl rfl ?_
        refine k_iald (v := g ((min (m - st) 64) / 4)) X 1 rfl (vp_in_nI (n := (min (m - st) 64) / 4) (by omega) (by omega)) (by rw [nI_clamp (n := (min (m - st) 64) / 4) (by omega)]) dX0_fillWords_87 ?_
        refine k_sipush (v := 128) X dX0_fillWords_88 (by decide) ?_
        refine k_bipush (v := 8) X dX0_fillWords_91 (by decide) ?_
        refine k_iload X dX0_fillWords_93 5 rfl ?_
        refine k_iconst (v := 3) X dX0_fillWords_95 (by decide) ?_
        refine k_iand X dX0_fillWords_96 ?_
        refine k_as (y := nI ((min (m - st) 64) % 4)) (n_and (by omega) 2 (by decide)) ?_
        refine k_imul X dX0_fillWords_97 ?_
        refine k_as (y := nI (8 * ((min (m - st) 64) % 4))) (n_mul 8 _) ?_
        refine k_ishl X dX0_fillWords_98 ?_
        refine k_ior X dX0_fillWords_99 ?_
        refine k_iast (f' := upd g ((min (m - st) 64) / 4) ((g ((min (m - st) 64) / 4)) ||| (128 <<< ((nI (8 * ((min (m - st) 64) % 4))) &&& 31)))) (ws' := [(o, .inr (0, [.ref aw, .ref ah])), (aw, .inl (cI, 16, .inl (upd g ((min (m - st) 64) / 4) ((g ((min (m - st) 64) / 4)) ||| (128 <<< ((nI (8 * ((min (m - st) 64) % 4))) &&& 31)))))), (r, .inr (1, [.int (nI mo), .ref a, .int (nI k)])), (a, .inl (cI, n, .inl f))]) X 1 rfl (vp_in_nI (n := (min (m - st) 64) / 4) (by omega) (by omega)) (by rw [nI_clamp (n := (min (m - st) 64) / 4) (by omega)]) rfl dX0_fillWords_100 ?_
        exact k_vret (u := [(o, .inr (0, [.ref aw, .ref ah])), (aw, .inl (cI, 16, .inl (upd g ((min (m - st) 64) / 4) ((g ((min (m - st) 64) / 4)) ||| (128 <<< ((nI (8 * ((min (m - st) 64) % 4))) &&& 31)))))), (r, .inr (1, [.int (nI mo), .ref a, .int (nI k)])), (a, .inl (cI, n, .inl f))]) X hr [0, 1, 2, 3] (by decide) rfl rfl (⟨_, rfl, rfl, fun j hj => by rw [mWp_64 (m := min (m - st) 64 + 1) (by omega) (fun t h1 h2 => by rw [pb, if_neg (by omega), if_neg (by omega)])]; exact mW_step (by omega) (by rw [pb, if_neg (by omega), if_pos (by omega)]) hI.2 j hj⟩) (by (try dsimp only); omega) (by (try dsimp only); omega) dX0_fillWords_101
  · refine k_aload_n X dX0_fillWords_29 rfl 0 rfl ?_
    refine k_get (v := .ref aw) X 0 0 0 rfl rfl (by decide) fl_X0_9 in_X0 rfl rfl dX0_fillWords_30 ?_
    refine k_iload X dX0_fillWords_33 6 rfl ?_
    refine k_iconst (v := 2) X dX0_fillWords_35 (by decide) ?_
    refine k_ishr X dX0_fillWords_36 ?_
    refine k_as (y := nI (i / 4)) (n_shr (by omega) 2 (by decide)) ?_
    refine k_dup2 X dX0_fillWords_37 rfl rfl ?_
    refine k_iald (v := g (i / 4)) X 1 rfl (vp_in_nI (n := i / 4) (by omega) (by omega)) (by rw [nI_clamp (n := i / 4) (by omega)]) dX0_fillWords_38 ?_
    refine k_aload_n X dX0_fillWords_39 rfl 1 rfl ?_
    refine k_iload_n X dX0_fillWords_40 rfl 2 rfl ?_
    refine k_iload X dX0_fillWords_41 4 rfl ?_
    refine k_iadd X dX0_fillWords_43 ?_
    refine k_as (y := nI (x + st)) (nI_add _ _) ?_
    refine k_iload X dX0_fillWords_44 6 rfl ?_
    refine k_iadd X dX0_fillWords_46 ?_
    refine k_as (y := nI (x + st + i)) (nI_add _ _) ?_
    refine k_callV (wc := [(r, .inr (1, [.int (nI mo), .ref a, .int (nI k)])), (a, .inl (cI, n, .inl f))]) (wr := [(o, .inr (0, [.ref aw, .ref ah])), (aw, .inl (cI, 16, .inl g))]) (As := [.int (nI (x + st + i))]) (n := 1) (st := [.int (g (i / 4)), .int (nI (i / 4)), .ref aw]) (q0 := 0) X (c_get l D cI cB r a mo k n f (nI (x + st + i)) (by omega) (by omega) (by omega)) rfl rfl ml_X0_47 im_X1_get se_X1_get ini_X1 co_X1_get (by decide +kernel) rfl ⟨Nat.le_of_ble_eq_true rfl, Nat.le_of_ble_eq_true rfl⟩ (⟨by (try dsimp only); omega, by (try dsimp only); omega⟩) (Nat.le_of_ble_eq_true rfl) [2, 3] [0, 1] rfl rfl rfl (by decide) (by decide) (by decide) rfl dX0_fillWords_47 (fun v_47 u_47 hu_47 => ?_)
    obtain ⟨rfl, rfl⟩ := hu_47
    refine k_to (ws' := [(o, .inr (0, [.ref aw, .ref ah])), (aw, .inl (cI, 16, .inl g)), (r, .inr (1, [.int (nI mo), .ref a, .int (nI k)])), (a, .inl (cI, n, .inl f))]) (st' := [.int (rGet f k (nI (x + st + i))), .int (g (i / 4)), .int (nI (i / 4)), .ref aw]) rfl rfl ?_
    refine k_as (y := f (x + st + i)) (rGet_nI (by omega) (by omega)) ?_
    refine k_bipush (v := 8) X dX0_fillWords_50 (by decide) ?_
    refine k_iload X dX0_fillWords_52 6 rfl ?_
    refine k_iconst (v := 3) X dX0_fillWords_54 (by decide) ?_
    refine k_iand X dX0_fillWords_55 ?_
    refine k_as (y := nI (i % 4)) (n_and (by omega) 2 (by decide)) ?_
    refine k_imul X dX0_fillWords_56 ?_
    refine k_as (y := nI (8 * (i % 4))) (n_mul 8 _) ?_
    refine k_ishl X dX0_fillWords_57 ?_
    refine k_ior X dX0_fillWords_58 ?_
    refine k_iast (f' := upd g (i / 4) ((g (i / 4)) ||| ((f (x + st + i)) <<< ((nI (8 * (i % 4))) &&& 31)))) (ws' := [(o, .inr (0, [.ref aw, .ref ah])), (aw, .inl (cI, 16, .inl (upd g (i / 4) ((g (i / 4)) ||| ((f (x + st + i)) <<< ((nI (8 * (i % 4))) &&& 31)))))), (r, .inr (1, [.int (nI mo), .ref a, .int (nI k)])), (a, .inl (cI, n, .inl f))]) X 1 rfl (vp_in_nI (n := i / 4) (by omega) (by omega)) (by rw [nI_clamp (n := i / 4) (by omega)]) rfl dX0_fillWords_59 ?_
    refine k_iinc (v := nI (i + 1)) (lv' := [(6, .int (nI (i + 1))), (0, .ref o), (1, .ref r), (2, .int (nI x)), (3, .int (nI m)), (4, .int (nI st)), (5, .int (nI (min (m - st) 64)))]) X dX0_fillWords_60 6 rfl (nI_1 _) (by decide) rfl ?_
    refine k_goto (tgt := 22) X dX0_fillWords_63 (by decide) ?_
    refine k_lv (lv' := [(0, .ref o), (1, .ref r), (2, .int (nI x)), (3, .int (nI m)), (4, .int (nI st)), (5, .int (nI (min (m - st) 64))), (6, .int (nI (i + 1)))]) [1, 2, 3, 4, 5, 6, 0] rfl ?_
    refine k_sub (ws' := [(o, .inr (0, [.ref aw, .ref ah])), (aw, .inl (cI, 16, .inl (upd g (i / 4) (g (i / 4) ||| (f (x + st + i) <<< (nI (8 * (i % 4)) &&& 31)))))), (r, .inr (1, [.int (nI mo), .ref a, .int (nI k)])), (a, .inl (cI, n, .inl f))]) [0, 1, 2, 3] (by decide) rfl rfl ?_
    refine k_wide (k := 0) (n := 0) (by (try dsimp only); omega) (by (try dsimp only); omega) ?_
    exact ih (i + 1) (upd g (i / 4) (g (i / 4) ||| (f (x + st + i) <<< (nI (8 * (i % 4)) &&& 31)))) (⟨by omega, fun j hj => mW_step (by omega) (by rw [pb, if_pos (by omega)]; congr 1; omega) hI.2 j hj⟩) (by omega)
set_option maxHeartbeats 4000000 in
set_option maxRecDepth 100000 in
theorem c_fillWords_z (l : Launch) (D : va_G) (cI cB : ClassId) (o : Nat) (aw : Nat) (ah : Nat) (w : Nat → Int32) (r : Nat) (a : Nat) (mo : Nat) (k : Nat) (n : Nat) (f : Nat → Int32) (x : Nat) (m : Nat) (st : Nat) (hk : k ≤ n) (hn : n ≤ mo) (hmo : mo ≤ 8000) (hxm : x + m ≤ k) (hm : m ≤ 2000) (hst : st ≤ 8000) (hlt : m < st) : kC l yX0_fillWords cX0_fillWords 7 none 1 23 (0) (0) D cI cB [.ref o, .ref r, .int (nI x), .int (nI m), .int (nI st)] [(o, .inr (0, [.ref aw, .ref ah])), (aw, .inl (cI, 16, .inl w)), (r, .inr (1, [.int (nI mo), .ref a, .int (nI k)])), (a, .inl (cI, n, .inl f))] (fun (v : Option Value) (u : va_W) => ∃ (w2 : Nat → Int32), v = none ∧ u = [(o, .inr (0, [.ref aw, .ref ah])), (aw, .inl (cI, 16, .inl w2)), (r, .inr (1, [.int (nI mo), .ref a, .int (nI k)])), (a, .inl (cI, n, .inl f))] ∧ (∀ j, j < 16 → w2 j = mWp (fun t => pb f x m (st + t)) 64 j)) := by
  refine k_entry (lv0 := [(0, .ref o), (1, .ref r), (2, .int (nI x)), (3, .int (nI m)), (4, .int (nI st))]) (by decide) (Nat.le_of_ble_eq_true rfl) rfl ?_
  intro zp ze zs zm zb zt zc zA X hr hin
  refine k_aload_n X dX0_fillWords_0 rfl 0 rfl ?_
  refine k_get (v := .ref aw) X 0 0 0 rfl rfl (by decide) fl_X0_9 in_X0 rfl rfl dX0_fillWords_1 ?_
  refine k_iconst (v := 0) X dX0_fillWords_4 (by decide) ?_
  refine k_callS (wc := [(aw, .inl (cI, 16, .inl w))]) (wr := [(o, .inr (0, [.ref aw, .ref ah])), (r, .inr (1, [.int (nI mo), .ref a, .int (nI k)])), (a, .inl (cI, n, .inl f))]) (As := [.ref aw, .int 0]) (n := 2) (st := []) X (c_fill l D cI cB aw 16 w 0 (by omega)) ml_X0_35 sm_J7_fill_53178 ini_J7 co_J7_fill_53178 (by decide +kernel) rfl ⟨Nat.le_of_ble_eq_true rfl, Nat.le_of_ble_eq_true rfl⟩ (⟨by (try dsimp only); omega, by (try dsimp only); omega⟩) (Nat.le_of_ble_eq_true rfl) [1] [0, 2, 3] rfl rfl rfl (by decide) (by decide) (by decide) rfl dX0_fillWords_5 (fun v_5 u_5 hu_5 => ?_)
  obtain ⟨g0, rfl, rfl, hg0⟩ := hu_5
  refine k_to (ws' := [(o, .inr (0, [.ref aw, .ref ah])), (r, .inr (1, [.int (nI mo), .ref a, .int (nI k)])), (a, .inl (cI, n, .inl f)), (aw, .inl (cI, 16, .inl g0))]) (st' := []) rfl rfl ?_
  refine k_iload_n X dX0_fillWords_8 rfl 3 rfl ?_
  refine k_iload X dX0_fillWords_9 4 rfl ?_
  refine k_isub X dX0_fillWords_11 ?_
  refine k_bipush (v := 64) X dX0_fillWords_12 (by decide) ?_
  refine k_mmin X ml_X0_41 sm_Mmin ini_J9 co_Mmin (Nat.le_of_ble_eq_true rfl) (Nat.le_of_ble_eq_true rfl) (by (try dsimp only); omega) (by (try dsimp only); omega) dX0_fillWords_14 ?_
  refine k_as (y := nI m - nI st) (if_neg (fun z => absurd (Int32.lt_iff_toInt_lt.mp z) (by rw [pk_sub_toInt (by omega) (by omega), show (64 : Int32).toInt = 64 from rfl]; omega))) ?_
  refine k_istore (lv' := [(5, .int (nI m - nI st)), (0, .ref o), (1, .ref r), (2, .int (nI x)), (3, .int (nI m)), (4, .int (nI st))]) X dX0_fillWords_17 (by decide) rfl ?_
  refine k_iconst (v := 0) X dX0_fillWords_19 (by decide) ?_
  refine k_istore (lv' := [(6, .int 0), (5, .int (nI m - nI st)), (0, .ref o), (1, .ref r), (2, .int (nI x)), (3, .int (nI m)), (4, .int (nI st))]) X dX0_fillWords_20 (by decide) rfl ?_
  refine k_iload X dX0_fillWords_22 0 rfl ?_
  refine k_iload X dX0_fillWords_24 1 rfl ?_
  refine k_icmp_ge (tgt := 66) (xi := (0 : Int)) (yi := ((m : Nat) : Int) - ((st : Nat) : Int)) X (by decide) (pk_sub_toInt (by omega) (by omega)) dX0_fillWords_26 (by decide) (fun c_26 => ?_) (fun c_26 => ?_)
  · refine k_iload X dX0_fillWords_66 1 rfl ?_
    refine k_if_lt (tgt := 101) (xi := ((m : Nat) : Int) - ((st : Nat) : Int)) X (pk_sub_toInt (by omega) (by omega)) dX0_fillWords_68 (by decide) (fun c_68 => ?_) (fun c_68 => ?_)
    · exact k_vret (u := [(o, .inr (0, [.ref aw, .ref ah])), (aw, .inl (cI, 16, .inl g0)), (r, .inr (1, [.int (nI mo), .ref a, .int (nI k)])), (a, .inl (cI, n, .inl f))]) X hr [0, 3, 1, 2] (by decide) rfl rfl (⟨g0, rfl, rfl, fun j hj => by rw [mWp_64 (m := 0) (by omega) (fun t h1 h2 => by rw [pb, if_neg (by omega), if_neg (by omega)])]; exact hg0 j hj⟩) (by (try dsimp only); omega) (by (try dsimp only); omega) dX0_fillWords_101
    · exact absurd c_68 (by omega)
  · exact absurd c_26 (by omega)
set_option maxHeartbeats 4000000 in
set_option maxRecDepth 100000 in
theorem c_take (l : Launch) (D : va_G) (cI cB : ClassId) (o : Nat) (aw : Nat) (ah : Nat) (w : Nat → Int32) (h : Nat → Int32) (r : Nat) (a : Nat) (mo : Nat) (k : Nat) (n : Nat) (f : Nat → Int32) (x : Nat) (m : Nat) (hk : k ≤ n) (hn : n ≤ mo) (hmo : mo ≤ 8000) (hxm : x + m ≤ k) (hm : m ≤ 2000) : kC l yX0_take cX0_take 6 none 2 51 (0) (0) D cI cB [.ref o, .ref r, .int (nI x), .int (nI m)] [(o, .inr (0, [.ref aw, .ref ah])), (aw, .inl (cI, 16, .inl w)), (ah, .inl (cI, 4, .inl h)), (r, .inr (1, [.int (nI mo), .ref a, .int (nI k)])), (a, .inl (cI, n, .inl f))] (fun (v : Option Value) (u : va_W) => ∃ (w2 : Nat → Int32) (h2 : Nat → Int32), v = none ∧ u = [(o, .inr (0, [.ref aw, .ref ah])), (aw, .inl (cI, 16, .inl w2)), (ah, .inl (cI, 4, .inl h2)), (r, .inr (1, [.int (nI mo), .ref a, .int (nI k)])), (a, .inl (cI, n, .inl f))] ∧ (∀ j, j < 4 → h2 j = mDig f x m j)) := by
  refine k_entry (lv0 := [(0, .ref o), (1, .ref r), (2, .int (nI x)), (3, .int (nI m))]) (by decide) (Nat.le_of_ble_eq_true rfl) rfl ?_
  intro zp ze zs zm zb zt zc zA X hr hin
  refine k_aload_n X dX0_take_0 rfl 0 rfl ?_
  refine k_get (v := .ref ah) X 0 0 1 rfl rfl (by decide) fl_X0_15 in_X0 rfl rfl dX0_take_1 ?_
  refine k_iconst (v := 0) X dX0_take_4 (by decide) ?_
  refine k_ldc X kc_X0_18 dX0_take_5 ?_
  refine k_iast (f' := upd h 0 1732584193) (ws' := [(o, .inr (0, [.ref aw, .ref ah])), (aw, .inl (cI, 16, .inl w)), (ah, .inl (cI, 4, .inl (upd h 0 1732584193))), (r, .inr (1, [.int (nI mo), .ref a, .int (nI k)])), (a, .inl (cI, n, .inl f))]) X 2 rfl (vp_in_nI (n := 0) (by omega) (by omega)) (by rw [show ((0 : Int32).toNatClampNeg) = 0 from rfl]) rfl dX0_take_7 ?_
  refine k_aload_n X dX0_take_8 rfl 0 rfl ?_
  refine k_get (v := .ref ah) X 0 0 1 rfl rfl (by decide) fl_X0_15 in_X0 rfl rfl dX0_take_9 ?_
  refine k_iconst (v := 1) X dX0_take_12 (by decide) ?_
  refine k_ldc X kc_X0_19 dX0_take_13 ?_
  refine k_iast (f' := upd (upd h 0 1732584193) 1 (-271733879)) (ws' := [(o, .inr (0, [.ref aw, .ref ah])), (aw, .inl (cI, 16, .inl w)), (ah, .inl (cI, 4, .inl (upd (upd h 0 1732584193) 1 (-271733879)))), (r, .inr (1, [.int (nI mo), .ref a, .int (nI k)])), (a, .inl (cI, n, .inl f))]) X 2 rfl (vp_in_nI (n := 1) (by omega) (by omega)) (by rw [show ((1 : Int32).toNatClampNeg) = 1 from rfl]) rfl dX0_take_15 ?_
  refine k_aload_n X dX0_take_16 rfl 0 rfl ?_
  refine k_get (v := .ref ah) X 0 0 1 rfl rfl (by decide) fl_X0_15 in_X0 rfl rfl dX0_take_17 ?_
  refine k_iconst (v := 2) X dX0_take_20 (by decide) ?_
  refine k_ldc X kc_X0_20 dX0_take_21 ?_
  refine k_iast (f' := upd (upd (upd h 0 1732584193) 1 (-271733879)) 2 (-1732584194)) (ws' := [(o, .inr (0, [.ref aw, .ref ah])), (aw, .inl (cI, 16, .inl w)), (ah, .inl (cI, 4, .inl (upd (upd (upd h 0 1732584193) 1 (-271733879)) 2 (-1732584194)))), (r, .inr (1, [.int (nI mo), .ref a, .int (nI k)])), (a, .inl (cI, n, .inl f))]) X 2 rfl (vp_in_nI (n := 2) (by omega) (by omega)) (by rw [show ((2 : Int32).toNatClampNeg) = 2 from rfl]) rfl dX0_take_23 ?_
  refine k_aload_n X dX0_take_24 rfl 0 rfl ?_
  refine k_get (v := .ref ah) X 0 0 1 rfl rfl (by decide) fl_X0_15 in_X0 rfl rfl dX0_take_25 ?_
  refine k_iconst (v := 3) X dX0_take_28 (by decide) ?_
  refine k_ldc X kc_X0_21 dX0_take_29 ?_
  refine k_iast (f' := upd (upd (upd (upd h 0 1732584193) 1 (-271733879)) 2 (-1732584194)) 3 271733878) (ws' := [(o, .inr (0, [.ref aw, .ref ah])), (aw, .inl (cI, 16, .inl w)), (ah, .inl (cI, 4, .inl (upd (upd (upd (upd h 0 1732584193) 1 (-271733879)) 2 (-1732584194)) 3 271733878))), (r, .inr (1, [.int (nI mo), .ref a, .int (nI k)])), (a, .inl (cI, n, .inl f))]) X 2 rfl (vp_in_nI (n := 3) (by omega) (by omega)) (by rw [show ((3 : Int32).toNatClampNeg) = 3 from rfl]) rfl dX0_take_31 ?_
  refine k_aload_n X dX0_take_32 rfl 1 rfl ?_
  refine k_iload_n X dX0_take_33 rfl 2 rfl ?_
  refine k_iload_n X dX0_take_34 rfl 3 rfl ?_
  refine k_callV (wc := [(r, .inr (1, [.int (nI mo), .ref a, .int (nI k)]))]) (wr := [(o, .inr (0, [.ref aw, .ref ah])), (aw, .inl (cI, 16, .inl w)), (ah, .inl (cI, 4, .inl (upd (upd (upd (upd h 0 1732584193) 1 (-271733879)) 2 (-1732584194)) 3 271733878))), (a, .inl (cI, n, .inl f))]) (As := [.int (nI x), .int (nI m)]) (n := 2) (st := []) (q0 := 0) X (c_holds l D cI cB r a mo k (nI x) (nI m) (by omega)) rfl rfl ml_X0_22 im_X1_holds se_X1_holds ini_X1 co_X1_holds (by decide +kernel) rfl ⟨Nat.le_of_ble_eq_true rfl, Nat.le_of_ble_eq_true rfl⟩ (⟨by (try dsimp only); omega, by (try dsimp only); omega⟩) (Nat.le_of_ble_eq_true rfl) [3] [0, 1, 2, 4] rfl rfl rfl (by decide) (by decide) (by decide) rfl dX0_take_35 (fun v_35 u_35 hu_35 => ?_)
  obtain ⟨rfl, rfl⟩ := hu_35
  refine k_to (ws' := [(o, .inr (0, [.ref aw, .ref ah])), (aw, .inl (cI, 16, .inl w)), (ah, .inl (cI, 4, .inl (upd (upd (upd (upd h 0 1732584193) 1 (-271733879)) 2 (-1732584194)) 3 271733878))), (a, .inl (cI, n, .inl f)), (r, .inr (1, [.int (nI mo), .ref a, .int (nI k)]))]) (st' := [.int (b2i (decide (rHolds (nI x) (nI m) k)))]) rfl rfl ?_
  refine k_as (y := 1) (b2i_t ((rHolds_iff (by omega) (by omega)).mpr hxm)) ?_
  refine k_if_ne (tgt := 42) (xi := (1 : Int)) X (by decide) dX0_take_38 (by decide) (fun c_38 => ?_) (fun c_38 => ?_)
  · refine k_iload_n X dX0_take_42 rfl 3 rfl ?_
    refine k_bipush (v := 8) X dX0_take_43 (by decide) ?_
    refine k_iadd X dX0_take_45 ?_
    refine k_as (y := nI (m + 8)) (nI_add _ 8) ?_
    refine k_bipush (v := 64) X dX0_take_46 (by decide) ?_
    refine k_idiv X dX0_take_48 (by decide) ?_
    refine k_as (y := nI ((m + 8) / 64)) (pk_div (a := m + 8) (d := 64) (by omega) (by omega) (by omega)) ?_
    refine k_iconst (v := 1) X dX0_take_49 (by decide) ?_
    refine k_iadd X dX0_take_50 ?_
    refine k_as (y := nI ((m + 8) / 64 + 1)) (nI_1 _) ?_
    refine k_istore (lv' := [(4, .int (nI ((m + 8) / 64 + 1))), (0, .ref o), (1, .ref r), (2, .int (nI x)), (3, .int (nI m))]) X dX0_take_51 (by decide) rfl ?_
    refine k_iconst (v := 0) X dX0_take_53 (by decide) ?_
    refine k_istore (lv' := [(5, .int 0), (4, .int (nI ((m + 8) / 64 + 1))), (0, .ref o), (1, .ref r), (2, .int (nI x)), (3, .int (nI m))]) X dX0_take_54 (by decide) rfl ?_
    refine k_lv (lv' := [(0, .ref o), (1, .ref r), (2, .int (nI x)), (3, .int (nI m)), (4, .int (nI ((m + 8) / 64 + 1))), (5, .int (nI 0))]) [2, 3, 4, 5, 1, 0] rfl ?_
    refine k_sub (ws' := [(o, .inr (0, [.ref aw, .ref ah])), (aw, .inl (cI, 16, .inl w)), (ah, .inl (cI, 4, .inl (upd (upd (upd (upd h 0 1732584193) 1 (-271733879)) 2 (-1732584194)) 3 271733878))), (r, .inr (1, [.int (nI mo), .ref a, .int (nI k)])), (a, .inl (cI, n, .inl f))]) [0, 1, 2, 4, 3] (by decide) rfl rfl ?_
    refine k_wide (k := 0) (n := 0) (by (try dsimp only); omega) (by (try dsimp only); omega) ?_
    refine k_loop3 (pc1 := 56) (cl := fun (ci : Nat) (w1 : Nat → Int32) (h1 : Nat → Int32) => 0) (sl := fun (ci : Nat) (w1 : Nat → Int32) (h1 : Nat → Int32) => 0) (wsf := fun (ci : Nat) (w1 : Nat → Int32) (h1 : Nat → Int32) => [(o, .inr (0, [.ref aw, .ref ah])), (aw, .inl (cI, 16, .inl w1)), (ah, .inl (cI, 4, .inl h1)), (r, .inr (1, [.int (nI mo), .ref a, .int (nI k)])), (a, .inl (cI, n, .inl f))]) (lvf := fun (ci : Nat) (w1 : Nat → Int32) (h1 : Nat → Int32) => [(0, .ref o), (1, .ref r), (2, .int (nI x)), (3, .int (nI m)), (4, .int (nI ((m + 8) / 64 + 1))), (5, .int (nI ci))]) (stf := fun (ci : Nat) (w1 : Nat → Int32) (h1 : Nat → Int32) => []) (I := fun (ci : Nat) (w1 : Nat → Int32) (h1 : Nat → Int32) => ci ≤ (m + 8) / 64 + 1 ∧ ∀ j, j < 4 → h1 j = mSt f x m ci j) (mu := fun (ci : Nat) (w1 : Nat → Int32) (h1 : Nat → Int32) => (m + 8) / 64 + 1 - ci) ?_ 0 w (upd (upd (upd (upd h 0 1732584193) 1 (-271733879)) 2 (-1732584194)) 3 271733878) (⟨Nat.zero_le _, fun j hj => mIni_eq h j hj⟩)
    intro ci w1 h1 hI ih
    try dsimp only at hI ih
    try dsimp only
    have hi := hI.1
    refine k_iload X dX0_take_56 5 rfl ?_
    refine k_iload X dX0_take_58 4 rfl ?_
    refine k_icmp_ge (tgt := 115) (xi := ((ci : Nat) : Int)) (yi := ((((m + 8) / 64 + 1) : Nat) : Int)) X (nI_toInt (by omega)) (nI_toInt (by omega)) dX0_take_60 (by decide) (fun c_60 => ?_) (fun c_60 => ?_)
    · exact k_vret (u := [(o, .inr (0, [.ref aw, .ref ah])), (aw, .inl (cI, 16, .inl w1)), (ah, .inl (cI, 4, .inl h1)), (r, .inr (1, [.int (nI mo), .ref a, .int (nI k)])), (a, .inl (cI, n, .inl f))]) X hr [0, 1, 2, 3, 4] (by decide) rfl rfl (⟨w1, h1, rfl, rfl, fun j hj => by rw [hI.2 j hj]; unfold mDig; congr 1; omega⟩) (by (try dsimp only); omega) (by (try dsimp only); omega) dX0_take_115
    · refine k_aload_n X dX0_take_63 rfl 0 rfl ?_
      refine k_aload_n X dX0_take_64 rfl 1 rfl ?_
      refine k_iload_n X dX0_take_65 rfl 2 rfl ?_
      refine k_iload_n X dX0_take_66 rfl 3 rfl ?_
      refine k_iload X dX0_take_67 5 rfl ?_
      refine k_bipush (v := 64) X dX0_take_69 (by decide) ?_
      refine k_imul X dX0_take_71 ?_
      refine k_as (y := nI (64 * ci)) (by rw [Nat.mul_comm]; exact n_mul ci 64) ?_
      by_cases hcm : 64 * ci ≤ m
      · refine k_callV (wc := [(o, .inr (0, [.ref aw, .ref ah])), (aw, .inl (cI, 16, .inl w1)), (r, .inr (1, [.int (nI mo), .ref a, .int (nI k)])), (a, .inl (cI, n, .inl f))]) (wr := [(ah, .inl (cI, 4, .inl h1))]) (As := [.ref r, .int (nI x), .int (nI m), .int (nI (64 * ci))]) (n := 4) (st := []) (q0 := 0) X (c_fillWords l D cI cB o aw ah w1 r a mo k n f x m (64 * ci) (by omega) (by omega) (by omega) (hxm) (hm) (by omega) (by omega)) rfl rfl ml_X0_28 im_X0_fillWords se_X0_fillWords ini_X0 co_X0_fillWords (by decide +kernel) rfl ⟨Nat.le_of_ble_eq_true rfl, Nat.le_of_ble_eq_true rfl⟩ (⟨by (try dsimp only); omega, by (try dsimp only); omega⟩) (Nat.le_of_ble_eq_true rfl) [0, 1, 3, 4] [2] rfl rfl rfl (by decide) (by decide) (by decide) rfl dX0_take_72 (fun v_72 u_72 hu_72 => ?_)
        obtain ⟨w2, rfl, rfl, hw2⟩ := hu_72
        refine k_to (ws' := [(ah, .inl (cI, 4, .inl h1)), (o, .inr (0, [.ref aw, .ref ah])), (aw, .inl (cI, 16, .inl w2)), (r, .inr (1, [.int (nI mo), .ref a, .int (nI k)])), (a, .inl (cI, n, .inl f))]) (st' := []) rfl rfl ?_
        refine k_iload X dX0_take_75 5 rfl ?_
        refine k_iload X dX0_take_77 4 rfl ?_
        refine k_iconst (v := 1) X dX0_take_79 (by decide) ?_
        refine k_isub X dX0_take_80 ?_
        refine k_as (y := nI ((m + 8) / 64)) (nI_pred _) ?_
        refine k_icmp_ne (tgt := 105) (xi := ((ci : Nat) : Int)) (yi := ((((m + 8) / 64) : Nat) : Int)) X (nI_toInt (by omega)) (nI_toInt (by omega)) dX0_take_81 (by decide) (fun c_81 => ?_) (fun c_81 => ?_)
        · refine k_aload_n X dX0_take_105 rfl 0 rfl ?_
          refine k_callV (wc := [(o, .inr (0, [.ref aw, .ref ah])), (aw, .inl (cI, 16, .inl w2)), (ah, .inl (cI, 4, .inl h1))]) (wr := [(r, .inr (1, [.int (nI mo), .ref a, .int (nI k)])), (a, .inl (cI, n, .inl f))]) (As := []) (n := 0) (st := []) (q0 := 0) X (c_mixWords l D cI cB o aw ah w2 h1 ) rfl rfl ml_X0_32 im_X0_mixWords se_X0_mixWords ini_X0 co_X0_mixWords (by decide +kernel) rfl ⟨Nat.le_of_ble_eq_true rfl, Nat.le_of_ble_eq_true rfl⟩ (⟨by (try dsimp only); omega, by (try dsimp only); omega⟩) (Nat.le_of_ble_eq_true rfl) [1, 2, 0] [3, 4] rfl rfl rfl (by decide) (by decide) (by decide) rfl dX0_take_106 (fun v_106 u_106 hu_106 => ?_)
          obtain ⟨rfl, rfl⟩ := hu_106
          refine k_to (ws' := [(r, .inr (1, [.int (nI mo), .ref a, .int (nI k)])), (a, .inl (cI, n, .inl f)), (o, .inr (0, [.ref aw, .ref ah])), (aw, .inl (cI, 16, .inl w2)), (ah, .inl (cI, 4, .inl (mMix w2 h1)))]) (st' := []) rfl rfl ?_
          refine k_iinc (v := nI (ci + 1)) (lv' := [(5, .int (nI (ci + 1))), (0, .ref o), (1, .ref r), (2, .int (nI x)), (3, .int (nI m)), (4, .int (nI ((m + 8) / 64 + 1)))]) X dX0_take_109 5 rfl (nI_1 _) (by decide) rfl ?_
          refine k_goto (tgt := 56) X dX0_take_112 (by decide) ?_
          refine k_lv (lv' := [(0, .ref o), (1, .ref r), (2, .int (nI x)), (3, .int (nI m)), (4, .int (nI ((m + 8) / 64 + 1))), (5, .int (nI (ci + 1)))]) [1, 2, 3, 4, 5, 0] rfl ?_
          refine k_sub (ws' := [(o, .inr (0, [.ref aw, .ref ah])), (aw, .inl (cI, 16, .inl w2)), (ah, .inl (cI, 4, .inl (mMix w2 h1))), (r, .inr (1, [.int (nI mo), .ref a, .int (nI k)])), (a, .inl (cI, n, .inl f))]) [2, 3, 4, 0, 1] (by decide) rfl rfl ?_
          refine k_wide (k := 0) (n := 0) (by (try dsimp only); omega) (by (try dsimp only); omega) ?_
          exact ih (ci + 1) w2 (mMix w2 h1) (⟨by omega, mMix_congr (fun j hj => mCh_mid (by omega) hw2 j hj) hI.2⟩) (by omega)
        · refine k_aload_n X dX0_take_84 rfl 0 rfl ?_
          refine k_get (v := .ref aw) X 1 0 0 rfl rfl (by decide) fl_X0_9 in_X0 rfl rfl dX0_take_85 ?_
          refine k_bipush (v := 14) X dX0_take_88 (by decide) ?_
          refine k_iload_n X dX0_take_90 rfl 3 rfl ?_
          refine k_iconst (v := 3) X dX0_take_91 (by decide) ?_
          refine k_ishl X dX0_take_92 ?_
          refine k_as (y := nI (8 * m)) (sh3 (by omega)) ?_
          refine k_iast (f' := upd w2 14 (nI (8 * m))) (ws' := [(ah, .inl (cI, 4, .inl h1)), (o, .inr (0, [.ref aw, .ref ah])), (aw, .inl (cI, 16, .inl (upd w2 14 (nI (8 * m))))), (r, .inr (1, [.int (nI mo), .ref a, .int (nI k)])), (a, .inl (cI, n, .inl f))]) X 2 rfl (vp_in_nI (n := 14) (by omega) (by omega)) (by rw [show ((14 : Int32).toNatClampNeg) = 14 from rfl]) rfl dX0_take_93 ?_
          refine k_aload_n X dX0_take_94 rfl 0 rfl ?_
          refine k_get (v := .ref aw) X 1 0 0 rfl rfl (by decide) fl_X0_9 in_X0 rfl rfl dX0_take_95 ?_
          refine k_bipush (v := 15) X dX0_take_98 (by decide) ?_
          refine k_iload_n X dX0_take_100 rfl 3 rfl ?_
          refine k_bipush (v := 29) X dX0_take_101 (by decide) ?_
          refine k_iushr (v := ((nI m).toUInt32 >>> (Int32.toUInt32 29 &&& Int32.toUInt32 31)).toInt32) X dX0_take_103 rfl ?_
          refine k_as (y := 0) (sh29 (by omega)) ?_
          refine k_iast (f' := upd (upd w2 14 (nI (8 * m))) 15 0) (ws' := [(ah, .inl (cI, 4, .inl h1)), (o, .inr (0, [.ref aw, .ref ah])), (aw, .inl (cI, 16, .inl (upd (upd w2 14 (nI (8 * m))) 15 0))), (r, .inr (1, [.int (nI mo), .ref a, .int (nI k)])), (a, .inl (cI, n, .inl f))]) X 2 rfl (vp_in_nI (n := 15) (by omega) (by omega)) (by rw [show ((15 : Int32).toNatClampNeg) = 15 from rfl]) rfl dX0_take_104 ?_
          refine k_aload_n X dX0_take_105 rfl 0 rfl ?_
          refine k_callV (wc := [(o, .inr (0, [.ref aw, .ref ah])), (aw, .inl (cI, 16, .inl (upd (upd w2 14 (nI (8 * m))) 15 0))), (ah, .inl (cI, 4, .inl h1))]) (wr := [(r, .inr (1, [.int (nI mo), .ref a, .int (nI k)])), (a, .inl (cI, n, .inl f))]) (As := []) (n := 0) (st := []) (q0 := 0) X (c_mixWords l D cI cB o aw ah (upd (upd w2 14 (nI (8 * m))) 15 0) h1 ) rfl rfl ml_X0_32 im_X0_mixWords se_X0_mixWords ini_X0 co_X0_mixWords (by decide +kernel) rfl ⟨Nat.le_of_ble_eq_true rfl, Nat.le_of_ble_eq_true rfl⟩ (⟨by (try dsimp only); omega, by (try dsimp only); omega⟩) (Nat.le_of_ble_eq_true rfl) [1, 2, 0] [3, 4] rfl rfl rfl (by decide) (by decide) (by decide) rfl dX0_take_106 (fun v_106 u_106 hu_106 => ?_)
          obtain ⟨rfl, rfl⟩ := hu_106
          refine k_to (ws' := [(r, .inr (1, [.int (nI mo), .ref a, .int (nI k)])), (a, .inl (cI, n, .inl f)), (o, .inr (0, [.ref aw, .ref ah])), (aw, .inl (cI, 16, .inl (upd (upd w2 14 (nI (8 * m))) 15 0))), (ah, .inl (cI, 4, .inl (mMix (upd (upd w2 14 (nI (8 * m))) 15 0) h1)))]) (st' := []) rfl rfl ?_
          refine k_iinc (v := nI (ci + 1)) (lv' := [(5, .int (nI (ci + 1))), (0, .ref o), (1, .ref r), (2, .int (nI x)), (3, .int (nI m)), (4, .int (nI ((m + 8) / 64 + 1)))]) X dX0_take_109 5 rfl (nI_1 _) (by decide) rfl ?_
          refine k_goto (tgt := 56) X dX0_take_112 (by decide) ?_
          refine k_lv (lv' := [(0, .ref o), (1, .ref r), (2, .int (nI x)), (3, .int (nI m)), (4, .int (nI ((m + 8) / 64 + 1))), (5, .int (nI (ci + 1)))]) [1, 2, 3, 4, 5, 0] rfl ?_
          refine k_sub (ws' := [(o, .inr (0, [.ref aw, .ref ah])), (aw, .inl (cI, 16, .inl (upd (upd w2 14 (nI (8 * m))) 15 0))), (ah, .inl (cI, 4, .inl (mMix (upd (upd w2 14 (nI (8 * m))) 15 0) h1))), (r, .inr (1, [.int (nI mo), .ref a, .int (nI k)])), (a, .inl (cI, n, .inl f))]) [2, 3, 4, 0, 1] (by decide) rfl rfl ?_
          refine k_wide (k := 0) (n := 0) (by (try dsimp only); omega) (by (try dsimp only); omega) ?_
          exact ih (ci + 1) (upd (upd w2 14 (nI (8 * m))) 15 0) (mMix (upd (upd w2 14 (nI (8 * m))) 15 0) h1) (⟨by omega, mMix_congr (fun j hj => mCh_last (by omega) hw2 j hj) hI.2⟩) (by omega)
      · refine k_callV (wc := [(o, .inr (0, [.ref aw, .ref ah])), (aw, .inl (cI, 16, .inl w1)), (r, .inr (1, [.int (nI mo), .ref a, .int (nI k)])), (a, .inl (cI, n, .inl f))]) (wr := [(ah, .inl (cI, 4, .inl h1))]) (As := [.ref r, .int (nI x), .int (nI m), .int (nI (64 * ci))]) (n := 4) (st := []) (q0 := 0) X (c_fillWords_z l D cI cB o aw ah w1 r a mo k n f x m (64 * ci) (by omega) (by omega) (by omega) (hxm) (hm) (by omega) (by omega)) rfl rfl ml_X0_28 im_X0_fillWords se_X0_fillWords ini_X0 co_X0_fillWords (by decide +kernel) rfl ⟨Nat.le_of_ble_eq_true rfl, Nat.le_of_ble_eq_true rfl⟩ (⟨by (try dsimp only); omega, by (try dsimp only); omega⟩) (Nat.le_of_ble_eq_true rfl) [0, 1, 3, 4] [2] rfl rfl rfl (by decide) (by decide) (by decide) rfl dX0_take_72 (fun v_72 u_72 hu_72 => ?_)
        obtain ⟨w2, rfl, rfl, hw2⟩ := hu_72
        refine k_to (ws' := [(ah, .inl (cI, 4, .inl h1)), (o, .inr (0, [.ref aw, .ref ah])), (aw, .inl (cI, 16, .inl w2)), (r, .inr (1, [.int (nI mo), .ref a, .int (nI k)])), (a, .inl (cI, n, .inl f))]) (st' := []) rfl rfl ?_
        refine k_iload X dX0_take_75 5 rfl ?_
        refine k_iload X dX0_take_77 4 rfl ?_
        refine k_iconst (v := 1) X dX0_take_79 (by decide) ?_
        refine k_isub X dX0_take_80 ?_
        refine k_as (y := nI ((m + 8) / 64)) (nI_pred _) ?_
        refine k_icmp_ne (tgt := 105) (xi := ((ci : Nat) : Int)) (yi := ((((m + 8) / 64) : Nat) : Int)) X (nI_toInt (by omega)) (nI_toInt (by omega)) dX0_take_81 (by decide) (fun c_81 => ?_) (fun c_81 => ?_)
        · refine k_aload_n X dX0_take_105 rfl 0 rfl ?_
          refine k_callV (wc := [(o, .inr (0, [.ref aw, .ref ah])), (aw, .inl (cI, 16, .inl w2)), (ah, .inl (cI, 4, .inl h1))]) (wr := [(r, .inr (1, [.int (nI mo), .ref a, .int (nI k)])), (a, .inl (cI, n, .inl f))]) (As := []) (n := 0) (st := []) (q0 := 0) X (c_mixWords l D cI cB o aw ah w2 h1 ) rfl rfl ml_X0_32 im_X0_mixWords se_X0_mixWords ini_X0 co_X0_mixWords (by decide +kernel) rfl ⟨Nat.le_of_ble_eq_true rfl, Nat.le_of_ble_eq_true rfl⟩ (⟨by (try dsimp only); omega, by (try dsimp only); omega⟩) (Nat.le_of_ble_eq_true rfl) [1, 2, 0] [3, 4] rfl rfl rfl (by decide) (by decide) (by decide) rfl dX0_take_106 (fun v_106 u_106 hu_106 => ?_)
          obtain ⟨rfl, rfl⟩ := hu_106
          refine k_to (ws' := [(r, .inr (1, [.int (nI mo), .ref a, .int (nI k)])), (a, .inl (cI, n, .inl f)), (o, .inr (0, [.ref aw, .ref ah])), (aw, .inl (cI, 16, .inl w2)), (ah, .inl (cI, 4, .inl (mMix w2 h1)))]) (st' := []) rfl rfl ?_
          refine k_iinc (v := nI (ci + 1)) (lv' := [(5, .int (nI (ci + 1))), (0, .ref o), (1, .ref r), (2, .int (nI x)), (3, .int (nI m)), (4, .int (nI ((m + 8) / 64 + 1)))]) X dX0_take_109 5 rfl (nI_1 _) (by decide) rfl ?_
          refine k_goto (tgt := 56) X dX0_take_112 (by decide) ?_
          refine k_lv (lv' := [(0, .ref o), (1, .ref r), (2, .int (nI x)), (3, .int (nI m)), (4, .int (nI ((m + 8) / 64 + 1))), (5, .int (nI (ci + 1)))]) [1, 2, 3, 4, 5, 0] rfl ?_
          refine k_sub (ws' := [(o, .inr (0, [.ref aw, .ref ah])), (aw, .inl (cI, 16, .inl w2)), (ah, .inl (cI, 4, .inl (mMix w2 h1))), (r, .inr (1, [.int (nI mo), .ref a, .int (nI k)])), (a, .inl (cI, n, .inl f))]) [2, 3, 4, 0, 1] (by decide) rfl rfl ?_
          refine k_wide (k := 0) (n := 0) (by (try dsimp only); omega) (by (try dsimp only); omega) ?_
          exact ih (ci + 1) w2 (mMix w2 h1) (⟨by omega, mMix_congr (fun j hj => mCh_mid (by omega) hw2 j hj) hI.2⟩) (by omega)
        · refine k_aload_n X dX0_take_84 rfl 0 rfl ?_
          refine k_get (v := .ref aw) X 1 0 0 rfl rfl (by decide) fl_X0_9 in_X0 rfl rfl dX0_take_85 ?_
          refine k_bipush (v := 14) X dX0_take_88 (by decide) ?_
          refine k_iload_n X dX0_take_90 rfl 3 rfl ?_
          refine k_iconst (v := 3) X dX0_take_91 (by decide) ?_
          refine k_ishl X dX0_take_92 ?_
          refine k_as (y := nI (8 * m)) (sh3 (by omega)) ?_
          refine k_iast (f' := upd w2 14 (nI (8 * m))) (ws' := [(ah, .inl (cI, 4, .inl h1)), (o, .inr (0, [.ref aw, .ref ah])), (aw, .inl (cI, 16, .inl (upd w2 14 (nI (8 * m))))), (r, .inr (1, [.int (nI mo), .ref a, .int (nI k)])), (a, .inl (cI, n, .inl f))]) X 2 rfl (vp_in_nI (n := 14) (by omega) (by omega)) (by rw [show ((14 : Int32).toNatClampNeg) = 14 from rfl]) rfl dX0_take_93 ?_
          refine k_aload_n X dX0_take_94 rfl 0 rfl ?_
          refine k_get (v := .ref aw) X 1 0 0 rfl rfl (by decide) fl_X0_9 in_X0 rfl rfl dX0_take_95 ?_
          refine k_bipush (v := 15) X dX0_take_98 (by decide) ?_
          refine k_iload_n X dX0_take_100 rfl 3 rfl ?_
          refine k_bipush (v := 29) X dX0_take_101 (by decide) ?_
          refine k_iushr (v := ((nI m).toUInt32 >>> (Int32.toUInt32 29 &&& Int32.toUInt32 31)).toInt32) X dX0_take_103 rfl ?_
          refine k_as (y := 0) (sh29 (by omega)) ?_
          refine k_iast (f' := upd (upd w2 14 (nI (8 * m))) 15 0) (ws' := [(ah, .inl (cI, 4, .inl h1)), (o, .inr (0, [.ref aw, .ref ah])), (aw, .inl (cI, 16, .inl (upd (upd w2 14 (nI (8 * m))) 15 0))), (r, .inr (1, [.int (nI mo), .ref a, .int (nI k)])), (a, .inl (cI, n, .inl f))]) X 2 rfl (vp_in_nI (n := 15) (by omega) (by omega)) (by rw [show ((15 : Int32).toNatClampNeg) = 15 from rfl]) rfl dX0_take_104 ?_
          refine k_aload_n X dX0_take_105 rfl 0 rfl ?_
          refine k_callV (wc := [(o, .inr (0, [.ref aw, .ref ah])), (aw, .inl (cI, 16, .inl (upd (upd w2 14 (nI (8 * m))) 15 0))), (ah, .inl (cI, 4, .inl h1))]) (wr := [(r, .inr (1, [.int (nI mo), .ref a, .int (nI k)])), (a, .inl (cI, n, .inl f))]) (As := []) (n := 0) (st := []) (q0 := 0) X (c_mixWords l D cI cB o aw ah (upd (upd w2 14 (nI (8 * m))) 15 0) h1 ) rfl rfl ml_X0_32 im_X0_mixWords se_X0_mixWords ini_X0 co_X0_mixWords (by decide +kernel) rfl ⟨Nat.le_of_ble_eq_true rfl, Nat.le_of_ble_eq_true rfl⟩ (⟨by (try dsimp only); omega, by (try dsimp only); omega⟩) (Nat.le_of_ble_eq_true rfl) [1, 2, 0] [3, 4] rfl rfl rfl (by decide) (by decide) (by decide) rfl dX0_take_106 (fun v_106 u_106 hu_106 => ?_)
          obtain ⟨rfl, rfl⟩ := hu_106
          refine k_to (ws' := [(r, .inr (1, [.int (nI mo), .ref a, .int (nI k)])), (a, .inl (cI, n, .inl f)), (o, .inr (0, [.ref aw, .ref ah])), (aw, .inl (cI, 16, .inl (upd (upd w2 14 (nI (8 * m))) 15 0))), (ah, .inl (cI, 4, .inl (mMix (upd (upd w2 14 (nI (8 * m))) 15 0) h1)))]) (st' := []) rfl rfl ?_
          refine k_iinc (v := nI (ci + 1)) (lv' := [(5, .int (nI (ci + 1))), (0, .ref o), (1, .ref r), (2, .int (nI x)), (3, .int (nI m)), (4, .int (nI ((m + 8) / 64 + 1)))]) X dX0_take_109 5 rfl (nI_1 _) (by decide) rfl ?_
          refine k_goto (tgt := 56) X dX0_take_112 (by decide) ?_
          refine k_lv (lv' := [(0, .ref o), (1, .ref r), (2, .int (nI x)), (3, .int (nI m)), (4, .int (nI ((m + 8) / 64 + 1))), (5, .int (nI (ci + 1)))]) [1, 2, 3, 4, 5, 0] rfl ?_
          refine k_sub (ws' := [(o, .inr (0, [.ref aw, .ref ah])), (aw, .inl (cI, 16, .inl (upd (upd w2 14 (nI (8 * m))) 15 0))), (ah, .inl (cI, 4, .inl (mMix (upd (upd w2 14 (nI (8 * m))) 15 0) h1))), (r, .inr (1, [.int (nI mo), .ref a, .int (nI k)])), (a, .inl (cI, n, .inl f))]) [2, 3, 4, 0, 1] (by decide) rfl rfl ?_
          refine k_wide (k := 0) (n := 0) (by (try dsimp only); omega) (by (try dsimp only); omega) ?_
          exact ih (ci + 1) (upd (upd w2 14 (nI (8 * m))) 15 0) (mMix (upd (upd w2 14 (nI (8 * m))) 15 0) h1) (⟨by omega, mMix_congr (fun j hj => mCh_last (by omega) hw2 j hj) hI.2⟩) (by omega)
  · exact absurd c_38 (by decide)
end
section
/-! the signature: chains of blocks whose sums fall together -/
def cN (P : Nat → Bool) (nb i : Nat) : Int32 := go (nb - i) i
where go : Nat → Nat → Int32
  | 0, _ => -1
  | d + 1, i => if P i then nI i else go d (i + 1)
theorem cN_ge {P : Nat → Bool} {nb i : Nat} (h : nb ≤ i) : cN P nb i = -1 := by
  unfold cN
  rw [show nb - i = 0 by omega]
  rfl
theorem cN_t {P : Nat → Bool} {nb i : Nat} (h : i < nb) (hp : P i = true) : cN P nb i = nI i := by
  unfold cN
  rw [show nb - i = (nb - i - 1) + 1 by omega]
  show (if P i then nI i else _) = _
  rw [if_pos hp]
theorem cN_s {P : Nat → Bool} {nb i : Nat} (h : i < nb) (hp : P i = false) : cN P nb i = cN P nb (i + 1) := by
  unfold cN
  rw [show nb - i = (nb - i - 1) + 1 by omega]
  show (if P i then nI i else cN.go P (nb - i - 1) (i + 1)) = _
  rw [if_neg (by rw [hp]; decide), show nb - i - 1 = nb - (i + 1) by omega]
theorem cN_skip {P : Nat → Bool} {nb i : Nat} : ∀ d, i + d ≤ nb → (∀ b, i ≤ b → b < i + d → P b = false) → cN P nb i = cN P nb (i + d) := by
  intro d
  induction d with
  | zero => intro _ _; rfl
  | succ d ih =>
    intro h1 h2
    rw [ih (by omega) (fun b a c => h2 b a (by omega)), cN_s (by omega) (h2 (i + d) (by omega) (by omega))]
    rfl
theorem cN_cases (P : Nat → Bool) (nb : Nat) : ∀ i, (cN P nb i = -1 ∧ ∀ b, i ≤ b → b < nb → P b = false) ∨ ∃ b, i ≤ b ∧ b < nb ∧ P b = true ∧ (∀ a, i ≤ a → a < b → P a = false) ∧ cN P nb i = nI b := by
  have key : ∀ d i, nb ≤ i + d → (cN P nb i = -1 ∧ ∀ b, i ≤ b → b < nb → P b = false) ∨ ∃ b, i ≤ b ∧ b < nb ∧ P b = true ∧ (∀ a, i ≤ a → a < b → P a = false) ∧ cN P nb i = nI b := by
    intro d
    induction d with
    | zero => intro i h; exact Or.inl ⟨cN_ge (by omega), fun b h1 h2 => absurd h2 (by omega)⟩
    | succ d ih =>
      intro i h
      by_cases hi : i < nb
      · cases hp : P i with
        | true => exact Or.inr ⟨i, Nat.le_refl i, hi, hp, fun a h1 h2 => absurd h2 (by omega), cN_t hi hp⟩
        | false =>
          rw [cN_s hi hp]
          rcases ih (i + 1) (by omega) with ⟨h1, h2⟩ | ⟨b, h1, h2, h3, h4, h5⟩
          · refine Or.inl ⟨h1, fun b hb hn => ?_⟩
            by_cases e : b = i
            · rw [e]; exact hp
            · exact h2 b (by omega) hn
          · refine Or.inr ⟨b, by omega, h2, h3, fun a ha hb => ?_, h5⟩
            by_cases e : a = i
            · rw [e]; exact hp
            · exact h4 a (by omega) hb
      · exact Or.inl ⟨cN_ge (by omega), fun b h1 h2 => absurd h2 (by omega)⟩
  intro i
  exact key nb i (by omega)
theorem cN_none {P : Nat → Bool} {nb i : Nat} (h : ∀ b, i ≤ b → b < nb → P b = false) : cN P nb i = -1 := by
  rcases cN_cases P nb i with ⟨h1, _⟩ | ⟨b, h1, h2, h3, _⟩
  · exact h1
  · rw [h b h1 h2] at h3; cases h3
theorem cN_is {P : Nat → Bool} {nb i b : Nat} (h1 : i ≤ b) (h2 : b < nb) (h3 : P b = true) (h4 : ∀ a, i ≤ a → a < b → P a = false) : cN P nb i = nI b := by
  rw [cN_skip (P := P) (nb := nb) (i := i) (b - i) (by omega) (fun a x y => h4 a x (by omega)), show i + (b - i) = b by omega, cN_t h2 h3]
def chO (x : Int32) : Nat := (x * (-1640531535)).toBitVec.toNat / 2 ^ 24
theorem chO_lt (x : Int32) : chO x < 256 := by
  have h := (x * (-1640531535)).toBitVec.isLt
  unfold chO
  omega
theorem chO_eq (x : Int32) : ((x * (-1640531535)).toUInt32 >>> (Int32.toUInt32 24 &&& Int32.toUInt32 31)).toInt32 = nI (chO x) := by
  have h := chO_lt x
  apply Int32.toBitVec_inj.mp
  apply BitVec.eq_of_toNat_eq
  rw [pk_ushr _ 24 24 (by decide), pk_tn (by omega)]
  rfl
def pC (sm : Nat → Int32) (c : Nat) (b : Nat) : Bool := decide (chO (sm b) = c)
def pS (sm : Nat → Int32) (x : Int32) (b : Nat) : Bool := decide (sm b = x)
def hB (dg h : Nat → Int32) (wd b : Nat) : Bool := (List.range wd).all (fun k => decide ((dg (16 * b + k) &&& 255) = dByte h k))
def pD (sm dg h : Nat → Int32) (wd : Nat) (x : Int32) (b : Nat) : Bool := decide (sm b = x) && hB dg h wd b
abbrev kChain (nb : Nat) (sm hd nx : Nat → Int32) : Prop := (∀ c, c < 256 → hd c = cN (pC sm c) nb 0) ∧ ∀ b, b < nb → nx b = cN (pC sm (chO (sm b))) nb (b + 1)
theorem hB_iff {dg h : Nat → Int32} {wd b : Nat} : hB dg h wd b = true ↔ ∀ k, k < wd → (dg (16 * b + k) &&& 255) = dByte h k := by
  unfold hB
  rw [List.all_eq_true]
  constructor
  · intro z k hk; exact of_decide_eq_true (z k (List.mem_range.mpr hk))
  · intro z k hk; exact decide_eq_true (z k (List.mem_range.mp hk))
def fOk (sm dg h : Nat → Int32) (nb wd : Nat) (x fv : Int32) : Bool := decide (rIn fv nb) && pD sm dg h wd x fv.toNatClampNeg
def fnd (sm dg h : Nat → Int32) (nb wd : Nat) (x fv : Int32) : Int32 := if fOk sm dg h nb wd x fv then fv else cN (pD sm dg h wd x) nb 0
theorem nI_m1 {nb : Nat} : ¬ rIn (-1) nb := by
  intro h
  have : (-1 : Int32).toInt = -1 := by decide
  omega
theorem rIn_nI {b nb : Nat} (h : b < nb) (hn : nb ≤ 100000) : rIn (nI b) nb := by rw [rIn, nI_toInt (by omega)]; omega
theorem b2i_tt : b2i true = 1 := rfl
theorem b2i_ff : b2i false = 0 := rfl

theorem pS_of_pC {sm : Nat → Int32} {x : Int32} {b : Nat} (h : pC sm (chO x) b = false) : pS sm x b = false := decide_eq_false (fun z => of_decide_eq_false h (by rw [z]))
theorem pD_of_pS {sm dg h : Nat → Int32} {wd : Nat} {x : Int32} {b : Nat} (hs : pS sm x b = false) : pD sm dg h wd x b = false := by
  unfold pD
  rw [show decide (sm b = x) = false from hs, Bool.false_and]
theorem pS_skip {sm : Nat → Int32} {x : Int32} {nb j b : Nat} (hjb : j ≤ b) (hb : b < nb) (hmin : ∀ a, j ≤ a → a < b → pC sm (chO x) a = false) (h : pS sm x b = false) : cN (pS sm x) nb j = cN (pS sm x) nb (b + 1) := by
  have := cN_skip (P := pS sm x) (nb := nb) (i := j) (b + 1 - j) (by omega) (fun a h1 h2 => by
    by_cases e : a = b
    · rw [e]; exact h
    · exact pS_of_pC (hmin a h1 (by omega)))
  rw [show j + (b + 1 - j) = b + 1 by omega] at this
  exact this
theorem pD_skip {sm dg h : Nat → Int32} {wd : Nat} {x : Int32} {nb j b : Nat} (hjb : j ≤ b) (hb : b < nb) (hmin : ∀ a, j ≤ a → a < b → pS sm x a = false) (hd : ¬ hB dg h wd b = true) : cN (pD sm dg h wd x) nb j = cN (pD sm dg h wd x) nb (b + 1) := by
  have := cN_skip (P := pD sm dg h wd x) (nb := nb) (i := j) (b + 1 - j) (by omega) (fun a h1 h2 => by
    by_cases e : a = b
    · rw [e]; unfold pD; rw [Bool.eq_false_iff.mpr hd, Bool.and_false]
    · exact pD_of_pS (hmin a h1 (by omega)))
  rw [show j + (b + 1 - j) = b + 1 by omega] at this
  exact this
theorem hasS_eq {P : Nat → Bool} {nb : Nat} (h : nb ≤ 2000) : b2i (decide (rIn (cN P nb 0) nb)) = b2i (decide (¬ cN P nb 0 = -1)) := by
  rcases cN_cases P nb 0 with ⟨e, _⟩ | ⟨b, _, hb, _, _, e⟩
  · rw [e, b2i_f nI_m1, b2i_f (q := ¬ (-1 : Int32) = -1) (fun z => z rfl)]
  · rw [e, b2i_t (rIn_nI hb (by omega)), b2i_t (q := ¬ nI b = -1) (fun z => by have := congrArg Int32.toInt z; rw [nI_toInt (by omega), show (-1 : Int32).toInt = -1 by decide] at this; omega)]
set_option maxHeartbeats 4000000 in
set_option maxRecDepth 100000 in
theorem c_sig_blocks (l : Launch) (D : va_G) (cI cB : ClassId) (g : Nat) (qs : Nat) (qd : Nat) (qh : Nat) (qn : Nat) (bs : Nat) (wd : Nat) (nb : Nat)  : kC l yX2_blocks cX2_blocks 1 (some .int) 0 0 (0) (0) D cI cB [.ref g] [(g, .inr (2, [.int (nI bs), .int (nI wd), .int (nI nb), .ref qs, .ref qd, .ref qh, .ref qn]))] (fun (v : Option Value) (u : va_W) => v = some (.int (nI nb)) ∧ u = [(g, .inr (2, [.int (nI bs), .int (nI wd), .int (nI nb), .ref qs, .ref qd, .ref qh, .ref qn]))]) := by
  refine k_entry (lv0 := [(0, .ref g)]) (by decide) (Nat.le_of_ble_eq_true rfl) rfl ?_
  intro zp ze zs zm zb zt zc zA X hr hin
  refine k_aload_n X dX2_blocks_0 rfl 0 rfl ?_
  refine k_get (v := .int (nI nb)) X 0 2 2 rfl rfl (by decide) fl_X2_18 in_X2 rfl rfl dX2_blocks_1 ?_
  exact k_iret (u := [(g, .inr (2, [.int (nI bs), .int (nI wd), .int (nI nb), .ref qs, .ref qd, .ref qh, .ref qn]))]) X hr [0] (by decide) rfl rfl (⟨rfl, rfl⟩) (by (try dsimp only); omega) (by (try dsimp only); omega) dX2_blocks_4
set_option maxHeartbeats 4000000 in
set_option maxRecDepth 100000 in
theorem c_sig_blockSize (l : Launch) (D : va_G) (cI cB : ClassId) (g : Nat) (qs : Nat) (qd : Nat) (qh : Nat) (qn : Nat) (bs : Nat) (wd : Nat) (nb : Nat)  : kC l yX2_blockSize cX2_blockSize 1 (some .int) 0 0 (0) (0) D cI cB [.ref g] [(g, .inr (2, [.int (nI bs), .int (nI wd), .int (nI nb), .ref qs, .ref qd, .ref qh, .ref qn]))] (fun (v : Option Value) (u : va_W) => v = some (.int (nI bs)) ∧ u = [(g, .inr (2, [.int (nI bs), .int (nI wd), .int (nI nb), .ref qs, .ref qd, .ref qh, .ref qn]))]) := by
  refine k_entry (lv0 := [(0, .ref g)]) (by decide) (Nat.le_of_ble_eq_true rfl) rfl ?_
  intro zp ze zs zm zb zt zc zA X hr hin
  refine k_aload_n X dX2_blockSize_0 rfl 0 rfl ?_
  refine k_get (v := .int (nI bs)) X 0 2 0 rfl rfl (by decide) fl_X2_9 in_X2 rfl rfl dX2_blockSize_1 ?_
  exact k_iret (u := [(g, .inr (2, [.int (nI bs), .int (nI wd), .int (nI nb), .ref qs, .ref qd, .ref qh, .ref qn]))]) X hr [0] (by decide) rfl rfl (⟨rfl, rfl⟩) (by (try dsimp only); omega) (by (try dsimp only); omega) dX2_blockSize_4
set_option maxHeartbeats 4000000 in
set_option maxRecDepth 100000 in
theorem c_sig_width (l : Launch) (D : va_G) (cI cB : ClassId) (g : Nat) (qs : Nat) (qd : Nat) (qh : Nat) (qn : Nat) (bs : Nat) (wd : Nat) (nb : Nat)  : kC l yX2_width cX2_width 1 (some .int) 0 0 (0) (0) D cI cB [.ref g] [(g, .inr (2, [.int (nI bs), .int (nI wd), .int (nI nb), .ref qs, .ref qd, .ref qh, .ref qn]))] (fun (v : Option Value) (u : va_W) => v = some (.int (nI wd)) ∧ u = [(g, .inr (2, [.int (nI bs), .int (nI wd), .int (nI nb), .ref qs, .ref qd, .ref qh, .ref qn]))]) := by
  refine k_entry (lv0 := [(0, .ref g)]) (by decide) (Nat.le_of_ble_eq_true rfl) rfl ?_
  intro zp ze zs zm zb zt zc zA X hr hin
  refine k_aload_n X dX2_width_0 rfl 0 rfl ?_
  refine k_get (v := .int (nI wd)) X 0 2 1 rfl rfl (by decide) fl_X2_15 in_X2 rfl rfl dX2_width_1 ?_
  exact k_iret (u := [(g, .inr (2, [.int (nI bs), .int (nI wd), .int (nI nb), .ref qs, .ref qd, .ref qh, .ref qn]))]) X hr [0] (by decide) rfl rfl (⟨rfl, rfl⟩) (by (try dsimp only); omega) (by (try dsimp only); omega) dX2_width_4
set_option maxHeartbeats 4000000 in
set_option maxRecDepth 100000 in
theorem c_has (l : Launch) (D : va_G) (cI cB : ClassId) (g : Nat) (qs : Nat) (qd : Nat) (qh : Nat) (qn : Nat) (bs : Nat) (wd : Nat) (nb : Nat) (i : Int32) (hnb : nb ≤ 2000) : kC l yX2_has cX2_has 2 (some .boolean) 0 0 (0) (0) D cI cB [.ref g, .int i] [(g, .inr (2, [.int (nI bs), .int (nI wd), .int (nI nb), .ref qs, .ref qd, .ref qh, .ref qn]))] (fun (v : Option Value) (u : va_W) => v = some (.int (b2i (decide (rIn i nb)))) ∧ u = [(g, .inr (2, [.int (nI bs), .int (nI wd), .int (nI nb), .ref qs, .ref qd, .ref qh, .ref qn]))]) := by
  refine k_entry (lv0 := [(0, .ref g), (1, .int i)]) (by decide) (Nat.le_of_ble_eq_true rfl) rfl ?_
  intro zp ze zs zm zb zt zc zA X hr hin
  refine k_iload_n X dX2_has_0 rfl 1 rfl ?_
  refine k_if_lt (tgt := 16) (xi := i.toInt) X (rfl) dX2_has_1 (by decide) (fun c_1 => ?_) (fun c_1 => ?_)
  · refine k_iconst (v := 0) X dX2_has_16 (by decide) ?_
    exact k_zret (u := [(g, .inr (2, [.int (nI bs), .int (nI wd), .int (nI nb), .ref qs, .ref qd, .ref qh, .ref qn]))]) X (by first | rfl | exact b2i_nar _ | decide) hr [0] (by decide) rfl rfl (⟨by rw [b2i_f (by omega)], rfl⟩) (by (try dsimp only); omega) (by (try dsimp only); omega) dX2_has_17
  · refine k_iload_n X dX2_has_4 rfl 1 rfl ?_
    refine k_aload_n X dX2_has_5 rfl 0 rfl ?_
    refine k_get (v := .int (nI nb)) X 0 2 2 rfl rfl (by decide) fl_X2_18 in_X2 rfl rfl dX2_has_6 ?_
    refine k_icmp_ge (tgt := 16) (xi := i.toInt) (yi := ((nb : Nat) : Int)) X (rfl) (nI_toInt (by omega)) dX2_has_9 (by decide) (fun c_9 => ?_) (fun c_9 => ?_)
    · refine k_iconst (v := 0) X dX2_has_16 (by decide) ?_
      exact k_zret (u := [(g, .inr (2, [.int (nI bs), .int (nI wd), .int (nI nb), .ref qs, .ref qd, .ref qh, .ref qn]))]) X (by first | rfl | exact b2i_nar _ | decide) hr [0] (by decide) rfl rfl (⟨by rw [b2i_f (by omega)], rfl⟩) (by (try dsimp only); omega) (by (try dsimp only); omega) dX2_has_17
    · refine k_iconst (v := 1) X dX2_has_12 (by decide) ?_
      refine k_goto (tgt := 17) X dX2_has_13 (by decide) ?_
      exact k_zret (u := [(g, .inr (2, [.int (nI bs), .int (nI wd), .int (nI nb), .ref qs, .ref qd, .ref qh, .ref qn]))]) X (by first | rfl | exact b2i_nar _ | decide) hr [0] (by decide) rfl rfl (⟨by rw [b2i_t (by omega)], rfl⟩) (by (try dsimp only); omega) (by (try dsimp only); omega) dX2_has_17
set_option maxHeartbeats 4000000 in
set_option maxRecDepth 100000 in
theorem c_chainOf (l : Launch) (D : va_G) (cI cB : ClassId) (x : Int32)  : kC l yX2_chainOf cX2_chainOf 1 (some .int) 0 0 (0) (0) D cI cB [.int x] [] (fun (v : Option Value) (u : va_W) => v = some (.int (nI (chO x))) ∧ u = []) := by
  refine k_entry (lv0 := [(0, .int x)]) (by decide) (Nat.le_of_ble_eq_true rfl) rfl ?_
  intro zp ze zs zm zb zt zc zA X hr hin
  refine k_iload_n X dX2_chainOf_0 rfl 0 rfl ?_
  refine k_ldc X kc_X2_91 dX2_chainOf_1 ?_
  refine k_imul X dX2_chainOf_3 ?_
  refine k_bipush (v := 24) X dX2_chainOf_4 (by decide) ?_
  refine k_iushr (v := ((x * (-1640531535)).toUInt32 >>> (Int32.toUInt32 24 &&& Int32.toUInt32 31)).toInt32) X dX2_chainOf_6 rfl ?_
  refine k_as (y := nI (chO x)) (chO_eq x) ?_
  exact k_iret (u := []) X hr [] (by decide) rfl rfl (⟨rfl, rfl⟩) (by (try dsimp only); omega) (by (try dsimp only); omega) dX2_chainOf_7
set_option maxHeartbeats 4000000 in
set_option maxRecDepth 100000 in
theorem c_sumOf (l : Launch) (D : va_G) (cI cB : ClassId) (g : Nat) (qs : Nat) (qd : Nat) (qh : Nat) (qn : Nat) (bs : Nat) (wd : Nat) (nb : Nat) (N : Nat) (sm : Nat → Int32) (b : Nat) (hN : nb ≤ N) (hN2 : N ≤ 2000) (hb : b < nb) : kC l yX2_sumOf cX2_sumOf 2 (some .int) 1 21 (0) (0) D cI cB [.ref g, .int (nI b)] [(g, .inr (2, [.int (nI bs), .int (nI wd), .int (nI nb), .ref qs, .ref qd, .ref qh, .ref qn])), (qs, .inl (cI, N, .inl sm))] (fun (v : Option Value) (u : va_W) => v = some (.int (sm b)) ∧ u = [(g, .inr (2, [.int (nI bs), .int (nI wd), .int (nI nb), .ref qs, .ref qd, .ref qh, .ref qn])), (qs, .inl (cI, N, .inl sm))]) := by
  refine k_entry (lv0 := [(0, .ref g), (1, .int (nI b))]) (by decide) (Nat.le_of_ble_eq_true rfl) rfl ?_
  intro zp ze zs zm zb zt zc zA X hr hin
  refine k_aload_n X dX2_sumOf_0 rfl 0 rfl ?_
  refine k_iload_n X dX2_sumOf_1 rfl 1 rfl ?_
  refine k_callV (wc := [(g, .inr (2, [.int (nI bs), .int (nI wd), .int (nI nb), .ref qs, .ref qd, .ref qh, .ref qn]))]) (wr := [(qs, .inl (cI, N, .inl sm))]) (As := [.int (nI b)]) (n := 1) (st := []) (q0 := 0) X (c_has l D cI cB g qs qd qh qn bs wd nb (nI b) (by omega)) rfl rfl ml_X2_41 im_X2_has se_X2_has ini_X2 co_X2_has (by decide +kernel) rfl ⟨Nat.le_of_ble_eq_true rfl, Nat.le_of_ble_eq_true rfl⟩ (⟨by (try dsimp only); omega, by (try dsimp only); omega⟩) (Nat.le_of_ble_eq_true rfl) [0] [1] rfl rfl rfl (by decide) (by decide) (by decide) rfl dX2_sumOf_2 (fun v_2 u_2 hu_2 => ?_)
  obtain ⟨rfl, rfl⟩ := hu_2
  refine k_to (ws' := [(qs, .inl (cI, N, .inl sm)), (g, .inr (2, [.int (nI bs), .int (nI wd), .int (nI nb), .ref qs, .ref qd, .ref qh, .ref qn]))]) (st' := [.int (b2i (decide (rIn (nI b) nb)))]) rfl rfl ?_
  refine k_as (y := 1) (b2i_t (rIn_nI (by omega) (by omega))) ?_
  refine k_if_eq (tgt := 17) (xi := (1 : Int)) X (by decide) dX2_sumOf_5 (by decide) (fun c_5 => ?_) (fun c_5 => ?_)
  · exact absurd c_5 (by decide)
  · refine k_aload_n X dX2_sumOf_8 rfl 0 rfl ?_
    refine k_get (v := .ref qs) X 1 2 3 rfl rfl (by decide) fl_X2_21 in_X2 rfl rfl dX2_sumOf_9 ?_
    refine k_iload_n X dX2_sumOf_12 rfl 1 rfl ?_
    refine k_iald (v := sm b) X 0 rfl (vp_in_nI (n := b) (by omega) (by omega)) (by rw [nI_clamp (n := b) (by omega)]) dX2_sumOf_13 ?_
    refine k_goto (tgt := 18) X dX2_sumOf_14 (by decide) ?_
    exact k_iret (u := [(g, .inr (2, [.int (nI bs), .int (nI wd), .int (nI nb), .ref qs, .ref qd, .ref qh, .ref qn])), (qs, .inl (cI, N, .inl sm))]) X hr [1, 0] (by decide) rfl rfl (⟨rfl, rfl⟩) (by (try dsimp only); omega) (by (try dsimp only); omega) dX2_sumOf_18
set_option maxHeartbeats 4000000 in
set_option maxRecDepth 100000 in
theorem c_sumOf_f (l : Launch) (D : va_G) (cI cB : ClassId) (g : Nat) (qs : Nat) (qd : Nat) (qh : Nat) (qn : Nat) (bs : Nat) (wd : Nat) (nb : Nat) (i : Int32) (hnb : nb ≤ 2000) (hf : ¬ rIn i nb) : kC l yX2_sumOf cX2_sumOf 2 (some .int) 1 21 (0) (0) D cI cB [.ref g, .int i] [(g, .inr (2, [.int (nI bs), .int (nI wd), .int (nI nb), .ref qs, .ref qd, .ref qh, .ref qn]))] (fun (v : Option Value) (u : va_W) => v = some (.int 0) ∧ u = [(g, .inr (2, [.int (nI bs), .int (nI wd), .int (nI nb), .ref qs, .ref qd, .ref qh, .ref qn]))]) := by
  refine k_entry (lv0 := [(0, .ref g), (1, .int i)]) (by decide) (Nat.le_of_ble_eq_true rfl) rfl ?_
  intro zp ze zs zm zb zt zc zA X hr hin
  refine k_aload_n X dX2_sumOf_0 rfl 0 rfl ?_
  refine k_iload_n X dX2_sumOf_1 rfl 1 rfl ?_
  refine k_callV (wc := [(g, .inr (2, [.int (nI bs), .int (nI wd), .int (nI nb), .ref qs, .ref qd, .ref qh, .ref qn]))]) (wr := []) (As := [.int i]) (n := 1) (st := []) (q0 := 0) X (c_has l D cI cB g qs qd qh qn bs wd nb i (hnb)) rfl rfl ml_X2_41 im_X2_has se_X2_has ini_X2 co_X2_has (by decide +kernel) rfl ⟨Nat.le_of_ble_eq_true rfl, Nat.le_of_ble_eq_true rfl⟩ (⟨by (try dsimp only); omega, by (try dsimp only); omega⟩) (Nat.le_of_ble_eq_true rfl) [0] [] rfl rfl rfl (by decide) (by decide) (by decide) rfl dX2_sumOf_2 (fun v_2 u_2 hu_2 => ?_)
  obtain ⟨rfl, rfl⟩ := hu_2
  refine k_to (ws' := [(g, .inr (2, [.int (nI bs), .int (nI wd), .int (nI nb), .ref qs, .ref qd, .ref qh, .ref qn]))]) (st' := [.int (b2i (decide (rIn i nb)))]) rfl rfl ?_
  refine k_as (y := 0) (b2i_f hf) ?_
  refine k_if_eq (tgt := 17) (xi := (0 : Int)) X (by decide) dX2_sumOf_5 (by decide) (fun c_5 => ?_) (fun c_5 => ?_)
  · refine k_iconst (v := 0) X dX2_sumOf_17 (by decide) ?_
    exact k_iret (u := [(g, .inr (2, [.int (nI bs), .int (nI wd), .int (nI nb), .ref qs, .ref qd, .ref qh, .ref qn]))]) X hr [0] (by decide) rfl rfl (⟨rfl, rfl⟩) (by (try dsimp only); omega) (by (try dsimp only); omega) dX2_sumOf_18
  · exact absurd c_5 (by decide)
set_option maxHeartbeats 4000000 in
set_option maxRecDepth 100000 in
theorem c_digB (l : Launch) (D : va_G) (cI cB : ClassId) (g : Nat) (qs : Nat) (qd : Nat) (qh : Nat) (qn : Nat) (bs : Nat) (wd : Nat) (nb : Nat) (N : Nat) (dg : Nat → Int32) (b : Nat) (k : Nat) (hN : nb ≤ N) (hN2 : N ≤ 2000) (hb : b < nb) (hk : k < wd) (hwd : wd ≤ 16) : kC l yX2_digestByte cX2_digestByte 3 (some .int) 1 21 (0) (0) D cI cB [.ref g, .int (nI b), .int (nI k)] [(g, .inr (2, [.int (nI bs), .int (nI wd), .int (nI nb), .ref qs, .ref qd, .ref qh, .ref qn])), (qd, .inl (cB, (16 * N), .inl dg))] (fun (v : Option Value) (u : va_W) => v = some (.int (dg (16 * b + k) &&& 255)) ∧ u = [(g, .inr (2, [.int (nI bs), .int (nI wd), .int (nI nb), .ref qs, .ref qd, .ref qh, .ref qn])), (qd, .inl (cB, (16 * N), .inl dg))]) := by
  refine k_entry (lv0 := [(0, .ref g), (1, .int (nI b)), (2, .int (nI k))]) (by decide) (Nat.le_of_ble_eq_true rfl) rfl ?_
  intro zp ze zs zm zb zt zc zA X hr hin
  refine k_aload_n X dX2_digestByte_0 rfl 0 rfl ?_
  refine k_iload_n X dX2_digestByte_1 rfl 1 rfl ?_
  refine k_callV (wc := [(g, .inr (2, [.int (nI bs), .int (nI wd), .int (nI nb), .ref qs, .ref qd, .ref qh, .ref qn]))]) (wr := [(qd, .inl (cB, (16 * N), .inl dg))]) (As := [.int (nI b)]) (n := 1) (st := []) (q0 := 0) X (c_has l D cI cB g qs qd qh qn bs wd nb (nI b) (by omega)) rfl rfl ml_X2_41 im_X2_has se_X2_has ini_X2 co_X2_has (by decide +kernel) rfl ⟨Nat.le_of_ble_eq_true rfl, Nat.le_of_ble_eq_true rfl⟩ (⟨by (try dsimp only); omega, by (try dsimp only); omega⟩) (Nat.le_of_ble_eq_true rfl) [0] [1] rfl rfl rfl (by decide) (by decide) (by decide) rfl dX2_digestByte_2 (fun v_2 u_2 hu_2 => ?_)
  obtain ⟨rfl, rfl⟩ := hu_2
  refine k_to (ws' := [(qd, .inl (cB, (16 * N), .inl dg)), (g, .inr (2, [.int (nI bs), .int (nI wd), .int (nI nb), .ref qs, .ref qd, .ref qh, .ref qn]))]) (st' := [.int (b2i (decide (rIn (nI b) nb)))]) rfl rfl ?_
  refine k_as (y := 1) (b2i_t (rIn_nI (by omega) (by omega))) ?_
  refine k_if_eq (tgt := 38) (xi := (1 : Int)) X (by decide) dX2_digestByte_5 (by decide) (fun c_5 => ?_) (fun c_5 => ?_)
  · exact absurd c_5 (by decide)
  · refine k_iload_n X dX2_digestByte_8 rfl 2 rfl ?_
    refine k_if_lt (tgt := 38) (xi := ((k : Nat) : Int)) X (nI_toInt (by omega)) dX2_digestByte_9 (by decide) (fun c_9 => ?_) (fun c_9 => ?_)
    · exact absurd c_9 (by omega)
    · refine k_iload_n X dX2_digestByte_12 rfl 2 rfl ?_
      refine k_aload_n X dX2_digestByte_13 rfl 0 rfl ?_
      refine k_get (v := .int (nI wd)) X 1 2 1 rfl rfl (by decide) fl_X2_15 in_X2 rfl rfl dX2_digestByte_14 ?_
      refine k_icmp_ge (tgt := 38) (xi := ((k : Nat) : Int)) (yi := ((wd : Nat) : Int)) X (nI_toInt (by omega)) (nI_toInt (by omega)) dX2_digestByte_17 (by decide) (fun c_17 => ?_) (fun c_17 => ?_)
      · exact absurd c_17 (by omega)
      · refine k_aload_n X dX2_digestByte_20 rfl 0 rfl ?_
        refine k_get (v := .ref qd) X 1 2 4 rfl rfl (by decide) fl_X2_25 in_X2 rfl rfl dX2_digestByte_21 ?_
        refine k_iload_n X dX2_digestByte_24 rfl 1 rfl ?_
        refine k_bipush (v := 16) X dX2_digestByte_25 (by decide) ?_
        refine k_imul X dX2_digestByte_27 ?_
        refine k_as (y := nI (16 * b)) (by rw [Nat.mul_comm]; exact n_mul b 16) ?_
        refine k_iload_n X dX2_digestByte_28 rfl 2 rfl ?_
        refine k_iadd X dX2_digestByte_29 ?_
        refine k_as (y := nI (16 * b + k)) (nI_add _ _) ?_
        refine k_bald (v := dg (16 * b + k)) X 0 rfl (vp_in_nI (n := 16 * b + k) (by omega) (by omega)) (by rw [nI_clamp (n := 16 * b + k) (by omega)]) dX2_digestByte_30 ?_
        refine k_sipush (v := 255) X dX2_digestByte_31 (by decide) ?_
        refine k_iand X dX2_digestByte_34 ?_
        refine k_goto (tgt := 39) X dX2_digestByte_35 (by decide) ?_
        exact k_iret (u := [(g, .inr (2, [.int (nI bs), .int (nI wd), .int (nI nb), .ref qs, .ref qd, .ref qh, .ref qn])), (qd, .inl (cB, (16 * N), .inl dg))]) X hr [1, 0] (by decide) rfl rfl (⟨rfl, rfl⟩) (by (try dsimp only); omega) (by (try dsimp only); omega) dX2_digestByte_39
set_option maxHeartbeats 4000000 in
set_option maxRecDepth 100000 in
theorem c_digB_f (l : Launch) (D : va_G) (cI cB : ClassId) (g : Nat) (qs : Nat) (qd : Nat) (qh : Nat) (qn : Nat) (bs : Nat) (wd : Nat) (nb : Nat) (i : Int32) (j : Int32) (hnb : nb ≤ 2000) (hwd : wd ≤ 16) (hf : ¬ (rIn i nb ∧ rIn j wd)) : kC l yX2_digestByte cX2_digestByte 3 (some .int) 1 21 (0) (0) D cI cB [.ref g, .int i, .int j] [(g, .inr (2, [.int (nI bs), .int (nI wd), .int (nI nb), .ref qs, .ref qd, .ref qh, .ref qn]))] (fun (v : Option Value) (u : va_W) => v = some (.int (-1)) ∧ u = [(g, .inr (2, [.int (nI bs), .int (nI wd), .int (nI nb), .ref qs, .ref qd, .ref qh, .ref qn]))]) := by
  refine k_entry (lv0 := [(0, .ref g), (1, .int i), (2, .int j)]) (by decide) (Nat.le_of_ble_eq_true rfl) rfl ?_
  intro zp ze zs zm zb zt zc zA X hr hin
  refine k_aload_n X dX2_digestByte_0 rfl 0 rfl ?_
  refine k_iload_n X dX2_digestByte_1 rfl 1 rfl ?_
  refine k_callV (wc := [(g, .inr (2, [.int (nI bs), .int (nI wd), .int (nI nb), .ref qs, .ref qd, .ref qh, .ref qn]))]) (wr := []) (As := [.int i]) (n := 1) (st := []) (q0 := 0) X (c_has l D cI cB g qs qd qh qn bs wd nb i (hnb)) rfl rfl ml_X2_41 im_X2_has se_X2_has ini_X2 co_X2_has (by decide +kernel) rfl ⟨Nat.le_of_ble_eq_true rfl, Nat.le_of_ble_eq_true rfl⟩ (⟨by (try dsimp only); omega, by (try dsimp only); omega⟩) (Nat.le_of_ble_eq_true rfl) [0] [] rfl rfl rfl (by decide) (by decide) (by decide) rfl dX2_digestByte_2 (fun v_2 u_2 hu_2 => ?_)
  obtain ⟨rfl, rfl⟩ := hu_2
  refine k_to (ws' := [(g, .inr (2, [.int (nI bs), .int (nI wd), .int (nI nb), .ref qs, .ref qd, .ref qh, .ref qn]))]) (st' := [.int (b2i (decide (rIn i nb)))]) rfl rfl ?_
  by_cases hi : rIn i nb
  · refine k_as (y := 1) (b2i_t hi) ?_
    refine k_if_eq (tgt := 38) (xi := (1 : Int)) X (by decide) dX2_digestByte_5 (by decide) (fun c_5 => ?_) (fun c_5 => ?_)
    · exact absurd c_5 (by decide)
    · refine k_iload_n X dX2_digestByte_8 rfl 2 rfl ?_
      refine k_if_lt (tgt := 38) (xi := j.toInt) X (rfl) dX2_digestByte_9 (by decide) (fun c_9 => ?_) (fun c_9 => ?_)
      · refine k_iconst (v := -1) X dX2_digestByte_38 (by decide) ?_
        exact k_iret (u := [(g, .inr (2, [.int (nI bs), .int (nI wd), .int (nI nb), .ref qs, .ref qd, .ref qh, .ref qn]))]) X hr [0] (by decide) rfl rfl (⟨rfl, rfl⟩) (by (try dsimp only); omega) (by (try dsimp only); omega) dX2_digestByte_39
      · refine k_iload_n X dX2_digestByte_12 rfl 2 rfl ?_
        refine k_aload_n X dX2_digestByte_13 rfl 0 rfl ?_
        refine k_get (v := .int (nI wd)) X 0 2 1 rfl rfl (by decide) fl_X2_15 in_X2 rfl rfl dX2_digestByte_14 ?_
        refine k_icmp_ge (tgt := 38) (xi := j.toInt) (yi := ((wd : Nat) : Int)) X (rfl) (nI_toInt (by omega)) dX2_digestByte_17 (by decide) (fun c_17 => ?_) (fun c_17 => ?_)
        · refine k_iconst (v := -1) X dX2_digestByte_38 (by decide) ?_
          exact k_iret (u := [(g, .inr (2, [.int (nI bs), .int (nI wd), .int (nI nb), .ref qs, .ref qd, .ref qh, .ref qn]))]) X hr [0] (by decide) rfl rfl (⟨rfl, rfl⟩) (by (try dsimp only); omega) (by (try dsimp only); omega) dX2_digestByte_39
        · exact absurd c_17 (by omega)
  · refine k_as (y := 0) (b2i_f hi) ?_
    refine k_if_eq (tgt := 38) (xi := (0 : Int)) X (by decide) dX2_digestByte_5 (by decide) (fun c_5 => ?_) (fun c_5 => ?_)
    · refine k_iconst (v := -1) X dX2_digestByte_38 (by decide) ?_
      exact k_iret (u := [(g, .inr (2, [.int (nI bs), .int (nI wd), .int (nI nb), .ref qs, .ref qd, .ref qh, .ref qn]))]) X hr [0] (by decide) rfl rfl (⟨rfl, rfl⟩) (by (try dsimp only); omega) (by (try dsimp only); omega) dX2_digestByte_39
    · exact absurd c_5 (by decide)
set_option maxHeartbeats 4000000 in
set_option maxRecDepth 100000 in
theorem c_hasDigest (l : Launch) (D : va_G) (cI cB : ClassId) (g : Nat) (qs : Nat) (qd : Nat) (qh : Nat) (qn : Nat) (bs : Nat) (wd : Nat) (nb : Nat) (N : Nat) (dg : Nat → Int32) (b : Nat) (o : Nat) (aw : Nat) (ah : Nat) (h : Nat → Int32) (hN : nb ≤ N) (hN2 : N ≤ 2000) (hb : b < nb) (hwd : wd ≤ 16) : kC l yX2_hasDigest cX2_hasDigest 4 (some .boolean) 2 43 (0) (0) D cI cB [.ref g, .int (nI b), .ref o] [(g, .inr (2, [.int (nI bs), .int (nI wd), .int (nI nb), .ref qs, .ref qd, .ref qh, .ref qn])), (qd, .inl (cB, (16 * N), .inl dg)), (o, .inr (0, [.ref aw, .ref ah])), (ah, .inl (cI, 4, .inl h))] (fun (v : Option Value) (u : va_W) => v = some (.int (b2i (hB dg h wd b))) ∧ u = [(g, .inr (2, [.int (nI bs), .int (nI wd), .int (nI nb), .ref qs, .ref qd, .ref qh, .ref qn])), (qd, .inl (cB, (16 * N), .inl dg)), (o, .inr (0, [.ref aw, .ref ah])), (ah, .inl (cI, 4, .inl h))]) := by
  refine k_entry (lv0 := [(0, .ref g), (1, .int (nI b)), (2, .ref o)]) (by decide) (Nat.le_of_ble_eq_true rfl) rfl ?_
  intro zp ze zs zm zb zt zc zA X hr hin
  refine k_iconst (v := 0) X dX2_hasDigest_0 (by decide) ?_
  refine k_istore_n (lv' := [(3, .int 0), (0, .ref g), (1, .int (nI b)), (2, .ref o)]) X dX2_hasDigest_1 rfl (by decide) rfl ?_
  refine k_lv (lv' := [(0, .ref g), (1, .int (nI b)), (2, .ref o), (3, .int (nI 0))]) [1, 2, 3, 0] rfl ?_
  refine k_wide (k := 0) (n := 0) (by (try dsimp only); omega) (by (try dsimp only); omega) ?_
  refine k_loop1 (pc1 := 2) (cl := fun (k : Nat) => 0) (sl := fun (k : Nat) => 0) (wsf := fun (k : Nat) => [(g, .inr (2, [.int (nI bs), .int (nI wd), .int (nI nb), .ref qs, .ref qd, .ref qh, .ref qn])), (qd, .inl (cB, (16 * N), .inl dg)), (o, .inr (0, [.ref aw, .ref ah])), (ah, .inl (cI, 4, .inl h))]) (lvf := fun (k : Nat) => [(0, .ref g), (1, .int (nI b)), (2, .ref o), (3, .int (nI k))]) (stf := fun (k : Nat) => []) (I := fun (k : Nat) => k ≤ wd ∧ ∀ j, j < k → (dg (16 * b + j) &&& 255) = dByte h j) (mu := fun (k : Nat) => wd - k) ?_ 0 (⟨Nat.zero_le _, fun j h => absurd h (Nat.not_lt_zero j)⟩)
  intro k hI ih
  try dsimp only at hI ih
  try dsimp only
  have hi := hI.1
  refine k_iload_n X dX2_hasDigest_2 rfl 3 rfl ?_
  refine k_aload_n X dX2_hasDigest_3 rfl 0 rfl ?_
  refine k_get (v := .int (nI wd)) X 0 2 1 rfl rfl (by decide) fl_X2_15 in_X2 rfl rfl dX2_hasDigest_4 ?_
  refine k_icmp_ge (tgt := 32) (xi := ((k : Nat) : Int)) (yi := ((wd : Nat) : Int)) X (nI_toInt (by omega)) (nI_toInt (by omega)) dX2_hasDigest_7 (by decide) (fun c_7 => ?_) (fun c_7 => ?_)
  · refine k_iconst (v := 1) X dX2_hasDigest_32 (by decide) ?_
    exact k_zret (u := [(g, .inr (2, [.int (nI bs), .int (nI wd), .int (nI nb), .ref qs, .ref qd, .ref qh, .ref qn])), (qd, .inl (cB, (16 * N), .inl dg)), (o, .inr (0, [.ref aw, .ref ah])), (ah, .inl (cI, 4, .inl h))]) X (by first | rfl | exact b2i_nar _ | decide) hr [0, 1, 2, 3] (by decide) rfl rfl (⟨by rw [show hB dg h wd b = true from hB_iff.mpr (fun j hj => hI.2 j (by omega))]; rfl, rfl⟩) (by (try dsimp only); omega) (by (try dsimp only); omega) dX2_hasDigest_33
  · refine k_aload_n X dX2_hasDigest_10 rfl 0 rfl ?_
    refine k_iload_n X dX2_hasDigest_11 rfl 1 rfl ?_
    refine k_iload_n X dX2_hasDigest_12 rfl 3 rfl ?_
    refine k_callV (wc := [(g, .inr (2, [.int (nI bs), .int (nI wd), .int (nI nb), .ref qs, .ref qd, .ref qh, .ref qn])), (qd, .inl (cB, (16 * N), .inl dg))]) (wr := [(o, .inr (0, [.ref aw, .ref ah])), (ah, .inl (cI, 4, .inl h))]) (As := [.int (nI b), .int (nI k)]) (n := 2) (st := []) (q0 := 0) X (c_digB l D cI cB g qs qd qh qn bs wd nb N dg b k (hN) (hN2) (hb) (by omega) (hwd)) rfl rfl ml_X2_81 im_X2_digestByte se_X2_digestByte ini_X2 co_X2_digestByte (by decide +kernel) rfl ⟨Nat.le_of_ble_eq_true rfl, Nat.le_of_ble_eq_true rfl⟩ (⟨by (try dsimp only); omega, by (try dsimp only); omega⟩) (Nat.le_of_ble_eq_true rfl) [0, 1] [2, 3] rfl rfl rfl (by decide) (by decide) (by decide) rfl dX2_hasDigest_13 (fun v_13 u_13 hu_13 => ?_)
    obtain ⟨rfl, rfl⟩ := hu_13
    refine k_to (ws' := [(o, .inr (0, [.ref aw, .ref ah])), (ah, .inl (cI, 4, .inl h)), (g, .inr (2, [.int (nI bs), .int (nI wd), .int (nI nb), .ref qs, .ref qd, .ref qh, .ref qn])), (qd, .inl (cB, (16 * N), .inl dg))]) (st' := [.int (dg (16 * b + k) &&& 255)]) rfl rfl ?_
    refine k_aload_n X dX2_hasDigest_16 rfl 2 rfl ?_
    refine k_iload_n X dX2_hasDigest_17 rfl 3 rfl ?_
    refine k_callV (wc := [(o, .inr (0, [.ref aw, .ref ah])), (ah, .inl (cI, 4, .inl h))]) (wr := [(g, .inr (2, [.int (nI bs), .int (nI wd), .int (nI nb), .ref qs, .ref qd, .ref qh, .ref qn])), (qd, .inl (cB, (16 * N), .inl dg))]) (As := [.int (nI k)]) (n := 1) (st := [.int (dg (16 * b + k) &&& 255)]) (q0 := 0) X (c_digestByte l D cI cB o aw ah h k (by omega)) rfl rfl ml_X2_64 im_X0_digestByte se_X0_digestByte ini_X0 co_X0_digestByte (by decide +kernel) rfl ⟨Nat.le_of_ble_eq_true rfl, Nat.le_of_ble_eq_true rfl⟩ (⟨by (try dsimp only); omega, by (try dsimp only); omega⟩) (Nat.le_of_ble_eq_true rfl) [0, 1] [2, 3] rfl rfl rfl (by decide) (by decide) (by decide) rfl dX2_hasDigest_18 (fun v_18 u_18 hu_18 => ?_)
    obtain ⟨rfl, rfl⟩ := hu_18
    refine k_to (ws' := [(g, .inr (2, [.int (nI bs), .int (nI wd), .int (nI nb), .ref qs, .ref qd, .ref qh, .ref qn])), (qd, .inl (cB, (16 * N), .inl dg)), (o, .inr (0, [.ref aw, .ref ah])), (ah, .inl (cI, 4, .inl h))]) (st' := [.int (dByte h k), .int (dg (16 * b + k) &&& 255)]) rfl rfl ?_
    refine k_icmp_eq (tgt := 26) (xi := (dg (16 * b + k) &&& 255).toInt) (yi := (dByte h k).toInt) X (rfl) (rfl) dX2_hasDigest_21 (by decide) (fun c_21 => ?_) (fun c_21 => ?_)
    · refine k_iinc (v := nI (k + 1)) (lv' := [(3, .int (nI (k + 1))), (0, .ref g), (1, .int (nI b)), (2, .ref o)]) X dX2_hasDigest_26 3 rfl (nI_1 _) (by decide) rfl ?_
      refine k_goto (tgt := 2) X dX2_hasDigest_29 (by decide) ?_
      refine k_lv (lv' := [(0, .ref g), (1, .int (nI b)), (2, .ref o), (3, .int (nI (k + 1)))]) [1, 2, 3, 0] rfl ?_
      refine k_sub (ws' := [(g, .inr (2, [.int (nI bs), .int (nI wd), .int (nI nb), .ref qs, .ref qd, .ref qh, .ref qn])), (qd, .inl (cB, (16 * N), .inl dg)), (o, .inr (0, [.ref aw, .ref ah])), (ah, .inl (cI, 4, .inl h))]) [0, 1, 2, 3] (by decide) rfl rfl ?_
      refine k_wide (k := 0) (n := 0) (by (try dsimp only); omega) (by (try dsimp only); omega) ?_
      exact ih (k + 1) (⟨by omega, lt_s hI.2 (Int32.toInt_inj.mp c_21)⟩) (by omega)
    · refine k_iconst (v := 0) X dX2_hasDigest_24 (by decide) ?_
      exact k_zret (u := [(g, .inr (2, [.int (nI bs), .int (nI wd), .int (nI nb), .ref qs, .ref qd, .ref qh, .ref qn])), (qd, .inl (cB, (16 * N), .inl dg)), (o, .inr (0, [.ref aw, .ref ah])), (ah, .inl (cI, 4, .inl h))]) X (by first | rfl | exact b2i_nar _ | decide) hr [0, 1, 2, 3] (by decide) rfl rfl (⟨by rw [show hB dg h wd b = false from Bool.eq_false_iff.mpr (fun z => absurd (congrArg Int32.toInt (hB_iff.mp z k (by omega))) c_21)]; rfl, rfl⟩) (by (try dsimp only); omega) (by (try dsimp only); omega) dX2_hasDigest_25
set_option maxHeartbeats 4000000 in
set_option maxRecDepth 100000 in
theorem c_firstInChain (l : Launch) (D : va_G) (cI cB : ClassId) (g : Nat) (qs : Nat) (qd : Nat) (qh : Nat) (qn : Nat) (bs : Nat) (wd : Nat) (nb : Nat) (N : Nat) (sm : Nat → Int32) (hd : Nat → Int32) (nx : Nat → Int32) (st : Int32) (x : Int32) (i : Nat) (hN : nb ≤ N) (hN2 : N ≤ 2000) (hch : kChain nb sm hd nx) (hi : i ≤ nb) (hst : st = cN (pC sm (chO x)) nb i) : kC l yX2_firstInChain cX2_firstInChain 5 (some .int) 1 21 (0) (0) D cI cB [.ref g, .int st, .int x] [(g, .inr (2, [.int (nI bs), .int (nI wd), .int (nI nb), .ref qs, .ref qd, .ref qh, .ref qn])), (qs, .inl (cI, N, .inl sm)), (qn, .inl (cI, N, .inl nx))] (fun (v : Option Value) (u : va_W) => v = some (.int (cN (pS sm x) nb i)) ∧ u = [(g, .inr (2, [.int (nI bs), .int (nI wd), .int (nI nb), .ref qs, .ref qd, .ref qh, .ref qn])), (qs, .inl (cI, N, .inl sm)), (qn, .inl (cI, N, .inl nx))]) := by
  refine k_entry (lv0 := [(0, .ref g), (1, .int st), (2, .int x)]) (by decide) (Nat.le_of_ble_eq_true rfl) rfl ?_
  intro zp ze zs zm zb zt zc zA X hr hin
  refine k_iload_n X dX2_firstInChain_0 rfl 1 rfl ?_
  refine k_istore_n (lv' := [(3, .int st), (0, .ref g), (1, .int st), (2, .int x)]) X dX2_firstInChain_1 rfl (by decide) rfl ?_
  refine k_iconst (v := 0) X dX2_firstInChain_2 (by decide) ?_
  refine k_istore (lv' := [(4, .int 0), (3, .int st), (0, .ref g), (1, .int st), (2, .int x)]) X dX2_firstInChain_3 (by decide) rfl ?_
  refine k_lv (lv' := [(0, .ref g), (2, .int x), (3, .int st), (4, .int (nI 0))]) [2, 4, 1, 0] rfl ?_
  refine k_wide (k := 0) (n := 0) (by (try dsimp only); omega) (by (try dsimp only); omega) ?_
  refine k_loop3 (pc1 := 5) (cl := fun (t : Nat) (j : Nat) (v : Int32) => 0) (sl := fun (t : Nat) (j : Nat) (v : Int32) => 0) (wsf := fun (t : Nat) (j : Nat) (v : Int32) => [(g, .inr (2, [.int (nI bs), .int (nI wd), .int (nI nb), .ref qs, .ref qd, .ref qh, .ref qn])), (qs, .inl (cI, N, .inl sm)), (qn, .inl (cI, N, .inl nx))]) (lvf := fun (t : Nat) (j : Nat) (v : Int32) => [(0, .ref g), (2, .int x), (3, .int v), (4, .int (nI t))]) (stf := fun (t : Nat) (j : Nat) (v : Int32) => []) (I := fun (t : Nat) (j : Nat) (v : Int32) => t ≤ j ∧ j ≤ nb ∧ v = cN (pC sm (chO x)) nb j ∧ cN (pS sm x) nb i = cN (pS sm x) nb j) (mu := fun (t : Nat) (j : Nat) (v : Int32) => nb - j) ?_ 0 i st (⟨Nat.zero_le _, hi, hst, rfl⟩)
  intro t j v hI ih
  try dsimp only at hI ih
  try dsimp only
  have h0 := hI.1; have h1 := hI.2.1
  refine k_iload X dX2_firstInChain_5 3 rfl ?_
  refine k_aload_n X dX2_firstInChain_7 rfl 0 rfl ?_
  refine k_get (v := .int (nI nb)) X 0 2 2 rfl rfl (by decide) fl_X2_18 in_X2 rfl rfl dX2_firstInChain_8 ?_
  refine k_icmp_ge (tgt := 47) (xi := ((t : Nat) : Int)) (yi := ((nb : Nat) : Int)) X (nI_toInt (by omega)) (nI_toInt (by omega)) dX2_firstInChain_11 (by decide) (fun c_11 => ?_) (fun c_11 => ?_)
  · refine k_iconst (v := -1) X dX2_firstInChain_47 (by decide) ?_
    exact k_iret (u := [(g, .inr (2, [.int (nI bs), .int (nI wd), .int (nI nb), .ref qs, .ref qd, .ref qh, .ref qn])), (qs, .inl (cI, N, .inl sm)), (qn, .inl (cI, N, .inl nx))]) X hr [0, 1, 2] (by decide) rfl rfl (⟨by rw [hI.2.2.2, cN_ge (by omega)], rfl⟩) (by (try dsimp only); omega) (by (try dsimp only); omega) dX2_firstInChain_48
  · refine k_aload_n X dX2_firstInChain_14 rfl 0 rfl ?_
    refine k_iload_n X dX2_firstInChain_15 rfl 2 rfl ?_
    rcases cN_cases (pC sm (chO x)) nb j with ⟨e1, hno⟩ | ⟨b, hjb, hbn, hPb, hmin, e1⟩
    · obtain rfl : v = -1 := hI.2.2.1.trans e1
      refine k_callV (wc := [(g, .inr (2, [.int (nI bs), .int (nI wd), .int (nI nb), .ref qs, .ref qd, .ref qh, .ref qn]))]) (wr := [(qs, .inl (cI, N, .inl sm)), (qn, .inl (cI, N, .inl nx))]) (As := [.int (-1)]) (n := 1) (st := []) (q0 := 0) X (c_has l D cI cB g qs qd qh qn bs wd nb (-1) (by omega)) rfl rfl ml_X2_41 im_X2_has se_X2_has ini_X2 co_X2_has (by decide +kernel) rfl ⟨Nat.le_of_ble_eq_true rfl, Nat.le_of_ble_eq_true rfl⟩ (⟨by (try dsimp only); omega, by (try dsimp only); omega⟩) (Nat.le_of_ble_eq_true rfl) [0] [1, 2] rfl rfl rfl (by decide) (by decide) (by decide) rfl dX2_firstInChain_16 (fun v_16 u_16 hu_16 => ?_)
      obtain ⟨rfl, rfl⟩ := hu_16
      refine k_to (ws' := [(qs, .inl (cI, N, .inl sm)), (qn, .inl (cI, N, .inl nx)), (g, .inr (2, [.int (nI bs), .int (nI wd), .int (nI nb), .ref qs, .ref qd, .ref qh, .ref qn]))]) (st' := [.int (b2i (decide (rIn (-1) nb)))]) rfl rfl ?_
      refine k_as (y := 0) (b2i_f nI_m1) ?_
      refine k_if_eq (tgt := 47) (xi := (0 : Int)) X (by decide) dX2_firstInChain_19 (by decide) (fun c_19 => ?_) (fun c_19 => ?_)
      · refine k_iconst (v := -1) X dX2_firstInChain_47 (by decide) ?_
        exact k_iret (u := [(g, .inr (2, [.int (nI bs), .int (nI wd), .int (nI nb), .ref qs, .ref qd, .ref qh, .ref qn])), (qs, .inl (cI, N, .inl sm)), (qn, .inl (cI, N, .inl nx))]) X hr [2, 0, 1] (by decide) rfl rfl (⟨by rw [hI.2.2.2, cN_none (fun b h1 h2 => pS_of_pC (hno b h1 h2))], rfl⟩) (by (try dsimp only); omega) (by (try dsimp only); omega) dX2_firstInChain_48
      · exact absurd c_19 (by decide)
    · obtain rfl : v = nI b := hI.2.2.1.trans e1
      refine k_callV (wc := [(g, .inr (2, [.int (nI bs), .int (nI wd), .int (nI nb), .ref qs, .ref qd, .ref qh, .ref qn]))]) (wr := [(qs, .inl (cI, N, .inl sm)), (qn, .inl (cI, N, .inl nx))]) (As := [.int (nI b)]) (n := 1) (st := []) (q0 := 0) X (c_has l D cI cB g qs qd qh qn bs wd nb (nI b) (by omega)) rfl rfl ml_X2_41 im_X2_has se_X2_has ini_X2 co_X2_has (by decide +kernel) rfl ⟨Nat.le_of_ble_eq_true rfl, Nat.le_of_ble_eq_true rfl⟩ (⟨by (try dsimp only); omega, by (try dsimp only); omega⟩) (Nat.le_of_ble_eq_true rfl) [0] [1, 2] rfl rfl rfl (by decide) (by decide) (by decide) rfl dX2_firstInChain_16 (fun v_16 u_16 hu_16 => ?_)
      obtain ⟨rfl, rfl⟩ := hu_16
      refine k_to (ws' := [(qs, .inl (cI, N, .inl sm)), (qn, .inl (cI, N, .inl nx)), (g, .inr (2, [.int (nI bs), .int (nI wd), .int (nI nb), .ref qs, .ref qd, .ref qh, .ref qn]))]) (st' := [.int (b2i (decide (rIn (nI b) nb)))]) rfl rfl ?_
      refine k_as (y := 1) (b2i_t (rIn_nI (by omega) (by omega))) ?_
      refine k_if_eq (tgt := 47) (xi := (1 : Int)) X (by decide) dX2_firstInChain_19 (by decide) (fun c_19 => ?_) (fun c_19 => ?_)
      · exact absurd c_19 (by decide)
      · refine k_aload_n X dX2_firstInChain_22 rfl 0 rfl ?_
        refine k_get (v := .ref qs) X 2 2 3 rfl rfl (by decide) fl_X2_21 in_X2 rfl rfl dX2_firstInChain_23 ?_
        refine k_iload_n X dX2_firstInChain_26 rfl 2 rfl ?_
        refine k_iald (v := sm b) X 0 rfl (vp_in_nI (n := b) (by omega) (by omega)) (by rw [nI_clamp (n := b) (by omega)]) dX2_firstInChain_27 ?_
        refine k_iload_n X dX2_firstInChain_28 rfl 1 rfl ?_
        refine k_icmp_ne (tgt := 34) (xi := (sm b).toInt) (yi := x.toInt) X (rfl) (rfl) dX2_firstInChain_29 (by decide) (fun c_29 => ?_) (fun c_29 => ?_)
        · refine k_aload_n X dX2_firstInChain_34 rfl 0 rfl ?_
          refine k_get (v := .ref qn) X 2 2 6 rfl rfl (by decide) fl_X2_29 in_X2 rfl rfl dX2_firstInChain_35 ?_
          refine k_iload_n X dX2_firstInChain_38 rfl 2 rfl ?_
          refine k_iald (v := nx b) X 1 rfl (vp_in_nI (n := b) (by omega) (by omega)) (by rw [nI_clamp (n := b) (by omega)]) dX2_firstInChain_39 ?_
          refine k_istore_n (lv' := [(3, .int (nx b)), (0, .ref g), (2, .int x), (4, .int (nI t))]) X dX2_firstInChain_40 rfl (by decide) rfl ?_
          refine k_iinc (v := nI (t + 1)) (lv' := [(4, .int (nI (t + 1))), (3, .int (nx b)), (0, .ref g), (2, .int x)]) X dX2_firstInChain_41 3 rfl (nI_1 _) (by decide) rfl ?_
          refine k_goto (tgt := 5) X dX2_firstInChain_44 (by decide) ?_
          refine k_lv (lv' := [(0, .ref g), (2, .int x), (3, .int (nx b)), (4, .int (nI (t + 1)))]) [2, 3, 1, 0] rfl ?_
          refine k_sub (ws' := [(g, .inr (2, [.int (nI bs), .int (nI wd), .int (nI nb), .ref qs, .ref qd, .ref qh, .ref qn])), (qs, .inl (cI, N, .inl sm)), (qn, .inl (cI, N, .inl nx))]) [2, 0, 1] (by decide) rfl rfl ?_
          refine k_wide (k := 0) (n := 0) (by (try dsimp only); omega) (by (try dsimp only); omega) ?_
          exact ih (t + 1) (b + 1) (nx b) (⟨by omega, by omega, by rw [hch.2 b hbn, of_decide_eq_true hPb], hI.2.2.2.trans (pS_skip hjb hbn hmin (decide_eq_false (fun z => c_29 (congrArg Int32.toInt z))))⟩) (by omega)
        · refine k_iload_n X dX2_firstInChain_32 rfl 2 rfl ?_
          exact k_iret (u := [(g, .inr (2, [.int (nI bs), .int (nI wd), .int (nI nb), .ref qs, .ref qd, .ref qh, .ref qn])), (qs, .inl (cI, N, .inl sm)), (qn, .inl (cI, N, .inl nx))]) X hr [2, 0, 1] (by decide) rfl rfl (⟨by rw [hI.2.2.2, cN_is hjb hbn (decide_eq_true (Int32.toInt_inj.mp c_29)) (fun a h1 h2 => pS_of_pC (hmin a h1 h2))], rfl⟩) (by (try dsimp only); omega) (by (try dsimp only); omega) dX2_firstInChain_33
set_option maxHeartbeats 4000000 in
set_option maxRecDepth 100000 in
theorem c_hasSum (l : Launch) (D : va_G) (cI cB : ClassId) (g : Nat) (qs : Nat) (qd : Nat) (qh : Nat) (qn : Nat) (bs : Nat) (wd : Nat) (nb : Nat) (N : Nat) (sm : Nat → Int32) (hd : Nat → Int32) (nx : Nat → Int32) (x : Int32) (hN : nb ≤ N) (hN2 : N ≤ 2000) (hch : kChain nb sm hd nx) : kC l yX2_hasSum cX2_hasSum 2 (some .boolean) 2 45 (0) (0) D cI cB [.ref g, .int x] [(g, .inr (2, [.int (nI bs), .int (nI wd), .int (nI nb), .ref qs, .ref qd, .ref qh, .ref qn])), (qs, .inl (cI, N, .inl sm)), (qh, .inl (cI, 256, .inl hd)), (qn, .inl (cI, N, .inl nx))] (fun (v : Option Value) (u : va_W) => v = some (.int (b2i (decide (¬ cN (pS sm x) nb 0 = -1)))) ∧ u = [(g, .inr (2, [.int (nI bs), .int (nI wd), .int (nI nb), .ref qs, .ref qd, .ref qh, .ref qn])), (qs, .inl (cI, N, .inl sm)), (qh, .inl (cI, 256, .inl hd)), (qn, .inl (cI, N, .inl nx))]) := by
  refine k_entry (lv0 := [(0, .ref g), (1, .int x)]) (by decide) (Nat.le_of_ble_eq_true rfl) rfl ?_
  intro zp ze zs zm zb zt zc zA X hr hin
  refine k_aload_n X dX2_hasSum_0 rfl 0 rfl ?_
  refine k_aload_n X dX2_hasSum_1 rfl 0 rfl ?_
  refine k_aload_n X dX2_hasSum_2 rfl 0 rfl ?_
  refine k_get (v := .ref qh) X 0 2 5 rfl rfl (by decide) fl_X2_32 in_X2 rfl rfl dX2_hasSum_3 ?_
  refine k_iload_n X dX2_hasSum_6 rfl 1 rfl ?_
  refine k_callS (wc := []) (wr := [(g, .inr (2, [.int (nI bs), .int (nI wd), .int (nI nb), .ref qs, .ref qd, .ref qh, .ref qn])), (qs, .inl (cI, N, .inl sm)), (qh, .inl (cI, 256, .inl hd)), (qn, .inl (cI, N, .inl nx))]) (As := [.int x]) (n := 1) (st := [.ref qh, .ref g, .ref g]) X (c_chainOf l D cI cB x ) ml_X2_71 sm_X2_chainOf ini_X2 co_X2_chainOf (by decide +kernel) rfl ⟨Nat.le_of_ble_eq_true rfl, Nat.le_of_ble_eq_true rfl⟩ (⟨by (try dsimp only); omega, by (try dsimp only); omega⟩) (Nat.le_of_ble_eq_true rfl) [] [0, 1, 2, 3] rfl rfl rfl (by decide) (by decide) (by decide) rfl dX2_hasSum_7 (fun v_7 u_7 hu_7 => ?_)
  obtain ⟨rfl, rfl⟩ := hu_7
  refine k_to (ws' := [(g, .inr (2, [.int (nI bs), .int (nI wd), .int (nI nb), .ref qs, .ref qd, .ref qh, .ref qn])), (qs, .inl (cI, N, .inl sm)), (qh, .inl (cI, 256, .inl hd)), (qn, .inl (cI, N, .inl nx))]) (st' := [.int (nI (chO x)), .ref qh, .ref g, .ref g]) rfl rfl ?_
  have hco := chO_lt x
  refine k_iald (v := hd (chO x)) X 2 rfl (vp_in_nI (n := chO x) (chO_lt x) (by omega)) (by rw [nI_clamp (n := chO x) (by omega)]) dX2_hasSum_10 ?_
  refine k_iload_n X dX2_hasSum_11 rfl 1 rfl ?_
  refine k_callV (wc := [(g, .inr (2, [.int (nI bs), .int (nI wd), .int (nI nb), .ref qs, .ref qd, .ref qh, .ref qn])), (qs, .inl (cI, N, .inl sm)), (qn, .inl (cI, N, .inl nx))]) (wr := [(qh, .inl (cI, 256, .inl hd))]) (As := [.int (hd (chO x)), .int x]) (n := 2) (st := [.ref g]) (q0 := 0) X (c_firstInChain l D cI cB g qs qd qh qn bs wd nb N sm hd nx (hd (chO x)) x 0 (hN) (hN2) (hch) (Nat.zero_le _) (hch.1 _ (chO_lt x))) rfl rfl ml_X2_74 im_X2_firstInChain se_X2_firstInChain ini_X2 co_X2_firstInChain (by decide +kernel) rfl ⟨Nat.le_of_ble_eq_true rfl, Nat.le_of_ble_eq_true rfl⟩ (⟨by (try dsimp only); omega, by (try dsimp only); omega⟩) (Nat.le_of_ble_eq_true rfl) [0, 1, 3] [2] rfl rfl rfl (by decide) (by decide) (by decide) rfl dX2_hasSum_12 (fun v_12 u_12 hu_12 => ?_)
  obtain ⟨rfl, rfl⟩ := hu_12
  refine k_to (ws' := [(qh, .inl (cI, 256, .inl hd)), (g, .inr (2, [.int (nI bs), .int (nI wd), .int (nI nb), .ref qs, .ref qd, .ref qh, .ref qn])), (qs, .inl (cI, N, .inl sm)), (qn, .inl (cI, N, .inl nx))]) (st' := [.int (cN (pS sm x) nb 0), .ref g]) rfl rfl ?_
  refine k_callV (wc := [(g, .inr (2, [.int (nI bs), .int (nI wd), .int (nI nb), .ref qs, .ref qd, .ref qh, .ref qn]))]) (wr := [(qh, .inl (cI, 256, .inl hd)), (qs, .inl (cI, N, .inl sm)), (qn, .inl (cI, N, .inl nx))]) (As := [.int (cN (pS sm x) nb 0)]) (n := 1) (st := []) (q0 := 0) X (c_has l D cI cB g qs qd qh qn bs wd nb (cN (pS sm x) nb 0) (by omega)) rfl rfl ml_X2_41 im_X2_has se_X2_has ini_X2 co_X2_has (by decide +kernel) rfl ⟨Nat.le_of_ble_eq_true rfl, Nat.le_of_ble_eq_true rfl⟩ (⟨by (try dsimp only); omega, by (try dsimp only); omega⟩) (Nat.le_of_ble_eq_true rfl) [1] [0, 2, 3] rfl rfl rfl (by decide) (by decide) (by decide) rfl dX2_hasSum_15 (fun v_15 u_15 hu_15 => ?_)
  obtain ⟨rfl, rfl⟩ := hu_15
  refine k_to (ws' := [(qh, .inl (cI, 256, .inl hd)), (qs, .inl (cI, N, .inl sm)), (qn, .inl (cI, N, .inl nx)), (g, .inr (2, [.int (nI bs), .int (nI wd), .int (nI nb), .ref qs, .ref qd, .ref qh, .ref qn]))]) (st' := [.int (b2i (decide (rIn (cN (pS sm x) nb 0) nb)))]) rfl rfl ?_
  exact k_zret (u := [(g, .inr (2, [.int (nI bs), .int (nI wd), .int (nI nb), .ref qs, .ref qd, .ref qh, .ref qn])), (qs, .inl (cI, N, .inl sm)), (qh, .inl (cI, 256, .inl hd)), (qn, .inl (cI, N, .inl nx))]) X (by first | rfl | exact b2i_nar _ | decide) hr [3, 1, 0, 2] (by decide) rfl rfl (⟨by congr 2; exact hasS_eq (by omega), rfl⟩) (by (try dsimp only); omega) (by (try dsimp only); omega) dX2_hasSum_18
set_option maxHeartbeats 4000000 in
set_option maxRecDepth 100000 in
theorem c_find (l : Launch) (D : va_G) (cI cB : ClassId) (g : Nat) (qs : Nat) (qd : Nat) (qh : Nat) (qn : Nat) (bs : Nat) (wd : Nat) (nb : Nat) (N : Nat) (sm : Nat → Int32) (dg : Nat → Int32) (hd : Nat → Int32) (nx : Nat → Int32) (o : Nat) (aw : Nat) (ah : Nat) (h : Nat → Int32) (x : Int32) (fv : Int32) (hN : nb ≤ N) (hN2 : N ≤ 2000) (hch : kChain nb sm hd nx) (hwd : wd ≤ 16) : kC l yX2_find cX2_find 6 (some .int) 3 66 (0) (0) D cI cB [.ref g, .int x, .ref o, .int fv] [(g, .inr (2, [.int (nI bs), .int (nI wd), .int (nI nb), .ref qs, .ref qd, .ref qh, .ref qn])), (qs, .inl (cI, N, .inl sm)), (qd, .inl (cB, (16 * N), .inl dg)), (qh, .inl (cI, 256, .inl hd)), (qn, .inl (cI, N, .inl nx)), (o, .inr (0, [.ref aw, .ref ah])), (ah, .inl (cI, 4, .inl h))] (fun (v : Option Value) (u : va_W) => v = some (.int (fnd sm dg h nb wd x fv)) ∧ u = [(g, .inr (2, [.int (nI bs), .int (nI wd), .int (nI nb), .ref qs, .ref qd, .ref qh, .ref qn])), (qs, .inl (cI, N, .inl sm)), (qd, .inl (cB, (16 * N), .inl dg)), (qh, .inl (cI, 256, .inl hd)), (qn, .inl (cI, N, .inl nx)), (o, .inr (0, [.ref aw, .ref ah])), (ah, .inl (cI, 4, .inl h))]) := by
  refine k_entry (lv0 := [(0, .ref g), (1, .int x), (2, .ref o), (3, .int fv)]) (by decide) (Nat.le_of_ble_eq_true rfl) rfl ?_
  intro zp ze zs zm zb zt zc zA X hr hin
  by_cases hfv : rIn fv nb
  · obtain ⟨vv, hvv, rfl⟩ : ∃ vv : Nat, vv < nb ∧ fv = nI vv := ⟨_, (i_of hfv.1 hfv.2).1, (i_of hfv.1 hfv.2).2.1⟩
    refine k_aload_n X dX2_find_0 rfl 0 rfl ?_
    refine k_iload_n X dX2_find_1 rfl 3 rfl ?_
    refine k_callV (wc := [(g, .inr (2, [.int (nI bs), .int (nI wd), .int (nI nb), .ref qs, .ref qd, .ref qh, .ref qn]))]) (wr := [(qs, .inl (cI, N, .inl sm)), (qd, .inl (cB, (16 * N), .inl dg)), (qh, .inl (cI, 256, .inl hd)), (qn, .inl (cI, N, .inl nx)), (o, .inr (0, [.ref aw, .ref ah])), (ah, .inl (cI, 4, .inl h))]) (As := [.int (nI vv)]) (n := 1) (st := []) (q0 := 0) X (c_has l D cI cB g qs qd qh qn bs wd nb (nI vv) (by omega)) rfl rfl ml_X2_41 im_X2_has se_X2_has ini_X2 co_X2_has (by decide +kernel) rfl ⟨Nat.le_of_ble_eq_true rfl, Nat.le_of_ble_eq_true rfl⟩ (⟨by (try dsimp only); omega, by (try dsimp only); omega⟩) (Nat.le_of_ble_eq_true rfl) [0] [1, 2, 3, 4, 5, 6] rfl rfl rfl (by decide) (by decide) (by decide) rfl dX2_find_2 (fun v_2 u_2 hu_2 => ?_)
    obtain ⟨rfl, rfl⟩ := hu_2
    refine k_to (ws' := [(qs, .inl (cI, N, .inl sm)), (qd, .inl (cB, (16 * N), .inl dg)), (qh, .inl (cI, 256, .inl hd)), (qn, .inl (cI, N, .inl nx)), (o, .inr (0, [.ref aw, .ref ah])), (ah, .inl (cI, 4, .inl h)), (g, .inr (2, [.int (nI bs), .int (nI wd), .int (nI nb), .ref qs, .ref qd, .ref qh, .ref qn]))]) (st' := [.int (b2i (decide (rIn (nI vv) nb)))]) rfl rfl ?_
    refine k_as (y := 1) (b2i_t hfv) ?_
    refine k_if_eq (tgt := 29) (xi := (1 : Int)) X (by decide) dX2_find_5 (by decide) (fun c_5 => ?_) (fun c_5 => ?_)
    · exact absurd c_5 (by decide)
    · refine k_aload_n X dX2_find_8 rfl 0 rfl ?_
      refine k_get (v := .ref qs) X 6 2 3 rfl rfl (by decide) fl_X2_21 in_X2 rfl rfl dX2_find_9 ?_
      refine k_iload_n X dX2_find_12 rfl 3 rfl ?_
      refine k_iald (v := sm vv) X 0 rfl (vp_in_nI (n := vv) (by omega) (by omega)) (by rw [nI_clamp (n := vv) (by omega)]) dX2_find_13 ?_
      refine k_iload_n X dX2_find_14 rfl 1 rfl ?_
      refine k_icmp_ne (tgt := 29) (xi := (sm vv).toInt) (yi := x.toInt) X (rfl) (rfl) dX2_find_15 (by decide) (fun c_15 => ?_) (fun c_15 => ?_)
      · have hnf : fOk sm dg h nb wd x (nI vv) = false := by
          unfold fOk pD
          rw [nI_clamp (by omega)]
          first | rw [decide_eq_false (fun z => c_15 (congrArg Int32.toInt z)), Bool.false_and, Bool.and_false] | rw [Bool.eq_false_iff.mpr hd1, Bool.and_false, Bool.and_false]
        refine k_aload_n X dX2_find_29 rfl 0 rfl ?_
        refine k_aload_n X dX2_find_30 rfl 0 rfl ?_
        refine k_get (v := .ref qh) X 6 2 5 rfl rfl (by decide) fl_X2_32 in_X2 rfl rfl dX2_find_31 ?_
        refine k_iload_n X dX2_find_34 rfl 1 rfl ?_
        refine k_callS (wc := []) (wr := [(qs, .inl (cI, N, .inl sm)), (qd, .inl (cB, (16 * N), .inl dg)), (qh, .inl (cI, 256, .inl hd)), (qn, .inl (cI, N, .inl nx)), (o, .inr (0, [.ref aw, .ref ah])), (ah, .inl (cI, 4, .inl h)), (g, .inr (2, [.int (nI bs), .int (nI wd), .int (nI nb), .ref qs, .ref qd, .ref qh, .ref qn]))]) (As := [.int x]) (n := 1) (st := [.ref qh, .ref g]) X (c_chainOf l D cI cB x ) ml_X2_71 sm_X2_chainOf ini_X2 co_X2_chainOf (by decide +kernel) rfl ⟨Nat.le_of_ble_eq_true rfl, Nat.le_of_ble_eq_true rfl⟩ (⟨by (try dsimp only); omega, by (try dsimp only); omega⟩) (Nat.le_of_ble_eq_true rfl) [] [0, 1, 2, 3, 4, 5, 6] rfl rfl rfl (by decide) (by decide) (by decide) rfl dX2_find_35 (fun v_35 u_35 hu_35 => ?_)
        obtain ⟨rfl, rfl⟩ := hu_35
        refine k_to (ws' := [(qs, .inl (cI, N, .inl sm)), (qd, .inl (cB, (16 * N), .inl dg)), (qh, .inl (cI, 256, .inl hd)), (qn, .inl (cI, N, .inl nx)), (o, .inr (0, [.ref aw, .ref ah])), (ah, .inl (cI, 4, .inl h)), (g, .inr (2, [.int (nI bs), .int (nI wd), .int (nI nb), .ref qs, .ref qd, .ref qh, .ref qn]))]) (st' := [.int (nI (chO x)), .ref qh, .ref g]) rfl rfl ?_
        have hco := chO_lt x
        refine k_iald (v := hd (chO x)) X 2 rfl (vp_in_nI (n := chO x) (chO_lt x) (by omega)) (by rw [nI_clamp (n := chO x) (by omega)]) dX2_find_38 ?_
        refine k_iload_n X dX2_find_39 rfl 1 rfl ?_
        refine k_callV (wc := [(g, .inr (2, [.int (nI bs), .int (nI wd), .int (nI nb), .ref qs, .ref qd, .ref qh, .ref qn])), (qs, .inl (cI, N, .inl sm)), (qn, .inl (cI, N, .inl nx))]) (wr := [(qd, .inl (cB, (16 * N), .inl dg)), (qh, .inl (cI, 256, .inl hd)), (o, .inr (0, [.ref aw, .ref ah])), (ah, .inl (cI, 4, .inl h))]) (As := [.int (hd (chO x)), .int x]) (n := 2) (st := []) (q0 := 0) X (c_firstInChain l D cI cB g qs qd qh qn bs wd nb N sm hd nx (hd (chO x)) x 0 (hN) (hN2) (hch) (Nat.zero_le _) (hch.1 _ (chO_lt x))) rfl rfl ml_X2_74 im_X2_firstInChain se_X2_firstInChain ini_X2 co_X2_firstInChain (by decide +kernel) rfl ⟨Nat.le_of_ble_eq_true rfl, Nat.le_of_ble_eq_true rfl⟩ (⟨by (try dsimp only); omega, by (try dsimp only); omega⟩) (Nat.le_of_ble_eq_true rfl) [6, 0, 3] [1, 2, 4, 5] rfl rfl rfl (by decide) (by decide) (by decide) rfl dX2_find_40 (fun v_40 u_40 hu_40 => ?_)
        obtain ⟨rfl, rfl⟩ := hu_40
        refine k_to (ws' := [(qd, .inl (cB, (16 * N), .inl dg)), (qh, .inl (cI, 256, .inl hd)), (o, .inr (0, [.ref aw, .ref ah])), (ah, .inl (cI, 4, .inl h)), (g, .inr (2, [.int (nI bs), .int (nI wd), .int (nI nb), .ref qs, .ref qd, .ref qh, .ref qn])), (qs, .inl (cI, N, .inl sm)), (qn, .inl (cI, N, .inl nx))]) (st' := [.int (cN (pS sm x) nb 0)]) rfl rfl ?_
        refine k_istore (lv' := [(4, .int (cN (pS sm x) nb 0)), (0, .ref g), (1, .int x), (2, .ref o), (3, .int (nI vv))]) X dX2_find_43 (by decide) rfl ?_
        refine k_iconst (v := 0) X dX2_find_45 (by decide) ?_
        refine k_istore (lv' := [(5, .int 0), (4, .int (cN (pS sm x) nb 0)), (0, .ref g), (1, .int x), (2, .ref o), (3, .int (nI vv))]) X dX2_find_46 (by decide) rfl ?_
        refine k_lv (lv' := [(0, .ref g), (1, .int x), (2, .ref o), (4, .int (cN (pS sm x) nb 0)), (5, .int (nI 0))]) [2, 3, 4, 1, 0] rfl ?_
        refine k_wide (k := 0) (n := 0) (by (try dsimp only); omega) (by (try dsimp only); omega) ?_
        refine k_loop3 (pc1 := 48) (cl := fun (t : Nat) (j : Nat) (v : Int32) => 0) (sl := fun (t : Nat) (j : Nat) (v : Int32) => 0) (wsf := fun (t : Nat) (j : Nat) (v : Int32) => [(qd, .inl (cB, (16 * N), .inl dg)), (qh, .inl (cI, 256, .inl hd)), (o, .inr (0, [.ref aw, .ref ah])), (ah, .inl (cI, 4, .inl h)), (g, .inr (2, [.int (nI bs), .int (nI wd), .int (nI nb), .ref qs, .ref qd, .ref qh, .ref qn])), (qs, .inl (cI, N, .inl sm)), (qn, .inl (cI, N, .inl nx))]) (lvf := fun (t : Nat) (j : Nat) (v : Int32) => [(0, .ref g), (1, .int x), (2, .ref o), (4, .int v), (5, .int (nI t))]) (stf := fun (t : Nat) (j : Nat) (v : Int32) => []) (I := fun (t : Nat) (j : Nat) (v : Int32) => t ≤ j ∧ j ≤ nb ∧ v = cN (pS sm x) nb j ∧ cN (pD sm dg h wd x) nb 0 = cN (pD sm dg h wd x) nb j) (mu := fun (t : Nat) (j : Nat) (v : Int32) => nb - j) ?_ 0 0 (cN (pS sm x) nb 0) (⟨Nat.le_refl _, Nat.zero_le _, rfl, rfl⟩)
        intro t j v hI ih
        try dsimp only at hI ih
        try dsimp only
        have h0 := hI.1; have h1 := hI.2.1
        refine k_iload X dX2_find_48 4 rfl ?_
        refine k_aload_n X dX2_find_50 rfl 0 rfl ?_
        refine k_get (v := .int (nI nb)) X 4 2 2 rfl rfl (by decide) fl_X2_18 in_X2 rfl rfl dX2_find_51 ?_
        refine k_icmp_ge (tgt := 99) (xi := ((t : Nat) : Int)) (yi := ((nb : Nat) : Int)) X (nI_toInt (by omega)) (nI_toInt (by omega)) dX2_find_54 (by decide) (fun c_54 => ?_) (fun c_54 => ?_)
        · refine k_iconst (v := -1) X dX2_find_99 (by decide) ?_
          exact k_iret (u := [(g, .inr (2, [.int (nI bs), .int (nI wd), .int (nI nb), .ref qs, .ref qd, .ref qh, .ref qn])), (qs, .inl (cI, N, .inl sm)), (qd, .inl (cB, (16 * N), .inl dg)), (qh, .inl (cI, 256, .inl hd)), (qn, .inl (cI, N, .inl nx)), (o, .inr (0, [.ref aw, .ref ah])), (ah, .inl (cI, 4, .inl h))]) X hr [4, 5, 0, 1, 6, 2, 3] (by decide) rfl rfl (⟨by rw [fnd, hnf, if_neg (by decide), hI.2.2.2, cN_ge (by omega)], rfl⟩) (by (try dsimp only); omega) (by (try dsimp only); omega) dX2_find_100
        · refine k_aload_n X dX2_find_57 rfl 0 rfl ?_
          refine k_iload X dX2_find_58 3 rfl ?_
          rcases cN_cases (pS sm x) nb j with ⟨e1, hno⟩ | ⟨b, hjb, hbn, hPb, hmin, e1⟩
          · obtain rfl : v = -1 := hI.2.2.1.trans e1
            refine k_callV (wc := [(g, .inr (2, [.int (nI bs), .int (nI wd), .int (nI nb), .ref qs, .ref qd, .ref qh, .ref qn]))]) (wr := [(qd, .inl (cB, (16 * N), .inl dg)), (qh, .inl (cI, 256, .inl hd)), (o, .inr (0, [.ref aw, .ref ah])), (ah, .inl (cI, 4, .inl h)), (qs, .inl (cI, N, .inl sm)), (qn, .inl (cI, N, .inl nx))]) (As := [.int (-1)]) (n := 1) (st := []) (q0 := 0) X (c_has l D cI cB g qs qd qh qn bs wd nb (-1) (by omega)) rfl rfl ml_X2_41 im_X2_has se_X2_has ini_X2 co_X2_has (by decide +kernel) rfl ⟨Nat.le_of_ble_eq_true rfl, Nat.le_of_ble_eq_true rfl⟩ (⟨by (try dsimp only); omega, by (try dsimp only); omega⟩) (Nat.le_of_ble_eq_true rfl) [4] [0, 1, 2, 3, 5, 6] rfl rfl rfl (by decide) (by decide) (by decide) rfl dX2_find_60 (fun v_60 u_60 hu_60 => ?_)
            obtain ⟨rfl, rfl⟩ := hu_60
            refine k_to (ws' := [(qd, .inl (cB, (16 * N), .inl dg)), (qh, .inl (cI, 256, .inl hd)), (o, .inr (0, [.ref aw, .ref ah])), (ah, .inl (cI, 4, .inl h)), (qs, .inl (cI, N, .inl sm)), (qn, .inl (cI, N, .inl nx)), (g, .inr (2, [.int (nI bs), .int (nI wd), .int (nI nb), .ref qs, .ref qd, .ref qh, .ref qn]))]) (st' := [.int (b2i (decide (rIn (-1) nb)))]) rfl rfl ?_
            refine k_as (y := 0) (b2i_f nI_m1) ?_
            refine k_if_eq (tgt := 99) (xi := (0 : Int)) X (by decide) dX2_find_63 (by decide) (fun c_63 => ?_) (fun c_63 => ?_)
            · refine k_iconst (v := -1) X dX2_find_99 (by decide) ?_
              exact k_iret (u := [(g, .inr (2, [.int (nI bs), .int (nI wd), .int (nI nb), .ref qs, .ref qd, .ref qh, .ref qn])), (qs, .inl (cI, N, .inl sm)), (qd, .inl (cB, (16 * N), .inl dg)), (qh, .inl (cI, 256, .inl hd)), (qn, .inl (cI, N, .inl nx)), (o, .inr (0, [.ref aw, .ref ah])), (ah, .inl (cI, 4, .inl h))]) X hr [6, 4, 0, 1, 5, 2, 3] (by decide) rfl rfl (⟨by rw [fnd, hnf, if_neg (by decide), hI.2.2.2, cN_none (fun b h1 h2 => pD_of_pS (hno b h1 h2))], rfl⟩) (by (try dsimp only); omega) (by (try dsimp only); omega) dX2_find_100
            · exact absurd c_63 (by decide)
          · obtain rfl : v = nI b := hI.2.2.1.trans e1
            refine k_callV (wc := [(g, .inr (2, [.int (nI bs), .int (nI wd), .int (nI nb), .ref qs, .ref qd, .ref qh, .ref qn]))]) (wr := [(qd, .inl (cB, (16 * N), .inl dg)), (qh, .inl (cI, 256, .inl hd)), (o, .inr (0, [.ref aw, .ref ah])), (ah, .inl (cI, 4, .inl h)), (qs, .inl (cI, N, .inl sm)), (qn, .inl (cI, N, .inl nx))]) (As := [.int (nI b)]) (n := 1) (st := []) (q0 := 0) X (c_has l D cI cB g qs qd qh qn bs wd nb (nI b) (by omega)) rfl rfl ml_X2_41 im_X2_has se_X2_has ini_X2 co_X2_has (by decide +kernel) rfl ⟨Nat.le_of_ble_eq_true rfl, Nat.le_of_ble_eq_true rfl⟩ (⟨by (try dsimp only); omega, by (try dsimp only); omega⟩) (Nat.le_of_ble_eq_true rfl) [4] [0, 1, 2, 3, 5, 6] rfl rfl rfl (by decide) (by decide) (by decide) rfl dX2_find_60 (fun v_60 u_60 hu_60 => ?_)
            obtain ⟨rfl, rfl⟩ := hu_60
            refine k_to (ws' := [(qd, .inl (cB, (16 * N), .inl dg)), (qh, .inl (cI, 256, .inl hd)), (o, .inr (0, [.ref aw, .ref ah])), (ah, .inl (cI, 4, .inl h)), (qs, .inl (cI, N, .inl sm)), (qn, .inl (cI, N, .inl nx)), (g, .inr (2, [.int (nI bs), .int (nI wd), .int (nI nb), .ref qs, .ref qd, .ref qh, .ref qn]))]) (st' := [.int (b2i (decide (rIn (nI b) nb)))]) rfl rfl ?_
            refine k_as (y := 1) (b2i_t (rIn_nI (by omega) (by omega))) ?_
            refine k_if_eq (tgt := 99) (xi := (1 : Int)) X (by decide) dX2_find_63 (by decide) (fun c_63 => ?_) (fun c_63 => ?_)
            · exact absurd c_63 (by decide)
            · refine k_aload_n X dX2_find_66 rfl 0 rfl ?_
              refine k_iload X dX2_find_67 3 rfl ?_
              refine k_aload_n X dX2_find_69 rfl 2 rfl ?_
              refine k_callV (wc := [(g, .inr (2, [.int (nI bs), .int (nI wd), .int (nI nb), .ref qs, .ref qd, .ref qh, .ref qn])), (qd, .inl (cB, (16 * N), .inl dg)), (o, .inr (0, [.ref aw, .ref ah])), (ah, .inl (cI, 4, .inl h))]) (wr := [(qh, .inl (cI, 256, .inl hd)), (qs, .inl (cI, N, .inl sm)), (qn, .inl (cI, N, .inl nx))]) (As := [.int (nI b), .ref o]) (n := 2) (st := []) (q0 := 0) X (c_hasDigest l D cI cB g qs qd qh qn bs wd nb N dg b o aw ah h (hN) (hN2) (hbn) (hwd)) rfl rfl ml_X2_77 im_X2_hasDigest se_X2_hasDigest ini_X2 co_X2_hasDigest (by decide +kernel) rfl ⟨Nat.le_of_ble_eq_true rfl, Nat.le_of_ble_eq_true rfl⟩ (⟨by (try dsimp only); omega, by (try dsimp only); omega⟩) (Nat.le_of_ble_eq_true rfl) [6, 0, 2, 3] [1, 4, 5] rfl rfl rfl (by decide) (by decide) (by decide) rfl dX2_find_70 (fun v_70 u_70 hu_70 => ?_)
              obtain ⟨rfl, rfl⟩ := hu_70
              refine k_to (ws' := [(qh, .inl (cI, 256, .inl hd)), (qs, .inl (cI, N, .inl sm)), (qn, .inl (cI, N, .inl nx)), (g, .inr (2, [.int (nI bs), .int (nI wd), .int (nI nb), .ref qs, .ref qd, .ref qh, .ref qn])), (qd, .inl (cB, (16 * N), .inl dg)), (o, .inr (0, [.ref aw, .ref ah])), (ah, .inl (cI, 4, .inl h))]) (st' := [.int (b2i (hB dg h wd b))]) rfl rfl ?_
              by_cases hd1 : hB dg h wd b = true
              · refine k_as (y := 1) (by rw [hd1]; rfl) ?_
                refine k_if_eq (tgt := 79) (xi := (1 : Int)) X (by decide) dX2_find_73 (by decide) (fun c_73 => ?_) (fun c_73 => ?_)
                · exact absurd c_73 (by decide)
                · refine k_iload X dX2_find_76 3 rfl ?_
                  exact k_iret (u := [(g, .inr (2, [.int (nI bs), .int (nI wd), .int (nI nb), .ref qs, .ref qd, .ref qh, .ref qn])), (qs, .inl (cI, N, .inl sm)), (qd, .inl (cB, (16 * N), .inl dg)), (qh, .inl (cI, 256, .inl hd)), (qn, .inl (cI, N, .inl nx)), (o, .inr (0, [.ref aw, .ref ah])), (ah, .inl (cI, 4, .inl h))]) X hr [3, 1, 4, 0, 2, 5, 6] (by decide) rfl rfl (⟨by rw [fnd, hnf, if_neg (by decide), hI.2.2.2, cN_is hjb hbn (by unfold pD; rw [show decide (sm b = x) = true from hPb, hd1]; rfl) (fun a h1 h2 => pD_of_pS (hmin a h1 h2))], rfl⟩) (by (try dsimp only); omega) (by (try dsimp only); omega) dX2_find_78
              · refine k_as (y := 0) (by rw [Bool.eq_false_iff.mpr hd1]; rfl) ?_
                refine k_if_eq (tgt := 79) (xi := (0 : Int)) X (by decide) dX2_find_73 (by decide) (fun c_73 => ?_) (fun c_73 => ?_)
                · refine k_aload_n X dX2_find_79 rfl 0 rfl ?_
                  refine k_aload_n X dX2_find_80 rfl 0 rfl ?_
                  refine k_get (v := .ref qn) X 3 2 6 rfl rfl (by decide) fl_X2_29 in_X2 rfl rfl dX2_find_81 ?_
                  refine k_iload X dX2_find_84 3 rfl ?_
                  refine k_iald (v := nx b) X 2 rfl (vp_in_nI (n := b) (by omega) (by omega)) (by rw [nI_clamp (n := b) (by omega)]) dX2_find_86 ?_
                  refine k_iload_n X dX2_find_87 rfl 1 rfl ?_
                  have hsb := of_decide_eq_true hPb
                  refine k_callV (wc := [(g, .inr (2, [.int (nI bs), .int (nI wd), .int (nI nb), .ref qs, .ref qd, .ref qh, .ref qn])), (qs, .inl (cI, N, .inl sm)), (qn, .inl (cI, N, .inl nx))]) (wr := [(qh, .inl (cI, 256, .inl hd)), (qd, .inl (cB, (16 * N), .inl dg)), (o, .inr (0, [.ref aw, .ref ah])), (ah, .inl (cI, 4, .inl h))]) (As := [.int (nx b), .int x]) (n := 2) (st := []) (q0 := 0) X (c_firstInChain l D cI cB g qs qd qh qn bs wd nb N sm hd nx (nx b) x (b + 1) (hN) (hN2) (hch) (by omega) (by rw [hch.2 b hbn, hsb])) rfl rfl ml_X2_74 im_X2_firstInChain se_X2_firstInChain ini_X2 co_X2_firstInChain (by decide +kernel) rfl ⟨Nat.le_of_ble_eq_true rfl, Nat.le_of_ble_eq_true rfl⟩ (⟨by (try dsimp only); omega, by (try dsimp only); omega⟩) (Nat.le_of_ble_eq_true rfl) [3, 1, 2] [0, 4, 5, 6] rfl rfl rfl (by decide) (by decide) (by decide) rfl dX2_find_88 (fun v_88 u_88 hu_88 => ?_)
                  obtain ⟨rfl, rfl⟩ := hu_88
                  refine k_to (ws' := [(qh, .inl (cI, 256, .inl hd)), (qd, .inl (cB, (16 * N), .inl dg)), (o, .inr (0, [.ref aw, .ref ah])), (ah, .inl (cI, 4, .inl h)), (g, .inr (2, [.int (nI bs), .int (nI wd), .int (nI nb), .ref qs, .ref qd, .ref qh, .ref qn])), (qs, .inl (cI, N, .inl sm)), (qn, .inl (cI, N, .inl nx))]) (st' := [.int (cN (pS sm x) nb (b + 1))]) rfl rfl ?_
                  refine k_istore (lv' := [(4, .int (cN (pS sm x) nb (b + 1))), (0, .ref g), (1, .int x), (2, .ref o), (5, .int (nI t))]) X dX2_find_91 (by decide) rfl ?_
                  refine k_iinc (v := nI (t + 1)) (lv' := [(5, .int (nI (t + 1))), (4, .int (cN (pS sm x) nb (b + 1))), (0, .ref g), (1, .int x), (2, .ref o)]) X dX2_find_93 4 rfl (nI_1 _) (by decide) rfl ?_
                  refine k_goto (tgt := 48) X dX2_find_96 (by decide) ?_
                  refine k_lv (lv' := [(0, .ref g), (1, .int x), (2, .ref o), (4, .int (cN (pS sm x) nb (b + 1))), (5, .int (nI (t + 1)))]) [2, 3, 4, 1, 0] rfl ?_
                  refine k_sub (ws' := [(qd, .inl (cB, (16 * N), .inl dg)), (qh, .inl (cI, 256, .inl hd)), (o, .inr (0, [.ref aw, .ref ah])), (ah, .inl (cI, 4, .inl h)), (g, .inr (2, [.int (nI bs), .int (nI wd), .int (nI nb), .ref qs, .ref qd, .ref qh, .ref qn])), (qs, .inl (cI, N, .inl sm)), (qn, .inl (cI, N, .inl nx))]) [1, 0, 2, 3, 4, 5, 6] (by decide) rfl rfl ?_
                  refine k_wide (k := 0) (n := 0) (by (try dsimp only); omega) (by (try dsimp only); omega) ?_
                  exact ih (t + 1) (b + 1) (cN (pS sm x) nb (b + 1)) (⟨by omega, by omega, rfl, hI.2.2.2.trans (pD_skip hjb hbn hmin hd1)⟩) (by omega)
                · exact absurd c_73 (by decide)
      · refine k_aload_n X dX2_find_18 rfl 0 rfl ?_
        refine k_iload_n X dX2_find_19 rfl 3 rfl ?_
        refine k_aload_n X dX2_find_20 rfl 2 rfl ?_
        refine k_callV (wc := [(g, .inr (2, [.int (nI bs), .int (nI wd), .int (nI nb), .ref qs, .ref qd, .ref qh, .ref qn])), (qd, .inl (cB, (16 * N), .inl dg)), (o, .inr (0, [.ref aw, .ref ah])), (ah, .inl (cI, 4, .inl h))]) (wr := [(qs, .inl (cI, N, .inl sm)), (qh, .inl (cI, 256, .inl hd)), (qn, .inl (cI, N, .inl nx))]) (As := [.int (nI vv), .ref o]) (n := 2) (st := []) (q0 := 0) X (c_hasDigest l D cI cB g qs qd qh qn bs wd nb N dg vv o aw ah h (hN) (hN2) (hvv) (hwd)) rfl rfl ml_X2_77 im_X2_hasDigest se_X2_hasDigest ini_X2 co_X2_hasDigest (by decide +kernel) rfl ⟨Nat.le_of_ble_eq_true rfl, Nat.le_of_ble_eq_true rfl⟩ (⟨by (try dsimp only); omega, by (try dsimp only); omega⟩) (Nat.le_of_ble_eq_true rfl) [6, 1, 4, 5] [0, 2, 3] rfl rfl rfl (by decide) (by decide) (by decide) rfl dX2_find_21 (fun v_21 u_21 hu_21 => ?_)
        obtain ⟨rfl, rfl⟩ := hu_21
        refine k_to (ws' := [(qs, .inl (cI, N, .inl sm)), (qh, .inl (cI, 256, .inl hd)), (qn, .inl (cI, N, .inl nx)), (g, .inr (2, [.int (nI bs), .int (nI wd), .int (nI nb), .ref qs, .ref qd, .ref qh, .ref qn])), (qd, .inl (cB, (16 * N), .inl dg)), (o, .inr (0, [.ref aw, .ref ah])), (ah, .inl (cI, 4, .inl h))]) (st' := [.int (b2i (hB dg h wd vv))]) rfl rfl ?_
        by_cases hd1 : hB dg h wd vv = true
        · refine k_as (y := 1) (by rw [hd1]; rfl) ?_
          refine k_if_eq (tgt := 29) (xi := (1 : Int)) X (by decide) dX2_find_24 (by decide) (fun c_24 => ?_) (fun c_24 => ?_)
          · exact absurd c_24 (by decide)
          · refine k_iload_n X dX2_find_27 rfl 3 rfl ?_
            exact k_iret (u := [(g, .inr (2, [.int (nI bs), .int (nI wd), .int (nI nb), .ref qs, .ref qd, .ref qh, .ref qn])), (qs, .inl (cI, N, .inl sm)), (qd, .inl (cB, (16 * N), .inl dg)), (qh, .inl (cI, 256, .inl hd)), (qn, .inl (cI, N, .inl nx)), (o, .inr (0, [.ref aw, .ref ah])), (ah, .inl (cI, 4, .inl h))]) X hr [3, 0, 4, 1, 2, 5, 6] (by decide) rfl rfl (⟨by rw [fnd, if_pos (by unfold fOk pD; rw [nI_clamp (by omega), decide_eq_true hfv, decide_eq_true (Int32.toInt_inj.mp c_15), hd1]; rfl)], rfl⟩) (by (try dsimp only); omega) (by (try dsimp only); omega) dX2_find_28
        · refine k_as (y := 0) (by rw [Bool.eq_false_iff.mpr hd1]; rfl) ?_
          refine k_if_eq (tgt := 29) (xi := (0 : Int)) X (by decide) dX2_find_24 (by decide) (fun c_24 => ?_) (fun c_24 => ?_)
          · have hnf : fOk sm dg h nb wd x (nI vv) = false := by
              unfold fOk pD
              rw [nI_clamp (by omega)]
              first | rw [decide_eq_false (fun z => c_15 (congrArg Int32.toInt z)), Bool.false_and, Bool.and_false] | rw [Bool.eq_false_iff.mpr hd1, Bool.and_false, Bool.and_false]
            refine k_aload_n X dX2_find_29 rfl 0 rfl ?_
            refine k_aload_n X dX2_find_30 rfl 0 rfl ?_
            refine k_get (v := .ref qh) X 3 2 5 rfl rfl (by decide) fl_X2_32 in_X2 rfl rfl dX2_find_31 ?_
            refine k_iload_n X dX2_find_34 rfl 1 rfl ?_
            refine k_callS (wc := []) (wr := [(qs, .inl (cI, N, .inl sm)), (qh, .inl (cI, 256, .inl hd)), (qn, .inl (cI, N, .inl nx)), (g, .inr (2, [.int (nI bs), .int (nI wd), .int (nI nb), .ref qs, .ref qd, .ref qh, .ref qn])), (qd, .inl (cB, (16 * N), .inl dg)), (o, .inr (0, [.ref aw, .ref ah])), (ah, .inl (cI, 4, .inl h))]) (As := [.int x]) (n := 1) (st := [.ref qh, .ref g]) X (c_chainOf l D cI cB x ) ml_X2_71 sm_X2_chainOf ini_X2 co_X2_chainOf (by decide +kernel) rfl ⟨Nat.le_of_ble_eq_true rfl, Nat.le_of_ble_eq_true rfl⟩ (⟨by (try dsimp only); omega, by (try dsimp only); omega⟩) (Nat.le_of_ble_eq_true rfl) [] [0, 1, 2, 3, 4, 5, 6] rfl rfl rfl (by decide) (by decide) (by decide) rfl dX2_find_35 (fun v_35 u_35 hu_35 => ?_)
            obtain ⟨rfl, rfl⟩ := hu_35
            refine k_to (ws' := [(qs, .inl (cI, N, .inl sm)), (qh, .inl (cI, 256, .inl hd)), (qn, .inl (cI, N, .inl nx)), (g, .inr (2, [.int (nI bs), .int (nI wd), .int (nI nb), .ref qs, .ref qd, .ref qh, .ref qn])), (qd, .inl (cB, (16 * N), .inl dg)), (o, .inr (0, [.ref aw, .ref ah])), (ah, .inl (cI, 4, .inl h))]) (st' := [.int (nI (chO x)), .ref qh, .ref g]) rfl rfl ?_
            have hco := chO_lt x
            refine k_iald (v := hd (chO x)) X 1 rfl (vp_in_nI (n := chO x) (chO_lt x) (by omega)) (by rw [nI_clamp (n := chO x) (by omega)]) dX2_find_38 ?_
            refine k_iload_n X dX2_find_39 rfl 1 rfl ?_
            refine k_callV (wc := [(g, .inr (2, [.int (nI bs), .int (nI wd), .int (nI nb), .ref qs, .ref qd, .ref qh, .ref qn])), (qs, .inl (cI, N, .inl sm)), (qn, .inl (cI, N, .inl nx))]) (wr := [(qh, .inl (cI, 256, .inl hd)), (qd, .inl (cB, (16 * N), .inl dg)), (o, .inr (0, [.ref aw, .ref ah])), (ah, .inl (cI, 4, .inl h))]) (As := [.int (hd (chO x)), .int x]) (n := 2) (st := []) (q0 := 0) X (c_firstInChain l D cI cB g qs qd qh qn bs wd nb N sm hd nx (hd (chO x)) x 0 (hN) (hN2) (hch) (Nat.zero_le _) (hch.1 _ (chO_lt x))) rfl rfl ml_X2_74 im_X2_firstInChain se_X2_firstInChain ini_X2 co_X2_firstInChain (by decide +kernel) rfl ⟨Nat.le_of_ble_eq_true rfl, Nat.le_of_ble_eq_true rfl⟩ (⟨by (try dsimp only); omega, by (try dsimp only); omega⟩) (Nat.le_of_ble_eq_true rfl) [3, 0, 2] [1, 4, 5, 6] rfl rfl rfl (by decide) (by decide) (by decide) rfl dX2_find_40 (fun v_40 u_40 hu_40 => ?_)
            obtain ⟨rfl, rfl⟩ := hu_40
            refine k_to (ws' := [(qh, .inl (cI, 256, .inl hd)), (qd, .inl (cB, (16 * N), .inl dg)), (o, .inr (0, [.ref aw, .ref ah])), (ah, .inl (cI, 4, .inl h)), (g, .inr (2, [.int (nI bs), .int (nI wd), .int (nI nb), .ref qs, .ref qd, .ref qh, .ref qn])), (qs, .inl (cI, N, .inl sm)), (qn, .inl (cI, N, .inl nx))]) (st' := [.int (cN (pS sm x) nb 0)]) rfl rfl ?_
            refine k_istore (lv' := [(4, .int (cN (pS sm x) nb 0)), (0, .ref g), (1, .int x), (2, .ref o), (3, .int (nI vv))]) X dX2_find_43 (by decide) rfl ?_
            refine k_iconst (v := 0) X dX2_find_45 (by decide) ?_
            refine k_istore (lv' := [(5, .int 0), (4, .int (cN (pS sm x) nb 0)), (0, .ref g), (1, .int x), (2, .ref o), (3, .int (nI vv))]) X dX2_find_46 (by decide) rfl ?_
            refine k_lv (lv' := [(0, .ref g), (1, .int x), (2, .ref o), (4, .int (cN (pS sm x) nb 0)), (5, .int (nI 0))]) [2, 3, 4, 1, 0] rfl ?_
            refine k_wide (k := 0) (n := 0) (by (try dsimp only); omega) (by (try dsimp only); omega) ?_
            refine k_loop3 (pc1 := 48) (cl := fun (t : Nat) (j : Nat) (v : Int32) => 0) (sl := fun (t : Nat) (j : Nat) (v : Int32) => 0) (wsf := fun (t : Nat) (j : Nat) (v : Int32) => [(qh, .inl (cI, 256, .inl hd)), (qd, .inl (cB, (16 * N), .inl dg)), (o, .inr (0, [.ref aw, .ref ah])), (ah, .inl (cI, 4, .inl h)), (g, .inr (2, [.int (nI bs), .int (nI wd), .int (nI nb), .ref qs, .ref qd, .ref qh, .ref qn])), (qs, .inl (cI, N, .inl sm)), (qn, .inl (cI, N, .inl nx))]) (lvf := fun (t : Nat) (j : Nat) (v : Int32) => [(0, .ref g), (1, .int x), (2, .ref o), (4, .int v), (5, .int (nI t))]) (stf := fun (t : Nat) (j : Nat) (v : Int32) => []) (I := fun (t : Nat) (j : Nat) (v : Int32) => t ≤ j ∧ j ≤ nb ∧ v = cN (pS sm x) nb j ∧ cN (pD sm dg h wd x) nb 0 = cN (pD sm dg h wd x) nb j) (mu := fun (t : Nat) (j : Nat) (v : Int32) => nb - j) ?_ 0 0 (cN (pS sm x) nb 0) (⟨Nat.le_refl _, Nat.zero_le _, rfl, rfl⟩)
            intro t j v hI ih
            try dsimp only at hI ih
            try dsimp only
            have h0 := hI.1; have h1 := hI.2.1
            refine k_iload X dX2_find_48 4 rfl ?_
            refine k_aload_n X dX2_find_50 rfl 0 rfl ?_
            refine k_get (v := .int (nI nb)) X 4 2 2 rfl rfl (by decide) fl_X2_18 in_X2 rfl rfl dX2_find_51 ?_
            refine k_icmp_ge (tgt := 99) (xi := ((t : Nat) : Int)) (yi := ((nb : Nat) : Int)) X (nI_toInt (by omega)) (nI_toInt (by omega)) dX2_find_54 (by decide) (fun c_54 => ?_) (fun c_54 => ?_)
            · refine k_iconst (v := -1) X dX2_find_99 (by decide) ?_
              exact k_iret (u := [(g, .inr (2, [.int (nI bs), .int (nI wd), .int (nI nb), .ref qs, .ref qd, .ref qh, .ref qn])), (qs, .inl (cI, N, .inl sm)), (qd, .inl (cB, (16 * N), .inl dg)), (qh, .inl (cI, 256, .inl hd)), (qn, .inl (cI, N, .inl nx)), (o, .inr (0, [.ref aw, .ref ah])), (ah, .inl (cI, 4, .inl h))]) X hr [4, 5, 1, 0, 6, 2, 3] (by decide) rfl rfl (⟨by rw [fnd, hnf, if_neg (by decide), hI.2.2.2, cN_ge (by omega)], rfl⟩) (by (try dsimp only); omega) (by (try dsimp only); omega) dX2_find_100
            · refine k_aload_n X dX2_find_57 rfl 0 rfl ?_
              refine k_iload X dX2_find_58 3 rfl ?_
              rcases cN_cases (pS sm x) nb j with ⟨e1, hno⟩ | ⟨b, hjb, hbn, hPb, hmin, e1⟩
              · obtain rfl : v = -1 := hI.2.2.1.trans e1
                refine k_callV (wc := [(g, .inr (2, [.int (nI bs), .int (nI wd), .int (nI nb), .ref qs, .ref qd, .ref qh, .ref qn]))]) (wr := [(qh, .inl (cI, 256, .inl hd)), (qd, .inl (cB, (16 * N), .inl dg)), (o, .inr (0, [.ref aw, .ref ah])), (ah, .inl (cI, 4, .inl h)), (qs, .inl (cI, N, .inl sm)), (qn, .inl (cI, N, .inl nx))]) (As := [.int (-1)]) (n := 1) (st := []) (q0 := 0) X (c_has l D cI cB g qs qd qh qn bs wd nb (-1) (by omega)) rfl rfl ml_X2_41 im_X2_has se_X2_has ini_X2 co_X2_has (by decide +kernel) rfl ⟨Nat.le_of_ble_eq_true rfl, Nat.le_of_ble_eq_true rfl⟩ (⟨by (try dsimp only); omega, by (try dsimp only); omega⟩) (Nat.le_of_ble_eq_true rfl) [4] [0, 1, 2, 3, 5, 6] rfl rfl rfl (by decide) (by decide) (by decide) rfl dX2_find_60 (fun v_60 u_60 hu_60 => ?_)
                obtain ⟨rfl, rfl⟩ := hu_60
                refine k_to (ws' := [(qh, .inl (cI, 256, .inl hd)), (qd, .inl (cB, (16 * N), .inl dg)), (o, .inr (0, [.ref aw, .ref ah])), (ah, .inl (cI, 4, .inl h)), (qs, .inl (cI, N, .inl sm)), (qn, .inl (cI, N, .inl nx)), (g, .inr (2, [.int (nI bs), .int (nI wd), .int (nI nb), .ref qs, .ref qd, .ref qh, .ref qn]))]) (st' := [.int (b2i (decide (rIn (-1) nb)))]) rfl rfl ?_
                refine k_as (y := 0) (b2i_f nI_m1) ?_
                refine k_if_eq (tgt := 99) (xi := (0 : Int)) X (by decide) dX2_find_63 (by decide) (fun c_63 => ?_) (fun c_63 => ?_)
                · refine k_iconst (v := -1) X dX2_find_99 (by decide) ?_
                  exact k_iret (u := [(g, .inr (2, [.int (nI bs), .int (nI wd), .int (nI nb), .ref qs, .ref qd, .ref qh, .ref qn])), (qs, .inl (cI, N, .inl sm)), (qd, .inl (cB, (16 * N), .inl dg)), (qh, .inl (cI, 256, .inl hd)), (qn, .inl (cI, N, .inl nx)), (o, .inr (0, [.ref aw, .ref ah])), (ah, .inl (cI, 4, .inl h))]) X hr [6, 4, 1, 0, 5, 2, 3] (by decide) rfl rfl (⟨by rw [fnd, hnf, if_neg (by decide), hI.2.2.2, cN_none (fun b h1 h2 => pD_of_pS (hno b h1 h2))], rfl⟩) (by (try dsimp only); omega) (by (try dsimp only); omega) dX2_find_100
                · exact absurd c_63 (by decide)
              · obtain rfl : v = nI b := hI.2.2.1.trans e1
                refine k_callV (wc := [(g, .inr (2, [.int (nI bs), .int (nI wd), .int (nI nb), .ref qs, .ref qd, .ref qh, .ref qn]))]) (wr := [(qh, .inl (cI, 256, .inl hd)), (qd, .inl (cB, (16 * N), .inl dg)), (o, .inr (0, [.ref aw, .ref ah])), (ah, .inl (cI, 4, .inl h)), (qs, .inl (cI, N, .inl sm)), (qn, .inl (cI, N, .inl nx))]) (As := [.int (nI b)]) (n := 1) (st := []) (q0 := 0) X (c_has l D cI cB g qs qd qh qn bs wd nb (nI b) (by omega)) rfl rfl ml_X2_41 im_X2_has se_X2_has ini_X2 co_X2_has (by decide +kernel) rfl ⟨Nat.le_of_ble_eq_true rfl, Nat.le_of_ble_eq_true rfl⟩ (⟨by (try dsimp only); omega, by (try dsimp only); omega⟩) (Nat.le_of_ble_eq_true rfl) [4] [0, 1, 2, 3, 5, 6] rfl rfl rfl (by decide) (by decide) (by decide) rfl dX2_find_60 (fun v_60 u_60 hu_60 => ?_)
                obtain ⟨rfl, rfl⟩ := hu_60
                refine k_to (ws' := [(qh, .inl (cI, 256, .inl hd)), (qd, .inl (cB, (16 * N), .inl dg)), (o, .inr (0, [.ref aw, .ref ah])), (ah, .inl (cI, 4, .inl h)), (qs, .inl (cI, N, .inl sm)), (qn, .inl (cI, N, .inl nx)), (g, .inr (2, [.int (nI bs), .int (nI wd), .int (nI nb), .ref qs, .ref qd, .ref qh, .ref qn]))]) (st' := [.int (b2i (decide (rIn (nI b) nb)))]) rfl rfl ?_
                refine k_as (y := 1) (b2i_t (rIn_nI (by omega) (by omega))) ?_
                refine k_if_eq (tgt := 99) (xi := (1 : Int)) X (by decide) dX2_find_63 (by decide) (fun c_63 => ?_) (fun c_63 => ?_)
                · exact absurd c_63 (by decide)
                · refine k_aload_n X dX2_find_66 rfl 0 rfl ?_
                  refine k_iload X dX2_find_67 3 rfl ?_
                  refine k_aload_n X dX2_find_69 rfl 2 rfl ?_
                  refine k_callV (wc := [(g, .inr (2, [.int (nI bs), .int (nI wd), .int (nI nb), .ref qs, .ref qd, .ref qh, .ref qn])), (qd, .inl (cB, (16 * N), .inl dg)), (o, .inr (0, [.ref aw, .ref ah])), (ah, .inl (cI, 4, .inl h))]) (wr := [(qh, .inl (cI, 256, .inl hd)), (qs, .inl (cI, N, .inl sm)), (qn, .inl (cI, N, .inl nx))]) (As := [.int (nI b), .ref o]) (n := 2) (st := []) (q0 := 0) X (c_hasDigest l D cI cB g qs qd qh qn bs wd nb N dg b o aw ah h (hN) (hN2) (hbn) (hwd)) rfl rfl ml_X2_77 im_X2_hasDigest se_X2_hasDigest ini_X2 co_X2_hasDigest (by decide +kernel) rfl ⟨Nat.le_of_ble_eq_true rfl, Nat.le_of_ble_eq_true rfl⟩ (⟨by (try dsimp only); omega, by (try dsimp only); omega⟩) (Nat.le_of_ble_eq_true rfl) [6, 1, 2, 3] [0, 4, 5] rfl rfl rfl (by decide) (by decide) (by decide) rfl dX2_find_70 (fun v_70 u_70 hu_70 => ?_)
                  obtain ⟨rfl, rfl⟩ := hu_70
                  refine k_to (ws' := [(qh, .inl (cI, 256, .inl hd)), (qs, .inl (cI, N, .inl sm)), (qn, .inl (cI, N, .inl nx)), (g, .inr (2, [.int (nI bs), .int (nI wd), .int (nI nb), .ref qs, .ref qd, .ref qh, .ref qn])), (qd, .inl (cB, (16 * N), .inl dg)), (o, .inr (0, [.ref aw, .ref ah])), (ah, .inl (cI, 4, .inl h))]) (st' := [.int (b2i (hB dg h wd b))]) rfl rfl ?_
                  by_cases hd1 : hB dg h wd b = true
                  · refine k_as (y := 1) (by rw [hd1]; rfl) ?_
                    refine k_if_eq (tgt := 79) (xi := (1 : Int)) X (by decide) dX2_find_73 (by decide) (fun c_73 => ?_) (fun c_73 => ?_)
                    · exact absurd c_73 (by decide)
                    · refine k_iload X dX2_find_76 3 rfl ?_
                      exact k_iret (u := [(g, .inr (2, [.int (nI bs), .int (nI wd), .int (nI nb), .ref qs, .ref qd, .ref qh, .ref qn])), (qs, .inl (cI, N, .inl sm)), (qd, .inl (cB, (16 * N), .inl dg)), (qh, .inl (cI, 256, .inl hd)), (qn, .inl (cI, N, .inl nx)), (o, .inr (0, [.ref aw, .ref ah])), (ah, .inl (cI, 4, .inl h))]) X hr [3, 1, 4, 0, 2, 5, 6] (by decide) rfl rfl (⟨by rw [fnd, hnf, if_neg (by decide), hI.2.2.2, cN_is hjb hbn (by unfold pD; rw [show decide (sm b = x) = true from hPb, hd1]; rfl) (fun a h1 h2 => pD_of_pS (hmin a h1 h2))], rfl⟩) (by (try dsimp only); omega) (by (try dsimp only); omega) dX2_find_78
                  · refine k_as (y := 0) (by rw [Bool.eq_false_iff.mpr hd1]; rfl) ?_
                    refine k_if_eq (tgt := 79) (xi := (0 : Int)) X (by decide) dX2_find_73 (by decide) (fun c_73 => ?_) (fun c_73 => ?_)
                    · refine k_aload_n X dX2_find_79 rfl 0 rfl ?_
                      refine k_aload_n X dX2_find_80 rfl 0 rfl ?_
                      refine k_get (v := .ref qn) X 3 2 6 rfl rfl (by decide) fl_X2_29 in_X2 rfl rfl dX2_find_81 ?_
                      refine k_iload X dX2_find_84 3 rfl ?_
                      refine k_iald (v := nx b) X 2 rfl (vp_in_nI (n := b) (by omega) (by omega)) (by rw [nI_clamp (n := b) (by omega)]) dX2_find_86 ?_
                      refine k_iload_n X dX2_find_87 rfl 1 rfl ?_
                      have hsb := of_decide_eq_true hPb
                      refine k_callV (wc := [(g, .inr (2, [.int (nI bs), .int (nI wd), .int (nI nb), .ref qs, .ref qd, .ref qh, .ref qn])), (qs, .inl (cI, N, .inl sm)), (qn, .inl (cI, N, .inl nx))]) (wr := [(qh, .inl (cI, 256, .inl hd)), (qd, .inl (cB, (16 * N), .inl dg)), (o, .inr (0, [.ref aw, .ref ah])), (ah, .inl (cI, 4, .inl h))]) (As := [.int (nx b), .int x]) (n := 2) (st := []) (q0 := 0) X (c_firstInChain l D cI cB g qs qd qh qn bs wd nb N sm hd nx (nx b) x (b + 1) (hN) (hN2) (hch) (by omega) (by rw [hch.2 b hbn, hsb])) rfl rfl ml_X2_74 im_X2_firstInChain se_X2_firstInChain ini_X2 co_X2_firstInChain (by decide +kernel) rfl ⟨Nat.le_of_ble_eq_true rfl, Nat.le_of_ble_eq_true rfl⟩ (⟨by (try dsimp only); omega, by (try dsimp only); omega⟩) (Nat.le_of_ble_eq_true rfl) [3, 1, 2] [0, 4, 5, 6] rfl rfl rfl (by decide) (by decide) (by decide) rfl dX2_find_88 (fun v_88 u_88 hu_88 => ?_)
                      obtain ⟨rfl, rfl⟩ := hu_88
                      refine k_to (ws' := [(qh, .inl (cI, 256, .inl hd)), (qd, .inl (cB, (16 * N), .inl dg)), (o, .inr (0, [.ref aw, .ref ah])), (ah, .inl (cI, 4, .inl h)), (g, .inr (2, [.int (nI bs), .int (nI wd), .int (nI nb), .ref qs, .ref qd, .ref qh, .ref qn])), (qs, .inl (cI, N, .inl sm)), (qn, .inl (cI, N, .inl nx))]) (st' := [.int (cN (pS sm x) nb (b + 1))]) rfl rfl ?_
                      refine k_istore (lv' := [(4, .int (cN (pS sm x) nb (b + 1))), (0, .ref g), (1, .int x), (2, .ref o), (5, .int (nI t))]) X dX2_find_91 (by decide) rfl ?_
                      refine k_iinc (v := nI (t + 1)) (lv' := [(5, .int (nI (t + 1))), (4, .int (cN (pS sm x) nb (b + 1))), (0, .ref g), (1, .int x), (2, .ref o)]) X dX2_find_93 4 rfl (nI_1 _) (by decide) rfl ?_
                      refine k_goto (tgt := 48) X dX2_find_96 (by decide) ?_
                      refine k_lv (lv' := [(0, .ref g), (1, .int x), (2, .ref o), (4, .int (cN (pS sm x) nb (b + 1))), (5, .int (nI (t + 1)))]) [2, 3, 4, 1, 0] rfl ?_
                      refine k_sub (ws' := [(qh, .inl (cI, 256, .inl hd)), (qd, .inl (cB, (16 * N), .inl dg)), (o, .inr (0, [.ref aw, .ref ah])), (ah, .inl (cI, 4, .inl h)), (g, .inr (2, [.int (nI bs), .int (nI wd), .int (nI nb), .ref qs, .ref qd, .ref qh, .ref qn])), (qs, .inl (cI, N, .inl sm)), (qn, .inl (cI, N, .inl nx))]) [0, 1, 2, 3, 4, 5, 6] (by decide) rfl rfl ?_
                      refine k_wide (k := 0) (n := 0) (by (try dsimp only); omega) (by (try dsimp only); omega) ?_
                      exact ih (t + 1) (b + 1) (cN (pS sm x) nb (b + 1)) (⟨by omega, by omega, rfl, hI.2.2.2.trans (pD_skip hjb hbn hmin hd1)⟩) (by omega)
                    · exact absurd c_73 (by decide)
          · exact absurd c_24 (by decide)
  · refine k_aload_n X dX2_find_0 rfl 0 rfl ?_
    refine k_iload_n X dX2_find_1 rfl 3 rfl ?_
    refine k_callV (wc := [(g, .inr (2, [.int (nI bs), .int (nI wd), .int (nI nb), .ref qs, .ref qd, .ref qh, .ref qn]))]) (wr := [(qs, .inl (cI, N, .inl sm)), (qd, .inl (cB, (16 * N), .inl dg)), (qh, .inl (cI, 256, .inl hd)), (qn, .inl (cI, N, .inl nx)), (o, .inr (0, [.ref aw, .ref ah])), (ah, .inl (cI, 4, .inl h))]) (As := [.int fv]) (n := 1) (st := []) (q0 := 0) X (c_has l D cI cB g qs qd qh qn bs wd nb fv (by omega)) rfl rfl ml_X2_41 im_X2_has se_X2_has ini_X2 co_X2_has (by decide +kernel) rfl ⟨Nat.le_of_ble_eq_true rfl, Nat.le_of_ble_eq_true rfl⟩ (⟨by (try dsimp only); omega, by (try dsimp only); omega⟩) (Nat.le_of_ble_eq_true rfl) [0] [1, 2, 3, 4, 5, 6] rfl rfl rfl (by decide) (by decide) (by decide) rfl dX2_find_2 (fun v_2 u_2 hu_2 => ?_)
    obtain ⟨rfl, rfl⟩ := hu_2
    refine k_to (ws' := [(qs, .inl (cI, N, .inl sm)), (qd, .inl (cB, (16 * N), .inl dg)), (qh, .inl (cI, 256, .inl hd)), (qn, .inl (cI, N, .inl nx)), (o, .inr (0, [.ref aw, .ref ah])), (ah, .inl (cI, 4, .inl h)), (g, .inr (2, [.int (nI bs), .int (nI wd), .int (nI nb), .ref qs, .ref qd, .ref qh, .ref qn]))]) (st' := [.int (b2i (decide (rIn fv nb)))]) rfl rfl ?_
    refine k_as (y := 0) (b2i_f hfv) ?_
    refine k_if_eq (tgt := 29) (xi := (0 : Int)) X (by decide) dX2_find_5 (by decide) (fun c_5 => ?_) (fun c_5 => ?_)
    · have hnf : fOk sm dg h nb wd x fv = false := by unfold fOk; rw [decide_eq_false hfv, Bool.false_and]
      refine k_aload_n X dX2_find_29 rfl 0 rfl ?_
      refine k_aload_n X dX2_find_30 rfl 0 rfl ?_
      refine k_get (v := .ref qh) X 6 2 5 rfl rfl (by decide) fl_X2_32 in_X2 rfl rfl dX2_find_31 ?_
      refine k_iload_n X dX2_find_34 rfl 1 rfl ?_
      refine k_callS (wc := []) (wr := [(qs, .inl (cI, N, .inl sm)), (qd, .inl (cB, (16 * N), .inl dg)), (qh, .inl (cI, 256, .inl hd)), (qn, .inl (cI, N, .inl nx)), (o, .inr (0, [.ref aw, .ref ah])), (ah, .inl (cI, 4, .inl h)), (g, .inr (2, [.int (nI bs), .int (nI wd), .int (nI nb), .ref qs, .ref qd, .ref qh, .ref qn]))]) (As := [.int x]) (n := 1) (st := [.ref qh, .ref g]) X (c_chainOf l D cI cB x ) ml_X2_71 sm_X2_chainOf ini_X2 co_X2_chainOf (by decide +kernel) rfl ⟨Nat.le_of_ble_eq_true rfl, Nat.le_of_ble_eq_true rfl⟩ (⟨by (try dsimp only); omega, by (try dsimp only); omega⟩) (Nat.le_of_ble_eq_true rfl) [] [0, 1, 2, 3, 4, 5, 6] rfl rfl rfl (by decide) (by decide) (by decide) rfl dX2_find_35 (fun v_35 u_35 hu_35 => ?_)
      obtain ⟨rfl, rfl⟩ := hu_35
      refine k_to (ws' := [(qs, .inl (cI, N, .inl sm)), (qd, .inl (cB, (16 * N), .inl dg)), (qh, .inl (cI, 256, .inl hd)), (qn, .inl (cI, N, .inl nx)), (o, .inr (0, [.ref aw, .ref ah])), (ah, .inl (cI, 4, .inl h)), (g, .inr (2, [.int (nI bs), .int (nI wd), .int (nI nb), .ref qs, .ref qd, .ref qh, .ref qn]))]) (st' := [.int (nI (chO x)), .ref qh, .ref g]) rfl rfl ?_
      have hco := chO_lt x
      refine k_iald (v := hd (chO x)) X 2 rfl (vp_in_nI (n := chO x) (chO_lt x) (by omega)) (by rw [nI_clamp (n := chO x) (by omega)]) dX2_find_38 ?_
      refine k_iload_n X dX2_find_39 rfl 1 rfl ?_
      refine k_callV (wc := [(g, .inr (2, [.int (nI bs), .int (nI wd), .int (nI nb), .ref qs, .ref qd, .ref qh, .ref qn])), (qs, .inl (cI, N, .inl sm)), (qn, .inl (cI, N, .inl nx))]) (wr := [(qd, .inl (cB, (16 * N), .inl dg)), (qh, .inl (cI, 256, .inl hd)), (o, .inr (0, [.ref aw, .ref ah])), (ah, .inl (cI, 4, .inl h))]) (As := [.int (hd (chO x)), .int x]) (n := 2) (st := []) (q0 := 0) X (c_firstInChain l D cI cB g qs qd qh qn bs wd nb N sm hd nx (hd (chO x)) x 0 (hN) (hN2) (hch) (Nat.zero_le _) (hch.1 _ (chO_lt x))) rfl rfl ml_X2_74 im_X2_firstInChain se_X2_firstInChain ini_X2 co_X2_firstInChain (by decide +kernel) rfl ⟨Nat.le_of_ble_eq_true rfl, Nat.le_of_ble_eq_true rfl⟩ (⟨by (try dsimp only); omega, by (try dsimp only); omega⟩) (Nat.le_of_ble_eq_true rfl) [6, 0, 3] [1, 2, 4, 5] rfl rfl rfl (by decide) (by decide) (by decide) rfl dX2_find_40 (fun v_40 u_40 hu_40 => ?_)
      obtain ⟨rfl, rfl⟩ := hu_40
      refine k_to (ws' := [(qd, .inl (cB, (16 * N), .inl dg)), (qh, .inl (cI, 256, .inl hd)), (o, .inr (0, [.ref aw, .ref ah])), (ah, .inl (cI, 4, .inl h)), (g, .inr (2, [.int (nI bs), .int (nI wd), .int (nI nb), .ref qs, .ref qd, .ref qh, .ref qn])), (qs, .inl (cI, N, .inl sm)), (qn, .inl (cI, N, .inl nx))]) (st' := [.int (cN (pS sm x) nb 0)]) rfl rfl ?_
      refine k_istore (lv' := [(4, .int (cN (pS sm x) nb 0)), (0, .ref g), (1, .int x), (2, .ref o), (3, .int fv)]) X dX2_find_43 (by decide) rfl ?_
      refine k_iconst (v := 0) X dX2_find_45 (by decide) ?_
      refine k_istore (lv' := [(5, .int 0), (4, .int (cN (pS sm x) nb 0)), (0, .ref g), (1, .int x), (2, .ref o), (3, .int fv)]) X dX2_find_46 (by decide) rfl ?_
      refine k_lv (lv' := [(0, .ref g), (1, .int x), (2, .ref o), (4, .int (cN (pS sm x) nb 0)), (5, .int (nI 0))]) [2, 3, 4, 1, 0] rfl ?_
      refine k_wide (k := 0) (n := 0) (by (try dsimp only); omega) (by (try dsimp only); omega) ?_
      refine k_loop3 (pc1 := 48) (cl := fun (t : Nat) (j : Nat) (v : Int32) => 0) (sl := fun (t : Nat) (j : Nat) (v : Int32) => 0) (wsf := fun (t : Nat) (j : Nat) (v : Int32) => [(qd, .inl (cB, (16 * N), .inl dg)), (qh, .inl (cI, 256, .inl hd)), (o, .inr (0, [.ref aw, .ref ah])), (ah, .inl (cI, 4, .inl h)), (g, .inr (2, [.int (nI bs), .int (nI wd), .int (nI nb), .ref qs, .ref qd, .ref qh, .ref qn])), (qs, .inl (cI, N, .inl sm)), (qn, .inl (cI, N, .inl nx))]) (lvf := fun (t : Nat) (j : Nat) (v : Int32) => [(0, .ref g), (1, .int x), (2, .ref o), (4, .int v), (5, .int (nI t))]) (stf := fun (t : Nat) (j : Nat) (v : Int32) => []) (I := fun (t : Nat) (j : Nat) (v : Int32) => t ≤ j ∧ j ≤ nb ∧ v = cN (pS sm x) nb j ∧ cN (pD sm dg h wd x) nb 0 = cN (pD sm dg h wd x) nb j) (mu := fun (t : Nat) (j : Nat) (v : Int32) => nb - j) ?_ 0 0 (cN (pS sm x) nb 0) (⟨Nat.le_refl _, Nat.zero_le _, rfl, rfl⟩)
      intro t j v hI ih
      try dsimp only at hI ih
      try dsimp only
      have h0 := hI.1; have h1 := hI.2.1
      refine k_iload X dX2_find_48 4 rfl ?_
      refine k_aload_n X dX2_find_50 rfl 0 rfl ?_
      refine k_get (v := .int (nI nb)) X 4 2 2 rfl rfl (by decide) fl_X2_18 in_X2 rfl rfl dX2_find_51 ?_
      refine k_icmp_ge (tgt := 99) (xi := ((t : Nat) : Int)) (yi := ((nb : Nat) : Int)) X (nI_toInt (by omega)) (nI_toInt (by omega)) dX2_find_54 (by decide) (fun c_54 => ?_) (fun c_54 => ?_)
      · refine k_iconst (v := -1) X dX2_find_99 (by decide) ?_
        exact k_iret (u := [(g, .inr (2, [.int (nI bs), .int (nI wd), .int (nI nb), .ref qs, .ref qd, .ref qh, .ref qn])), (qs, .inl (cI, N, .inl sm)), (qd, .inl (cB, (16 * N), .inl dg)), (qh, .inl (cI, 256, .inl hd)), (qn, .inl (cI, N, .inl nx)), (o, .inr (0, [.ref aw, .ref ah])), (ah, .inl (cI, 4, .inl h))]) X hr [4, 5, 0, 1, 6, 2, 3] (by decide) rfl rfl (⟨by rw [fnd, hnf, if_neg (by decide), hI.2.2.2, cN_ge (by omega)], rfl⟩) (by (try dsimp only); omega) (by (try dsimp only); omega) dX2_find_100
      · refine k_aload_n X dX2_find_57 rfl 0 rfl ?_
        refine k_iload X dX2_find_58 3 rfl ?_
        rcases cN_cases (pS sm x) nb j with ⟨e1, hno⟩ | ⟨b, hjb, hbn, hPb, hmin, e1⟩
        · obtain rfl : v = -1 := hI.2.2.1.trans e1
          refine k_callV (wc := [(g, .inr (2, [.int (nI bs), .int (nI wd), .int (nI nb), .ref qs, .ref qd, .ref qh, .ref qn]))]) (wr := [(qd, .inl (cB, (16 * N), .inl dg)), (qh, .inl (cI, 256, .inl hd)), (o, .inr (0, [.ref aw, .ref ah])), (ah, .inl (cI, 4, .inl h)), (qs, .inl (cI, N, .inl sm)), (qn, .inl (cI, N, .inl nx))]) (As := [.int (-1)]) (n := 1) (st := []) (q0 := 0) X (c_has l D cI cB g qs qd qh qn bs wd nb (-1) (by omega)) rfl rfl ml_X2_41 im_X2_has se_X2_has ini_X2 co_X2_has (by decide +kernel) rfl ⟨Nat.le_of_ble_eq_true rfl, Nat.le_of_ble_eq_true rfl⟩ (⟨by (try dsimp only); omega, by (try dsimp only); omega⟩) (Nat.le_of_ble_eq_true rfl) [4] [0, 1, 2, 3, 5, 6] rfl rfl rfl (by decide) (by decide) (by decide) rfl dX2_find_60 (fun v_60 u_60 hu_60 => ?_)
          obtain ⟨rfl, rfl⟩ := hu_60
          refine k_to (ws' := [(qd, .inl (cB, (16 * N), .inl dg)), (qh, .inl (cI, 256, .inl hd)), (o, .inr (0, [.ref aw, .ref ah])), (ah, .inl (cI, 4, .inl h)), (qs, .inl (cI, N, .inl sm)), (qn, .inl (cI, N, .inl nx)), (g, .inr (2, [.int (nI bs), .int (nI wd), .int (nI nb), .ref qs, .ref qd, .ref qh, .ref qn]))]) (st' := [.int (b2i (decide (rIn (-1) nb)))]) rfl rfl ?_
          refine k_as (y := 0) (b2i_f nI_m1) ?_
          refine k_if_eq (tgt := 99) (xi := (0 : Int)) X (by decide) dX2_find_63 (by decide) (fun c_63 => ?_) (fun c_63 => ?_)
          · refine k_iconst (v := -1) X dX2_find_99 (by decide) ?_
            exact k_iret (u := [(g, .inr (2, [.int (nI bs), .int (nI wd), .int (nI nb), .ref qs, .ref qd, .ref qh, .ref qn])), (qs, .inl (cI, N, .inl sm)), (qd, .inl (cB, (16 * N), .inl dg)), (qh, .inl (cI, 256, .inl hd)), (qn, .inl (cI, N, .inl nx)), (o, .inr (0, [.ref aw, .ref ah])), (ah, .inl (cI, 4, .inl h))]) X hr [6, 4, 0, 1, 5, 2, 3] (by decide) rfl rfl (⟨by rw [fnd, hnf, if_neg (by decide), hI.2.2.2, cN_none (fun b h1 h2 => pD_of_pS (hno b h1 h2))], rfl⟩) (by (try dsimp only); omega) (by (try dsimp only); omega) dX2_find_100
          · exact absurd c_63 (by decide)
        · obtain rfl : v = nI b := hI.2.2.1.trans e1
          refine k_callV (wc := [(g, .inr (2, [.int (nI bs), .int (nI wd), .int (nI nb), .ref qs, .ref qd, .ref qh, .ref qn]))]) (wr := [(qd, .inl (cB, (16 * N), .inl dg)), (qh, .inl (cI, 256, .inl hd)), (o, .inr (0, [.ref aw, .ref ah])), (ah, .inl (cI, 4, .inl h)), (qs, .inl (cI, N, .inl sm)), (qn, .inl (cI, N, .inl nx))]) (As := [.int (nI b)]) (n := 1) (st := []) (q0 := 0) X (c_has l D cI cB g qs qd qh qn bs wd nb (nI b) (by omega)) rfl rfl ml_X2_41 im_X2_has se_X2_has ini_X2 co_X2_has (by decide +kernel) rfl ⟨Nat.le_of_ble_eq_true rfl, Nat.le_of_ble_eq_true rfl⟩ (⟨by (try dsimp only); omega, by (try dsimp only); omega⟩) (Nat.le_of_ble_eq_true rfl) [4] [0, 1, 2, 3, 5, 6] rfl rfl rfl (by decide) (by decide) (by decide) rfl dX2_find_60 (fun v_60 u_60 hu_60 => ?_)
          obtain ⟨rfl, rfl⟩ := hu_60
          refine k_to (ws' := [(qd, .inl (cB, (16 * N), .inl dg)), (qh, .inl (cI, 256, .inl hd)), (o, .inr (0, [.ref aw, .ref ah])), (ah, .inl (cI, 4, .inl h)), (qs, .inl (cI, N, .inl sm)), (qn, .inl (cI, N, .inl nx)), (g, .inr (2, [.int (nI bs), .int (nI wd), .int (nI nb), .ref qs, .ref qd, .ref qh, .ref qn]))]) (st' := [.int (b2i (decide (rIn (nI b) nb)))]) rfl rfl ?_
          refine k_as (y := 1) (b2i_t (rIn_nI (by omega) (by omega))) ?_
          refine k_if_eq (tgt := 99) (xi := (1 : Int)) X (by decide) dX2_find_63 (by decide) (fun c_63 => ?_) (fun c_63 => ?_)
          · exact absurd c_63 (by decide)
          · refine k_aload_n X dX2_find_66 rfl 0 rfl ?_
            refine k_iload X dX2_find_67 3 rfl ?_
            refine k_aload_n X dX2_find_69 rfl 2 rfl ?_
            refine k_callV (wc := [(g, .inr (2, [.int (nI bs), .int (nI wd), .int (nI nb), .ref qs, .ref qd, .ref qh, .ref qn])), (qd, .inl (cB, (16 * N), .inl dg)), (o, .inr (0, [.ref aw, .ref ah])), (ah, .inl (cI, 4, .inl h))]) (wr := [(qh, .inl (cI, 256, .inl hd)), (qs, .inl (cI, N, .inl sm)), (qn, .inl (cI, N, .inl nx))]) (As := [.int (nI b), .ref o]) (n := 2) (st := []) (q0 := 0) X (c_hasDigest l D cI cB g qs qd qh qn bs wd nb N dg b o aw ah h (hN) (hN2) (hbn) (hwd)) rfl rfl ml_X2_77 im_X2_hasDigest se_X2_hasDigest ini_X2 co_X2_hasDigest (by decide +kernel) rfl ⟨Nat.le_of_ble_eq_true rfl, Nat.le_of_ble_eq_true rfl⟩ (⟨by (try dsimp only); omega, by (try dsimp only); omega⟩) (Nat.le_of_ble_eq_true rfl) [6, 0, 2, 3] [1, 4, 5] rfl rfl rfl (by decide) (by decide) (by decide) rfl dX2_find_70 (fun v_70 u_70 hu_70 => ?_)
            obtain ⟨rfl, rfl⟩ := hu_70
            refine k_to (ws' := [(qh, .inl (cI, 256, .inl hd)), (qs, .inl (cI, N, .inl sm)), (qn, .inl (cI, N, .inl nx)), (g, .inr (2, [.int (nI bs), .int (nI wd), .int (nI nb), .ref qs, .ref qd, .ref qh, .ref qn])), (qd, .inl (cB, (16 * N), .inl dg)), (o, .inr (0, [.ref aw, .ref ah])), (ah, .inl (cI, 4, .inl h))]) (st' := [.int (b2i (hB dg h wd b))]) rfl rfl ?_
            by_cases hd1 : hB dg h wd b = true
            · refine k_as (y := 1) (by rw [hd1]; rfl) ?_
              refine k_if_eq (tgt := 79) (xi := (1 : Int)) X (by decide) dX2_find_73 (by decide) (fun c_73 => ?_) (fun c_73 => ?_)
              · exact absurd c_73 (by decide)
              · refine k_iload X dX2_find_76 3 rfl ?_
                exact k_iret (u := [(g, .inr (2, [.int (nI bs), .int (nI wd), .int (nI nb), .ref qs, .ref qd, .ref qh, .ref qn])), (qs, .inl (cI, N, .inl sm)), (qd, .inl (cB, (16 * N), .inl dg)), (qh, .inl (cI, 256, .inl hd)), (qn, .inl (cI, N, .inl nx)), (o, .inr (0, [.ref aw, .ref ah])), (ah, .inl (cI, 4, .inl h))]) X hr [3, 1, 4, 0, 2, 5, 6] (by decide) rfl rfl (⟨by rw [fnd, hnf, if_neg (by decide), hI.2.2.2, cN_is hjb hbn (by unfold pD; rw [show decide (sm b = x) = true from hPb, hd1]; rfl) (fun a h1 h2 => pD_of_pS (hmin a h1 h2))], rfl⟩) (by (try dsimp only); omega) (by (try dsimp only); omega) dX2_find_78
            · refine k_as (y := 0) (by rw [Bool.eq_false_iff.mpr hd1]; rfl) ?_
              refine k_if_eq (tgt := 79) (xi := (0 : Int)) X (by decide) dX2_find_73 (by decide) (fun c_73 => ?_) (fun c_73 => ?_)
              · refine k_aload_n X dX2_find_79 rfl 0 rfl ?_
                refine k_aload_n X dX2_find_80 rfl 0 rfl ?_
                refine k_get (v := .ref qn) X 3 2 6 rfl rfl (by decide) fl_X2_29 in_X2 rfl rfl dX2_find_81 ?_
                refine k_iload X dX2_find_84 3 rfl ?_
                refine k_iald (v := nx b) X 2 rfl (vp_in_nI (n := b) (by omega) (by omega)) (by rw [nI_clamp (n := b) (by omega)]) dX2_find_86 ?_
                refine k_iload_n X dX2_find_87 rfl 1 rfl ?_
                have hsb := of_decide_eq_true hPb
                refine k_callV (wc := [(g, .inr (2, [.int (nI bs), .int (nI wd), .int (nI nb), .ref qs, .ref qd, .ref qh, .ref qn])), (qs, .inl (cI, N, .inl sm)), (qn, .inl (cI, N, .inl nx))]) (wr := [(qh, .inl (cI, 256, .inl hd)), (qd, .inl (cB, (16 * N), .inl dg)), (o, .inr (0, [.ref aw, .ref ah])), (ah, .inl (cI, 4, .inl h))]) (As := [.int (nx b), .int x]) (n := 2) (st := []) (q0 := 0) X (c_firstInChain l D cI cB g qs qd qh qn bs wd nb N sm hd nx (nx b) x (b + 1) (hN) (hN2) (hch) (by omega) (by rw [hch.2 b hbn, hsb])) rfl rfl ml_X2_74 im_X2_firstInChain se_X2_firstInChain ini_X2 co_X2_firstInChain (by decide +kernel) rfl ⟨Nat.le_of_ble_eq_true rfl, Nat.le_of_ble_eq_true rfl⟩ (⟨by (try dsimp only); omega, by (try dsimp only); omega⟩) (Nat.le_of_ble_eq_true rfl) [3, 1, 2] [0, 4, 5, 6] rfl rfl rfl (by decide) (by decide) (by decide) rfl dX2_find_88 (fun v_88 u_88 hu_88 => ?_)
                obtain ⟨rfl, rfl⟩ := hu_88
                refine k_to (ws' := [(qh, .inl (cI, 256, .inl hd)), (qd, .inl (cB, (16 * N), .inl dg)), (o, .inr (0, [.ref aw, .ref ah])), (ah, .inl (cI, 4, .inl h)), (g, .inr (2, [.int (nI bs), .int (nI wd), .int (nI nb), .ref qs, .ref qd, .ref qh, .ref qn])), (qs, .inl (cI, N, .inl sm)), (qn, .inl (cI, N, .inl nx))]) (st' := [.int (cN (pS sm x) nb (b + 1))]) rfl rfl ?_
                refine k_istore (lv' := [(4, .int (cN (pS sm x) nb (b + 1))), (0, .ref g), (1, .int x), (2, .ref o), (5, .int (nI t))]) X dX2_find_91 (by decide) rfl ?_
                refine k_iinc (v := nI (t + 1)) (lv' := [(5, .int (nI (t + 1))), (4, .int (cN (pS sm x) nb (b + 1))), (0, .ref g), (1, .int x), (2, .ref o)]) X dX2_find_93 4 rfl (nI_1 _) (by decide) rfl ?_
                refine k_goto (tgt := 48) X dX2_find_96 (by decide) ?_
                refine k_lv (lv' := [(0, .ref g), (1, .int x), (2, .ref o), (4, .int (cN (pS sm x) nb (b + 1))), (5, .int (nI (t + 1)))]) [2, 3, 4, 1, 0] rfl ?_
                refine k_sub (ws' := [(qd, .inl (cB, (16 * N), .inl dg)), (qh, .inl (cI, 256, .inl hd)), (o, .inr (0, [.ref aw, .ref ah])), (ah, .inl (cI, 4, .inl h)), (g, .inr (2, [.int (nI bs), .int (nI wd), .int (nI nb), .ref qs, .ref qd, .ref qh, .ref qn])), (qs, .inl (cI, N, .inl sm)), (qn, .inl (cI, N, .inl nx))]) [1, 0, 2, 3, 4, 5, 6] (by decide) rfl rfl ?_
                refine k_wide (k := 0) (n := 0) (by (try dsimp only); omega) (by (try dsimp only); omega) ?_
                exact ih (t + 1) (b + 1) (cN (pS sm x) nb (b + 1)) (⟨by omega, by omega, rfl, hI.2.2.2.trans (pD_skip hjb hbn hmin hd1)⟩) (by omega)
              · exact absurd c_73 (by decide)
    · exact absurd c_5 (by decide)
end
section
theorem n_mulc (a b : Nat) : nI a * nI b = nI (b * a) := by rw [Nat.mul_comm]; exact pk_mul a b
theorem blk_fit {k bs b : Nat} (h : b < k / bs) : bs * b + bs ≤ k := by
  have h1 : bs * (b + 1) ≤ bs * (k / bs) := Nat.mul_le_mul_left bs h
  have h2 : bs * (k / bs) ≤ k := Nat.mul_div_le k bs
  rw [Nat.mul_add, Nat.mul_one] at h1
  omega
theorem chain_step {sm hd nx : Nat → Int32} {nb b : Nat} (hb : b < nb) (h1 : ∀ c, c < 256 → hd c = cN (pC sm c) nb (b + 1)) (h2 : ∀ a, b + 1 ≤ a → a < nb → nx a = cN (pC sm (chO (sm a))) nb (a + 1)) :
    (∀ c, c < 256 → upd hd (chO (sm b)) (nI b) c = cN (pC sm c) nb b) ∧ ∀ a, b ≤ a → a < nb → upd nx b (hd (chO (sm b))) a = cN (pC sm (chO (sm a))) nb (a + 1) := by
  refine ⟨fun c hc => ?_, fun a ha hn => ?_⟩
  · by_cases e : c = chO (sm b)
    · rw [e, pk_us, cN_t hb (decide_eq_true rfl)]
    · rw [pk_un e, h1 c hc, cN_s hb (decide_eq_false (fun z => e z.symm))]
  · by_cases e : a = b
    · rw [e, pk_us, h1 _ (chO_lt _)]
    · rw [pk_un e, h2 a (by omega) hn]
def sx (z : Int32) : Int32 := z.toInt8.toInt32
theorem dByte_congr {h h' : Nat → Int32} (hh : ∀ j, j < 4 → h j = h' j) {k : Nat} (hk : k < 16) : dByte h k = dByte h' k := by
  unfold dByte
  rw [hh (k / 4) (by omega)]
abbrev kSums (f sm : Nat → Int32) (bs n : Nat) : Prop := ∀ b, b < n → sm b = sSum f (bs * b) bs
abbrev kDigs (f dg : Nat → Int32) (bs n : Nat) : Prop := ∀ b, b < n → ∀ k, k < 16 → dg (16 * b + k) = sx (dByte (mDig f (bs * b) bs) k)
theorem digs_step {f dg : Nat → Int32} {bs b kk : Nat} {v : Int32} (h1 : kDigs f dg bs b) (h2 : ∀ j, j < kk → dg (16 * b + j) = sx (dByte (mDig f (bs * b) bs) j)) (hkk : kk < 16) (hv : v = sx (dByte (mDig f (bs * b) bs) kk)) :
    kDigs f (upd dg (16 * b + kk) v) bs b ∧ ∀ j, j < kk + 1 → upd dg (16 * b + kk) v (16 * b + j) = sx (dByte (mDig f (bs * b) bs) j) := by
  refine ⟨fun c hc k hk => ?_, fun j hj => ?_⟩
  · rw [pk_un (by omega), h1 c hc k hk]
  · by_cases e : j = kk
    · rw [e, pk_us, hv]
    · rw [pk_un (by omega), h2 j (by omega)]
set_option maxHeartbeats 4000000 in
set_option maxRecDepth 100000 in
theorem c_chainBlocks (l : Launch) (D : va_G) (cI cB : ClassId) (g : Nat) (qs : Nat) (qd : Nat) (qh : Nat) (qn : Nat) (bs : Nat) (wd : Nat) (nb : Nat) (N : Nat) (sm : Nat → Int32) (hd : Nat → Int32) (nx : Nat → Int32) (hN : nb ≤ N) (hN2 : N ≤ 2000) : kC l yX2_chainBlocks cX2_chainBlocks 3 none 1 23 (0) (0) D cI cB [.ref g] [(g, .inr (2, [.int (nI bs), .int (nI wd), .int (nI nb), .ref qs, .ref qd, .ref qh, .ref qn])), (qs, .inl (cI, N, .inl sm)), (qh, .inl (cI, 256, .inl hd)), (qn, .inl (cI, N, .inl nx))] (fun (v : Option Value) (u : va_W) => ∃ (h2 : Nat → Int32) (n2 : Nat → Int32), v = none ∧ u = [(g, .inr (2, [.int (nI bs), .int (nI wd), .int (nI nb), .ref qs, .ref qd, .ref qh, .ref qn])), (qs, .inl (cI, N, .inl sm)), (qh, .inl (cI, 256, .inl h2)), (qn, .inl (cI, N, .inl n2))] ∧ (kChain nb sm h2 n2)) := by
  refine k_entry (lv0 := [(0, .ref g)]) (by decide) (Nat.le_of_ble_eq_true rfl) rfl ?_
  intro zp ze zs zm zb zt zc zA X hr hin
  refine k_aload_n X dX2_chainBlocks_0 rfl 0 rfl ?_
  refine k_get (v := .ref qh) X 0 2 5 rfl rfl (by decide) fl_X2_32 in_X2 rfl rfl dX2_chainBlocks_1 ?_
  refine k_iconst (v := -1) X dX2_chainBlocks_4 (by decide) ?_
  refine k_callS (wc := [(qh, .inl (cI, 256, .inl hd))]) (wr := [(g, .inr (2, [.int (nI bs), .int (nI wd), .int (nI nb), .ref qs, .ref qd, .ref qh, .ref qn])), (qs, .inl (cI, N, .inl sm)), (qn, .inl (cI, N, .inl nx))]) (As := [.ref qh, .int (-1)]) (n := 2) (st := []) X (c_fill l D cI cB qh 256 hd (-1) (by omega)) ml_X2_35 sm_J7_fill_53178 ini_J7 co_J7_fill_53178 (by decide +kernel) rfl ⟨Nat.le_of_ble_eq_true rfl, Nat.le_of_ble_eq_true rfl⟩ (⟨by (try dsimp only); omega, by (try dsimp only); omega⟩) (Nat.le_of_ble_eq_true rfl) [2] [0, 1, 3] rfl rfl rfl (by decide) (by decide) (by decide) rfl dX2_chainBlocks_5 (fun v_5 u_5 hu_5 => ?_)
  obtain ⟨g0, rfl, rfl, hg0⟩ := hu_5
  refine k_to (ws' := [(g, .inr (2, [.int (nI bs), .int (nI wd), .int (nI nb), .ref qs, .ref qd, .ref qh, .ref qn])), (qs, .inl (cI, N, .inl sm)), (qn, .inl (cI, N, .inl nx)), (qh, .inl (cI, 256, .inl g0))]) (st' := []) rfl rfl ?_
  refine k_aload_n X dX2_chainBlocks_8 rfl 0 rfl ?_
  refine k_get (v := .int (nI nb)) X 0 2 2 rfl rfl (by decide) fl_X2_18 in_X2 rfl rfl dX2_chainBlocks_9 ?_
  refine k_iconst (v := 1) X dX2_chainBlocks_12 (by decide) ?_
  refine k_isub X dX2_chainBlocks_13 ?_
  refine k_istore_n (lv' := [(1, .int ((nI nb) - 1)), (0, .ref g)]) X dX2_chainBlocks_14 rfl (by decide) rfl ?_
  refine k_lv (lv' := [(0, .ref g), (1, .int (nI nb - 1))]) [1, 0] rfl ?_
  refine k_sub (ws' := [(g, .inr (2, [.int (nI bs), .int (nI wd), .int (nI nb), .ref qs, .ref qd, .ref qh, .ref qn])), (qs, .inl (cI, N, .inl sm)), (qh, .inl (cI, 256, .inl g0)), (qn, .inl (cI, N, .inl nx))]) [0, 1, 3, 2] (by decide) rfl rfl ?_
  refine k_wide (k := 0) (n := 0) (by (try dsimp only); omega) (by (try dsimp only); omega) ?_
  refine k_loop3 (pc1 := 15) (cl := fun (i : Nat) (h1 : Nat → Int32) (n1 : Nat → Int32) => 0) (sl := fun (i : Nat) (h1 : Nat → Int32) (n1 : Nat → Int32) => 0) (wsf := fun (i : Nat) (h1 : Nat → Int32) (n1 : Nat → Int32) => [(g, .inr (2, [.int (nI bs), .int (nI wd), .int (nI nb), .ref qs, .ref qd, .ref qh, .ref qn])), (qs, .inl (cI, N, .inl sm)), (qh, .inl (cI, 256, .inl h1)), (qn, .inl (cI, N, .inl n1))]) (lvf := fun (i : Nat) (h1 : Nat → Int32) (n1 : Nat → Int32) => [(0, .ref g), (1, .int (nI i - 1))]) (stf := fun (i : Nat) (h1 : Nat → Int32) (n1 : Nat → Int32) => []) (I := fun (i : Nat) (h1 : Nat → Int32) (n1 : Nat → Int32) => i ≤ nb ∧ (∀ c, c < 256 → h1 c = cN (pC sm c) nb i) ∧ ∀ a, i ≤ a → a < nb → n1 a = cN (pC sm (chO (sm a))) nb (a + 1)) (mu := fun (i : Nat) (h1 : Nat → Int32) (n1 : Nat → Int32) => i) ?_ nb g0 nx (⟨Nat.le_refl _, fun c hc => by rw [hg0 c hc, cN_ge (Nat.le_refl _)], fun a h1 h2 => absurd h2 (by omega)⟩)
  intro i h1 n1 hI ih
  try dsimp only at hI ih
  try dsimp only
  have hi := hI.1
  refine k_iload_n X dX2_chainBlocks_15 rfl 1 rfl ?_
  refine k_if_lt (tgt := 54) (xi := ((i : Nat) : Int) - 1) X (pk_sub_toInt (a := i) (b := 1) (by omega) (by omega)) dX2_chainBlocks_16 (by decide) (fun c_16 => ?_) (fun c_16 => ?_)
  · exact k_vret (u := [(g, .inr (2, [.int (nI bs), .int (nI wd), .int (nI nb), .ref qs, .ref qd, .ref qh, .ref qn])), (qs, .inl (cI, N, .inl sm)), (qh, .inl (cI, 256, .inl h1)), (qn, .inl (cI, N, .inl n1))]) X hr [0, 1, 2, 3] (by decide) rfl rfl (⟨h1, n1, rfl, rfl, fun c hc => by rw [hI.2.1 c hc, show i = 0 by omega], fun b hb => hI.2.2 b (by omega) hb⟩) (by (try dsimp only); omega) (by (try dsimp only); omega) dX2_chainBlocks_54
  · obtain ⟨b, rfl⟩ : ∃ b, i = b + 1 := ⟨i - 1, by omega⟩
    rw [nI_pred b]
    refine k_aload_n X dX2_chainBlocks_19 rfl 0 rfl ?_
    refine k_get (v := .ref qs) X 0 2 3 rfl rfl (by decide) fl_X2_21 in_X2 rfl rfl dX2_chainBlocks_20 ?_
    refine k_iload_n X dX2_chainBlocks_23 rfl 1 rfl ?_
    refine k_iald (v := sm b) X 1 rfl (vp_in_nI (n := b) (by omega) (by omega)) (by rw [nI_clamp (n := b) (by omega)]) dX2_chainBlocks_24 ?_
    refine k_callS (wc := []) (wr := [(g, .inr (2, [.int (nI bs), .int (nI wd), .int (nI nb), .ref qs, .ref qd, .ref qh, .ref qn])), (qs, .inl (cI, N, .inl sm)), (qh, .inl (cI, 256, .inl h1)), (qn, .inl (cI, N, .inl n1))]) (As := [.int (sm b)]) (n := 1) (st := []) X (c_chainOf l D cI cB (sm b) ) ml_X2_71 sm_X2_chainOf ini_X2 co_X2_chainOf (by decide +kernel) rfl ⟨Nat.le_of_ble_eq_true rfl, Nat.le_of_ble_eq_true rfl⟩ (⟨by (try dsimp only); omega, by (try dsimp only); omega⟩) (Nat.le_of_ble_eq_true rfl) [] [0, 1, 2, 3] rfl rfl rfl (by decide) (by decide) (by decide) rfl dX2_chainBlocks_25 (fun v_25 u_25 hu_25 => ?_)
    obtain ⟨rfl, rfl⟩ := hu_25
    refine k_to (ws' := [(g, .inr (2, [.int (nI bs), .int (nI wd), .int (nI nb), .ref qs, .ref qd, .ref qh, .ref qn])), (qs, .inl (cI, N, .inl sm)), (qh, .inl (cI, 256, .inl h1)), (qn, .inl (cI, N, .inl n1))]) (st' := [.int (nI (chO (sm b)))]) rfl rfl ?_
    have hco := chO_lt (sm b)
    refine k_istore_n (lv' := [(2, .int (nI (chO (sm b)))), (0, .ref g), (1, .int (nI b))]) X dX2_chainBlocks_28 rfl (by decide) rfl ?_
    refine k_aload_n X dX2_chainBlocks_29 rfl 1 rfl ?_
    refine k_get (v := .ref qn) X 0 2 6 rfl rfl (by decide) fl_X2_29 in_X2 rfl rfl dX2_chainBlocks_30 ?_
    refine k_iload_n X dX2_chainBlocks_33 rfl 2 rfl ?_
    refine k_aload_n X dX2_chainBlocks_34 rfl 1 rfl ?_
    refine k_get (v := .ref qh) X 0 2 5 rfl rfl (by decide) fl_X2_32 in_X2 rfl rfl dX2_chainBlocks_35 ?_
    refine k_iload_n X dX2_chainBlocks_38 rfl 0 rfl ?_
    refine k_iald (v := h1 (chO (sm b))) X 2 rfl (vp_in_nI (n := chO (sm b)) (hco) (by omega)) (by rw [nI_clamp (n := chO (sm b)) (by omega)]) dX2_chainBlocks_39 ?_
    refine k_iast (f' := upd n1 b (h1 (chO (sm b)))) (ws' := [(g, .inr (2, [.int (nI bs), .int (nI wd), .int (nI nb), .ref qs, .ref qd, .ref qh, .ref qn])), (qs, .inl (cI, N, .inl sm)), (qh, .inl (cI, 256, .inl h1)), (qn, .inl (cI, N, .inl (upd n1 b (h1 (chO (sm b))))))]) X 3 rfl (vp_in_nI (n := b) (by omega) (by omega)) (by rw [nI_clamp (n := b) (by omega)]) rfl dX2_chainBlocks_40 ?_
    refine k_aload_n X dX2_chainBlocks_41 rfl 1 rfl ?_
    refine k_get (v := .ref qh) X 0 2 5 rfl rfl (by decide) fl_X2_32 in_X2 rfl rfl dX2_chainBlocks_42 ?_
    refine k_iload_n X dX2_chainBlocks_45 rfl 0 rfl ?_
    refine k_iload_n X dX2_chainBlocks_46 rfl 2 rfl ?_
    refine k_iast (f' := upd h1 (chO (sm b)) (nI b)) (ws' := [(g, .inr (2, [.int (nI bs), .int (nI wd), .int (nI nb), .ref qs, .ref qd, .ref qh, .ref qn])), (qs, .inl (cI, N, .inl sm)), (qh, .inl (cI, 256, .inl (upd h1 (chO (sm b)) (nI b)))), (qn, .inl (cI, N, .inl (upd n1 b (h1 (chO (sm b))))))]) X 2 rfl (vp_in_nI (n := chO (sm b)) (hco) (by omega)) (by rw [nI_clamp (n := chO (sm b)) (by omega)]) rfl dX2_chainBlocks_47 ?_
    refine k_iinc (v := nI b - 1) (lv' := [(1, .int (nI b - 1)), (2, .int (nI (chO (sm b)))), (0, .ref g)]) X dX2_chainBlocks_48 2 rfl (by rw [show Int32.ofInt (-1) = -1 from rfl, Int32.sub_eq_add_neg]) (by decide) rfl ?_
    refine k_goto (tgt := 15) X dX2_chainBlocks_51 (by decide) ?_
    refine k_lv (lv' := [(0, .ref g), (1, .int (nI b - 1))]) [2, 0] rfl ?_
    refine k_sub (ws' := [(g, .inr (2, [.int (nI bs), .int (nI wd), .int (nI nb), .ref qs, .ref qd, .ref qh, .ref qn])), (qs, .inl (cI, N, .inl sm)), (qh, .inl (cI, 256, .inl (upd h1 (chO (sm b)) (nI b)))), (qn, .inl (cI, N, .inl (upd n1 b (h1 (chO (sm b))))))]) [0, 1, 2, 3] (by decide) rfl rfl ?_
    refine k_wide (k := 0) (n := 0) (by (try dsimp only); omega) (by (try dsimp only); omega) ?_
    exact ih b (upd h1 (chO (sm b)) (nI b)) (upd n1 b (h1 (chO (sm b)))) (⟨by omega, chain_step (by omega) hI.2.1 hI.2.2⟩) (by omega)
set_option maxHeartbeats 4000000 in
set_option maxRecDepth 100000 in
theorem c_makeRoom (l : Launch) (D : va_G) (cI cB : ClassId) (g : Nat) (qs : Nat) (qd : Nat) (qh : Nat) (qn : Nat) (bs : Nat) (wd : Nat) (nb : Nat) (N : Nat) (sm : Nat → Int32) (dg : Nat → Int32) (nx : Nat → Int32) (hN : 16 ≤ N) (hN2 : N ≤ 2000) (hnb : nb ≤ 2000) : kC l yX2_makeRoom cX2_makeRoom 2 none 1 14 (3) (18 * rCost 2000 N nb) D cI cB [.ref g] [(g, .inr (2, [.int (nI bs), .int (nI wd), .int (nI nb), .ref qs, .ref qd, .ref qh, .ref qn])), (qs, .inl (cI, N, .inl sm)), (qd, .inl (cB, (16 * N), .inl dg)), (qn, .inl (cI, N, .inl nx))] (fun (v : Option Value) (u : va_W) => ∃ (s2 : Nat) (d2 : Nat) (n2 : Nat) (sm2 : Nat → Int32) (dg2 : Nat → Int32) (nx2 : Nat → Int32), v = none ∧ u = [(g, .inr (2, [.int (nI bs), .int (nI wd), .int (nI nb), .ref s2, .ref d2, .ref qh, .ref n2])), (s2, .inl (cI, (rCap 2000 N nb), .inl sm2)), (d2, .inl (cB, (16 * rCap 2000 N nb), .inl dg2)), (n2, .inl (cI, (rCap 2000 N nb), .inl nx2))]) := by
  refine k_entry (lv0 := [(0, .ref g)]) (by decide) (Nat.le_of_ble_eq_true rfl) rfl ?_
  intro zp ze zs zm zb zt zc zA X hr hin
  refine k_aload_n X dX2_makeRoom_0 rfl 0 rfl ?_
  refine k_get (v := .int (nI nb)) X 0 2 2 rfl rfl (by decide) fl_X2_18 in_X2 rfl rfl dX2_makeRoom_1 ?_
  refine k_aload_n X dX2_makeRoom_4 rfl 0 rfl ?_
  refine k_get (v := .ref qs) X 0 2 3 rfl rfl (by decide) fl_X2_21 in_X2 rfl rfl dX2_makeRoom_5 ?_
  refine k_alenI (v := nI N) X 1 rfl rfl dX2_makeRoom_8 ?_
  refine k_icmp_le (tgt := 57) (xi := ((nb : Nat) : Int)) (yi := ((N : Nat) : Int)) X (nI_toInt (by omega)) (nI_toInt (by omega)) dX2_makeRoom_9 (by decide) (fun c_9 => ?_) (fun c_9 => ?_)
  · exact k_vret (u := [(g, .inr (2, [.int (nI bs), .int (nI wd), .int (nI nb), .ref qs, .ref qd, .ref qh, .ref qn])), (qs, .inl (cI, N, .inl sm)), (qd, .inl (cB, (16 * N), .inl dg)), (qn, .inl (cI, N, .inl nx))]) X hr [0, 1, 2, 3] (by decide) rfl rfl (⟨qs, qd, qn, sm, dg, nx, rfl, by rw [rCap, if_pos (by omega)]⟩) (by (try dsimp only); omega) (by (try dsimp only); omega) dX2_makeRoom_57
  · have hc : rCost 2000 N nb = max nb (min 2000 (2 * N)) := by rw [rCost, if_neg (by omega)]
    refine k_aload_n X dX2_makeRoom_12 rfl 0 rfl ?_
    refine k_get (v := .int (nI nb)) X 0 2 2 rfl rfl (by decide) fl_X2_18 in_X2 rfl rfl dX2_makeRoom_13 ?_
    refine k_sipush (v := 2000) X dX2_makeRoom_16 (by decide) ?_
    refine k_iconst (v := 2) X dX2_makeRoom_19 (by decide) ?_
    refine k_aload_n X dX2_makeRoom_20 rfl 0 rfl ?_
    refine k_get (v := .ref qs) X 0 2 3 rfl rfl (by decide) fl_X2_21 in_X2 rfl rfl dX2_makeRoom_21 ?_
    refine k_alenI (v := nI N) X 1 rfl rfl dX2_makeRoom_24 ?_
    refine k_imul X dX2_makeRoom_25 ?_
    refine k_as (y := nI (2 * N)) (n_mul 2 N) ?_
    refine k_mmin X ml_X2_83 sm_Mmin ini_J9 co_Mmin (Nat.le_of_ble_eq_true rfl) (Nat.le_of_ble_eq_true rfl) (by (try dsimp only); omega) (by (try dsimp only); omega) dX2_makeRoom_26 ?_
    refine k_as (y := nI (min 2000 (2 * N))) (mnI (a := 2000) (b := 2 * N) (by omega) (by omega)) ?_
    refine k_mmax X ml_X2_88 sm_Mmax ini_J9 co_Mmax (Nat.le_of_ble_eq_true rfl) (Nat.le_of_ble_eq_true rfl) (by (try dsimp only); omega) (by (try dsimp only); omega) dX2_makeRoom_29 ?_
    refine k_as (y := nI (max nb (min 2000 (2 * N)))) (mxI (by omega) (by omega)) ?_
    refine k_istore_n (lv' := [(1, .int (nI (max nb (min 2000 (2 * N))))), (0, .ref g)]) X dX2_makeRoom_32 rfl (by decide) rfl ?_
    refine k_aload_n X dX2_makeRoom_33 rfl 1 rfl ?_
    refine k_iload_n X dX2_makeRoom_34 rfl 0 rfl ?_
    refine k_newI X (max nb (min 2000 (2 * N))) (rfl) (by omega) ac_int (by (try dsimp only); omega) (by (try dsimp only); omega) dX2_makeRoom_35 (fun q_1 => ?_)
    refine k_ws (ws' := [(g, .inr (2, [.int (nI bs), .int (nI wd), .int (nI nb), .ref qs, .ref qd, .ref qh, .ref qn])), (qs, .inl (cI, N, .inl sm)), (qd, .inl (cB, (16 * N), .inl dg)), (qn, .inl (cI, N, .inl nx)), (q_1, .inl (cI, (max nb (min 2000 (2 * N))), .inl (fun _ => 0)))]) rfl ?_
    refine k_put (v := .ref q_1) (ty := .array .int) (ws' := [(g, .inr (2, [.int (nI bs), .int (nI wd), .int (nI nb), .ref q_1, .ref qd, .ref qh, .ref qn])), (qs, .inl (cI, N, .inl sm)), (qd, .inl (cB, (16 * N), .inl dg)), (qn, .inl (cI, N, .inl nx)), (q_1, .inl (cI, (max nb (min 2000 (2 * N))), .inl (fun _ => 0)))]) X 0 2 3 tyX2 tyX2_ok nmX2 rfl rfl (by decide) fl_X2_21 in_X2 rfl rfl (by decide +kernel) rfl rfl (Nat.le_of_ble_eq_true rfl) rfl dX2_makeRoom_37 ?_
    refine k_aload_n X dX2_makeRoom_40 rfl 1 rfl ?_
    refine k_iload_n X dX2_makeRoom_41 rfl 0 rfl ?_
    refine k_bipush (v := 16) X dX2_makeRoom_42 (by decide) ?_
    refine k_imul X dX2_makeRoom_44 ?_
    refine k_as (y := nI (16 * (max nb (min 2000 (2 * N))))) (n_mulc _ 16) ?_
    refine k_newB X (16 * (max nb (min 2000 (2 * N)))) (rfl) (by omega) ac_byte (by (try dsimp only); omega) (by (try dsimp only); omega) dX2_makeRoom_45 (fun q_2 => ?_)
    refine k_ws (ws' := [(g, .inr (2, [.int (nI bs), .int (nI wd), .int (nI nb), .ref q_1, .ref qd, .ref qh, .ref qn])), (qs, .inl (cI, N, .inl sm)), (qd, .inl (cB, (16 * N), .inl dg)), (qn, .inl (cI, N, .inl nx)), (q_1, .inl (cI, (max nb (min 2000 (2 * N))), .inl (fun _ => 0))), (q_2, .inl (cB, (16 * (max nb (min 2000 (2 * N)))), .inl (fun _ => 0)))]) rfl ?_
    refine k_put (v := .ref q_2) (ty := .array .byte) (ws' := [(g, .inr (2, [.int (nI bs), .int (nI wd), .int (nI nb), .ref q_1, .ref q_2, .ref qh, .ref qn])), (qs, .inl (cI, N, .inl sm)), (qd, .inl (cB, (16 * N), .inl dg)), (qn, .inl (cI, N, .inl nx)), (q_1, .inl (cI, (max nb (min 2000 (2 * N))), .inl (fun _ => 0))), (q_2, .inl (cB, (16 * (max nb (min 2000 (2 * N)))), .inl (fun _ => 0)))]) X 0 2 4 tyX2 tyX2_ok nmX2 rfl rfl (by decide) fl_X2_25 in_X2 rfl rfl (by decide +kernel) rfl rfl (Nat.le_of_ble_eq_true rfl) rfl dX2_makeRoom_47 ?_
    refine k_aload_n X dX2_makeRoom_50 rfl 1 rfl ?_
    refine k_iload_n X dX2_makeRoom_51 rfl 0 rfl ?_
    refine k_newI X (max nb (min 2000 (2 * N))) (rfl) (by omega) ac_int (by (try dsimp only); omega) (by (try dsimp only); omega) dX2_makeRoom_52 (fun q_3 => ?_)
    refine k_ws (ws' := [(g, .inr (2, [.int (nI bs), .int (nI wd), .int (nI nb), .ref q_1, .ref q_2, .ref qh, .ref qn])), (qs, .inl (cI, N, .inl sm)), (qd, .inl (cB, (16 * N), .inl dg)), (qn, .inl (cI, N, .inl nx)), (q_1, .inl (cI, (max nb (min 2000 (2 * N))), .inl (fun _ => 0))), (q_2, .inl (cB, (16 * (max nb (min 2000 (2 * N)))), .inl (fun _ => 0))), (q_3, .inl (cI, (max nb (min 2000 (2 * N))), .inl (fun _ => 0)))]) rfl ?_
    refine k_put (v := .ref q_3) (ty := .array .int) (ws' := [(g, .inr (2, [.int (nI bs), .int (nI wd), .int (nI nb), .ref q_1, .ref q_2, .ref qh, .ref q_3])), (qs, .inl (cI, N, .inl sm)), (qd, .inl (cB, (16 * N), .inl dg)), (qn, .inl (cI, N, .inl nx)), (q_1, .inl (cI, (max nb (min 2000 (2 * N))), .inl (fun _ => 0))), (q_2, .inl (cB, (16 * (max nb (min 2000 (2 * N)))), .inl (fun _ => 0))), (q_3, .inl (cI, (max nb (min 2000 (2 * N))), .inl (fun _ => 0)))]) X 0 2 6 tyX2 tyX2_ok nmX2 rfl rfl (by decide) fl_X2_29 in_X2 rfl rfl (by decide +kernel) rfl rfl (Nat.le_of_ble_eq_true rfl) rfl dX2_makeRoom_54 ?_
    exact k_vret (u := [(g, .inr (2, [.int (nI bs), .int (nI wd), .int (nI nb), .ref q_1, .ref q_2, .ref qh, .ref q_3])), (q_1, .inl (cI, (max nb (min 2000 (2 * N))), .inl (fun _ => 0))), (q_2, .inl (cB, (16 * (max nb (min 2000 (2 * N)))), .inl (fun _ => 0))), (q_3, .inl (cI, (max nb (min 2000 (2 * N))), .inl (fun _ => 0)))]) X hr [0, 4, 5, 6] (by decide) rfl rfl (⟨q_1, q_2, q_3, _, _, _, rfl, by rw [rCap, if_neg (by omega)]⟩) (by (try dsimp only); omega) (by (try dsimp only); omega) dX2_makeRoom_57
set_option maxHeartbeats 4000000 in
set_option maxRecDepth 100000 in
theorem c_Signature (l : Launch) (D : va_G) (cI cB : ClassId) (g : Nat)  : kC l yX2_init cX2_init 1 none 1 23 (4) (544) D cI cB [.ref g] [(g, .inr (2, [.int 0, .int 0, .int 0, .null, .null, .null, .null]))] (fun (v : Option Value) (u : va_W) => ∃ (qs : Nat) (qd : Nat) (qn : Nat) (qh : Nat) (hd : Nat → Int32), v = none ∧ u = [(g, .inr (2, [.int (nI 16), .int (nI 8), .int (nI 0), .ref qs, .ref qd, .ref qh, .ref qn])), (qs, .inl (cI, 16, .inl (fun _ => 0))), (qd, .inl (cB, (16 * 16), .inl (fun _ => 0))), (qh, .inl (cI, 256, .inl hd)), (qn, .inl (cI, 16, .inl (fun _ => 0)))] ∧ (kChain 0 (fun _ => 0) hd (fun _ => 0))) := by
  refine k_entry (lv0 := [(0, .ref g)]) (by decide) (Nat.le_of_ble_eq_true rfl) rfl ?_
  intro zp ze zs zm zb zt zc zA X hr hin
  refine k_aload_n X dX2_init_0 rfl 0 rfl ?_
  refine k_objInit X ml_X2_3 im_objInit co_objInit (Nat.le_of_ble_eq_true rfl) (Nat.le_of_ble_eq_true rfl) dX2_init_1 ?_
  refine k_aload_n X dX2_init_4 rfl 0 rfl ?_
  refine k_bipush (v := 16) X dX2_init_5 (by decide) ?_
  refine k_put (v := .int 16) (ty := .int) (ws' := [(g, .inr (2, [.int 16, .int 0, .int 0, .null, .null, .null, .null]))]) X 0 2 0 tyX2 tyX2_ok nmX2 rfl rfl (by decide) fl_X2_9 in_X2 rfl rfl (by decide +kernel) rfl rfl (Nat.le_of_ble_eq_true rfl) rfl dX2_init_7 ?_
  refine k_aload_n X dX2_init_10 rfl 0 rfl ?_
  refine k_bipush (v := 8) X dX2_init_11 (by decide) ?_
  refine k_put (v := .int 8) (ty := .int) (ws' := [(g, .inr (2, [.int 16, .int 8, .int 0, .null, .null, .null, .null]))]) X 0 2 1 tyX2 tyX2_ok nmX2 rfl rfl (by decide) fl_X2_15 in_X2 rfl rfl (by decide +kernel) rfl rfl (Nat.le_of_ble_eq_true rfl) rfl dX2_init_13 ?_
  refine k_aload_n X dX2_init_16 rfl 0 rfl ?_
  refine k_iconst (v := 0) X dX2_init_17 (by decide) ?_
  refine k_put (v := .int 0) (ty := .int) (ws' := [(g, .inr (2, [.int 16, .int 8, .int 0, .null, .null, .null, .null]))]) X 0 2 2 tyX2 tyX2_ok nmX2 rfl rfl (by decide) fl_X2_18 in_X2 rfl rfl (by decide +kernel) rfl rfl (Nat.le_of_ble_eq_true rfl) rfl dX2_init_18 ?_
  refine k_aload_n X dX2_init_21 rfl 0 rfl ?_
  refine k_bipush (v := 16) X dX2_init_22 (by decide) ?_
  refine k_newI X 16 (rfl) (by omega) ac_int (by (try dsimp only); omega) (by (try dsimp only); omega) dX2_init_24 (fun q_1 => ?_)
  refine k_ws (ws' := [(g, .inr (2, [.int 16, .int 8, .int 0, .null, .null, .null, .null])), (q_1, .inl (cI, 16, .inl (fun _ => 0)))]) rfl ?_
  refine k_put (v := .ref q_1) (ty := .array .int) (ws' := [(g, .inr (2, [.int 16, .int 8, .int 0, .ref q_1, .null, .null, .null])), (q_1, .inl (cI, 16, .inl (fun _ => 0)))]) X 0 2 3 tyX2 tyX2_ok nmX2 rfl rfl (by decide) fl_X2_21 in_X2 rfl rfl (by decide +kernel) rfl rfl (Nat.le_of_ble_eq_true rfl) rfl dX2_init_26 ?_
  refine k_aload_n X dX2_init_29 rfl 0 rfl ?_
  refine k_sipush (v := 256) X dX2_init_30 (by decide) ?_
  refine k_newB X (16 * 16) (rfl) (by omega) ac_byte (by (try dsimp only); omega) (by (try dsimp only); omega) dX2_init_33 (fun q_2 => ?_)
  refine k_ws (ws' := [(g, .inr (2, [.int 16, .int 8, .int 0, .ref q_1, .null, .null, .null])), (q_1, .inl (cI, 16, .inl (fun _ => 0))), (q_2, .inl (cB, (16 * 16), .inl (fun _ => 0)))]) rfl ?_
  refine k_put (v := .ref q_2) (ty := .array .byte) (ws' := [(g, .inr (2, [.int 16, .int 8, .int 0, .ref q_1, .ref q_2, .null, .null])), (q_1, .inl (cI, 16, .inl (fun _ => 0))), (q_2, .inl (cB, (16 * 16), .inl (fun _ => 0)))]) X 0 2 4 tyX2 tyX2_ok nmX2 rfl rfl (by decide) fl_X2_25 in_X2 rfl rfl (by decide +kernel) rfl rfl (Nat.le_of_ble_eq_true rfl) rfl dX2_init_35 ?_
  refine k_aload_n X dX2_init_38 rfl 0 rfl ?_
  refine k_bipush (v := 16) X dX2_init_39 (by decide) ?_
  refine k_newI X 16 (rfl) (by omega) ac_int (by (try dsimp only); omega) (by (try dsimp only); omega) dX2_init_41 (fun q_3 => ?_)
  refine k_ws (ws' := [(g, .inr (2, [.int 16, .int 8, .int 0, .ref q_1, .ref q_2, .null, .null])), (q_1, .inl (cI, 16, .inl (fun _ => 0))), (q_2, .inl (cB, (16 * 16), .inl (fun _ => 0))), (q_3, .inl (cI, 16, .inl (fun _ => 0)))]) rfl ?_
  refine k_put (v := .ref q_3) (ty := .array .int) (ws' := [(g, .inr (2, [.int 16, .int 8, .int 0, .ref q_1, .ref q_2, .null, .ref q_3])), (q_1, .inl (cI, 16, .inl (fun _ => 0))), (q_2, .inl (cB, (16 * 16), .inl (fun _ => 0))), (q_3, .inl (cI, 16, .inl (fun _ => 0)))]) X 0 2 6 tyX2 tyX2_ok nmX2 rfl rfl (by decide) fl_X2_29 in_X2 rfl rfl (by decide +kernel) rfl rfl (Nat.le_of_ble_eq_true rfl) rfl dX2_init_43 ?_
  refine k_aload_n X dX2_init_46 rfl 0 rfl ?_
  refine k_sipush (v := 256) X dX2_init_47 (by decide) ?_
  refine k_newI X 256 (rfl) (by omega) ac_int (by (try dsimp only); omega) (by (try dsimp only); omega) dX2_init_50 (fun q_4 => ?_)
  refine k_ws (ws' := [(g, .inr (2, [.int 16, .int 8, .int 0, .ref q_1, .ref q_2, .null, .ref q_3])), (q_1, .inl (cI, 16, .inl (fun _ => 0))), (q_2, .inl (cB, (16 * 16), .inl (fun _ => 0))), (q_3, .inl (cI, 16, .inl (fun _ => 0))), (q_4, .inl (cI, 256, .inl (fun _ => 0)))]) rfl ?_
  refine k_putF (v := .ref q_4) (ty := .array .int) (ws' := [(g, .inr (2, [.int 16, .int 8, .int 0, .ref q_1, .ref q_2, .ref q_4, .ref q_3])), (q_1, .inl (cI, 16, .inl (fun _ => 0))), (q_2, .inl (cB, (16 * 16), .inl (fun _ => 0))), (q_3, .inl (cI, 16, .inl (fun _ => 0))), (q_4, .inl (cI, 256, .inl (fun _ => 0)))]) X 0 2 5 tyX2 tyX2_ok nmX2 rfl rfl (by decide) fl_X2_32 in_X2 rfl rfl hin rfl (by decide +kernel) rfl rfl (Nat.le_of_ble_eq_true rfl) rfl dX2_init_52 ?_
  refine k_aload_n X dX2_init_55 rfl 0 rfl ?_
  refine k_get (v := .ref q_4) X 0 2 5 rfl rfl (by decide) fl_X2_32 in_X2 rfl rfl dX2_init_56 ?_
  refine k_iconst (v := -1) X dX2_init_59 (by decide) ?_
  refine k_callS (wc := [(q_4, .inl (cI, 256, .inl (fun _ => 0)))]) (wr := [(g, .inr (2, [.int 16, .int 8, .int 0, .ref q_1, .ref q_2, .ref q_4, .ref q_3])), (q_1, .inl (cI, 16, .inl (fun _ => 0))), (q_2, .inl (cB, (16 * 16), .inl (fun _ => 0))), (q_3, .inl (cI, 16, .inl (fun _ => 0)))]) (As := [.ref q_4, .int (-1)]) (n := 2) (st := []) X (c_fill l D cI cB q_4 256 (fun _ => 0) (-1) (by omega)) ml_X2_35 sm_J7_fill_53178 ini_J7 co_J7_fill_53178 (by decide +kernel) rfl ⟨Nat.le_of_ble_eq_true rfl, Nat.le_of_ble_eq_true rfl⟩ (⟨by (try dsimp only); omega, by (try dsimp only); omega⟩) (Nat.le_of_ble_eq_true rfl) [4] [0, 1, 2, 3] rfl rfl rfl (by decide) (by decide) (by decide) rfl dX2_init_60 (fun v_60 u_60 hu_60 => ?_)
  obtain ⟨hd, rfl, rfl, hhd⟩ := hu_60
  refine k_to (ws' := [(g, .inr (2, [.int 16, .int 8, .int 0, .ref q_1, .ref q_2, .ref q_4, .ref q_3])), (q_1, .inl (cI, 16, .inl (fun _ => 0))), (q_2, .inl (cB, (16 * 16), .inl (fun _ => 0))), (q_3, .inl (cI, 16, .inl (fun _ => 0))), (q_4, .inl (cI, 256, .inl hd))]) (st' := []) rfl rfl ?_
  exact k_vret (u := [(g, .inr (2, [.int 16, .int 8, .int 0, .ref q_1, .ref q_2, .ref q_4, .ref q_3])), (q_1, .inl (cI, 16, .inl (fun _ => 0))), (q_2, .inl (cB, (16 * 16), .inl (fun _ => 0))), (q_4, .inl (cI, 256, .inl hd)), (q_3, .inl (cI, 16, .inl (fun _ => 0)))]) X hr [0, 1, 2, 4, 3] (by decide) rfl rfl (⟨q_1, q_2, q_3, q_4, hd, rfl, rfl, fun c hc => by rw [hhd c hc, cN_ge (Nat.le_refl _)], fun b hb => absurd hb (Nat.not_lt_zero b)⟩) (by (try dsimp only); omega) (by (try dsimp only); omega) dX2_init_63
set_option maxHeartbeats 4000000 in
set_option maxRecDepth 100000 in
theorem c_make (l : Launch) (D : va_G) (cI cB : ClassId) (g : Nat) (qs : Nat) (qd : Nat) (qh : Nat) (qn : Nat) (bs : Nat) (wd : Nat) (nb : Nat) (N : Nat) (sm : Nat → Int32) (dg : Nat → Int32) (hd : Nat → Int32) (nx : Nat → Int32) (r : Nat) (a : Nat) (mo : Nat) (k : Nat) (n : Nat) (f : Nat → Int32) (o : Nat) (aw : Nat) (ah : Nat) (w : Nat → Int32) (h : Nat → Int32) (b2 : Nat) (w2 : Nat) (hN : 16 ≤ N) (hN2 : N ≤ 2000) (hk : k ≤ n) (hn : n ≤ mo) (hmo : mo ≤ 8000) (hk2 : k ≤ 2000) (hb1 : 1 ≤ b2) (hb2 : b2 ≤ 256) (hw2 : w2 ≤ 16) : kC l yX2_make cX2_make 8 none 3 76 (3) (18 * rCost 2000 N (k / b2)) D cI cB [.ref g, .ref r, .int (nI b2), .int (nI w2), .ref o] [(g, .inr (2, [.int (nI bs), .int (nI wd), .int (nI nb), .ref qs, .ref qd, .ref qh, .ref qn])), (qs, .inl (cI, N, .inl sm)), (qd, .inl (cB, (16 * N), .inl dg)), (qh, .inl (cI, 256, .inl hd)), (qn, .inl (cI, N, .inl nx)), (r, .inr (1, [.int (nI mo), .ref a, .int (nI k)])), (a, .inl (cI, n, .inl f)), (o, .inr (0, [.ref aw, .ref ah])), (aw, .inl (cI, 16, .inl w)), (ah, .inl (cI, 4, .inl h))] (fun (v : Option Value) (u : va_W) => ∃ (s2 : Nat) (d2 : Nat) (n2 : Nat) (sm2 : Nat → Int32) (dg2 : Nat → Int32) (hd2 : Nat → Int32) (nx2 : Nat → Int32) (wz : Nat → Int32) (hz : Nat → Int32), v = none ∧ u = [(g, .inr (2, [.int (nI b2), .int (nI w2), .int (nI (k / b2)), .ref s2, .ref d2, .ref qh, .ref n2])), (s2, .inl (cI, (rCap 2000 N (k / b2)), .inl sm2)), (d2, .inl (cB, (16 * rCap 2000 N (k / b2)), .inl dg2)), (qh, .inl (cI, 256, .inl hd2)), (n2, .inl (cI, (rCap 2000 N (k / b2)), .inl nx2)), (r, .inr (1, [.int (nI mo), .ref a, .int (nI k)])), (a, .inl (cI, n, .inl f)), (o, .inr (0, [.ref aw, .ref ah])), (aw, .inl (cI, 16, .inl wz)), (ah, .inl (cI, 4, .inl hz))] ∧ (kSums f sm2 b2 (k / b2)) ∧ (kDigs f dg2 b2 (k / b2)) ∧ (kChain (k / b2) sm2 hd2 nx2)) := by
  refine k_entry (lv0 := [(0, .ref g), (1, .ref r), (2, .int (nI b2)), (3, .int (nI w2)), (4, .ref o)]) (by decide) (Nat.le_of_ble_eq_true rfl) rfl ?_
  intro zp ze zs zm zb zt zc zA X hr hin
  refine k_iload_n X dX2_make_0 rfl 2 rfl ?_
  refine k_iconst (v := 1) X dX2_make_1 (by decide) ?_
  refine k_icmp_ge (tgt := 6) (xi := ((b2 : Nat) : Int)) (yi := (1 : Int)) X (nI_toInt (by omega)) (by decide) dX2_make_2 (by decide) (fun c_2 => ?_) (fun c_2 => ?_)
  · refine k_aload_n X dX2_make_6 rfl 0 rfl ?_
    refine k_iload_n X dX2_make_7 rfl 2 rfl ?_
    refine k_put (v := .int (nI b2)) (ty := .int) (ws' := [(g, .inr (2, [.int (nI b2), .int (nI wd), .int (nI nb), .ref qs, .ref qd, .ref qh, .ref qn])), (qs, .inl (cI, N, .inl sm)), (qd, .inl (cB, (16 * N), .inl dg)), (qh, .inl (cI, 256, .inl hd)), (qn, .inl (cI, N, .inl nx)), (r, .inr (1, [.int (nI mo), .ref a, .int (nI k)])), (a, .inl (cI, n, .inl f)), (o, .inr (0, [.ref aw, .ref ah])), (aw, .inl (cI, 16, .inl w)), (ah, .inl (cI, 4, .inl h))]) X 0 2 0 tyX2 tyX2_ok nmX2 rfl rfl (by decide) fl_X2_9 in_X2 rfl rfl (by decide +kernel) rfl rfl (Nat.le_of_ble_eq_true rfl) rfl dX2_make_8 ?_
    refine k_aload_n X dX2_make_11 rfl 0 rfl ?_
    refine k_iload_n X dX2_make_12 rfl 3 rfl ?_
    refine k_put (v := .int (nI w2)) (ty := .int) (ws' := [(g, .inr (2, [.int (nI b2), .int (nI w2), .int (nI nb), .ref qs, .ref qd, .ref qh, .ref qn])), (qs, .inl (cI, N, .inl sm)), (qd, .inl (cB, (16 * N), .inl dg)), (qh, .inl (cI, 256, .inl hd)), (qn, .inl (cI, N, .inl nx)), (r, .inr (1, [.int (nI mo), .ref a, .int (nI k)])), (a, .inl (cI, n, .inl f)), (o, .inr (0, [.ref aw, .ref ah])), (aw, .inl (cI, 16, .inl w)), (ah, .inl (cI, 4, .inl h))]) X 0 2 1 tyX2 tyX2_ok nmX2 rfl rfl (by decide) fl_X2_15 in_X2 rfl rfl (by decide +kernel) rfl rfl (Nat.le_of_ble_eq_true rfl) rfl dX2_make_13 ?_
    refine k_aload_n X dX2_make_16 rfl 0 rfl ?_
    refine k_aload_n X dX2_make_17 rfl 1 rfl ?_
    refine k_callV (wc := [(r, .inr (1, [.int (nI mo), .ref a, .int (nI k)]))]) (wr := [(g, .inr (2, [.int (nI b2), .int (nI w2), .int (nI nb), .ref qs, .ref qd, .ref qh, .ref qn])), (qs, .inl (cI, N, .inl sm)), (qd, .inl (cB, (16 * N), .inl dg)), (qh, .inl (cI, 256, .inl hd)), (qn, .inl (cI, N, .inl nx)), (a, .inl (cI, n, .inl f)), (o, .inr (0, [.ref aw, .ref ah])), (aw, .inl (cI, 16, .inl w)), (ah, .inl (cI, 4, .inl h))]) (As := []) (n := 0) (st := [.ref g]) (q0 := 0) X (c_length l D cI cB r a mo k ) rfl rfl ml_X2_45 im_X1_length se_X1_length ini_X1 co_X1_length (by decide +kernel) rfl ⟨Nat.le_of_ble_eq_true rfl, Nat.le_of_ble_eq_true rfl⟩ (⟨by (try dsimp only); omega, by (try dsimp only); omega⟩) (Nat.le_of_ble_eq_true rfl) [5] [0, 1, 2, 3, 4, 6, 7, 8, 9] rfl rfl rfl (by decide) (by decide) (by decide) rfl dX2_make_18 (fun v_18 u_18 hu_18 => ?_)
    obtain ⟨rfl, rfl⟩ := hu_18
    refine k_to (ws' := [(g, .inr (2, [.int (nI b2), .int (nI w2), .int (nI nb), .ref qs, .ref qd, .ref qh, .ref qn])), (qs, .inl (cI, N, .inl sm)), (qd, .inl (cB, (16 * N), .inl dg)), (qh, .inl (cI, 256, .inl hd)), (qn, .inl (cI, N, .inl nx)), (a, .inl (cI, n, .inl f)), (o, .inr (0, [.ref aw, .ref ah])), (aw, .inl (cI, 16, .inl w)), (ah, .inl (cI, 4, .inl h)), (r, .inr (1, [.int (nI mo), .ref a, .int (nI k)]))]) (st' := [.int (nI k), .ref g]) rfl rfl ?_
    refine k_iload_n X dX2_make_21 rfl 2 rfl ?_
    refine k_idiv X dX2_make_22 (nI_ne0 (by omega) (by omega)) ?_
    refine k_as (y := nI (k / b2)) (pk_div (by omega) (by omega) (by omega)) ?_
    refine k_put (v := .int (nI (k / b2))) (ty := .int) (ws' := [(g, .inr (2, [.int (nI b2), .int (nI w2), .int (nI (k / b2)), .ref qs, .ref qd, .ref qh, .ref qn])), (qs, .inl (cI, N, .inl sm)), (qd, .inl (cB, (16 * N), .inl dg)), (qh, .inl (cI, 256, .inl hd)), (qn, .inl (cI, N, .inl nx)), (a, .inl (cI, n, .inl f)), (o, .inr (0, [.ref aw, .ref ah])), (aw, .inl (cI, 16, .inl w)), (ah, .inl (cI, 4, .inl h)), (r, .inr (1, [.int (nI mo), .ref a, .int (nI k)]))]) X 0 2 2 tyX2 tyX2_ok nmX2 rfl rfl (by decide) fl_X2_18 in_X2 rfl rfl (by decide +kernel) rfl rfl (Nat.le_of_ble_eq_true rfl) rfl dX2_make_23 ?_
    have hnb : k / b2 ≤ 2000 := Nat.le_trans (Nat.div_le_self k b2) (by omega)
    refine k_aload_n X dX2_make_26 rfl 0 rfl ?_
    refine k_callV (wc := [(g, .inr (2, [.int (nI b2), .int (nI w2), .int (nI (k / b2)), .ref qs, .ref qd, .ref qh, .ref qn])), (qs, .inl (cI, N, .inl sm)), (qd, .inl (cB, (16 * N), .inl dg)), (qn, .inl (cI, N, .inl nx))]) (wr := [(qh, .inl (cI, 256, .inl hd)), (a, .inl (cI, n, .inl f)), (o, .inr (0, [.ref aw, .ref ah])), (aw, .inl (cI, 16, .inl w)), (ah, .inl (cI, 4, .inl h)), (r, .inr (1, [.int (nI mo), .ref a, .int (nI k)]))]) (As := []) (n := 0) (st := []) (q0 := 0) X (c_makeRoom l D cI cB g qs qd qh qn b2 w2 (k / b2) N sm dg nx (hN) (hN2) (hnb)) rfl rfl ml_X2_51 im_X2_makeRoom se_X2_makeRoom ini_X2 co_X2_makeRoom (by decide +kernel) rfl ⟨Nat.le_of_ble_eq_true rfl, Nat.le_of_ble_eq_true rfl⟩ (⟨by (try dsimp only); omega, by (try dsimp only); omega⟩) (Nat.le_of_ble_eq_true rfl) [0, 1, 2, 4] [3, 5, 6, 7, 8, 9] rfl rfl rfl (by decide) (by decide) (by decide) rfl dX2_make_27 (fun v_27 u_27 hu_27 => ?_)
    obtain ⟨s2, d2, n2, sm3, dg3, nx3, rfl, rfl⟩ := hu_27
    refine k_to (ws' := [(qh, .inl (cI, 256, .inl hd)), (a, .inl (cI, n, .inl f)), (o, .inr (0, [.ref aw, .ref ah])), (aw, .inl (cI, 16, .inl w)), (ah, .inl (cI, 4, .inl h)), (r, .inr (1, [.int (nI mo), .ref a, .int (nI k)])), (g, .inr (2, [.int (nI b2), .int (nI w2), .int (nI (k / b2)), .ref s2, .ref d2, .ref qh, .ref n2])), (s2, .inl (cI, (rCap 2000 N (k / b2)), .inl sm3)), (d2, .inl (cB, (16 * rCap 2000 N (k / b2)), .inl dg3)), (n2, .inl (cI, (rCap 2000 N (k / b2)), .inl nx3))]) (st' := []) rfl rfl ?_
    have hcap : k / b2 ≤ rCap 2000 N (k / b2) ∧ rCap 2000 N (k / b2) ≤ 2000 := by rw [rCap]; split <;> omega
    refine k_iconst (v := 0) X dX2_make_30 (by decide) ?_
    refine k_istore (lv' := [(5, .int 0), (0, .ref g), (1, .ref r), (2, .int (nI b2)), (3, .int (nI w2)), (4, .ref o)]) X dX2_make_31 (by decide) rfl ?_
    refine k_lv (lv' := [(0, .ref g), (1, .ref r), (2, .int (nI b2)), (3, .int (nI w2)), (4, .ref o), (5, .int (nI 0))]) [1, 2, 3, 4, 5, 0] rfl ?_
    refine k_sub (ws' := [(g, .inr (2, [.int (nI b2), .int (nI w2), .int (nI (k / b2)), .ref s2, .ref d2, .ref qh, .ref n2])), (s2, .inl (cI, (rCap 2000 N (k / b2)), .inl sm3)), (d2, .inl (cB, (16 * rCap 2000 N (k / b2)), .inl dg3)), (qh, .inl (cI, 256, .inl hd)), (n2, .inl (cI, (rCap 2000 N (k / b2)), .inl nx3)), (r, .inr (1, [.int (nI mo), .ref a, .int (nI k)])), (a, .inl (cI, n, .inl f)), (o, .inr (0, [.ref aw, .ref ah])), (aw, .inl (cI, 16, .inl w)), (ah, .inl (cI, 4, .inl h))]) [6, 7, 8, 0, 9, 5, 1, 2, 3, 4] (by decide) rfl rfl ?_
    refine k_wide (k := 3) (n := 18 * rCost 2000 N (k / b2)) (by (try dsimp only); omega) (by (try dsimp only); omega) ?_
    refine k_loop5 (pc1 := 33) (cl := fun (b : Nat) (sm1 : Nat → Int32) (dg1 : Nat → Int32) (wx : Nat → Int32) (hx : Nat → Int32) => 3) (sl := fun (b : Nat) (sm1 : Nat → Int32) (dg1 : Nat → Int32) (wx : Nat → Int32) (hx : Nat → Int32) => 18 * rCost 2000 N (k / b2)) (wsf := fun (b : Nat) (sm1 : Nat → Int32) (dg1 : Nat → Int32) (wx : Nat → Int32) (hx : Nat → Int32) => [(g, .inr (2, [.int (nI b2), .int (nI w2), .int (nI (k / b2)), .ref s2, .ref d2, .ref qh, .ref n2])), (s2, .inl (cI, (rCap 2000 N (k / b2)), .inl sm1)), (d2, .inl (cB, (16 * rCap 2000 N (k / b2)), .inl dg1)), (qh, .inl (cI, 256, .inl hd)), (n2, .inl (cI, (rCap 2000 N (k / b2)), .inl nx3)), (r, .inr (1, [.int (nI mo), .ref a, .int (nI k)])), (a, .inl (cI, n, .inl f)), (o, .inr (0, [.ref aw, .ref ah])), (aw, .inl (cI, 16, .inl wx)), (ah, .inl (cI, 4, .inl hx))]) (lvf := fun (b : Nat) (sm1 : Nat → Int32) (dg1 : Nat → Int32) (wx : Nat → Int32) (hx : Nat → Int32) => [(0, .ref g), (1, .ref r), (2, .int (nI b2)), (3, .int (nI w2)), (4, .ref o), (5, .int (nI b))]) (stf := fun (b : Nat) (sm1 : Nat → Int32) (dg1 : Nat → Int32) (wx : Nat → Int32) (hx : Nat → Int32) => []) (I := fun (b : Nat) (sm1 : Nat → Int32) (dg1 : Nat → Int32) (wx : Nat → Int32) (hx : Nat → Int32) => b ≤ k / b2 ∧ kSums f sm1 b2 b ∧ kDigs f dg1 b2 b) (mu := fun (b : Nat) (sm1 : Nat → Int32) (dg1 : Nat → Int32) (wx : Nat → Int32) (hx : Nat → Int32) => k / b2 - b) ?_ 0 sm3 dg3 w h (⟨Nat.zero_le _, fun b hb => absurd hb (Nat.not_lt_zero b), fun b hb => absurd hb (Nat.not_lt_zero b)⟩)
    intro b sm1 dg1 wx hx hI ih
    try dsimp only at hI ih
    try dsimp only
    have hi := hI.1
    refine k_iload X dX2_make_33 5 rfl ?_
    refine k_aload_n X dX2_make_35 rfl 0 rfl ?_
    refine k_get (v := .int (nI (k / b2))) X 0 2 2 rfl rfl (by decide) fl_X2_18 in_X2 rfl rfl dX2_make_36 ?_
    refine k_icmp_ge (tgt := 123) (xi := ((b : Nat) : Int)) (yi := (((k / b2) : Nat) : Int)) X (nI_toInt (by omega)) (nI_toInt (by omega)) dX2_make_39 (by decide) (fun c_39 => ?_) (fun c_39 => ?_)
    · refine k_aload_n X dX2_make_123 rfl 0 rfl ?_
      refine k_callV (wc := [(g, .inr (2, [.int (nI b2), .int (nI w2), .int (nI (k / b2)), .ref s2, .ref d2, .ref qh, .ref n2])), (s2, .inl (cI, (rCap 2000 N (k / b2)), .inl sm1)), (qh, .inl (cI, 256, .inl hd)), (n2, .inl (cI, (rCap 2000 N (k / b2)), .inl nx3))]) (wr := [(d2, .inl (cB, (16 * rCap 2000 N (k / b2)), .inl dg1)), (r, .inr (1, [.int (nI mo), .ref a, .int (nI k)])), (a, .inl (cI, n, .inl f)), (o, .inr (0, [.ref aw, .ref ah])), (aw, .inl (cI, 16, .inl wx)), (ah, .inl (cI, 4, .inl hx))]) (As := []) (n := 0) (st := []) (q0 := 0) X (c_chainBlocks l D cI cB g s2 d2 qh n2 b2 w2 (k / b2) (rCap 2000 N (k / b2)) sm1 hd nx3 (by omega) (by omega)) rfl rfl ml_X2_68 im_X2_chainBlocks se_X2_chainBlocks ini_X2 co_X2_chainBlocks (by decide +kernel) rfl ⟨Nat.le_of_ble_eq_true rfl, Nat.le_of_ble_eq_true rfl⟩ (⟨by (try dsimp only); omega, by (try dsimp only); omega⟩) (Nat.le_of_ble_eq_true rfl) [0, 1, 3, 4] [2, 5, 6, 7, 8, 9] rfl rfl rfl (by decide) (by decide) (by decide) rfl dX2_make_124 (fun v_124 u_124 hu_124 => ?_)
      obtain ⟨hd2, nx2, rfl, rfl, hch2⟩ := hu_124
      refine k_to (ws' := [(d2, .inl (cB, (16 * rCap 2000 N (k / b2)), .inl dg1)), (r, .inr (1, [.int (nI mo), .ref a, .int (nI k)])), (a, .inl (cI, n, .inl f)), (o, .inr (0, [.ref aw, .ref ah])), (aw, .inl (cI, 16, .inl wx)), (ah, .inl (cI, 4, .inl hx)), (g, .inr (2, [.int (nI b2), .int (nI w2), .int (nI (k / b2)), .ref s2, .ref d2, .ref qh, .ref n2])), (s2, .inl (cI, (rCap 2000 N (k / b2)), .inl sm1)), (qh, .inl (cI, 256, .inl hd2)), (n2, .inl (cI, (rCap 2000 N (k / b2)), .inl nx2))]) (st' := []) rfl rfl ?_
      exact k_vret (u := [(g, .inr (2, [.int (nI b2), .int (nI w2), .int (nI (k / b2)), .ref s2, .ref d2, .ref qh, .ref n2])), (s2, .inl (cI, (rCap 2000 N (k / b2)), .inl sm1)), (d2, .inl (cB, (16 * rCap 2000 N (k / b2)), .inl dg1)), (qh, .inl (cI, 256, .inl hd2)), (n2, .inl (cI, (rCap 2000 N (k / b2)), .inl nx2)), (r, .inr (1, [.int (nI mo), .ref a, .int (nI k)])), (a, .inl (cI, n, .inl f)), (o, .inr (0, [.ref aw, .ref ah])), (aw, .inl (cI, 16, .inl wx)), (ah, .inl (cI, 4, .inl hx))]) X hr [6, 7, 0, 8, 9, 1, 2, 3, 4, 5] (by decide) rfl rfl (⟨s2, d2, n2, sm1, dg1, hd2, nx2, wx, hx, rfl, rfl, fun c hc => hI.2.1 c (by omega), fun c hc => hI.2.2 c (by omega), hch2⟩) (by (try dsimp only); omega) (by (try dsimp only); omega) dX2_make_127
    · refine k_iload X dX2_make_42 5 rfl ?_
      refine k_aload_n X dX2_make_44 rfl 0 rfl ?_
      refine k_get (v := .int (nI b2)) X 0 2 0 rfl rfl (by decide) fl_X2_9 in_X2 rfl rfl dX2_make_45 ?_
      refine k_imul X dX2_make_48 ?_
      refine k_as (y := nI (b2 * b)) (by rw [Nat.mul_comm]; exact n_mul b b2) ?_
      refine k_istore (lv' := [(6, .int (nI (b2 * b))), (0, .ref g), (1, .ref r), (2, .int (nI b2)), (3, .int (nI w2)), (4, .ref o), (5, .int (nI b))]) X dX2_make_49 (by decide) rfl ?_
      have hfit := blk_fit (k := k) (bs := b2) (b := b) (by omega)
      refine k_aload_n X dX2_make_51 rfl 1 rfl ?_
      refine k_get (v := .ref s2) X 0 2 3 rfl rfl (by decide) fl_X2_21 in_X2 rfl rfl dX2_make_52 ?_
      refine k_iload X dX2_make_55 6 rfl ?_
      refine k_aload_n X dX2_make_57 rfl 2 rfl ?_
      refine k_iload X dX2_make_58 0 rfl ?_
      refine k_aload_n X dX2_make_60 rfl 1 rfl ?_
      refine k_get (v := .int (nI b2)) X 0 2 0 rfl rfl (by decide) fl_X2_9 in_X2 rfl rfl dX2_make_61 ?_
      refine k_callV (wc := [(r, .inr (1, [.int (nI mo), .ref a, .int (nI k)])), (a, .inl (cI, n, .inl f))]) (wr := [(g, .inr (2, [.int (nI b2), .int (nI w2), .int (nI (k / b2)), .ref s2, .ref d2, .ref qh, .ref n2])), (s2, .inl (cI, (rCap 2000 N (k / b2)), .inl sm1)), (d2, .inl (cB, (16 * rCap 2000 N (k / b2)), .inl dg1)), (qh, .inl (cI, 256, .inl hd)), (n2, .inl (cI, (rCap 2000 N (k / b2)), .inl nx3)), (o, .inr (0, [.ref aw, .ref ah])), (aw, .inl (cI, 16, .inl wx)), (ah, .inl (cI, 4, .inl hx))]) (As := [.int (nI (b2 * b)), .int (nI b2)]) (n := 2) (st := [.int (nI b), .ref s2]) (q0 := 0) X (c_sumFrom l D cI cB r a mo k n f (b2 * b) b2 (hk) (hn) (hmo) (hfit)) rfl rfl ml_X2_54 im_X1_sumFrom se_X1_sumFrom ini_X1 co_X1_sumFrom (by decide +kernel) rfl ⟨Nat.le_of_ble_eq_true rfl, Nat.le_of_ble_eq_true rfl⟩ (⟨by (try dsimp only); omega, by (try dsimp only); omega⟩) (Nat.le_of_ble_eq_true rfl) [5, 6] [0, 1, 2, 3, 4, 7, 8, 9] rfl rfl rfl (by decide) (by decide) (by decide) rfl dX2_make_64 (fun v_64 u_64 hu_64 => ?_)
      obtain ⟨rfl, rfl⟩ := hu_64
      refine k_to (ws' := [(g, .inr (2, [.int (nI b2), .int (nI w2), .int (nI (k / b2)), .ref s2, .ref d2, .ref qh, .ref n2])), (s2, .inl (cI, (rCap 2000 N (k / b2)), .inl sm1)), (d2, .inl (cB, (16 * rCap 2000 N (k / b2)), .inl dg1)), (qh, .inl (cI, 256, .inl hd)), (n2, .inl (cI, (rCap 2000 N (k / b2)), .inl nx3)), (o, .inr (0, [.ref aw, .ref ah])), (aw, .inl (cI, 16, .inl wx)), (ah, .inl (cI, 4, .inl hx)), (r, .inr (1, [.int (nI mo), .ref a, .int (nI k)])), (a, .inl (cI, n, .inl f))]) (st' := [.int (sSum f (b2 * b) b2), .int (nI b), .ref s2]) rfl rfl ?_
      refine k_iast (f' := upd sm1 b (sSum f (b2 * b) b2)) (ws' := [(g, .inr (2, [.int (nI b2), .int (nI w2), .int (nI (k / b2)), .ref s2, .ref d2, .ref qh, .ref n2])), (s2, .inl (cI, (rCap 2000 N (k / b2)), .inl (upd sm1 b (sSum f (b2 * b) b2)))), (d2, .inl (cB, (16 * rCap 2000 N (k / b2)), .inl dg1)), (qh, .inl (cI, 256, .inl hd)), (n2, .inl (cI, (rCap 2000 N (k / b2)), .inl nx3)), (o, .inr (0, [.ref aw, .ref ah])), (aw, .inl (cI, 16, .inl wx)), (ah, .inl (cI, 4, .inl hx)), (r, .inr (1, [.int (nI mo), .ref a, .int (nI k)])), (a, .inl (cI, n, .inl f))]) X 1 rfl (vp_in_nI (n := b) (by omega) (by omega)) (by rw [nI_clamp (n := b) (by omega)]) rfl dX2_make_67 ?_
      refine k_aload X dX2_make_68 5 rfl ?_
      refine k_aload_n X dX2_make_70 rfl 2 rfl ?_
      refine k_iload X dX2_make_71 0 rfl ?_
      refine k_aload_n X dX2_make_73 rfl 1 rfl ?_
      refine k_get (v := .int (nI b2)) X 0 2 0 rfl rfl (by decide) fl_X2_9 in_X2 rfl rfl dX2_make_74 ?_
      refine k_callV (wc := [(o, .inr (0, [.ref aw, .ref ah])), (aw, .inl (cI, 16, .inl wx)), (ah, .inl (cI, 4, .inl hx)), (r, .inr (1, [.int (nI mo), .ref a, .int (nI k)])), (a, .inl (cI, n, .inl f))]) (wr := [(g, .inr (2, [.int (nI b2), .int (nI w2), .int (nI (k / b2)), .ref s2, .ref d2, .ref qh, .ref n2])), (s2, .inl (cI, (rCap 2000 N (k / b2)), .inl (upd sm1 b (sSum f (b2 * b) b2)))), (d2, .inl (cB, (16 * rCap 2000 N (k / b2)), .inl dg1)), (qh, .inl (cI, 256, .inl hd)), (n2, .inl (cI, (rCap 2000 N (k / b2)), .inl nx3))]) (As := [.ref r, .int (nI (b2 * b)), .int (nI b2)]) (n := 3) (st := []) (q0 := 0) X (c_take l D cI cB o aw ah wx hx r a mo k n f (b2 * b) b2 (hk) (hn) (hmo) (hfit) (by omega)) rfl rfl ml_X2_58 im_X0_take se_X0_take ini_X0 co_X0_take (by decide +kernel) rfl ⟨Nat.le_of_ble_eq_true rfl, Nat.le_of_ble_eq_true rfl⟩ (⟨by (try dsimp only); omega, by (try dsimp only); omega⟩) (Nat.le_of_ble_eq_true rfl) [5, 6, 7, 8, 9] [0, 1, 2, 3, 4] rfl rfl rfl (by decide) (by decide) (by decide) rfl dX2_make_77 (fun v_77 u_77 hu_77 => ?_)
      obtain ⟨w3, h3, rfl, rfl, hh3⟩ := hu_77
      refine k_to (ws' := [(g, .inr (2, [.int (nI b2), .int (nI w2), .int (nI (k / b2)), .ref s2, .ref d2, .ref qh, .ref n2])), (s2, .inl (cI, (rCap 2000 N (k / b2)), .inl (upd sm1 b (sSum f (b2 * b) b2)))), (d2, .inl (cB, (16 * rCap 2000 N (k / b2)), .inl dg1)), (qh, .inl (cI, 256, .inl hd)), (n2, .inl (cI, (rCap 2000 N (k / b2)), .inl nx3)), (o, .inr (0, [.ref aw, .ref ah])), (aw, .inl (cI, 16, .inl w3)), (ah, .inl (cI, 4, .inl h3)), (r, .inr (1, [.int (nI mo), .ref a, .int (nI k)])), (a, .inl (cI, n, .inl f))]) (st' := []) rfl rfl ?_
      refine k_iconst (v := 0) X dX2_make_80 (by decide) ?_
      refine k_istore (lv' := [(7, .int 0), (6, .int (nI (b2 * b))), (0, .ref g), (1, .ref r), (2, .int (nI b2)), (3, .int (nI w2)), (4, .ref o), (5, .int (nI b))]) X dX2_make_81 (by decide) rfl ?_
      refine k_lv (lv' := [(0, .ref g), (1, .ref r), (2, .int (nI b2)), (3, .int (nI w2)), (4, .ref o), (5, .int (nI b)), (7, .int (nI 0))]) [2, 3, 4, 5, 6, 7, 0] rfl ?_
      refine k_sub (ws' := [(g, .inr (2, [.int (nI b2), .int (nI w2), .int (nI (k / b2)), .ref s2, .ref d2, .ref qh, .ref n2])), (s2, .inl (cI, (rCap 2000 N (k / b2)), .inl (upd sm1 b (sSum f (b2 * b) b2)))), (d2, .inl (cB, (16 * rCap 2000 N (k / b2)), .inl dg1)), (qh, .inl (cI, 256, .inl hd)), (n2, .inl (cI, (rCap 2000 N (k / b2)), .inl nx3)), (r, .inr (1, [.int (nI mo), .ref a, .int (nI k)])), (a, .inl (cI, n, .inl f)), (o, .inr (0, [.ref aw, .ref ah])), (aw, .inl (cI, 16, .inl w3)), (ah, .inl (cI, 4, .inl h3))]) [0, 1, 2, 3, 4, 8, 9, 5, 6, 7] (by decide) rfl rfl ?_
      refine k_wide (k := 3) (n := 18 * rCost 2000 N (k / b2)) (by (try dsimp only); omega) (by (try dsimp only); omega) ?_
      refine k_loop2 (pc1 := 83) (cl := fun (kk : Nat) (dgk : Nat → Int32) => 3) (sl := fun (kk : Nat) (dgk : Nat → Int32) => 18 * rCost 2000 N (k / b2)) (wsf := fun (kk : Nat) (dgk : Nat → Int32) => [(g, .inr (2, [.int (nI b2), .int (nI w2), .int (nI (k / b2)), .ref s2, .ref d2, .ref qh, .ref n2])), (s2, .inl (cI, (rCap 2000 N (k / b2)), .inl (upd sm1 b (sSum f (b2 * b) b2)))), (d2, .inl (cB, (16 * rCap 2000 N (k / b2)), .inl dgk)), (qh, .inl (cI, 256, .inl hd)), (n2, .inl (cI, (rCap 2000 N (k / b2)), .inl nx3)), (r, .inr (1, [.int (nI mo), .ref a, .int (nI k)])), (a, .inl (cI, n, .inl f)), (o, .inr (0, [.ref aw, .ref ah])), (aw, .inl (cI, 16, .inl w3)), (ah, .inl (cI, 4, .inl h3))]) (lvf := fun (kk : Nat) (dgk : Nat → Int32) => [(0, .ref g), (1, .ref r), (2, .int (nI b2)), (3, .int (nI w2)), (4, .ref o), (5, .int (nI b)), (7, .int (nI kk))]) (stf := fun (kk : Nat) (dgk : Nat → Int32) => []) (I := fun (kk : Nat) (dgk : Nat → Int32) => kk ≤ 16 ∧ kDigs f dgk b2 b ∧ ∀ j, j < kk → dgk (16 * b + j) = sx (dByte (mDig f (b2 * b) b2) j)) (mu := fun (kk : Nat) (dgk : Nat → Int32) => 16 - kk) ?_ 0 dg1 (⟨Nat.zero_le _, hI.2.2, fun j hj => absurd hj (Nat.not_lt_zero j)⟩)
      intro kk dgk hJ jh
      try dsimp only at hJ jh
      try dsimp only
      have hjk := hJ.1
      refine k_iload X dX2_make_83 6 rfl ?_
      refine k_bipush (v := 16) X dX2_make_85 (by decide) ?_
      refine k_icmp_ge (tgt := 117) (xi := ((kk : Nat) : Int)) (yi := (16 : Int)) X (nI_toInt (by omega)) (by decide) dX2_make_87 (by decide) (fun c_87 => ?_) (fun c_87 => ?_)
      · refine k_iinc (v := nI (b + 1)) (lv' := [(5, .int (nI (b + 1))), (0, .ref g), (1, .ref r), (2, .int (nI b2)), (3, .int (nI w2)), (4, .ref o), (7, .int (nI kk))]) X dX2_make_117 5 rfl (nI_1 _) (by decide) rfl ?_
        refine k_goto (tgt := 33) X dX2_make_120 (by decide) ?_
        refine k_lv (lv' := [(0, .ref g), (1, .ref r), (2, .int (nI b2)), (3, .int (nI w2)), (4, .ref o), (5, .int (nI (b + 1)))]) [1, 2, 3, 4, 5, 0] rfl ?_
        refine k_sub (ws' := [(g, .inr (2, [.int (nI b2), .int (nI w2), .int (nI (k / b2)), .ref s2, .ref d2, .ref qh, .ref n2])), (s2, .inl (cI, (rCap 2000 N (k / b2)), .inl (upd sm1 b (sSum f (b2 * b) b2)))), (d2, .inl (cB, (16 * rCap 2000 N (k / b2)), .inl dgk)), (qh, .inl (cI, 256, .inl hd)), (n2, .inl (cI, (rCap 2000 N (k / b2)), .inl nx3)), (r, .inr (1, [.int (nI mo), .ref a, .int (nI k)])), (a, .inl (cI, n, .inl f)), (o, .inr (0, [.ref aw, .ref ah])), (aw, .inl (cI, 16, .inl w3)), (ah, .inl (cI, 4, .inl h3))]) [0, 1, 2, 3, 4, 5, 6, 7, 8, 9] (by decide) rfl rfl ?_
        refine k_wide (k := 3) (n := 18 * rCost 2000 N (k / b2)) (by (try dsimp only); omega) (by (try dsimp only); omega) ?_
        exact ih (b + 1) (upd sm1 b (sSum f (b2 * b) b2)) dgk w3 h3 (⟨by omega, lt_s (fun c hc => by rw [pk_un (by omega)]; exact hI.2.1 c hc) pk_us, lt_s hJ.2.1 (fun j hj => hJ.2.2 j (by omega))⟩) (by omega)
      · refine k_aload_n X dX2_make_90 rfl 0 rfl ?_
        refine k_get (v := .ref d2) X 0 2 4 rfl rfl (by decide) fl_X2_25 in_X2 rfl rfl dX2_make_91 ?_
        refine k_iload X dX2_make_94 5 rfl ?_
        refine k_bipush (v := 16) X dX2_make_96 (by decide) ?_
        refine k_imul X dX2_make_98 ?_
        refine k_as (y := nI (16 * b)) (by rw [Nat.mul_comm]; exact n_mul b 16) ?_
        refine k_iload X dX2_make_99 6 rfl ?_
        refine k_iadd X dX2_make_101 ?_
        refine k_as (y := nI (16 * b + kk)) (nI_add _ _) ?_
        refine k_aload X dX2_make_102 4 rfl ?_
        refine k_iload X dX2_make_104 6 rfl ?_
        refine k_callV (wc := [(o, .inr (0, [.ref aw, .ref ah])), (ah, .inl (cI, 4, .inl h3))]) (wr := [(g, .inr (2, [.int (nI b2), .int (nI w2), .int (nI (k / b2)), .ref s2, .ref d2, .ref qh, .ref n2])), (s2, .inl (cI, (rCap 2000 N (k / b2)), .inl (upd sm1 b (sSum f (b2 * b) b2)))), (d2, .inl (cB, (16 * rCap 2000 N (k / b2)), .inl dgk)), (qh, .inl (cI, 256, .inl hd)), (n2, .inl (cI, (rCap 2000 N (k / b2)), .inl nx3)), (r, .inr (1, [.int (nI mo), .ref a, .int (nI k)])), (a, .inl (cI, n, .inl f)), (aw, .inl (cI, 16, .inl w3))]) (As := [.int (nI kk)]) (n := 1) (st := [.int (nI (16 * b + kk)), .ref d2]) (q0 := 0) X (c_digestByte l D cI cB o aw ah h3 kk (by omega)) rfl rfl ml_X2_64 im_X0_digestByte se_X0_digestByte ini_X0 co_X0_digestByte (by decide +kernel) rfl ⟨Nat.le_of_ble_eq_true rfl, Nat.le_of_ble_eq_true rfl⟩ (⟨by (try dsimp only); omega, by (try dsimp only); omega⟩) (Nat.le_of_ble_eq_true rfl) [7, 9] [0, 1, 2, 3, 4, 5, 6, 8] rfl rfl rfl (by decide) (by decide) (by decide) rfl dX2_make_106 (fun v_106 u_106 hu_106 => ?_)
        obtain ⟨rfl, rfl⟩ := hu_106
        refine k_to (ws' := [(g, .inr (2, [.int (nI b2), .int (nI w2), .int (nI (k / b2)), .ref s2, .ref d2, .ref qh, .ref n2])), (s2, .inl (cI, (rCap 2000 N (k / b2)), .inl (upd sm1 b (sSum f (b2 * b) b2)))), (d2, .inl (cB, (16 * rCap 2000 N (k / b2)), .inl dgk)), (qh, .inl (cI, 256, .inl hd)), (n2, .inl (cI, (rCap 2000 N (k / b2)), .inl nx3)), (r, .inr (1, [.int (nI mo), .ref a, .int (nI k)])), (a, .inl (cI, n, .inl f)), (aw, .inl (cI, 16, .inl w3)), (o, .inr (0, [.ref aw, .ref ah])), (ah, .inl (cI, 4, .inl h3))]) (st' := [.int (dByte h3 kk), .int (nI (16 * b + kk)), .ref d2]) rfl rfl ?_
        refine k_i2b (v := (dByte h3 kk).toInt8.toInt32) X dX2_make_109 rfl ?_
        refine k_bast (f' := upd dgk (16 * b + kk) (vp_nar .byte ((dByte h3 kk).toInt8.toInt32))) (ws' := [(g, .inr (2, [.int (nI b2), .int (nI w2), .int (nI (k / b2)), .ref s2, .ref d2, .ref qh, .ref n2])), (s2, .inl (cI, (rCap 2000 N (k / b2)), .inl (upd sm1 b (sSum f (b2 * b) b2)))), (d2, .inl (cB, (16 * rCap 2000 N (k / b2)), .inl (upd dgk (16 * b + kk) (vp_nar .byte ((dByte h3 kk).toInt8.toInt32))))), (qh, .inl (cI, 256, .inl hd)), (n2, .inl (cI, (rCap 2000 N (k / b2)), .inl nx3)), (r, .inr (1, [.int (nI mo), .ref a, .int (nI k)])), (a, .inl (cI, n, .inl f)), (aw, .inl (cI, 16, .inl w3)), (o, .inr (0, [.ref aw, .ref ah])), (ah, .inl (cI, 4, .inl h3))]) X 2 rfl (vp_in_nI (n := 16 * b + kk) (by omega) (by omega)) (by rw [nI_clamp (n := 16 * b + kk) (by omega)]) rfl dX2_make_110 ?_
        refine k_iinc (v := nI (kk + 1)) (lv' := [(7, .int (nI (kk + 1))), (0, .ref g), (1, .ref r), (2, .int (nI b2)), (3, .int (nI w2)), (4, .ref o), (5, .int (nI b))]) X dX2_make_111 6 rfl (nI_1 _) (by decide) rfl ?_
        refine k_goto (tgt := 83) X dX2_make_114 (by decide) ?_
        refine k_lv (lv' := [(0, .ref g), (1, .ref r), (2, .int (nI b2)), (3, .int (nI w2)), (4, .ref o), (5, .int (nI b)), (7, .int (nI (kk + 1)))]) [1, 2, 3, 4, 5, 6, 0] rfl ?_
        refine k_sub (ws' := [(g, .inr (2, [.int (nI b2), .int (nI w2), .int (nI (k / b2)), .ref s2, .ref d2, .ref qh, .ref n2])), (s2, .inl (cI, (rCap 2000 N (k / b2)), .inl (upd sm1 b (sSum f (b2 * b) b2)))), (d2, .inl (cB, (16 * rCap 2000 N (k / b2)), .inl (upd dgk (16 * b + kk) (vp_nar .byte (dByte h3 kk).toInt8.toInt32)))), (qh, .inl (cI, 256, .inl hd)), (n2, .inl (cI, (rCap 2000 N (k / b2)), .inl nx3)), (r, .inr (1, [.int (nI mo), .ref a, .int (nI k)])), (a, .inl (cI, n, .inl f)), (o, .inr (0, [.ref aw, .ref ah])), (aw, .inl (cI, 16, .inl w3)), (ah, .inl (cI, 4, .inl h3))]) [0, 1, 2, 3, 4, 5, 6, 8, 7, 9] (by decide) rfl rfl ?_
        refine k_wide (k := 3) (n := 18 * rCost 2000 N (k / b2)) (by (try dsimp only); omega) (by (try dsimp only); omega) ?_
        exact jh (kk + 1) (upd dgk (16 * b + kk) (vp_nar .byte (dByte h3 kk).toInt8.toInt32)) (⟨by omega, digs_step hJ.2.1 hJ.2.2 (by omega) (by rw [pk_vb, dByte_congr hh3 (by omega)]; rfl)⟩) (by omega)
  · exact absurd c_2 (by omega)
end
