-- ===== PART A: goes FIRST, ahead of the names: the tables' words, and 'selects' of the private methods out of them =====
/-- a private method of a class that the tables say can be made, by its rows of tables_1 -/
def lw_okq (q : MethodName × Nat) : Prop := (q.1.cls ≠ "java/lang/invoke/MethodHandle" ∧ q.1.cls ≠ "java/lang/invoke/VarHandle") ∧ Cond.instantiable q.1.cls q.2 ∈ tables_1 ∧ Cond.privateMethod q.1 ∈ tables_1 ∧ Cond.instanceMethod q.1 ∈ tables_1
theorem lw_p0 : lw_okq (⟨"DeltaSync$Teller", "startAnew", "()V"⟩, 11) := ⟨⟨by decide +kernel, by decide +kernel⟩, List.mem_of_getElem? (i := 81) (by decide +kernel), List.mem_of_getElem? (i := 87) (by decide +kernel), List.mem_of_getElem? (i := 88) (by decide +kernel)⟩
theorem lw_p1 : lw_okq (⟨"DeltaSync", "fileOf", "(I)LDeltaSync$Row;"⟩, 9) := ⟨⟨by decide +kernel, by decide +kernel⟩, List.mem_of_getElem? (i := 11) (by decide +kernel), List.mem_of_getElem? (i := 157) (by decide +kernel), List.mem_of_getElem? (i := 158) (by decide +kernel)⟩
theorem lw_p2 : lw_okq (⟨"DeltaSync", "rowOf", "(I)LDeltaSync$Row;"⟩, 9) := ⟨⟨by decide +kernel, by decide +kernel⟩, List.mem_of_getElem? (i := 11) (by decide +kernel), List.mem_of_getElem? (i := 161) (by decide +kernel), List.mem_of_getElem? (i := 162) (by decide +kernel)⟩
theorem lw_p3 : lw_okq (⟨"DeltaSync$Row", "makeCells", "(I)V"⟩, 3) := ⟨⟨by decide +kernel, by decide +kernel⟩, List.mem_of_getElem? (i := 19) (by decide +kernel), List.mem_of_getElem? (i := 176) (by decide +kernel), List.mem_of_getElem? (i := 177) (by decide +kernel)⟩
theorem lw_p4 : lw_okq (⟨"DeltaSync$Signature", "makeRoom", "()V"⟩, 7) := ⟨⟨by decide +kernel, by decide +kernel⟩, List.mem_of_getElem? (i := 49) (by decide +kernel), List.mem_of_getElem? (i := 233) (by decide +kernel), List.mem_of_getElem? (i := 234) (by decide +kernel)⟩
theorem lw_p5 : lw_okq (⟨"DeltaSync$Md5", "fillWords", "(LDeltaSync$Row;III)V"⟩, 2) := ⟨⟨by decide +kernel, by decide +kernel⟩, List.mem_of_getElem? (i := 36) (by decide +kernel), List.mem_of_getElem? (i := 260) (by decide +kernel), List.mem_of_getElem? (i := 261) (by decide +kernel)⟩
theorem lw_p6 : lw_okq (⟨"DeltaSync$Md5", "mixWords", "()V"⟩, 2) := ⟨⟨by decide +kernel, by decide +kernel⟩, List.mem_of_getElem? (i := 36) (by decide +kernel), List.mem_of_getElem? (i := 270) (by decide +kernel), List.mem_of_getElem? (i := 271) (by decide +kernel)⟩
theorem lw_p7 : lw_okq (⟨"DeltaSync$Signature", "chainBlocks", "()V"⟩, 7) := ⟨⟨by decide +kernel, by decide +kernel⟩, List.mem_of_getElem? (i := 49) (by decide +kernel), List.mem_of_getElem? (i := 288) (by decide +kernel), List.mem_of_getElem? (i := 289) (by decide +kernel)⟩
theorem lw_p8 : lw_okq (⟨"DeltaSync$Signature", "has", "(I)Z"⟩, 7) := ⟨⟨by decide +kernel, by decide +kernel⟩, List.mem_of_getElem? (i := 49) (by decide +kernel), List.mem_of_getElem? (i := 308) (by decide +kernel), List.mem_of_getElem? (i := 309) (by decide +kernel)⟩
theorem lw_p9 : lw_okq (⟨"DeltaSync$Teller", "blockFor", "(III)I"⟩, 11) := ⟨⟨by decide +kernel, by decide +kernel⟩, List.mem_of_getElem? (i := 81) (by decide +kernel), List.mem_of_getElem? (i := 339) (by decide +kernel), List.mem_of_getElem? (i := 340) (by decide +kernel)⟩
theorem lw_p10 : lw_okq (⟨"DeltaSync$Signature", "firstInChain", "(II)I"⟩, 7) := ⟨⟨by decide +kernel, by decide +kernel⟩, List.mem_of_getElem? (i := 49) (by decide +kernel), List.mem_of_getElem? (i := 347) (by decide +kernel), List.mem_of_getElem? (i := 348) (by decide +kernel)⟩
theorem lw_p11 : lw_okq (⟨"DeltaSync$Signature", "hasDigest", "(ILDeltaSync$Md5;)Z"⟩, 7) := ⟨⟨by decide +kernel, by decide +kernel⟩, List.mem_of_getElem? (i := 49) (by decide +kernel), List.mem_of_getElem? (i := 356) (by decide +kernel), List.mem_of_getElem? (i := 357) (by decide +kernel)⟩
theorem lw_p12 : lw_okq (⟨"DeltaSync$Teller", "writeLiteral", "(I)V"⟩, 11) := ⟨⟨by decide +kernel, by decide +kernel⟩, List.mem_of_getElem? (i := 81) (by decide +kernel), List.mem_of_getElem? (i := 362) (by decide +kernel), List.mem_of_getElem? (i := 363) (by decide +kernel)⟩
theorem lw_p13 : lw_okq (⟨"DeltaSync$Teller", "growRow", "()V"⟩, 11) := ⟨⟨by decide +kernel, by decide +kernel⟩, List.mem_of_getElem? (i := 81) (by decide +kernel), List.mem_of_getElem? (i := 366) (by decide +kernel), List.mem_of_getElem? (i := 367) (by decide +kernel)⟩
theorem lw_p14 : lw_okq (⟨"DeltaSync$Teller", "openRow", "()V"⟩, 11) := ⟨⟨by decide +kernel, by decide +kernel⟩, List.mem_of_getElem? (i := 81) (by decide +kernel), List.mem_of_getElem? (i := 372) (by decide +kernel), List.mem_of_getElem? (i := 373) (by decide +kernel)⟩
theorem lw_p15 : lw_okq (⟨"DeltaSync$Teller", "rolled", "(III)I"⟩, 11) := ⟨⟨by decide +kernel, by decide +kernel⟩, List.mem_of_getElem? (i := 81) (by decide +kernel), List.mem_of_getElem? (i := 376) (by decide +kernel), List.mem_of_getElem? (i := 377) (by decide +kernel)⟩
def lw_privs_1 : List (MethodName × Nat) := [(⟨"DeltaSync$Teller", "startAnew", "()V"⟩, 11), (⟨"DeltaSync", "fileOf", "(I)LDeltaSync$Row;"⟩, 9), (⟨"DeltaSync", "rowOf", "(I)LDeltaSync$Row;"⟩, 9), (⟨"DeltaSync$Row", "makeCells", "(I)V"⟩, 3), (⟨"DeltaSync$Signature", "makeRoom", "()V"⟩, 7), (⟨"DeltaSync$Md5", "fillWords", "(LDeltaSync$Row;III)V"⟩, 2), (⟨"DeltaSync$Md5", "mixWords", "()V"⟩, 2), (⟨"DeltaSync$Signature", "chainBlocks", "()V"⟩, 7), (⟨"DeltaSync$Signature", "has", "(I)Z"⟩, 7), (⟨"DeltaSync$Teller", "blockFor", "(III)I"⟩, 11), (⟨"DeltaSync$Signature", "firstInChain", "(II)I"⟩, 7), (⟨"DeltaSync$Signature", "hasDigest", "(ILDeltaSync$Md5;)Z"⟩, 7), (⟨"DeltaSync$Teller", "writeLiteral", "(I)V"⟩, 11), (⟨"DeltaSync$Teller", "growRow", "()V"⟩, 11), (⟨"DeltaSync$Teller", "openRow", "()V"⟩, 11), (⟨"DeltaSync$Teller", "rolled", "(III)I"⟩, 11)]
theorem lw_r1 : ∀ q ∈ lw_privs_1, lw_okq q := List.forall_mem_cons.mpr ⟨lw_p0, List.forall_mem_cons.mpr ⟨lw_p1, List.forall_mem_cons.mpr ⟨lw_p2, List.forall_mem_cons.mpr ⟨lw_p3, List.forall_mem_cons.mpr ⟨lw_p4, List.forall_mem_cons.mpr ⟨lw_p5, List.forall_mem_cons.mpr ⟨lw_p6, List.forall_mem_cons.mpr ⟨lw_p7, List.forall_mem_cons.mpr ⟨lw_p8, List.forall_mem_cons.mpr ⟨lw_p9, List.forall_mem_cons.mpr ⟨lw_p10, List.forall_mem_cons.mpr ⟨lw_p11, List.forall_mem_cons.mpr ⟨lw_p12, List.forall_mem_cons.mpr ⟨lw_p13, List.forall_mem_cons.mpr ⟨lw_p14, List.forall_mem_cons.mpr ⟨lw_p15, fun _ h => absurd h List.not_mem_nil⟩⟩⟩⟩⟩⟩⟩⟩⟩⟩⟩⟩⟩⟩⟩⟩
theorem lw_p16 : lw_okq (⟨"DeltaSync$Teller", "writeReference", "(I)V"⟩, 11) := ⟨⟨by decide +kernel, by decide +kernel⟩, List.mem_of_getElem? (i := 81) (by decide +kernel), List.mem_of_getElem? (i := 382) (by decide +kernel), List.mem_of_getElem? (i := 383) (by decide +kernel)⟩
theorem lw_p17 : lw_okq (⟨"DeltaSync", "allRowsApplied", "()Z"⟩, 9) := ⟨⟨by decide +kernel, by decide +kernel⟩, List.mem_of_getElem? (i := 11) (by decide +kernel), List.mem_of_getElem? (i := 391) (by decide +kernel), List.mem_of_getElem? (i := 392) (by decide +kernel)⟩
theorem lw_p18 : lw_okq (⟨"DeltaSync", "applyRow", "(I)I"⟩, 9) := ⟨⟨by decide +kernel, by decide +kernel⟩, List.mem_of_getElem? (i := 11) (by decide +kernel), List.mem_of_getElem? (i := 395) (by decide +kernel), List.mem_of_getElem? (i := 396) (by decide +kernel)⟩
theorem lw_p19 : lw_okq (⟨"DeltaSync", "applyLiterals", "(I)I"⟩, 9) := ⟨⟨by decide +kernel, by decide +kernel⟩, List.mem_of_getElem? (i := 11) (by decide +kernel), List.mem_of_getElem? (i := 400) (by decide +kernel), List.mem_of_getElem? (i := 401) (by decide +kernel)⟩
theorem lw_p20 : lw_okq (⟨"DeltaSync", "applyReferences", "(I)I"⟩, 9) := ⟨⟨by decide +kernel, by decide +kernel⟩, List.mem_of_getElem? (i := 11) (by decide +kernel), List.mem_of_getElem? (i := 410) (by decide +kernel), List.mem_of_getElem? (i := 411) (by decide +kernel)⟩
theorem lw_p21 : lw_okq (⟨"DeltaSyncModel", "sumOf", "(II)I"⟩, 22) := ⟨⟨by decide +kernel, by decide +kernel⟩, List.mem_of_getElem? (i := 479) (by decide +kernel), List.mem_of_getElem? (i := 639) (by decide +kernel), List.mem_of_getElem? (i := 640) (by decide +kernel)⟩
theorem lw_p22 : lw_okq (⟨"DeltaSyncModel", "digestOf", "(II)V"⟩, 22) := ⟨⟨by decide +kernel, by decide +kernel⟩, List.mem_of_getElem? (i := 479) (by decide +kernel), List.mem_of_getElem? (i := 644) (by decide +kernel), List.mem_of_getElem? (i := 645) (by decide +kernel)⟩
theorem lw_p23 : lw_okq (⟨"DeltaSyncModel", "mix", "(I)V"⟩, 22) := ⟨⟨by decide +kernel, by decide +kernel⟩, List.mem_of_getElem? (i := 479) (by decide +kernel), List.mem_of_getElem? (i := 653) (by decide +kernel), List.mem_of_getElem? (i := 654) (by decide +kernel)⟩
theorem lw_p24 : lw_okq (⟨"DeltaSyncModel", "digestByte", "(I)I"⟩, 22) := ⟨⟨by decide +kernel, by decide +kernel⟩, List.mem_of_getElem? (i := 479) (by decide +kernel), List.mem_of_getElem? (i := 657) (by decide +kernel), List.mem_of_getElem? (i := 658) (by decide +kernel)⟩
theorem lw_p25 : lw_okq (⟨"DeltaSyncModel", "blockAt", "(II)I"⟩, 22) := ⟨⟨by decide +kernel, by decide +kernel⟩, List.mem_of_getElem? (i := 479) (by decide +kernel), List.mem_of_getElem? (i := 673) (by decide +kernel), List.mem_of_getElem? (i := 674) (by decide +kernel)⟩
theorem lw_p26 : lw_okq (⟨"DeltaSyncModel", "isDigest", "(I)Z"⟩, 22) := ⟨⟨by decide +kernel, by decide +kernel⟩, List.mem_of_getElem? (i := 479) (by decide +kernel), List.mem_of_getElem? (i := 677) (by decide +kernel), List.mem_of_getElem? (i := 678) (by decide +kernel)⟩
theorem lw_p27 : lw_okq (⟨"DeltaSyncModel", "add", "(I)V"⟩, 22) := ⟨⟨by decide +kernel, by decide +kernel⟩, List.mem_of_getElem? (i := 479) (by decide +kernel), List.mem_of_getElem? (i := 681) (by decide +kernel), List.mem_of_getElem? (i := 682) (by decide +kernel)⟩
def lw_privs_2 : List (MethodName × Nat) := [(⟨"DeltaSync$Teller", "writeReference", "(I)V"⟩, 11), (⟨"DeltaSync", "allRowsApplied", "()Z"⟩, 9), (⟨"DeltaSync", "applyRow", "(I)I"⟩, 9), (⟨"DeltaSync", "applyLiterals", "(I)I"⟩, 9), (⟨"DeltaSync", "applyReferences", "(I)I"⟩, 9), (⟨"DeltaSyncModel", "sumOf", "(II)I"⟩, 22), (⟨"DeltaSyncModel", "digestOf", "(II)V"⟩, 22), (⟨"DeltaSyncModel", "mix", "(I)V"⟩, 22), (⟨"DeltaSyncModel", "digestByte", "(I)I"⟩, 22), (⟨"DeltaSyncModel", "blockAt", "(II)I"⟩, 22), (⟨"DeltaSyncModel", "isDigest", "(I)Z"⟩, 22), (⟨"DeltaSyncModel", "add", "(I)V"⟩, 22)]
theorem lw_r2 : ∀ q ∈ lw_privs_2, lw_okq q := List.forall_mem_cons.mpr ⟨lw_p16, List.forall_mem_cons.mpr ⟨lw_p17, List.forall_mem_cons.mpr ⟨lw_p18, List.forall_mem_cons.mpr ⟨lw_p19, List.forall_mem_cons.mpr ⟨lw_p20, List.forall_mem_cons.mpr ⟨lw_p21, List.forall_mem_cons.mpr ⟨lw_p22, List.forall_mem_cons.mpr ⟨lw_p23, List.forall_mem_cons.mpr ⟨lw_p24, List.forall_mem_cons.mpr ⟨lw_p25, List.forall_mem_cons.mpr ⟨lw_p26, List.forall_mem_cons.mpr ⟨lw_p27, fun _ h => absurd h List.not_mem_nil⟩⟩⟩⟩⟩⟩⟩⟩⟩⟩⟩⟩
def lw_privs : List (MethodName × Nat) := lw_privs_1 ++ (lw_privs_2)
def lw_tbl : List Cond := k2_sels lw_privs ++ tables_1
theorem lw_privs_ok : ∀ q ∈ lw_privs, lw_okq q := by
  show ∀ q ∈ lw_privs_1 ++ (lw_privs_2), lw_okq q
  exact List.forall_mem_append.mpr ⟨lw_r1, lw_r2⟩
def RX0 : String := "DeltaSync$Md5"
def TX0 : u_T := fun k => match k with
  | 0 => ("DeltaSync$Md5", "words", "[I", true)
  | _ => ("DeltaSync$Md5", "state", "[I", true)
def tyX0 : Nat → FieldType := fun k => match k with
  | 0 => .array .int
  | _ => .array .int
abbrev wsX00 : List Cond := u_ws RX0 TX0 2
theorem nmX0 : ∀ a, a < 2 → ∀ b, b < 2 → a ≠ b → (TX0 a).2.1 ≠ (TX0 b).2.1 := by decide +kernel
theorem tyX0_ok : ∀ k, k < 2 → parseFieldDescriptor (TX0 k).2.2.1 = some (tyX0 k) := by decide +kernel
abbrev cX0_init : ByteArray := prog_2_method_1_code
def yX0_init : MethodName := ⟨RX0, "<init>", "()V"⟩
abbrev cX0_take : ByteArray := prog_2_method_2_code
def yX0_take : MethodName := ⟨RX0, "take", "(LDeltaSync$Row;II)V"⟩
abbrev cX0_digestByte : ByteArray := prog_2_method_3_code
def yX0_digestByte : MethodName := ⟨RX0, "digestByte", "(I)I"⟩
abbrev cX0_fillWords : ByteArray := prog_2_method_4_code
def yX0_fillWords : MethodName := ⟨RX0, "fillWords", "(LDeltaSync$Row;III)V"⟩
abbrev cX0_mixWords : ByteArray := prog_2_method_5_code
def yX0_mixWords : MethodName := ⟨RX0, "mixWords", "()V"⟩
abbrev cX0_mixed : ByteArray := prog_2_method_6_code
def yX0_mixed : MethodName := ⟨RX0, "mixed", "(IIII)I"⟩
abbrev cX0_wordFor : ByteArray := prog_2_method_7_code
def yX0_wordFor : MethodName := ⟨RX0, "wordFor", "(II)I"⟩
def RX1 : String := "DeltaSync$Row"
def TX1 : u_T := fun k => match k with
  | 0 => ("DeltaSync$Row", "most", "I", true)
  | 1 => ("DeltaSync$Row", "cells", "[I", false)
  | _ => ("DeltaSync$Row", "used", "I", false)
def tyX1 : Nat → FieldType := fun k => match k with
  | 0 => .int
  | 1 => .array .int
  | _ => .int
abbrev wsX10 : List Cond := u_ws RX1 TX1 3
theorem nmX1 : ∀ a, a < 3 → ∀ b, b < 3 → a ≠ b → (TX1 a).2.1 ≠ (TX1 b).2.1 := by decide +kernel
theorem tyX1_ok : ∀ k, k < 3 → parseFieldDescriptor (TX1 k).2.2.1 = some (tyX1 k) := by decide +kernel
abbrev cX1_init : ByteArray := prog_3_method_1_code
def yX1_init : MethodName := ⟨RX1, "<init>", "(I)V"⟩
abbrev cX1_length : ByteArray := prog_3_method_2_code
def yX1_length : MethodName := ⟨RX1, "length", "()I"⟩
abbrev cX1_room : ByteArray := prog_3_method_3_code
def yX1_room : MethodName := ⟨RX1, "room", "()I"⟩
abbrev cX1_clear : ByteArray := prog_3_method_4_code
def yX1_clear : MethodName := ⟨RX1, "clear", "()V"⟩
abbrev cX1_holds : ByteArray := prog_3_method_5_code
def yX1_holds : MethodName := ⟨RX1, "holds", "(II)Z"⟩
abbrev cX1_get : ByteArray := prog_3_method_6_code
def yX1_get : MethodName := ⟨RX1, "get", "(I)I"⟩
abbrev cX1_set : ByteArray := prog_3_method_7_code
def yX1_set : MethodName := ⟨RX1, "set", "(II)Z"⟩
abbrev cX1_add : ByteArray := prog_3_method_8_code
def yX1_add : MethodName := ⟨RX1, "add", "(I)Z"⟩
abbrev cX1_addFrom : ByteArray := prog_3_method_9_code
def yX1_addFrom : MethodName := ⟨RX1, "addFrom", "(LDeltaSync$Row;II)Z"⟩
abbrev cX1_shorten : ByteArray := prog_3_method_10_code
def yX1_shorten : MethodName := ⟨RX1, "shorten", "(I)Z"⟩
abbrev cX1_equalTo : ByteArray := prog_3_method_11_code
def yX1_equalTo : MethodName := ⟨RX1, "equalTo", "(LDeltaSync$Row;)Z"⟩
abbrev cX1_sumFrom : ByteArray := prog_3_method_12_code
def yX1_sumFrom : MethodName := ⟨RX1, "sumFrom", "(II)I"⟩
abbrev cX1_joined : ByteArray := prog_3_method_13_code
def yX1_joined : MethodName := ⟨RX1, "joined", "(II)I"⟩
abbrev cX1_isByte : ByteArray := prog_3_method_14_code
def yX1_isByte : MethodName := ⟨RX1, "isByte", "(I)Z"⟩
abbrev cX1_makeCells : ByteArray := prog_3_method_15_code
def yX1_makeCells : MethodName := ⟨RX1, "makeCells", "(I)V"⟩
def RX2 : String := "DeltaSync$Signature"
def TX2 : u_T := fun k => match k with
  | 0 => ("DeltaSync$Signature", "blockSize", "I", false)
  | 1 => ("DeltaSync$Signature", "width", "I", false)
  | 2 => ("DeltaSync$Signature", "blocks", "I", false)
  | 3 => ("DeltaSync$Signature", "sums", "[I", false)
  | 4 => ("DeltaSync$Signature", "digests", "[B", false)
  | 5 => ("DeltaSync$Signature", "heads", "[I", true)
  | _ => ("DeltaSync$Signature", "nexts", "[I", false)
def tyX2 : Nat → FieldType := fun k => match k with
  | 0 => .int
  | 1 => .int
  | 2 => .int
  | 3 => .array .int
  | 4 => .array .byte
  | 5 => .array .int
  | _ => .array .int
abbrev wsX20 : List Cond := u_ws RX2 TX2 7
theorem nmX2 : ∀ a, a < 7 → ∀ b, b < 7 → a ≠ b → (TX2 a).2.1 ≠ (TX2 b).2.1 := by decide +kernel
theorem tyX2_ok : ∀ k, k < 7 → parseFieldDescriptor (TX2 k).2.2.1 = some (tyX2 k) := by decide +kernel
abbrev cX2_init : ByteArray := prog_4_method_1_code
def yX2_init : MethodName := ⟨RX2, "<init>", "()V"⟩
abbrev cX2_blocks : ByteArray := prog_4_method_2_code
def yX2_blocks : MethodName := ⟨RX2, "blocks", "()I"⟩
abbrev cX2_blockSize : ByteArray := prog_4_method_3_code
def yX2_blockSize : MethodName := ⟨RX2, "blockSize", "()I"⟩
abbrev cX2_width : ByteArray := prog_4_method_4_code
def yX2_width : MethodName := ⟨RX2, "width", "()I"⟩
abbrev cX2_sumOf : ByteArray := prog_4_method_5_code
def yX2_sumOf : MethodName := ⟨RX2, "sumOf", "(I)I"⟩
abbrev cX2_digestByte : ByteArray := prog_4_method_6_code
def yX2_digestByte : MethodName := ⟨RX2, "digestByte", "(II)I"⟩
abbrev cX2_make : ByteArray := prog_4_method_7_code
def yX2_make : MethodName := ⟨RX2, "make", "(LDeltaSync$Row;IILDeltaSync$Md5;)V"⟩
abbrev cX2_hasSum : ByteArray := prog_4_method_8_code
def yX2_hasSum : MethodName := ⟨RX2, "hasSum", "(I)Z"⟩
abbrev cX2_find : ByteArray := prog_4_method_9_code
def yX2_find : MethodName := ⟨RX2, "find", "(ILDeltaSync$Md5;I)I"⟩
abbrev cX2_has : ByteArray := prog_4_method_10_code
def yX2_has : MethodName := ⟨RX2, "has", "(I)Z"⟩
abbrev cX2_firstInChain : ByteArray := prog_4_method_11_code
def yX2_firstInChain : MethodName := ⟨RX2, "firstInChain", "(II)I"⟩
abbrev cX2_hasDigest : ByteArray := prog_4_method_12_code
def yX2_hasDigest : MethodName := ⟨RX2, "hasDigest", "(ILDeltaSync$Md5;)Z"⟩
abbrev cX2_makeRoom : ByteArray := prog_4_method_13_code
def yX2_makeRoom : MethodName := ⟨RX2, "makeRoom", "()V"⟩
abbrev cX2_chainBlocks : ByteArray := prog_4_method_14_code
def yX2_chainBlocks : MethodName := ⟨RX2, "chainBlocks", "()V"⟩
abbrev cX2_chainOf : ByteArray := prog_4_method_15_code
def yX2_chainOf : MethodName := ⟨RX2, "chainOf", "(I)I"⟩
def RX3 : String := "DeltaSync$Teller"
def TX3 : u_T := fun k => match k with
  | 0 => ("DeltaSync$Teller", "source", "LDeltaSync$Row;", true)
  | 1 => ("DeltaSync$Teller", "target", "LDeltaSync$Row;", true)
  | 2 => ("DeltaSync$Teller", "signature", "LDeltaSync$Signature;", true)
  | 3 => ("DeltaSync$Teller", "hasher", "LDeltaSync$Md5;", true)
  | 4 => ("DeltaSync$Teller", "references", "I", false)
  | 5 => ("DeltaSync$Teller", "literals", "I", false)
  | 6 => ("DeltaSync$Teller", "rows", "I", false)
  | 7 => ("DeltaSync$Teller", "alarms", "I", false)
  | 8 => ("DeltaSync$Teller", "inRow", "I", false)
  | 9 => ("DeltaSync$Teller", "inRowAt", "I", false)
  | _ => ("DeltaSync$Teller", "lastBlock", "I", false)
def tyX3 : Nat → FieldType := fun k => match k with
  | 0 => .object "DeltaSync$Row"
  | 1 => .object "DeltaSync$Row"
  | 2 => .object "DeltaSync$Signature"
  | 3 => .object "DeltaSync$Md5"
  | 4 => .int
  | 5 => .int
  | 6 => .int
  | 7 => .int
  | 8 => .int
  | 9 => .int
  | _ => .int
abbrev wsX30 : List Cond := u_ws RX3 TX3 11
theorem nmX3 : ∀ a, a < 11 → ∀ b, b < 11 → a ≠ b → (TX3 a).2.1 ≠ (TX3 b).2.1 := by decide +kernel
theorem tyX3_ok : ∀ k, k < 11 → parseFieldDescriptor (TX3 k).2.2.1 = some (tyX3 k) := by decide +kernel
abbrev cX3_init : ByteArray := prog_5_method_1_code
def yX3_init : MethodName := ⟨RX3, "<init>", "(LDeltaSync$Row;LDeltaSync$Row;LDeltaSync$Signature;LDeltaSync$Md5;)V"⟩
abbrev cX3_references : ByteArray := prog_5_method_2_code
def yX3_references : MethodName := ⟨RX3, "references", "()I"⟩
abbrev cX3_literals : ByteArray := prog_5_method_3_code
def yX3_literals : MethodName := ⟨RX3, "literals", "()I"⟩
abbrev cX3_rows : ByteArray := prog_5_method_4_code
def yX3_rows : MethodName := ⟨RX3, "rows", "()I"⟩
abbrev cX3_alarms : ByteArray := prog_5_method_5_code
def yX3_alarms : MethodName := ⟨RX3, "alarms", "()I"⟩
abbrev cX3_tell : ByteArray := prog_5_method_6_code
def yX3_tell : MethodName := ⟨RX3, "tell", "()V"⟩
abbrev cX3_startAnew : ByteArray := prog_5_method_7_code
def yX3_startAnew : MethodName := ⟨RX3, "startAnew", "()V"⟩
abbrev cX3_blockFor : ByteArray := prog_5_method_8_code
def yX3_blockFor : MethodName := ⟨RX3, "blockFor", "(III)I"⟩
abbrev cX3_rolled : ByteArray := prog_5_method_9_code
def yX3_rolled : MethodName := ⟨RX3, "rolled", "(III)I"⟩
abbrev cX3_writeLiteral : ByteArray := prog_5_method_10_code
def yX3_writeLiteral : MethodName := ⟨RX3, "writeLiteral", "(I)V"⟩
abbrev cX3_writeReference : ByteArray := prog_5_method_11_code
def yX3_writeReference : MethodName := ⟨RX3, "writeReference", "(I)V"⟩
abbrev cX3_openRow : ByteArray := prog_5_method_12_code
def yX3_openRow : MethodName := ⟨RX3, "openRow", "()V"⟩
abbrev cX3_growRow : ByteArray := prog_5_method_13_code
def yX3_growRow : MethodName := ⟨RX3, "growRow", "()V"⟩
def RX4 : String := "DeltaSync"
def TX4 : u_T := fun k => match k with
  | 0 => ("DeltaSync", "oldFile", "LDeltaSync$Row;", true)
  | 1 => ("DeltaSync", "newFile", "LDeltaSync$Row;", true)
  | 2 => ("DeltaSync", "told", "LDeltaSync$Row;", true)
  | 3 => ("DeltaSync", "result", "LDeltaSync$Row;", true)
  | 4 => ("DeltaSync", "hasher", "LDeltaSync$Md5;", true)
  | 5 => ("DeltaSync", "signature", "LDeltaSync$Signature;", true)
  | 6 => ("DeltaSync", "teller", "LDeltaSync$Teller;", true)
  | 7 => ("DeltaSync", "nextBlockSize", "I", false)
  | _ => ("DeltaSync", "nextWidth", "I", false)
def tyX4 : Nat → FieldType := fun k => match k with
  | 0 => .object "DeltaSync$Row"
  | 1 => .object "DeltaSync$Row"
  | 2 => .object "DeltaSync$Row"
  | 3 => .object "DeltaSync$Row"
  | 4 => .object "DeltaSync$Md5"
  | 5 => .object "DeltaSync$Signature"
  | 6 => .object "DeltaSync$Teller"
  | 7 => .int
  | _ => .int
abbrev wsX40 : List Cond := u_ws RX4 TX4 9
theorem nmX4 : ∀ a, a < 9 → ∀ b, b < 9 → a ≠ b → (TX4 a).2.1 ≠ (TX4 b).2.1 := by decide +kernel
theorem tyX4_ok : ∀ k, k < 9 → parseFieldDescriptor (TX4 k).2.2.1 = some (tyX4 k) := by decide +kernel
abbrev cX4_init : ByteArray := prog_1_method_1_code
def yX4_init : MethodName := ⟨RX4, "<init>", "()V"⟩
abbrev cX4_feed : ByteArray := prog_1_method_2_code
def yX4_feed : MethodName := ⟨RX4, "feed", "(II)I"⟩
abbrev cX4_cut : ByteArray := prog_1_method_3_code
def yX4_cut : MethodName := ⟨RX4, "cut", "(II)Z"⟩
abbrev cX4_put : ByteArray := prog_1_method_4_code
def yX4_put : MethodName := ⟨RX4, "put", "(III)Z"⟩
abbrev cX4_shape : ByteArray := prog_1_method_5_code
def yX4_shape : MethodName := ⟨RX4, "shape", "(II)Z"⟩
abbrev cX4_sign : ByteArray := prog_1_method_6_code
def yX4_sign : MethodName := ⟨RX4, "sign", "()I"⟩
abbrev cX4_sum : ByteArray := prog_1_method_7_code
def yX4_sum : MethodName := ⟨RX4, "sum", "(I)I"⟩
abbrev cX4_digest : ByteArray := prog_1_method_8_code
def yX4_digest : MethodName := ⟨RX4, "digest", "(II)I"⟩
abbrev cX4_delta : ByteArray := prog_1_method_9_code
def yX4_delta : MethodName := ⟨RX4, "delta", "()I"⟩
abbrev cX4_apply : ByteArray := prog_1_method_10_code
def yX4_apply : MethodName := ⟨RX4, "apply", "()I"⟩
abbrev cX4_at : ByteArray := prog_1_method_11_code
def yX4_at : MethodName := ⟨RX4, "at", "(II)I"⟩
abbrev cX4_size : ByteArray := prog_1_method_12_code
def yX4_size : MethodName := ⟨RX4, "size", "(I)I"⟩
abbrev cX4_change : ByteArray := prog_1_method_13_code
def yX4_change : MethodName := ⟨RX4, "change", "(II)Z"⟩
abbrev cX4_push : ByteArray := prog_1_method_14_code
def yX4_push : MethodName := ⟨RX4, "push", "(I)Z"⟩
abbrev cX4_keep : ByteArray := prog_1_method_15_code
def yX4_keep : MethodName := ⟨RX4, "keep", "(I)Z"⟩
abbrev cX4_sumAt : ByteArray := prog_1_method_16_code
def yX4_sumAt : MethodName := ⟨RX4, "sumAt", "(III)I"⟩
abbrev cX4_md5 : ByteArray := prog_1_method_17_code
def yX4_md5 : MethodName := ⟨RX4, "md5", "(II)I"⟩
abbrev cX4_same : ByteArray := prog_1_method_18_code
def yX4_same : MethodName := ⟨RX4, "same", "()Z"⟩
abbrev cX4_count : ByteArray := prog_1_method_19_code
def yX4_count : MethodName := ⟨RX4, "count", "(I)I"⟩
abbrev cX4_fileOf : ByteArray := prog_1_method_20_code
def yX4_fileOf : MethodName := ⟨RX4, "fileOf", "(I)LDeltaSync$Row;"⟩
abbrev cX4_rowOf : ByteArray := prog_1_method_21_code
def yX4_rowOf : MethodName := ⟨RX4, "rowOf", "(I)LDeltaSync$Row;"⟩
abbrev cX4_allRowsApplied : ByteArray := prog_1_method_22_code
def yX4_allRowsApplied : MethodName := ⟨RX4, "allRowsApplied", "()Z"⟩
abbrev cX4_applyRow : ByteArray := prog_1_method_23_code
def yX4_applyRow : MethodName := ⟨RX4, "applyRow", "(I)I"⟩
abbrev cX4_applyLiterals : ByteArray := prog_1_method_24_code
def yX4_applyLiterals : MethodName := ⟨RX4, "applyLiterals", "(I)I"⟩
abbrev cX4_applyReferences : ByteArray := prog_1_method_25_code
def yX4_applyReferences : MethodName := ⟨RX4, "applyReferences", "(I)I"⟩
def RX5 : String := "DeltaSyncModel"
def TX5 : u_T := fun k => match k with
  | 0 => ("DeltaSyncModel", "bytes", "[B", true)
  | 1 => ("DeltaSyncModel", "sizes", "[I", true)
  | 2 => ("DeltaSyncModel", "delta", "[B", true)
  | 3 => ("DeltaSyncModel", "deltaSize", "I", false)
  | 4 => ("DeltaSyncModel", "size", "I", false)
  | 5 => ("DeltaSyncModel", "width", "I", false)
  | 6 => ("DeltaSyncModel", "blocks", "I", false)
  | 7 => ("DeltaSyncModel", "signedSize", "I", false)
  | 8 => ("DeltaSyncModel", "signedWidth", "I", false)
  | 9 => ("DeltaSyncModel", "sums", "[I", true)
  | 10 => ("DeltaSyncModel", "digests", "[B", true)
  | 11 => ("DeltaSyncModel", "references", "I", false)
  | 12 => ("DeltaSyncModel", "literals", "I", false)
  | 13 => ("DeltaSyncModel", "rows", "I", false)
  | 14 => ("DeltaSyncModel", "alarms", "I", false)
  | 15 => ("DeltaSyncModel", "filled", "[B", true)
  | 16 => ("DeltaSyncModel", "state", "[I", true)
  | 17 => ("DeltaSyncModel", "words", "[I", true)
  | 18 => ("DeltaSyncModel", "sines", "[I", true)
  | 19 => ("DeltaSyncModel", "turns", "[I", true)
  | 20 => ("DeltaSyncModel", "told", "[I", true)
  | _ => ("DeltaSyncModel", "tolds", "I", false)
def tyX5 : Nat → FieldType := fun k => match k with
  | 0 => .array .byte
  | 1 => .array .int
  | 2 => .array .byte
  | 3 => .int
  | 4 => .int
  | 5 => .int
  | 6 => .int
  | 7 => .int
  | 8 => .int
  | 9 => .array .int
  | 10 => .array .byte
  | 11 => .int
  | 12 => .int
  | 13 => .int
  | 14 => .int
  | 15 => .array .byte
  | 16 => .array .int
  | 17 => .array .int
  | 18 => .array .int
  | 19 => .array .int
  | 20 => .array .int
  | _ => .int
abbrev wsX50 : List Cond := u_ws RX5 TX5 22
theorem nmX5 : ∀ a, a < 22 → ∀ b, b < 22 → a ≠ b → (TX5 a).2.1 ≠ (TX5 b).2.1 := by decide +kernel
theorem tyX5_ok : ∀ k, k < 22 → parseFieldDescriptor (TX5 k).2.2.1 = some (tyX5 k) := by decide +kernel
abbrev cX5_init : ByteArray := prog_7_method_1_code
def yX5_init : MethodName := ⟨RX5, "<init>", "()V"⟩
abbrev cX5_isFile : ByteArray := prog_7_method_3_code
def yX5_isFile : MethodName := ⟨RX5, "isFile", "(I)Z"⟩
abbrev cX5_feed : ByteArray := prog_7_method_4_code
def yX5_feed : MethodName := ⟨RX5, "feed", "(II)I"⟩
abbrev cX5_cut : ByteArray := prog_7_method_5_code
def yX5_cut : MethodName := ⟨RX5, "cut", "(II)Z"⟩
abbrev cX5_put : ByteArray := prog_7_method_6_code
def yX5_put : MethodName := ⟨RX5, "put", "(III)Z"⟩
abbrev cX5_shape : ByteArray := prog_7_method_7_code
def yX5_shape : MethodName := ⟨RX5, "shape", "(II)Z"⟩
abbrev cX5_sumOf : ByteArray := prog_7_method_8_code
def yX5_sumOf : MethodName := ⟨RX5, "sumOf", "(II)I"⟩
abbrev cX5_digestOf : ByteArray := prog_7_method_9_code
def yX5_digestOf : MethodName := ⟨RX5, "digestOf", "(II)V"⟩
abbrev cX5_mix : ByteArray := prog_7_method_10_code
def yX5_mix : MethodName := ⟨RX5, "mix", "(I)V"⟩
abbrev cX5_digestByte : ByteArray := prog_7_method_11_code
def yX5_digestByte : MethodName := ⟨RX5, "digestByte", "(I)I"⟩
abbrev cX5_sign : ByteArray := prog_7_method_12_code
def yX5_sign : MethodName := ⟨RX5, "sign", "()I"⟩
abbrev cX5_sum : ByteArray := prog_7_method_13_code
def yX5_sum : MethodName := ⟨RX5, "sum", "(I)I"⟩
abbrev cX5_digest : ByteArray := prog_7_method_14_code
def yX5_digest : MethodName := ⟨RX5, "digest", "(II)I"⟩
abbrev cX5_isDigest : ByteArray := prog_7_method_15_code
def yX5_isDigest : MethodName := ⟨RX5, "isDigest", "(I)Z"⟩
abbrev cX5_blockAt : ByteArray := prog_7_method_16_code
def yX5_blockAt : MethodName := ⟨RX5, "blockAt", "(II)I"⟩
abbrev cX5_add : ByteArray := prog_7_method_17_code
def yX5_add : MethodName := ⟨RX5, "add", "(I)V"⟩
abbrev cX5_delta : ByteArray := prog_7_method_18_code
def yX5_delta : MethodName := ⟨RX5, "delta", "()I"⟩
abbrev cX5_apply : ByteArray := prog_7_method_19_code
def yX5_apply : MethodName := ⟨RX5, "apply", "()I"⟩
abbrev cX5_at : ByteArray := prog_7_method_20_code
def yX5_at : MethodName := ⟨RX5, "at", "(II)I"⟩
abbrev cX5_size : ByteArray := prog_7_method_21_code
def yX5_size : MethodName := ⟨RX5, "size", "(I)I"⟩
abbrev cX5_change : ByteArray := prog_7_method_22_code
def yX5_change : MethodName := ⟨RX5, "change", "(II)Z"⟩
abbrev cX5_push : ByteArray := prog_7_method_23_code
def yX5_push : MethodName := ⟨RX5, "push", "(I)Z"⟩
abbrev cX5_keep : ByteArray := prog_7_method_24_code
def yX5_keep : MethodName := ⟨RX5, "keep", "(I)Z"⟩
abbrev cX5_sumAt : ByteArray := prog_7_method_25_code
def yX5_sumAt : MethodName := ⟨RX5, "sumAt", "(III)I"⟩
abbrev cX5_md5 : ByteArray := prog_7_method_26_code
def yX5_md5 : MethodName := ⟨RX5, "md5", "(II)I"⟩
abbrev cX5_same : ByteArray := prog_7_method_27_code
def yX5_same : MethodName := ⟨RX5, "same", "()Z"⟩
abbrev cX5_count : ByteArray := prog_7_method_28_code
def yX5_count : MethodName := ⟨RX5, "count", "(I)I"⟩
def RJx8e188 : String := "java/lang/Cloneable"
def TJx8e188 : u_T := fun k => match k with
  | _ => ("", "", "", false)
def tyJx8e188 : Nat → FieldType := fun k => match k with
  | _ => .int
abbrev wsJx8e1880 : List Cond := u_ws RJx8e188 TJx8e188 0
theorem nmJx8e188 : ∀ a, a < 0 → ∀ b, b < 0 → a ≠ b → (TJx8e188 a).2.1 ≠ (TJx8e188 b).2.1 := by decide +kernel
theorem tyJx8e188_ok : ∀ k, k < 0 → parseFieldDescriptor (TJx8e188 k).2.2.1 = some (tyJx8e188 k) := by decide +kernel
def RJ9 : String := "java/lang/Math"
def TJ9 : u_T := fun k => match k with
  | _ => ("", "", "", false)
def tyJ9 : Nat → FieldType := fun k => match k with
  | _ => .int
abbrev wsJ90 : List Cond := u_ws RJ9 TJ9 0
theorem nmJ9 : ∀ a, a < 0 → ∀ b, b < 0 → a ≠ b → (TJ9 a).2.1 ≠ (TJ9 b).2.1 := by decide +kernel
theorem tyJ9_ok : ∀ k, k < 0 → parseFieldDescriptor (TJ9 k).2.2.1 = some (tyJ9 k) := by decide +kernel
abbrev cJ9_max_7cf53 : ByteArray := prog_9_method_65_code
def yJ9_max_7cf53 : MethodName := ⟨RJ9, "max", "(II)I"⟩
abbrev cJ9_min_7cf53 : ByteArray := prog_9_method_69_code
def yJ9_min_7cf53 : MethodName := ⟨RJ9, "min", "(II)I"⟩
def RJ10 : String := "java/lang/System"
def TJ10 : u_T := fun k => match k with
  | _ => ("", "", "", false)
def tyJ10 : Nat → FieldType := fun k => match k with
  | _ => .int
abbrev wsJ100 : List Cond := u_ws RJ10 TJ10 0
theorem nmJ10 : ∀ a, a < 0 → ∀ b, b < 0 → a ≠ b → (TJ10 a).2.1 ≠ (TJ10 b).2.1 := by decide +kernel
theorem tyJ10_ok : ∀ k, k < 0 → parseFieldDescriptor (TJ10 k).2.2.1 = some (tyJ10 k) := by decide +kernel
def RJ7 : String := "java/util/Arrays"
def TJ7 : u_T := fun k => match k with
  | _ => ("", "", "", false)
def tyJ7 : Nat → FieldType := fun k => match k with
  | _ => .int
abbrev wsJ70 : List Cond := u_ws RJ7 TJ7 0
theorem nmJ7 : ∀ a, a < 0 → ∀ b, b < 0 → a ≠ b → (TJ7 a).2.1 ≠ (TJ7 b).2.1 := by decide +kernel
theorem tyJ7_ok : ∀ k, k < 0 → parseFieldDescriptor (TJ7 k).2.2.1 = some (tyJ7 k) := by decide +kernel
abbrev cJ7_fill_53178 : ByteArray := prog_11_method_103_code
def yJ7_fill_53178 : MethodName := ⟨RJ7, "fill", "([II)V"⟩
abbrev cJ7_copyOf_59c91 : ByteArray := prog_11_method_123_code
def yJ7_copyOf_59c91 : MethodName := ⟨RJ7, "copyOf", "([II)[I"⟩
def RL : String := "DeltaSyncLaw"
abbrev cL_law : ByteArray := code
def yL_law : MethodName := ⟨RL, "law", "([I)Z"⟩
