section
-- ===== PART A: goes FIRST, ahead of the names: the tables' words, and 'selects' of the private methods out of them =====
/-- a private method of a class that the tables say can be made, by its rows of tables_1 -/
def lw_okq (q : MethodName × Nat) : Prop := (q.1.cls ≠ "java/lang/invoke/MethodHandle" ∧ q.1.cls ≠ "java/lang/invoke/VarHandle") ∧ Cond.instantiable q.1.cls q.2 ∈ tables_1 ∧ Cond.privateMethod q.1 ∈ tables_1 ∧ Cond.instanceMethod q.1 ∈ tables_1
theorem lw_p0 : lw_okq (⟨"ChainSums", "chainNumbered", "(I)LChainSums$Chain;"⟩, 4) := ⟨⟨by decide +kernel, by decide +kernel⟩, List.mem_of_getElem? (i := 11) (by decide +kernel), List.mem_of_getElem? (i := 96) (by decide +kernel), List.mem_of_getElem? (i := 97) (by decide +kernel)⟩
theorem lw_p1 : lw_okq (⟨"ChainSums", "pieceNumbered", "(I)LChainSums$Piece;"⟩, 4) := ⟨⟨by decide +kernel, by decide +kernel⟩, List.mem_of_getElem? (i := 11) (by decide +kernel), List.mem_of_getElem? (i := 100) (by decide +kernel), List.mem_of_getElem? (i := 101) (by decide +kernel)⟩
theorem lw_p2 : lw_okq (⟨"ChainSums$Chain", "holds", "(LChainSums$Piece;)Z"⟩, 4) := ⟨⟨by decide +kernel, by decide +kernel⟩, List.mem_of_getElem? (i := 68) (by decide +kernel), List.mem_of_getElem? (i := 104) (by decide +kernel), List.mem_of_getElem? (i := 105) (by decide +kernel)⟩
theorem lw_p3 : lw_okq (⟨"ChainSums$Chain", "append", "(LChainSums$Piece;Z)V"⟩, 4) := ⟨⟨by decide +kernel, by decide +kernel⟩, List.mem_of_getElem? (i := 68) (by decide +kernel), List.mem_of_getElem? (i := 108) (by decide +kernel), List.mem_of_getElem? (i := 109) (by decide +kernel)⟩
theorem lw_p4 : lw_okq (⟨"ChainSums", "filledChain", "(I)LChainSums$Chain;"⟩, 4) := ⟨⟨by decide +kernel, by decide +kernel⟩, List.mem_of_getElem? (i := 11) (by decide +kernel), List.mem_of_getElem? (i := 116) (by decide +kernel), List.mem_of_getElem? (i := 117) (by decide +kernel)⟩
theorem lw_p5 : lw_okq (⟨"ChainSums$Chain", "worstAge", "()J"⟩, 4) := ⟨⟨by decide +kernel, by decide +kernel⟩, List.mem_of_getElem? (i := 68) (by decide +kernel), List.mem_of_getElem? (i := 121) (by decide +kernel), List.mem_of_getElem? (i := 122) (by decide +kernel)⟩
theorem lw_p6 : lw_okq (⟨"ChainSums$Piece", "longPeriod", "()J"⟩, 4) := ⟨⟨by decide +kernel, by decide +kernel⟩, List.mem_of_getElem? (i := 40) (by decide +kernel), List.mem_of_getElem? (i := 125) (by decide +kernel), List.mem_of_getElem? (i := 126) (by decide +kernel)⟩
theorem lw_p7 : lw_okq (⟨"ChainSums$Chain", "worstReaction", "()J"⟩, 4) := ⟨⟨by decide +kernel, by decide +kernel⟩, List.mem_of_getElem? (i := 68) (by decide +kernel), List.mem_of_getElem? (i := 132) (by decide +kernel), List.mem_of_getElem? (i := 133) (by decide +kernel)⟩
theorem lw_p8 : lw_okq (⟨"ChainSums$Chain", "broughtBy", "(I)J"⟩, 4) := ⟨⟨by decide +kernel, by decide +kernel⟩, List.mem_of_getElem? (i := 68) (by decide +kernel), List.mem_of_getElem? (i := 136) (by decide +kernel), List.mem_of_getElem? (i := 137) (by decide +kernel)⟩
theorem lw_p9 : lw_okq (⟨"ChainSums$Chain", "answersFrom", "(I)J"⟩, 4) := ⟨⟨by decide +kernel, by decide +kernel⟩, List.mem_of_getElem? (i := 68) (by decide +kernel), List.mem_of_getElem? (i := 145) (by decide +kernel), List.mem_of_getElem? (i := 146) (by decide +kernel)⟩
theorem lw_p10 : lw_okq (⟨"ChainSums$Chain", "keepsWish", "()Z"⟩, 4) := ⟨⟨by decide +kernel, by decide +kernel⟩, List.mem_of_getElem? (i := 68) (by decide +kernel), List.mem_of_getElem? (i := 159) (by decide +kernel), List.mem_of_getElem? (i := 160) (by decide +kernel)⟩
theorem lw_p11 : lw_okq (⟨"ChainSums", "wishesKept", "()I"⟩, 4) := ⟨⟨by decide +kernel, by decide +kernel⟩, List.mem_of_getElem? (i := 11) (by decide +kernel), List.mem_of_getElem? (i := 167) (by decide +kernel), List.mem_of_getElem? (i := 168) (by decide +kernel)⟩
theorem lw_p12 : lw_okq (⟨"ChainSums$Chain", "canBeStepped", "()Z"⟩, 4) := ⟨⟨by decide +kernel, by decide +kernel⟩, List.mem_of_getElem? (i := 68) (by decide +kernel), List.mem_of_getElem? (i := 177) (by decide +kernel), List.mem_of_getElem? (i := 178) (by decide +kernel)⟩
theorem lw_p13 : lw_okq (⟨"ChainSums$Chain", "clocksAreRight", "()Z"⟩, 4) := ⟨⟨by decide +kernel, by decide +kernel⟩, List.mem_of_getElem? (i := 68) (by decide +kernel), List.mem_of_getElem? (i := 181) (by decide +kernel), List.mem_of_getElem? (i := 182) (by decide +kernel)⟩
theorem lw_p14 : lw_okq (⟨"ChainSums$Chain", "commonCycle", "(Z)J"⟩, 4) := ⟨⟨by decide +kernel, by decide +kernel⟩, List.mem_of_getElem? (i := 68) (by decide +kernel), List.mem_of_getElem? (i := 185) (by decide +kernel), List.mem_of_getElem? (i := 186) (by decide +kernel)⟩
theorem lw_p15 : lw_okq (⟨"ChainSums$Chain", "longestByStepping", "()J"⟩, 4) := ⟨⟨by decide +kernel, by decide +kernel⟩, List.mem_of_getElem? (i := 68) (by decide +kernel), List.mem_of_getElem? (i := 200) (by decide +kernel), List.mem_of_getElem? (i := 201) (by decide +kernel)⟩
def lw_privs_1 : List (MethodName × Nat) := [(⟨"ChainSums", "chainNumbered", "(I)LChainSums$Chain;"⟩, 4), (⟨"ChainSums", "pieceNumbered", "(I)LChainSums$Piece;"⟩, 4), (⟨"ChainSums$Chain", "holds", "(LChainSums$Piece;)Z"⟩, 4), (⟨"ChainSums$Chain", "append", "(LChainSums$Piece;Z)V"⟩, 4), (⟨"ChainSums", "filledChain", "(I)LChainSums$Chain;"⟩, 4), (⟨"ChainSums$Chain", "worstAge", "()J"⟩, 4), (⟨"ChainSums$Piece", "longPeriod", "()J"⟩, 4), (⟨"ChainSums$Chain", "worstReaction", "()J"⟩, 4), (⟨"ChainSums$Chain", "broughtBy", "(I)J"⟩, 4), (⟨"ChainSums$Chain", "answersFrom", "(I)J"⟩, 4), (⟨"ChainSums$Chain", "keepsWish", "()Z"⟩, 4), (⟨"ChainSums", "wishesKept", "()I"⟩, 4), (⟨"ChainSums$Chain", "canBeStepped", "()Z"⟩, 4), (⟨"ChainSums$Chain", "clocksAreRight", "()Z"⟩, 4), (⟨"ChainSums$Chain", "commonCycle", "(Z)J"⟩, 4), (⟨"ChainSums$Chain", "longestByStepping", "()J"⟩, 4)]
theorem lw_r1 : ∀ q ∈ lw_privs_1, lw_okq q := List.forall_mem_cons.mpr ⟨lw_p0, List.forall_mem_cons.mpr ⟨lw_p1, List.forall_mem_cons.mpr ⟨lw_p2, List.forall_mem_cons.mpr ⟨lw_p3, List.forall_mem_cons.mpr ⟨lw_p4, List.forall_mem_cons.mpr ⟨lw_p5, List.forall_mem_cons.mpr ⟨lw_p6, List.forall_mem_cons.mpr ⟨lw_p7, List.forall_mem_cons.mpr ⟨lw_p8, List.forall_mem_cons.mpr ⟨lw_p9, List.forall_mem_cons.mpr ⟨lw_p10, List.forall_mem_cons.mpr ⟨lw_p11, List.forall_mem_cons.mpr ⟨lw_p12, List.forall_mem_cons.mpr ⟨lw_p13, List.forall_mem_cons.mpr ⟨lw_p14, List.forall_mem_cons.mpr ⟨lw_p15, fun _ h => absurd h List.not_mem_nil⟩⟩⟩⟩⟩⟩⟩⟩⟩⟩⟩⟩⟩⟩⟩⟩
theorem lw_p16 : lw_okq (⟨"ChainSums$Chain", "timeFromBegin", "(J)J"⟩, 4) := ⟨⟨by decide +kernel, by decide +kernel⟩, List.mem_of_getElem? (i := 68) (by decide +kernel), List.mem_of_getElem? (i := 204) (by decide +kernel), List.mem_of_getElem? (i := 205) (by decide +kernel)⟩
theorem lw_p17 : lw_okq (⟨"ChainSums$Chain", "lacksPeriod", "()Z"⟩, 4) := ⟨⟨by decide +kernel, by decide +kernel⟩, List.mem_of_getElem? (i := 68) (by decide +kernel), List.mem_of_getElem? (i := 224) (by decide +kernel), List.mem_of_getElem? (i := 225) (by decide +kernel)⟩
theorem lw_p18 : lw_okq (⟨"java/lang/Throwable", "fillInStackTrace", "(I)Ljava/lang/Throwable;"⟩, 6) := ⟨⟨by decide +kernel, by decide +kernel⟩, List.mem_of_getElem? (i := 264) (by decide +kernel), List.mem_of_getElem? (i := 262) (by decide +kernel), List.mem_of_getElem? (i := 263) (by decide +kernel)⟩
theorem lw_p19 : lw_okq (⟨"ChainSumsModel", "noChain", "(I)Z"⟩, 12) := ⟨⟨by decide +kernel, by decide +kernel⟩, List.mem_of_getElem? (i := 295) (by decide +kernel), List.mem_of_getElem? (i := 357) (by decide +kernel), List.mem_of_getElem? (i := 358) (by decide +kernel)⟩
theorem lw_p20 : lw_okq (⟨"ChainSumsModel", "noPiece", "(I)Z"⟩, 12) := ⟨⟨by decide +kernel, by decide +kernel⟩, List.mem_of_getElem? (i := 295) (by decide +kernel), List.mem_of_getElem? (i := 361) (by decide +kernel), List.mem_of_getElem? (i := 362) (by decide +kernel)⟩
theorem lw_p21 : lw_okq (⟨"ChainSumsModel", "isEmpty", "(I)Z"⟩, 12) := ⟨⟨by decide +kernel, by decide +kernel⟩, List.mem_of_getElem? (i := 295) (by decide +kernel), List.mem_of_getElem? (i := 369) (by decide +kernel), List.mem_of_getElem? (i := 370) (by decide +kernel)⟩
theorem lw_p22 : lw_okq (⟨"ChainSumsModel", "age", "(I)J"⟩, 12) := ⟨⟨by decide +kernel, by decide +kernel⟩, List.mem_of_getElem? (i := 295) (by decide +kernel), List.mem_of_getElem? (i := 374) (by decide +kernel), List.mem_of_getElem? (i := 375) (by decide +kernel)⟩
theorem lw_p23 : lw_okq (⟨"ChainSumsModel", "reaction", "(I)J"⟩, 12) := ⟨⟨by decide +kernel, by decide +kernel⟩, List.mem_of_getElem? (i := 295) (by decide +kernel), List.mem_of_getElem? (i := 378) (by decide +kernel), List.mem_of_getElem? (i := 379) (by decide +kernel)⟩
theorem lw_p24 : lw_okq (⟨"ChainSumsModel", "brings", "(II)J"⟩, 12) := ⟨⟨by decide +kernel, by decide +kernel⟩, List.mem_of_getElem? (i := 295) (by decide +kernel), List.mem_of_getElem? (i := 382) (by decide +kernel), List.mem_of_getElem? (i := 383) (by decide +kernel)⟩
theorem lw_p25 : lw_okq (⟨"ChainSumsModel", "longPeriod", "(I)J"⟩, 12) := ⟨⟨by decide +kernel, by decide +kernel⟩, List.mem_of_getElem? (i := 295) (by decide +kernel), List.mem_of_getElem? (i := 386) (by decide +kernel), List.mem_of_getElem? (i := 387) (by decide +kernel)⟩
theorem lw_p26 : lw_okq (⟨"ChainSumsModel", "common", "(IZJ)J"⟩, 12) := ⟨⟨by decide +kernel, by decide +kernel⟩, List.mem_of_getElem? (i := 295) (by decide +kernel), List.mem_of_getElem? (i := 413) (by decide +kernel), List.mem_of_getElem? (i := 414) (by decide +kernel)⟩
theorem lw_p27 : lw_okq (⟨"ChainSumsModel", "isPlain", "(I)Z"⟩, 12) := ⟨⟨by decide +kernel, by decide +kernel⟩, List.mem_of_getElem? (i := 295) (by decide +kernel), List.mem_of_getElem? (i := 424) (by decide +kernel), List.mem_of_getElem? (i := 425) (by decide +kernel)⟩
def lw_privs_2 : List (MethodName × Nat) := [(⟨"ChainSums$Chain", "timeFromBegin", "(J)J"⟩, 4), (⟨"ChainSums$Chain", "lacksPeriod", "()Z"⟩, 4), (⟨"java/lang/Throwable", "fillInStackTrace", "(I)Ljava/lang/Throwable;"⟩, 6), (⟨"ChainSumsModel", "noChain", "(I)Z"⟩, 12), (⟨"ChainSumsModel", "noPiece", "(I)Z"⟩, 12), (⟨"ChainSumsModel", "isEmpty", "(I)Z"⟩, 12), (⟨"ChainSumsModel", "age", "(I)J"⟩, 12), (⟨"ChainSumsModel", "reaction", "(I)J"⟩, 12), (⟨"ChainSumsModel", "brings", "(II)J"⟩, 12), (⟨"ChainSumsModel", "longPeriod", "(I)J"⟩, 12), (⟨"ChainSumsModel", "common", "(IZJ)J"⟩, 12), (⟨"ChainSumsModel", "isPlain", "(I)Z"⟩, 12)]
theorem lw_r2 : ∀ q ∈ lw_privs_2, lw_okq q := List.forall_mem_cons.mpr ⟨lw_p16, List.forall_mem_cons.mpr ⟨lw_p17, List.forall_mem_cons.mpr ⟨lw_p18, List.forall_mem_cons.mpr ⟨lw_p19, List.forall_mem_cons.mpr ⟨lw_p20, List.forall_mem_cons.mpr ⟨lw_p21, List.forall_mem_cons.mpr ⟨lw_p22, List.forall_mem_cons.mpr ⟨lw_p23, List.forall_mem_cons.mpr ⟨lw_p24, List.forall_mem_cons.mpr ⟨lw_p25, List.forall_mem_cons.mpr ⟨lw_p26, List.forall_mem_cons.mpr ⟨lw_p27, fun _ h => absurd h List.not_mem_nil⟩⟩⟩⟩⟩⟩⟩⟩⟩⟩⟩⟩
def lw_privs : List (MethodName × Nat) := lw_privs_1 ++ (lw_privs_2)
def lw_tbl : List Cond := k2_sels lw_privs ++ tables_1
theorem lw_privs_ok : ∀ q ∈ lw_privs, lw_okq q := by
  show ∀ q ∈ lw_privs_1 ++ (lw_privs_2), lw_okq q
  exact List.forall_mem_append.mpr ⟨lw_r1, lw_r2⟩
end
section
def RL : String := "ChainSumsLaw"
def RX0 : String := "ChainSums$Chain"
def TX0 : u_T := fun k => match k with
  | 0 => ("ChainSums$Chain", "row", "[LChainSums$Piece;", true)
  | 1 => ("ChainSums$Chain", "sampling", "[Z", true)
  | 2 => ("ChainSums$Chain", "count", "I", false)
  | _ => ("ChainSums$Chain", "wished", "J", false)
def tyX0 : Nat → FieldType := fun k => match k with
  | 0 => .array (.object "ChainSums$Piece")
  | 1 => .array .boolean
  | 2 => .int
  | _ => .long
theorem nmX0 : ∀ a, a < 4 → ∀ b, b < 4 → a ≠ b → (TX0 a).2.1 ≠ (TX0 b).2.1 := by decide +kernel
theorem tyX0_ok : ∀ k, k < 4 → parseFieldDescriptor (TX0 k).2.2.1 = some (tyX0 k) := by decide +kernel
def RX1 : String := "ChainSums$Piece"
def TX1 : u_T := fun k => match k with
  | 0 => ("ChainSums$Piece", "period", "J", true)
  | 1 => ("ChainSums$Piece", "answer", "J", true)
  | 2 => ("ChainSums$Piece", "up", "J", false)
  | _ => ("ChainSums$Piece", "down", "J", false)
def tyX1 : Nat → FieldType := fun k => match k with
  | 0 => .long
  | 1 => .long
  | 2 => .long
  | _ => .long
theorem nmX1 : ∀ a, a < 4 → ∀ b, b < 4 → a ≠ b → (TX1 a).2.1 ≠ (TX1 b).2.1 := by decide +kernel
theorem tyX1_ok : ∀ k, k < 4 → parseFieldDescriptor (TX1 k).2.2.1 = some (tyX1 k) := by decide +kernel
def RX2 : String := "ChainSums"
def TX2 : u_T := fun k => match k with
  | 0 => ("ChainSums", "pieces", "[LChainSums$Piece;", true)
  | 1 => ("ChainSums", "chains", "[LChainSums$Chain;", true)
  | 2 => ("ChainSums", "pieceCount", "I", false)
  | _ => ("ChainSums", "chainCount", "I", false)
def tyX2 : Nat → FieldType := fun k => match k with
  | 0 => .array (.object "ChainSums$Piece")
  | 1 => .array (.object "ChainSums$Chain")
  | 2 => .int
  | _ => .int
theorem nmX2 : ∀ a, a < 4 → ∀ b, b < 4 → a ≠ b → (TX2 a).2.1 ≠ (TX2 b).2.1 := by decide +kernel
theorem tyX2_ok : ∀ k, k < 4 → parseFieldDescriptor (TX2 k).2.2.1 = some (tyX2 k) := by decide +kernel
def RM : String := "ChainSumsModel"
def TM : u_T := fun k => match k with
  | 0 => ("ChainSumsModel", "thrown", "I", false)
  | 1 => ("ChainSumsModel", "pieces", "I", false)
  | 2 => ("ChainSumsModel", "periods", "[J", true)
  | 3 => ("ChainSumsModel", "answers", "[J", true)
  | 4 => ("ChainSumsModel", "ups", "[J", true)
  | 5 => ("ChainSumsModel", "downs", "[J", true)
  | 6 => ("ChainSumsModel", "chains", "I", false)
  | 7 => ("ChainSumsModel", "rows", "[I", true)
  | 8 => ("ChainSumsModel", "setOff", "[Z", true)
  | 9 => ("ChainSumsModel", "many", "[I", true)
  | 10 => ("ChainSumsModel", "wished", "[Z", true)
  | _ => ("ChainSumsModel", "wishes", "[J", true)
def tyM : Nat → FieldType := fun k => match k with
  | 0 => .int
  | 1 => .int
  | 2 => .array .long
  | 3 => .array .long
  | 4 => .array .long
  | 5 => .array .long
  | 6 => .int
  | 7 => .array .int
  | 8 => .array .boolean
  | 9 => .array .int
  | 10 => .array .boolean
  | _ => .array .long
theorem nmM : ∀ a, a < 12 → ∀ b, b < 12 → a ≠ b → (TM a).2.1 ≠ (TM b).2.1 := by decide +kernel
theorem tyM_ok : ∀ k, k < 12 → parseFieldDescriptor (TM k).2.2.1 = some (tyM k) := by decide +kernel
abbrev vwCl : List vw_C := [(RX0, TX0, 4), (RX1, TX1, 4), (RX2, TX2, 4), (RM, TM, 12)]
abbrev cX2_init : ByteArray := prog_1_method_1_code
def yX2_init : MethodName := ⟨RX2, "<init>", "()V"⟩
abbrev cX2_piece : ByteArray := prog_1_method_2_code
def yX2_piece : MethodName := ⟨RX2, "piece", "(IJJ)I"⟩
abbrev cX2_chain : ByteArray := prog_1_method_3_code
def yX2_chain : MethodName := ⟨RX2, "chain", "()I"⟩
abbrev cX2_add : ByteArray := prog_1_method_4_code
def yX2_add : MethodName := ⟨RX2, "add", "(IIZ)I"⟩
abbrev cX2_worst : ByteArray := prog_1_method_5_code
def yX2_worst : MethodName := ⟨RX2, "worst", "(IZ)J"⟩
abbrev cX2_best : ByteArray := prog_1_method_6_code
def yX2_best : MethodName := ⟨RX2, "best", "(IZ)J"⟩
abbrev cX2_clock : ByteArray := prog_1_method_7_code
def yX2_clock : MethodName := ⟨RX2, "clock", "(IJJ)I"⟩
abbrev cX2_wish : ByteArray := prog_1_method_8_code
def yX2_wish : MethodName := ⟨RX2, "wish", "(IJ)I"⟩
abbrev cX2_share : ByteArray := prog_1_method_9_code
def yX2_share : MethodName := ⟨RX2, "share", "(II)I"⟩
abbrev cX2_cycle : ByteArray := prog_1_method_10_code
def yX2_cycle : MethodName := ⟨RX2, "cycle", "(I)J"⟩
abbrev cX2_stepped : ByteArray := prog_1_method_11_code
def yX2_stepped : MethodName := ⟨RX2, "stepped", "(I)J"⟩
abbrev cX2_plain : ByteArray := prog_1_method_12_code
def yX2_plain : MethodName := ⟨RX2, "plain", "(I)Z"⟩
abbrev cX2_pieceNumbered : ByteArray := prog_1_method_13_code
def yX2_pieceNumbered : MethodName := ⟨RX2, "pieceNumbered", "(I)LChainSums$Piece;"⟩
abbrev cX2_chainNumbered : ByteArray := prog_1_method_14_code
def yX2_chainNumbered : MethodName := ⟨RX2, "chainNumbered", "(I)LChainSums$Chain;"⟩
abbrev cX2_filledChain : ByteArray := prog_1_method_15_code
def yX2_filledChain : MethodName := ⟨RX2, "filledChain", "(I)LChainSums$Chain;"⟩
abbrev cX2_wishesKept : ByteArray := prog_1_method_16_code
def yX2_wishesKept : MethodName := ⟨RX2, "wishesKept", "()I"⟩
abbrev cX2_unitsUpwards : ByteArray := prog_1_method_17_code
def yX2_unitsUpwards : MethodName := ⟨RX2, "unitsUpwards", "(JJ)J"⟩
abbrev cX2_greatestCommonDivisor : ByteArray := prog_1_method_18_code
def yX2_greatestCommonDivisor : MethodName := ⟨RX2, "greatestCommonDivisor", "(JJ)J"⟩
abbrev cX2_leastCommonMultiple : ByteArray := prog_1_method_19_code
def yX2_leastCommonMultiple : MethodName := ⟨RX2, "leastCommonMultiple", "(JJ)J"⟩
abbrev cM_init : ByteArray := prog_5_method_1_code
def yM_init : MethodName := ⟨RM, "<init>", "()V"⟩
abbrev cM_thrown : ByteArray := prog_5_method_2_code
def yM_thrown : MethodName := ⟨RM, "thrown", "()I"⟩
abbrev cM_piece : ByteArray := prog_5_method_3_code
def yM_piece : MethodName := ⟨RM, "piece", "(IJJ)I"⟩
abbrev cM_chain : ByteArray := prog_5_method_4_code
def yM_chain : MethodName := ⟨RM, "chain", "()I"⟩
abbrev cM_noChain : ByteArray := prog_5_method_5_code
def yM_noChain : MethodName := ⟨RM, "noChain", "(I)Z"⟩
abbrev cM_isEmpty : ByteArray := prog_5_method_6_code
def yM_isEmpty : MethodName := ⟨RM, "isEmpty", "(I)Z"⟩
abbrev cM_noPiece : ByteArray := prog_5_method_7_code
def yM_noPiece : MethodName := ⟨RM, "noPiece", "(I)Z"⟩
abbrev cM_add : ByteArray := prog_5_method_8_code
def yM_add : MethodName := ⟨RM, "add", "(IIZ)I"⟩
abbrev cM_longPeriod : ByteArray := prog_5_method_9_code
def yM_longPeriod : MethodName := ⟨RM, "longPeriod", "(I)J"⟩
abbrev cM_brings : ByteArray := prog_5_method_10_code
def yM_brings : MethodName := ⟨RM, "brings", "(II)J"⟩
abbrev cM_reaction : ByteArray := prog_5_method_11_code
def yM_reaction : MethodName := ⟨RM, "reaction", "(I)J"⟩
abbrev cM_age : ByteArray := prog_5_method_12_code
def yM_age : MethodName := ⟨RM, "age", "(I)J"⟩
abbrev cM_worst : ByteArray := prog_5_method_13_code
def yM_worst : MethodName := ⟨RM, "worst", "(IZ)J"⟩
abbrev cM_best : ByteArray := prog_5_method_14_code
def yM_best : MethodName := ⟨RM, "best", "(IZ)J"⟩
abbrev cM_clock : ByteArray := prog_5_method_15_code
def yM_clock : MethodName := ⟨RM, "clock", "(IJJ)I"⟩
abbrev cM_wish : ByteArray := prog_5_method_16_code
def yM_wish : MethodName := ⟨RM, "wish", "(IJ)I"⟩
abbrev cM_share : ByteArray := prog_5_method_17_code
def yM_share : MethodName := ⟨RM, "share", "(II)I"⟩
abbrev cM_divisor : ByteArray := prog_5_method_18_code
def yM_divisor : MethodName := ⟨RM, "divisor", "(JJ)J"⟩
abbrev cM_cycle : ByteArray := prog_5_method_19_code
def yM_cycle : MethodName := ⟨RM, "cycle", "(I)J"⟩
abbrev cM_common : ByteArray := prog_5_method_20_code
def yM_common : MethodName := ⟨RM, "common", "(IZJ)J"⟩
abbrev cM_isPlain : ByteArray := prog_5_method_21_code
def yM_isPlain : MethodName := ⟨RM, "isPlain", "(I)Z"⟩
abbrev cM_stepped : ByteArray := prog_5_method_22_code
def yM_stepped : MethodName := ⟨RM, "stepped", "(I)J"⟩
abbrev cM_plain : ByteArray := prog_5_method_23_code
def yM_plain : MethodName := ⟨RM, "plain", "(I)Z"⟩
abbrev cX0_init : ByteArray := prog_2_method_1_code
def yX0_init : MethodName := ⟨RX0, "<init>", "()V"⟩
abbrev cX0_holds : ByteArray := prog_2_method_2_code
def yX0_holds : MethodName := ⟨RX0, "holds", "(LChainSums$Piece;)Z"⟩
abbrev cX0_append : ByteArray := prog_2_method_3_code
def yX0_append : MethodName := ⟨RX0, "append", "(LChainSums$Piece;Z)V"⟩
abbrev cX0_broughtBy : ByteArray := prog_2_method_4_code
def yX0_broughtBy : MethodName := ⟨RX0, "broughtBy", "(I)J"⟩
abbrev cX0_worstReaction : ByteArray := prog_2_method_5_code
def yX0_worstReaction : MethodName := ⟨RX0, "worstReaction", "()J"⟩
abbrev cX0_worstAge : ByteArray := prog_2_method_6_code
def yX0_worstAge : MethodName := ⟨RX0, "worstAge", "()J"⟩
abbrev cX0_answersFrom : ByteArray := prog_2_method_7_code
def yX0_answersFrom : MethodName := ⟨RX0, "answersFrom", "(I)J"⟩
abbrev cX0_keepsWish : ByteArray := prog_2_method_8_code
def yX0_keepsWish : MethodName := ⟨RX0, "keepsWish", "()Z"⟩
abbrev cX0_lacksPeriod : ByteArray := prog_2_method_9_code
def yX0_lacksPeriod : MethodName := ⟨RX0, "lacksPeriod", "()Z"⟩
abbrev cX0_commonCycle : ByteArray := prog_2_method_10_code
def yX0_commonCycle : MethodName := ⟨RX0, "commonCycle", "(Z)J"⟩
abbrev cX0_clocksAreRight : ByteArray := prog_2_method_11_code
def yX0_clocksAreRight : MethodName := ⟨RX0, "clocksAreRight", "()Z"⟩
abbrev cX0_canBeStepped : ByteArray := prog_2_method_12_code
def yX0_canBeStepped : MethodName := ⟨RX0, "canBeStepped", "()Z"⟩
abbrev cX0_longestByStepping : ByteArray := prog_2_method_13_code
def yX0_longestByStepping : MethodName := ⟨RX0, "longestByStepping", "()J"⟩
abbrev cX0_timeFromBegin : ByteArray := prog_2_method_14_code
def yX0_timeFromBegin : MethodName := ⟨RX0, "timeFromBegin", "(J)J"⟩
abbrev cX1_init : ByteArray := prog_3_method_1_code
def yX1_init : MethodName := ⟨RX1, "<init>", "(JJ)V"⟩
abbrev cX1_longPeriod : ByteArray := prog_3_method_2_code
def yX1_longPeriod : MethodName := ⟨RX1, "longPeriod", "()J"⟩
abbrev cL_cycle : ByteArray := method_3_code
def yL_cycle : MethodName := ⟨RL, "cycle", "(LChainSums;I[J)I"⟩
abbrev cL_law : ByteArray := code
def yL_law : MethodName := ⟨RL, "law", "([I)Z"⟩
/-- the words of the tables that are good everywhere -/
def gT : List Cond := lw_tbl.filter goodWord
theorem gt_t {j : Nat} {w : Cond} (h : tables_1[j]? = some w) (hg : goodWord w = true) : w ∈ gT := List.mem_filter.mpr ⟨List.mem_append_right _ (List.mem_of_getElem? h), hg⟩
theorem gt_s {j : Nat} {w : Cond} (h : (k2_sels lw_privs)[j]? = some w) (hg : goodWord w = true) : w ∈ gT := List.mem_filter.mpr ⟨List.mem_append_left _ (List.mem_of_getElem? h), hg⟩
def isN : Cond → Bool
  | .fieldLinkNest _ _ _ _ _ _ => true
  | .methodLinkNest _ _ _ _ => true
  | .arrayOver (.object _) => true
  | _ => false
/-- words on nest mates and arrays of objects, which ride by laws of their own -/
def nsW (U : State) : Prop := ∀ w ∈ tables_1, isN w = true → va_Nw w U
theorem nsW.warm {s U : State} (hW : s.WarmedH U.vm) (h : nsW s) : nsW U := by
  intro w hw hn
  have h1 := h w hw hn
  cases w with
  | fieldLinkNest a i b n d h => exact va_Nw.warmF hW h1
  | methodLinkNest a i x h => exact va_Nw.warmM hW h1
  | arrayOver t =>
    cases t with
    | object C => exact va_AO.moved hW.alike h1
    | _ => cases hn
  | _ => cases hn
theorem nsW.of {s : State} {args : Array Value} (h : ∀ w ∈ lw_tbl, w.before args s = true) : nsW s := by
  intro w hw hn
  have h1 := h w (List.mem_append_right _ hw)
  cases w with
  | fieldLinkNest a i b n d h => exact va_Nw.of rfl h1
  | methodLinkNest a i x h => exact va_Nw.of rfl h1
  | arrayOver t =>
    cases t with
    | object C => exact h1
    | _ => cases hn
  | _ => cases hn
theorem tb_0 : (.initialized RL : Cond) ∈ gT := gt_t (j := 0) (by decide +kernel) (by decide +kernel)
theorem tb_1 : (.initialized RX2 : Cond) ∈ gT := gt_t (j := 1) (by decide +kernel) (by decide +kernel)
theorem tb_2 : (.initialized RM : Cond) ∈ gT := gt_t (j := 2) (by decide +kernel) (by decide +kernel)
theorem tb_3 : (.initialized RX1 : Cond) ∈ gT := gt_t (j := 3) (by decide +kernel) (by decide +kernel)
theorem tb_4 : (.initialized RX0 : Cond) ∈ gT := gt_t (j := 4) (by decide +kernel) (by decide +kernel)
theorem tb_9 : (.initialized "java/lang/Math" : Cond) ∈ gT := gt_t (j := 9) (by decide +kernel) (by decide +kernel)
theorem tb_10 : (.classLink RL 8 RX2 : Cond) ∈ gT := gt_t (j := 10) (by decide +kernel) (by decide +kernel)
theorem tb_11 : (.instantiable RX2 4 : Cond) ∈ gT := gt_t (j := 11) (by decide +kernel) (by decide +kernel)
theorem tb_12 : (.methodLink RL 15 yX2_init : Cond) ∈ gT := gt_t (j := 12) (by decide +kernel) (by decide +kernel)
theorem tb_13 : (.instanceMethod yX2_init : Cond) ∈ gT := gt_t (j := 13) (by decide +kernel) (by decide +kernel)
theorem tb_14 : (.code yX2_init prog_1_method_1_code 1 none : Cond) ∈ gT := gt_t (j := 14) (by decide +kernel) (by decide +kernel)
theorem tb_15 : (.methodLink RX2 1 objectInit : Cond) ∈ gT := gt_t (j := 15) (by decide +kernel) (by decide +kernel)
theorem tb_16 : (.instanceMethod objectInit : Cond) ∈ gT := gt_t (j := 16) (by decide +kernel) (by decide +kernel)
theorem tb_17 : (.code objectInit ⟨#[0xb1]⟩ 1 none : Cond) ∈ gT := gt_t (j := 17) (by decide +kernel) (by decide +kernel)
theorem tb_18 : (.classLink RX2 9 RX1 : Cond) ∈ gT := gt_t (j := 18) (by decide +kernel) (by decide +kernel)
theorem tn_19 : (.arrayOver (.object "ChainSums$Piece") : Cond) ∈ tables_1 := List.mem_of_getElem? (i := 19) (by decide +kernel)
theorem tb_20 : (.classLink RX2 15 RX0 : Cond) ∈ gT := gt_t (j := 20) (by decide +kernel) (by decide +kernel)
theorem tn_21 : (.arrayOver (.object "ChainSums$Chain") : Cond) ∈ tables_1 := List.mem_of_getElem? (i := 21) (by decide +kernel)
theorem tb_22 : (.fieldLink RX2 11 "ChainSums" "pieces" "[LChainSums$Piece;" : Cond) ∈ gT := gt_t (j := 22) (by decide +kernel) (by decide +kernel)
theorem tb_23 : (.fieldLink RX2 17 "ChainSums" "chains" "[LChainSums$Chain;" : Cond) ∈ gT := gt_t (j := 23) (by decide +kernel) (by decide +kernel)
theorem tb_24 : (.fieldLink RX2 21 "ChainSums" "pieceCount" "I" : Cond) ∈ gT := gt_t (j := 24) (by decide +kernel) (by decide +kernel)
theorem tb_25 : (.fieldLink RX2 25 "ChainSums" "chainCount" "I" : Cond) ∈ gT := gt_t (j := 25) (by decide +kernel) (by decide +kernel)
theorem tb_35 : (.methodLink RL 21 yX2_piece : Cond) ∈ gT := gt_t (j := 35) (by decide +kernel) (by decide +kernel)
theorem tb_36 : (.instanceMethod yX2_piece : Cond) ∈ gT := gt_t (j := 36) (by decide +kernel) (by decide +kernel)
theorem tb_37 : (.selects RX2 yX2_piece yX2_piece : Cond) ∈ gT := gt_t (j := 37) (by decide +kernel) (by decide +kernel)
theorem tb_38 : (.code yX2_piece prog_1_method_2_code 6 (some .int) : Cond) ∈ gT := gt_t (j := 38) (by decide +kernel) (by decide +kernel)
theorem tb_39 : (.constantLong RX2 28 (lN 20000) : Cond) ∈ gT := gt_t (j := 39) (by decide +kernel) (by decide +kernel)
theorem tb_40 : (.instantiable RX1 4 : Cond) ∈ gT := gt_t (j := 40) (by decide +kernel) (by decide +kernel)
theorem tn_41 : (.methodLinkNest RX2 30 yX1_init "ChainSums" : Cond) ∈ tables_1 := List.mem_of_getElem? (i := 41) (by decide +kernel)
theorem tb_42 : (.instanceMethod yX1_init : Cond) ∈ gT := gt_t (j := 42) (by decide +kernel) (by decide +kernel)
theorem tb_43 : (.code yX1_init prog_3_method_1_code 5 none : Cond) ∈ gT := gt_t (j := 43) (by decide +kernel) (by decide +kernel)
theorem tb_44 : (.methodLink RX1 1 objectInit : Cond) ∈ gT := gt_t (j := 44) (by decide +kernel) (by decide +kernel)
theorem tb_45 : (.fieldLink RX1 7 "ChainSums$Piece" "period" "J" : Cond) ∈ gT := gt_t (j := 45) (by decide +kernel) (by decide +kernel)
theorem tn_46 : (.fieldLinkNest RX2 45 "ChainSums$Piece" "period" "J" "ChainSums" : Cond) ∈ tables_1 := List.mem_of_getElem? (i := 46) (by decide +kernel)
theorem tn_47 : (.fieldLinkNest RX0 45 "ChainSums$Piece" "period" "J" "ChainSums" : Cond) ∈ tables_1 := List.mem_of_getElem? (i := 47) (by decide +kernel)
theorem tb_48 : (.fieldLink RX1 13 "ChainSums$Piece" "answer" "J" : Cond) ∈ gT := gt_t (j := 48) (by decide +kernel) (by decide +kernel)
theorem tn_49 : (.fieldLinkNest RX0 35 "ChainSums$Piece" "answer" "J" "ChainSums" : Cond) ∈ tables_1 := List.mem_of_getElem? (i := 49) (by decide +kernel)
theorem tb_50 : (.fieldLink RX1 16 "ChainSums$Piece" "up" "J" : Cond) ∈ gT := gt_t (j := 50) (by decide +kernel) (by decide +kernel)
theorem tn_51 : (.fieldLinkNest RX2 75 "ChainSums$Piece" "up" "J" "ChainSums" : Cond) ∈ tables_1 := List.mem_of_getElem? (i := 51) (by decide +kernel)
theorem tn_52 : (.fieldLinkNest RX0 59 "ChainSums$Piece" "up" "J" "ChainSums" : Cond) ∈ tables_1 := List.mem_of_getElem? (i := 52) (by decide +kernel)
theorem tb_53 : (.fieldLink RX1 19 "ChainSums$Piece" "down" "J" : Cond) ∈ gT := gt_t (j := 53) (by decide +kernel) (by decide +kernel)
theorem tn_54 : (.fieldLinkNest RX2 78 "ChainSums$Piece" "down" "J" "ChainSums" : Cond) ∈ tables_1 := List.mem_of_getElem? (i := 54) (by decide +kernel)
theorem tb_64 : (.methodLink RL 26 yX2_chain : Cond) ∈ gT := gt_t (j := 64) (by decide +kernel) (by decide +kernel)
theorem tb_65 : (.instanceMethod yX2_chain : Cond) ∈ gT := gt_t (j := 65) (by decide +kernel) (by decide +kernel)
theorem tb_66 : (.selects RX2 yX2_chain yX2_chain : Cond) ∈ gT := gt_t (j := 66) (by decide +kernel) (by decide +kernel)
theorem tb_67 : (.code yX2_chain prog_1_method_3_code 1 (some .int) : Cond) ∈ gT := gt_t (j := 67) (by decide +kernel) (by decide +kernel)
theorem tb_68 : (.instantiable RX0 4 : Cond) ∈ gT := gt_t (j := 68) (by decide +kernel) (by decide +kernel)
theorem tn_69 : (.methodLinkNest RX2 33 yX0_init "ChainSums" : Cond) ∈ tables_1 := List.mem_of_getElem? (i := 69) (by decide +kernel)
theorem tb_70 : (.instanceMethod yX0_init : Cond) ∈ gT := gt_t (j := 70) (by decide +kernel) (by decide +kernel)
theorem tb_71 : (.code yX0_init prog_2_method_1_code 1 none : Cond) ∈ gT := gt_t (j := 71) (by decide +kernel) (by decide +kernel)
theorem tb_72 : (.methodLink RX0 3 objectInit : Cond) ∈ gT := gt_t (j := 72) (by decide +kernel) (by decide +kernel)
theorem tb_73 : (.classLink RX0 9 RX1 : Cond) ∈ gT := gt_t (j := 73) (by decide +kernel) (by decide +kernel)
theorem tb_74 : (.constantLong RX0 25 (-1) : Cond) ∈ gT := gt_t (j := 74) (by decide +kernel) (by decide +kernel)
theorem tb_75 : (.fieldLink RX0 11 "ChainSums$Chain" "row" "[LChainSums$Piece;" : Cond) ∈ gT := gt_t (j := 75) (by decide +kernel) (by decide +kernel)
theorem tb_76 : (.fieldLink RX0 17 "ChainSums$Chain" "sampling" "[Z" : Cond) ∈ gT := gt_t (j := 76) (by decide +kernel) (by decide +kernel)
theorem tb_77 : (.fieldLink RX0 21 "ChainSums$Chain" "count" "I" : Cond) ∈ gT := gt_t (j := 77) (by decide +kernel) (by decide +kernel)
theorem tn_78 : (.fieldLinkNest RX2 42 "ChainSums$Chain" "count" "I" "ChainSums" : Cond) ∈ tables_1 := List.mem_of_getElem? (i := 78) (by decide +kernel)
theorem tb_79 : (.fieldLink RX0 27 "ChainSums$Chain" "wished" "J" : Cond) ∈ gT := gt_t (j := 79) (by decide +kernel) (by decide +kernel)
theorem tn_80 : (.fieldLinkNest RX2 84 "ChainSums$Chain" "wished" "J" "ChainSums" : Cond) ∈ tables_1 := List.mem_of_getElem? (i := 80) (by decide +kernel)
theorem tb_90 : (.arrayClass .boolean : Cond) ∈ gT := gt_t (j := 90) (by decide +kernel) (by decide +kernel)
theorem tb_91 : (.methodLink RL 31 yX2_add : Cond) ∈ gT := gt_t (j := 91) (by decide +kernel) (by decide +kernel)
theorem tb_92 : (.instanceMethod yX2_add : Cond) ∈ gT := gt_t (j := 92) (by decide +kernel) (by decide +kernel)
theorem tb_93 : (.selects RX2 yX2_add yX2_add : Cond) ∈ gT := gt_t (j := 93) (by decide +kernel) (by decide +kernel)
theorem tb_94 : (.code yX2_add prog_1_method_4_code 7 (some .int) : Cond) ∈ gT := gt_t (j := 94) (by decide +kernel) (by decide +kernel)
theorem tb_95 : (.methodLink RX2 34 yX2_chainNumbered : Cond) ∈ gT := gt_t (j := 95) (by decide +kernel) (by decide +kernel)
theorem tb_97 : (.instanceMethod yX2_chainNumbered : Cond) ∈ gT := gt_t (j := 97) (by decide +kernel) (by decide +kernel)
theorem tb_98 : (.code yX2_chainNumbered prog_1_method_14_code 2 (some (.object "ChainSums$Chain")) : Cond) ∈ gT := gt_t (j := 98) (by decide +kernel) (by decide +kernel)
theorem tb_99 : (.methodLink RX2 38 yX2_pieceNumbered : Cond) ∈ gT := gt_t (j := 99) (by decide +kernel) (by decide +kernel)
theorem tb_101 : (.instanceMethod yX2_pieceNumbered : Cond) ∈ gT := gt_t (j := 101) (by decide +kernel) (by decide +kernel)
theorem tb_102 : (.code yX2_pieceNumbered prog_1_method_13_code 2 (some (.object "ChainSums$Piece")) : Cond) ∈ gT := gt_t (j := 102) (by decide +kernel) (by decide +kernel)
theorem tn_103 : (.methodLinkNest RX2 49 yX0_holds "ChainSums" : Cond) ∈ tables_1 := List.mem_of_getElem? (i := 103) (by decide +kernel)
theorem tb_105 : (.instanceMethod yX0_holds : Cond) ∈ gT := gt_t (j := 105) (by decide +kernel) (by decide +kernel)
theorem tb_106 : (.code yX0_holds prog_2_method_2_code 3 (some .boolean) : Cond) ∈ gT := gt_t (j := 106) (by decide +kernel) (by decide +kernel)
theorem tn_107 : (.methodLinkNest RX2 53 yX0_append "ChainSums" : Cond) ∈ tables_1 := List.mem_of_getElem? (i := 107) (by decide +kernel)
theorem tb_109 : (.instanceMethod yX0_append : Cond) ∈ gT := gt_t (j := 109) (by decide +kernel) (by decide +kernel)
theorem tb_110 : (.code yX0_append prog_2_method_3_code 3 none : Cond) ∈ gT := gt_t (j := 110) (by decide +kernel) (by decide +kernel)
theorem tb_111 : (.methodLink RL 36 yX2_worst : Cond) ∈ gT := gt_t (j := 111) (by decide +kernel) (by decide +kernel)
theorem tb_112 : (.instanceMethod yX2_worst : Cond) ∈ gT := gt_t (j := 112) (by decide +kernel) (by decide +kernel)
theorem tb_113 : (.selects RX2 yX2_worst yX2_worst : Cond) ∈ gT := gt_t (j := 113) (by decide +kernel) (by decide +kernel)
theorem tb_114 : (.code yX2_worst prog_1_method_5_code 4 (some .long) : Cond) ∈ gT := gt_t (j := 114) (by decide +kernel) (by decide +kernel)
theorem tb_115 : (.methodLink RX2 57 yX2_filledChain : Cond) ∈ gT := gt_t (j := 115) (by decide +kernel) (by decide +kernel)
theorem tb_117 : (.instanceMethod yX2_filledChain : Cond) ∈ gT := gt_t (j := 117) (by decide +kernel) (by decide +kernel)
theorem tb_118 : (.code yX2_filledChain prog_1_method_15_code 3 (some (.object "ChainSums$Chain")) : Cond) ∈ gT := gt_t (j := 118) (by decide +kernel) (by decide +kernel)
theorem tb_119 : (.constantLong RX2 60 (-1) : Cond) ∈ gT := gt_t (j := 119) (by decide +kernel) (by decide +kernel)
theorem tn_120 : (.methodLinkNest RX2 62 yX0_worstAge "ChainSums" : Cond) ∈ tables_1 := List.mem_of_getElem? (i := 120) (by decide +kernel)
theorem tb_122 : (.instanceMethod yX0_worstAge : Cond) ∈ gT := gt_t (j := 122) (by decide +kernel) (by decide +kernel)
theorem tb_123 : (.code yX0_worstAge prog_2_method_6_code 6 (some .long) : Cond) ∈ gT := gt_t (j := 123) (by decide +kernel) (by decide +kernel)
theorem tn_124 : (.methodLinkNest RX0 31 yX1_longPeriod "ChainSums" : Cond) ∈ tables_1 := List.mem_of_getElem? (i := 124) (by decide +kernel)
theorem tb_126 : (.instanceMethod yX1_longPeriod : Cond) ∈ gT := gt_t (j := 126) (by decide +kernel) (by decide +kernel)
theorem tb_127 : (.code yX1_longPeriod prog_3_method_2_code 1 (some .long) : Cond) ∈ gT := gt_t (j := 127) (by decide +kernel) (by decide +kernel)
theorem tn_128 : (.methodLinkNest RX1 22 yX2_unitsUpwards "ChainSums" : Cond) ∈ tables_1 := List.mem_of_getElem? (i := 128) (by decide +kernel)
theorem tb_129 : (.static yX2_unitsUpwards : Cond) ∈ gT := gt_t (j := 129) (by decide +kernel) (by decide +kernel)
theorem tb_130 : (.code yX2_unitsUpwards prog_1_method_17_code 4 (some .long) : Cond) ∈ gT := gt_t (j := 130) (by decide +kernel) (by decide +kernel)
theorem tb_131 : (.methodLink RX0 42 yX0_worstReaction : Cond) ∈ gT := gt_t (j := 131) (by decide +kernel) (by decide +kernel)
theorem tb_133 : (.instanceMethod yX0_worstReaction : Cond) ∈ gT := gt_t (j := 133) (by decide +kernel) (by decide +kernel)
theorem tb_134 : (.code yX0_worstReaction prog_2_method_5_code 4 (some .long) : Cond) ∈ gT := gt_t (j := 134) (by decide +kernel) (by decide +kernel)
theorem tb_135 : (.methodLink RX0 38 yX0_broughtBy : Cond) ∈ gT := gt_t (j := 135) (by decide +kernel) (by decide +kernel)
theorem tb_137 : (.instanceMethod yX0_broughtBy : Cond) ∈ gT := gt_t (j := 137) (by decide +kernel) (by decide +kernel)
theorem tb_138 : (.code yX0_broughtBy prog_2_method_4_code 2 (some .long) : Cond) ∈ gT := gt_t (j := 138) (by decide +kernel) (by decide +kernel)
theorem tn_139 : (.methodLinkNest RX2 66 yX0_worstReaction "ChainSums" : Cond) ∈ tables_1 := List.mem_of_getElem? (i := 139) (by decide +kernel)
theorem tb_140 : (.methodLink RL 41 yX2_best : Cond) ∈ gT := gt_t (j := 140) (by decide +kernel) (by decide +kernel)
theorem tb_141 : (.instanceMethod yX2_best : Cond) ∈ gT := gt_t (j := 141) (by decide +kernel) (by decide +kernel)
theorem tb_142 : (.selects RX2 yX2_best yX2_best : Cond) ∈ gT := gt_t (j := 142) (by decide +kernel) (by decide +kernel)
theorem tb_143 : (.code yX2_best prog_1_method_6_code 4 (some .long) : Cond) ∈ gT := gt_t (j := 143) (by decide +kernel) (by decide +kernel)
theorem tn_144 : (.methodLinkNest RX2 69 yX0_answersFrom "ChainSums" : Cond) ∈ tables_1 := List.mem_of_getElem? (i := 144) (by decide +kernel)
theorem tb_146 : (.instanceMethod yX0_answersFrom : Cond) ∈ gT := gt_t (j := 146) (by decide +kernel) (by decide +kernel)
theorem tb_147 : (.code yX0_answersFrom prog_2_method_7_code 5 (some .long) : Cond) ∈ gT := gt_t (j := 147) (by decide +kernel) (by decide +kernel)
theorem tb_148 : (.methodLink RL 45 yX2_clock : Cond) ∈ gT := gt_t (j := 148) (by decide +kernel) (by decide +kernel)
theorem tb_149 : (.instanceMethod yX2_clock : Cond) ∈ gT := gt_t (j := 149) (by decide +kernel) (by decide +kernel)
theorem tb_150 : (.selects RX2 yX2_clock yX2_clock : Cond) ∈ gT := gt_t (j := 150) (by decide +kernel) (by decide +kernel)
theorem tb_151 : (.code yX2_clock prog_1_method_7_code 7 (some .int) : Cond) ∈ gT := gt_t (j := 151) (by decide +kernel) (by decide +kernel)
theorem tb_152 : (.constantLong RX2 73 (lN 1000000) : Cond) ∈ gT := gt_t (j := 152) (by decide +kernel) (by decide +kernel)
theorem tn_153 : (.methodLinkNest RX2 81 yX1_longPeriod "ChainSums" : Cond) ∈ tables_1 := List.mem_of_getElem? (i := 153) (by decide +kernel)
theorem tb_154 : (.methodLink RL 49 yX2_wish : Cond) ∈ gT := gt_t (j := 154) (by decide +kernel) (by decide +kernel)
theorem tb_155 : (.instanceMethod yX2_wish : Cond) ∈ gT := gt_t (j := 155) (by decide +kernel) (by decide +kernel)
theorem tb_156 : (.selects RX2 yX2_wish yX2_wish : Cond) ∈ gT := gt_t (j := 156) (by decide +kernel) (by decide +kernel)
theorem tb_157 : (.code yX2_wish prog_1_method_8_code 5 (some .int) : Cond) ∈ gT := gt_t (j := 157) (by decide +kernel) (by decide +kernel)
theorem tn_158 : (.methodLinkNest RX2 87 yX0_keepsWish "ChainSums" : Cond) ∈ tables_1 := List.mem_of_getElem? (i := 158) (by decide +kernel)
theorem tb_160 : (.instanceMethod yX0_keepsWish : Cond) ∈ gT := gt_t (j := 160) (by decide +kernel) (by decide +kernel)
theorem tb_161 : (.code yX0_keepsWish prog_2_method_8_code 1 (some .boolean) : Cond) ∈ gT := gt_t (j := 161) (by decide +kernel) (by decide +kernel)
theorem tb_162 : (.methodLink RL 54 yX2_share : Cond) ∈ gT := gt_t (j := 162) (by decide +kernel) (by decide +kernel)
theorem tb_163 : (.instanceMethod yX2_share : Cond) ∈ gT := gt_t (j := 163) (by decide +kernel) (by decide +kernel)
theorem tb_164 : (.selects RX2 yX2_share yX2_share : Cond) ∈ gT := gt_t (j := 164) (by decide +kernel) (by decide +kernel)
theorem tb_165 : (.code yX2_share prog_1_method_9_code 6 (some .int) : Cond) ∈ gT := gt_t (j := 165) (by decide +kernel) (by decide +kernel)
theorem tb_166 : (.methodLink RX2 91 yX2_wishesKept : Cond) ∈ gT := gt_t (j := 166) (by decide +kernel) (by decide +kernel)
theorem tb_168 : (.instanceMethod yX2_wishesKept : Cond) ∈ gT := gt_t (j := 168) (by decide +kernel) (by decide +kernel)
theorem tb_169 : (.code yX2_wishesKept prog_1_method_16_code 3 (some .int) : Cond) ∈ gT := gt_t (j := 169) (by decide +kernel) (by decide +kernel)
theorem tn_170 : (.methodLinkNest RX2 95 yX0_broughtBy "ChainSums" : Cond) ∈ tables_1 := List.mem_of_getElem? (i := 170) (by decide +kernel)
theorem tb_171 : (.constantLong RX2 98 (lN 1000) : Cond) ∈ gT := gt_t (j := 171) (by decide +kernel) (by decide +kernel)
theorem tb_172 : (.methodLink RL 68 yX2_stepped : Cond) ∈ gT := gt_t (j := 172) (by decide +kernel) (by decide +kernel)
theorem tb_173 : (.instanceMethod yX2_stepped : Cond) ∈ gT := gt_t (j := 173) (by decide +kernel) (by decide +kernel)
theorem tb_174 : (.selects RX2 yX2_stepped yX2_stepped : Cond) ∈ gT := gt_t (j := 174) (by decide +kernel) (by decide +kernel)
theorem tb_175 : (.code yX2_stepped prog_1_method_11_code 3 (some .long) : Cond) ∈ gT := gt_t (j := 175) (by decide +kernel) (by decide +kernel)
theorem tn_176 : (.methodLinkNest RX2 114 yX0_canBeStepped "ChainSums" : Cond) ∈ tables_1 := List.mem_of_getElem? (i := 176) (by decide +kernel)
theorem tb_178 : (.instanceMethod yX0_canBeStepped : Cond) ∈ gT := gt_t (j := 178) (by decide +kernel) (by decide +kernel)
theorem tb_179 : (.code yX0_canBeStepped prog_2_method_12_code 1 (some .boolean) : Cond) ∈ gT := gt_t (j := 179) (by decide +kernel) (by decide +kernel)
theorem tb_180 : (.methodLink RX0 62 yX0_clocksAreRight : Cond) ∈ gT := gt_t (j := 180) (by decide +kernel) (by decide +kernel)
theorem tb_182 : (.instanceMethod yX0_clocksAreRight : Cond) ∈ gT := gt_t (j := 182) (by decide +kernel) (by decide +kernel)
theorem tb_183 : (.code yX0_clocksAreRight prog_2_method_11_code 2 (some .boolean) : Cond) ∈ gT := gt_t (j := 183) (by decide +kernel) (by decide +kernel)
theorem tb_184 : (.methodLink RX0 66 yX0_commonCycle : Cond) ∈ gT := gt_t (j := 184) (by decide +kernel) (by decide +kernel)
theorem tb_186 : (.instanceMethod yX0_commonCycle : Cond) ∈ gT := gt_t (j := 186) (by decide +kernel) (by decide +kernel)
theorem tb_187 : (.code yX0_commonCycle prog_2_method_10_code 5 (some .long) : Cond) ∈ gT := gt_t (j := 187) (by decide +kernel) (by decide +kernel)
theorem tb_188 : (.constantLong RX0 48 (lN 1000000000) : Cond) ∈ gT := gt_t (j := 188) (by decide +kernel) (by decide +kernel)
theorem tn_189 : (.methodLinkNest RX0 50 yX2_leastCommonMultiple "ChainSums" : Cond) ∈ tables_1 := List.mem_of_getElem? (i := 189) (by decide +kernel)
theorem tb_190 : (.static yX2_leastCommonMultiple : Cond) ∈ gT := gt_t (j := 190) (by decide +kernel) (by decide +kernel)
theorem tb_191 : (.code yX2_leastCommonMultiple prog_1_method_19_code 6 (some .long) : Cond) ∈ gT := gt_t (j := 191) (by decide +kernel) (by decide +kernel)
theorem tb_192 : (.methodLink RX2 120 yX2_greatestCommonDivisor : Cond) ∈ gT := gt_t (j := 192) (by decide +kernel) (by decide +kernel)
theorem tb_193 : (.static yX2_greatestCommonDivisor : Cond) ∈ gT := gt_t (j := 193) (by decide +kernel) (by decide +kernel)
theorem tb_194 : (.code yX2_greatestCommonDivisor prog_1_method_18_code 11 (some .long) : Cond) ∈ gT := gt_t (j := 194) (by decide +kernel) (by decide +kernel)
theorem tb_195 : (.methodLink RX0 54 Lib.MathLoose.min_long.x : Cond) ∈ gT := gt_t (j := 195) (by decide +kernel) (by decide +kernel)
theorem tb_196 : (.static Lib.MathLoose.min_long.x : Cond) ∈ gT := gt_t (j := 196) (by decide +kernel) (by decide +kernel)
theorem tb_197 : (.code Lib.MathLoose.min_long.x Lib.MathLoose.min_long.code 4 (some .long) : Cond) ∈ gT := gt_t (j := 197) (by decide +kernel) (by decide +kernel)
theorem tb_198 : (.constantLong RX0 70 (lN 20000) : Cond) ∈ gT := gt_t (j := 198) (by decide +kernel) (by decide +kernel)
theorem tn_199 : (.methodLinkNest RX2 117 yX0_longestByStepping "ChainSums" : Cond) ∈ tables_1 := List.mem_of_getElem? (i := 199) (by decide +kernel)
theorem tb_201 : (.instanceMethod yX0_longestByStepping : Cond) ∈ gT := gt_t (j := 201) (by decide +kernel) (by decide +kernel)
theorem tb_202 : (.code yX0_longestByStepping prog_2_method_13_code 9 (some .long) : Cond) ∈ gT := gt_t (j := 202) (by decide +kernel) (by decide +kernel)
theorem tb_203 : (.methodLink RX0 72 yX0_timeFromBegin : Cond) ∈ gT := gt_t (j := 203) (by decide +kernel) (by decide +kernel)
theorem tb_205 : (.instanceMethod yX0_timeFromBegin : Cond) ∈ gT := gt_t (j := 205) (by decide +kernel) (by decide +kernel)
theorem tb_206 : (.code yX0_timeFromBegin prog_2_method_14_code 6 (some .long) : Cond) ∈ gT := gt_t (j := 206) (by decide +kernel) (by decide +kernel)
theorem tn_207 : (.methodLinkNest RX0 79 yX2_unitsUpwards "ChainSums" : Cond) ∈ tables_1 := List.mem_of_getElem? (i := 207) (by decide +kernel)
theorem tb_208 : (.methodLink RX0 76 Lib.MathLoose.max_long.x : Cond) ∈ gT := gt_t (j := 208) (by decide +kernel) (by decide +kernel)
theorem tb_209 : (.static Lib.MathLoose.max_long.x : Cond) ∈ gT := gt_t (j := 209) (by decide +kernel) (by decide +kernel)
theorem tb_210 : (.code Lib.MathLoose.max_long.x Lib.MathLoose.max_long.code 4 (some .long) : Cond) ∈ gT := gt_t (j := 210) (by decide +kernel) (by decide +kernel)
theorem tb_211 : (.methodLink RL 72 yX2_plain : Cond) ∈ gT := gt_t (j := 211) (by decide +kernel) (by decide +kernel)
theorem tb_212 : (.instanceMethod yX2_plain : Cond) ∈ gT := gt_t (j := 212) (by decide +kernel) (by decide +kernel)
theorem tb_213 : (.selects RX2 yX2_plain yX2_plain : Cond) ∈ gT := gt_t (j := 213) (by decide +kernel) (by decide +kernel)
theorem tb_214 : (.code yX2_plain prog_1_method_12_code 3 (some .boolean) : Cond) ∈ gT := gt_t (j := 214) (by decide +kernel) (by decide +kernel)
theorem tb_215 : (.methodLink RL 59 yL_cycle : Cond) ∈ gT := gt_t (j := 215) (by decide +kernel) (by decide +kernel)
theorem tb_216 : (.static yL_cycle : Cond) ∈ gT := gt_t (j := 216) (by decide +kernel) (by decide +kernel)
theorem tb_219 : (.methodLink RL 7 yX2_cycle : Cond) ∈ gT := gt_t (j := 219) (by decide +kernel) (by decide +kernel)
theorem tb_220 : (.instanceMethod yX2_cycle : Cond) ∈ gT := gt_t (j := 220) (by decide +kernel) (by decide +kernel)
theorem tb_221 : (.selects RX2 yX2_cycle yX2_cycle : Cond) ∈ gT := gt_t (j := 221) (by decide +kernel) (by decide +kernel)
theorem tb_222 : (.code yX2_cycle prog_1_method_10_code 3 (some .long) : Cond) ∈ gT := gt_t (j := 222) (by decide +kernel) (by decide +kernel)
theorem tn_223 : (.methodLinkNest RX2 100 yX0_lacksPeriod "ChainSums" : Cond) ∈ tables_1 := List.mem_of_getElem? (i := 223) (by decide +kernel)
theorem tb_225 : (.instanceMethod yX0_lacksPeriod : Cond) ∈ gT := gt_t (j := 225) (by decide +kernel) (by decide +kernel)
theorem tb_226 : (.code yX0_lacksPeriod prog_2_method_9_code 2 (some .boolean) : Cond) ∈ gT := gt_t (j := 226) (by decide +kernel) (by decide +kernel)
theorem tn_293 : (.methodLinkNest RX2 110 yX0_commonCycle "ChainSums" : Cond) ∈ tables_1 := List.mem_of_getElem? (i := 293) (by decide +kernel)
theorem tb_294 : (.classLink RL 16 RM : Cond) ∈ gT := gt_t (j := 294) (by decide +kernel) (by decide +kernel)
theorem tb_295 : (.instantiable RM 12 : Cond) ∈ gT := gt_t (j := 295) (by decide +kernel) (by decide +kernel)
theorem tb_296 : (.methodLink RL 18 yM_init : Cond) ∈ gT := gt_t (j := 296) (by decide +kernel) (by decide +kernel)
theorem tb_297 : (.instanceMethod yM_init : Cond) ∈ gT := gt_t (j := 297) (by decide +kernel) (by decide +kernel)
theorem tb_298 : (.code yM_init prog_5_method_1_code 1 none : Cond) ∈ gT := gt_t (j := 298) (by decide +kernel) (by decide +kernel)
theorem tb_299 : (.methodLink RM 1 objectInit : Cond) ∈ gT := gt_t (j := 299) (by decide +kernel) (by decide +kernel)
theorem tb_300 : (.fieldLink RM 39 "ChainSumsModel" "thrown" "I" : Cond) ∈ gT := gt_t (j := 300) (by decide +kernel) (by decide +kernel)
theorem tb_301 : (.fieldLink RM 45 "ChainSumsModel" "pieces" "I" : Cond) ∈ gT := gt_t (j := 301) (by decide +kernel) (by decide +kernel)
theorem tb_302 : (.fieldLink RM 7 "ChainSumsModel" "periods" "[J" : Cond) ∈ gT := gt_t (j := 302) (by decide +kernel) (by decide +kernel)
theorem tb_303 : (.fieldLink RM 13 "ChainSumsModel" "answers" "[J" : Cond) ∈ gT := gt_t (j := 303) (by decide +kernel) (by decide +kernel)
theorem tb_304 : (.fieldLink RM 16 "ChainSumsModel" "ups" "[J" : Cond) ∈ gT := gt_t (j := 304) (by decide +kernel) (by decide +kernel)
theorem tb_305 : (.fieldLink RM 19 "ChainSumsModel" "downs" "[J" : Cond) ∈ gT := gt_t (j := 305) (by decide +kernel) (by decide +kernel)
theorem tb_306 : (.fieldLink RM 48 "ChainSumsModel" "chains" "I" : Cond) ∈ gT := gt_t (j := 306) (by decide +kernel) (by decide +kernel)
theorem tb_307 : (.fieldLink RM 22 "ChainSumsModel" "rows" "[I" : Cond) ∈ gT := gt_t (j := 307) (by decide +kernel) (by decide +kernel)
theorem tb_308 : (.fieldLink RM 26 "ChainSumsModel" "setOff" "[Z" : Cond) ∈ gT := gt_t (j := 308) (by decide +kernel) (by decide +kernel)
theorem tb_309 : (.fieldLink RM 30 "ChainSumsModel" "many" "[I" : Cond) ∈ gT := gt_t (j := 309) (by decide +kernel) (by decide +kernel)
theorem tb_310 : (.fieldLink RM 33 "ChainSumsModel" "wished" "[Z" : Cond) ∈ gT := gt_t (j := 310) (by decide +kernel) (by decide +kernel)
theorem tb_311 : (.fieldLink RM 36 "ChainSumsModel" "wishes" "[J" : Cond) ∈ gT := gt_t (j := 311) (by decide +kernel) (by decide +kernel)
theorem tb_337 : (.arrayClass .long : Cond) ∈ gT := gt_t (j := 337) (by decide +kernel) (by decide +kernel)
theorem tb_338 : (.arrayClass .int : Cond) ∈ gT := gt_t (j := 338) (by decide +kernel) (by decide +kernel)
theorem tb_339 : (.methodLink RL 65 yM_thrown : Cond) ∈ gT := gt_t (j := 339) (by decide +kernel) (by decide +kernel)
theorem tb_340 : (.instanceMethod yM_thrown : Cond) ∈ gT := gt_t (j := 340) (by decide +kernel) (by decide +kernel)
theorem tb_341 : (.selects RM yM_thrown yM_thrown : Cond) ∈ gT := gt_t (j := 341) (by decide +kernel) (by decide +kernel)
theorem tb_342 : (.code yM_thrown prog_5_method_2_code 1 (some .int) : Cond) ∈ gT := gt_t (j := 342) (by decide +kernel) (by decide +kernel)
theorem tb_343 : (.methodLink RL 25 yM_piece : Cond) ∈ gT := gt_t (j := 343) (by decide +kernel) (by decide +kernel)
theorem tb_344 : (.instanceMethod yM_piece : Cond) ∈ gT := gt_t (j := 344) (by decide +kernel) (by decide +kernel)
theorem tb_345 : (.selects RM yM_piece yM_piece : Cond) ∈ gT := gt_t (j := 345) (by decide +kernel) (by decide +kernel)
theorem tb_346 : (.code yM_piece prog_5_method_3_code 6 (some .int) : Cond) ∈ gT := gt_t (j := 346) (by decide +kernel) (by decide +kernel)
theorem tb_347 : (.constantLong RM 43 (lN 20000) : Cond) ∈ gT := gt_t (j := 347) (by decide +kernel) (by decide +kernel)
theorem tb_348 : (.methodLink RL 30 yM_chain : Cond) ∈ gT := gt_t (j := 348) (by decide +kernel) (by decide +kernel)
theorem tb_349 : (.instanceMethod yM_chain : Cond) ∈ gT := gt_t (j := 349) (by decide +kernel) (by decide +kernel)
theorem tb_350 : (.selects RM yM_chain yM_chain : Cond) ∈ gT := gt_t (j := 350) (by decide +kernel) (by decide +kernel)
theorem tb_351 : (.code yM_chain prog_5_method_4_code 1 (some .int) : Cond) ∈ gT := gt_t (j := 351) (by decide +kernel) (by decide +kernel)
theorem tb_352 : (.methodLink RL 35 yM_add : Cond) ∈ gT := gt_t (j := 352) (by decide +kernel) (by decide +kernel)
theorem tb_353 : (.instanceMethod yM_add : Cond) ∈ gT := gt_t (j := 353) (by decide +kernel) (by decide +kernel)
theorem tb_354 : (.selects RM yM_add yM_add : Cond) ∈ gT := gt_t (j := 354) (by decide +kernel) (by decide +kernel)
theorem tb_355 : (.code yM_add prog_5_method_8_code 6 (some .int) : Cond) ∈ gT := gt_t (j := 355) (by decide +kernel) (by decide +kernel)
theorem tb_356 : (.methodLink RM 51 yM_noChain : Cond) ∈ gT := gt_t (j := 356) (by decide +kernel) (by decide +kernel)
theorem tb_358 : (.instanceMethod yM_noChain : Cond) ∈ gT := gt_t (j := 358) (by decide +kernel) (by decide +kernel)
theorem tb_359 : (.code yM_noChain prog_5_method_5_code 2 (some .boolean) : Cond) ∈ gT := gt_t (j := 359) (by decide +kernel) (by decide +kernel)
theorem tb_360 : (.methodLink RM 55 yM_noPiece : Cond) ∈ gT := gt_t (j := 360) (by decide +kernel) (by decide +kernel)
theorem tb_362 : (.instanceMethod yM_noPiece : Cond) ∈ gT := gt_t (j := 362) (by decide +kernel) (by decide +kernel)
theorem tb_363 : (.code yM_noPiece prog_5_method_7_code 2 (some .boolean) : Cond) ∈ gT := gt_t (j := 363) (by decide +kernel) (by decide +kernel)
theorem tb_364 : (.methodLink RL 40 yM_worst : Cond) ∈ gT := gt_t (j := 364) (by decide +kernel) (by decide +kernel)
theorem tb_365 : (.instanceMethod yM_worst : Cond) ∈ gT := gt_t (j := 365) (by decide +kernel) (by decide +kernel)
theorem tb_366 : (.selects RM yM_worst yM_worst : Cond) ∈ gT := gt_t (j := 366) (by decide +kernel) (by decide +kernel)
theorem tb_367 : (.code yM_worst prog_5_method_13_code 3 (some .long) : Cond) ∈ gT := gt_t (j := 367) (by decide +kernel) (by decide +kernel)
theorem tb_368 : (.methodLink RM 69 yM_isEmpty : Cond) ∈ gT := gt_t (j := 368) (by decide +kernel) (by decide +kernel)
theorem tb_370 : (.instanceMethod yM_isEmpty : Cond) ∈ gT := gt_t (j := 370) (by decide +kernel) (by decide +kernel)
theorem tb_371 : (.code yM_isEmpty prog_5_method_6_code 2 (some .boolean) : Cond) ∈ gT := gt_t (j := 371) (by decide +kernel) (by decide +kernel)
theorem tb_372 : (.constantLong RM 72 (-1) : Cond) ∈ gT := gt_t (j := 372) (by decide +kernel) (by decide +kernel)
theorem tb_373 : (.methodLink RM 74 yM_age : Cond) ∈ gT := gt_t (j := 373) (by decide +kernel) (by decide +kernel)
theorem tb_375 : (.instanceMethod yM_age : Cond) ∈ gT := gt_t (j := 375) (by decide +kernel) (by decide +kernel)
theorem tb_376 : (.code yM_age prog_5_method_12_code 4 (some .long) : Cond) ∈ gT := gt_t (j := 376) (by decide +kernel) (by decide +kernel)
theorem tb_377 : (.methodLink RM 66 yM_reaction : Cond) ∈ gT := gt_t (j := 377) (by decide +kernel) (by decide +kernel)
theorem tb_379 : (.instanceMethod yM_reaction : Cond) ∈ gT := gt_t (j := 379) (by decide +kernel) (by decide +kernel)
theorem tb_380 : (.code yM_reaction prog_5_method_11_code 5 (some .long) : Cond) ∈ gT := gt_t (j := 380) (by decide +kernel) (by decide +kernel)
theorem tb_381 : (.methodLink RM 62 yM_brings : Cond) ∈ gT := gt_t (j := 381) (by decide +kernel) (by decide +kernel)
theorem tb_383 : (.instanceMethod yM_brings : Cond) ∈ gT := gt_t (j := 383) (by decide +kernel) (by decide +kernel)
theorem tb_384 : (.code yM_brings prog_5_method_10_code 4 (some .long) : Cond) ∈ gT := gt_t (j := 384) (by decide +kernel) (by decide +kernel)
theorem tb_385 : (.methodLink RM 58 yM_longPeriod : Cond) ∈ gT := gt_t (j := 385) (by decide +kernel) (by decide +kernel)
theorem tb_387 : (.instanceMethod yM_longPeriod : Cond) ∈ gT := gt_t (j := 387) (by decide +kernel) (by decide +kernel)
theorem tb_388 : (.code yM_longPeriod prog_5_method_9_code 2 (some .long) : Cond) ∈ gT := gt_t (j := 388) (by decide +kernel) (by decide +kernel)
theorem tb_389 : (.methodLink RL 44 yM_best : Cond) ∈ gT := gt_t (j := 389) (by decide +kernel) (by decide +kernel)
theorem tb_390 : (.instanceMethod yM_best : Cond) ∈ gT := gt_t (j := 390) (by decide +kernel) (by decide +kernel)
theorem tb_391 : (.selects RM yM_best yM_best : Cond) ∈ gT := gt_t (j := 391) (by decide +kernel) (by decide +kernel)
theorem tb_392 : (.code yM_best prog_5_method_14_code 6 (some .long) : Cond) ∈ gT := gt_t (j := 392) (by decide +kernel) (by decide +kernel)
theorem tb_393 : (.methodLink RL 48 yM_clock : Cond) ∈ gT := gt_t (j := 393) (by decide +kernel) (by decide +kernel)
theorem tb_394 : (.instanceMethod yM_clock : Cond) ∈ gT := gt_t (j := 394) (by decide +kernel) (by decide +kernel)
theorem tb_395 : (.selects RM yM_clock yM_clock : Cond) ∈ gT := gt_t (j := 395) (by decide +kernel) (by decide +kernel)
theorem tb_396 : (.code yM_clock prog_5_method_15_code 6 (some .int) : Cond) ∈ gT := gt_t (j := 396) (by decide +kernel) (by decide +kernel)
theorem tb_397 : (.constantLong RM 77 (lN 1000000) : Cond) ∈ gT := gt_t (j := 397) (by decide +kernel) (by decide +kernel)
theorem tb_398 : (.methodLink RL 53 yM_wish : Cond) ∈ gT := gt_t (j := 398) (by decide +kernel) (by decide +kernel)
theorem tb_399 : (.instanceMethod yM_wish : Cond) ∈ gT := gt_t (j := 399) (by decide +kernel) (by decide +kernel)
theorem tb_400 : (.selects RM yM_wish yM_wish : Cond) ∈ gT := gt_t (j := 400) (by decide +kernel) (by decide +kernel)
theorem tb_401 : (.code yM_wish prog_5_method_16_code 4 (some .int) : Cond) ∈ gT := gt_t (j := 401) (by decide +kernel) (by decide +kernel)
theorem tb_402 : (.methodLink RL 58 yM_share : Cond) ∈ gT := gt_t (j := 402) (by decide +kernel) (by decide +kernel)
theorem tb_403 : (.instanceMethod yM_share : Cond) ∈ gT := gt_t (j := 403) (by decide +kernel) (by decide +kernel)
theorem tb_404 : (.selects RM yM_share yM_share : Cond) ∈ gT := gt_t (j := 404) (by decide +kernel) (by decide +kernel)
theorem tb_405 : (.code yM_share prog_5_method_17_code 5 (some .int) : Cond) ∈ gT := gt_t (j := 405) (by decide +kernel) (by decide +kernel)
theorem tb_406 : (.constantLong RM 79 (lN 1000) : Cond) ∈ gT := gt_t (j := 406) (by decide +kernel) (by decide +kernel)
theorem tb_407 : (.methodLink RL 64 yM_cycle : Cond) ∈ gT := gt_t (j := 407) (by decide +kernel) (by decide +kernel)
theorem tb_408 : (.instanceMethod yM_cycle : Cond) ∈ gT := gt_t (j := 408) (by decide +kernel) (by decide +kernel)
theorem tb_409 : (.selects RM yM_cycle yM_cycle : Cond) ∈ gT := gt_t (j := 409) (by decide +kernel) (by decide +kernel)
theorem tb_410 : (.code yM_cycle prog_5_method_19_code 3 (some .long) : Cond) ∈ gT := gt_t (j := 410) (by decide +kernel) (by decide +kernel)
theorem tb_411 : (.constantLong RM 81 (lN 1000000000) : Cond) ∈ gT := gt_t (j := 411) (by decide +kernel) (by decide +kernel)
theorem tb_412 : (.methodLink RM 83 yM_common : Cond) ∈ gT := gt_t (j := 412) (by decide +kernel) (by decide +kernel)
theorem tb_414 : (.instanceMethod yM_common : Cond) ∈ gT := gt_t (j := 414) (by decide +kernel) (by decide +kernel)
theorem tb_415 : (.code yM_common prog_5_method_20_code 10 (some .long) : Cond) ∈ gT := gt_t (j := 415) (by decide +kernel) (by decide +kernel)
theorem tb_416 : (.methodLink RM 87 yM_divisor : Cond) ∈ gT := gt_t (j := 416) (by decide +kernel) (by decide +kernel)
theorem tb_417 : (.static yM_divisor : Cond) ∈ gT := gt_t (j := 417) (by decide +kernel) (by decide +kernel)
theorem tb_418 : (.code yM_divisor prog_5_method_18_code 10 (some .long) : Cond) ∈ gT := gt_t (j := 418) (by decide +kernel) (by decide +kernel)
theorem tb_419 : (.methodLink RL 71 yM_stepped : Cond) ∈ gT := gt_t (j := 419) (by decide +kernel) (by decide +kernel)
theorem tb_420 : (.instanceMethod yM_stepped : Cond) ∈ gT := gt_t (j := 420) (by decide +kernel) (by decide +kernel)
theorem tb_421 : (.selects RM yM_stepped yM_stepped : Cond) ∈ gT := gt_t (j := 421) (by decide +kernel) (by decide +kernel)
theorem tb_422 : (.code yM_stepped prog_5_method_22_code 12 (some .long) : Cond) ∈ gT := gt_t (j := 422) (by decide +kernel) (by decide +kernel)
theorem tb_423 : (.methodLink RM 93 yM_isPlain : Cond) ∈ gT := gt_t (j := 423) (by decide +kernel) (by decide +kernel)
theorem tb_425 : (.instanceMethod yM_isPlain : Cond) ∈ gT := gt_t (j := 425) (by decide +kernel) (by decide +kernel)
theorem tb_426 : (.code yM_isPlain prog_5_method_21_code 4 (some .boolean) : Cond) ∈ gT := gt_t (j := 426) (by decide +kernel) (by decide +kernel)
theorem tb_427 : (.constantLong RM 91 (lN 20001) : Cond) ∈ gT := gt_t (j := 427) (by decide +kernel) (by decide +kernel)
theorem tb_428 : (.methodLink RL 76 yM_plain : Cond) ∈ gT := gt_t (j := 428) (by decide +kernel) (by decide +kernel)
theorem tb_429 : (.instanceMethod yM_plain : Cond) ∈ gT := gt_t (j := 429) (by decide +kernel) (by decide +kernel)
theorem tb_430 : (.selects RM yM_plain yM_plain : Cond) ∈ gT := gt_t (j := 430) (by decide +kernel) (by decide +kernel)
theorem tb_431 : (.code yM_plain prog_5_method_23_code 2 (some .boolean) : Cond) ∈ gT := gt_t (j := 431) (by decide +kernel) (by decide +kernel)
theorem tb_432 : (.constantLong RL 19 (lN 4294967295) : Cond) ∈ gT := gt_t (j := 432) (by decide +kernel) (by decide +kernel)
theorem ts_0 : (.selects RX2 yX2_chainNumbered yX2_chainNumbered : Cond) ∈ gT := gt_s (j := 0) (by decide +kernel) (by decide +kernel)
theorem ts_1 : (.selects RX2 yX2_pieceNumbered yX2_pieceNumbered : Cond) ∈ gT := gt_s (j := 1) (by decide +kernel) (by decide +kernel)
theorem ts_2 : (.selects RX0 yX0_holds yX0_holds : Cond) ∈ gT := gt_s (j := 2) (by decide +kernel) (by decide +kernel)
theorem ts_3 : (.selects RX0 yX0_append yX0_append : Cond) ∈ gT := gt_s (j := 3) (by decide +kernel) (by decide +kernel)
theorem ts_4 : (.selects RX2 yX2_filledChain yX2_filledChain : Cond) ∈ gT := gt_s (j := 4) (by decide +kernel) (by decide +kernel)
theorem ts_5 : (.selects RX0 yX0_worstAge yX0_worstAge : Cond) ∈ gT := gt_s (j := 5) (by decide +kernel) (by decide +kernel)
theorem ts_6 : (.selects RX1 yX1_longPeriod yX1_longPeriod : Cond) ∈ gT := gt_s (j := 6) (by decide +kernel) (by decide +kernel)
theorem ts_7 : (.selects RX0 yX0_worstReaction yX0_worstReaction : Cond) ∈ gT := gt_s (j := 7) (by decide +kernel) (by decide +kernel)
theorem ts_8 : (.selects RX0 yX0_broughtBy yX0_broughtBy : Cond) ∈ gT := gt_s (j := 8) (by decide +kernel) (by decide +kernel)
theorem ts_9 : (.selects RX0 yX0_answersFrom yX0_answersFrom : Cond) ∈ gT := gt_s (j := 9) (by decide +kernel) (by decide +kernel)
theorem ts_10 : (.selects RX0 yX0_keepsWish yX0_keepsWish : Cond) ∈ gT := gt_s (j := 10) (by decide +kernel) (by decide +kernel)
theorem ts_11 : (.selects RX2 yX2_wishesKept yX2_wishesKept : Cond) ∈ gT := gt_s (j := 11) (by decide +kernel) (by decide +kernel)
theorem ts_12 : (.selects RX0 yX0_canBeStepped yX0_canBeStepped : Cond) ∈ gT := gt_s (j := 12) (by decide +kernel) (by decide +kernel)
theorem ts_13 : (.selects RX0 yX0_clocksAreRight yX0_clocksAreRight : Cond) ∈ gT := gt_s (j := 13) (by decide +kernel) (by decide +kernel)
theorem ts_14 : (.selects RX0 yX0_commonCycle yX0_commonCycle : Cond) ∈ gT := gt_s (j := 14) (by decide +kernel) (by decide +kernel)
theorem ts_15 : (.selects RX0 yX0_longestByStepping yX0_longestByStepping : Cond) ∈ gT := gt_s (j := 15) (by decide +kernel) (by decide +kernel)
theorem ts_16 : (.selects RX0 yX0_timeFromBegin yX0_timeFromBegin : Cond) ∈ gT := gt_s (j := 16) (by decide +kernel) (by decide +kernel)
theorem ts_17 : (.selects RX0 yX0_lacksPeriod yX0_lacksPeriod : Cond) ∈ gT := gt_s (j := 17) (by decide +kernel) (by decide +kernel)
theorem ts_19 : (.selects RM yM_noChain yM_noChain : Cond) ∈ gT := gt_s (j := 19) (by decide +kernel) (by decide +kernel)
theorem ts_20 : (.selects RM yM_noPiece yM_noPiece : Cond) ∈ gT := gt_s (j := 20) (by decide +kernel) (by decide +kernel)
theorem ts_21 : (.selects RM yM_isEmpty yM_isEmpty : Cond) ∈ gT := gt_s (j := 21) (by decide +kernel) (by decide +kernel)
theorem ts_22 : (.selects RM yM_age yM_age : Cond) ∈ gT := gt_s (j := 22) (by decide +kernel) (by decide +kernel)
theorem ts_23 : (.selects RM yM_reaction yM_reaction : Cond) ∈ gT := gt_s (j := 23) (by decide +kernel) (by decide +kernel)
theorem ts_24 : (.selects RM yM_brings yM_brings : Cond) ∈ gT := gt_s (j := 24) (by decide +kernel) (by decide +kernel)
theorem ts_25 : (.selects RM yM_longPeriod yM_longPeriod : Cond) ∈ gT := gt_s (j := 25) (by decide +kernel) (by decide +kernel)
theorem ts_26 : (.selects RM yM_common yM_common : Cond) ∈ gT := gt_s (j := 26) (by decide +kernel) (by decide +kernel)
theorem ts_27 : (.selects RM yM_isPlain yM_isPlain : Cond) ∈ gT := gt_s (j := 27) (by decide +kernel) (by decide +kernel)
theorem inX0 : ∀ w ∈ u_ws RX0 TX0 4, w ∈ gT := by decide +kernel
theorem inX1 : ∀ w ∈ u_ws RX1 TX1 4, w ∈ gT := by decide +kernel
theorem inX2 : ∀ w ∈ u_ws RX2 TX2 4, w ∈ gT := by decide +kernel
theorem inM : ∀ w ∈ u_ws RM TM 12, w ∈ gT := by decide +kernel
theorem gG {y : MethodName} {b : ByteArray} {n : Nat} {r : Option FieldType} (hc : Cond.code y b n r ∈ gT) : GoodIn gT (Cond.code y b n r :: gT) := by
  have h : ∀ w ∈ gT, w ∈ gT ∧ ((w.onTables && w.keeps) = true ∨ ∃ ty, w = .arrayClass ty) := fun w hw => ⟨hw, good_of_word (List.mem_filter.mp hw).2⟩
  intro w hw
  rcases List.mem_cons.mp hw with rfl | hw
  · exact h _ hc
  · exact h w hw
section CW
variable {R : Room} {s : State} {args : Array Value} {own C host : String} {index maxL mc ms : Nat} {y : MethodName} {b : ByteArray} {ret : Option FieldType} {rm : Room}
theorem cw_B (n : Nat) (hts : ∀ w ∈ gT, w.before args s = true) (hc : Cond.code y b maxL ret ∈ gT) (hrc : rm.cells = mc) (hrs : rm.slots = ms) (hl : Cond.methodLink own index y ∈ gT) (hini : Cond.initialized y.cls ∈ gT) (hd : y.cls ≠ "java/lang/invoke/MethodHandle" ∧ y.cls ≠ "java/lang/invoke/VarHandle" ∧ (parseMethodDescriptor y.desc).map (fun d => d.parameters.length) = some n) (hR : rm.frames + 1 ≤ R.frames ∧ 8 + (maxL + 11) + rm.locals ≤ R.locals) : CallB R s args own index y b maxL ret (Cond.code y b maxL ret :: gT) rm mc ms n := callB_of n hts (gG hc) rfl hrc hrs (hts _ hini) (hts _ hl) hd hR
theorem cw_V (n : Nat) (hts : ∀ w ∈ gT, w.before args s = true) (hc : Cond.code y b maxL ret ∈ gT) (hrc : rm.cells = mc) (hrs : rm.slots = ms) (hl : Cond.methodLink own index y ∈ gT) (hini : Cond.initialized y.cls ∈ gT) (hi : Cond.instanceMethod y ∈ gT) (hs : Cond.selects C y y ∈ gT) (hd : y.cls ≠ "java/lang/invoke/MethodHandle" ∧ y.cls ≠ "java/lang/invoke/VarHandle" ∧ (parseMethodDescriptor y.desc).map (fun d => d.parameters.length) = some n) (hR : rm.frames + 1 ≤ R.frames ∧ 8 + (maxL + 11) + rm.locals ≤ R.locals) : CallW R s args own C index y b maxL ret (Cond.code y b maxL ret :: gT) rm mc ms n := ⟨cw_B n hts hc hrc hrs hl hini hd hR, hts _ hi, hts _ hs⟩
theorem cw_S (n : Nat) (hts : ∀ w ∈ gT, w.before args s = true) (hc : Cond.code y b maxL ret ∈ gT) (hrc : rm.cells = mc) (hrs : rm.slots = ms) (hl : Cond.methodLink own index y ∈ gT) (hini : Cond.initialized y.cls ∈ gT) (hi : Cond.static y ∈ gT) (hd : y.cls ≠ "java/lang/invoke/MethodHandle" ∧ y.cls ≠ "java/lang/invoke/VarHandle" ∧ (parseMethodDescriptor y.desc).map (fun d => d.parameters.length) = some n) (hR : rm.frames + 1 ≤ R.frames ∧ 8 + (maxL + 11) + rm.locals ≤ R.locals) : CallB R s args own index y b maxL ret (Cond.code y b maxL ret :: gT) rm mc ms n ∧ (Cond.static y).before args s = true := ⟨cw_B n hts hc hrc hrs hl hini hd hR, hts _ hi⟩
theorem cw_I (n : Nat) (hts : ∀ w ∈ gT, w.before args s = true) (hc : Cond.code y b maxL none ∈ gT) (hrc : rm.cells = mc) (hrs : rm.slots = ms) (hl : Cond.methodLink own index y ∈ gT) (hini : Cond.initialized y.cls ∈ gT) (hi : Cond.instanceMethod y ∈ gT) (hy : y.name = "<init>") (hd : y.cls ≠ "java/lang/invoke/MethodHandle" ∧ y.cls ≠ "java/lang/invoke/VarHandle" ∧ (parseMethodDescriptor y.desc).map (fun d => d.parameters.length) = some n) (hR : rm.frames + 1 ≤ R.frames ∧ 8 + (maxL + 11) + rm.locals ≤ R.locals) : CallB R s args own index y b maxL none (Cond.code y b maxL none :: gT) rm mc ms n ∧ y.name = "<init>" ∧ (Cond.instanceMethod y).before args s = true := ⟨cw_B n hts hc hrc hrs hl hini hd hR, hy, hts _ hi⟩
theorem cw_N (n : Nat) (hts : ∀ w ∈ gT, w.before args s = true) (hc : Cond.code y b maxL ret ∈ gT) (hrc : rm.cells = mc) (hrs : rm.slots = ms) (hl : va_Nw (.methodLinkNest own index y host) s) (hini : Cond.initialized y.cls ∈ gT) (hd : y.cls ≠ "java/lang/invoke/MethodHandle" ∧ y.cls ≠ "java/lang/invoke/VarHandle" ∧ (parseMethodDescriptor y.desc).map (fun d => d.parameters.length) = some n) (hR : rm.frames + 1 ≤ R.frames ∧ 8 + (maxL + 11) + rm.locals ≤ R.locals) : va_CN R s args own index y host b maxL ret (Cond.code y b maxL ret :: gT) rm mc ms n := va_cnB n hts (gG hc) rfl hrc hrs hl (hts _ hini) hd hR
theorem cw_VN (n : Nat) (hts : ∀ w ∈ gT, w.before args s = true) (hc : Cond.code y b maxL ret ∈ gT) (hrc : rm.cells = mc) (hrs : rm.slots = ms) (hl : va_Nw (.methodLinkNest own index y host) s) (hini : Cond.initialized y.cls ∈ gT) (hi : Cond.instanceMethod y ∈ gT) (hs : Cond.selects C y y ∈ gT) (hd : y.cls ≠ "java/lang/invoke/MethodHandle" ∧ y.cls ≠ "java/lang/invoke/VarHandle" ∧ (parseMethodDescriptor y.desc).map (fun d => d.parameters.length) = some n) (hR : rm.frames + 1 ≤ R.frames ∧ 8 + (maxL + 11) + rm.locals ≤ R.locals) : va_CN R s args own index y host b maxL ret (Cond.code y b maxL ret :: gT) rm mc ms n ∧ (Cond.instanceMethod y).before args s = true ∧ (Cond.selects C y y).before args s = true := ⟨cw_N n hts hc hrc hrs hl hini hd hR, hts _ hi, hts _ hs⟩
theorem cw_SN (n : Nat) (hts : ∀ w ∈ gT, w.before args s = true) (hc : Cond.code y b maxL ret ∈ gT) (hrc : rm.cells = mc) (hrs : rm.slots = ms) (hl : va_Nw (.methodLinkNest own index y host) s) (hini : Cond.initialized y.cls ∈ gT) (hi : Cond.static y ∈ gT) (hd : y.cls ≠ "java/lang/invoke/MethodHandle" ∧ y.cls ≠ "java/lang/invoke/VarHandle" ∧ (parseMethodDescriptor y.desc).map (fun d => d.parameters.length) = some n) (hR : rm.frames + 1 ≤ R.frames ∧ 8 + (maxL + 11) + rm.locals ≤ R.locals) : va_CN R s args own index y host b maxL ret (Cond.code y b maxL ret :: gT) rm mc ms n ∧ (Cond.static y).before args s = true ∧ True := ⟨cw_N n hts hc hrc hrs hl hini hd hR, hts _ hi, trivial⟩
theorem cw_IN (n : Nat) (hts : ∀ w ∈ gT, w.before args s = true) (hc : Cond.code y b maxL none ∈ gT) (hrc : rm.cells = mc) (hrs : rm.slots = ms) (hl : va_Nw (.methodLinkNest own index y host) s) (hini : Cond.initialized y.cls ∈ gT) (hi : Cond.instanceMethod y ∈ gT) (hy : y.name = "<init>") (hd : y.cls ≠ "java/lang/invoke/MethodHandle" ∧ y.cls ≠ "java/lang/invoke/VarHandle" ∧ (parseMethodDescriptor y.desc).map (fun d => d.parameters.length) = some n) (hR : rm.frames + 1 ≤ R.frames ∧ 8 + (maxL + 11) + rm.locals ≤ R.locals) : va_CN R s args own index y host b maxL none (Cond.code y b maxL none :: gT) rm mc ms n ∧ y.name = "<init>" ∧ (Cond.instanceMethod y).before args s = true := ⟨cw_N n hts hc hrc hrs hl hini hd hR, hy, hts _ hi⟩
end CW
end
section
theorem dX2_init_0 : decode cX2_init 0 = .ok (.aload_n 0, 1) := by decide +kernel
theorem dX2_init_1 : decode cX2_init 1 = .ok (.invokespecial 1, 3) := by decide +kernel
theorem dX2_init_4 : decode cX2_init 4 = .ok (.aload_n 0, 1) := by decide +kernel
theorem dX2_init_5 : decode cX2_init 5 = .ok (.bipush 30, 2) := by decide +kernel
theorem dX2_init_7 : decode cX2_init 7 = .ok (.anewarray 9, 3) := by decide +kernel
theorem dX2_init_10 : decode cX2_init 10 = .ok (.putfield 11, 3) := by decide +kernel
theorem dX2_init_13 : decode cX2_init 13 = .ok (.aload_n 0, 1) := by decide +kernel
theorem dX2_init_14 : decode cX2_init 14 = .ok (.bipush 20, 2) := by decide +kernel
theorem dX2_init_16 : decode cX2_init 16 = .ok (.anewarray 15, 3) := by decide +kernel
theorem dX2_init_19 : decode cX2_init 19 = .ok (.putfield 17, 3) := by decide +kernel
theorem dX2_init_22 : decode cX2_init 22 = .ok (.aload_n 0, 1) := by decide +kernel
theorem dX2_init_23 : decode cX2_init 23 = .ok (.iconst 0, 1) := by decide +kernel
theorem dX2_init_24 : decode cX2_init 24 = .ok (.putfield 21, 3) := by decide +kernel
theorem dX2_init_27 : decode cX2_init 27 = .ok (.aload_n 0, 1) := by decide +kernel
theorem dX2_init_28 : decode cX2_init 28 = .ok (.iconst 0, 1) := by decide +kernel
theorem dX2_init_29 : decode cX2_init 29 = .ok (.putfield 25, 3) := by decide +kernel
theorem dX2_init_32 : decode cX2_init 32 = .ok (.return_, 1) := by decide +kernel
theorem dX2_piece_0 : decode cX2_piece 0 = .ok (.iload_n 1, 1) := by decide +kernel
theorem dX2_piece_1 : decode cX2_piece 1 = .ok (.ifCond .lt 8, 3) := by decide +kernel
theorem dX2_piece_4 : decode cX2_piece 4 = .ok (.iload_n 1, 1) := by decide +kernel
theorem dX2_piece_5 : decode cX2_piece 5 = .ok (.iconst 2, 1) := by decide +kernel
theorem dX2_piece_6 : decode cX2_piece 6 = .ok (.if_icmp .le 6, 3) := by decide +kernel
theorem dX2_piece_9 : decode cX2_piece 9 = .ok (.bipush (-2), 2) := by decide +kernel
theorem dX2_piece_11 : decode cX2_piece 11 = .ok (.ireturn, 1) := by decide +kernel
theorem dX2_piece_12 : decode cX2_piece 12 = .ok (.lload_n 2, 1) := by decide +kernel
theorem dX2_piece_13 : decode cX2_piece 13 = .ok (.lconst 0, 1) := by decide +kernel
theorem dX2_piece_14 : decode cX2_piece 14 = .ok (.lcmp, 1) := by decide +kernel
theorem dX2_piece_15 : decode cX2_piece 15 = .ok (.ifCond .lt 27, 3) := by decide +kernel
theorem dX2_piece_18 : decode cX2_piece 18 = .ok (.lload_n 2, 1) := by decide +kernel
theorem dX2_piece_19 : decode cX2_piece 19 = .ok (.ldc2_w 28, 3) := by decide +kernel
theorem dX2_piece_22 : decode cX2_piece 22 = .ok (.lcmp, 1) := by decide +kernel
theorem dX2_piece_23 : decode cX2_piece 23 = .ok (.ifCond .gt 19, 3) := by decide +kernel
theorem dX2_piece_26 : decode cX2_piece 26 = .ok (.lload 4, 2) := by decide +kernel
theorem dX2_piece_28 : decode cX2_piece 28 = .ok (.lconst 0, 1) := by decide +kernel
theorem dX2_piece_29 : decode cX2_piece 29 = .ok (.lcmp, 1) := by decide +kernel
theorem dX2_piece_30 : decode cX2_piece 30 = .ok (.ifCond .lt 12, 3) := by decide +kernel
theorem dX2_piece_33 : decode cX2_piece 33 = .ok (.lload 4, 2) := by decide +kernel
theorem dX2_piece_35 : decode cX2_piece 35 = .ok (.ldc2_w 28, 3) := by decide +kernel
theorem dX2_piece_38 : decode cX2_piece 38 = .ok (.lcmp, 1) := by decide +kernel
theorem dX2_piece_39 : decode cX2_piece 39 = .ok (.ifCond .le 6, 3) := by decide +kernel
theorem dX2_piece_42 : decode cX2_piece 42 = .ok (.bipush (-2), 2) := by decide +kernel
theorem dX2_piece_44 : decode cX2_piece 44 = .ok (.ireturn, 1) := by decide +kernel
theorem dX2_piece_45 : decode cX2_piece 45 = .ok (.aload_n 0, 1) := by decide +kernel
theorem dX2_piece_46 : decode cX2_piece 46 = .ok (.getfield 21, 3) := by decide +kernel
theorem dX2_piece_49 : decode cX2_piece 49 = .ok (.bipush 30, 2) := by decide +kernel
theorem dX2_piece_51 : decode cX2_piece 51 = .ok (.if_icmp .lt 6, 3) := by decide +kernel
theorem dX2_piece_54 : decode cX2_piece 54 = .ok (.bipush (-4), 2) := by decide +kernel
theorem dX2_piece_56 : decode cX2_piece 56 = .ok (.ireturn, 1) := by decide +kernel
theorem dX2_piece_57 : decode cX2_piece 57 = .ok (.aload_n 0, 1) := by decide +kernel
theorem dX2_piece_58 : decode cX2_piece 58 = .ok (.getfield 11, 3) := by decide +kernel
theorem dX2_piece_61 : decode cX2_piece 61 = .ok (.aload_n 0, 1) := by decide +kernel
theorem dX2_piece_62 : decode cX2_piece 62 = .ok (.getfield 21, 3) := by decide +kernel
theorem dX2_piece_65 : decode cX2_piece 65 = .ok (.new 9, 3) := by decide +kernel
theorem dX2_piece_68 : decode cX2_piece 68 = .ok (.dup, 1) := by decide +kernel
theorem dX2_piece_69 : decode cX2_piece 69 = .ok (.lload_n 2, 1) := by decide +kernel
theorem dX2_piece_70 : decode cX2_piece 70 = .ok (.lload 4, 2) := by decide +kernel
theorem dX2_piece_72 : decode cX2_piece 72 = .ok (.invokespecial 30, 3) := by decide +kernel
theorem dX2_piece_75 : decode cX2_piece 75 = .ok (.aastore, 1) := by decide +kernel
theorem dX2_piece_76 : decode cX2_piece 76 = .ok (.aload_n 0, 1) := by decide +kernel
theorem dX2_piece_77 : decode cX2_piece 77 = .ok (.dup, 1) := by decide +kernel
theorem dX2_piece_78 : decode cX2_piece 78 = .ok (.getfield 21, 3) := by decide +kernel
theorem dX2_piece_81 : decode cX2_piece 81 = .ok (.iconst 1, 1) := by decide +kernel
theorem dX2_piece_82 : decode cX2_piece 82 = .ok (.iadd, 1) := by decide +kernel
theorem dX2_piece_83 : decode cX2_piece 83 = .ok (.putfield 21, 3) := by decide +kernel
theorem dX2_piece_86 : decode cX2_piece 86 = .ok (.aload_n 0, 1) := by decide +kernel
theorem dX2_piece_87 : decode cX2_piece 87 = .ok (.getfield 21, 3) := by decide +kernel
theorem dX2_piece_90 : decode cX2_piece 90 = .ok (.ireturn, 1) := by decide +kernel
theorem dX2_chain_0 : decode cX2_chain 0 = .ok (.aload_n 0, 1) := by decide +kernel
theorem dX2_chain_1 : decode cX2_chain 1 = .ok (.getfield 25, 3) := by decide +kernel
theorem dX2_chain_4 : decode cX2_chain 4 = .ok (.bipush 20, 2) := by decide +kernel
theorem dX2_chain_6 : decode cX2_chain 6 = .ok (.if_icmp .lt 6, 3) := by decide +kernel
theorem dX2_chain_9 : decode cX2_chain 9 = .ok (.bipush (-4), 2) := by decide +kernel
theorem dX2_chain_11 : decode cX2_chain 11 = .ok (.ireturn, 1) := by decide +kernel
theorem dX2_chain_12 : decode cX2_chain 12 = .ok (.aload_n 0, 1) := by decide +kernel
theorem dX2_chain_13 : decode cX2_chain 13 = .ok (.getfield 17, 3) := by decide +kernel
theorem dX2_chain_16 : decode cX2_chain 16 = .ok (.aload_n 0, 1) := by decide +kernel
theorem dX2_chain_17 : decode cX2_chain 17 = .ok (.getfield 25, 3) := by decide +kernel
theorem dX2_chain_20 : decode cX2_chain 20 = .ok (.new 15, 3) := by decide +kernel
theorem dX2_chain_23 : decode cX2_chain 23 = .ok (.dup, 1) := by decide +kernel
theorem dX2_chain_24 : decode cX2_chain 24 = .ok (.invokespecial 33, 3) := by decide +kernel
theorem dX2_chain_27 : decode cX2_chain 27 = .ok (.aastore, 1) := by decide +kernel
theorem dX2_chain_28 : decode cX2_chain 28 = .ok (.aload_n 0, 1) := by decide +kernel
theorem dX2_chain_29 : decode cX2_chain 29 = .ok (.dup, 1) := by decide +kernel
theorem dX2_chain_30 : decode cX2_chain 30 = .ok (.getfield 25, 3) := by decide +kernel
theorem dX2_chain_33 : decode cX2_chain 33 = .ok (.iconst 1, 1) := by decide +kernel
theorem dX2_chain_34 : decode cX2_chain 34 = .ok (.iadd, 1) := by decide +kernel
theorem dX2_chain_35 : decode cX2_chain 35 = .ok (.putfield 25, 3) := by decide +kernel
theorem dX2_chain_38 : decode cX2_chain 38 = .ok (.aload_n 0, 1) := by decide +kernel
theorem dX2_chain_39 : decode cX2_chain 39 = .ok (.getfield 25, 3) := by decide +kernel
theorem dX2_chain_42 : decode cX2_chain 42 = .ok (.ireturn, 1) := by decide +kernel
theorem dX2_add_0 : decode cX2_add 0 = .ok (.aload_n 0, 1) := by decide +kernel
theorem dX2_add_1 : decode cX2_add 1 = .ok (.iload_n 1, 1) := by decide +kernel
theorem dX2_add_2 : decode cX2_add 2 = .ok (.invokevirtual 34, 3) := by decide +kernel
theorem dX2_add_5 : decode cX2_add 5 = .ok (.astore 4, 2) := by decide +kernel
theorem dX2_add_7 : decode cX2_add 7 = .ok (.aload_n 0, 1) := by decide +kernel
theorem dX2_add_8 : decode cX2_add 8 = .ok (.iload_n 2, 1) := by decide +kernel
theorem dX2_add_9 : decode cX2_add 9 = .ok (.invokevirtual 38, 3) := by decide +kernel
theorem dX2_add_12 : decode cX2_add 12 = .ok (.astore 5, 2) := by decide +kernel
theorem dX2_add_14 : decode cX2_add 14 = .ok (.aload 4, 2) := by decide +kernel
theorem dX2_add_16 : decode cX2_add 16 = .ok (.ifnull 8, 3) := by decide +kernel
theorem dX2_add_19 : decode cX2_add 19 = .ok (.aload 5, 2) := by decide +kernel
theorem dX2_add_21 : decode cX2_add 21 = .ok (.ifnonnull 5, 3) := by decide +kernel
theorem dX2_add_24 : decode cX2_add 24 = .ok (.iconst (-1), 1) := by decide +kernel
theorem dX2_add_25 : decode cX2_add 25 = .ok (.ireturn, 1) := by decide +kernel
theorem dX2_add_26 : decode cX2_add 26 = .ok (.iload_n 3, 1) := by decide +kernel
theorem dX2_add_27 : decode cX2_add 27 = .ok (.ifCond .eq 11, 3) := by decide +kernel
theorem dX2_add_30 : decode cX2_add 30 = .ok (.aload 4, 2) := by decide +kernel
theorem dX2_add_32 : decode cX2_add 32 = .ok (.getfield 42, 3) := by decide +kernel
theorem dX2_add_35 : decode cX2_add 35 = .ok (.ifCond .ne 7, 3) := by decide +kernel
theorem dX2_add_38 : decode cX2_add 38 = .ok (.iconst 1, 1) := by decide +kernel
theorem dX2_add_39 : decode cX2_add 39 = .ok (.goto 4, 3) := by decide +kernel
theorem dX2_add_42 : decode cX2_add 42 = .ok (.iconst 0, 1) := by decide +kernel
theorem dX2_add_43 : decode cX2_add 43 = .ok (.istore 6, 2) := by decide +kernel
theorem dX2_add_45 : decode cX2_add 45 = .ok (.iload 6, 2) := by decide +kernel
theorem dX2_add_47 : decode cX2_add 47 = .ok (.ifCond .eq 16, 3) := by decide +kernel
theorem dX2_add_50 : decode cX2_add 50 = .ok (.aload 5, 2) := by decide +kernel
theorem dX2_add_52 : decode cX2_add 52 = .ok (.getfield 45, 3) := by decide +kernel
theorem dX2_add_55 : decode cX2_add 55 = .ok (.lconst 0, 1) := by decide +kernel
theorem dX2_add_56 : decode cX2_add 56 = .ok (.lcmp, 1) := by decide +kernel
theorem dX2_add_57 : decode cX2_add 57 = .ok (.ifCond .ne 6, 3) := by decide +kernel
theorem dX2_add_60 : decode cX2_add 60 = .ok (.bipush (-3), 2) := by decide +kernel
theorem dX2_add_62 : decode cX2_add 62 = .ok (.ireturn, 1) := by decide +kernel
theorem dX2_add_63 : decode cX2_add 63 = .ok (.aload 4, 2) := by decide +kernel
theorem dX2_add_65 : decode cX2_add 65 = .ok (.getfield 42, 3) := by decide +kernel
theorem dX2_add_68 : decode cX2_add 68 = .ok (.bipush 12, 2) := by decide +kernel
theorem dX2_add_70 : decode cX2_add 70 = .ok (.if_icmp .lt 6, 3) := by decide +kernel
theorem dX2_add_73 : decode cX2_add 73 = .ok (.bipush (-4), 2) := by decide +kernel
theorem dX2_add_75 : decode cX2_add 75 = .ok (.ireturn, 1) := by decide +kernel
theorem dX2_add_76 : decode cX2_add 76 = .ok (.aload 4, 2) := by decide +kernel
theorem dX2_add_78 : decode cX2_add 78 = .ok (.aload 5, 2) := by decide +kernel
theorem dX2_add_80 : decode cX2_add 80 = .ok (.invokevirtual 49, 3) := by decide +kernel
theorem dX2_add_83 : decode cX2_add 83 = .ok (.ifCond .eq 5, 3) := by decide +kernel
theorem dX2_add_86 : decode cX2_add 86 = .ok (.iconst 0, 1) := by decide +kernel
theorem dX2_add_87 : decode cX2_add 87 = .ok (.ireturn, 1) := by decide +kernel
theorem dX2_add_88 : decode cX2_add 88 = .ok (.aload 4, 2) := by decide +kernel
theorem dX2_add_90 : decode cX2_add 90 = .ok (.aload 5, 2) := by decide +kernel
theorem dX2_add_92 : decode cX2_add 92 = .ok (.iload 6, 2) := by decide +kernel
theorem dX2_add_94 : decode cX2_add 94 = .ok (.invokevirtual 53, 3) := by decide +kernel
theorem dX2_add_97 : decode cX2_add 97 = .ok (.iconst 1, 1) := by decide +kernel
theorem dX2_add_98 : decode cX2_add 98 = .ok (.ireturn, 1) := by decide +kernel
theorem dX2_worst_0 : decode cX2_worst 0 = .ok (.aload_n 0, 1) := by decide +kernel
theorem dX2_worst_1 : decode cX2_worst 1 = .ok (.iload_n 1, 1) := by decide +kernel
theorem dX2_worst_2 : decode cX2_worst 2 = .ok (.invokevirtual 57, 3) := by decide +kernel
theorem dX2_worst_5 : decode cX2_worst 5 = .ok (.astore_n 3, 1) := by decide +kernel
theorem dX2_worst_6 : decode cX2_worst 6 = .ok (.aload_n 3, 1) := by decide +kernel
theorem dX2_worst_7 : decode cX2_worst 7 = .ok (.ifnonnull 7, 3) := by decide +kernel
theorem dX2_worst_10 : decode cX2_worst 10 = .ok (.ldc2_w 60, 3) := by decide +kernel
theorem dX2_worst_13 : decode cX2_worst 13 = .ok (.lreturn, 1) := by decide +kernel
theorem dX2_worst_14 : decode cX2_worst 14 = .ok (.iload_n 2, 1) := by decide +kernel
theorem dX2_worst_15 : decode cX2_worst 15 = .ok (.ifCond .eq 10, 3) := by decide +kernel
theorem dX2_worst_18 : decode cX2_worst 18 = .ok (.aload_n 3, 1) := by decide +kernel
theorem dX2_worst_19 : decode cX2_worst 19 = .ok (.invokevirtual 62, 3) := by decide +kernel
theorem dX2_worst_22 : decode cX2_worst 22 = .ok (.goto 7, 3) := by decide +kernel
theorem dX2_worst_25 : decode cX2_worst 25 = .ok (.aload_n 3, 1) := by decide +kernel
theorem dX2_worst_26 : decode cX2_worst 26 = .ok (.invokevirtual 66, 3) := by decide +kernel
theorem dX2_worst_29 : decode cX2_worst 29 = .ok (.lreturn, 1) := by decide +kernel
theorem dX2_best_0 : decode cX2_best 0 = .ok (.aload_n 0, 1) := by decide +kernel
theorem dX2_best_1 : decode cX2_best 1 = .ok (.iload_n 1, 1) := by decide +kernel
theorem dX2_best_2 : decode cX2_best 2 = .ok (.invokevirtual 57, 3) := by decide +kernel
theorem dX2_best_5 : decode cX2_best 5 = .ok (.astore_n 3, 1) := by decide +kernel
theorem dX2_best_6 : decode cX2_best 6 = .ok (.aload_n 3, 1) := by decide +kernel
theorem dX2_best_7 : decode cX2_best 7 = .ok (.ifnonnull 7, 3) := by decide +kernel
theorem dX2_best_10 : decode cX2_best 10 = .ok (.ldc2_w 60, 3) := by decide +kernel
theorem dX2_best_13 : decode cX2_best 13 = .ok (.lreturn, 1) := by decide +kernel
theorem dX2_best_14 : decode cX2_best 14 = .ok (.aload_n 3, 1) := by decide +kernel
theorem dX2_best_15 : decode cX2_best 15 = .ok (.iload_n 2, 1) := by decide +kernel
theorem dX2_best_16 : decode cX2_best 16 = .ok (.ifCond .eq 7, 3) := by decide +kernel
theorem dX2_best_19 : decode cX2_best 19 = .ok (.iconst 1, 1) := by decide +kernel
theorem dX2_best_20 : decode cX2_best 20 = .ok (.goto 4, 3) := by decide +kernel
theorem dX2_best_23 : decode cX2_best 23 = .ok (.iconst 0, 1) := by decide +kernel
theorem dX2_best_24 : decode cX2_best 24 = .ok (.invokevirtual 69, 3) := by decide +kernel
theorem dX2_best_27 : decode cX2_best 27 = .ok (.lreturn, 1) := by decide +kernel
theorem dX2_clock_0 : decode cX2_clock 0 = .ok (.aload_n 0, 1) := by decide +kernel
theorem dX2_clock_1 : decode cX2_clock 1 = .ok (.iload_n 1, 1) := by decide +kernel
theorem dX2_clock_2 : decode cX2_clock 2 = .ok (.invokevirtual 38, 3) := by decide +kernel
theorem dX2_clock_5 : decode cX2_clock 5 = .ok (.astore 6, 2) := by decide +kernel
theorem dX2_clock_7 : decode cX2_clock 7 = .ok (.aload 6, 2) := by decide +kernel
theorem dX2_clock_9 : decode cX2_clock 9 = .ok (.ifnonnull 5, 3) := by decide +kernel
theorem dX2_clock_12 : decode cX2_clock 12 = .ok (.iconst (-1), 1) := by decide +kernel
theorem dX2_clock_13 : decode cX2_clock 13 = .ok (.ireturn, 1) := by decide +kernel
theorem dX2_clock_14 : decode cX2_clock 14 = .ok (.lload 4, 2) := by decide +kernel
theorem dX2_clock_16 : decode cX2_clock 16 = .ok (.lconst 1, 1) := by decide +kernel
theorem dX2_clock_17 : decode cX2_clock 17 = .ok (.lcmp, 1) := by decide +kernel
theorem dX2_clock_18 : decode cX2_clock 18 = .ok (.ifCond .lt 25, 3) := by decide +kernel
theorem dX2_clock_21 : decode cX2_clock 21 = .ok (.lload 4, 2) := by decide +kernel
theorem dX2_clock_23 : decode cX2_clock 23 = .ok (.ldc2_w 73, 3) := by decide +kernel
theorem dX2_clock_26 : decode cX2_clock 26 = .ok (.lcmp, 1) := by decide +kernel
theorem dX2_clock_27 : decode cX2_clock 27 = .ok (.ifCond .gt 16, 3) := by decide +kernel
theorem dX2_clock_30 : decode cX2_clock 30 = .ok (.lload_n 2, 1) := by decide +kernel
theorem dX2_clock_31 : decode cX2_clock 31 = .ok (.lconst 0, 1) := by decide +kernel
theorem dX2_clock_32 : decode cX2_clock 32 = .ok (.lcmp, 1) := by decide +kernel
theorem dX2_clock_33 : decode cX2_clock 33 = .ok (.ifCond .lt 10, 3) := by decide +kernel
theorem dX2_clock_36 : decode cX2_clock 36 = .ok (.lload_n 2, 1) := by decide +kernel
theorem dX2_clock_37 : decode cX2_clock 37 = .ok (.lload 4, 2) := by decide +kernel
theorem dX2_clock_39 : decode cX2_clock 39 = .ok (.lcmp, 1) := by decide +kernel
theorem dX2_clock_40 : decode cX2_clock 40 = .ok (.ifCond .lt 6, 3) := by decide +kernel
theorem dX2_clock_43 : decode cX2_clock 43 = .ok (.bipush (-2), 2) := by decide +kernel
theorem dX2_clock_45 : decode cX2_clock 45 = .ok (.ireturn, 1) := by decide +kernel
theorem dX2_clock_46 : decode cX2_clock 46 = .ok (.aload 6, 2) := by decide +kernel
theorem dX2_clock_48 : decode cX2_clock 48 = .ok (.lload_n 2, 1) := by decide +kernel
theorem dX2_clock_49 : decode cX2_clock 49 = .ok (.putfield 75, 3) := by decide +kernel
theorem dX2_clock_52 : decode cX2_clock 52 = .ok (.aload 6, 2) := by decide +kernel
theorem dX2_clock_54 : decode cX2_clock 54 = .ok (.lload 4, 2) := by decide +kernel
theorem dX2_clock_56 : decode cX2_clock 56 = .ok (.putfield 78, 3) := by decide +kernel
theorem dX2_clock_59 : decode cX2_clock 59 = .ok (.aload 6, 2) := by decide +kernel
theorem dX2_clock_61 : decode cX2_clock 61 = .ok (.invokevirtual 81, 3) := by decide +kernel
theorem dX2_clock_64 : decode cX2_clock 64 = .ok (.l2i, 1) := by decide +kernel
theorem dX2_clock_65 : decode cX2_clock 65 = .ok (.ireturn, 1) := by decide +kernel
theorem dX2_wish_0 : decode cX2_wish 0 = .ok (.aload_n 0, 1) := by decide +kernel
theorem dX2_wish_1 : decode cX2_wish 1 = .ok (.iload_n 1, 1) := by decide +kernel
theorem dX2_wish_2 : decode cX2_wish 2 = .ok (.invokevirtual 57, 3) := by decide +kernel
theorem dX2_wish_5 : decode cX2_wish 5 = .ok (.astore 4, 2) := by decide +kernel
theorem dX2_wish_7 : decode cX2_wish 7 = .ok (.aload 4, 2) := by decide +kernel
theorem dX2_wish_9 : decode cX2_wish 9 = .ok (.ifnonnull 5, 3) := by decide +kernel
theorem dX2_wish_12 : decode cX2_wish 12 = .ok (.iconst (-1), 1) := by decide +kernel
theorem dX2_wish_13 : decode cX2_wish 13 = .ok (.ireturn, 1) := by decide +kernel
theorem dX2_wish_14 : decode cX2_wish 14 = .ok (.lload_n 2, 1) := by decide +kernel
theorem dX2_wish_15 : decode cX2_wish 15 = .ok (.lconst 0, 1) := by decide +kernel
theorem dX2_wish_16 : decode cX2_wish 16 = .ok (.lcmp, 1) := by decide +kernel
theorem dX2_wish_17 : decode cX2_wish 17 = .ok (.ifCond .ge 6, 3) := by decide +kernel
theorem dX2_wish_20 : decode cX2_wish 20 = .ok (.bipush (-2), 2) := by decide +kernel
theorem dX2_wish_22 : decode cX2_wish 22 = .ok (.ireturn, 1) := by decide +kernel
theorem dX2_wish_23 : decode cX2_wish 23 = .ok (.aload 4, 2) := by decide +kernel
theorem dX2_wish_25 : decode cX2_wish 25 = .ok (.lload_n 2, 1) := by decide +kernel
theorem dX2_wish_26 : decode cX2_wish 26 = .ok (.putfield 84, 3) := by decide +kernel
theorem dX2_wish_29 : decode cX2_wish 29 = .ok (.aload 4, 2) := by decide +kernel
theorem dX2_wish_31 : decode cX2_wish 31 = .ok (.invokevirtual 87, 3) := by decide +kernel
theorem dX2_wish_34 : decode cX2_wish 34 = .ok (.ifCond .eq 7, 3) := by decide +kernel
theorem dX2_wish_37 : decode cX2_wish 37 = .ok (.iconst 1, 1) := by decide +kernel
theorem dX2_wish_38 : decode cX2_wish 38 = .ok (.goto 4, 3) := by decide +kernel
theorem dX2_wish_41 : decode cX2_wish 41 = .ok (.iconst 0, 1) := by decide +kernel
theorem dX2_wish_42 : decode cX2_wish 42 = .ok (.ireturn, 1) := by decide +kernel
theorem dX2_share_0 : decode cX2_share 0 = .ok (.iload_n 2, 1) := by decide +kernel
theorem dX2_share_1 : decode cX2_share 1 = .ok (.iconst (-1), 1) := by decide +kernel
theorem dX2_share_2 : decode cX2_share 2 = .ok (.if_icmp .ne 8, 3) := by decide +kernel
theorem dX2_share_5 : decode cX2_share 5 = .ok (.aload_n 0, 1) := by decide +kernel
theorem dX2_share_6 : decode cX2_share 6 = .ok (.invokevirtual 91, 3) := by decide +kernel
theorem dX2_share_9 : decode cX2_share 9 = .ok (.ireturn, 1) := by decide +kernel
theorem dX2_share_10 : decode cX2_share 10 = .ok (.aload_n 0, 1) := by decide +kernel
theorem dX2_share_11 : decode cX2_share 11 = .ok (.iload_n 1, 1) := by decide +kernel
theorem dX2_share_12 : decode cX2_share 12 = .ok (.invokevirtual 57, 3) := by decide +kernel
theorem dX2_share_15 : decode cX2_share 15 = .ok (.astore_n 3, 1) := by decide +kernel
theorem dX2_share_16 : decode cX2_share 16 = .ok (.aload_n 3, 1) := by decide +kernel
theorem dX2_share_17 : decode cX2_share 17 = .ok (.ifnull 15, 3) := by decide +kernel
theorem dX2_share_20 : decode cX2_share 20 = .ok (.iload_n 2, 1) := by decide +kernel
theorem dX2_share_21 : decode cX2_share 21 = .ok (.ifCond .lt 11, 3) := by decide +kernel
theorem dX2_share_24 : decode cX2_share 24 = .ok (.iload_n 2, 1) := by decide +kernel
theorem dX2_share_25 : decode cX2_share 25 = .ok (.aload_n 3, 1) := by decide +kernel
theorem dX2_share_26 : decode cX2_share 26 = .ok (.getfield 42, 3) := by decide +kernel
theorem dX2_share_29 : decode cX2_share 29 = .ok (.if_icmp .lt 5, 3) := by decide +kernel
theorem dX2_share_32 : decode cX2_share 32 = .ok (.iconst (-1), 1) := by decide +kernel
theorem dX2_share_33 : decode cX2_share 33 = .ok (.ireturn, 1) := by decide +kernel
theorem dX2_share_34 : decode cX2_share 34 = .ok (.aload_n 3, 1) := by decide +kernel
theorem dX2_share_35 : decode cX2_share 35 = .ok (.invokevirtual 66, 3) := by decide +kernel
theorem dX2_share_38 : decode cX2_share 38 = .ok (.lstore 4, 2) := by decide +kernel
theorem dX2_share_40 : decode cX2_share 40 = .ok (.lload 4, 2) := by decide +kernel
theorem dX2_share_42 : decode cX2_share 42 = .ok (.lconst 0, 1) := by decide +kernel
theorem dX2_share_43 : decode cX2_share 43 = .ok (.lcmp, 1) := by decide +kernel
theorem dX2_share_44 : decode cX2_share 44 = .ok (.ifCond .ne 5, 3) := by decide +kernel
theorem dX2_share_47 : decode cX2_share 47 = .ok (.iconst (-1), 1) := by decide +kernel
theorem dX2_share_48 : decode cX2_share 48 = .ok (.ireturn, 1) := by decide +kernel
theorem dX2_share_49 : decode cX2_share 49 = .ok (.aload_n 3, 1) := by decide +kernel
theorem dX2_share_50 : decode cX2_share 50 = .ok (.iload_n 2, 1) := by decide +kernel
theorem dX2_share_51 : decode cX2_share 51 = .ok (.invokevirtual 95, 3) := by decide +kernel
theorem dX2_share_54 : decode cX2_share 54 = .ok (.ldc2_w 98, 3) := by decide +kernel
theorem dX2_share_57 : decode cX2_share 57 = .ok (.lmul, 1) := by decide +kernel
theorem dX2_share_58 : decode cX2_share 58 = .ok (.lload 4, 2) := by decide +kernel
theorem dX2_share_60 : decode cX2_share 60 = .ok (.ldiv, 1) := by decide +kernel
theorem dX2_share_61 : decode cX2_share 61 = .ok (.l2i, 1) := by decide +kernel
theorem dX2_share_62 : decode cX2_share 62 = .ok (.ireturn, 1) := by decide +kernel
theorem dX2_cycle_0 : decode cX2_cycle 0 = .ok (.aload_n 0, 1) := by decide +kernel
theorem dX2_cycle_1 : decode cX2_cycle 1 = .ok (.iload_n 1, 1) := by decide +kernel
theorem dX2_cycle_2 : decode cX2_cycle 2 = .ok (.invokevirtual 57, 3) := by decide +kernel
theorem dX2_cycle_5 : decode cX2_cycle 5 = .ok (.astore_n 2, 1) := by decide +kernel
theorem dX2_cycle_6 : decode cX2_cycle 6 = .ok (.aload_n 2, 1) := by decide +kernel
theorem dX2_cycle_7 : decode cX2_cycle 7 = .ok (.ifnonnull 7, 3) := by decide +kernel
theorem dX2_cycle_10 : decode cX2_cycle 10 = .ok (.ldc2_w 60, 3) := by decide +kernel
theorem dX2_cycle_13 : decode cX2_cycle 13 = .ok (.lreturn, 1) := by decide +kernel
theorem dX2_cycle_14 : decode cX2_cycle 14 = .ok (.aload_n 2, 1) := by decide +kernel
theorem dX2_cycle_15 : decode cX2_cycle 15 = .ok (.invokevirtual 100, 3) := by decide +kernel
theorem dX2_cycle_18 : decode cX2_cycle 18 = .ok (.ifCond .eq 13, 3) := by decide +kernel
theorem dX2_cycle_21 : decode cX2_cycle 21 = .ok (.new 103, 3) := by decide +kernel
theorem dX2_cycle_24 : decode cX2_cycle 24 = .ok (.dup, 1) := by decide +kernel
theorem dX2_cycle_25 : decode cX2_cycle 25 = .ok (.ldc 105, 2) := by decide +kernel
theorem dX2_cycle_27 : decode cX2_cycle 27 = .ok (.invokespecial 107, 3) := by decide +kernel
theorem dX2_cycle_30 : decode cX2_cycle 30 = .ok (.athrow, 1) := by decide +kernel
theorem dX2_cycle_31 : decode cX2_cycle 31 = .ok (.aload_n 2, 1) := by decide +kernel
theorem dX2_cycle_32 : decode cX2_cycle 32 = .ok (.iconst 0, 1) := by decide +kernel
theorem dX2_cycle_33 : decode cX2_cycle 33 = .ok (.invokevirtual 110, 3) := by decide +kernel
theorem dX2_cycle_36 : decode cX2_cycle 36 = .ok (.lreturn, 1) := by decide +kernel
theorem dX2_stepped_0 : decode cX2_stepped 0 = .ok (.aload_n 0, 1) := by decide +kernel
theorem dX2_stepped_1 : decode cX2_stepped 1 = .ok (.iload_n 1, 1) := by decide +kernel
theorem dX2_stepped_2 : decode cX2_stepped 2 = .ok (.invokevirtual 57, 3) := by decide +kernel
theorem dX2_stepped_5 : decode cX2_stepped 5 = .ok (.astore_n 2, 1) := by decide +kernel
theorem dX2_stepped_6 : decode cX2_stepped 6 = .ok (.aload_n 2, 1) := by decide +kernel
theorem dX2_stepped_7 : decode cX2_stepped 7 = .ok (.ifnonnull 7, 3) := by decide +kernel
theorem dX2_stepped_10 : decode cX2_stepped 10 = .ok (.ldc2_w 60, 3) := by decide +kernel
theorem dX2_stepped_13 : decode cX2_stepped 13 = .ok (.lreturn, 1) := by decide +kernel
theorem dX2_stepped_14 : decode cX2_stepped 14 = .ok (.aload_n 2, 1) := by decide +kernel
theorem dX2_stepped_15 : decode cX2_stepped 15 = .ok (.invokevirtual 114, 3) := by decide +kernel
theorem dX2_stepped_18 : decode cX2_stepped 18 = .ok (.ifCond .eq 10, 3) := by decide +kernel
theorem dX2_stepped_21 : decode cX2_stepped 21 = .ok (.aload_n 2, 1) := by decide +kernel
theorem dX2_stepped_22 : decode cX2_stepped 22 = .ok (.invokevirtual 117, 3) := by decide +kernel
theorem dX2_stepped_25 : decode cX2_stepped 25 = .ok (.goto 7, 3) := by decide +kernel
theorem dX2_stepped_28 : decode cX2_stepped 28 = .ok (.aload_n 2, 1) := by decide +kernel
theorem dX2_stepped_29 : decode cX2_stepped 29 = .ok (.invokevirtual 66, 3) := by decide +kernel
theorem dX2_stepped_32 : decode cX2_stepped 32 = .ok (.lreturn, 1) := by decide +kernel
theorem dX2_plain_0 : decode cX2_plain 0 = .ok (.aload_n 0, 1) := by decide +kernel
theorem dX2_plain_1 : decode cX2_plain 1 = .ok (.iload_n 1, 1) := by decide +kernel
theorem dX2_plain_2 : decode cX2_plain 2 = .ok (.invokevirtual 57, 3) := by decide +kernel
theorem dX2_plain_5 : decode cX2_plain 5 = .ok (.astore_n 2, 1) := by decide +kernel
theorem dX2_plain_6 : decode cX2_plain 6 = .ok (.aload_n 2, 1) := by decide +kernel
theorem dX2_plain_7 : decode cX2_plain 7 = .ok (.ifnull 14, 3) := by decide +kernel
theorem dX2_plain_10 : decode cX2_plain 10 = .ok (.aload_n 2, 1) := by decide +kernel
theorem dX2_plain_11 : decode cX2_plain 11 = .ok (.invokevirtual 114, 3) := by decide +kernel
theorem dX2_plain_14 : decode cX2_plain 14 = .ok (.ifCond .eq 7, 3) := by decide +kernel
theorem dX2_plain_17 : decode cX2_plain 17 = .ok (.iconst 1, 1) := by decide +kernel
theorem dX2_plain_18 : decode cX2_plain 18 = .ok (.goto 4, 3) := by decide +kernel
theorem dX2_plain_21 : decode cX2_plain 21 = .ok (.iconst 0, 1) := by decide +kernel
theorem dX2_plain_22 : decode cX2_plain 22 = .ok (.ireturn, 1) := by decide +kernel
theorem dX2_pieceNumbered_0 : decode cX2_pieceNumbered 0 = .ok (.iload_n 1, 1) := by decide +kernel
theorem dX2_pieceNumbered_1 : decode cX2_pieceNumbered 1 = .ok (.iconst 1, 1) := by decide +kernel
theorem dX2_pieceNumbered_2 : decode cX2_pieceNumbered 2 = .ok (.if_icmp .lt 11, 3) := by decide +kernel
theorem dX2_pieceNumbered_5 : decode cX2_pieceNumbered 5 = .ok (.iload_n 1, 1) := by decide +kernel
theorem dX2_pieceNumbered_6 : decode cX2_pieceNumbered 6 = .ok (.aload_n 0, 1) := by decide +kernel
theorem dX2_pieceNumbered_7 : decode cX2_pieceNumbered 7 = .ok (.getfield 21, 3) := by decide +kernel
theorem dX2_pieceNumbered_10 : decode cX2_pieceNumbered 10 = .ok (.if_icmp .le 7, 3) := by decide +kernel
theorem dX2_pieceNumbered_13 : decode cX2_pieceNumbered 13 = .ok (.aconst_null, 1) := by decide +kernel
theorem dX2_pieceNumbered_14 : decode cX2_pieceNumbered 14 = .ok (.goto 11, 3) := by decide +kernel
theorem dX2_pieceNumbered_17 : decode cX2_pieceNumbered 17 = .ok (.aload_n 0, 1) := by decide +kernel
theorem dX2_pieceNumbered_18 : decode cX2_pieceNumbered 18 = .ok (.getfield 11, 3) := by decide +kernel
theorem dX2_pieceNumbered_21 : decode cX2_pieceNumbered 21 = .ok (.iload_n 1, 1) := by decide +kernel
theorem dX2_pieceNumbered_22 : decode cX2_pieceNumbered 22 = .ok (.iconst 1, 1) := by decide +kernel
theorem dX2_pieceNumbered_23 : decode cX2_pieceNumbered 23 = .ok (.isub, 1) := by decide +kernel
theorem dX2_pieceNumbered_24 : decode cX2_pieceNumbered 24 = .ok (.aaload, 1) := by decide +kernel
theorem dX2_pieceNumbered_25 : decode cX2_pieceNumbered 25 = .ok (.areturn, 1) := by decide +kernel
theorem dX2_chainNumbered_0 : decode cX2_chainNumbered 0 = .ok (.iload_n 1, 1) := by decide +kernel
theorem dX2_chainNumbered_1 : decode cX2_chainNumbered 1 = .ok (.iconst 1, 1) := by decide +kernel
theorem dX2_chainNumbered_2 : decode cX2_chainNumbered 2 = .ok (.if_icmp .lt 11, 3) := by decide +kernel
theorem dX2_chainNumbered_5 : decode cX2_chainNumbered 5 = .ok (.iload_n 1, 1) := by decide +kernel
theorem dX2_chainNumbered_6 : decode cX2_chainNumbered 6 = .ok (.aload_n 0, 1) := by decide +kernel
theorem dX2_chainNumbered_7 : decode cX2_chainNumbered 7 = .ok (.getfield 25, 3) := by decide +kernel
theorem dX2_chainNumbered_10 : decode cX2_chainNumbered 10 = .ok (.if_icmp .le 7, 3) := by decide +kernel
theorem dX2_chainNumbered_13 : decode cX2_chainNumbered 13 = .ok (.aconst_null, 1) := by decide +kernel
theorem dX2_chainNumbered_14 : decode cX2_chainNumbered 14 = .ok (.goto 11, 3) := by decide +kernel
theorem dX2_chainNumbered_17 : decode cX2_chainNumbered 17 = .ok (.aload_n 0, 1) := by decide +kernel
theorem dX2_chainNumbered_18 : decode cX2_chainNumbered 18 = .ok (.getfield 17, 3) := by decide +kernel
theorem dX2_chainNumbered_21 : decode cX2_chainNumbered 21 = .ok (.iload_n 1, 1) := by decide +kernel
theorem dX2_chainNumbered_22 : decode cX2_chainNumbered 22 = .ok (.iconst 1, 1) := by decide +kernel
theorem dX2_chainNumbered_23 : decode cX2_chainNumbered 23 = .ok (.isub, 1) := by decide +kernel
theorem dX2_chainNumbered_24 : decode cX2_chainNumbered 24 = .ok (.aaload, 1) := by decide +kernel
theorem dX2_chainNumbered_25 : decode cX2_chainNumbered 25 = .ok (.areturn, 1) := by decide +kernel
theorem dX2_filledChain_0 : decode cX2_filledChain 0 = .ok (.aload_n 0, 1) := by decide +kernel
theorem dX2_filledChain_1 : decode cX2_filledChain 1 = .ok (.iload_n 1, 1) := by decide +kernel
theorem dX2_filledChain_2 : decode cX2_filledChain 2 = .ok (.invokevirtual 34, 3) := by decide +kernel
theorem dX2_filledChain_5 : decode cX2_filledChain 5 = .ok (.astore_n 2, 1) := by decide +kernel
theorem dX2_filledChain_6 : decode cX2_filledChain 6 = .ok (.aload_n 2, 1) := by decide +kernel
theorem dX2_filledChain_7 : decode cX2_filledChain 7 = .ok (.ifnull 10, 3) := by decide +kernel
theorem dX2_filledChain_10 : decode cX2_filledChain 10 = .ok (.aload_n 2, 1) := by decide +kernel
theorem dX2_filledChain_11 : decode cX2_filledChain 11 = .ok (.getfield 42, 3) := by decide +kernel
theorem dX2_filledChain_14 : decode cX2_filledChain 14 = .ok (.ifCond .ne 7, 3) := by decide +kernel
theorem dX2_filledChain_17 : decode cX2_filledChain 17 = .ok (.aconst_null, 1) := by decide +kernel
theorem dX2_filledChain_18 : decode cX2_filledChain 18 = .ok (.goto 4, 3) := by decide +kernel
theorem dX2_filledChain_21 : decode cX2_filledChain 21 = .ok (.aload_n 2, 1) := by decide +kernel
theorem dX2_filledChain_22 : decode cX2_filledChain 22 = .ok (.areturn, 1) := by decide +kernel
theorem dX2_wishesKept_0 : decode cX2_wishesKept 0 = .ok (.iconst 0, 1) := by decide +kernel
theorem dX2_wishesKept_1 : decode cX2_wishesKept 1 = .ok (.istore_n 1, 1) := by decide +kernel
theorem dX2_wishesKept_2 : decode cX2_wishesKept 2 = .ok (.iconst 0, 1) := by decide +kernel
theorem dX2_wishesKept_3 : decode cX2_wishesKept 3 = .ok (.istore_n 2, 1) := by decide +kernel
theorem dX2_wishesKept_4 : decode cX2_wishesKept 4 = .ok (.iload_n 2, 1) := by decide +kernel
theorem dX2_wishesKept_5 : decode cX2_wishesKept 5 = .ok (.aload_n 0, 1) := by decide +kernel
theorem dX2_wishesKept_6 : decode cX2_wishesKept 6 = .ok (.getfield 25, 3) := by decide +kernel
theorem dX2_wishesKept_9 : decode cX2_wishesKept 9 = .ok (.if_icmp .ge 24, 3) := by decide +kernel
theorem dX2_wishesKept_12 : decode cX2_wishesKept 12 = .ok (.aload_n 0, 1) := by decide +kernel
theorem dX2_wishesKept_13 : decode cX2_wishesKept 13 = .ok (.getfield 17, 3) := by decide +kernel
theorem dX2_wishesKept_16 : decode cX2_wishesKept 16 = .ok (.iload_n 2, 1) := by decide +kernel
theorem dX2_wishesKept_17 : decode cX2_wishesKept 17 = .ok (.aaload, 1) := by decide +kernel
theorem dX2_wishesKept_18 : decode cX2_wishesKept 18 = .ok (.invokevirtual 87, 3) := by decide +kernel
theorem dX2_wishesKept_21 : decode cX2_wishesKept 21 = .ok (.ifCond .eq 6, 3) := by decide +kernel
theorem dX2_wishesKept_24 : decode cX2_wishesKept 24 = .ok (.iinc 1 1, 3) := by decide +kernel
theorem dX2_wishesKept_27 : decode cX2_wishesKept 27 = .ok (.iinc 2 1, 3) := by decide +kernel
theorem dX2_wishesKept_30 : decode cX2_wishesKept 30 = .ok (.goto (-26), 3) := by decide +kernel
theorem dX2_wishesKept_33 : decode cX2_wishesKept 33 = .ok (.iload_n 1, 1) := by decide +kernel
theorem dX2_wishesKept_34 : decode cX2_wishesKept 34 = .ok (.ireturn, 1) := by decide +kernel
theorem dX2_unitsUpwards_0 : decode cX2_unitsUpwards 0 = .ok (.lload_n 2, 1) := by decide +kernel
theorem dX2_unitsUpwards_1 : decode cX2_unitsUpwards 1 = .ok (.lconst 1, 1) := by decide +kernel
theorem dX2_unitsUpwards_2 : decode cX2_unitsUpwards 2 = .ok (.lcmp, 1) := by decide +kernel
theorem dX2_unitsUpwards_3 : decode cX2_unitsUpwards 3 = .ok (.ifCond .ge 7, 3) := by decide +kernel
theorem dX2_unitsUpwards_6 : decode cX2_unitsUpwards 6 = .ok (.lconst 0, 1) := by decide +kernel
theorem dX2_unitsUpwards_7 : decode cX2_unitsUpwards 7 = .ok (.goto 10, 3) := by decide +kernel
theorem dX2_unitsUpwards_10 : decode cX2_unitsUpwards 10 = .ok (.lload_n 0, 1) := by decide +kernel
theorem dX2_unitsUpwards_11 : decode cX2_unitsUpwards 11 = .ok (.lload_n 2, 1) := by decide +kernel
theorem dX2_unitsUpwards_12 : decode cX2_unitsUpwards 12 = .ok (.ladd, 1) := by decide +kernel
theorem dX2_unitsUpwards_13 : decode cX2_unitsUpwards 13 = .ok (.lconst 1, 1) := by decide +kernel
theorem dX2_unitsUpwards_14 : decode cX2_unitsUpwards 14 = .ok (.lsub, 1) := by decide +kernel
theorem dX2_unitsUpwards_15 : decode cX2_unitsUpwards 15 = .ok (.lload_n 2, 1) := by decide +kernel
theorem dX2_unitsUpwards_16 : decode cX2_unitsUpwards 16 = .ok (.ldiv, 1) := by decide +kernel
theorem dX2_unitsUpwards_17 : decode cX2_unitsUpwards 17 = .ok (.lreturn, 1) := by decide +kernel
theorem dX2_greatestCommonDivisor_0 : decode cX2_greatestCommonDivisor 0 = .ok (.lload_n 0, 1) := by decide +kernel
theorem dX2_greatestCommonDivisor_1 : decode cX2_greatestCommonDivisor 1 = .ok (.lstore 4, 2) := by decide +kernel
theorem dX2_greatestCommonDivisor_3 : decode cX2_greatestCommonDivisor 3 = .ok (.lload_n 2, 1) := by decide +kernel
theorem dX2_greatestCommonDivisor_4 : decode cX2_greatestCommonDivisor 4 = .ok (.lstore 6, 2) := by decide +kernel
theorem dX2_greatestCommonDivisor_6 : decode cX2_greatestCommonDivisor 6 = .ok (.iconst 0, 1) := by decide +kernel
theorem dX2_greatestCommonDivisor_7 : decode cX2_greatestCommonDivisor 7 = .ok (.istore 8, 2) := by decide +kernel
theorem dX2_greatestCommonDivisor_9 : decode cX2_greatestCommonDivisor 9 = .ok (.iload 8, 2) := by decide +kernel
theorem dX2_greatestCommonDivisor_11 : decode cX2_greatestCommonDivisor 11 = .ok (.bipush 126, 2) := by decide +kernel
theorem dX2_greatestCommonDivisor_13 : decode cX2_greatestCommonDivisor 13 = .ok (.if_icmp .ge 31, 3) := by decide +kernel
theorem dX2_greatestCommonDivisor_16 : decode cX2_greatestCommonDivisor 16 = .ok (.lload 6, 2) := by decide +kernel
theorem dX2_greatestCommonDivisor_18 : decode cX2_greatestCommonDivisor 18 = .ok (.lconst 0, 1) := by decide +kernel
theorem dX2_greatestCommonDivisor_19 : decode cX2_greatestCommonDivisor 19 = .ok (.lcmp, 1) := by decide +kernel
theorem dX2_greatestCommonDivisor_20 : decode cX2_greatestCommonDivisor 20 = .ok (.ifCond .le 24, 3) := by decide +kernel
theorem dX2_greatestCommonDivisor_23 : decode cX2_greatestCommonDivisor 23 = .ok (.lload 4, 2) := by decide +kernel
theorem dX2_greatestCommonDivisor_25 : decode cX2_greatestCommonDivisor 25 = .ok (.lload 6, 2) := by decide +kernel
theorem dX2_greatestCommonDivisor_27 : decode cX2_greatestCommonDivisor 27 = .ok (.lrem, 1) := by decide +kernel
theorem dX2_greatestCommonDivisor_28 : decode cX2_greatestCommonDivisor 28 = .ok (.lstore 9, 2) := by decide +kernel
theorem dX2_greatestCommonDivisor_30 : decode cX2_greatestCommonDivisor 30 = .ok (.lload 6, 2) := by decide +kernel
theorem dX2_greatestCommonDivisor_32 : decode cX2_greatestCommonDivisor 32 = .ok (.lstore 4, 2) := by decide +kernel
theorem dX2_greatestCommonDivisor_34 : decode cX2_greatestCommonDivisor 34 = .ok (.lload 9, 2) := by decide +kernel
theorem dX2_greatestCommonDivisor_36 : decode cX2_greatestCommonDivisor 36 = .ok (.lstore 6, 2) := by decide +kernel
theorem dX2_greatestCommonDivisor_38 : decode cX2_greatestCommonDivisor 38 = .ok (.iinc 8 1, 3) := by decide +kernel
theorem dX2_greatestCommonDivisor_41 : decode cX2_greatestCommonDivisor 41 = .ok (.goto (-32), 3) := by decide +kernel
theorem dX2_greatestCommonDivisor_44 : decode cX2_greatestCommonDivisor 44 = .ok (.lload 4, 2) := by decide +kernel
theorem dX2_greatestCommonDivisor_46 : decode cX2_greatestCommonDivisor 46 = .ok (.lreturn, 1) := by decide +kernel
theorem dX2_leastCommonMultiple_0 : decode cX2_leastCommonMultiple 0 = .ok (.lload_n 0, 1) := by decide +kernel
theorem dX2_leastCommonMultiple_1 : decode cX2_leastCommonMultiple 1 = .ok (.lload_n 2, 1) := by decide +kernel
theorem dX2_leastCommonMultiple_2 : decode cX2_leastCommonMultiple 2 = .ok (.invokestatic 120, 3) := by decide +kernel
theorem dX2_leastCommonMultiple_5 : decode cX2_leastCommonMultiple 5 = .ok (.lstore 4, 2) := by decide +kernel
theorem dX2_leastCommonMultiple_7 : decode cX2_leastCommonMultiple 7 = .ok (.lload 4, 2) := by decide +kernel
theorem dX2_leastCommonMultiple_9 : decode cX2_leastCommonMultiple 9 = .ok (.lconst 1, 1) := by decide +kernel
theorem dX2_leastCommonMultiple_10 : decode cX2_leastCommonMultiple 10 = .ok (.lcmp, 1) := by decide +kernel
end
section
theorem dX2_leastCommonMultiple_11 : decode cX2_leastCommonMultiple 11 = .ok (.ifCond .ge 7, 3) := by decide +kernel
theorem dX2_leastCommonMultiple_14 : decode cX2_leastCommonMultiple 14 = .ok (.lconst 0, 1) := by decide +kernel
theorem dX2_leastCommonMultiple_15 : decode cX2_leastCommonMultiple 15 = .ok (.goto 9, 3) := by decide +kernel
theorem dX2_leastCommonMultiple_18 : decode cX2_leastCommonMultiple 18 = .ok (.lload_n 0, 1) := by decide +kernel
theorem dX2_leastCommonMultiple_19 : decode cX2_leastCommonMultiple 19 = .ok (.lload 4, 2) := by decide +kernel
theorem dX2_leastCommonMultiple_21 : decode cX2_leastCommonMultiple 21 = .ok (.ldiv, 1) := by decide +kernel
theorem dX2_leastCommonMultiple_22 : decode cX2_leastCommonMultiple 22 = .ok (.lload_n 2, 1) := by decide +kernel
theorem dX2_leastCommonMultiple_23 : decode cX2_leastCommonMultiple 23 = .ok (.lmul, 1) := by decide +kernel
theorem dX2_leastCommonMultiple_24 : decode cX2_leastCommonMultiple 24 = .ok (.lreturn, 1) := by decide +kernel
theorem dM_init_0 : decode cM_init 0 = .ok (.aload_n 0, 1) := by decide +kernel
theorem dM_init_1 : decode cM_init 1 = .ok (.invokespecial 1, 3) := by decide +kernel
theorem dM_init_4 : decode cM_init 4 = .ok (.aload_n 0, 1) := by decide +kernel
theorem dM_init_5 : decode cM_init 5 = .ok (.bipush 31, 2) := by decide +kernel
theorem dM_init_7 : decode cM_init 7 = .ok (.newarray .long, 2) := by decide +kernel
theorem dM_init_9 : decode cM_init 9 = .ok (.putfield 7, 3) := by decide +kernel
theorem dM_init_12 : decode cM_init 12 = .ok (.aload_n 0, 1) := by decide +kernel
theorem dM_init_13 : decode cM_init 13 = .ok (.bipush 31, 2) := by decide +kernel
theorem dM_init_15 : decode cM_init 15 = .ok (.newarray .long, 2) := by decide +kernel
theorem dM_init_17 : decode cM_init 17 = .ok (.putfield 13, 3) := by decide +kernel
theorem dM_init_20 : decode cM_init 20 = .ok (.aload_n 0, 1) := by decide +kernel
theorem dM_init_21 : decode cM_init 21 = .ok (.bipush 31, 2) := by decide +kernel
theorem dM_init_23 : decode cM_init 23 = .ok (.newarray .long, 2) := by decide +kernel
theorem dM_init_25 : decode cM_init 25 = .ok (.putfield 16, 3) := by decide +kernel
theorem dM_init_28 : decode cM_init 28 = .ok (.aload_n 0, 1) := by decide +kernel
theorem dM_init_29 : decode cM_init 29 = .ok (.bipush 31, 2) := by decide +kernel
theorem dM_init_31 : decode cM_init 31 = .ok (.newarray .long, 2) := by decide +kernel
theorem dM_init_33 : decode cM_init 33 = .ok (.putfield 19, 3) := by decide +kernel
theorem dM_init_36 : decode cM_init 36 = .ok (.aload_n 0, 1) := by decide +kernel
theorem dM_init_37 : decode cM_init 37 = .ok (.sipush 252, 3) := by decide +kernel
theorem dM_init_40 : decode cM_init 40 = .ok (.newarray .int, 2) := by decide +kernel
theorem dM_init_42 : decode cM_init 42 = .ok (.putfield 22, 3) := by decide +kernel
theorem dM_init_45 : decode cM_init 45 = .ok (.aload_n 0, 1) := by decide +kernel
theorem dM_init_46 : decode cM_init 46 = .ok (.sipush 252, 3) := by decide +kernel
theorem dM_init_49 : decode cM_init 49 = .ok (.newarray .boolean, 2) := by decide +kernel
theorem dM_init_51 : decode cM_init 51 = .ok (.putfield 26, 3) := by decide +kernel
theorem dM_init_54 : decode cM_init 54 = .ok (.aload_n 0, 1) := by decide +kernel
theorem dM_init_55 : decode cM_init 55 = .ok (.bipush 21, 2) := by decide +kernel
theorem dM_init_57 : decode cM_init 57 = .ok (.newarray .int, 2) := by decide +kernel
theorem dM_init_59 : decode cM_init 59 = .ok (.putfield 30, 3) := by decide +kernel
theorem dM_init_62 : decode cM_init 62 = .ok (.aload_n 0, 1) := by decide +kernel
theorem dM_init_63 : decode cM_init 63 = .ok (.bipush 21, 2) := by decide +kernel
theorem dM_init_65 : decode cM_init 65 = .ok (.newarray .boolean, 2) := by decide +kernel
theorem dM_init_67 : decode cM_init 67 = .ok (.putfield 33, 3) := by decide +kernel
theorem dM_init_70 : decode cM_init 70 = .ok (.aload_n 0, 1) := by decide +kernel
theorem dM_init_71 : decode cM_init 71 = .ok (.bipush 21, 2) := by decide +kernel
theorem dM_init_73 : decode cM_init 73 = .ok (.newarray .long, 2) := by decide +kernel
theorem dM_init_75 : decode cM_init 75 = .ok (.putfield 36, 3) := by decide +kernel
theorem dM_init_78 : decode cM_init 78 = .ok (.return_, 1) := by decide +kernel
theorem dM_thrown_0 : decode cM_thrown 0 = .ok (.aload_n 0, 1) := by decide +kernel
theorem dM_thrown_1 : decode cM_thrown 1 = .ok (.getfield 39, 3) := by decide +kernel
theorem dM_thrown_4 : decode cM_thrown 4 = .ok (.ireturn, 1) := by decide +kernel
theorem dM_piece_0 : decode cM_piece 0 = .ok (.aload_n 0, 1) := by decide +kernel
theorem dM_piece_1 : decode cM_piece 1 = .ok (.iconst 0, 1) := by decide +kernel
theorem dM_piece_2 : decode cM_piece 2 = .ok (.putfield 39, 3) := by decide +kernel
theorem dM_piece_5 : decode cM_piece 5 = .ok (.iload_n 1, 1) := by decide +kernel
theorem dM_piece_6 : decode cM_piece 6 = .ok (.ifCond .lt 38, 3) := by decide +kernel
theorem dM_piece_9 : decode cM_piece 9 = .ok (.iload_n 1, 1) := by decide +kernel
theorem dM_piece_10 : decode cM_piece 10 = .ok (.iconst 2, 1) := by decide +kernel
theorem dM_piece_11 : decode cM_piece 11 = .ok (.if_icmp .gt 33, 3) := by decide +kernel
theorem dM_piece_14 : decode cM_piece 14 = .ok (.lload_n 2, 1) := by decide +kernel
theorem dM_piece_15 : decode cM_piece 15 = .ok (.lconst 0, 1) := by decide +kernel
theorem dM_piece_16 : decode cM_piece 16 = .ok (.lcmp, 1) := by decide +kernel
theorem dM_piece_17 : decode cM_piece 17 = .ok (.ifCond .lt 27, 3) := by decide +kernel
theorem dM_piece_20 : decode cM_piece 20 = .ok (.lload_n 2, 1) := by decide +kernel
theorem dM_piece_21 : decode cM_piece 21 = .ok (.ldc2_w 43, 3) := by decide +kernel
theorem dM_piece_24 : decode cM_piece 24 = .ok (.lcmp, 1) := by decide +kernel
theorem dM_piece_25 : decode cM_piece 25 = .ok (.ifCond .gt 19, 3) := by decide +kernel
theorem dM_piece_28 : decode cM_piece 28 = .ok (.lload 4, 2) := by decide +kernel
theorem dM_piece_30 : decode cM_piece 30 = .ok (.lconst 0, 1) := by decide +kernel
theorem dM_piece_31 : decode cM_piece 31 = .ok (.lcmp, 1) := by decide +kernel
theorem dM_piece_32 : decode cM_piece 32 = .ok (.ifCond .lt 12, 3) := by decide +kernel
theorem dM_piece_35 : decode cM_piece 35 = .ok (.lload 4, 2) := by decide +kernel
theorem dM_piece_37 : decode cM_piece 37 = .ok (.ldc2_w 43, 3) := by decide +kernel
theorem dM_piece_40 : decode cM_piece 40 = .ok (.lcmp, 1) := by decide +kernel
theorem dM_piece_41 : decode cM_piece 41 = .ok (.ifCond .le 6, 3) := by decide +kernel
theorem dM_piece_44 : decode cM_piece 44 = .ok (.bipush (-2), 2) := by decide +kernel
theorem dM_piece_46 : decode cM_piece 46 = .ok (.ireturn, 1) := by decide +kernel
theorem dM_piece_47 : decode cM_piece 47 = .ok (.aload_n 0, 1) := by decide +kernel
theorem dM_piece_48 : decode cM_piece 48 = .ok (.getfield 45, 3) := by decide +kernel
theorem dM_piece_51 : decode cM_piece 51 = .ok (.bipush 30, 2) := by decide +kernel
theorem dM_piece_53 : decode cM_piece 53 = .ok (.if_icmp .ne 6, 3) := by decide +kernel
theorem dM_piece_56 : decode cM_piece 56 = .ok (.bipush (-4), 2) := by decide +kernel
theorem dM_piece_58 : decode cM_piece 58 = .ok (.ireturn, 1) := by decide +kernel
theorem dM_piece_59 : decode cM_piece 59 = .ok (.aload_n 0, 1) := by decide +kernel
theorem dM_piece_60 : decode cM_piece 60 = .ok (.dup, 1) := by decide +kernel
theorem dM_piece_61 : decode cM_piece 61 = .ok (.getfield 45, 3) := by decide +kernel
theorem dM_piece_64 : decode cM_piece 64 = .ok (.iconst 1, 1) := by decide +kernel
theorem dM_piece_65 : decode cM_piece 65 = .ok (.iadd, 1) := by decide +kernel
theorem dM_piece_66 : decode cM_piece 66 = .ok (.putfield 45, 3) := by decide +kernel
theorem dM_piece_69 : decode cM_piece 69 = .ok (.aload_n 0, 1) := by decide +kernel
theorem dM_piece_70 : decode cM_piece 70 = .ok (.getfield 7, 3) := by decide +kernel
theorem dM_piece_73 : decode cM_piece 73 = .ok (.aload_n 0, 1) := by decide +kernel
theorem dM_piece_74 : decode cM_piece 74 = .ok (.getfield 45, 3) := by decide +kernel
theorem dM_piece_77 : decode cM_piece 77 = .ok (.lload_n 2, 1) := by decide +kernel
theorem dM_piece_78 : decode cM_piece 78 = .ok (.lastore, 1) := by decide +kernel
theorem dM_piece_79 : decode cM_piece 79 = .ok (.aload_n 0, 1) := by decide +kernel
theorem dM_piece_80 : decode cM_piece 80 = .ok (.getfield 13, 3) := by decide +kernel
theorem dM_piece_83 : decode cM_piece 83 = .ok (.aload_n 0, 1) := by decide +kernel
theorem dM_piece_84 : decode cM_piece 84 = .ok (.getfield 45, 3) := by decide +kernel
theorem dM_piece_87 : decode cM_piece 87 = .ok (.lload 4, 2) := by decide +kernel
theorem dM_piece_89 : decode cM_piece 89 = .ok (.lastore, 1) := by decide +kernel
theorem dM_piece_90 : decode cM_piece 90 = .ok (.aload_n 0, 1) := by decide +kernel
theorem dM_piece_91 : decode cM_piece 91 = .ok (.getfield 16, 3) := by decide +kernel
theorem dM_piece_94 : decode cM_piece 94 = .ok (.aload_n 0, 1) := by decide +kernel
theorem dM_piece_95 : decode cM_piece 95 = .ok (.getfield 45, 3) := by decide +kernel
theorem dM_piece_98 : decode cM_piece 98 = .ok (.lconst 0, 1) := by decide +kernel
theorem dM_piece_99 : decode cM_piece 99 = .ok (.lastore, 1) := by decide +kernel
theorem dM_piece_100 : decode cM_piece 100 = .ok (.aload_n 0, 1) := by decide +kernel
theorem dM_piece_101 : decode cM_piece 101 = .ok (.getfield 19, 3) := by decide +kernel
theorem dM_piece_104 : decode cM_piece 104 = .ok (.aload_n 0, 1) := by decide +kernel
theorem dM_piece_105 : decode cM_piece 105 = .ok (.getfield 45, 3) := by decide +kernel
theorem dM_piece_108 : decode cM_piece 108 = .ok (.lconst 1, 1) := by decide +kernel
theorem dM_piece_109 : decode cM_piece 109 = .ok (.lastore, 1) := by decide +kernel
theorem dM_piece_110 : decode cM_piece 110 = .ok (.aload_n 0, 1) := by decide +kernel
theorem dM_piece_111 : decode cM_piece 111 = .ok (.getfield 45, 3) := by decide +kernel
theorem dM_piece_114 : decode cM_piece 114 = .ok (.ireturn, 1) := by decide +kernel
theorem dM_chain_0 : decode cM_chain 0 = .ok (.aload_n 0, 1) := by decide +kernel
theorem dM_chain_1 : decode cM_chain 1 = .ok (.iconst 0, 1) := by decide +kernel
theorem dM_chain_2 : decode cM_chain 2 = .ok (.putfield 39, 3) := by decide +kernel
theorem dM_chain_5 : decode cM_chain 5 = .ok (.aload_n 0, 1) := by decide +kernel
theorem dM_chain_6 : decode cM_chain 6 = .ok (.getfield 48, 3) := by decide +kernel
theorem dM_chain_9 : decode cM_chain 9 = .ok (.bipush 20, 2) := by decide +kernel
theorem dM_chain_11 : decode cM_chain 11 = .ok (.if_icmp .ne 6, 3) := by decide +kernel
theorem dM_chain_14 : decode cM_chain 14 = .ok (.bipush (-4), 2) := by decide +kernel
theorem dM_chain_16 : decode cM_chain 16 = .ok (.ireturn, 1) := by decide +kernel
theorem dM_chain_17 : decode cM_chain 17 = .ok (.aload_n 0, 1) := by decide +kernel
theorem dM_chain_18 : decode cM_chain 18 = .ok (.dup, 1) := by decide +kernel
theorem dM_chain_19 : decode cM_chain 19 = .ok (.getfield 48, 3) := by decide +kernel
theorem dM_chain_22 : decode cM_chain 22 = .ok (.iconst 1, 1) := by decide +kernel
theorem dM_chain_23 : decode cM_chain 23 = .ok (.iadd, 1) := by decide +kernel
theorem dM_chain_24 : decode cM_chain 24 = .ok (.putfield 48, 3) := by decide +kernel
theorem dM_chain_27 : decode cM_chain 27 = .ok (.aload_n 0, 1) := by decide +kernel
theorem dM_chain_28 : decode cM_chain 28 = .ok (.getfield 48, 3) := by decide +kernel
theorem dM_chain_31 : decode cM_chain 31 = .ok (.ireturn, 1) := by decide +kernel
theorem dM_noChain_0 : decode cM_noChain 0 = .ok (.iload_n 1, 1) := by decide +kernel
theorem dM_noChain_1 : decode cM_noChain 1 = .ok (.iconst 1, 1) := by decide +kernel
theorem dM_noChain_2 : decode cM_noChain 2 = .ok (.if_icmp .lt 11, 3) := by decide +kernel
theorem dM_noChain_5 : decode cM_noChain 5 = .ok (.iload_n 1, 1) := by decide +kernel
theorem dM_noChain_6 : decode cM_noChain 6 = .ok (.aload_n 0, 1) := by decide +kernel
theorem dM_noChain_7 : decode cM_noChain 7 = .ok (.getfield 48, 3) := by decide +kernel
theorem dM_noChain_10 : decode cM_noChain 10 = .ok (.if_icmp .le 7, 3) := by decide +kernel
theorem dM_noChain_13 : decode cM_noChain 13 = .ok (.iconst 1, 1) := by decide +kernel
theorem dM_noChain_14 : decode cM_noChain 14 = .ok (.goto 4, 3) := by decide +kernel
theorem dM_noChain_17 : decode cM_noChain 17 = .ok (.iconst 0, 1) := by decide +kernel
theorem dM_noChain_18 : decode cM_noChain 18 = .ok (.ireturn, 1) := by decide +kernel
theorem dM_isEmpty_0 : decode cM_isEmpty 0 = .ok (.aload_n 0, 1) := by decide +kernel
theorem dM_isEmpty_1 : decode cM_isEmpty 1 = .ok (.iload_n 1, 1) := by decide +kernel
theorem dM_isEmpty_2 : decode cM_isEmpty 2 = .ok (.invokevirtual 51, 3) := by decide +kernel
theorem dM_isEmpty_5 : decode cM_isEmpty 5 = .ok (.ifCond .ne 12, 3) := by decide +kernel
theorem dM_isEmpty_8 : decode cM_isEmpty 8 = .ok (.aload_n 0, 1) := by decide +kernel
theorem dM_isEmpty_9 : decode cM_isEmpty 9 = .ok (.getfield 30, 3) := by decide +kernel
theorem dM_isEmpty_12 : decode cM_isEmpty 12 = .ok (.iload_n 1, 1) := by decide +kernel
theorem dM_isEmpty_13 : decode cM_isEmpty 13 = .ok (.iaload, 1) := by decide +kernel
theorem dM_isEmpty_14 : decode cM_isEmpty 14 = .ok (.ifCond .ne 7, 3) := by decide +kernel
theorem dM_isEmpty_17 : decode cM_isEmpty 17 = .ok (.iconst 1, 1) := by decide +kernel
theorem dM_isEmpty_18 : decode cM_isEmpty 18 = .ok (.goto 4, 3) := by decide +kernel
theorem dM_isEmpty_21 : decode cM_isEmpty 21 = .ok (.iconst 0, 1) := by decide +kernel
theorem dM_isEmpty_22 : decode cM_isEmpty 22 = .ok (.ireturn, 1) := by decide +kernel
theorem dM_noPiece_0 : decode cM_noPiece 0 = .ok (.iload_n 1, 1) := by decide +kernel
theorem dM_noPiece_1 : decode cM_noPiece 1 = .ok (.iconst 1, 1) := by decide +kernel
theorem dM_noPiece_2 : decode cM_noPiece 2 = .ok (.if_icmp .lt 11, 3) := by decide +kernel
theorem dM_noPiece_5 : decode cM_noPiece 5 = .ok (.iload_n 1, 1) := by decide +kernel
theorem dM_noPiece_6 : decode cM_noPiece 6 = .ok (.aload_n 0, 1) := by decide +kernel
theorem dM_noPiece_7 : decode cM_noPiece 7 = .ok (.getfield 45, 3) := by decide +kernel
theorem dM_noPiece_10 : decode cM_noPiece 10 = .ok (.if_icmp .le 7, 3) := by decide +kernel
theorem dM_noPiece_13 : decode cM_noPiece 13 = .ok (.iconst 1, 1) := by decide +kernel
theorem dM_noPiece_14 : decode cM_noPiece 14 = .ok (.goto 4, 3) := by decide +kernel
theorem dM_noPiece_17 : decode cM_noPiece 17 = .ok (.iconst 0, 1) := by decide +kernel
theorem dM_noPiece_18 : decode cM_noPiece 18 = .ok (.ireturn, 1) := by decide +kernel
theorem dM_add_0 : decode cM_add 0 = .ok (.aload_n 0, 1) := by decide +kernel
theorem dM_add_1 : decode cM_add 1 = .ok (.iconst 0, 1) := by decide +kernel
theorem dM_add_2 : decode cM_add 2 = .ok (.putfield 39, 3) := by decide +kernel
theorem dM_add_5 : decode cM_add 5 = .ok (.aload_n 0, 1) := by decide +kernel
theorem dM_add_6 : decode cM_add 6 = .ok (.iload_n 1, 1) := by decide +kernel
theorem dM_add_7 : decode cM_add 7 = .ok (.invokevirtual 51, 3) := by decide +kernel
theorem dM_add_10 : decode cM_add 10 = .ok (.ifCond .ne 11, 3) := by decide +kernel
theorem dM_add_13 : decode cM_add 13 = .ok (.aload_n 0, 1) := by decide +kernel
theorem dM_add_14 : decode cM_add 14 = .ok (.iload_n 2, 1) := by decide +kernel
theorem dM_add_15 : decode cM_add 15 = .ok (.invokevirtual 55, 3) := by decide +kernel
theorem dM_add_18 : decode cM_add 18 = .ok (.ifCond .eq 5, 3) := by decide +kernel
theorem dM_add_21 : decode cM_add 21 = .ok (.iconst (-1), 1) := by decide +kernel
theorem dM_add_22 : decode cM_add 22 = .ok (.ireturn, 1) := by decide +kernel
theorem dM_add_23 : decode cM_add 23 = .ok (.aload_n 0, 1) := by decide +kernel
theorem dM_add_24 : decode cM_add 24 = .ok (.getfield 30, 3) := by decide +kernel
theorem dM_add_27 : decode cM_add 27 = .ok (.iload_n 1, 1) := by decide +kernel
theorem dM_add_28 : decode cM_add 28 = .ok (.iaload, 1) := by decide +kernel
theorem dM_add_29 : decode cM_add 29 = .ok (.ifCond .eq 7, 3) := by decide +kernel
theorem dM_add_32 : decode cM_add 32 = .ok (.iload_n 3, 1) := by decide +kernel
theorem dM_add_33 : decode cM_add 33 = .ok (.ifCond .ne 7, 3) := by decide +kernel
theorem dM_add_36 : decode cM_add 36 = .ok (.iconst 1, 1) := by decide +kernel
theorem dM_add_37 : decode cM_add 37 = .ok (.goto 4, 3) := by decide +kernel
theorem dM_add_40 : decode cM_add 40 = .ok (.iconst 0, 1) := by decide +kernel
theorem dM_add_41 : decode cM_add 41 = .ok (.istore 4, 2) := by decide +kernel
theorem dM_add_43 : decode cM_add 43 = .ok (.iload 4, 2) := by decide +kernel
theorem dM_add_45 : decode cM_add 45 = .ok (.ifCond .eq 17, 3) := by decide +kernel
theorem dM_add_48 : decode cM_add 48 = .ok (.aload_n 0, 1) := by decide +kernel
theorem dM_add_49 : decode cM_add 49 = .ok (.getfield 7, 3) := by decide +kernel
theorem dM_add_52 : decode cM_add 52 = .ok (.iload_n 2, 1) := by decide +kernel
theorem dM_add_53 : decode cM_add 53 = .ok (.laload, 1) := by decide +kernel
theorem dM_add_54 : decode cM_add 54 = .ok (.lconst 0, 1) := by decide +kernel
theorem dM_add_55 : decode cM_add 55 = .ok (.lcmp, 1) := by decide +kernel
theorem dM_add_56 : decode cM_add 56 = .ok (.ifCond .ne 6, 3) := by decide +kernel
theorem dM_add_59 : decode cM_add 59 = .ok (.bipush (-3), 2) := by decide +kernel
theorem dM_add_61 : decode cM_add 61 = .ok (.ireturn, 1) := by decide +kernel
theorem dM_add_62 : decode cM_add 62 = .ok (.aload_n 0, 1) := by decide +kernel
theorem dM_add_63 : decode cM_add 63 = .ok (.getfield 30, 3) := by decide +kernel
theorem dM_add_66 : decode cM_add 66 = .ok (.iload_n 1, 1) := by decide +kernel
theorem dM_add_67 : decode cM_add 67 = .ok (.iaload, 1) := by decide +kernel
theorem dM_add_68 : decode cM_add 68 = .ok (.bipush 12, 2) := by decide +kernel
theorem dM_add_70 : decode cM_add 70 = .ok (.if_icmp .ne 6, 3) := by decide +kernel
theorem dM_add_73 : decode cM_add 73 = .ok (.bipush (-4), 2) := by decide +kernel
theorem dM_add_75 : decode cM_add 75 = .ok (.ireturn, 1) := by decide +kernel
theorem dM_add_76 : decode cM_add 76 = .ok (.iconst 0, 1) := by decide +kernel
theorem dM_add_77 : decode cM_add 77 = .ok (.istore 5, 2) := by decide +kernel
theorem dM_add_79 : decode cM_add 79 = .ok (.iload 5, 2) := by decide +kernel
theorem dM_add_81 : decode cM_add 81 = .ok (.aload_n 0, 1) := by decide +kernel
theorem dM_add_82 : decode cM_add 82 = .ok (.getfield 30, 3) := by decide +kernel
theorem dM_add_85 : decode cM_add 85 = .ok (.iload_n 1, 1) := by decide +kernel
theorem dM_add_86 : decode cM_add 86 = .ok (.iaload, 1) := by decide +kernel
theorem dM_add_87 : decode cM_add 87 = .ok (.if_icmp .ge 27, 3) := by decide +kernel
theorem dM_add_90 : decode cM_add 90 = .ok (.aload_n 0, 1) := by decide +kernel
theorem dM_add_91 : decode cM_add 91 = .ok (.getfield 22, 3) := by decide +kernel
theorem dM_add_94 : decode cM_add 94 = .ok (.bipush 12, 2) := by decide +kernel
theorem dM_add_96 : decode cM_add 96 = .ok (.iload_n 1, 1) := by decide +kernel
theorem dM_add_97 : decode cM_add 97 = .ok (.imul, 1) := by decide +kernel
theorem dM_add_98 : decode cM_add 98 = .ok (.iload 5, 2) := by decide +kernel
theorem dM_add_100 : decode cM_add 100 = .ok (.iadd, 1) := by decide +kernel
theorem dM_add_101 : decode cM_add 101 = .ok (.iaload, 1) := by decide +kernel
theorem dM_add_102 : decode cM_add 102 = .ok (.iload_n 2, 1) := by decide +kernel
theorem dM_add_103 : decode cM_add 103 = .ok (.if_icmp .ne 5, 3) := by decide +kernel
theorem dM_add_106 : decode cM_add 106 = .ok (.iconst 0, 1) := by decide +kernel
theorem dM_add_107 : decode cM_add 107 = .ok (.ireturn, 1) := by decide +kernel
theorem dM_add_108 : decode cM_add 108 = .ok (.iinc 5 1, 3) := by decide +kernel
theorem dM_add_111 : decode cM_add 111 = .ok (.goto (-32), 3) := by decide +kernel
theorem dM_add_114 : decode cM_add 114 = .ok (.aload_n 0, 1) := by decide +kernel
theorem dM_add_115 : decode cM_add 115 = .ok (.getfield 22, 3) := by decide +kernel
theorem dM_add_118 : decode cM_add 118 = .ok (.bipush 12, 2) := by decide +kernel
theorem dM_add_120 : decode cM_add 120 = .ok (.iload_n 1, 1) := by decide +kernel
theorem dM_add_121 : decode cM_add 121 = .ok (.imul, 1) := by decide +kernel
theorem dM_add_122 : decode cM_add 122 = .ok (.aload_n 0, 1) := by decide +kernel
theorem dM_add_123 : decode cM_add 123 = .ok (.getfield 30, 3) := by decide +kernel
theorem dM_add_126 : decode cM_add 126 = .ok (.iload_n 1, 1) := by decide +kernel
theorem dM_add_127 : decode cM_add 127 = .ok (.iaload, 1) := by decide +kernel
theorem dM_add_128 : decode cM_add 128 = .ok (.iadd, 1) := by decide +kernel
theorem dM_add_129 : decode cM_add 129 = .ok (.iload_n 2, 1) := by decide +kernel
theorem dM_add_130 : decode cM_add 130 = .ok (.iastore, 1) := by decide +kernel
theorem dM_add_131 : decode cM_add 131 = .ok (.aload_n 0, 1) := by decide +kernel
theorem dM_add_132 : decode cM_add 132 = .ok (.getfield 26, 3) := by decide +kernel
theorem dM_add_135 : decode cM_add 135 = .ok (.bipush 12, 2) := by decide +kernel
theorem dM_add_137 : decode cM_add 137 = .ok (.iload_n 1, 1) := by decide +kernel
theorem dM_add_138 : decode cM_add 138 = .ok (.imul, 1) := by decide +kernel
theorem dM_add_139 : decode cM_add 139 = .ok (.aload_n 0, 1) := by decide +kernel
theorem dM_add_140 : decode cM_add 140 = .ok (.getfield 30, 3) := by decide +kernel
theorem dM_add_143 : decode cM_add 143 = .ok (.iload_n 1, 1) := by decide +kernel
theorem dM_add_144 : decode cM_add 144 = .ok (.iaload, 1) := by decide +kernel
theorem dM_add_145 : decode cM_add 145 = .ok (.iadd, 1) := by decide +kernel
theorem dM_add_146 : decode cM_add 146 = .ok (.iload 4, 2) := by decide +kernel
theorem dM_add_148 : decode cM_add 148 = .ok (.ifCond .ne 7, 3) := by decide +kernel
theorem dM_add_151 : decode cM_add 151 = .ok (.iconst 1, 1) := by decide +kernel
theorem dM_add_152 : decode cM_add 152 = .ok (.goto 4, 3) := by decide +kernel
theorem dM_add_155 : decode cM_add 155 = .ok (.iconst 0, 1) := by decide +kernel
theorem dM_add_156 : decode cM_add 156 = .ok (.bastore, 1) := by decide +kernel
theorem dM_add_157 : decode cM_add 157 = .ok (.aload_n 0, 1) := by decide +kernel
theorem dM_add_158 : decode cM_add 158 = .ok (.getfield 30, 3) := by decide +kernel
theorem dM_add_161 : decode cM_add 161 = .ok (.iload_n 1, 1) := by decide +kernel
theorem dM_add_162 : decode cM_add 162 = .ok (.dup2, 1) := by decide +kernel
theorem dM_add_163 : decode cM_add 163 = .ok (.iaload, 1) := by decide +kernel
theorem dM_add_164 : decode cM_add 164 = .ok (.iconst 1, 1) := by decide +kernel
theorem dM_add_165 : decode cM_add 165 = .ok (.iadd, 1) := by decide +kernel
theorem dM_add_166 : decode cM_add 166 = .ok (.iastore, 1) := by decide +kernel
theorem dM_add_167 : decode cM_add 167 = .ok (.iconst 1, 1) := by decide +kernel
theorem dM_add_168 : decode cM_add 168 = .ok (.ireturn, 1) := by decide +kernel
theorem dM_longPeriod_0 : decode cM_longPeriod 0 = .ok (.aload_n 0, 1) := by decide +kernel
theorem dM_longPeriod_1 : decode cM_longPeriod 1 = .ok (.getfield 7, 3) := by decide +kernel
theorem dM_longPeriod_4 : decode cM_longPeriod 4 = .ok (.iload_n 1, 1) := by decide +kernel
theorem dM_longPeriod_5 : decode cM_longPeriod 5 = .ok (.laload, 1) := by decide +kernel
theorem dM_longPeriod_6 : decode cM_longPeriod 6 = .ok (.aload_n 0, 1) := by decide +kernel
theorem dM_longPeriod_7 : decode cM_longPeriod 7 = .ok (.getfield 19, 3) := by decide +kernel
theorem dM_longPeriod_10 : decode cM_longPeriod 10 = .ok (.iload_n 1, 1) := by decide +kernel
theorem dM_longPeriod_11 : decode cM_longPeriod 11 = .ok (.laload, 1) := by decide +kernel
theorem dM_longPeriod_12 : decode cM_longPeriod 12 = .ok (.aload_n 0, 1) := by decide +kernel
theorem dM_longPeriod_13 : decode cM_longPeriod 13 = .ok (.getfield 16, 3) := by decide +kernel
theorem dM_longPeriod_16 : decode cM_longPeriod 16 = .ok (.iload_n 1, 1) := by decide +kernel
theorem dM_longPeriod_17 : decode cM_longPeriod 17 = .ok (.laload, 1) := by decide +kernel
theorem dM_longPeriod_18 : decode cM_longPeriod 18 = .ok (.ladd, 1) := by decide +kernel
theorem dM_longPeriod_19 : decode cM_longPeriod 19 = .ok (.lmul, 1) := by decide +kernel
theorem dM_longPeriod_20 : decode cM_longPeriod 20 = .ok (.aload_n 0, 1) := by decide +kernel
theorem dM_longPeriod_21 : decode cM_longPeriod 21 = .ok (.getfield 19, 3) := by decide +kernel
theorem dM_longPeriod_24 : decode cM_longPeriod 24 = .ok (.iload_n 1, 1) := by decide +kernel
theorem dM_longPeriod_25 : decode cM_longPeriod 25 = .ok (.laload, 1) := by decide +kernel
theorem dM_longPeriod_26 : decode cM_longPeriod 26 = .ok (.ladd, 1) := by decide +kernel
theorem dM_longPeriod_27 : decode cM_longPeriod 27 = .ok (.lconst 1, 1) := by decide +kernel
theorem dM_longPeriod_28 : decode cM_longPeriod 28 = .ok (.lsub, 1) := by decide +kernel
theorem dM_longPeriod_29 : decode cM_longPeriod 29 = .ok (.aload_n 0, 1) := by decide +kernel
theorem dM_longPeriod_30 : decode cM_longPeriod 30 = .ok (.getfield 19, 3) := by decide +kernel
theorem dM_longPeriod_33 : decode cM_longPeriod 33 = .ok (.iload_n 1, 1) := by decide +kernel
theorem dM_longPeriod_34 : decode cM_longPeriod 34 = .ok (.laload, 1) := by decide +kernel
theorem dM_longPeriod_35 : decode cM_longPeriod 35 = .ok (.ldiv, 1) := by decide +kernel
theorem dM_longPeriod_36 : decode cM_longPeriod 36 = .ok (.lreturn, 1) := by decide +kernel
theorem dM_brings_0 : decode cM_brings 0 = .ok (.aload_n 0, 1) := by decide +kernel
theorem dM_brings_1 : decode cM_brings 1 = .ok (.getfield 22, 3) := by decide +kernel
theorem dM_brings_4 : decode cM_brings 4 = .ok (.bipush 12, 2) := by decide +kernel
theorem dM_brings_6 : decode cM_brings 6 = .ok (.iload_n 1, 1) := by decide +kernel
theorem dM_brings_7 : decode cM_brings 7 = .ok (.imul, 1) := by decide +kernel
theorem dM_brings_8 : decode cM_brings 8 = .ok (.iload_n 2, 1) := by decide +kernel
theorem dM_brings_9 : decode cM_brings 9 = .ok (.iadd, 1) := by decide +kernel
theorem dM_brings_10 : decode cM_brings 10 = .ok (.iaload, 1) := by decide +kernel
theorem dM_brings_11 : decode cM_brings 11 = .ok (.istore_n 3, 1) := by decide +kernel
theorem dM_brings_12 : decode cM_brings 12 = .ok (.aload_n 0, 1) := by decide +kernel
theorem dM_brings_13 : decode cM_brings 13 = .ok (.getfield 13, 3) := by decide +kernel
theorem dM_brings_16 : decode cM_brings 16 = .ok (.iload_n 3, 1) := by decide +kernel
theorem dM_brings_17 : decode cM_brings 17 = .ok (.laload, 1) := by decide +kernel
theorem dM_brings_18 : decode cM_brings 18 = .ok (.aload_n 0, 1) := by decide +kernel
theorem dM_brings_19 : decode cM_brings 19 = .ok (.getfield 26, 3) := by decide +kernel
theorem dM_brings_22 : decode cM_brings 22 = .ok (.bipush 12, 2) := by decide +kernel
theorem dM_brings_24 : decode cM_brings 24 = .ok (.iload_n 1, 1) := by decide +kernel
theorem dM_brings_25 : decode cM_brings 25 = .ok (.imul, 1) := by decide +kernel
theorem dM_brings_26 : decode cM_brings 26 = .ok (.iload_n 2, 1) := by decide +kernel
theorem dM_brings_27 : decode cM_brings 27 = .ok (.iadd, 1) := by decide +kernel
theorem dM_brings_28 : decode cM_brings 28 = .ok (.baload, 1) := by decide +kernel
theorem dM_brings_29 : decode cM_brings 29 = .ok (.ifCond .eq 7, 3) := by decide +kernel
theorem dM_brings_32 : decode cM_brings 32 = .ok (.lconst 0, 1) := by decide +kernel
theorem dM_brings_33 : decode cM_brings 33 = .ok (.goto 8, 3) := by decide +kernel
theorem dM_brings_36 : decode cM_brings 36 = .ok (.aload_n 0, 1) := by decide +kernel
theorem dM_brings_37 : decode cM_brings 37 = .ok (.iload_n 3, 1) := by decide +kernel
theorem dM_brings_38 : decode cM_brings 38 = .ok (.invokevirtual 58, 3) := by decide +kernel
theorem dM_brings_41 : decode cM_brings 41 = .ok (.ladd, 1) := by decide +kernel
theorem dM_brings_42 : decode cM_brings 42 = .ok (.lreturn, 1) := by decide +kernel
theorem dM_reaction_0 : decode cM_reaction 0 = .ok (.lconst 0, 1) := by decide +kernel
theorem dM_reaction_1 : decode cM_reaction 1 = .ok (.lstore_n 2, 1) := by decide +kernel
theorem dM_reaction_2 : decode cM_reaction 2 = .ok (.iconst 0, 1) := by decide +kernel
theorem dM_reaction_3 : decode cM_reaction 3 = .ok (.istore 4, 2) := by decide +kernel
theorem dM_reaction_5 : decode cM_reaction 5 = .ok (.iload 4, 2) := by decide +kernel
theorem dM_reaction_7 : decode cM_reaction 7 = .ok (.aload_n 0, 1) := by decide +kernel
theorem dM_reaction_8 : decode cM_reaction 8 = .ok (.getfield 30, 3) := by decide +kernel
theorem dM_reaction_11 : decode cM_reaction 11 = .ok (.iload_n 1, 1) := by decide +kernel
theorem dM_reaction_12 : decode cM_reaction 12 = .ok (.iaload, 1) := by decide +kernel
theorem dM_reaction_13 : decode cM_reaction 13 = .ok (.if_icmp .ge 19, 3) := by decide +kernel
theorem dM_reaction_16 : decode cM_reaction 16 = .ok (.lload_n 2, 1) := by decide +kernel
theorem dM_reaction_17 : decode cM_reaction 17 = .ok (.aload_n 0, 1) := by decide +kernel
theorem dM_reaction_18 : decode cM_reaction 18 = .ok (.iload_n 1, 1) := by decide +kernel
theorem dM_reaction_19 : decode cM_reaction 19 = .ok (.iload 4, 2) := by decide +kernel
theorem dM_reaction_21 : decode cM_reaction 21 = .ok (.invokevirtual 62, 3) := by decide +kernel
theorem dM_reaction_24 : decode cM_reaction 24 = .ok (.ladd, 1) := by decide +kernel
theorem dM_reaction_25 : decode cM_reaction 25 = .ok (.lstore_n 2, 1) := by decide +kernel
theorem dM_reaction_26 : decode cM_reaction 26 = .ok (.iinc 4 1, 3) := by decide +kernel
theorem dM_reaction_29 : decode cM_reaction 29 = .ok (.goto (-24), 3) := by decide +kernel
theorem dM_reaction_32 : decode cM_reaction 32 = .ok (.lload_n 2, 1) := by decide +kernel
theorem dM_reaction_33 : decode cM_reaction 33 = .ok (.lreturn, 1) := by decide +kernel
theorem dM_age_0 : decode cM_age 0 = .ok (.iconst 0, 1) := by decide +kernel
theorem dM_age_1 : decode cM_age 1 = .ok (.istore_n 2, 1) := by decide +kernel
theorem dM_age_2 : decode cM_age 2 = .ok (.iconst 0, 1) := by decide +kernel
theorem dM_age_3 : decode cM_age 3 = .ok (.istore_n 3, 1) := by decide +kernel
theorem dM_age_4 : decode cM_age 4 = .ok (.iload_n 3, 1) := by decide +kernel
theorem dM_age_5 : decode cM_age 5 = .ok (.aload_n 0, 1) := by decide +kernel
theorem dM_age_6 : decode cM_age 6 = .ok (.getfield 30, 3) := by decide +kernel
theorem dM_age_9 : decode cM_age 9 = .ok (.iload_n 1, 1) := by decide +kernel
theorem dM_age_10 : decode cM_age 10 = .ok (.iaload, 1) := by decide +kernel
theorem dM_age_11 : decode cM_age 11 = .ok (.if_icmp .ge 29, 3) := by decide +kernel
theorem dM_age_14 : decode cM_age 14 = .ok (.aload_n 0, 1) := by decide +kernel
theorem dM_age_15 : decode cM_age 15 = .ok (.getfield 26, 3) := by decide +kernel
theorem dM_age_18 : decode cM_age 18 = .ok (.bipush 12, 2) := by decide +kernel
theorem dM_age_20 : decode cM_age 20 = .ok (.iload_n 1, 1) := by decide +kernel
theorem dM_age_21 : decode cM_age 21 = .ok (.imul, 1) := by decide +kernel
theorem dM_age_22 : decode cM_age 22 = .ok (.iload_n 3, 1) := by decide +kernel
theorem dM_age_23 : decode cM_age 23 = .ok (.iadd, 1) := by decide +kernel
theorem dM_age_24 : decode cM_age 24 = .ok (.baload, 1) := by decide +kernel
theorem dM_age_25 : decode cM_age 25 = .ok (.ifCond .eq 7, 3) := by decide +kernel
theorem dM_age_28 : decode cM_age 28 = .ok (.iload_n 2, 1) := by decide +kernel
theorem dM_age_29 : decode cM_age 29 = .ok (.goto 4, 3) := by decide +kernel
theorem dM_age_32 : decode cM_age 32 = .ok (.iload_n 3, 1) := by decide +kernel
theorem dM_age_33 : decode cM_age 33 = .ok (.istore_n 2, 1) := by decide +kernel
theorem dM_age_34 : decode cM_age 34 = .ok (.iinc 3 1, 3) := by decide +kernel
theorem dM_age_37 : decode cM_age 37 = .ok (.goto (-33), 3) := by decide +kernel
theorem dM_age_40 : decode cM_age 40 = .ok (.aload_n 0, 1) := by decide +kernel
theorem dM_age_41 : decode cM_age 41 = .ok (.iload_n 1, 1) := by decide +kernel
theorem dM_age_42 : decode cM_age 42 = .ok (.invokevirtual 66, 3) := by decide +kernel
theorem dM_age_45 : decode cM_age 45 = .ok (.aload_n 0, 1) := by decide +kernel
theorem dM_age_46 : decode cM_age 46 = .ok (.aload_n 0, 1) := by decide +kernel
theorem dM_age_47 : decode cM_age 47 = .ok (.getfield 22, 3) := by decide +kernel
theorem dM_age_50 : decode cM_age 50 = .ok (.bipush 12, 2) := by decide +kernel
theorem dM_age_52 : decode cM_age 52 = .ok (.iload_n 1, 1) := by decide +kernel
theorem dM_age_53 : decode cM_age 53 = .ok (.imul, 1) := by decide +kernel
theorem dM_age_54 : decode cM_age 54 = .ok (.iaload, 1) := by decide +kernel
theorem dM_age_55 : decode cM_age 55 = .ok (.invokevirtual 58, 3) := by decide +kernel
theorem dM_age_58 : decode cM_age 58 = .ok (.lsub, 1) := by decide +kernel
theorem dM_age_59 : decode cM_age 59 = .ok (.aload_n 0, 1) := by decide +kernel
theorem dM_age_60 : decode cM_age 60 = .ok (.aload_n 0, 1) := by decide +kernel
theorem dM_age_61 : decode cM_age 61 = .ok (.getfield 22, 3) := by decide +kernel
theorem dM_age_64 : decode cM_age 64 = .ok (.bipush 12, 2) := by decide +kernel
theorem dM_age_66 : decode cM_age 66 = .ok (.iload_n 1, 1) := by decide +kernel
theorem dM_age_67 : decode cM_age 67 = .ok (.imul, 1) := by decide +kernel
theorem dM_age_68 : decode cM_age 68 = .ok (.iload_n 2, 1) := by decide +kernel
theorem dM_age_69 : decode cM_age 69 = .ok (.iadd, 1) := by decide +kernel
theorem dM_age_70 : decode cM_age 70 = .ok (.iaload, 1) := by decide +kernel
theorem dM_age_71 : decode cM_age 71 = .ok (.invokevirtual 58, 3) := by decide +kernel
theorem dM_age_74 : decode cM_age 74 = .ok (.ladd, 1) := by decide +kernel
theorem dM_age_75 : decode cM_age 75 = .ok (.lreturn, 1) := by decide +kernel
theorem dM_worst_0 : decode cM_worst 0 = .ok (.aload_n 0, 1) := by decide +kernel
theorem dM_worst_1 : decode cM_worst 1 = .ok (.iconst 0, 1) := by decide +kernel
theorem dM_worst_2 : decode cM_worst 2 = .ok (.putfield 39, 3) := by decide +kernel
theorem dM_worst_5 : decode cM_worst 5 = .ok (.aload_n 0, 1) := by decide +kernel
theorem dM_worst_6 : decode cM_worst 6 = .ok (.iload_n 1, 1) := by decide +kernel
theorem dM_worst_7 : decode cM_worst 7 = .ok (.invokevirtual 69, 3) := by decide +kernel
theorem dM_worst_10 : decode cM_worst 10 = .ok (.ifCond .eq 9, 3) := by decide +kernel
theorem dM_worst_13 : decode cM_worst 13 = .ok (.ldc2_w 72, 3) := by decide +kernel
theorem dM_worst_16 : decode cM_worst 16 = .ok (.goto 20, 3) := by decide +kernel
theorem dM_worst_19 : decode cM_worst 19 = .ok (.iload_n 2, 1) := by decide +kernel
theorem dM_worst_20 : decode cM_worst 20 = .ok (.ifCond .eq 11, 3) := by decide +kernel
theorem dM_worst_23 : decode cM_worst 23 = .ok (.aload_n 0, 1) := by decide +kernel
theorem dM_worst_24 : decode cM_worst 24 = .ok (.iload_n 1, 1) := by decide +kernel
theorem dM_worst_25 : decode cM_worst 25 = .ok (.invokevirtual 74, 3) := by decide +kernel
theorem dM_worst_28 : decode cM_worst 28 = .ok (.goto 8, 3) := by decide +kernel
theorem dM_worst_31 : decode cM_worst 31 = .ok (.aload_n 0, 1) := by decide +kernel
theorem dM_worst_32 : decode cM_worst 32 = .ok (.iload_n 1, 1) := by decide +kernel
theorem dM_worst_33 : decode cM_worst 33 = .ok (.invokevirtual 66, 3) := by decide +kernel
theorem dM_worst_36 : decode cM_worst 36 = .ok (.lreturn, 1) := by decide +kernel
theorem dM_best_0 : decode cM_best 0 = .ok (.aload_n 0, 1) := by decide +kernel
theorem dM_best_1 : decode cM_best 1 = .ok (.iconst 0, 1) := by decide +kernel
theorem dM_best_2 : decode cM_best 2 = .ok (.putfield 39, 3) := by decide +kernel
theorem dM_best_5 : decode cM_best 5 = .ok (.aload_n 0, 1) := by decide +kernel
theorem dM_best_6 : decode cM_best 6 = .ok (.iload_n 1, 1) := by decide +kernel
theorem dM_best_7 : decode cM_best 7 = .ok (.invokevirtual 69, 3) := by decide +kernel
theorem dM_best_10 : decode cM_best 10 = .ok (.ifCond .eq 7, 3) := by decide +kernel
theorem dM_best_13 : decode cM_best 13 = .ok (.ldc2_w 72, 3) := by decide +kernel
theorem dM_best_16 : decode cM_best 16 = .ok (.lreturn, 1) := by decide +kernel
theorem dM_best_17 : decode cM_best 17 = .ok (.lconst 0, 1) := by decide +kernel
theorem dM_best_18 : decode cM_best 18 = .ok (.lstore_n 3, 1) := by decide +kernel
theorem dM_best_19 : decode cM_best 19 = .ok (.iload_n 2, 1) := by decide +kernel
theorem dM_best_20 : decode cM_best 20 = .ok (.ifCond .eq 7, 3) := by decide +kernel
end
section
theorem dM_best_23 : decode cM_best 23 = .ok (.iconst 1, 1) := by decide +kernel
theorem dM_best_24 : decode cM_best 24 = .ok (.goto 4, 3) := by decide +kernel
theorem dM_best_27 : decode cM_best 27 = .ok (.iconst 0, 1) := by decide +kernel
theorem dM_best_28 : decode cM_best 28 = .ok (.istore 5, 2) := by decide +kernel
theorem dM_best_30 : decode cM_best 30 = .ok (.iload 5, 2) := by decide +kernel
theorem dM_best_32 : decode cM_best 32 = .ok (.aload_n 0, 1) := by decide +kernel
theorem dM_best_33 : decode cM_best 33 = .ok (.getfield 30, 3) := by decide +kernel
theorem dM_best_36 : decode cM_best 36 = .ok (.iload_n 1, 1) := by decide +kernel
theorem dM_best_37 : decode cM_best 37 = .ok (.iaload, 1) := by decide +kernel
theorem dM_best_38 : decode cM_best 38 = .ok (.if_icmp .ge 29, 3) := by decide +kernel
theorem dM_best_41 : decode cM_best 41 = .ok (.lload_n 3, 1) := by decide +kernel
theorem dM_best_42 : decode cM_best 42 = .ok (.aload_n 0, 1) := by decide +kernel
theorem dM_best_43 : decode cM_best 43 = .ok (.getfield 13, 3) := by decide +kernel
theorem dM_best_46 : decode cM_best 46 = .ok (.aload_n 0, 1) := by decide +kernel
theorem dM_best_47 : decode cM_best 47 = .ok (.getfield 22, 3) := by decide +kernel
theorem dM_best_50 : decode cM_best 50 = .ok (.bipush 12, 2) := by decide +kernel
theorem dM_best_52 : decode cM_best 52 = .ok (.iload_n 1, 1) := by decide +kernel
theorem dM_best_53 : decode cM_best 53 = .ok (.imul, 1) := by decide +kernel
theorem dM_best_54 : decode cM_best 54 = .ok (.iload 5, 2) := by decide +kernel
theorem dM_best_56 : decode cM_best 56 = .ok (.iadd, 1) := by decide +kernel
theorem dM_best_57 : decode cM_best 57 = .ok (.iaload, 1) := by decide +kernel
theorem dM_best_58 : decode cM_best 58 = .ok (.laload, 1) := by decide +kernel
theorem dM_best_59 : decode cM_best 59 = .ok (.ladd, 1) := by decide +kernel
theorem dM_best_60 : decode cM_best 60 = .ok (.lstore_n 3, 1) := by decide +kernel
theorem dM_best_61 : decode cM_best 61 = .ok (.iinc 5 1, 3) := by decide +kernel
theorem dM_best_64 : decode cM_best 64 = .ok (.goto (-34), 3) := by decide +kernel
theorem dM_best_67 : decode cM_best 67 = .ok (.lload_n 3, 1) := by decide +kernel
theorem dM_best_68 : decode cM_best 68 = .ok (.lreturn, 1) := by decide +kernel
theorem dM_clock_0 : decode cM_clock 0 = .ok (.aload_n 0, 1) := by decide +kernel
theorem dM_clock_1 : decode cM_clock 1 = .ok (.iconst 0, 1) := by decide +kernel
theorem dM_clock_2 : decode cM_clock 2 = .ok (.putfield 39, 3) := by decide +kernel
theorem dM_clock_5 : decode cM_clock 5 = .ok (.aload_n 0, 1) := by decide +kernel
theorem dM_clock_6 : decode cM_clock 6 = .ok (.iload_n 1, 1) := by decide +kernel
theorem dM_clock_7 : decode cM_clock 7 = .ok (.invokevirtual 55, 3) := by decide +kernel
theorem dM_clock_10 : decode cM_clock 10 = .ok (.ifCond .eq 5, 3) := by decide +kernel
theorem dM_clock_13 : decode cM_clock 13 = .ok (.iconst (-1), 1) := by decide +kernel
theorem dM_clock_14 : decode cM_clock 14 = .ok (.ireturn, 1) := by decide +kernel
theorem dM_clock_15 : decode cM_clock 15 = .ok (.lload 4, 2) := by decide +kernel
theorem dM_clock_17 : decode cM_clock 17 = .ok (.lconst 1, 1) := by decide +kernel
theorem dM_clock_18 : decode cM_clock 18 = .ok (.lcmp, 1) := by decide +kernel
theorem dM_clock_19 : decode cM_clock 19 = .ok (.ifCond .lt 27, 3) := by decide +kernel
theorem dM_clock_22 : decode cM_clock 22 = .ok (.lload 4, 2) := by decide +kernel
theorem dM_clock_24 : decode cM_clock 24 = .ok (.ldc2_w 77, 3) := by decide +kernel
theorem dM_clock_27 : decode cM_clock 27 = .ok (.lcmp, 1) := by decide +kernel
theorem dM_clock_28 : decode cM_clock 28 = .ok (.ifCond .gt 18, 3) := by decide +kernel
theorem dM_clock_31 : decode cM_clock 31 = .ok (.lload_n 2, 1) := by decide +kernel
theorem dM_clock_32 : decode cM_clock 32 = .ok (.lconst 0, 1) := by decide +kernel
theorem dM_clock_33 : decode cM_clock 33 = .ok (.lcmp, 1) := by decide +kernel
theorem dM_clock_34 : decode cM_clock 34 = .ok (.ifCond .lt 12, 3) := by decide +kernel
theorem dM_clock_37 : decode cM_clock 37 = .ok (.lload_n 2, 1) := by decide +kernel
theorem dM_clock_38 : decode cM_clock 38 = .ok (.lload 4, 2) := by decide +kernel
theorem dM_clock_40 : decode cM_clock 40 = .ok (.lconst 1, 1) := by decide +kernel
theorem dM_clock_41 : decode cM_clock 41 = .ok (.lsub, 1) := by decide +kernel
theorem dM_clock_42 : decode cM_clock 42 = .ok (.lcmp, 1) := by decide +kernel
theorem dM_clock_43 : decode cM_clock 43 = .ok (.ifCond .le 6, 3) := by decide +kernel
theorem dM_clock_46 : decode cM_clock 46 = .ok (.bipush (-2), 2) := by decide +kernel
theorem dM_clock_48 : decode cM_clock 48 = .ok (.ireturn, 1) := by decide +kernel
theorem dM_clock_49 : decode cM_clock 49 = .ok (.aload_n 0, 1) := by decide +kernel
theorem dM_clock_50 : decode cM_clock 50 = .ok (.getfield 16, 3) := by decide +kernel
theorem dM_clock_53 : decode cM_clock 53 = .ok (.iload_n 1, 1) := by decide +kernel
theorem dM_clock_54 : decode cM_clock 54 = .ok (.lload_n 2, 1) := by decide +kernel
theorem dM_clock_55 : decode cM_clock 55 = .ok (.lastore, 1) := by decide +kernel
theorem dM_clock_56 : decode cM_clock 56 = .ok (.aload_n 0, 1) := by decide +kernel
theorem dM_clock_57 : decode cM_clock 57 = .ok (.getfield 19, 3) := by decide +kernel
theorem dM_clock_60 : decode cM_clock 60 = .ok (.iload_n 1, 1) := by decide +kernel
theorem dM_clock_61 : decode cM_clock 61 = .ok (.lload 4, 2) := by decide +kernel
theorem dM_clock_63 : decode cM_clock 63 = .ok (.lastore, 1) := by decide +kernel
theorem dM_clock_64 : decode cM_clock 64 = .ok (.aload_n 0, 1) := by decide +kernel
theorem dM_clock_65 : decode cM_clock 65 = .ok (.iload_n 1, 1) := by decide +kernel
theorem dM_clock_66 : decode cM_clock 66 = .ok (.invokevirtual 58, 3) := by decide +kernel
theorem dM_clock_69 : decode cM_clock 69 = .ok (.l2i, 1) := by decide +kernel
theorem dM_clock_70 : decode cM_clock 70 = .ok (.ireturn, 1) := by decide +kernel
theorem dM_wish_0 : decode cM_wish 0 = .ok (.aload_n 0, 1) := by decide +kernel
theorem dM_wish_1 : decode cM_wish 1 = .ok (.iconst 0, 1) := by decide +kernel
theorem dM_wish_2 : decode cM_wish 2 = .ok (.putfield 39, 3) := by decide +kernel
theorem dM_wish_5 : decode cM_wish 5 = .ok (.aload_n 0, 1) := by decide +kernel
theorem dM_wish_6 : decode cM_wish 6 = .ok (.iload_n 1, 1) := by decide +kernel
theorem dM_wish_7 : decode cM_wish 7 = .ok (.invokevirtual 69, 3) := by decide +kernel
theorem dM_wish_10 : decode cM_wish 10 = .ok (.ifCond .eq 5, 3) := by decide +kernel
theorem dM_wish_13 : decode cM_wish 13 = .ok (.iconst (-1), 1) := by decide +kernel
theorem dM_wish_14 : decode cM_wish 14 = .ok (.ireturn, 1) := by decide +kernel
theorem dM_wish_15 : decode cM_wish 15 = .ok (.lload_n 2, 1) := by decide +kernel
theorem dM_wish_16 : decode cM_wish 16 = .ok (.lconst 0, 1) := by decide +kernel
theorem dM_wish_17 : decode cM_wish 17 = .ok (.lcmp, 1) := by decide +kernel
theorem dM_wish_18 : decode cM_wish 18 = .ok (.ifCond .ge 6, 3) := by decide +kernel
theorem dM_wish_21 : decode cM_wish 21 = .ok (.bipush (-2), 2) := by decide +kernel
theorem dM_wish_23 : decode cM_wish 23 = .ok (.ireturn, 1) := by decide +kernel
theorem dM_wish_24 : decode cM_wish 24 = .ok (.aload_n 0, 1) := by decide +kernel
theorem dM_wish_25 : decode cM_wish 25 = .ok (.getfield 33, 3) := by decide +kernel
theorem dM_wish_28 : decode cM_wish 28 = .ok (.iload_n 1, 1) := by decide +kernel
theorem dM_wish_29 : decode cM_wish 29 = .ok (.iconst 1, 1) := by decide +kernel
theorem dM_wish_30 : decode cM_wish 30 = .ok (.bastore, 1) := by decide +kernel
theorem dM_wish_31 : decode cM_wish 31 = .ok (.aload_n 0, 1) := by decide +kernel
theorem dM_wish_32 : decode cM_wish 32 = .ok (.getfield 36, 3) := by decide +kernel
theorem dM_wish_35 : decode cM_wish 35 = .ok (.iload_n 1, 1) := by decide +kernel
theorem dM_wish_36 : decode cM_wish 36 = .ok (.lload_n 2, 1) := by decide +kernel
theorem dM_wish_37 : decode cM_wish 37 = .ok (.lastore, 1) := by decide +kernel
theorem dM_wish_38 : decode cM_wish 38 = .ok (.aload_n 0, 1) := by decide +kernel
theorem dM_wish_39 : decode cM_wish 39 = .ok (.iload_n 1, 1) := by decide +kernel
theorem dM_wish_40 : decode cM_wish 40 = .ok (.invokevirtual 66, 3) := by decide +kernel
theorem dM_wish_43 : decode cM_wish 43 = .ok (.lload_n 2, 1) := by decide +kernel
theorem dM_wish_44 : decode cM_wish 44 = .ok (.lcmp, 1) := by decide +kernel
theorem dM_wish_45 : decode cM_wish 45 = .ok (.ifCond .gt 7, 3) := by decide +kernel
theorem dM_wish_48 : decode cM_wish 48 = .ok (.iconst 1, 1) := by decide +kernel
theorem dM_wish_49 : decode cM_wish 49 = .ok (.goto 4, 3) := by decide +kernel
theorem dM_wish_52 : decode cM_wish 52 = .ok (.iconst 0, 1) := by decide +kernel
theorem dM_wish_53 : decode cM_wish 53 = .ok (.ireturn, 1) := by decide +kernel
theorem dM_share_0 : decode cM_share 0 = .ok (.aload_n 0, 1) := by decide +kernel
theorem dM_share_1 : decode cM_share 1 = .ok (.iconst 0, 1) := by decide +kernel
theorem dM_share_2 : decode cM_share 2 = .ok (.putfield 39, 3) := by decide +kernel
theorem dM_share_5 : decode cM_share 5 = .ok (.iload_n 2, 1) := by decide +kernel
theorem dM_share_6 : decode cM_share 6 = .ok (.iconst (-1), 1) := by decide +kernel
theorem dM_share_7 : decode cM_share 7 = .ok (.if_icmp .ne 60, 3) := by decide +kernel
theorem dM_share_10 : decode cM_share 10 = .ok (.iconst 0, 1) := by decide +kernel
theorem dM_share_11 : decode cM_share 11 = .ok (.istore_n 3, 1) := by decide +kernel
theorem dM_share_12 : decode cM_share 12 = .ok (.iconst 1, 1) := by decide +kernel
theorem dM_share_13 : decode cM_share 13 = .ok (.istore 4, 2) := by decide +kernel
theorem dM_share_15 : decode cM_share 15 = .ok (.iload 4, 2) := by decide +kernel
theorem dM_share_17 : decode cM_share 17 = .ok (.aload_n 0, 1) := by decide +kernel
theorem dM_share_18 : decode cM_share 18 = .ok (.getfield 48, 3) := by decide +kernel
theorem dM_share_21 : decode cM_share 21 = .ok (.if_icmp .gt 44, 3) := by decide +kernel
theorem dM_share_24 : decode cM_share 24 = .ok (.aload_n 0, 1) := by decide +kernel
theorem dM_share_25 : decode cM_share 25 = .ok (.getfield 33, 3) := by decide +kernel
theorem dM_share_28 : decode cM_share 28 = .ok (.iload 4, 2) := by decide +kernel
theorem dM_share_30 : decode cM_share 30 = .ok (.baload, 1) := by decide +kernel
theorem dM_share_31 : decode cM_share 31 = .ok (.ifCond .eq 26, 3) := by decide +kernel
theorem dM_share_34 : decode cM_share 34 = .ok (.aload_n 0, 1) := by decide +kernel
theorem dM_share_35 : decode cM_share 35 = .ok (.iload 4, 2) := by decide +kernel
theorem dM_share_37 : decode cM_share 37 = .ok (.invokevirtual 66, 3) := by decide +kernel
theorem dM_share_40 : decode cM_share 40 = .ok (.aload_n 0, 1) := by decide +kernel
theorem dM_share_41 : decode cM_share 41 = .ok (.getfield 36, 3) := by decide +kernel
theorem dM_share_44 : decode cM_share 44 = .ok (.iload 4, 2) := by decide +kernel
theorem dM_share_46 : decode cM_share 46 = .ok (.laload, 1) := by decide +kernel
theorem dM_share_47 : decode cM_share 47 = .ok (.lcmp, 1) := by decide +kernel
theorem dM_share_48 : decode cM_share 48 = .ok (.ifCond .gt 9, 3) := by decide +kernel
theorem dM_share_51 : decode cM_share 51 = .ok (.iload_n 3, 1) := by decide +kernel
theorem dM_share_52 : decode cM_share 52 = .ok (.iconst 1, 1) := by decide +kernel
theorem dM_share_53 : decode cM_share 53 = .ok (.iadd, 1) := by decide +kernel
theorem dM_share_54 : decode cM_share 54 = .ok (.goto 4, 3) := by decide +kernel
theorem dM_share_57 : decode cM_share 57 = .ok (.iload_n 3, 1) := by decide +kernel
theorem dM_share_58 : decode cM_share 58 = .ok (.istore_n 3, 1) := by decide +kernel
theorem dM_share_59 : decode cM_share 59 = .ok (.iinc 4 1, 3) := by decide +kernel
theorem dM_share_62 : decode cM_share 62 = .ok (.goto (-47), 3) := by decide +kernel
theorem dM_share_65 : decode cM_share 65 = .ok (.iload_n 3, 1) := by decide +kernel
theorem dM_share_66 : decode cM_share 66 = .ok (.ireturn, 1) := by decide +kernel
theorem dM_share_67 : decode cM_share 67 = .ok (.aload_n 0, 1) := by decide +kernel
theorem dM_share_68 : decode cM_share 68 = .ok (.iload_n 1, 1) := by decide +kernel
theorem dM_share_69 : decode cM_share 69 = .ok (.invokevirtual 51, 3) := by decide +kernel
theorem dM_share_72 : decode cM_share 72 = .ok (.ifCond .ne 27, 3) := by decide +kernel
theorem dM_share_75 : decode cM_share 75 = .ok (.iload_n 2, 1) := by decide +kernel
theorem dM_share_76 : decode cM_share 76 = .ok (.ifCond .lt 23, 3) := by decide +kernel
theorem dM_share_79 : decode cM_share 79 = .ok (.iload_n 2, 1) := by decide +kernel
theorem dM_share_80 : decode cM_share 80 = .ok (.aload_n 0, 1) := by decide +kernel
theorem dM_share_81 : decode cM_share 81 = .ok (.getfield 30, 3) := by decide +kernel
theorem dM_share_84 : decode cM_share 84 = .ok (.iload_n 1, 1) := by decide +kernel
theorem dM_share_85 : decode cM_share 85 = .ok (.iaload, 1) := by decide +kernel
theorem dM_share_86 : decode cM_share 86 = .ok (.if_icmp .ge 13, 3) := by decide +kernel
theorem dM_share_89 : decode cM_share 89 = .ok (.aload_n 0, 1) := by decide +kernel
theorem dM_share_90 : decode cM_share 90 = .ok (.iload_n 1, 1) := by decide +kernel
theorem dM_share_91 : decode cM_share 91 = .ok (.invokevirtual 66, 3) := by decide +kernel
theorem dM_share_94 : decode cM_share 94 = .ok (.lconst 0, 1) := by decide +kernel
theorem dM_share_95 : decode cM_share 95 = .ok (.lcmp, 1) := by decide +kernel
theorem dM_share_96 : decode cM_share 96 = .ok (.ifCond .ne 5, 3) := by decide +kernel
theorem dM_share_99 : decode cM_share 99 = .ok (.iconst (-1), 1) := by decide +kernel
theorem dM_share_100 : decode cM_share 100 = .ok (.ireturn, 1) := by decide +kernel
theorem dM_share_101 : decode cM_share 101 = .ok (.ldc2_w 79, 3) := by decide +kernel
theorem dM_share_104 : decode cM_share 104 = .ok (.aload_n 0, 1) := by decide +kernel
theorem dM_share_105 : decode cM_share 105 = .ok (.iload_n 1, 1) := by decide +kernel
theorem dM_share_106 : decode cM_share 106 = .ok (.iload_n 2, 1) := by decide +kernel
theorem dM_share_107 : decode cM_share 107 = .ok (.invokevirtual 62, 3) := by decide +kernel
theorem dM_share_110 : decode cM_share 110 = .ok (.lmul, 1) := by decide +kernel
theorem dM_share_111 : decode cM_share 111 = .ok (.aload_n 0, 1) := by decide +kernel
theorem dM_share_112 : decode cM_share 112 = .ok (.iload_n 1, 1) := by decide +kernel
theorem dM_share_113 : decode cM_share 113 = .ok (.invokevirtual 66, 3) := by decide +kernel
theorem dM_share_116 : decode cM_share 116 = .ok (.ldiv, 1) := by decide +kernel
theorem dM_share_117 : decode cM_share 117 = .ok (.l2i, 1) := by decide +kernel
theorem dM_share_118 : decode cM_share 118 = .ok (.ireturn, 1) := by decide +kernel
theorem dM_divisor_0 : decode cM_divisor 0 = .ok (.lload_n 0, 1) := by decide +kernel
theorem dM_divisor_1 : decode cM_divisor 1 = .ok (.lstore 4, 2) := by decide +kernel
theorem dM_divisor_3 : decode cM_divisor 3 = .ok (.lload_n 2, 1) := by decide +kernel
theorem dM_divisor_4 : decode cM_divisor 4 = .ok (.lstore 6, 2) := by decide +kernel
theorem dM_divisor_6 : decode cM_divisor 6 = .ok (.lload 6, 2) := by decide +kernel
theorem dM_divisor_8 : decode cM_divisor 8 = .ok (.lconst 0, 1) := by decide +kernel
theorem dM_divisor_9 : decode cM_divisor 9 = .ok (.lcmp, 1) := by decide +kernel
theorem dM_divisor_10 : decode cM_divisor 10 = .ok (.ifCond .eq 21, 3) := by decide +kernel
theorem dM_divisor_13 : decode cM_divisor 13 = .ok (.lload 4, 2) := by decide +kernel
theorem dM_divisor_15 : decode cM_divisor 15 = .ok (.lload 6, 2) := by decide +kernel
theorem dM_divisor_17 : decode cM_divisor 17 = .ok (.lrem, 1) := by decide +kernel
theorem dM_divisor_18 : decode cM_divisor 18 = .ok (.lstore 8, 2) := by decide +kernel
theorem dM_divisor_20 : decode cM_divisor 20 = .ok (.lload 6, 2) := by decide +kernel
theorem dM_divisor_22 : decode cM_divisor 22 = .ok (.lstore 4, 2) := by decide +kernel
theorem dM_divisor_24 : decode cM_divisor 24 = .ok (.lload 8, 2) := by decide +kernel
theorem dM_divisor_26 : decode cM_divisor 26 = .ok (.lstore 6, 2) := by decide +kernel
theorem dM_divisor_28 : decode cM_divisor 28 = .ok (.goto (-22), 3) := by decide +kernel
theorem dM_divisor_31 : decode cM_divisor 31 = .ok (.lload 4, 2) := by decide +kernel
theorem dM_divisor_33 : decode cM_divisor 33 = .ok (.lreturn, 1) := by decide +kernel
theorem dM_cycle_0 : decode cM_cycle 0 = .ok (.aload_n 0, 1) := by decide +kernel
theorem dM_cycle_1 : decode cM_cycle 1 = .ok (.iconst 0, 1) := by decide +kernel
theorem dM_cycle_2 : decode cM_cycle 2 = .ok (.putfield 39, 3) := by decide +kernel
theorem dM_cycle_5 : decode cM_cycle 5 = .ok (.aload_n 0, 1) := by decide +kernel
theorem dM_cycle_6 : decode cM_cycle 6 = .ok (.iload_n 1, 1) := by decide +kernel
theorem dM_cycle_7 : decode cM_cycle 7 = .ok (.invokevirtual 69, 3) := by decide +kernel
theorem dM_cycle_10 : decode cM_cycle 10 = .ok (.ifCond .eq 7, 3) := by decide +kernel
theorem dM_cycle_13 : decode cM_cycle 13 = .ok (.ldc2_w 72, 3) := by decide +kernel
theorem dM_cycle_16 : decode cM_cycle 16 = .ok (.lreturn, 1) := by decide +kernel
theorem dM_cycle_17 : decode cM_cycle 17 = .ok (.iconst 0, 1) := by decide +kernel
theorem dM_cycle_18 : decode cM_cycle 18 = .ok (.istore_n 2, 1) := by decide +kernel
theorem dM_cycle_19 : decode cM_cycle 19 = .ok (.iload_n 2, 1) := by decide +kernel
theorem dM_cycle_20 : decode cM_cycle 20 = .ok (.aload_n 0, 1) := by decide +kernel
theorem dM_cycle_21 : decode cM_cycle 21 = .ok (.getfield 30, 3) := by decide +kernel
theorem dM_cycle_24 : decode cM_cycle 24 = .ok (.iload_n 1, 1) := by decide +kernel
theorem dM_cycle_25 : decode cM_cycle 25 = .ok (.iaload, 1) := by decide +kernel
theorem dM_cycle_26 : decode cM_cycle 26 = .ok (.if_icmp .ge 42, 3) := by decide +kernel
theorem dM_cycle_29 : decode cM_cycle 29 = .ok (.aload_n 0, 1) := by decide +kernel
theorem dM_cycle_30 : decode cM_cycle 30 = .ok (.aload_n 0, 1) := by decide +kernel
theorem dM_cycle_31 : decode cM_cycle 31 = .ok (.getfield 7, 3) := by decide +kernel
theorem dM_cycle_34 : decode cM_cycle 34 = .ok (.aload_n 0, 1) := by decide +kernel
theorem dM_cycle_35 : decode cM_cycle 35 = .ok (.getfield 22, 3) := by decide +kernel
theorem dM_cycle_38 : decode cM_cycle 38 = .ok (.bipush 12, 2) := by decide +kernel
theorem dM_cycle_40 : decode cM_cycle 40 = .ok (.iload_n 1, 1) := by decide +kernel
theorem dM_cycle_41 : decode cM_cycle 41 = .ok (.imul, 1) := by decide +kernel
theorem dM_cycle_42 : decode cM_cycle 42 = .ok (.iload_n 2, 1) := by decide +kernel
theorem dM_cycle_43 : decode cM_cycle 43 = .ok (.iadd, 1) := by decide +kernel
theorem dM_cycle_44 : decode cM_cycle 44 = .ok (.iaload, 1) := by decide +kernel
theorem dM_cycle_45 : decode cM_cycle 45 = .ok (.laload, 1) := by decide +kernel
theorem dM_cycle_46 : decode cM_cycle 46 = .ok (.lconst 0, 1) := by decide +kernel
theorem dM_cycle_47 : decode cM_cycle 47 = .ok (.lcmp, 1) := by decide +kernel
theorem dM_cycle_48 : decode cM_cycle 48 = .ok (.ifCond .ne 7, 3) := by decide +kernel
theorem dM_cycle_51 : decode cM_cycle 51 = .ok (.iconst 1, 1) := by decide +kernel
theorem dM_cycle_52 : decode cM_cycle 52 = .ok (.goto 7, 3) := by decide +kernel
theorem dM_cycle_55 : decode cM_cycle 55 = .ok (.aload_n 0, 1) := by decide +kernel
theorem dM_cycle_56 : decode cM_cycle 56 = .ok (.getfield 39, 3) := by decide +kernel
theorem dM_cycle_59 : decode cM_cycle 59 = .ok (.putfield 39, 3) := by decide +kernel
theorem dM_cycle_62 : decode cM_cycle 62 = .ok (.iinc 2 1, 3) := by decide +kernel
theorem dM_cycle_65 : decode cM_cycle 65 = .ok (.goto (-46), 3) := by decide +kernel
theorem dM_cycle_68 : decode cM_cycle 68 = .ok (.aload_n 0, 1) := by decide +kernel
theorem dM_cycle_69 : decode cM_cycle 69 = .ok (.getfield 39, 3) := by decide +kernel
theorem dM_cycle_72 : decode cM_cycle 72 = .ok (.ifCond .le 7, 3) := by decide +kernel
theorem dM_cycle_75 : decode cM_cycle 75 = .ok (.lconst 0, 1) := by decide +kernel
theorem dM_cycle_76 : decode cM_cycle 76 = .ok (.goto 12, 3) := by decide +kernel
theorem dM_cycle_79 : decode cM_cycle 79 = .ok (.aload_n 0, 1) := by decide +kernel
theorem dM_cycle_80 : decode cM_cycle 80 = .ok (.iload_n 1, 1) := by decide +kernel
theorem dM_cycle_81 : decode cM_cycle 81 = .ok (.iconst 1, 1) := by decide +kernel
theorem dM_cycle_82 : decode cM_cycle 82 = .ok (.ldc2_w 81, 3) := by decide +kernel
theorem dM_cycle_85 : decode cM_cycle 85 = .ok (.invokevirtual 83, 3) := by decide +kernel
theorem dM_cycle_88 : decode cM_cycle 88 = .ok (.lreturn, 1) := by decide +kernel
theorem dM_common_0 : decode cM_common 0 = .ok (.lconst 1, 1) := by decide +kernel
theorem dM_common_1 : decode cM_common 1 = .ok (.lstore 5, 2) := by decide +kernel
theorem dM_common_3 : decode cM_common 3 = .ok (.iconst 0, 1) := by decide +kernel
theorem dM_common_4 : decode cM_common 4 = .ok (.istore 7, 2) := by decide +kernel
theorem dM_common_6 : decode cM_common 6 = .ok (.iload 7, 2) := by decide +kernel
theorem dM_common_8 : decode cM_common 8 = .ok (.aload_n 0, 1) := by decide +kernel
theorem dM_common_9 : decode cM_common 9 = .ok (.getfield 30, 3) := by decide +kernel
theorem dM_common_12 : decode cM_common 12 = .ok (.iload_n 1, 1) := by decide +kernel
theorem dM_common_13 : decode cM_common 13 = .ok (.iaload, 1) := by decide +kernel
theorem dM_common_14 : decode cM_common 14 = .ok (.if_icmp .ge 86, 3) := by decide +kernel
theorem dM_common_17 : decode cM_common 17 = .ok (.aload_n 0, 1) := by decide +kernel
theorem dM_common_18 : decode cM_common 18 = .ok (.getfield 7, 3) := by decide +kernel
theorem dM_common_21 : decode cM_common 21 = .ok (.aload_n 0, 1) := by decide +kernel
theorem dM_common_22 : decode cM_common 22 = .ok (.getfield 22, 3) := by decide +kernel
theorem dM_common_25 : decode cM_common 25 = .ok (.bipush 12, 2) := by decide +kernel
theorem dM_common_27 : decode cM_common 27 = .ok (.iload_n 1, 1) := by decide +kernel
theorem dM_common_28 : decode cM_common 28 = .ok (.imul, 1) := by decide +kernel
theorem dM_common_29 : decode cM_common 29 = .ok (.iload 7, 2) := by decide +kernel
theorem dM_common_31 : decode cM_common 31 = .ok (.iadd, 1) := by decide +kernel
theorem dM_common_32 : decode cM_common 32 = .ok (.iaload, 1) := by decide +kernel
theorem dM_common_33 : decode cM_common 33 = .ok (.laload, 1) := by decide +kernel
theorem dM_common_34 : decode cM_common 34 = .ok (.lstore 8, 2) := by decide +kernel
theorem dM_common_36 : decode cM_common 36 = .ok (.iload_n 2, 1) := by decide +kernel
theorem dM_common_37 : decode cM_common 37 = .ok (.ifCond .ne 18, 3) := by decide +kernel
theorem dM_common_40 : decode cM_common 40 = .ok (.aload_n 0, 1) := by decide +kernel
theorem dM_common_41 : decode cM_common 41 = .ok (.getfield 26, 3) := by decide +kernel
theorem dM_common_44 : decode cM_common 44 = .ok (.bipush 12, 2) := by decide +kernel
theorem dM_common_46 : decode cM_common 46 = .ok (.iload_n 1, 1) := by decide +kernel
theorem dM_common_47 : decode cM_common 47 = .ok (.imul, 1) := by decide +kernel
theorem dM_common_48 : decode cM_common 48 = .ok (.iload 7, 2) := by decide +kernel
theorem dM_common_50 : decode cM_common 50 = .ok (.iadd, 1) := by decide +kernel
theorem dM_common_51 : decode cM_common 51 = .ok (.baload, 1) := by decide +kernel
theorem dM_common_52 : decode cM_common 52 = .ok (.ifCond .ne 42, 3) := by decide +kernel
theorem dM_common_55 : decode cM_common 55 = .ok (.lload 5, 2) := by decide +kernel
theorem dM_common_57 : decode cM_common 57 = .ok (.lload 5, 2) := by decide +kernel
theorem dM_common_59 : decode cM_common 59 = .ok (.lload 8, 2) := by decide +kernel
theorem dM_common_61 : decode cM_common 61 = .ok (.invokestatic 87, 3) := by decide +kernel
theorem dM_common_64 : decode cM_common 64 = .ok (.ldiv, 1) := by decide +kernel
theorem dM_common_65 : decode cM_common 65 = .ok (.lload 8, 2) := by decide +kernel
theorem dM_common_67 : decode cM_common 67 = .ok (.lmul, 1) := by decide +kernel
theorem dM_common_68 : decode cM_common 68 = .ok (.lstore 5, 2) := by decide +kernel
theorem dM_common_70 : decode cM_common 70 = .ok (.lload 5, 2) := by decide +kernel
theorem dM_common_72 : decode cM_common 72 = .ok (.lload_n 3, 1) := by decide +kernel
theorem dM_common_73 : decode cM_common 73 = .ok (.lcmp, 1) := by decide +kernel
theorem dM_common_74 : decode cM_common 74 = .ok (.ifCond .le 7, 3) := by decide +kernel
theorem dM_common_77 : decode cM_common 77 = .ok (.lload_n 3, 1) := by decide +kernel
theorem dM_common_78 : decode cM_common 78 = .ok (.goto 5, 3) := by decide +kernel
theorem dM_common_81 : decode cM_common 81 = .ok (.lload 5, 2) := by decide +kernel
theorem dM_common_83 : decode cM_common 83 = .ok (.lstore 5, 2) := by decide +kernel
theorem dM_common_85 : decode cM_common 85 = .ok (.lload 5, 2) := by decide +kernel
theorem dM_common_87 : decode cM_common 87 = .ok (.lload_n 3, 1) := by decide +kernel
theorem dM_common_88 : decode cM_common 88 = .ok (.lcmp, 1) := by decide +kernel
theorem dM_common_89 : decode cM_common 89 = .ok (.ifCond .ne 5, 3) := by decide +kernel
theorem dM_common_92 : decode cM_common 92 = .ok (.lload_n 3, 1) := by decide +kernel
theorem dM_common_93 : decode cM_common 93 = .ok (.lreturn, 1) := by decide +kernel
theorem dM_common_94 : decode cM_common 94 = .ok (.iinc 7 1, 3) := by decide +kernel
theorem dM_common_97 : decode cM_common 97 = .ok (.goto (-91), 3) := by decide +kernel
theorem dM_common_100 : decode cM_common 100 = .ok (.lload 5, 2) := by decide +kernel
theorem dM_common_102 : decode cM_common 102 = .ok (.lreturn, 1) := by decide +kernel
theorem dM_isPlain_0 : decode cM_isPlain 0 = .ok (.iconst 1, 1) := by decide +kernel
theorem dM_isPlain_1 : decode cM_isPlain 1 = .ok (.istore_n 2, 1) := by decide +kernel
theorem dM_isPlain_2 : decode cM_isPlain 2 = .ok (.iconst 0, 1) := by decide +kernel
theorem dM_isPlain_3 : decode cM_isPlain 3 = .ok (.istore_n 3, 1) := by decide +kernel
theorem dM_isPlain_4 : decode cM_isPlain 4 = .ok (.iload_n 3, 1) := by decide +kernel
theorem dM_isPlain_5 : decode cM_isPlain 5 = .ok (.aload_n 0, 1) := by decide +kernel
theorem dM_isPlain_6 : decode cM_isPlain 6 = .ok (.getfield 30, 3) := by decide +kernel
theorem dM_isPlain_9 : decode cM_isPlain 9 = .ok (.iload_n 1, 1) := by decide +kernel
theorem dM_isPlain_10 : decode cM_isPlain 10 = .ok (.iaload, 1) := by decide +kernel
theorem dM_isPlain_11 : decode cM_isPlain 11 = .ok (.if_icmp .ge 40, 3) := by decide +kernel
theorem dM_isPlain_14 : decode cM_isPlain 14 = .ok (.iload_n 2, 1) := by decide +kernel
theorem dM_isPlain_15 : decode cM_isPlain 15 = .ok (.ifCond .eq 28, 3) := by decide +kernel
theorem dM_isPlain_18 : decode cM_isPlain 18 = .ok (.aload_n 0, 1) := by decide +kernel
theorem dM_isPlain_19 : decode cM_isPlain 19 = .ok (.getfield 16, 3) := by decide +kernel
theorem dM_isPlain_22 : decode cM_isPlain 22 = .ok (.aload_n 0, 1) := by decide +kernel
theorem dM_isPlain_23 : decode cM_isPlain 23 = .ok (.getfield 22, 3) := by decide +kernel
theorem dM_isPlain_26 : decode cM_isPlain 26 = .ok (.bipush 12, 2) := by decide +kernel
theorem dM_isPlain_28 : decode cM_isPlain 28 = .ok (.iload_n 1, 1) := by decide +kernel
theorem dM_isPlain_29 : decode cM_isPlain 29 = .ok (.imul, 1) := by decide +kernel
theorem dM_isPlain_30 : decode cM_isPlain 30 = .ok (.iload_n 3, 1) := by decide +kernel
theorem dM_isPlain_31 : decode cM_isPlain 31 = .ok (.iadd, 1) := by decide +kernel
theorem dM_isPlain_32 : decode cM_isPlain 32 = .ok (.iaload, 1) := by decide +kernel
theorem dM_isPlain_33 : decode cM_isPlain 33 = .ok (.laload, 1) := by decide +kernel
theorem dM_isPlain_34 : decode cM_isPlain 34 = .ok (.lconst 0, 1) := by decide +kernel
theorem dM_isPlain_35 : decode cM_isPlain 35 = .ok (.lcmp, 1) := by decide +kernel
theorem dM_isPlain_36 : decode cM_isPlain 36 = .ok (.ifCond .ne 7, 3) := by decide +kernel
theorem dM_isPlain_39 : decode cM_isPlain 39 = .ok (.iconst 1, 1) := by decide +kernel
theorem dM_isPlain_40 : decode cM_isPlain 40 = .ok (.goto 4, 3) := by decide +kernel
theorem dM_isPlain_43 : decode cM_isPlain 43 = .ok (.iconst 0, 1) := by decide +kernel
theorem dM_isPlain_44 : decode cM_isPlain 44 = .ok (.istore_n 2, 1) := by decide +kernel
theorem dM_isPlain_45 : decode cM_isPlain 45 = .ok (.iinc 3 1, 3) := by decide +kernel
theorem dM_isPlain_48 : decode cM_isPlain 48 = .ok (.goto (-44), 3) := by decide +kernel
theorem dM_isPlain_51 : decode cM_isPlain 51 = .ok (.iload_n 2, 1) := by decide +kernel
theorem dM_isPlain_52 : decode cM_isPlain 52 = .ok (.ifCond .eq 23, 3) := by decide +kernel
theorem dM_isPlain_55 : decode cM_isPlain 55 = .ok (.aload_n 0, 1) := by decide +kernel
theorem dM_isPlain_56 : decode cM_isPlain 56 = .ok (.iload_n 1, 1) := by decide +kernel
theorem dM_isPlain_57 : decode cM_isPlain 57 = .ok (.iconst 0, 1) := by decide +kernel
theorem dM_isPlain_58 : decode cM_isPlain 58 = .ok (.ldc2_w 91, 3) := by decide +kernel
theorem dM_isPlain_61 : decode cM_isPlain 61 = .ok (.invokevirtual 83, 3) := by decide +kernel
theorem dM_isPlain_64 : decode cM_isPlain 64 = .ok (.ldc2_w 43, 3) := by decide +kernel
theorem dM_isPlain_67 : decode cM_isPlain 67 = .ok (.lcmp, 1) := by decide +kernel
theorem dM_isPlain_68 : decode cM_isPlain 68 = .ok (.ifCond .gt 7, 3) := by decide +kernel
theorem dM_isPlain_71 : decode cM_isPlain 71 = .ok (.iconst 1, 1) := by decide +kernel
theorem dM_isPlain_72 : decode cM_isPlain 72 = .ok (.goto 4, 3) := by decide +kernel
theorem dM_isPlain_75 : decode cM_isPlain 75 = .ok (.iconst 0, 1) := by decide +kernel
theorem dM_isPlain_76 : decode cM_isPlain 76 = .ok (.ireturn, 1) := by decide +kernel
theorem dM_stepped_0 : decode cM_stepped 0 = .ok (.aload_n 0, 1) := by decide +kernel
theorem dM_stepped_1 : decode cM_stepped 1 = .ok (.iconst 0, 1) := by decide +kernel
theorem dM_stepped_2 : decode cM_stepped 2 = .ok (.putfield 39, 3) := by decide +kernel
theorem dM_stepped_5 : decode cM_stepped 5 = .ok (.aload_n 0, 1) := by decide +kernel
theorem dM_stepped_6 : decode cM_stepped 6 = .ok (.iload_n 1, 1) := by decide +kernel
theorem dM_stepped_7 : decode cM_stepped 7 = .ok (.invokevirtual 69, 3) := by decide +kernel
theorem dM_stepped_10 : decode cM_stepped 10 = .ok (.ifCond .eq 7, 3) := by decide +kernel
theorem dM_stepped_13 : decode cM_stepped 13 = .ok (.ldc2_w 72, 3) := by decide +kernel
theorem dM_stepped_16 : decode cM_stepped 16 = .ok (.lreturn, 1) := by decide +kernel
theorem dM_stepped_17 : decode cM_stepped 17 = .ok (.aload_n 0, 1) := by decide +kernel
theorem dM_stepped_18 : decode cM_stepped 18 = .ok (.iload_n 1, 1) := by decide +kernel
theorem dM_stepped_19 : decode cM_stepped 19 = .ok (.invokevirtual 93, 3) := by decide +kernel
theorem dM_stepped_22 : decode cM_stepped 22 = .ok (.ifCond .ne 9, 3) := by decide +kernel
theorem dM_stepped_25 : decode cM_stepped 25 = .ok (.aload_n 0, 1) := by decide +kernel
theorem dM_stepped_26 : decode cM_stepped 26 = .ok (.iload_n 1, 1) := by decide +kernel
theorem dM_stepped_27 : decode cM_stepped 27 = .ok (.invokevirtual 66, 3) := by decide +kernel
theorem dM_stepped_30 : decode cM_stepped 30 = .ok (.lreturn, 1) := by decide +kernel
theorem dM_stepped_31 : decode cM_stepped 31 = .ok (.aload_n 0, 1) := by decide +kernel
theorem dM_stepped_32 : decode cM_stepped 32 = .ok (.iload_n 1, 1) := by decide +kernel
theorem dM_stepped_33 : decode cM_stepped 33 = .ok (.iconst 0, 1) := by decide +kernel
theorem dM_stepped_34 : decode cM_stepped 34 = .ok (.ldc2_w 91, 3) := by decide +kernel
theorem dM_stepped_37 : decode cM_stepped 37 = .ok (.invokevirtual 83, 3) := by decide +kernel
theorem dM_stepped_40 : decode cM_stepped 40 = .ok (.lstore_n 2, 1) := by decide +kernel
theorem dM_stepped_41 : decode cM_stepped 41 = .ok (.lconst 0, 1) := by decide +kernel
theorem dM_stepped_42 : decode cM_stepped 42 = .ok (.lstore 4, 2) := by decide +kernel
theorem dM_stepped_44 : decode cM_stepped 44 = .ok (.lconst 0, 1) := by decide +kernel
theorem dM_stepped_45 : decode cM_stepped 45 = .ok (.lstore 6, 2) := by decide +kernel
theorem dM_stepped_47 : decode cM_stepped 47 = .ok (.lload 6, 2) := by decide +kernel
theorem dM_stepped_49 : decode cM_stepped 49 = .ok (.lload_n 2, 1) := by decide +kernel
theorem dM_stepped_50 : decode cM_stepped 50 = .ok (.lcmp, 1) := by decide +kernel
theorem dM_stepped_51 : decode cM_stepped 51 = .ok (.ifCond .ge 135, 3) := by decide +kernel
theorem dM_stepped_54 : decode cM_stepped 54 = .ok (.lload 6, 2) := by decide +kernel
theorem dM_stepped_56 : decode cM_stepped 56 = .ok (.lstore 8, 2) := by decide +kernel
theorem dM_stepped_58 : decode cM_stepped 58 = .ok (.iconst 0, 1) := by decide +kernel
theorem dM_stepped_59 : decode cM_stepped 59 = .ok (.istore 10, 2) := by decide +kernel
theorem dM_stepped_61 : decode cM_stepped 61 = .ok (.iload 10, 2) := by decide +kernel
theorem dM_stepped_63 : decode cM_stepped 63 = .ok (.aload_n 0, 1) := by decide +kernel
theorem dM_stepped_64 : decode cM_stepped 64 = .ok (.getfield 30, 3) := by decide +kernel
theorem dM_stepped_67 : decode cM_stepped 67 = .ok (.iload_n 1, 1) := by decide +kernel
theorem dM_stepped_68 : decode cM_stepped 68 = .ok (.iaload, 1) := by decide +kernel
theorem dM_stepped_69 : decode cM_stepped 69 = .ok (.if_icmp .ge 85, 3) := by decide +kernel
theorem dM_stepped_72 : decode cM_stepped 72 = .ok (.aload_n 0, 1) := by decide +kernel
theorem dM_stepped_73 : decode cM_stepped 73 = .ok (.getfield 22, 3) := by decide +kernel
theorem dM_stepped_76 : decode cM_stepped 76 = .ok (.bipush 12, 2) := by decide +kernel
theorem dM_stepped_78 : decode cM_stepped 78 = .ok (.iload_n 1, 1) := by decide +kernel
theorem dM_stepped_79 : decode cM_stepped 79 = .ok (.imul, 1) := by decide +kernel
theorem dM_stepped_80 : decode cM_stepped 80 = .ok (.iload 10, 2) := by decide +kernel
theorem dM_stepped_82 : decode cM_stepped 82 = .ok (.iadd, 1) := by decide +kernel
theorem dM_stepped_83 : decode cM_stepped 83 = .ok (.iaload, 1) := by decide +kernel
theorem dM_stepped_84 : decode cM_stepped 84 = .ok (.istore 11, 2) := by decide +kernel
theorem dM_stepped_86 : decode cM_stepped 86 = .ok (.aload_n 0, 1) := by decide +kernel
theorem dM_stepped_87 : decode cM_stepped 87 = .ok (.getfield 26, 3) := by decide +kernel
theorem dM_stepped_90 : decode cM_stepped 90 = .ok (.bipush 12, 2) := by decide +kernel
theorem dM_stepped_92 : decode cM_stepped 92 = .ok (.iload_n 1, 1) := by decide +kernel
theorem dM_stepped_93 : decode cM_stepped 93 = .ok (.imul, 1) := by decide +kernel
theorem dM_stepped_94 : decode cM_stepped 94 = .ok (.iload 10, 2) := by decide +kernel
theorem dM_stepped_96 : decode cM_stepped 96 = .ok (.iadd, 1) := by decide +kernel
theorem dM_stepped_97 : decode cM_stepped 97 = .ok (.baload, 1) := by decide +kernel
theorem dM_stepped_98 : decode cM_stepped 98 = .ok (.ifCond .eq 8, 3) := by decide +kernel
theorem dM_stepped_101 : decode cM_stepped 101 = .ok (.lload 8, 2) := by decide +kernel
theorem dM_stepped_103 : decode cM_stepped 103 = .ok (.goto 31, 3) := by decide +kernel
theorem dM_stepped_106 : decode cM_stepped 106 = .ok (.lload 8, 2) := by decide +kernel
theorem dM_stepped_108 : decode cM_stepped 108 = .ok (.aload_n 0, 1) := by decide +kernel
theorem dM_stepped_109 : decode cM_stepped 109 = .ok (.getfield 7, 3) := by decide +kernel
theorem dM_stepped_112 : decode cM_stepped 112 = .ok (.iload 11, 2) := by decide +kernel
theorem dM_stepped_114 : decode cM_stepped 114 = .ok (.laload, 1) := by decide +kernel
theorem dM_stepped_115 : decode cM_stepped 115 = .ok (.ladd, 1) := by decide +kernel
theorem dM_stepped_116 : decode cM_stepped 116 = .ok (.lconst 1, 1) := by decide +kernel
theorem dM_stepped_117 : decode cM_stepped 117 = .ok (.lsub, 1) := by decide +kernel
theorem dM_stepped_118 : decode cM_stepped 118 = .ok (.aload_n 0, 1) := by decide +kernel
theorem dM_stepped_119 : decode cM_stepped 119 = .ok (.getfield 7, 3) := by decide +kernel
theorem dM_stepped_122 : decode cM_stepped 122 = .ok (.iload 11, 2) := by decide +kernel
theorem dM_stepped_124 : decode cM_stepped 124 = .ok (.laload, 1) := by decide +kernel
theorem dM_stepped_125 : decode cM_stepped 125 = .ok (.ldiv, 1) := by decide +kernel
theorem dM_stepped_126 : decode cM_stepped 126 = .ok (.aload_n 0, 1) := by decide +kernel
theorem dM_stepped_127 : decode cM_stepped 127 = .ok (.getfield 7, 3) := by decide +kernel
theorem dM_stepped_130 : decode cM_stepped 130 = .ok (.iload 11, 2) := by decide +kernel
theorem dM_stepped_132 : decode cM_stepped 132 = .ok (.laload, 1) := by decide +kernel
theorem dM_stepped_133 : decode cM_stepped 133 = .ok (.lmul, 1) := by decide +kernel
end
section
theorem dM_stepped_134 : decode cM_stepped 134 = .ok (.lstore 8, 2) := by decide +kernel
theorem dM_stepped_136 : decode cM_stepped 136 = .ok (.lload 8, 2) := by decide +kernel
theorem dM_stepped_138 : decode cM_stepped 138 = .ok (.aload_n 0, 1) := by decide +kernel
theorem dM_stepped_139 : decode cM_stepped 139 = .ok (.getfield 13, 3) := by decide +kernel
theorem dM_stepped_142 : decode cM_stepped 142 = .ok (.iload 11, 2) := by decide +kernel
theorem dM_stepped_144 : decode cM_stepped 144 = .ok (.laload, 1) := by decide +kernel
theorem dM_stepped_145 : decode cM_stepped 145 = .ok (.ladd, 1) := by decide +kernel
theorem dM_stepped_146 : decode cM_stepped 146 = .ok (.lstore 8, 2) := by decide +kernel
theorem dM_stepped_148 : decode cM_stepped 148 = .ok (.iinc 10 1, 3) := by decide +kernel
theorem dM_stepped_151 : decode cM_stepped 151 = .ok (.goto (-90), 3) := by decide +kernel
theorem dM_stepped_154 : decode cM_stepped 154 = .ok (.lload 8, 2) := by decide +kernel
theorem dM_stepped_156 : decode cM_stepped 156 = .ok (.lload 6, 2) := by decide +kernel
theorem dM_stepped_158 : decode cM_stepped 158 = .ok (.lsub, 1) := by decide +kernel
theorem dM_stepped_159 : decode cM_stepped 159 = .ok (.lload 4, 2) := by decide +kernel
theorem dM_stepped_161 : decode cM_stepped 161 = .ok (.lcmp, 1) := by decide +kernel
theorem dM_stepped_162 : decode cM_stepped 162 = .ok (.ifCond .le 11, 3) := by decide +kernel
theorem dM_stepped_165 : decode cM_stepped 165 = .ok (.lload 8, 2) := by decide +kernel
theorem dM_stepped_167 : decode cM_stepped 167 = .ok (.lload 6, 2) := by decide +kernel
theorem dM_stepped_169 : decode cM_stepped 169 = .ok (.lsub, 1) := by decide +kernel
theorem dM_stepped_170 : decode cM_stepped 170 = .ok (.goto 5, 3) := by decide +kernel
theorem dM_stepped_173 : decode cM_stepped 173 = .ok (.lload 4, 2) := by decide +kernel
theorem dM_stepped_175 : decode cM_stepped 175 = .ok (.lstore 4, 2) := by decide +kernel
theorem dM_stepped_177 : decode cM_stepped 177 = .ok (.lload 6, 2) := by decide +kernel
theorem dM_stepped_179 : decode cM_stepped 179 = .ok (.lconst 1, 1) := by decide +kernel
theorem dM_stepped_180 : decode cM_stepped 180 = .ok (.ladd, 1) := by decide +kernel
theorem dM_stepped_181 : decode cM_stepped 181 = .ok (.lstore 6, 2) := by decide +kernel
theorem dM_stepped_183 : decode cM_stepped 183 = .ok (.goto (-136), 3) := by decide +kernel
theorem dM_stepped_186 : decode cM_stepped 186 = .ok (.lload 4, 2) := by decide +kernel
theorem dM_stepped_188 : decode cM_stepped 188 = .ok (.lreturn, 1) := by decide +kernel
theorem dM_plain_0 : decode cM_plain 0 = .ok (.aload_n 0, 1) := by decide +kernel
theorem dM_plain_1 : decode cM_plain 1 = .ok (.iconst 0, 1) := by decide +kernel
theorem dM_plain_2 : decode cM_plain 2 = .ok (.putfield 39, 3) := by decide +kernel
theorem dM_plain_5 : decode cM_plain 5 = .ok (.aload_n 0, 1) := by decide +kernel
theorem dM_plain_6 : decode cM_plain 6 = .ok (.iload_n 1, 1) := by decide +kernel
theorem dM_plain_7 : decode cM_plain 7 = .ok (.invokevirtual 69, 3) := by decide +kernel
theorem dM_plain_10 : decode cM_plain 10 = .ok (.ifCond .ne 15, 3) := by decide +kernel
theorem dM_plain_13 : decode cM_plain 13 = .ok (.aload_n 0, 1) := by decide +kernel
theorem dM_plain_14 : decode cM_plain 14 = .ok (.iload_n 1, 1) := by decide +kernel
theorem dM_plain_15 : decode cM_plain 15 = .ok (.invokevirtual 93, 3) := by decide +kernel
theorem dM_plain_18 : decode cM_plain 18 = .ok (.ifCond .eq 7, 3) := by decide +kernel
theorem dM_plain_21 : decode cM_plain 21 = .ok (.iconst 1, 1) := by decide +kernel
theorem dM_plain_22 : decode cM_plain 22 = .ok (.goto 4, 3) := by decide +kernel
theorem dM_plain_25 : decode cM_plain 25 = .ok (.iconst 0, 1) := by decide +kernel
theorem dM_plain_26 : decode cM_plain 26 = .ok (.ireturn, 1) := by decide +kernel
theorem dX0_init_0 : decode cX0_init 0 = .ok (.aload_n 0, 1) := by decide +kernel
theorem dX0_init_1 : decode cX0_init 1 = .ok (.invokespecial 3, 3) := by decide +kernel
theorem dX0_init_4 : decode cX0_init 4 = .ok (.aload_n 0, 1) := by decide +kernel
theorem dX0_init_5 : decode cX0_init 5 = .ok (.bipush 12, 2) := by decide +kernel
theorem dX0_init_7 : decode cX0_init 7 = .ok (.anewarray 9, 3) := by decide +kernel
theorem dX0_init_10 : decode cX0_init 10 = .ok (.putfield 11, 3) := by decide +kernel
theorem dX0_init_13 : decode cX0_init 13 = .ok (.aload_n 0, 1) := by decide +kernel
theorem dX0_init_14 : decode cX0_init 14 = .ok (.bipush 12, 2) := by decide +kernel
theorem dX0_init_16 : decode cX0_init 16 = .ok (.newarray .boolean, 2) := by decide +kernel
theorem dX0_init_18 : decode cX0_init 18 = .ok (.putfield 17, 3) := by decide +kernel
theorem dX0_init_21 : decode cX0_init 21 = .ok (.aload_n 0, 1) := by decide +kernel
theorem dX0_init_22 : decode cX0_init 22 = .ok (.iconst 0, 1) := by decide +kernel
theorem dX0_init_23 : decode cX0_init 23 = .ok (.putfield 21, 3) := by decide +kernel
theorem dX0_init_26 : decode cX0_init 26 = .ok (.aload_n 0, 1) := by decide +kernel
theorem dX0_init_27 : decode cX0_init 27 = .ok (.ldc2_w 25, 3) := by decide +kernel
theorem dX0_init_30 : decode cX0_init 30 = .ok (.putfield 27, 3) := by decide +kernel
theorem dX0_init_33 : decode cX0_init 33 = .ok (.return_, 1) := by decide +kernel
theorem dX0_holds_0 : decode cX0_holds 0 = .ok (.iconst 0, 1) := by decide +kernel
theorem dX0_holds_1 : decode cX0_holds 1 = .ok (.istore_n 2, 1) := by decide +kernel
theorem dX0_holds_2 : decode cX0_holds 2 = .ok (.iload_n 2, 1) := by decide +kernel
theorem dX0_holds_3 : decode cX0_holds 3 = .ok (.aload_n 0, 1) := by decide +kernel
theorem dX0_holds_4 : decode cX0_holds 4 = .ok (.getfield 21, 3) := by decide +kernel
theorem dX0_holds_7 : decode cX0_holds 7 = .ok (.if_icmp .ge 21, 3) := by decide +kernel
theorem dX0_holds_10 : decode cX0_holds 10 = .ok (.aload_n 0, 1) := by decide +kernel
theorem dX0_holds_11 : decode cX0_holds 11 = .ok (.getfield 11, 3) := by decide +kernel
theorem dX0_holds_14 : decode cX0_holds 14 = .ok (.iload_n 2, 1) := by decide +kernel
theorem dX0_holds_15 : decode cX0_holds 15 = .ok (.aaload, 1) := by decide +kernel
theorem dX0_holds_16 : decode cX0_holds 16 = .ok (.aload_n 1, 1) := by decide +kernel
theorem dX0_holds_17 : decode cX0_holds 17 = .ok (.if_acmp .ne 5, 3) := by decide +kernel
theorem dX0_holds_20 : decode cX0_holds 20 = .ok (.iconst 1, 1) := by decide +kernel
theorem dX0_holds_21 : decode cX0_holds 21 = .ok (.ireturn, 1) := by decide +kernel
theorem dX0_holds_22 : decode cX0_holds 22 = .ok (.iinc 2 1, 3) := by decide +kernel
theorem dX0_holds_25 : decode cX0_holds 25 = .ok (.goto (-23), 3) := by decide +kernel
theorem dX0_holds_28 : decode cX0_holds 28 = .ok (.iconst 0, 1) := by decide +kernel
theorem dX0_holds_29 : decode cX0_holds 29 = .ok (.ireturn, 1) := by decide +kernel
theorem dX0_append_0 : decode cX0_append 0 = .ok (.aload_n 0, 1) := by decide +kernel
theorem dX0_append_1 : decode cX0_append 1 = .ok (.getfield 21, 3) := by decide +kernel
theorem dX0_append_4 : decode cX0_append 4 = .ok (.bipush 12, 2) := by decide +kernel
theorem dX0_append_6 : decode cX0_append 6 = .ok (.if_icmp .ge 33, 3) := by decide +kernel
theorem dX0_append_9 : decode cX0_append 9 = .ok (.aload_n 0, 1) := by decide +kernel
theorem dX0_append_10 : decode cX0_append 10 = .ok (.getfield 11, 3) := by decide +kernel
theorem dX0_append_13 : decode cX0_append 13 = .ok (.aload_n 0, 1) := by decide +kernel
theorem dX0_append_14 : decode cX0_append 14 = .ok (.getfield 21, 3) := by decide +kernel
theorem dX0_append_17 : decode cX0_append 17 = .ok (.aload_n 1, 1) := by decide +kernel
theorem dX0_append_18 : decode cX0_append 18 = .ok (.aastore, 1) := by decide +kernel
theorem dX0_append_19 : decode cX0_append 19 = .ok (.aload_n 0, 1) := by decide +kernel
theorem dX0_append_20 : decode cX0_append 20 = .ok (.getfield 17, 3) := by decide +kernel
theorem dX0_append_23 : decode cX0_append 23 = .ok (.aload_n 0, 1) := by decide +kernel
theorem dX0_append_24 : decode cX0_append 24 = .ok (.getfield 21, 3) := by decide +kernel
theorem dX0_append_27 : decode cX0_append 27 = .ok (.iload_n 2, 1) := by decide +kernel
theorem dX0_append_28 : decode cX0_append 28 = .ok (.bastore, 1) := by decide +kernel
theorem dX0_append_29 : decode cX0_append 29 = .ok (.aload_n 0, 1) := by decide +kernel
theorem dX0_append_30 : decode cX0_append 30 = .ok (.dup, 1) := by decide +kernel
theorem dX0_append_31 : decode cX0_append 31 = .ok (.getfield 21, 3) := by decide +kernel
theorem dX0_append_34 : decode cX0_append 34 = .ok (.iconst 1, 1) := by decide +kernel
theorem dX0_append_35 : decode cX0_append 35 = .ok (.iadd, 1) := by decide +kernel
theorem dX0_append_36 : decode cX0_append 36 = .ok (.putfield 21, 3) := by decide +kernel
theorem dX0_append_39 : decode cX0_append 39 = .ok (.return_, 1) := by decide +kernel
theorem dX0_broughtBy_0 : decode cX0_broughtBy 0 = .ok (.aload_n 0, 1) := by decide +kernel
theorem dX0_broughtBy_1 : decode cX0_broughtBy 1 = .ok (.getfield 17, 3) := by decide +kernel
theorem dX0_broughtBy_4 : decode cX0_broughtBy 4 = .ok (.iload_n 1, 1) := by decide +kernel
theorem dX0_broughtBy_5 : decode cX0_broughtBy 5 = .ok (.baload, 1) := by decide +kernel
theorem dX0_broughtBy_6 : decode cX0_broughtBy 6 = .ok (.ifCond .eq 25, 3) := by decide +kernel
theorem dX0_broughtBy_9 : decode cX0_broughtBy 9 = .ok (.aload_n 0, 1) := by decide +kernel
theorem dX0_broughtBy_10 : decode cX0_broughtBy 10 = .ok (.getfield 11, 3) := by decide +kernel
theorem dX0_broughtBy_13 : decode cX0_broughtBy 13 = .ok (.iload_n 1, 1) := by decide +kernel
theorem dX0_broughtBy_14 : decode cX0_broughtBy 14 = .ok (.aaload, 1) := by decide +kernel
theorem dX0_broughtBy_15 : decode cX0_broughtBy 15 = .ok (.invokevirtual 31, 3) := by decide +kernel
theorem dX0_broughtBy_18 : decode cX0_broughtBy 18 = .ok (.aload_n 0, 1) := by decide +kernel
theorem dX0_broughtBy_19 : decode cX0_broughtBy 19 = .ok (.getfield 11, 3) := by decide +kernel
theorem dX0_broughtBy_22 : decode cX0_broughtBy 22 = .ok (.iload_n 1, 1) := by decide +kernel
theorem dX0_broughtBy_23 : decode cX0_broughtBy 23 = .ok (.aaload, 1) := by decide +kernel
theorem dX0_broughtBy_24 : decode cX0_broughtBy 24 = .ok (.getfield 35, 3) := by decide +kernel
theorem dX0_broughtBy_27 : decode cX0_broughtBy 27 = .ok (.ladd, 1) := by decide +kernel
theorem dX0_broughtBy_28 : decode cX0_broughtBy 28 = .ok (.goto 12, 3) := by decide +kernel
theorem dX0_broughtBy_31 : decode cX0_broughtBy 31 = .ok (.aload_n 0, 1) := by decide +kernel
theorem dX0_broughtBy_32 : decode cX0_broughtBy 32 = .ok (.getfield 11, 3) := by decide +kernel
theorem dX0_broughtBy_35 : decode cX0_broughtBy 35 = .ok (.iload_n 1, 1) := by decide +kernel
theorem dX0_broughtBy_36 : decode cX0_broughtBy 36 = .ok (.aaload, 1) := by decide +kernel
theorem dX0_broughtBy_37 : decode cX0_broughtBy 37 = .ok (.getfield 35, 3) := by decide +kernel
theorem dX0_broughtBy_40 : decode cX0_broughtBy 40 = .ok (.lreturn, 1) := by decide +kernel
theorem dX0_worstReaction_0 : decode cX0_worstReaction 0 = .ok (.lconst 0, 1) := by decide +kernel
theorem dX0_worstReaction_1 : decode cX0_worstReaction 1 = .ok (.lstore_n 1, 1) := by decide +kernel
theorem dX0_worstReaction_2 : decode cX0_worstReaction 2 = .ok (.iconst 0, 1) := by decide +kernel
theorem dX0_worstReaction_3 : decode cX0_worstReaction 3 = .ok (.istore_n 3, 1) := by decide +kernel
theorem dX0_worstReaction_4 : decode cX0_worstReaction 4 = .ok (.iload_n 3, 1) := by decide +kernel
theorem dX0_worstReaction_5 : decode cX0_worstReaction 5 = .ok (.aload_n 0, 1) := by decide +kernel
theorem dX0_worstReaction_6 : decode cX0_worstReaction 6 = .ok (.getfield 21, 3) := by decide +kernel
theorem dX0_worstReaction_9 : decode cX0_worstReaction 9 = .ok (.if_icmp .ge 17, 3) := by decide +kernel
theorem dX0_worstReaction_12 : decode cX0_worstReaction 12 = .ok (.lload_n 1, 1) := by decide +kernel
theorem dX0_worstReaction_13 : decode cX0_worstReaction 13 = .ok (.aload_n 0, 1) := by decide +kernel
theorem dX0_worstReaction_14 : decode cX0_worstReaction 14 = .ok (.iload_n 3, 1) := by decide +kernel
theorem dX0_worstReaction_15 : decode cX0_worstReaction 15 = .ok (.invokevirtual 38, 3) := by decide +kernel
theorem dX0_worstReaction_18 : decode cX0_worstReaction 18 = .ok (.ladd, 1) := by decide +kernel
theorem dX0_worstReaction_19 : decode cX0_worstReaction 19 = .ok (.lstore_n 1, 1) := by decide +kernel
theorem dX0_worstReaction_20 : decode cX0_worstReaction 20 = .ok (.iinc 3 1, 3) := by decide +kernel
theorem dX0_worstReaction_23 : decode cX0_worstReaction 23 = .ok (.goto (-19), 3) := by decide +kernel
theorem dX0_worstReaction_26 : decode cX0_worstReaction 26 = .ok (.lload_n 1, 1) := by decide +kernel
theorem dX0_worstReaction_27 : decode cX0_worstReaction 27 = .ok (.lreturn, 1) := by decide +kernel
theorem dX0_worstAge_0 : decode cX0_worstAge 0 = .ok (.lconst 0, 1) := by decide +kernel
theorem dX0_worstAge_1 : decode cX0_worstAge 1 = .ok (.lstore_n 1, 1) := by decide +kernel
theorem dX0_worstAge_2 : decode cX0_worstAge 2 = .ok (.lconst 0, 1) := by decide +kernel
theorem dX0_worstAge_3 : decode cX0_worstAge 3 = .ok (.lstore_n 3, 1) := by decide +kernel
theorem dX0_worstAge_4 : decode cX0_worstAge 4 = .ok (.iconst 0, 1) := by decide +kernel
theorem dX0_worstAge_5 : decode cX0_worstAge 5 = .ok (.istore 5, 2) := by decide +kernel
theorem dX0_worstAge_7 : decode cX0_worstAge 7 = .ok (.iload 5, 2) := by decide +kernel
theorem dX0_worstAge_9 : decode cX0_worstAge 9 = .ok (.aload_n 0, 1) := by decide +kernel
theorem dX0_worstAge_10 : decode cX0_worstAge 10 = .ok (.getfield 21, 3) := by decide +kernel
theorem dX0_worstAge_13 : decode cX0_worstAge 13 = .ok (.if_icmp .ge 46, 3) := by decide +kernel
theorem dX0_worstAge_16 : decode cX0_worstAge 16 = .ok (.iload 5, 2) := by decide +kernel
theorem dX0_worstAge_18 : decode cX0_worstAge 18 = .ok (.ifCond .ne 14, 3) := by decide +kernel
theorem dX0_worstAge_21 : decode cX0_worstAge 21 = .ok (.aload_n 0, 1) := by decide +kernel
theorem dX0_worstAge_22 : decode cX0_worstAge 22 = .ok (.getfield 11, 3) := by decide +kernel
theorem dX0_worstAge_25 : decode cX0_worstAge 25 = .ok (.iload 5, 2) := by decide +kernel
theorem dX0_worstAge_27 : decode cX0_worstAge 27 = .ok (.aaload, 1) := by decide +kernel
theorem dX0_worstAge_28 : decode cX0_worstAge 28 = .ok (.invokevirtual 31, 3) := by decide +kernel
theorem dX0_worstAge_31 : decode cX0_worstAge 31 = .ok (.lstore_n 1, 1) := by decide +kernel
theorem dX0_worstAge_32 : decode cX0_worstAge 32 = .ok (.aload_n 0, 1) := by decide +kernel
theorem dX0_worstAge_33 : decode cX0_worstAge 33 = .ok (.getfield 17, 3) := by decide +kernel
theorem dX0_worstAge_36 : decode cX0_worstAge 36 = .ok (.iload 5, 2) := by decide +kernel
theorem dX0_worstAge_38 : decode cX0_worstAge 38 = .ok (.baload, 1) := by decide +kernel
theorem dX0_worstAge_39 : decode cX0_worstAge 39 = .ok (.ifCond .eq 14, 3) := by decide +kernel
theorem dX0_worstAge_42 : decode cX0_worstAge 42 = .ok (.aload_n 0, 1) := by decide +kernel
theorem dX0_worstAge_43 : decode cX0_worstAge 43 = .ok (.getfield 11, 3) := by decide +kernel
theorem dX0_worstAge_46 : decode cX0_worstAge 46 = .ok (.iload 5, 2) := by decide +kernel
theorem dX0_worstAge_48 : decode cX0_worstAge 48 = .ok (.aaload, 1) := by decide +kernel
theorem dX0_worstAge_49 : decode cX0_worstAge 49 = .ok (.invokevirtual 31, 3) := by decide +kernel
theorem dX0_worstAge_52 : decode cX0_worstAge 52 = .ok (.lstore_n 3, 1) := by decide +kernel
theorem dX0_worstAge_53 : decode cX0_worstAge 53 = .ok (.iinc 5 1, 3) := by decide +kernel
theorem dX0_worstAge_56 : decode cX0_worstAge 56 = .ok (.goto (-49), 3) := by decide +kernel
theorem dX0_worstAge_59 : decode cX0_worstAge 59 = .ok (.aload_n 0, 1) := by decide +kernel
theorem dX0_worstAge_60 : decode cX0_worstAge 60 = .ok (.invokevirtual 42, 3) := by decide +kernel
theorem dX0_worstAge_63 : decode cX0_worstAge 63 = .ok (.lload_n 1, 1) := by decide +kernel
theorem dX0_worstAge_64 : decode cX0_worstAge 64 = .ok (.lsub, 1) := by decide +kernel
theorem dX0_worstAge_65 : decode cX0_worstAge 65 = .ok (.lload_n 3, 1) := by decide +kernel
theorem dX0_worstAge_66 : decode cX0_worstAge 66 = .ok (.ladd, 1) := by decide +kernel
theorem dX0_worstAge_67 : decode cX0_worstAge 67 = .ok (.lreturn, 1) := by decide +kernel
theorem dX0_answersFrom_0 : decode cX0_answersFrom 0 = .ok (.lconst 0, 1) := by decide +kernel
theorem dX0_answersFrom_1 : decode cX0_answersFrom 1 = .ok (.lstore_n 2, 1) := by decide +kernel
theorem dX0_answersFrom_2 : decode cX0_answersFrom 2 = .ok (.iload_n 1, 1) := by decide +kernel
theorem dX0_answersFrom_3 : decode cX0_answersFrom 3 = .ok (.istore 4, 2) := by decide +kernel
theorem dX0_answersFrom_5 : decode cX0_answersFrom 5 = .ok (.iload 4, 2) := by decide +kernel
theorem dX0_answersFrom_7 : decode cX0_answersFrom 7 = .ok (.aload_n 0, 1) := by decide +kernel
theorem dX0_answersFrom_8 : decode cX0_answersFrom 8 = .ok (.getfield 21, 3) := by decide +kernel
theorem dX0_answersFrom_11 : decode cX0_answersFrom 11 = .ok (.if_icmp .ge 22, 3) := by decide +kernel
theorem dX0_answersFrom_14 : decode cX0_answersFrom 14 = .ok (.lload_n 2, 1) := by decide +kernel
theorem dX0_answersFrom_15 : decode cX0_answersFrom 15 = .ok (.aload_n 0, 1) := by decide +kernel
theorem dX0_answersFrom_16 : decode cX0_answersFrom 16 = .ok (.getfield 11, 3) := by decide +kernel
theorem dX0_answersFrom_19 : decode cX0_answersFrom 19 = .ok (.iload 4, 2) := by decide +kernel
theorem dX0_answersFrom_21 : decode cX0_answersFrom 21 = .ok (.aaload, 1) := by decide +kernel
theorem dX0_answersFrom_22 : decode cX0_answersFrom 22 = .ok (.getfield 35, 3) := by decide +kernel
theorem dX0_answersFrom_25 : decode cX0_answersFrom 25 = .ok (.ladd, 1) := by decide +kernel
theorem dX0_answersFrom_26 : decode cX0_answersFrom 26 = .ok (.lstore_n 2, 1) := by decide +kernel
theorem dX0_answersFrom_27 : decode cX0_answersFrom 27 = .ok (.iinc 4 1, 3) := by decide +kernel
theorem dX0_answersFrom_30 : decode cX0_answersFrom 30 = .ok (.goto (-25), 3) := by decide +kernel
theorem dX0_answersFrom_33 : decode cX0_answersFrom 33 = .ok (.lload_n 2, 1) := by decide +kernel
theorem dX0_answersFrom_34 : decode cX0_answersFrom 34 = .ok (.lreturn, 1) := by decide +kernel
theorem dX0_keepsWish_0 : decode cX0_keepsWish 0 = .ok (.aload_n 0, 1) := by decide +kernel
theorem dX0_keepsWish_1 : decode cX0_keepsWish 1 = .ok (.getfield 27, 3) := by decide +kernel
theorem dX0_keepsWish_4 : decode cX0_keepsWish 4 = .ok (.ldc2_w 25, 3) := by decide +kernel
theorem dX0_keepsWish_7 : decode cX0_keepsWish 7 = .ok (.lcmp, 1) := by decide +kernel
theorem dX0_keepsWish_8 : decode cX0_keepsWish 8 = .ok (.ifCond .eq 19, 3) := by decide +kernel
theorem dX0_keepsWish_11 : decode cX0_keepsWish 11 = .ok (.aload_n 0, 1) := by decide +kernel
theorem dX0_keepsWish_12 : decode cX0_keepsWish 12 = .ok (.invokevirtual 42, 3) := by decide +kernel
theorem dX0_keepsWish_15 : decode cX0_keepsWish 15 = .ok (.aload_n 0, 1) := by decide +kernel
theorem dX0_keepsWish_16 : decode cX0_keepsWish 16 = .ok (.getfield 27, 3) := by decide +kernel
theorem dX0_keepsWish_19 : decode cX0_keepsWish 19 = .ok (.lcmp, 1) := by decide +kernel
theorem dX0_keepsWish_20 : decode cX0_keepsWish 20 = .ok (.ifCond .gt 7, 3) := by decide +kernel
theorem dX0_keepsWish_23 : decode cX0_keepsWish 23 = .ok (.iconst 1, 1) := by decide +kernel
theorem dX0_keepsWish_24 : decode cX0_keepsWish 24 = .ok (.goto 4, 3) := by decide +kernel
theorem dX0_keepsWish_27 : decode cX0_keepsWish 27 = .ok (.iconst 0, 1) := by decide +kernel
theorem dX0_keepsWish_28 : decode cX0_keepsWish 28 = .ok (.ireturn, 1) := by decide +kernel
theorem dX0_lacksPeriod_0 : decode cX0_lacksPeriod 0 = .ok (.iconst 0, 1) := by decide +kernel
theorem dX0_lacksPeriod_1 : decode cX0_lacksPeriod 1 = .ok (.istore_n 1, 1) := by decide +kernel
theorem dX0_lacksPeriod_2 : decode cX0_lacksPeriod 2 = .ok (.iload_n 1, 1) := by decide +kernel
theorem dX0_lacksPeriod_3 : decode cX0_lacksPeriod 3 = .ok (.aload_n 0, 1) := by decide +kernel
theorem dX0_lacksPeriod_4 : decode cX0_lacksPeriod 4 = .ok (.getfield 21, 3) := by decide +kernel
theorem dX0_lacksPeriod_7 : decode cX0_lacksPeriod 7 = .ok (.if_icmp .ge 25, 3) := by decide +kernel
theorem dX0_lacksPeriod_10 : decode cX0_lacksPeriod 10 = .ok (.aload_n 0, 1) := by decide +kernel
theorem dX0_lacksPeriod_11 : decode cX0_lacksPeriod 11 = .ok (.getfield 11, 3) := by decide +kernel
theorem dX0_lacksPeriod_14 : decode cX0_lacksPeriod 14 = .ok (.iload_n 1, 1) := by decide +kernel
theorem dX0_lacksPeriod_15 : decode cX0_lacksPeriod 15 = .ok (.aaload, 1) := by decide +kernel
theorem dX0_lacksPeriod_16 : decode cX0_lacksPeriod 16 = .ok (.getfield 45, 3) := by decide +kernel
theorem dX0_lacksPeriod_19 : decode cX0_lacksPeriod 19 = .ok (.lconst 0, 1) := by decide +kernel
theorem dX0_lacksPeriod_20 : decode cX0_lacksPeriod 20 = .ok (.lcmp, 1) := by decide +kernel
theorem dX0_lacksPeriod_21 : decode cX0_lacksPeriod 21 = .ok (.ifCond .ne 5, 3) := by decide +kernel
theorem dX0_lacksPeriod_24 : decode cX0_lacksPeriod 24 = .ok (.iconst 1, 1) := by decide +kernel
theorem dX0_lacksPeriod_25 : decode cX0_lacksPeriod 25 = .ok (.ireturn, 1) := by decide +kernel
theorem dX0_lacksPeriod_26 : decode cX0_lacksPeriod 26 = .ok (.iinc 1 1, 3) := by decide +kernel
theorem dX0_lacksPeriod_29 : decode cX0_lacksPeriod 29 = .ok (.goto (-27), 3) := by decide +kernel
theorem dX0_lacksPeriod_32 : decode cX0_lacksPeriod 32 = .ok (.iconst 0, 1) := by decide +kernel
theorem dX0_lacksPeriod_33 : decode cX0_lacksPeriod 33 = .ok (.ireturn, 1) := by decide +kernel
theorem dX0_commonCycle_0 : decode cX0_commonCycle 0 = .ok (.lconst 1, 1) := by decide +kernel
theorem dX0_commonCycle_1 : decode cX0_commonCycle 1 = .ok (.lstore_n 2, 1) := by decide +kernel
theorem dX0_commonCycle_2 : decode cX0_commonCycle 2 = .ok (.iconst 0, 1) := by decide +kernel
theorem dX0_commonCycle_3 : decode cX0_commonCycle 3 = .ok (.istore 4, 2) := by decide +kernel
theorem dX0_commonCycle_5 : decode cX0_commonCycle 5 = .ok (.iload 4, 2) := by decide +kernel
theorem dX0_commonCycle_7 : decode cX0_commonCycle 7 = .ok (.aload_n 0, 1) := by decide +kernel
theorem dX0_commonCycle_8 : decode cX0_commonCycle 8 = .ok (.getfield 21, 3) := by decide +kernel
theorem dX0_commonCycle_11 : decode cX0_commonCycle 11 = .ok (.if_icmp .ge 44, 3) := by decide +kernel
theorem dX0_commonCycle_14 : decode cX0_commonCycle 14 = .ok (.aload_n 0, 1) := by decide +kernel
theorem dX0_commonCycle_15 : decode cX0_commonCycle 15 = .ok (.getfield 17, 3) := by decide +kernel
theorem dX0_commonCycle_18 : decode cX0_commonCycle 18 = .ok (.iload 4, 2) := by decide +kernel
theorem dX0_commonCycle_20 : decode cX0_commonCycle 20 = .ok (.baload, 1) := by decide +kernel
theorem dX0_commonCycle_21 : decode cX0_commonCycle 21 = .ok (.ifCond .ne 7, 3) := by decide +kernel
theorem dX0_commonCycle_24 : decode cX0_commonCycle 24 = .ok (.iload_n 1, 1) := by decide +kernel
theorem dX0_commonCycle_25 : decode cX0_commonCycle 25 = .ok (.ifCond .ne 24, 3) := by decide +kernel
theorem dX0_commonCycle_28 : decode cX0_commonCycle 28 = .ok (.ldc2_w 48, 3) := by decide +kernel
theorem dX0_commonCycle_31 : decode cX0_commonCycle 31 = .ok (.lload_n 2, 1) := by decide +kernel
theorem dX0_commonCycle_32 : decode cX0_commonCycle 32 = .ok (.aload_n 0, 1) := by decide +kernel
theorem dX0_commonCycle_33 : decode cX0_commonCycle 33 = .ok (.getfield 11, 3) := by decide +kernel
theorem dX0_commonCycle_36 : decode cX0_commonCycle 36 = .ok (.iload 4, 2) := by decide +kernel
theorem dX0_commonCycle_38 : decode cX0_commonCycle 38 = .ok (.aaload, 1) := by decide +kernel
theorem dX0_commonCycle_39 : decode cX0_commonCycle 39 = .ok (.getfield 45, 3) := by decide +kernel
theorem dX0_commonCycle_42 : decode cX0_commonCycle 42 = .ok (.invokestatic 50, 3) := by decide +kernel
theorem dX0_commonCycle_45 : decode cX0_commonCycle 45 = .ok (.invokestatic 54, 3) := by decide +kernel
theorem dX0_commonCycle_48 : decode cX0_commonCycle 48 = .ok (.lstore_n 2, 1) := by decide +kernel
theorem dX0_commonCycle_49 : decode cX0_commonCycle 49 = .ok (.iinc 4 1, 3) := by decide +kernel
theorem dX0_commonCycle_52 : decode cX0_commonCycle 52 = .ok (.goto (-47), 3) := by decide +kernel
theorem dX0_commonCycle_55 : decode cX0_commonCycle 55 = .ok (.lload_n 2, 1) := by decide +kernel
theorem dX0_commonCycle_56 : decode cX0_commonCycle 56 = .ok (.lreturn, 1) := by decide +kernel
theorem dX0_clocksAreRight_0 : decode cX0_clocksAreRight 0 = .ok (.iconst 0, 1) := by decide +kernel
theorem dX0_clocksAreRight_1 : decode cX0_clocksAreRight 1 = .ok (.istore_n 1, 1) := by decide +kernel
theorem dX0_clocksAreRight_2 : decode cX0_clocksAreRight 2 = .ok (.iload_n 1, 1) := by decide +kernel
theorem dX0_clocksAreRight_3 : decode cX0_clocksAreRight 3 = .ok (.aload_n 0, 1) := by decide +kernel
theorem dX0_clocksAreRight_4 : decode cX0_clocksAreRight 4 = .ok (.getfield 21, 3) := by decide +kernel
theorem dX0_clocksAreRight_7 : decode cX0_clocksAreRight 7 = .ok (.if_icmp .ge 25, 3) := by decide +kernel
theorem dX0_clocksAreRight_10 : decode cX0_clocksAreRight 10 = .ok (.aload_n 0, 1) := by decide +kernel
theorem dX0_clocksAreRight_11 : decode cX0_clocksAreRight 11 = .ok (.getfield 11, 3) := by decide +kernel
theorem dX0_clocksAreRight_14 : decode cX0_clocksAreRight 14 = .ok (.iload_n 1, 1) := by decide +kernel
theorem dX0_clocksAreRight_15 : decode cX0_clocksAreRight 15 = .ok (.aaload, 1) := by decide +kernel
theorem dX0_clocksAreRight_16 : decode cX0_clocksAreRight 16 = .ok (.getfield 59, 3) := by decide +kernel
theorem dX0_clocksAreRight_19 : decode cX0_clocksAreRight 19 = .ok (.lconst 0, 1) := by decide +kernel
theorem dX0_clocksAreRight_20 : decode cX0_clocksAreRight 20 = .ok (.lcmp, 1) := by decide +kernel
theorem dX0_clocksAreRight_21 : decode cX0_clocksAreRight 21 = .ok (.ifCond .eq 5, 3) := by decide +kernel
theorem dX0_clocksAreRight_24 : decode cX0_clocksAreRight 24 = .ok (.iconst 0, 1) := by decide +kernel
theorem dX0_clocksAreRight_25 : decode cX0_clocksAreRight 25 = .ok (.ireturn, 1) := by decide +kernel
theorem dX0_clocksAreRight_26 : decode cX0_clocksAreRight 26 = .ok (.iinc 1 1, 3) := by decide +kernel
theorem dX0_clocksAreRight_29 : decode cX0_clocksAreRight 29 = .ok (.goto (-27), 3) := by decide +kernel
theorem dX0_clocksAreRight_32 : decode cX0_clocksAreRight 32 = .ok (.iconst 1, 1) := by decide +kernel
theorem dX0_clocksAreRight_33 : decode cX0_clocksAreRight 33 = .ok (.ireturn, 1) := by decide +kernel
theorem dX0_canBeStepped_0 : decode cX0_canBeStepped 0 = .ok (.aload_n 0, 1) := by decide +kernel
theorem dX0_canBeStepped_1 : decode cX0_canBeStepped 1 = .ok (.invokevirtual 62, 3) := by decide +kernel
theorem dX0_canBeStepped_4 : decode cX0_canBeStepped 4 = .ok (.ifCond .eq 19, 3) := by decide +kernel
theorem dX0_canBeStepped_7 : decode cX0_canBeStepped 7 = .ok (.aload_n 0, 1) := by decide +kernel
theorem dX0_canBeStepped_8 : decode cX0_canBeStepped 8 = .ok (.iconst 1, 1) := by decide +kernel
theorem dX0_canBeStepped_9 : decode cX0_canBeStepped 9 = .ok (.invokevirtual 66, 3) := by decide +kernel
theorem dX0_canBeStepped_12 : decode cX0_canBeStepped 12 = .ok (.ldc2_w 70, 3) := by decide +kernel
theorem dX0_canBeStepped_15 : decode cX0_canBeStepped 15 = .ok (.lcmp, 1) := by decide +kernel
theorem dX0_canBeStepped_16 : decode cX0_canBeStepped 16 = .ok (.ifCond .gt 7, 3) := by decide +kernel
theorem dX0_canBeStepped_19 : decode cX0_canBeStepped 19 = .ok (.iconst 1, 1) := by decide +kernel
theorem dX0_canBeStepped_20 : decode cX0_canBeStepped 20 = .ok (.goto 4, 3) := by decide +kernel
theorem dX0_canBeStepped_23 : decode cX0_canBeStepped 23 = .ok (.iconst 0, 1) := by decide +kernel
theorem dX0_canBeStepped_24 : decode cX0_canBeStepped 24 = .ok (.ireturn, 1) := by decide +kernel
theorem dX0_longestByStepping_0 : decode cX0_longestByStepping 0 = .ok (.aload_n 0, 1) := by decide +kernel
theorem dX0_longestByStepping_1 : decode cX0_longestByStepping 1 = .ok (.getfield 21, 3) := by decide +kernel
theorem dX0_longestByStepping_4 : decode cX0_longestByStepping 4 = .ok (.ifCond .eq 17, 3) := by decide +kernel
theorem dX0_longestByStepping_7 : decode cX0_longestByStepping 7 = .ok (.aload_n 0, 1) := by decide +kernel
theorem dX0_longestByStepping_8 : decode cX0_longestByStepping 8 = .ok (.getfield 11, 3) := by decide +kernel
theorem dX0_longestByStepping_11 : decode cX0_longestByStepping 11 = .ok (.iconst 0, 1) := by decide +kernel
theorem dX0_longestByStepping_12 : decode cX0_longestByStepping 12 = .ok (.aaload, 1) := by decide +kernel
theorem dX0_longestByStepping_13 : decode cX0_longestByStepping 13 = .ok (.getfield 45, 3) := by decide +kernel
theorem dX0_longestByStepping_16 : decode cX0_longestByStepping 16 = .ok (.lconst 1, 1) := by decide +kernel
theorem dX0_longestByStepping_17 : decode cX0_longestByStepping 17 = .ok (.lcmp, 1) := by decide +kernel
theorem dX0_longestByStepping_18 : decode cX0_longestByStepping 18 = .ok (.ifCond .ge 5, 3) := by decide +kernel
theorem dX0_longestByStepping_21 : decode cX0_longestByStepping 21 = .ok (.lconst 0, 1) := by decide +kernel
theorem dX0_longestByStepping_22 : decode cX0_longestByStepping 22 = .ok (.lreturn, 1) := by decide +kernel
theorem dX0_longestByStepping_23 : decode cX0_longestByStepping 23 = .ok (.aload_n 0, 1) := by decide +kernel
theorem dX0_longestByStepping_24 : decode cX0_longestByStepping 24 = .ok (.getfield 11, 3) := by decide +kernel
theorem dX0_longestByStepping_27 : decode cX0_longestByStepping 27 = .ok (.iconst 0, 1) := by decide +kernel
theorem dX0_longestByStepping_28 : decode cX0_longestByStepping 28 = .ok (.aaload, 1) := by decide +kernel
theorem dX0_longestByStepping_29 : decode cX0_longestByStepping 29 = .ok (.getfield 45, 3) := by decide +kernel
theorem dX0_longestByStepping_32 : decode cX0_longestByStepping 32 = .ok (.lstore_n 1, 1) := by decide +kernel
theorem dX0_longestByStepping_33 : decode cX0_longestByStepping 33 = .ok (.aload_n 0, 1) := by decide +kernel
theorem dX0_longestByStepping_34 : decode cX0_longestByStepping 34 = .ok (.iconst 1, 1) := by decide +kernel
theorem dX0_longestByStepping_35 : decode cX0_longestByStepping 35 = .ok (.invokevirtual 66, 3) := by decide +kernel
theorem dX0_longestByStepping_38 : decode cX0_longestByStepping 38 = .ok (.lload_n 1, 1) := by decide +kernel
theorem dX0_longestByStepping_39 : decode cX0_longestByStepping 39 = .ok (.ldiv, 1) := by decide +kernel
theorem dX0_longestByStepping_40 : decode cX0_longestByStepping 40 = .ok (.lstore_n 3, 1) := by decide +kernel
theorem dX0_longestByStepping_41 : decode cX0_longestByStepping 41 = .ok (.lconst 0, 1) := by decide +kernel
theorem dX0_longestByStepping_42 : decode cX0_longestByStepping 42 = .ok (.lstore 5, 2) := by decide +kernel
theorem dX0_longestByStepping_44 : decode cX0_longestByStepping 44 = .ok (.lconst 0, 1) := by decide +kernel
theorem dX0_longestByStepping_45 : decode cX0_longestByStepping 45 = .ok (.lstore 7, 2) := by decide +kernel
theorem dX0_longestByStepping_47 : decode cX0_longestByStepping 47 = .ok (.lload 7, 2) := by decide +kernel
theorem dX0_longestByStepping_49 : decode cX0_longestByStepping 49 = .ok (.lload_n 3, 1) := by decide +kernel
theorem dX0_longestByStepping_50 : decode cX0_longestByStepping 50 = .ok (.lcmp, 1) := by decide +kernel
theorem dX0_longestByStepping_51 : decode cX0_longestByStepping 51 = .ok (.ifCond .ge 27, 3) := by decide +kernel
theorem dX0_longestByStepping_54 : decode cX0_longestByStepping 54 = .ok (.lload 5, 2) := by decide +kernel
theorem dX0_longestByStepping_56 : decode cX0_longestByStepping 56 = .ok (.aload_n 0, 1) := by decide +kernel
theorem dX0_longestByStepping_57 : decode cX0_longestByStepping 57 = .ok (.lload 7, 2) := by decide +kernel
theorem dX0_longestByStepping_59 : decode cX0_longestByStepping 59 = .ok (.lload_n 1, 1) := by decide +kernel
theorem dX0_longestByStepping_60 : decode cX0_longestByStepping 60 = .ok (.lmul, 1) := by decide +kernel
theorem dX0_longestByStepping_61 : decode cX0_longestByStepping 61 = .ok (.invokevirtual 72, 3) := by decide +kernel
theorem dX0_longestByStepping_64 : decode cX0_longestByStepping 64 = .ok (.invokestatic 76, 3) := by decide +kernel
theorem dX0_longestByStepping_67 : decode cX0_longestByStepping 67 = .ok (.lstore 5, 2) := by decide +kernel
theorem dX0_longestByStepping_69 : decode cX0_longestByStepping 69 = .ok (.lload 7, 2) := by decide +kernel
theorem dX0_longestByStepping_71 : decode cX0_longestByStepping 71 = .ok (.lconst 1, 1) := by decide +kernel
theorem dX0_longestByStepping_72 : decode cX0_longestByStepping 72 = .ok (.ladd, 1) := by decide +kernel
theorem dX0_longestByStepping_73 : decode cX0_longestByStepping 73 = .ok (.lstore 7, 2) := by decide +kernel
theorem dX0_longestByStepping_75 : decode cX0_longestByStepping 75 = .ok (.goto (-28), 3) := by decide +kernel
theorem dX0_longestByStepping_78 : decode cX0_longestByStepping 78 = .ok (.lload_n 1, 1) := by decide +kernel
theorem dX0_longestByStepping_79 : decode cX0_longestByStepping 79 = .ok (.lconst 1, 1) := by decide +kernel
theorem dX0_longestByStepping_80 : decode cX0_longestByStepping 80 = .ok (.lsub, 1) := by decide +kernel
theorem dX0_longestByStepping_81 : decode cX0_longestByStepping 81 = .ok (.lload 5, 2) := by decide +kernel
theorem dX0_longestByStepping_83 : decode cX0_longestByStepping 83 = .ok (.ladd, 1) := by decide +kernel
theorem dX0_longestByStepping_84 : decode cX0_longestByStepping 84 = .ok (.lreturn, 1) := by decide +kernel
theorem dX0_timeFromBegin_0 : decode cX0_timeFromBegin 0 = .ok (.lload_n 1, 1) := by decide +kernel
theorem dX0_timeFromBegin_1 : decode cX0_timeFromBegin 1 = .ok (.lstore_n 3, 1) := by decide +kernel
theorem dX0_timeFromBegin_2 : decode cX0_timeFromBegin 2 = .ok (.iconst 0, 1) := by decide +kernel
theorem dX0_timeFromBegin_3 : decode cX0_timeFromBegin 3 = .ok (.istore 5, 2) := by decide +kernel
theorem dX0_timeFromBegin_5 : decode cX0_timeFromBegin 5 = .ok (.iload 5, 2) := by decide +kernel
theorem dX0_timeFromBegin_7 : decode cX0_timeFromBegin 7 = .ok (.aload_n 0, 1) := by decide +kernel
theorem dX0_timeFromBegin_8 : decode cX0_timeFromBegin 8 = .ok (.getfield 21, 3) := by decide +kernel
theorem dX0_timeFromBegin_11 : decode cX0_timeFromBegin 11 = .ok (.if_icmp .ge 58, 3) := by decide +kernel
theorem dX0_timeFromBegin_14 : decode cX0_timeFromBegin 14 = .ok (.aload_n 0, 1) := by decide +kernel
theorem dX0_timeFromBegin_15 : decode cX0_timeFromBegin 15 = .ok (.getfield 17, 3) := by decide +kernel
theorem dX0_timeFromBegin_18 : decode cX0_timeFromBegin 18 = .ok (.iload 5, 2) := by decide +kernel
theorem dX0_timeFromBegin_20 : decode cX0_timeFromBegin 20 = .ok (.baload, 1) := by decide +kernel
theorem dX0_timeFromBegin_21 : decode cX0_timeFromBegin 21 = .ok (.ifCond .eq 29, 3) := by decide +kernel
theorem dX0_timeFromBegin_24 : decode cX0_timeFromBegin 24 = .ok (.lload_n 3, 1) := by decide +kernel
theorem dX0_timeFromBegin_25 : decode cX0_timeFromBegin 25 = .ok (.aload_n 0, 1) := by decide +kernel
theorem dX0_timeFromBegin_26 : decode cX0_timeFromBegin 26 = .ok (.getfield 11, 3) := by decide +kernel
theorem dX0_timeFromBegin_29 : decode cX0_timeFromBegin 29 = .ok (.iload 5, 2) := by decide +kernel
theorem dX0_timeFromBegin_31 : decode cX0_timeFromBegin 31 = .ok (.aaload, 1) := by decide +kernel
theorem dX0_timeFromBegin_32 : decode cX0_timeFromBegin 32 = .ok (.getfield 45, 3) := by decide +kernel
theorem dX0_timeFromBegin_35 : decode cX0_timeFromBegin 35 = .ok (.invokestatic 79, 3) := by decide +kernel
theorem dX0_timeFromBegin_38 : decode cX0_timeFromBegin 38 = .ok (.aload_n 0, 1) := by decide +kernel
theorem dX0_timeFromBegin_39 : decode cX0_timeFromBegin 39 = .ok (.getfield 11, 3) := by decide +kernel
theorem dX0_timeFromBegin_42 : decode cX0_timeFromBegin 42 = .ok (.iload 5, 2) := by decide +kernel
theorem dX0_timeFromBegin_44 : decode cX0_timeFromBegin 44 = .ok (.aaload, 1) := by decide +kernel
theorem dX0_timeFromBegin_45 : decode cX0_timeFromBegin 45 = .ok (.getfield 45, 3) := by decide +kernel
theorem dX0_timeFromBegin_48 : decode cX0_timeFromBegin 48 = .ok (.lmul, 1) := by decide +kernel
theorem dX0_timeFromBegin_49 : decode cX0_timeFromBegin 49 = .ok (.lstore_n 3, 1) := by decide +kernel
theorem dX0_timeFromBegin_50 : decode cX0_timeFromBegin 50 = .ok (.lload_n 3, 1) := by decide +kernel
theorem dX0_timeFromBegin_51 : decode cX0_timeFromBegin 51 = .ok (.aload_n 0, 1) := by decide +kernel
theorem dX0_timeFromBegin_52 : decode cX0_timeFromBegin 52 = .ok (.getfield 11, 3) := by decide +kernel
theorem dX0_timeFromBegin_55 : decode cX0_timeFromBegin 55 = .ok (.iload 5, 2) := by decide +kernel
theorem dX0_timeFromBegin_57 : decode cX0_timeFromBegin 57 = .ok (.aaload, 1) := by decide +kernel
theorem dX0_timeFromBegin_58 : decode cX0_timeFromBegin 58 = .ok (.getfield 35, 3) := by decide +kernel
theorem dX0_timeFromBegin_61 : decode cX0_timeFromBegin 61 = .ok (.ladd, 1) := by decide +kernel
theorem dX0_timeFromBegin_62 : decode cX0_timeFromBegin 62 = .ok (.lstore_n 3, 1) := by decide +kernel
theorem dX0_timeFromBegin_63 : decode cX0_timeFromBegin 63 = .ok (.iinc 5 1, 3) := by decide +kernel
theorem dX0_timeFromBegin_66 : decode cX0_timeFromBegin 66 = .ok (.goto (-61), 3) := by decide +kernel
theorem dX0_timeFromBegin_69 : decode cX0_timeFromBegin 69 = .ok (.lload_n 3, 1) := by decide +kernel
theorem dX0_timeFromBegin_70 : decode cX0_timeFromBegin 70 = .ok (.lload_n 1, 1) := by decide +kernel
theorem dX0_timeFromBegin_71 : decode cX0_timeFromBegin 71 = .ok (.lsub, 1) := by decide +kernel
theorem dX0_timeFromBegin_72 : decode cX0_timeFromBegin 72 = .ok (.lreturn, 1) := by decide +kernel
theorem dX1_init_0 : decode cX1_init 0 = .ok (.aload_n 0, 1) := by decide +kernel
theorem dX1_init_1 : decode cX1_init 1 = .ok (.invokespecial 1, 3) := by decide +kernel
theorem dX1_init_4 : decode cX1_init 4 = .ok (.aload_n 0, 1) := by decide +kernel
theorem dX1_init_5 : decode cX1_init 5 = .ok (.lload_n 1, 1) := by decide +kernel
theorem dX1_init_6 : decode cX1_init 6 = .ok (.putfield 7, 3) := by decide +kernel
theorem dX1_init_9 : decode cX1_init 9 = .ok (.aload_n 0, 1) := by decide +kernel
theorem dX1_init_10 : decode cX1_init 10 = .ok (.lload_n 3, 1) := by decide +kernel
theorem dX1_init_11 : decode cX1_init 11 = .ok (.putfield 13, 3) := by decide +kernel
theorem dX1_init_14 : decode cX1_init 14 = .ok (.aload_n 0, 1) := by decide +kernel
theorem dX1_init_15 : decode cX1_init 15 = .ok (.lconst 0, 1) := by decide +kernel
theorem dX1_init_16 : decode cX1_init 16 = .ok (.putfield 16, 3) := by decide +kernel
theorem dX1_init_19 : decode cX1_init 19 = .ok (.aload_n 0, 1) := by decide +kernel
theorem dX1_init_20 : decode cX1_init 20 = .ok (.lconst 1, 1) := by decide +kernel
theorem dX1_init_21 : decode cX1_init 21 = .ok (.putfield 19, 3) := by decide +kernel
theorem dX1_init_24 : decode cX1_init 24 = .ok (.return_, 1) := by decide +kernel
theorem dX1_longPeriod_0 : decode cX1_longPeriod 0 = .ok (.aload_n 0, 1) := by decide +kernel
theorem dX1_longPeriod_1 : decode cX1_longPeriod 1 = .ok (.getfield 7, 3) := by decide +kernel
theorem dX1_longPeriod_4 : decode cX1_longPeriod 4 = .ok (.aload_n 0, 1) := by decide +kernel
theorem dX1_longPeriod_5 : decode cX1_longPeriod 5 = .ok (.getfield 19, 3) := by decide +kernel
theorem dX1_longPeriod_8 : decode cX1_longPeriod 8 = .ok (.aload_n 0, 1) := by decide +kernel
theorem dX1_longPeriod_9 : decode cX1_longPeriod 9 = .ok (.getfield 16, 3) := by decide +kernel
theorem dX1_longPeriod_12 : decode cX1_longPeriod 12 = .ok (.ladd, 1) := by decide +kernel
theorem dX1_longPeriod_13 : decode cX1_longPeriod 13 = .ok (.lmul, 1) := by decide +kernel
theorem dX1_longPeriod_14 : decode cX1_longPeriod 14 = .ok (.aload_n 0, 1) := by decide +kernel
theorem dX1_longPeriod_15 : decode cX1_longPeriod 15 = .ok (.getfield 19, 3) := by decide +kernel
theorem dX1_longPeriod_18 : decode cX1_longPeriod 18 = .ok (.invokestatic 22, 3) := by decide +kernel
theorem dX1_longPeriod_21 : decode cX1_longPeriod 21 = .ok (.lreturn, 1) := by decide +kernel
end
section
section RW
variable {p : Program} {l : Launch} {e : Env} {R : Room} {s : State} {m : MethodId} {args : Array Value} {below : List Frame} {meth : Method} {c : Code} {H : Heap} {locs : List Loc} {cells slots : Nat} {Q : State → Prop}
variable {cc : ByteArray} {pc : Nat} {ls : Array Slot} {rest : List Value}
theorem n_ladd (hx : p.tables.exec = Jvm.exec) (hb : c.code = cc) {a b : Nat} (hdg : decode cc pc = .ok (.ladd, 1)) (k : W p l e R s m args below meth c H locs cells slots Q (F0 m (pc + 1) ls (.long (lN (a + b)) :: rest))) : W p l e R s m args below meth c H locs cells slots Q (F0 m pc ls (.long (lN b) :: .long (lN a) :: rest)) := lv_ladd hx hb hdg (by rw [lN_add]; exact k)
theorem n_lmul (hx : p.tables.exec = Jvm.exec) (hb : c.code = cc) {a b : Nat} (hdg : decode cc pc = .ok (.lmul, 1)) (k : W p l e R s m args below meth c H locs cells slots Q (F0 m (pc + 1) ls (.long (lN (a * b)) :: rest))) : W p l e R s m args below meth c H locs cells slots Q (F0 m pc ls (.long (lN b) :: .long (lN a) :: rest)) := lv_lmul hx hb hdg (by rw [lN_mul]; exact k)
theorem n_lsub (hx : p.tables.exec = Jvm.exec) (hb : c.code = cc) {a b : Nat} (h : b ≤ a) (hdg : decode cc pc = .ok (.lsub, 1)) (k : W p l e R s m args below meth c H locs cells slots Q (F0 m (pc + 1) ls (.long (lN (a - b)) :: rest))) : W p l e R s m args below meth c H locs cells slots Q (F0 m pc ls (.long (lN b) :: .long (lN a) :: rest)) := lv_lsub hx hb hdg (by rw [lN_sub h]; exact k)
theorem n_ldiv (hx : p.tables.exec = Jvm.exec) (hb : c.code = cc) {a b : Nat} (h1 : a < 2 ^ 63) (h0 : 0 < b) (h2 : b < 2 ^ 63) (hdg : decode cc pc = .ok (.ldiv, 1)) (k : W p l e R s m args below meth c H locs cells slots Q (F0 m (pc + 1) ls (.long (lN (a / b)) :: rest))) : W p l e R s m args below meth c H locs cells slots Q (F0 m pc ls (.long (lN b) :: .long (lN a) :: rest)) := lv_ldiv hx hb hdg (fun q => by have := (pk_lEQ (b := 0) h2 (by decide)).mp q; omega) (by rw [pk_lDiv h1 h0 h2]; exact k)
theorem n_lrem (hx : p.tables.exec = Jvm.exec) (hb : c.code = cc) {a b : Nat} (h1 : a < 2 ^ 63) (h0 : 0 < b) (h2 : b < 2 ^ 63) (hdg : decode cc pc = .ok (.lrem, 1)) (k : W p l e R s m args below meth c H locs cells slots Q (F0 m (pc + 1) ls (.long (lN (a % b)) :: rest))) : W p l e R s m args below meth c H locs cells slots Q (F0 m pc ls (.long (lN b) :: .long (lN a) :: rest)) := lv_lrem hx hb hdg (fun q => by have := (pk_lEQ (b := 0) h2 (by decide)).mp q; omega) (by rw [pk_lRem h1 h0 h2]; exact k)
theorem n_iadd (hx : p.tables.exec = Jvm.exec) (hb : c.code = cc) {a b : Nat} (hdg : decode cc pc = .ok (.iadd, 1)) (k : W p l e R s m args below meth c H locs cells slots Q (F0 m (pc + 1) ls (.int (nI (a + b)) :: rest))) : W p l e R s m args below meth c H locs cells slots Q (F0 m pc ls (.int (nI b) :: .int (nI a) :: rest)) := lv_iadd hx hb hdg (by rw [nI_add]; exact k)
theorem n_isub (hx : p.tables.exec = Jvm.exec) (hb : c.code = cc) {a b : Nat} (h : b ≤ a) (hdg : decode cc pc = .ok (.isub, 1)) (k : W p l e R s m args below meth c H locs cells slots Q (F0 m (pc + 1) ls (.int (nI (a - b)) :: rest))) : W p l e R s m args below meth c H locs cells slots Q (F0 m pc ls (.int (nI b) :: .int (nI a) :: rest)) := lv_isub hx hb hdg (by rw [pk_sub h]; exact k)
theorem n_imul (hx : p.tables.exec = Jvm.exec) (hb : c.code = cc) {a b : Nat} (hdg : decode cc pc = .ok (.imul, 1)) (k : W p l e R s m args below meth c H locs cells slots Q (F0 m (pc + 1) ls (.int (nI (a * b)) :: rest))) : W p l e R s m args below meth c H locs cells slots Q (F0 m pc ls (.int (nI b) :: .int (nI a) :: rest)) := lv_imul hx hb hdg (by rw [pk_mul]; exact k)
theorem r_lcmp_eq (hx : p.tables.exec = Jvm.exec) (hb : c.code = cc) {x y : Int64} {off : Int} {tgt : Nat} (hd1 : decode cc pc = .ok (.lcmp, 1)) (hd2 : decode cc (pc + 1) = .ok (.ifCond .eq off, 3)) (ht : ((pc + 1 : Nat) : Int) + off = (tgt : Int)) (kt : x.toInt = y.toInt → W p l e R s m args below meth c H locs cells slots Q (F0 m tgt ls rest)) (kf : ¬ x.toInt = y.toInt → W p l e R s m args below meth c H locs cells slots Q (F0 m (pc + 4) ls rest)) : W p l e R s m args below meth c H locs cells slots Q (F0 m pc ls (.long y :: .long x :: rest)) := by
  refine W.lcmp hx hb hd1 (lv_if_eq hx hb hd2 ht (fun h => kt ?_) (fun h => kf ?_))
  all_goals (rw [lg_cmp_eq, ← Int64.toInt_inj] at h; omega)
theorem n_lcmp_eq (hx : p.tables.exec = Jvm.exec) (hb : c.code = cc) {a b : Nat} {off : Int} {tgt : Nat} (ha : a < 2 ^ 63) (hb2 : b < 2 ^ 63) (hd1 : decode cc pc = .ok (.lcmp, 1)) (hd2 : decode cc (pc + 1) = .ok (.ifCond .eq off, 3)) (ht : ((pc + 1 : Nat) : Int) + off = (tgt : Int)) (kt : a = b → W p l e R s m args below meth c H locs cells slots Q (F0 m tgt ls rest)) (kf : ¬ a = b → W p l e R s m args below meth c H locs cells slots Q (F0 m (pc + 4) ls rest)) : W p l e R s m args below meth c H locs cells slots Q (F0 m pc ls (.long (lN b) :: .long (lN a) :: rest)) := by
  refine r_lcmp_eq hx hb hd1 hd2 ht (fun h => kt ?_) (fun h => kf ?_)
  all_goals (rw [pk_lT ha, pk_lT hb2] at h; omega)
theorem r_lcmp_ne (hx : p.tables.exec = Jvm.exec) (hb : c.code = cc) {x y : Int64} {off : Int} {tgt : Nat} (hd1 : decode cc pc = .ok (.lcmp, 1)) (hd2 : decode cc (pc + 1) = .ok (.ifCond .ne off, 3)) (ht : ((pc + 1 : Nat) : Int) + off = (tgt : Int)) (kt : ¬ x.toInt = y.toInt → W p l e R s m args below meth c H locs cells slots Q (F0 m tgt ls rest)) (kf : x.toInt = y.toInt → W p l e R s m args below meth c H locs cells slots Q (F0 m (pc + 4) ls rest)) : W p l e R s m args below meth c H locs cells slots Q (F0 m pc ls (.long y :: .long x :: rest)) := by
  refine W.lcmp hx hb hd1 (lv_if_ne hx hb hd2 ht (fun h => kt ?_) (fun h => kf ?_))
  all_goals (rw [lg_cmp_eq, ← Int64.toInt_inj] at h; omega)
theorem n_lcmp_ne (hx : p.tables.exec = Jvm.exec) (hb : c.code = cc) {a b : Nat} {off : Int} {tgt : Nat} (ha : a < 2 ^ 63) (hb2 : b < 2 ^ 63) (hd1 : decode cc pc = .ok (.lcmp, 1)) (hd2 : decode cc (pc + 1) = .ok (.ifCond .ne off, 3)) (ht : ((pc + 1 : Nat) : Int) + off = (tgt : Int)) (kt : ¬ a = b → W p l e R s m args below meth c H locs cells slots Q (F0 m tgt ls rest)) (kf : a = b → W p l e R s m args below meth c H locs cells slots Q (F0 m (pc + 4) ls rest)) : W p l e R s m args below meth c H locs cells slots Q (F0 m pc ls (.long (lN b) :: .long (lN a) :: rest)) := by
  refine r_lcmp_ne hx hb hd1 hd2 ht (fun h => kt ?_) (fun h => kf ?_)
  all_goals (rw [pk_lT ha, pk_lT hb2] at h; omega)
theorem r_lcmp_lt (hx : p.tables.exec = Jvm.exec) (hb : c.code = cc) {x y : Int64} {off : Int} {tgt : Nat} (hd1 : decode cc pc = .ok (.lcmp, 1)) (hd2 : decode cc (pc + 1) = .ok (.ifCond .lt off, 3)) (ht : ((pc + 1 : Nat) : Int) + off = (tgt : Int)) (kt : x.toInt < y.toInt → W p l e R s m args below meth c H locs cells slots Q (F0 m tgt ls rest)) (kf : y.toInt ≤ x.toInt → W p l e R s m args below meth c H locs cells slots Q (F0 m (pc + 4) ls rest)) : W p l e R s m args below meth c H locs cells slots Q (F0 m pc ls (.long y :: .long x :: rest)) := by
  refine W.lcmp hx hb hd1 (lv_if_lt hx hb hd2 ht (fun h => kt ?_) (fun h => kf ?_))
  all_goals (rw [lg_cmp_lt, Int64.lt_iff_toInt_lt] at h; omega)
theorem n_lcmp_lt (hx : p.tables.exec = Jvm.exec) (hb : c.code = cc) {a b : Nat} {off : Int} {tgt : Nat} (ha : a < 2 ^ 63) (hb2 : b < 2 ^ 63) (hd1 : decode cc pc = .ok (.lcmp, 1)) (hd2 : decode cc (pc + 1) = .ok (.ifCond .lt off, 3)) (ht : ((pc + 1 : Nat) : Int) + off = (tgt : Int)) (kt : a < b → W p l e R s m args below meth c H locs cells slots Q (F0 m tgt ls rest)) (kf : b ≤ a → W p l e R s m args below meth c H locs cells slots Q (F0 m (pc + 4) ls rest)) : W p l e R s m args below meth c H locs cells slots Q (F0 m pc ls (.long (lN b) :: .long (lN a) :: rest)) := by
  refine r_lcmp_lt hx hb hd1 hd2 ht (fun h => kt ?_) (fun h => kf ?_)
  all_goals (rw [pk_lT ha, pk_lT hb2] at h; omega)
theorem r_lcmp_ge (hx : p.tables.exec = Jvm.exec) (hb : c.code = cc) {x y : Int64} {off : Int} {tgt : Nat} (hd1 : decode cc pc = .ok (.lcmp, 1)) (hd2 : decode cc (pc + 1) = .ok (.ifCond .ge off, 3)) (ht : ((pc + 1 : Nat) : Int) + off = (tgt : Int)) (kt : y.toInt ≤ x.toInt → W p l e R s m args below meth c H locs cells slots Q (F0 m tgt ls rest)) (kf : x.toInt < y.toInt → W p l e R s m args below meth c H locs cells slots Q (F0 m (pc + 4) ls rest)) : W p l e R s m args below meth c H locs cells slots Q (F0 m pc ls (.long y :: .long x :: rest)) := by
  refine W.lcmp hx hb hd1 (lv_if_ge hx hb hd2 ht (fun h => kt ?_) (fun h => kf ?_))
  all_goals (rw [lg_cmp_ge, Int64.le_iff_toInt_le] at h; omega)
theorem n_lcmp_ge (hx : p.tables.exec = Jvm.exec) (hb : c.code = cc) {a b : Nat} {off : Int} {tgt : Nat} (ha : a < 2 ^ 63) (hb2 : b < 2 ^ 63) (hd1 : decode cc pc = .ok (.lcmp, 1)) (hd2 : decode cc (pc + 1) = .ok (.ifCond .ge off, 3)) (ht : ((pc + 1 : Nat) : Int) + off = (tgt : Int)) (kt : b ≤ a → W p l e R s m args below meth c H locs cells slots Q (F0 m tgt ls rest)) (kf : a < b → W p l e R s m args below meth c H locs cells slots Q (F0 m (pc + 4) ls rest)) : W p l e R s m args below meth c H locs cells slots Q (F0 m pc ls (.long (lN b) :: .long (lN a) :: rest)) := by
  refine r_lcmp_ge hx hb hd1 hd2 ht (fun h => kt ?_) (fun h => kf ?_)
  all_goals (rw [pk_lT ha, pk_lT hb2] at h; omega)
theorem r_lcmp_gt (hx : p.tables.exec = Jvm.exec) (hb : c.code = cc) {x y : Int64} {off : Int} {tgt : Nat} (hd1 : decode cc pc = .ok (.lcmp, 1)) (hd2 : decode cc (pc + 1) = .ok (.ifCond .gt off, 3)) (ht : ((pc + 1 : Nat) : Int) + off = (tgt : Int)) (kt : y.toInt < x.toInt → W p l e R s m args below meth c H locs cells slots Q (F0 m tgt ls rest)) (kf : x.toInt ≤ y.toInt → W p l e R s m args below meth c H locs cells slots Q (F0 m (pc + 4) ls rest)) : W p l e R s m args below meth c H locs cells slots Q (F0 m pc ls (.long y :: .long x :: rest)) := by
  refine W.lcmp hx hb hd1 (lv_if_gt hx hb hd2 ht (fun h => kt ?_) (fun h => kf ?_))
  all_goals (rw [lg_cmp_gt, Int64.lt_iff_toInt_lt] at h; omega)
theorem n_lcmp_gt (hx : p.tables.exec = Jvm.exec) (hb : c.code = cc) {a b : Nat} {off : Int} {tgt : Nat} (ha : a < 2 ^ 63) (hb2 : b < 2 ^ 63) (hd1 : decode cc pc = .ok (.lcmp, 1)) (hd2 : decode cc (pc + 1) = .ok (.ifCond .gt off, 3)) (ht : ((pc + 1 : Nat) : Int) + off = (tgt : Int)) (kt : b < a → W p l e R s m args below meth c H locs cells slots Q (F0 m tgt ls rest)) (kf : a ≤ b → W p l e R s m args below meth c H locs cells slots Q (F0 m (pc + 4) ls rest)) : W p l e R s m args below meth c H locs cells slots Q (F0 m pc ls (.long (lN b) :: .long (lN a) :: rest)) := by
  refine r_lcmp_gt hx hb hd1 hd2 ht (fun h => kt ?_) (fun h => kf ?_)
  all_goals (rw [pk_lT ha, pk_lT hb2] at h; omega)
theorem r_lcmp_le (hx : p.tables.exec = Jvm.exec) (hb : c.code = cc) {x y : Int64} {off : Int} {tgt : Nat} (hd1 : decode cc pc = .ok (.lcmp, 1)) (hd2 : decode cc (pc + 1) = .ok (.ifCond .le off, 3)) (ht : ((pc + 1 : Nat) : Int) + off = (tgt : Int)) (kt : x.toInt ≤ y.toInt → W p l e R s m args below meth c H locs cells slots Q (F0 m tgt ls rest)) (kf : y.toInt < x.toInt → W p l e R s m args below meth c H locs cells slots Q (F0 m (pc + 4) ls rest)) : W p l e R s m args below meth c H locs cells slots Q (F0 m pc ls (.long y :: .long x :: rest)) := by
  refine W.lcmp hx hb hd1 (lv_if_le hx hb hd2 ht (fun h => kt ?_) (fun h => kf ?_))
  all_goals (rw [lg_cmp_le, Int64.le_iff_toInt_le] at h; omega)
theorem n_lcmp_le (hx : p.tables.exec = Jvm.exec) (hb : c.code = cc) {a b : Nat} {off : Int} {tgt : Nat} (ha : a < 2 ^ 63) (hb2 : b < 2 ^ 63) (hd1 : decode cc pc = .ok (.lcmp, 1)) (hd2 : decode cc (pc + 1) = .ok (.ifCond .le off, 3)) (ht : ((pc + 1 : Nat) : Int) + off = (tgt : Int)) (kt : a ≤ b → W p l e R s m args below meth c H locs cells slots Q (F0 m tgt ls rest)) (kf : b < a → W p l e R s m args below meth c H locs cells slots Q (F0 m (pc + 4) ls rest)) : W p l e R s m args below meth c H locs cells slots Q (F0 m pc ls (.long (lN b) :: .long (lN a) :: rest)) := by
  refine r_lcmp_le hx hb hd1 hd2 ht (fun h => kt ?_) (fun h => kf ?_)
  all_goals (rw [pk_lT ha, pk_lT hb2] at h; omega)
theorem r_icmp_eq (hx : p.tables.exec = Jvm.exec) (hb : c.code = cc) {x y : Int32} {off : Int} {tgt : Nat} (hdg : decode cc pc = .ok (.if_icmp .eq off, 3)) (ht : (pc : Int) + off = (tgt : Int)) (kt : x.toInt = y.toInt → W p l e R s m args below meth c H locs cells slots Q (F0 m tgt ls rest)) (kf : ¬ x.toInt = y.toInt → W p l e R s m args below meth c H locs cells slots Q (F0 m (pc + 3) ls rest)) : W p l e R s m args below meth c H locs cells slots Q (F0 m pc ls (.int y :: .int x :: rest)) := by
  refine lv_icmp_eq hx hb hdg ht (fun h => kt ?_) (fun h => kf ?_)
  all_goals (rw [← Int32.toInt_inj] at h; omega)
theorem n_icmp_eq (hx : p.tables.exec = Jvm.exec) (hb : c.code = cc) {a b : Nat} {off : Int} {tgt : Nat} (ha : a < 2 ^ 31) (hb2 : b < 2 ^ 31) (hdg : decode cc pc = .ok (.if_icmp .eq off, 3)) (ht : (pc : Int) + off = (tgt : Int)) (kt : a = b → W p l e R s m args below meth c H locs cells slots Q (F0 m tgt ls rest)) (kf : ¬ a = b → W p l e R s m args below meth c H locs cells slots Q (F0 m (pc + 3) ls rest)) : W p l e R s m args below meth c H locs cells slots Q (F0 m pc ls (.int (nI b) :: .int (nI a) :: rest)) := by
  refine r_icmp_eq hx hb hdg ht (fun h => kt ?_) (fun h => kf ?_)
  all_goals (rw [nI_toInt ha, nI_toInt hb2] at h; omega)
theorem r_icmp_ne (hx : p.tables.exec = Jvm.exec) (hb : c.code = cc) {x y : Int32} {off : Int} {tgt : Nat} (hdg : decode cc pc = .ok (.if_icmp .ne off, 3)) (ht : (pc : Int) + off = (tgt : Int)) (kt : ¬ x.toInt = y.toInt → W p l e R s m args below meth c H locs cells slots Q (F0 m tgt ls rest)) (kf : x.toInt = y.toInt → W p l e R s m args below meth c H locs cells slots Q (F0 m (pc + 3) ls rest)) : W p l e R s m args below meth c H locs cells slots Q (F0 m pc ls (.int y :: .int x :: rest)) := by
  refine lv_icmp_ne hx hb hdg ht (fun h => kt ?_) (fun h => kf ?_)
  all_goals (rw [← Int32.toInt_inj] at h; omega)
theorem n_icmp_ne (hx : p.tables.exec = Jvm.exec) (hb : c.code = cc) {a b : Nat} {off : Int} {tgt : Nat} (ha : a < 2 ^ 31) (hb2 : b < 2 ^ 31) (hdg : decode cc pc = .ok (.if_icmp .ne off, 3)) (ht : (pc : Int) + off = (tgt : Int)) (kt : ¬ a = b → W p l e R s m args below meth c H locs cells slots Q (F0 m tgt ls rest)) (kf : a = b → W p l e R s m args below meth c H locs cells slots Q (F0 m (pc + 3) ls rest)) : W p l e R s m args below meth c H locs cells slots Q (F0 m pc ls (.int (nI b) :: .int (nI a) :: rest)) := by
  refine r_icmp_ne hx hb hdg ht (fun h => kt ?_) (fun h => kf ?_)
  all_goals (rw [nI_toInt ha, nI_toInt hb2] at h; omega)
theorem r_icmp_lt (hx : p.tables.exec = Jvm.exec) (hb : c.code = cc) {x y : Int32} {off : Int} {tgt : Nat} (hdg : decode cc pc = .ok (.if_icmp .lt off, 3)) (ht : (pc : Int) + off = (tgt : Int)) (kt : x.toInt < y.toInt → W p l e R s m args below meth c H locs cells slots Q (F0 m tgt ls rest)) (kf : y.toInt ≤ x.toInt → W p l e R s m args below meth c H locs cells slots Q (F0 m (pc + 3) ls rest)) : W p l e R s m args below meth c H locs cells slots Q (F0 m pc ls (.int y :: .int x :: rest)) := by
  refine lv_icmp_lt hx hb hdg ht (fun h => kt ?_) (fun h => kf ?_)
  all_goals (rw [Int32.lt_iff_toInt_lt] at h; omega)
theorem n_icmp_lt (hx : p.tables.exec = Jvm.exec) (hb : c.code = cc) {a b : Nat} {off : Int} {tgt : Nat} (ha : a < 2 ^ 31) (hb2 : b < 2 ^ 31) (hdg : decode cc pc = .ok (.if_icmp .lt off, 3)) (ht : (pc : Int) + off = (tgt : Int)) (kt : a < b → W p l e R s m args below meth c H locs cells slots Q (F0 m tgt ls rest)) (kf : b ≤ a → W p l e R s m args below meth c H locs cells slots Q (F0 m (pc + 3) ls rest)) : W p l e R s m args below meth c H locs cells slots Q (F0 m pc ls (.int (nI b) :: .int (nI a) :: rest)) := by
  refine r_icmp_lt hx hb hdg ht (fun h => kt ?_) (fun h => kf ?_)
  all_goals (rw [nI_toInt ha, nI_toInt hb2] at h; omega)
theorem r_icmp_ge (hx : p.tables.exec = Jvm.exec) (hb : c.code = cc) {x y : Int32} {off : Int} {tgt : Nat} (hdg : decode cc pc = .ok (.if_icmp .ge off, 3)) (ht : (pc : Int) + off = (tgt : Int)) (kt : y.toInt ≤ x.toInt → W p l e R s m args below meth c H locs cells slots Q (F0 m tgt ls rest)) (kf : x.toInt < y.toInt → W p l e R s m args below meth c H locs cells slots Q (F0 m (pc + 3) ls rest)) : W p l e R s m args below meth c H locs cells slots Q (F0 m pc ls (.int y :: .int x :: rest)) := by
  refine lv_icmp_ge hx hb hdg ht (fun h => kt ?_) (fun h => kf ?_)
  all_goals (rw [Int32.le_iff_toInt_le] at h; omega)
theorem n_icmp_ge (hx : p.tables.exec = Jvm.exec) (hb : c.code = cc) {a b : Nat} {off : Int} {tgt : Nat} (ha : a < 2 ^ 31) (hb2 : b < 2 ^ 31) (hdg : decode cc pc = .ok (.if_icmp .ge off, 3)) (ht : (pc : Int) + off = (tgt : Int)) (kt : b ≤ a → W p l e R s m args below meth c H locs cells slots Q (F0 m tgt ls rest)) (kf : a < b → W p l e R s m args below meth c H locs cells slots Q (F0 m (pc + 3) ls rest)) : W p l e R s m args below meth c H locs cells slots Q (F0 m pc ls (.int (nI b) :: .int (nI a) :: rest)) := by
  refine r_icmp_ge hx hb hdg ht (fun h => kt ?_) (fun h => kf ?_)
  all_goals (rw [nI_toInt ha, nI_toInt hb2] at h; omega)
theorem r_icmp_gt (hx : p.tables.exec = Jvm.exec) (hb : c.code = cc) {x y : Int32} {off : Int} {tgt : Nat} (hdg : decode cc pc = .ok (.if_icmp .gt off, 3)) (ht : (pc : Int) + off = (tgt : Int)) (kt : y.toInt < x.toInt → W p l e R s m args below meth c H locs cells slots Q (F0 m tgt ls rest)) (kf : x.toInt ≤ y.toInt → W p l e R s m args below meth c H locs cells slots Q (F0 m (pc + 3) ls rest)) : W p l e R s m args below meth c H locs cells slots Q (F0 m pc ls (.int y :: .int x :: rest)) := by
  refine lv_icmp_gt hx hb hdg ht (fun h => kt ?_) (fun h => kf ?_)
  all_goals (rw [Int32.lt_iff_toInt_lt] at h; omega)
theorem n_icmp_gt (hx : p.tables.exec = Jvm.exec) (hb : c.code = cc) {a b : Nat} {off : Int} {tgt : Nat} (ha : a < 2 ^ 31) (hb2 : b < 2 ^ 31) (hdg : decode cc pc = .ok (.if_icmp .gt off, 3)) (ht : (pc : Int) + off = (tgt : Int)) (kt : b < a → W p l e R s m args below meth c H locs cells slots Q (F0 m tgt ls rest)) (kf : a ≤ b → W p l e R s m args below meth c H locs cells slots Q (F0 m (pc + 3) ls rest)) : W p l e R s m args below meth c H locs cells slots Q (F0 m pc ls (.int (nI b) :: .int (nI a) :: rest)) := by
  refine r_icmp_gt hx hb hdg ht (fun h => kt ?_) (fun h => kf ?_)
  all_goals (rw [nI_toInt ha, nI_toInt hb2] at h; omega)
theorem r_icmp_le (hx : p.tables.exec = Jvm.exec) (hb : c.code = cc) {x y : Int32} {off : Int} {tgt : Nat} (hdg : decode cc pc = .ok (.if_icmp .le off, 3)) (ht : (pc : Int) + off = (tgt : Int)) (kt : x.toInt ≤ y.toInt → W p l e R s m args below meth c H locs cells slots Q (F0 m tgt ls rest)) (kf : y.toInt < x.toInt → W p l e R s m args below meth c H locs cells slots Q (F0 m (pc + 3) ls rest)) : W p l e R s m args below meth c H locs cells slots Q (F0 m pc ls (.int y :: .int x :: rest)) := by
  refine lv_icmp_le hx hb hdg ht (fun h => kt ?_) (fun h => kf ?_)
  all_goals (rw [Int32.le_iff_toInt_le] at h; omega)
theorem n_icmp_le (hx : p.tables.exec = Jvm.exec) (hb : c.code = cc) {a b : Nat} {off : Int} {tgt : Nat} (ha : a < 2 ^ 31) (hb2 : b < 2 ^ 31) (hdg : decode cc pc = .ok (.if_icmp .le off, 3)) (ht : (pc : Int) + off = (tgt : Int)) (kt : a ≤ b → W p l e R s m args below meth c H locs cells slots Q (F0 m tgt ls rest)) (kf : b < a → W p l e R s m args below meth c H locs cells slots Q (F0 m (pc + 3) ls rest)) : W p l e R s m args below meth c H locs cells slots Q (F0 m pc ls (.int (nI b) :: .int (nI a) :: rest)) := by
  refine r_icmp_le hx hb hdg ht (fun h => kt ?_) (fun h => kf ?_)
  all_goals (rw [nI_toInt ha, nI_toInt hb2] at h; omega)
theorem r_if_eq (hx : p.tables.exec = Jvm.exec) (hb : c.code = cc) {x : Int32} {off : Int} {tgt : Nat} (hdg : decode cc pc = .ok (.ifCond .eq off, 3)) (ht : (pc : Int) + off = (tgt : Int)) (kt : x.toInt = 0 → W p l e R s m args below meth c H locs cells slots Q (F0 m tgt ls rest)) (kf : ¬ x.toInt = 0 → W p l e R s m args below meth c H locs cells slots Q (F0 m (pc + 3) ls rest)) : W p l e R s m args below meth c H locs cells slots Q (F0 m pc ls (.int x :: rest)) := by
  refine lv_if_eq hx hb hdg ht (fun h => kt ?_) (fun h => kf ?_)
  all_goals (rw [← Int32.toInt_inj, Int32.toInt_zero] at h; omega)
theorem r_if_ne (hx : p.tables.exec = Jvm.exec) (hb : c.code = cc) {x : Int32} {off : Int} {tgt : Nat} (hdg : decode cc pc = .ok (.ifCond .ne off, 3)) (ht : (pc : Int) + off = (tgt : Int)) (kt : ¬ x.toInt = 0 → W p l e R s m args below meth c H locs cells slots Q (F0 m tgt ls rest)) (kf : x.toInt = 0 → W p l e R s m args below meth c H locs cells slots Q (F0 m (pc + 3) ls rest)) : W p l e R s m args below meth c H locs cells slots Q (F0 m pc ls (.int x :: rest)) := by
  refine lv_if_ne hx hb hdg ht (fun h => kt ?_) (fun h => kf ?_)
  all_goals (rw [← Int32.toInt_inj, Int32.toInt_zero] at h; omega)
theorem r_if_lt (hx : p.tables.exec = Jvm.exec) (hb : c.code = cc) {x : Int32} {off : Int} {tgt : Nat} (hdg : decode cc pc = .ok (.ifCond .lt off, 3)) (ht : (pc : Int) + off = (tgt : Int)) (kt : x.toInt < 0 → W p l e R s m args below meth c H locs cells slots Q (F0 m tgt ls rest)) (kf : 0 ≤ x.toInt → W p l e R s m args below meth c H locs cells slots Q (F0 m (pc + 3) ls rest)) : W p l e R s m args below meth c H locs cells slots Q (F0 m pc ls (.int x :: rest)) := by
  refine lv_if_lt hx hb hdg ht (fun h => kt ?_) (fun h => kf ?_)
  all_goals (rw [Int32.lt_iff_toInt_lt, Int32.toInt_zero] at h; omega)
theorem r_if_ge (hx : p.tables.exec = Jvm.exec) (hb : c.code = cc) {x : Int32} {off : Int} {tgt : Nat} (hdg : decode cc pc = .ok (.ifCond .ge off, 3)) (ht : (pc : Int) + off = (tgt : Int)) (kt : 0 ≤ x.toInt → W p l e R s m args below meth c H locs cells slots Q (F0 m tgt ls rest)) (kf : x.toInt < 0 → W p l e R s m args below meth c H locs cells slots Q (F0 m (pc + 3) ls rest)) : W p l e R s m args below meth c H locs cells slots Q (F0 m pc ls (.int x :: rest)) := by
  refine lv_if_ge hx hb hdg ht (fun h => kt ?_) (fun h => kf ?_)
  all_goals (rw [Int32.le_iff_toInt_le, Int32.toInt_zero] at h; omega)
theorem r_if_gt (hx : p.tables.exec = Jvm.exec) (hb : c.code = cc) {x : Int32} {off : Int} {tgt : Nat} (hdg : decode cc pc = .ok (.ifCond .gt off, 3)) (ht : (pc : Int) + off = (tgt : Int)) (kt : 0 < x.toInt → W p l e R s m args below meth c H locs cells slots Q (F0 m tgt ls rest)) (kf : x.toInt ≤ 0 → W p l e R s m args below meth c H locs cells slots Q (F0 m (pc + 3) ls rest)) : W p l e R s m args below meth c H locs cells slots Q (F0 m pc ls (.int x :: rest)) := by
  refine lv_if_gt hx hb hdg ht (fun h => kt ?_) (fun h => kf ?_)
  all_goals (rw [Int32.lt_iff_toInt_lt, Int32.toInt_zero] at h; omega)
theorem r_if_le (hx : p.tables.exec = Jvm.exec) (hb : c.code = cc) {x : Int32} {off : Int} {tgt : Nat} (hdg : decode cc pc = .ok (.ifCond .le off, 3)) (ht : (pc : Int) + off = (tgt : Int)) (kt : x.toInt ≤ 0 → W p l e R s m args below meth c H locs cells slots Q (F0 m tgt ls rest)) (kf : 0 < x.toInt → W p l e R s m args below meth c H locs cells slots Q (F0 m (pc + 3) ls rest)) : W p l e R s m args below meth c H locs cells slots Q (F0 m pc ls (.int x :: rest)) := by
  refine lv_if_le hx hb hdg ht (fun h => kt ?_) (fun h => kf ?_)
  all_goals (rw [Int32.le_iff_toInt_le, Int32.toInt_zero] at h; omega)
theorem n_if_eq (hx : p.tables.exec = Jvm.exec) (hb : c.code = cc) {a : Nat} {off : Int} {tgt : Nat} (ha : a < 2 ^ 31) (hdg : decode cc pc = .ok (.ifCond .eq off, 3)) (ht : (pc : Int) + off = (tgt : Int)) (kt : a = 0 → W p l e R s m args below meth c H locs cells slots Q (F0 m tgt ls rest)) (kf : ¬ a = 0 → W p l e R s m args below meth c H locs cells slots Q (F0 m (pc + 3) ls rest)) : W p l e R s m args below meth c H locs cells slots Q (F0 m pc ls (.int (nI a) :: rest)) := by
  refine r_if_eq hx hb hdg ht (fun h => kt ?_) (fun h => kf ?_)
  all_goals (rw [nI_toInt ha] at h; omega)
theorem n_if_ne (hx : p.tables.exec = Jvm.exec) (hb : c.code = cc) {a : Nat} {off : Int} {tgt : Nat} (ha : a < 2 ^ 31) (hdg : decode cc pc = .ok (.ifCond .ne off, 3)) (ht : (pc : Int) + off = (tgt : Int)) (kt : ¬ a = 0 → W p l e R s m args below meth c H locs cells slots Q (F0 m tgt ls rest)) (kf : a = 0 → W p l e R s m args below meth c H locs cells slots Q (F0 m (pc + 3) ls rest)) : W p l e R s m args below meth c H locs cells slots Q (F0 m pc ls (.int (nI a) :: rest)) := by
  refine r_if_ne hx hb hdg ht (fun h => kt ?_) (fun h => kf ?_)
  all_goals (rw [nI_toInt ha] at h; omega)
end RW
/-- a boolean as the machine's int -/
def bI (b : Bool) : Int32 := if b then 1 else 0
theorem bI_t : bI true = 1 := rfl
theorem bI_f : bI false = 0 := rfl
theorem bI_nar (b : Bool) : vp_nar .boolean (bI b) = bI b := by cases b <;> decide +kernel
theorem bI_narrow (b : Bool) : narrow .boolean (.int (bI b)) = .int (bI b) := by cases b <;> decide +kernel
theorem bI_inj {a b : Bool} (h : bI a = bI b) : a = b := by
  cases a <;> cases b <;> first | rfl | exact absurd h (by decide)
section RB
variable {p : Program} {l : Launch} {e : Env} {R : Room} {s : State} {m : MethodId} {args : Array Value} {below : List Frame} {meth : Method} {c : Code} {H : Heap} {locs : List Loc} {cells slots : Nat} {Q : State → Prop}
variable {cc : ByteArray} {pc : Nat} {ls : Array Slot} {rest : List Value}
theorem b_if_eq (hx : p.tables.exec = Jvm.exec) (hb : c.code = cc) {z : Bool} {off : Int} {tgt : Nat} (hdg : decode cc pc = .ok (.ifCond .eq off, 3)) (ht : (pc : Int) + off = (tgt : Int)) (kt : z = false → W p l e R s m args below meth c H locs cells slots Q (F0 m tgt ls rest)) (kf : z = true → W p l e R s m args below meth c H locs cells slots Q (F0 m (pc + 3) ls rest)) : W p l e R s m args below meth c H locs cells slots Q (F0 m pc ls (.int (bI z) :: rest)) := by
  refine lv_if_eq hx hb hdg ht (fun h => kt ?_) (fun h => kf ?_)
  all_goals (cases z <;> first | rfl | (simp [bI] at h))
theorem b_if_ne (hx : p.tables.exec = Jvm.exec) (hb : c.code = cc) {z : Bool} {off : Int} {tgt : Nat} (hdg : decode cc pc = .ok (.ifCond .ne off, 3)) (ht : (pc : Int) + off = (tgt : Int)) (kt : z = true → W p l e R s m args below meth c H locs cells slots Q (F0 m tgt ls rest)) (kf : z = false → W p l e R s m args below meth c H locs cells slots Q (F0 m (pc + 3) ls rest)) : W p l e R s m args below meth c H locs cells slots Q (F0 m pc ls (.int (bI z) :: rest)) := by
  refine lv_if_ne hx hb hdg ht (fun h => kt ?_) (fun h => kf ?_)
  all_goals (cases z <;> first | rfl | (simp [bI] at h))
theorem n_i2l (hx : p.tables.exec = Jvm.exec) (hb : c.code = cc) {a : Nat} (ha : a < 2 ^ 31) (hdg : decode cc pc = .ok (.i2l, 1)) (k : W p l e R s m args below meth c H locs cells slots Q (F0 m (pc + 1) ls (.long (lN a) :: rest))) : W p l e R s m args below meth c H locs cells slots Q (F0 m pc ls (.int (nI a) :: rest)) := lv_i2l hx hb hdg (nI_l ha) k
theorem n_l2i (hx : p.tables.exec = Jvm.exec) (hb : c.code = cc) {a : Nat} (hdg : decode cc pc = .ok (.l2i, 1)) (k : W p l e R s m args below meth c H locs cells slots Q (F0 m (pc + 1) ls (.int (nI a) :: rest))) : W p l e R s m args below meth c H locs cells slots Q (F0 m pc ls (.long (lN a) :: rest)) := lv_l2i hx hb hdg (lN_i a) k
theorem n_lmin (hx : p.tables.exec = Jvm.exec) (hb : c.code = cc) (hml : c.maxLocals = ls.size) {own : String} {index : Nat} (hown : s.vm.findClass own = some m.cls) (hlink : (Cond.methodLink own index Lib.MathLoose.min_long.x).before args s = true) (hstat : (Cond.static Lib.MathLoose.min_long.x).before args s = true) (hini : (Cond.initialized "java/lang/Math").before args s = true) (hcode : (Cond.code Lib.MathLoose.min_long.x Lib.MathLoose.min_long.code 4 (some .long)).before args s = true) (hframes : 1 ≤ R.frames) (hlocals : (rest.map fun v => v.category).sum + 15 ≤ R.locals) (hc : cells ≤ R.cells) (hs : slots ≤ R.slots) {a b : Nat} (ha : a < 2 ^ 63) (hb2 : b < 2 ^ 63) (hdg : decode cc pc = .ok (.invokestatic index, 3)) (kk : W p l e R s m args below meth c H locs cells slots Q (F0 m (pc + 3) ls (.long (lN (min a b)) :: rest))) : W p l e R s m args below meth c H locs cells slots Q (F0 m pc ls (.long (lN b) :: .long (lN a) :: rest)) := by
  refine va_mmin_long hx hb hml hown hlink hstat hini hcode hframes hlocals hc hs hdg ?_
  have e : (if lN b < lN a then lN b else lN a : Int64) = lN (min a b) := by
    by_cases h : b < a
    · rw [if_pos ((pk_lLT hb2 ha).mpr h)]; exact congrArg lN (by omega)
    · rw [if_neg (fun q => h ((pk_lLT hb2 ha).mp q))]; exact congrArg lN (by omega)
  rw [e]; exact kk
theorem n_lmax (hx : p.tables.exec = Jvm.exec) (hb : c.code = cc) (hml : c.maxLocals = ls.size) {own : String} {index : Nat} (hown : s.vm.findClass own = some m.cls) (hlink : (Cond.methodLink own index Lib.MathLoose.max_long.x).before args s = true) (hstat : (Cond.static Lib.MathLoose.max_long.x).before args s = true) (hini : (Cond.initialized "java/lang/Math").before args s = true) (hcode : (Cond.code Lib.MathLoose.max_long.x Lib.MathLoose.max_long.code 4 (some .long)).before args s = true) (hframes : 1 ≤ R.frames) (hlocals : (rest.map fun v => v.category).sum + 15 ≤ R.locals) (hc : cells ≤ R.cells) (hs : slots ≤ R.slots) {a b : Nat} (ha : a < 2 ^ 63) (hb2 : b < 2 ^ 63) (hdg : decode cc pc = .ok (.invokestatic index, 3)) (kk : W p l e R s m args below meth c H locs cells slots Q (F0 m (pc + 3) ls (.long (lN (max a b)) :: rest))) : W p l e R s m args below meth c H locs cells slots Q (F0 m pc ls (.long (lN b) :: .long (lN a) :: rest)) := by
  refine va_mmax_long hx hb hml hown hlink hstat hini hcode hframes hlocals hc hs hdg ?_
  have e : (if lN b < lN a then lN a else lN b : Int64) = lN (max a b) := by
    by_cases h : b < a
    · rw [if_pos ((pk_lLT hb2 ha).mpr h)]; exact congrArg lN (by omega)
    · rw [if_neg (fun q => h ((pk_lLT hb2 ha).mp q))]; exact congrArg lN (by omega)
  rw [e]; exact kk
end RB
theorem va_one {D : va_G} {cl : List vw_C} {q : Nat × va_E} {H : Heap} (h : va_at D cl q H) : va_P D cl [q] H := fun k x hk => by
  match k, hk with
  | 0, hk => cases hk; exact h
  | k + 1, hk => simp at hk
theorem va_P.fst {D : va_G} {cl : List vw_C} {q : Nat × va_E} {r : va_W} {H : Heap} (h : va_P D cl (q :: r) H) : va_at D cl q H := h 0 q rfl
theorem va_P.nth {D : va_G} {cl : List vw_C} {ws : va_W} {H : Heap} (h : va_P D cl ws H) (k : Nat) {q : Nat × va_E} (hk : ws[k]? = some q) : va_at D cl q H := h k q hk
theorem va_S.at {A : Nat → Prop} {H0 H : Heap} {locs : List Loc} {D : va_G} {cl : List vw_C} {q : Nat × va_E} (hS : va_S A H0 H locs) (h : va_at D cl q H0) (hn : ¬ A q.1) : va_at D cl q H := h.kept (hS.2.1 q.1 h.lt hn)
theorem va_F.at {A : Nat → Prop} {st t : State} {D : va_G} {cl : List vw_C} {q : Nat × va_E} (hS : va_F A st t) (h : va_at D cl q st.heap) (hn : ¬ A q.1) : va_at D cl q t.heap := h.kept (hS.2 q.1 h.lt hn)
section RG
variable {p : Program} {l : Launch} {e : Env} {R : Room} {s : State} {m : MethodId} {args : Array Value} {below : List Frame} {meth : Method} {c : Code} {H : Heap} {locs : List Loc} {cells slots : Nat} {Q : State → Prop}
variable {cc : ByteArray} {pc : Nat} {ls : Array Slot} {rest : List Value} {D : va_G} {cl : List vw_C} {A : Nat → Prop} {a : Nat} {tys : List (ClassId × FieldType)} {H0 : Heap}
theorem g_get (hx : p.tables.exec = Jvm.exec) (hb : c.code = cc) {own C : String} {T : u_T} {N ci index : Nat} {Ts : List Cond} (hts : ∀ w ∈ Ts, w.before args s = true) (hin : ∀ w ∈ u_ws C T N, w ∈ Ts) (hown : s.vm.findClass own = some m.cls) (hK : va_K D cl tys s) {fs : List Value} (hP : va_at D cl (a, .inr (ci, fs)) H) (hc : cl[ci]? = some (C, T, N)) (k : Nat) (hk : k < N) (hlink : (Cond.fieldLink own index (T k).1 (T k).2.1 (T k).2.2.1).before args s = true) {v : Value} (hv : fs[k]? = some v) (hdg : decode cc pc = .ok (.getfield index, 3)) (kk : W p l e R s m args below meth c H locs cells slots Q (F0 m (pc + 3) ls (v :: rest))) : W p l e R s m args below meth c H locs cells slots Q (F0 m pc ls (.ref a :: rest)) := va_get hx hb hts hin hown hK (va_one hP) 0 rfl hc k hk hlink (fun _ h => h) hv hdg kk
theorem g_getN (hx : p.tables.exec = Jvm.exec) (hb : c.code = cc) {own C host : String} {T : u_T} {N ci index : Nat} {Ts : List Cond} (hts : ∀ w ∈ Ts, w.before args s = true) (hin : ∀ w ∈ u_ws C T N, w ∈ Ts) (hown : s.vm.findClass own = some m.cls) (hK : va_K D cl tys s) {fs : List Value} (hP : va_at D cl (a, .inr (ci, fs)) H) (hc : cl[ci]? = some (C, T, N)) (k : Nat) (hk : k < N) (hlink : (Cond.fieldLinkNest own index (T k).1 (T k).2.1 (T k).2.2.1 host).before args s = true) {v : Value} (hv : fs[k]? = some v) (hdg : decode cc pc = .ok (.getfield index, 3)) (kk : W p l e R s m args below meth c H locs cells slots Q (F0 m (pc + 3) ls (v :: rest))) : W p l e R s m args below meth c H locs cells slots Q (F0 m pc ls (.ref a :: rest)) := va_getN hx hb hts hin hown hK (va_one hP) 0 rfl hc k hk hlink (fun _ h => h) hv hdg kk
theorem g_iald (hx : p.tables.exec = Jvm.exec) (hb : c.code = cc) (hK : va_K D cl tys s) (t0 : Nat) {cA : ClassId} {n : Nat} {f : Nat → Int32} (hP : va_at D cl (a, .inl (cA, n, .inl f)) H) (ht : tys[t0]? = some (cA, .int)) {i : Nat} (hi : i < n) (hn : n < 2 ^ 31) (hdg : decode cc pc = .ok (.iaload, 1)) (kk : W p l e R s m args below meth c H locs cells slots Q (F0 m (pc + 1) ls (.int (f i) :: rest))) : W p l e R s m args below meth c H locs cells slots Q (F0 m pc ls (.int (nI i) :: .ref a :: rest)) := va_iald hx hb hK (va_one hP) 0 t0 rfl ht (vp_in_nI hi hn) hdg (by rw [nI_clamp (by omega)]; exact kk)
theorem g_zald (hx : p.tables.exec = Jvm.exec) (hb : c.code = cc) (hK : va_K D cl tys s) (t0 : Nat) {cA : ClassId} {n : Nat} {f : Nat → Int32} (hP : va_at D cl (a, .inl (cA, n, .inl f)) H) (ht : tys[t0]? = some (cA, .boolean)) {i : Nat} (hi : i < n) (hn : n < 2 ^ 31) (hdg : decode cc pc = .ok (.baload, 1)) (kk : W p l e R s m args below meth c H locs cells slots Q (F0 m (pc + 1) ls (.int (f i) :: rest))) : W p l e R s m args below meth c H locs cells slots Q (F0 m pc ls (.int (nI i) :: .ref a :: rest)) := va_zald hx hb hK (va_one hP) 0 t0 rfl ht (vp_in_nI hi hn) hdg (by rw [nI_clamp (by omega)]; exact kk)
theorem g_lald (hx : p.tables.exec = Jvm.exec) (hb : c.code = cc) (hK : va_K D cl tys s) (t0 : Nat) {cA : ClassId} {n : Nat} {f : Nat → Int64} (hP : va_at D cl (a, .inl (cA, n, .inr (.inl f))) H) (ht : tys[t0]? = some (cA, .long)) {i : Nat} (hi : i < n) (hn : n < 2 ^ 31) (hdg : decode cc pc = .ok (.laload, 1)) (kk : W p l e R s m args below meth c H locs cells slots Q (F0 m (pc + 1) ls (.long (f i) :: rest))) : W p l e R s m args below meth c H locs cells slots Q (F0 m pc ls (.int (nI i) :: .ref a :: rest)) := va_lald hx hb hK (va_one hP) 0 t0 rfl ht (vp_in_nI hi hn) hdg (by rw [nI_clamp (by omega)]; exact kk)
theorem g_aldq (hx : p.tables.exec = Jvm.exec) (hb : c.code = cc) (hK : va_K D cl tys s) (t0 : Nat) {cA : ClassId} {C : String} {n : Nat} {f : Nat → Option Nat} (hP : va_at D cl (a, .inl (cA, n, .inr (.inr (.inr (.inr f))))) H) (ht : tys[t0]? = some (cA, .object C)) {i : Nat} (hi : i < n) (hn : n < 2 ^ 31) (hdg : decode cc pc = .ok (.aaload, 1)) (kk : W p l e R s m args below meth c H locs cells slots Q (F0 m (pc + 1) ls (va_rf (f i) :: rest))) : W p l e R s m args below meth c H locs cells slots Q (F0 m pc ls (.int (nI i) :: .ref a :: rest)) := va_aldq hx hb hK (va_one hP) 0 t0 rfl ht (vp_in_nI hi hn) hdg (by rw [nI_clamp (by omega)]; exact kk)
theorem g_ialdv (hx : p.tables.exec = Jvm.exec) (hb : c.code = cc) (hK : va_K D cl tys s) (t0 : Nat) {cA : ClassId} {n : Nat} {f : Nat → Int32} (hP : va_at D cl (a, .inl (cA, n, .inl f)) H) (ht : tys[t0]? = some (cA, .int)) {i : Nat} (hi : i < n) (hn : n < 2 ^ 31) {v : Int32} (hv : f i = v) (hdg : decode cc pc = .ok (.iaload, 1)) (kk : W p l e R s m args below meth c H locs cells slots Q (F0 m (pc + 1) ls (.int v :: rest))) : W p l e R s m args below meth c H locs cells slots Q (F0 m pc ls (.int (nI i) :: .ref a :: rest)) := g_iald hx hb hK t0 hP ht hi hn hdg (by rw [hv]; exact kk)
theorem g_zaldv (hx : p.tables.exec = Jvm.exec) (hb : c.code = cc) (hK : va_K D cl tys s) (t0 : Nat) {cA : ClassId} {n : Nat} {f : Nat → Int32} (hP : va_at D cl (a, .inl (cA, n, .inl f)) H) (ht : tys[t0]? = some (cA, .boolean)) {i : Nat} (hi : i < n) (hn : n < 2 ^ 31) {v : Int32} (hv : f i = v) (hdg : decode cc pc = .ok (.baload, 1)) (kk : W p l e R s m args below meth c H locs cells slots Q (F0 m (pc + 1) ls (.int v :: rest))) : W p l e R s m args below meth c H locs cells slots Q (F0 m pc ls (.int (nI i) :: .ref a :: rest)) := g_zald hx hb hK t0 hP ht hi hn hdg (by rw [hv]; exact kk)
theorem g_laldv (hx : p.tables.exec = Jvm.exec) (hb : c.code = cc) (hK : va_K D cl tys s) (t0 : Nat) {cA : ClassId} {n : Nat} {f : Nat → Int64} (hP : va_at D cl (a, .inl (cA, n, .inr (.inl f))) H) (ht : tys[t0]? = some (cA, .long)) {i : Nat} (hi : i < n) (hn : n < 2 ^ 31) {v : Int64} (hv : f i = v) (hdg : decode cc pc = .ok (.laload, 1)) (kk : W p l e R s m args below meth c H locs cells slots Q (F0 m (pc + 1) ls (.long v :: rest))) : W p l e R s m args below meth c H locs cells slots Q (F0 m pc ls (.int (nI i) :: .ref a :: rest)) := g_lald hx hb hK t0 hP ht hi hn hdg (by rw [hv]; exact kk)
theorem g_aldr (hx : p.tables.exec = Jvm.exec) (hb : c.code = cc) (hK : va_K D cl tys s) (t0 : Nat) {cA : ClassId} {C : String} {n : Nat} {f : Nat → Option Nat} (hP : va_at D cl (a, .inl (cA, n, .inr (.inr (.inr (.inr f))))) H) (ht : tys[t0]? = some (cA, .object C)) {i : Nat} (hi : i < n) (hn : n < 2 ^ 31) {v : Nat} (hv : f i = some v) (hdg : decode cc pc = .ok (.aaload, 1)) (kk : W p l e R s m args below meth c H locs cells slots Q (F0 m (pc + 1) ls (.ref v :: rest))) : W p l e R s m args below meth c H locs cells slots Q (F0 m pc ls (.int (nI i) :: .ref a :: rest)) := g_aldq hx hb hK t0 hP ht hi hn hdg (by rw [hv]; exact kk)
theorem g_alen (hx : p.tables.exec = Jvm.exec) (hb : c.code = cc) (hK : va_K D cl tys s) (t0 : Nat) {cA : ClassId} {x : vp_A} (hP : va_at D cl (a, .inl (cA, x)) H) {ty : FieldType} (ht : tys[t0]? = some (cA, ty)) (hdg : decode cc pc = .ok (.arraylength, 1)) (kk : W p l e R s m args below meth c H locs cells slots Q (F0 m (pc + 1) ls (.int (nI x.1) :: rest))) : W p l e R s m args below meth c H locs cells slots Q (F0 m pc ls (.ref a :: rest)) := va_alen hx hb hK (va_one hP) 0 t0 rfl ht rfl hdg kk
end RG
/-- the start of a method: the heap is H0, the tables are known -/
def ro_Pc (D : va_G) (cl : List vw_C) (tys : List (ClassId × FieldType)) (H0 : Heap) (av : List Value) : Array Value → State → Prop := va_Pc av (fun U => U.heap = H0 ∧ va_K D cl tys U ∧ nsW U)
theorem ro_blind {D : va_G} {cl : List vw_C} {tys : List (ClassId × FieldType)} {H0 : Heap} {av : List Value} : FrameBlind (ro_Pc D cl tys H0 av) := fun a U g mk q => ⟨q.1, q.2.1, va_K.moved (u := U) (U := U.calling g mk a) (Vm.Alike.refl U.vm) q.2.2.1, nsW.warm (s := U) (U := U.calling g mk a) (State.WarmedH.refl U) q.2.2.2⟩
theorem ro_S {D : va_G} {cl : List vw_C} {tys : List (ClassId × FieldType)} {s : State} {H : Heap} {av : List Value} (hK : va_K D cl tys s) (hN : nsW s) : PreS s H (ro_Pc D cl tys H av) av := ⟨ro_blind, fun U hU hW => ⟨rfl, hU, va_K.moved hW.alike hK, nsW.warm hW hN⟩⟩
theorem ro_V {D : va_G} {cl : List vw_C} {tys : List (ClassId × FieldType)} {s : State} {H : Heap} {av : List Value} {b ci N : Nat} {C : String} {T : u_T} {fs : List Value} (hK : va_K D cl tys s) (hN : nsW s) (hP : va_at D cl (b, .inr (ci, fs)) H) (hc : cl[ci]? = some (C, T, N)) : PreV s H C b (ro_Pc D cl tys H (.ref b :: av)) av := ⟨ro_blind, va_recv hK (va_one hP) hc (q0 := 0) rfl, fun U hU hW => ⟨rfl, hU, va_K.moved hW.alike hK, nsW.warm hW hN⟩⟩
theorem ty_same {D : va_G} {cl : List vw_C} {t1 t2 : List (ClassId × FieldType)} {s : State} {i j : Nat} {c1 c2 : ClassId} {ty : FieldType} (h1 : va_K D cl t1 s) (h2 : va_K D cl t2 s) (e1 : t1[i]? = some (c1, ty)) (e2 : t2[j]? = some (c2, ty)) : c1 = c2 := by
  have a := (h1.2 i _ e1).2
  have b := (h2.2 j _ e2).2
  cases ty with
  | object C =>
    obtain ⟨_, _, _, _, _, a4⟩ := a
    obtain ⟨_, _, _, _, _, b4⟩ := b
    exact Option.some.inj (a4.symm.trans b4)
  | _ => exact Option.some.inj ((show s.vm.findClass _ = some c1 from a).symm.trans b)
theorem va_P_of {D : va_G} {cl : List vw_C} {ws : va_W} {H : Heap} (h : ∀ q ∈ ws, va_at D cl q H) : va_P D cl ws H := fun _ q hk => h q (List.mem_of_getElem? hk)
theorem va_D_of {A : Nat → Prop} {ws : va_W} (hn : (ws.map (fun q => q.1)).Nodup) (hA : ∀ q ∈ ws, A q.1) : va_D A ws := ⟨fun i j p q hi hj e => by
  have hl : i < (ws.map (fun q => q.1)).length := by simpa using (List.getElem?_eq_some_iff.mp hi).1
  exact (List.getElem?_inj hl hn).mp (by rw [List.getElem?_map, List.getElem?_map, hi, hj]; simp [e]), fun _ q hk => hA q (List.mem_of_getElem? hk)⟩
theorem va_P.upd {D : va_G} {cl : List vw_C} {A : Nat → Prop} {p : Nat} {ws : va_W} {a : Nat} {e0 e : va_E} {H H1 : Heap} (h : va_P D cl ws H) (hD : va_D A ws) (hp : ws[p]? = some (a, e0)) (he : va_at D cl (a, e) H1) (oq : ∀ q : Nat, q < H.size → ¬ q = a → H1[q]? = H[q]?) : va_P D cl (ws.set p (a, e)) H1 := by
  intro k q hk
  by_cases hkp : k = p
  · subst hkp
    rw [List.getElem?_set_self (List.getElem?_eq_some_iff.mp hp).1] at hk
    cases hk
    exact he
  · rw [List.getElem?_set_ne (Ne.symm hkp)] at hk
    exact (h k q hk).kept (oq q.1 (h k q hk).lt (fun z => hkp (hD.1 k p q (a, e0) hk hp z)))
end
section
section RS
variable {p : Program} {l : Launch} {e : Env} {R : Room} {s : State} {m : MethodId} {args : Array Value} {below : List Frame} {meth : Method} {c : Code} {H : Heap} {locs : List Loc} {cells slots : Nat} {Q : State → Prop}
variable {cc : ByteArray} {pc : Nat} {ls : Array Slot} {rest : List Value} {D : va_G} {cl : List vw_C} {A : Nat → Prop} {a : Nat} {tys : List (ClassId × FieldType)} {ws : va_W} {H0 : Heap}
theorem g_iast (hx : p.tables.exec = Jvm.exec) (hb : c.code = cc) (hK : va_K D cl tys s) (hP : va_P D cl ws H) (hD : va_D A ws) (hS : va_S A H0 H locs) (q0 t0 : Nat) {cA : ClassId} {n : Nat} {f : Nat → Int32} (ha : ws[q0]? = some (a, .inl (cA, n, .inl f))) (ht : tys[t0]? = some (cA, .int)) {k : Nat} {x : Int32} (hk : k < n) (hn : n < 2 ^ 31) {f2 : Nat → Int32} (hf : upd f k x = f2) (hdg : decode cc pc = .ok (.iastore, 1)) (kk : ∀ (H1 : Heap) (locs1 : List Loc), va_P D cl (ws.set q0 (a, .inl (cA, n, .inl f2))) H1 → va_D A (ws.set q0 (a, .inl (cA, n, .inl f2))) → va_S A H0 H1 locs1 → W p l e R s m args below meth c H1 locs1 cells slots Q (F0 m (pc + 1) ls rest)) : W p l e R s m args below meth c H locs cells slots Q (F0 m pc ls (.int x :: .int (nI k) :: .ref a :: rest)) := va_iast hx hb hK hP hD hS q0 t0 ha ht (vp_in_nI hk hn) hdg (by rw [nI_clamp (by omega), hf]; exact kk)
theorem g_zast (hx : p.tables.exec = Jvm.exec) (hb : c.code = cc) (hK : va_K D cl tys s) (hP : va_P D cl ws H) (hD : va_D A ws) (hS : va_S A H0 H locs) (q0 t0 : Nat) {cA : ClassId} {n : Nat} {f : Nat → Int32} (ha : ws[q0]? = some (a, .inl (cA, n, .inl f))) (ht : tys[t0]? = some (cA, .boolean)) {k : Nat} {x : Int32} (hk : k < n) (hn : n < 2 ^ 31) {f2 : Nat → Int32} (hf : upd f k (vp_nar .boolean x) = f2) (hdg : decode cc pc = .ok (.bastore, 1)) (kk : ∀ (H1 : Heap) (locs1 : List Loc), va_P D cl (ws.set q0 (a, .inl (cA, n, .inl f2))) H1 → va_D A (ws.set q0 (a, .inl (cA, n, .inl f2))) → va_S A H0 H1 locs1 → W p l e R s m args below meth c H1 locs1 cells slots Q (F0 m (pc + 1) ls rest)) : W p l e R s m args below meth c H locs cells slots Q (F0 m pc ls (.int x :: .int (nI k) :: .ref a :: rest)) := va_zast hx hb hK hP hD hS q0 t0 ha ht (vp_in_nI hk hn) hdg (by rw [nI_clamp (by omega), hf]; exact kk)
theorem g_last (hx : p.tables.exec = Jvm.exec) (hb : c.code = cc) (hK : va_K D cl tys s) (hP : va_P D cl ws H) (hD : va_D A ws) (hS : va_S A H0 H locs) (q0 t0 : Nat) {cA : ClassId} {n : Nat} {f : Nat → Int64} (ha : ws[q0]? = some (a, .inl (cA, n, .inr (.inl f)))) (ht : tys[t0]? = some (cA, .long)) {k : Nat} {x : Int64} (hk : k < n) (hn : n < 2 ^ 31) {f2 : Nat → Int64} (hf : vp_updL f k x = f2) (hdg : decode cc pc = .ok (.lastore, 1)) (kk : ∀ (H1 : Heap) (locs1 : List Loc), va_P D cl (ws.set q0 (a, .inl (cA, n, .inr (.inl f2)))) H1 → va_D A (ws.set q0 (a, .inl (cA, n, .inr (.inl f2)))) → va_S A H0 H1 locs1 → W p l e R s m args below meth c H1 locs1 cells slots Q (F0 m (pc + 1) ls rest)) : W p l e R s m args below meth c H locs cells slots Q (F0 m pc ls (.long x :: .int (nI k) :: .ref a :: rest)) := va_last hx hb hK hP hD hS q0 t0 ha ht (vp_in_nI hk hn) hdg (by rw [nI_clamp (by omega), hf]; exact kk)
theorem g_astq (hx : p.tables.exec = Jvm.exec) (hb : c.code = cc) (hK : va_K D cl tys s) (hP : va_P D cl ws H) (hD : va_D A ws) (hS : va_S A H0 H locs) (q0 t0 qk ci : Nat) {cA : ClassId} {r : vw_C} {n v : Nat} {vs : List Value} {f : Nat → Option Nat} (ha : ws[q0]? = some (a, .inl (cA, n, .inr (.inr (.inr (.inr f)))))) (ht : tys[t0]? = some (cA, .object r.1)) (hv : ws[qk]? = some (v, .inr (ci, vs))) (hc : cl[ci]? = some r) {k : Nat} (hk : k < n) (hn : n < 2 ^ 31) {f2 : Nat → Option Nat} (hf : va_up f k (some v) = f2) (hdg : decode cc pc = .ok (.aastore, 1)) (kk : ∀ (H1 : Heap) (locs1 : List Loc), va_P D cl (ws.set q0 (a, .inl (cA, n, .inr (.inr (.inr (.inr f2)))))) H1 → va_D A (ws.set q0 (a, .inl (cA, n, .inr (.inr (.inr (.inr f2)))))) → va_S A H0 H1 locs1 → W p l e R s m args below meth c H1 locs1 cells slots Q (F0 m (pc + 1) ls rest)) : W p l e R s m args below meth c H locs cells slots Q (F0 m pc ls (.ref v :: .int (nI k) :: .ref a :: rest)) := va_astq hx hb hK hP hD hS q0 t0 qk ci ha ht hv hc (vp_in_nI hk hn) hdg (by rw [nI_clamp (by omega), hf]; exact kk)
end RS
end
section
/-! numbers: the long period, sums, the common cycle, Euclid, stepping -/
def lgP (T U D : Nat) : Nat := (T * (D + U) + D - 1) / D
theorem lgP_le {T U D : Nat} (h : U < D) : lgP T U D ≤ 2 * T := by
  unfold lgP
  have h0 : 0 < D := by omega
  have h1 : T * (D + U) ≤ T * (D + D) := Nat.mul_le_mul_left T (by omega)
  have e1 : T * (D + D) = T * D + T * D := Nat.mul_add T D D
  have e2 : (2 * T + 1) * D = T * D + T * D + D := by
    rw [Nat.add_mul, Nat.mul_assoc, Nat.one_mul, Nat.two_mul]
  have h2 : (T * (D + U) + D - 1) / D < 2 * T + 1 := by
    rw [Nat.div_lt_iff_lt_mul h0, e2]
    omega
  omega
theorem lgP_0 {T D : Nat} (h : 0 < D) : lgP T 0 D = T := by
  unfold lgP
  rw [Nat.add_zero]
  have e : T * D + D - 1 = (D - 1) + D * T := by rw [Nat.mul_comm D T]; omega
  rw [e, Nat.add_mul_div_left _ _ h, Nat.div_eq_of_lt (by omega), Nat.zero_add]
theorem mul_small {a b A B : Nat} (ha : a ≤ A) (hb : b ≤ B) : a * b ≤ A * B := Nat.mul_le_mul ha hb
def sumN (f : Nat → Nat) : Nat → Nat
  | 0 => 0
  | n + 1 => sumN f n + f n
theorem sumN_le {f : Nat → Nat} {B : Nat} : ∀ n, (∀ i, i < n → f i ≤ B) → sumN f n ≤ n * B
  | 0, _ => by simp [sumN]
  | n + 1, h => by
    have h1 := sumN_le n (fun i hi => h i (by omega))
    have h2 := h n (by omega)
    have e : (n + 1) * B = n * B + B := Nat.succ_mul n B
    show sumN f n + f n ≤ (n + 1) * B
    omega
theorem sumN_mono {f : Nat → Nat} : ∀ n i, i ≤ n → sumN f i ≤ sumN f n
  | 0, i, h => by rw [show i = 0 by omega]; exact Nat.le_refl _
  | n + 1, i, h => by
    rcases Nat.lt_or_ge i (n + 1) with q | q
    · exact Nat.le_trans (sumN_mono n i (by omega)) (Nat.le_add_right _ _)
    · rw [show i = n + 1 by omega]; exact Nat.le_refl _
theorem sumN_ge {f : Nat → Nat} {n i : Nat} (h : i < n) : f i ≤ sumN f n := by
  have h1 := sumN_mono (f := f) n (i + 1) h
  have h2 : f i ≤ sumN f (i + 1) := Nat.le_add_left _ _
  omega
theorem sumN_congr {f g : Nat → Nat} : ∀ n, (∀ i, i < n → f i = g i) → sumN f n = sumN g n
  | 0, _ => rfl
  | n + 1, h => by
    show sumN f n + f n = sumN g n + g n
    rw [sumN_congr n (fun i hi => h i (by omega)), h n (by omega)]
def lastS (sel : Nat → Bool) (f : Nat → Nat) : Nat → Nat
  | 0 => 0
  | n + 1 => if sel n = true then f n else lastS sel f n
theorem lastS_le {sel : Nat → Bool} {f : Nat → Nat} {B : Nat} : ∀ n, (∀ i, i < n → f i ≤ B) → lastS sel f n ≤ B
  | 0, _ => Nat.zero_le _
  | n + 1, h => by
    unfold lastS
    split
    · exact h n (by omega)
    · exact lastS_le n (fun i hi => h i (by omega))
/-! Euclid -/
def eu : Nat → Nat → Nat → Prop
  | 0, _, b => b = 0
  | n + 1, a, b => b = 0 ∨ eu n b (a % b)
theorem eu_lt : ∀ (k a b : Nat), b < 2 ^ k → eu (2 * k) a b
  | 0, a, b, h => by
    show b = 0
    have : 2 ^ 0 = 1 := rfl
    omega
  | k + 1, a, b, h => by
    show b = 0 ∨ eu (2 * k + 1) b (a % b)
    rcases Nat.eq_zero_or_pos b with q | q
    · exact Or.inl q
    · refine Or.inr ?_
      show a % b = 0 ∨ eu (2 * k) (a % b) (b % (a % b))
      have hr : a % b < b := Nat.mod_lt a q
      rcases Nat.eq_zero_or_pos (a % b) with z | z
      · exact Or.inl z
      · refine Or.inr (eu_lt k _ _ ?_)
        have hp : 2 ^ (k + 1) = 2 ^ k * 2 := Nat.pow_succ 2 k
        have hm := Nat.mod_lt b z
        rcases Nat.lt_or_ge (2 ^ k) (a % b) with y | y
        · have e : b % (a % b) = b - a % b := by
            rw [Nat.mod_eq_sub_mod (by omega)]
            exact Nat.mod_eq_of_lt (by omega)
          omega
        · omega
theorem gcd_step (a b : Nat) : Nat.gcd a b = Nat.gcd b (a % b) := by
  rw [Nat.gcd_comm a b, Nat.gcd_rec b a, Nat.gcd_comm]
theorem lcm_eq {a b : Nat} (h : 0 < Nat.gcd a b) : a / Nat.gcd a b * b = Nat.lcm a b := by
  obtain ⟨k, hk⟩ := Nat.gcd_dvd_left a b
  generalize hg : Nat.gcd a b = g at h hk
  unfold Nat.lcm
  rw [hg, hk, Nat.mul_div_cancel_left k h, Nat.mul_assoc, Nat.mul_div_cancel_left _ h]
theorem lcm_le {a b : Nat} : Nat.lcm a b ≤ a * b := by
  unfold Nat.lcm
  exact Nat.div_le_self _ _
theorem lcm_pos' {a b : Nat} (ha : 0 < a) (hb : 0 < b) : 0 < Nat.lcm a b := Nat.lcm_pos ha hb
def cyc (sel : Nat → Bool) (T : Nat → Nat) : Nat → Nat
  | 0 => 1
  | n + 1 => if sel n = true then min 1000000000 (Nat.lcm (cyc sel T n) (T n)) else cyc sel T n
theorem cyc_in {sel : Nat → Bool} {T : Nat → Nat} : ∀ n, (∀ i, i < n → sel i = true → 0 < T i) → 0 < cyc sel T n ∧ cyc sel T n ≤ 1000000000
  | 0, _ => ⟨Nat.zero_lt_one, (by decide : 1 ≤ 1000000000)⟩
  | n + 1, h => by
    have h1 := cyc_in n (fun i hi => h i (by omega))
    unfold cyc
    split
    · rename_i hs
      have h2 := lcm_pos' h1.1 (h n (by omega) hs)
      omega
    · exact h1
theorem cyc_dvd {sel : Nat → Bool} {T : Nat → Nat} : ∀ n, (∀ i, i < n → sel i = true → 0 < T i) → cyc sel T n < 1000000000 → ∀ i, i < n → sel i = true → T i ∣ cyc sel T n
  | 0, _, _, i, hi, _ => absurd hi (by omega)
  | n + 1, h, hl, i, hi, hs => by
    have h1 := cyc_in n (fun i hi => h i (by omega))
    unfold cyc at hl ⊢
    split at hl
    · rename_i hsn
      rw [if_pos hsn]
      have h2 := lcm_pos' h1.1 (h n (by omega) hsn)
      have e : min 1000000000 (Nat.lcm (cyc sel T n) (T n)) = Nat.lcm (cyc sel T n) (T n) := by omega
      rw [e] at hl ⊢
      rcases Nat.lt_or_ge i n with q | q
      · have h3 : cyc sel T n ∣ Nat.lcm (cyc sel T n) (T n) := Nat.dvd_lcm_left _ _
        have h4 := Nat.le_of_dvd h2 h3
        exact Nat.dvd_trans (cyc_dvd n (fun i hi => h i (by omega)) (by omega) i q hs) h3
      · rw [show i = n by omega]
        exact Nat.dvd_lcm_right _ _
    · rename_i hsn
      rw [if_neg hsn]
      have hin : i < n := by
        rcases Nat.lt_or_ge i n with q | q
        · exact q
        · rw [show i = n by omega] at hs; exact absurd hs hsn
      exact cyc_dvd n (fun i hi => h i (by omega)) hl i hin hs
/-! the next begin, and stepping -/
def nx (x T : Nat) : Nat := (x + T - 1) / T * T
theorem nx_ge {x T : Nat} (h : 0 < T) : x ≤ nx x T := by
  unfold nx
  have h1 := Nat.div_add_mod' (x + T - 1) T
  have h2 := Nat.mod_lt (x + T - 1) h
  omega
theorem nx_lt {x T : Nat} (h : 0 < T) : nx x T < x + T := by
  unfold nx
  have h1 := Nat.div_mul_le_self (x + T - 1) T
  omega
theorem nx_add {x T q : Nat} (h : 0 < T) : nx (x + T * q) T = nx x T + T * q := by
  unfold nx
  have e : x + T * q + T - 1 = (x + T - 1) + T * q := by omega
  rw [e, Nat.add_mul_div_left _ _ h, Nat.add_mul, Nat.mul_comm q T]
theorem nx_mul {T k : Nat} (h : 0 < T) : nx (k * T) T = k * T := by
  have e := nx_add (x := 0) (q := k) h
  rw [Nat.zero_add, Nat.mul_comm T k] at e
  have e0 : nx 0 T = 0 := by
    unfold nx
    rw [Nat.zero_add, Nat.div_eq_of_lt (by omega), Nat.zero_mul]
  rw [e, e0, Nat.zero_add]
theorem nx_nx {x T : Nat} (h : 0 < T) : nx (nx x T) T = nx x T := nx_mul h
def stp (sel : Nat → Bool) (T R : Nat → Nat) (b : Nat) : Nat → Nat
  | 0 => b
  | n + 1 => (if sel n = true then nx (stp sel T R b n) (T n) else stp sel T R b n) + R n
theorem stp_ge {sel : Nat → Bool} {T R : Nat → Nat} {b : Nat} : ∀ n, (∀ i, i < n → sel i = true → 0 < T i) → b ≤ stp sel T R b n
  | 0, _ => Nat.le_refl _
  | n + 1, h => by
    have h1 := stp_ge (R := R) (b := b) n (fun i hi => h i (by omega))
    unfold stp
    split
    · rename_i hs
      have := nx_ge (x := stp sel T R b n) (h n (by omega) hs)
      omega
    · omega
theorem stp_le {sel : Nat → Bool} {T R : Nat → Nat} {b B : Nat} : ∀ n, (∀ i, i < n → T i ≤ B ∧ R i ≤ B ∧ (sel i = true → 0 < T i)) → stp sel T R b n ≤ b + n * (2 * B)
  | 0, _ => Nat.le_add_right _ _
  | n + 1, h => by
    have h1 := stp_le (b := b) (B := B) n (fun i hi => h i (by omega))
    have h2 := h n (by omega)
    have e : (n + 1) * (2 * B) = n * (2 * B) + 2 * B := Nat.succ_mul n (2 * B)
    unfold stp
    split
    · rename_i hs
      have := nx_lt (x := stp sel T R b n) (h2.2.2 hs)
      omega
    · omega
theorem stp_add {sel : Nat → Bool} {T R : Nat → Nat} {b m : Nat} : ∀ n, (∀ i, i < n → sel i = true → 0 < T i ∧ T i ∣ m) → stp sel T R (b + m) n = stp sel T R b n + m
  | 0, _ => rfl
  | n + 1, h => by
    have h1 := stp_add (R := R) (b := b) n (fun i hi => h i (by omega))
    unfold stp
    rw [h1]
    split
    · rename_i hs
      obtain ⟨h2, q, hq⟩ := h n (by omega) hs
      rw [hq, nx_add h2]
      omega
    · omega
theorem stp_first {sel : Nat → Bool} {T R : Nat → Nat} {b : Nat} (h0 : sel 0 = true) (h1 : 0 < T 0) : ∀ n, stp sel T R b (n + 1) = stp sel T R (nx b (T 0)) (n + 1)
  | 0 => by
    show (if sel 0 = true then nx b (T 0) else b) + R 0 = (if sel 0 = true then nx (nx b (T 0)) (T 0) else nx b (T 0)) + R 0
    rw [if_pos h0, if_pos h0, nx_nx h1]
  | n + 1 => by
    have ih := stp_first (R := R) (b := b) h0 h1 n
    show (if sel (n + 1) = true then nx (stp sel T R b (n + 1)) (T (n + 1)) else stp sel T R b (n + 1)) + R (n + 1) = (if sel (n + 1) = true then nx (stp sel T R (nx b (T 0)) (n + 1)) (T (n + 1)) else stp sel T R (nx b (T 0)) (n + 1)) + R (n + 1)
    rw [ih]
def mxN (f : Nat → Nat) : Nat → Nat
  | 0 => 0
  | n + 1 => max (mxN f n) (f n)
theorem mxN_ge {f : Nat → Nat} : ∀ n i, i < n → f i ≤ mxN f n
  | 0, i, h => absurd h (by omega)
  | n + 1, i, h => by
    show f i ≤ max (mxN f n) (f n)
    rcases Nat.lt_or_ge i n with q | q
    · have := mxN_ge (f := f) n i q
      omega
    · rw [show i = n by omega]
      omega
theorem mxN_le {f : Nat → Nat} {B : Nat} : ∀ n, (∀ i, i < n → f i ≤ B) → mxN f n ≤ B
  | 0, _ => Nat.zero_le _
  | n + 1, h => by
    have h1 := mxN_le n (fun i hi => h i (by omega))
    have h2 := h n (by omega)
    show max (mxN f n) (f n) ≤ B
    omega
theorem mxN_le' {f : Nat → Nat} {c B : Nat} : ∀ n, 0 < n → (∀ i, i < n → c + f i ≤ B) → c + mxN f n ≤ B
  | 0, h, _ => absurd h (by omega)
  | n + 1, _, h => by
    have h2 := h n (by omega)
    show c + max (mxN f n) (f n) ≤ B
    rcases Nat.eq_zero_or_pos n with q | q
    · subst q
      show c + max 0 (f 0) ≤ B
      omega
    · have h1 := mxN_le' n q (fun i hi => h i (by omega))
      omega
theorem mxN_congr {f g : Nat → Nat} : ∀ n, (∀ i, i < n → f i = g i) → mxN f n = mxN g n
  | 0, _ => rfl
  | n + 1, h => by
    show max (mxN f n) (f n) = max (mxN g n) (g n)
    rw [mxN_congr n (fun i hi => h i (by omega)), h n (by omega)]
/-- one look for each begin finds the worst of all moments -/
theorem stp_worst {sel : Nat → Bool} {T R : Nat → Nat} {n m q : Nat} (h0 : sel 0 = true) (hn : 0 < n) (hm : 0 < m) (hT : ∀ i, i < n → sel i = true → 0 < T i ∧ T i ∣ m) (hq : m = q * T 0) :
    mxN (fun t => stp sel T R t n - t) m = (T 0 - 1) + mxN (fun k => stp sel T R (k * T 0) n - k * T 0) q := by
  obtain ⟨n, rfl⟩ : ∃ n', n = n' + 1 := ⟨n - 1, by omega⟩
  have hp : 0 < T 0 := (hT 0 hn h0).1
  have hq0 : 0 < q := by
    rcases Nat.eq_zero_or_pos q with z | z
    · rw [z, Nat.zero_mul] at hq; omega
    · exact z
  have hge : ∀ b, b ≤ stp sel T R b (n + 1) := fun b => stp_ge (n + 1) (fun i hi hs => (hT i hi hs).1)
  have hper : stp sel T R (q * T 0) (n + 1) = stp sel T R 0 (n + 1) + q * T 0 := by
    have e := stp_add (R := R) (b := 0) (m := m) (n + 1) hT
    rw [Nat.zero_add] at e
    rw [← hq]
    exact e
  have g0 : stp sel T R (q * T 0) (n + 1) - q * T 0 = stp sel T R (0 * T 0) (n + 1) - 0 * T 0 := by
    rw [hper, Nat.zero_mul]
    omega
  apply Nat.le_antisymm
  · refine mxN_le m (fun t ht => ?_)
    show stp sel T R t (n + 1) - t ≤ _
    rw [stp_first h0 hp n]
    have a1 := nx_ge (x := t) hp
    have a2 := nx_lt (x := t) hp
    obtain ⟨k, hk⟩ : ∃ k, nx t (T 0) = k * T 0 := ⟨_, rfl⟩
    rw [hk] at a1 a2 ⊢
    have hkq : k ≤ q := by
      rcases Nat.lt_or_ge q k with z | z
      · have : (q + 1) * T 0 ≤ k * T 0 := Nat.mul_le_mul_right _ z
        rw [Nat.succ_mul] at this
        omega
      · exact z
    have b1 := hge (k * T 0)
    rcases Nat.lt_or_ge k q with z | z
    · have c1 := mxN_ge (f := fun k => stp sel T R (k * T 0) (n + 1) - k * T 0) q k z
      (try dsimp only at c1)
      omega
    · have : k = q := by omega
      subst this
      have c1 := mxN_ge (f := fun k => stp sel T R (k * T 0) (n + 1) - k * T 0) k 0 hq0
      (try dsimp only at c1)
      omega
  · refine mxN_le' q hq0 (fun k hk => ?_)
    show T 0 - 1 + (stp sel T R (k * T 0) (n + 1) - k * T 0) ≤ _
    have look : ∀ j, 0 < j → j ≤ q → T 0 - 1 + (stp sel T R (j * T 0) (n + 1) - j * T 0) ≤ mxN (fun t => stp sel T R t (n + 1) - t) m ∨ j = q ∧ T 0 = 1 := by
      intro j hj hjq
      have e1 : j * T 0 = (j - 1) * T 0 + T 0 := by
        rw [← Nat.succ_mul]
        congr 1
        omega
      have e2 : j * T 0 ≤ q * T 0 := Nat.mul_le_mul_right _ hjq
      rcases Nat.lt_or_ge ((j - 1) * T 0 + 1) m with z | z
      · refine Or.inl ?_
        have c1 := mxN_ge (f := fun t => stp sel T R t (n + 1) - t) m ((j - 1) * T 0 + 1) z
        (try dsimp only at c1)
        have e3 : nx ((j - 1) * T 0 + 1) (T 0) = j * T 0 := by
          have := nx_add (x := 1) (q := j - 1) hp
          rw [Nat.add_comm 1, Nat.mul_comm (T 0) (j - 1)] at this
          rw [this]
          have e4 : nx 1 (T 0) = T 0 := by
            unfold nx
            rw [show 1 + T 0 - 1 = T 0 by omega, Nat.div_self hp, Nat.one_mul]
          rw [e4]
          omega
        rw [stp_first h0 hp n, e3] at c1
        have b1 := hge (j * T 0)
        omega
      · refine Or.inr ⟨?_, ?_⟩
        · rcases Nat.lt_or_ge j q with y | y
          · have : (j + 1) * T 0 ≤ q * T 0 := Nat.mul_le_mul_right _ y
            rw [Nat.succ_mul] at this
            omega
          · omega
        · omega
    rcases Nat.eq_zero_or_pos k with z | z
    · subst z
      rcases look q hq0 (Nat.le_refl _) with y | y
      · rw [g0] at y
        exact y
      · have c1 := mxN_ge (f := fun t => stp sel T R t (n + 1) - t) m 0 hm
        (try dsimp only at c1)
        rw [Nat.zero_mul]
        omega
    · rcases look k z (by omega) with y | y
      · exact y
      · omega
/-! looking through a row; the chain's numbers -/
def anyN (p : Nat → Bool) : Nat → Bool
  | 0 => false
  | n + 1 => anyN p n || p n
theorem anyN_next {p : Nat → Bool} {i : Nat} (h : anyN p i = false) (hp : p i = false) : anyN p (i + 1) = false := by
  show (anyN p i || p i) = false
  rw [h, hp]; rfl
theorem anyN_hit {p : Nat → Bool} : ∀ {n i : Nat}, i < n → p i = true → anyN p n = true
  | 0, i, h, _ => absurd h (by omega)
  | n + 1, i, h, hp => by
    show (anyN p n || p n) = true
    rcases Nat.lt_or_ge i n with q | q
    · rw [anyN_hit q hp]; rfl
    · rw [show n = i by omega, hp]; cases anyN p i <;> rfl
theorem anyN_skip {p : Nat → Bool} {i : Nat} (hp : p i = false) : anyN p (i + 1) = anyN p i := by
  show (anyN p i || p i) = anyN p i
  rw [hp]; cases anyN p i <;> rfl
theorem anyN_iff {p : Nat → Bool} : ∀ n : Nat, anyN p n = true ↔ ∃ i, i < n ∧ p i = true
  | 0 => ⟨fun h => Bool.noConfusion h, fun ⟨i, h, _⟩ => absurd h (Nat.not_lt_zero i)⟩
  | n + 1 => by
    show (anyN p n || p n) = true ↔ _
    rw [Bool.or_eq_true, anyN_iff n]
    constructor
    · rintro (⟨i, h1, h2⟩ | h)
      · exact ⟨i, by omega, h2⟩
      · exact ⟨n, by omega, h⟩
    · rintro ⟨i, h1, h2⟩
      rcases Nat.lt_or_ge i n with q | q
      · exact Or.inl ⟨i, q, h2⟩
      · rw [show n = i by omega]; exact Or.inr h2
theorem anyN_congr {p q : Nat → Bool} : ∀ n, (∀ i, i < n → p i = q i) → anyN p n = anyN q n
  | 0, _ => rfl
  | n + 1, h => by
    show (anyN p n || p n) = (anyN q n || q n)
    rw [anyN_congr n (fun i hi => h i (by omega)), h n (by omega)]
def brN (sel : Nat → Bool) (T R U Dn : Nat → Nat) (i : Nat) : Nat := if sel i = true then lgP (T i) (U i) (Dn i) + R i else R i
def kpN (wi : Int64) (w : Nat) : Bool := !(decide (wi.toInt = (-1 : Int64).toInt)) && decide ((lN w).toInt ≤ wi.toInt)
theorem kpN_none {wi : Int64} {w : Nat} (h : wi.toInt = (-1 : Int64).toInt) : kpN wi w = false := by simp [kpN, h]
theorem kpN_no {wi : Int64} {w : Nat} (h1 : ¬ wi.toInt = (-1 : Int64).toInt) (h : wi.toInt < (lN w).toInt) : kpN wi w = false := by
  have h2 : ¬ (lN w).toInt ≤ wi.toInt := by omega
  unfold kpN
  rw [decide_eq_false h2]
  cases (!decide (wi.toInt = (-1 : Int64).toInt)) <;> rfl
theorem kpN_yes {wi : Int64} {w : Nat} (h1 : ¬ wi.toInt = (-1 : Int64).toInt) (h : (lN w).toInt ≤ wi.toInt) : kpN wi w = true := by
  unfold kpN
  rw [decide_eq_false h1, decide_eq_true h]; rfl
def canN (sel : Nat → Bool) (T U : Nat → Nat) (n : Nat) : Bool := !(anyN (fun i => U i != 0) n) && decide (cyc (fun i => sel i || !true) T n ≤ 20000)
theorem canN_no {sel : Nat → Bool} {T U : Nat → Nat} {n : Nat} (h : 20000 < cyc (fun i => sel i || !true) T n) : canN sel T U n = false := by
  unfold canN
  rw [decide_eq_false (by omega : ¬ cyc (fun i => sel i || !true) T n ≤ 20000)]
  cases (!anyN (fun i => U i != 0) n) <;> rfl
theorem canN_yes {sel : Nat → Bool} {T U : Nat → Nat} {n : Nat} (h1 : (!(anyN (fun i => U i != 0) n)) = true) (h : cyc (fun i => sel i || !true) T n ≤ 20000) : canN sel T U n = true := by
  unfold canN
  rw [h1, decide_eq_true h]; rfl
/-! the last that samples; the common cycle under any bound -/
def lastI (sel : Nat → Bool) : Nat → Nat
  | 0 => 0
  | n + 1 => if sel n = true then n else lastI sel n
theorem lastI_lt {sel : Nat → Bool} : ∀ n, 0 < n → lastI sel n < n
  | 0, h => absurd h (by omega)
  | n + 1, _ => by
    unfold lastI
    split
    · omega
    · rcases Nat.eq_zero_or_pos n with q | q
      · subst q; exact Nat.zero_lt_one
      · have := lastI_lt (sel := sel) n q
        omega
theorem lastI_le {sel : Nat → Bool} : ∀ n, lastI sel n ≤ n
  | 0 => Nat.le_refl _
  | n + 1 => Nat.le_of_lt (lastI_lt (n + 1) (by omega))
theorem lastS_I {sel : Nat → Bool} {f : Nat → Nat} (h0 : sel 0 = true) : ∀ n, lastS sel f (n + 1) = f (lastI sel (n + 1))
  | 0 => by simp [lastS, lastI, h0]
  | n + 1 => by
    have ih := lastS_I (f := f) h0 n
    show (if sel (n + 1) = true then f (n + 1) else lastS sel f (n + 1)) = f (if sel (n + 1) = true then n + 1 else lastI sel (n + 1))
    by_cases h : sel (n + 1) = true
    · rw [if_pos h, if_pos h]
    · rw [if_neg h, if_neg h, ih]
def lcmN (sel : Nat → Bool) (T : Nat → Nat) : Nat → Nat
  | 0 => 1
  | n + 1 => if sel n = true then Nat.lcm (lcmN sel T n) (T n) else lcmN sel T n
theorem lcmN_pos {sel : Nat → Bool} {T : Nat → Nat} : ∀ n, (∀ i, i < n → sel i = true → 0 < T i) → 0 < lcmN sel T n
  | 0, _ => Nat.zero_lt_one
  | n + 1, h => by
    have h1 := lcmN_pos n (fun i hi => h i (by omega))
    unfold lcmN
    split
    · rename_i hs; exact lcm_pos' h1 (h n (by omega) hs)
    · exact h1
def cyM (B : Nat) (sel : Nat → Bool) (T : Nat → Nat) : Nat → Nat
  | 0 => 1
  | n + 1 => if sel n = true then min B (Nat.lcm (cyM B sel T n) (T n)) else cyM B sel T n
theorem cyM_min {B : Nat} (hB : 0 < B) {sel : Nat → Bool} {T : Nat → Nat} : ∀ n, (∀ i, i < n → sel i = true → 0 < T i) → cyM B sel T n = min B (lcmN sel T n)
  | 0, _ => by show 1 = min B 1; omega
  | n + 1, h => by
    have ih := cyM_min hB n (fun i hi => h i (by omega))
    have hp := lcmN_pos n (fun i hi => h i (by omega))
    unfold cyM lcmN
    by_cases hs : sel n = true
    · rw [if_pos hs, if_pos hs, ih]
      have ht := h n (by omega) hs
      rcases Nat.lt_or_ge (lcmN sel T n) B with q | q
      · rw [show min B (lcmN sel T n) = lcmN sel T n by omega]
      · rw [show min B (lcmN sel T n) = B by omega]
        have h1 : B ≤ Nat.lcm B (T n) := Nat.le_of_dvd (lcm_pos' hB ht) (Nat.dvd_lcm_left _ _)
        have h2 : lcmN sel T n ≤ Nat.lcm (lcmN sel T n) (T n) := Nat.le_of_dvd (lcm_pos' hp ht) (Nat.dvd_lcm_left _ _)
        omega
    · rw [if_neg hs, if_neg hs, ih]
theorem cyM_top {B : Nat} (hB : 0 < B) {sel : Nat → Bool} {T : Nat → Nat} {n i : Nat} (hin : i ≤ n) (h : ∀ i, i < n → sel i = true → 0 < T i) (ht : cyM B sel T i = B) : cyM B sel T n = B := by
  induction n with
  | zero => rw [show i = 0 by omega] at ht; exact ht
  | succ n ih =>
    rcases Nat.lt_or_ge n i with q | q
    · rw [show i = n + 1 by omega] at ht; exact ht
    · have h1 := ih q (fun j hj => h j (by omega))
      unfold cyM
      by_cases hs : sel n = true
      · rw [if_pos hs, h1]
        have h2 : B ≤ Nat.lcm B (T n) := Nat.le_of_dvd (lcm_pos' hB (h n (by omega) hs)) (Nat.dvd_lcm_left _ _)
        omega
      · rw [if_neg hs, h1]
theorem cyM_in {B : Nat} (hB : 0 < B) {sel : Nat → Bool} {T : Nat → Nat} (n : Nat) (h : ∀ i, i < n → sel i = true → 0 < T i) : 0 < cyM B sel T n ∧ cyM B sel T n ≤ B := by
  have h1 := cyM_min hB n h
  have h2 := lcmN_pos n h
  omega
theorem cyc_M {sel : Nat → Bool} {T : Nat → Nat} : ∀ n, cyc sel T n = cyM 1000000000 sel T n
  | 0 => rfl
  | n + 1 => by
    unfold cyc cyM
    rw [cyc_M n]
theorem cyc_min {sel : Nat → Bool} {T : Nat → Nat} {n : Nat} (h : ∀ i, i < n → sel i = true → 0 < T i) : cyc sel T n = min 1000000000 (lcmN sel T n) := by rw [cyc_M, cyM_min (by decide) n h]
/-- whether the cycle is at most 20000: by either bound; and then both are the same -/
theorem cyM_le {sel : Nat → Bool} {T : Nat → Nat} {n : Nat} (h : ∀ i, i < n → sel i = true → 0 < T i) : cyM 20001 sel T n ≤ 20000 ↔ cyc sel T n ≤ 20000 := by
  rw [cyc_min h, cyM_min (by decide) n h]; omega
theorem cyM_eq {sel : Nat → Bool} {T : Nat → Nat} {n : Nat} (h : ∀ i, i < n → sel i = true → 0 < T i) (hl : cyc sel T n ≤ 20000) : cyM 20001 sel T n = cyc sel T n := by
  have h1 := cyc_min h
  rw [h1] at hl ⊢
  rw [cyM_min (by decide) n h]; omega
/-! a chain of the reference: its rows' places -/
def qS (so : Nat → Bool) (c : Nat) : Nat → Bool := fun k => !so (12 * c + k)
def qF (pe rw : Nat → Nat) (c : Nat) : Nat → Nat := fun k => pe (rw (12 * c + k))
def cNo (x : Int32) (n : Nat) : Bool := decide (x.toInt < 1) || decide ((n : Int) < x.toInt)
theorem cNo_t1 {x : Int32} {n : Nat} (h : x.toInt < 1) : cNo x n = true := by simp [cNo, h]
theorem cNo_t2 {x : Int32} {n : Nat} (h : (n : Int) < x.toInt) : cNo x n = true := by simp [cNo, h]
theorem cNo_f {x : Int32} {n : Nat} (h1 : 1 ≤ x.toInt) (h2 : x.toInt ≤ (n : Int)) : cNo x n = false := by
  unfold cNo
  rw [decide_eq_false (by omega), decide_eq_false (by omega)]; rfl
theorem cNo_nI {x : Int32} {n : Nat} (h : cNo x n = false) : x = nI x.toInt.toNat ∧ 1 ≤ x.toInt.toNat ∧ x.toInt.toNat ≤ n := by
  unfold cNo at h
  rw [Bool.or_eq_false_iff, decide_eq_false_iff_not, decide_eq_false_iff_not] at h
  have hx := Int32.toInt_lt x
  refine ⟨Int32.toInt_inj.mp ?_, by omega, by omega⟩
  rw [nI_toInt (by omega)]; omega
end
section
/-! what a state is: the arrays' classes, a piece, a chain -/
abbrev tyL (ka : Nat → ClassId) : List (ClassId × FieldType) := [(ka 0, .object RX1), (ka 1, .object RX0), (ka 2, .boolean), (ka 3, .long), (ka 4, .int)]
abbrev refE (c : ClassId) (n : Nat) (f : Nat → Option Nat) : va_E := .inl (c, n, .inr (.inr (.inr (.inr f))))
abbrev intE (c : ClassId) (n : Nat) (f : Nat → Int32) : va_E := .inl (c, n, .inl f)
abbrev lonE (c : ClassId) (n : Nat) (f : Nat → Int64) : va_E := .inl (c, n, .inr (.inl f))
abbrev pcE (T R U Dn : Nat) : va_E := .inr (1, [.long (lN T), .long (lN R), .long (lN U), .long (lN Dn)])
abbrev chE (rw sm n : Nat) (wi : Int64) : va_E := .inr (0, [.ref rw, .ref sm, .int (nI n), .long wi])
/-- a chain at h: its row, its marks, its pieces at f 0, f 1 .. with their numbers -/
def ChAt (D : va_G) (ka : Nat → ClassId) (h rw sm n : Nat) (wi : Int64) (f : Nat → Nat) (sel : Nat → Bool) (T R U Dn : Nat → Nat) (H : Heap) : Prop :=
  va_at D vwCl (h, chE rw sm n wi) H ∧ va_at D vwCl (rw, refE (ka 0) 12 (fun i => if i < n then some (f i) else none)) H ∧ va_at D vwCl (sm, intE (ka 2) 12 (fun i => if i < n then bI (sel i) else 0)) H ∧
  (∀ i, i < n → va_at D vwCl (f i, pcE (T i) (R i) (U i) (Dn i)) H) ∧ n ≤ 12 ∧ (∀ i, i < n → T i ≤ 20000 ∧ R i ≤ 20000 ∧ U i < Dn i ∧ Dn i ≤ 1000000 ∧ (sel i = true → 0 < T i)) ∧ (0 < n → sel 0 = true)
end
section
/-! what the reference's state is: ten cells -/
abbrev moE (a : Nat → Nat) (tv np nc : Nat) : va_E := .inr (3, [.int (nI tv), .int (nI np), .ref (a 1), .ref (a 2), .ref (a 3), .ref (a 4), .int (nI nc), .ref (a 5), .ref (a 6), .ref (a 7), .ref (a 8), .ref (a 9)])
abbrev mW (ka : Nat → ClassId) (a : Nat → Nat) (tv np nc : Nat) (pe an up dn rw : Nat → Nat) (so : Nat → Bool) (mn : Nat → Nat) (wd : Nat → Bool) (wv : Nat → Int64) : va_W :=
  [(a 0, moE a tv np nc), (a 1, lonE (ka 3) 31 (fun i => lN (pe i))), (a 2, lonE (ka 3) 31 (fun i => lN (an i))), (a 3, lonE (ka 3) 31 (fun i => lN (up i))), (a 4, lonE (ka 3) 31 (fun i => lN (dn i))),
   (a 5, intE (ka 4) 252 (fun i => nI (rw i))), (a 6, intE (ka 2) 252 (fun i => bI (so i))), (a 7, intE (ka 4) 21 (fun i => nI (mn i))), (a 8, intE (ka 2) 21 (fun i => bI (wd i))), (a 9, lonE (ka 3) 21 wv)]
def mOk (np nc : Nat) (pe an up dn rw : Nat → Nat) (so : Nat → Bool) (mn : Nat → Nat) (wd : Nat → Bool) (wv : Nat → Int64) : Prop :=
  np ≤ 30 ∧ nc ≤ 20 ∧ (∀ p, 1 ≤ p → p ≤ np → pe p ≤ 20000 ∧ an p ≤ 20000 ∧ up p < dn p ∧ dn p ≤ 1000000) ∧
  (∀ c, 1 ≤ c → c ≤ nc → mn c ≤ 12 ∧ (∀ k, k < mn c → 1 ≤ rw (12 * c + k) ∧ rw (12 * c + k) ≤ np ∧ (so (12 * c + k) = false → 0 < pe (rw (12 * c + k)))) ∧ (0 < mn c → so (12 * c) = false)) ∧
  (∀ c, nc < c → c ≤ 20 → mn c = 0 ∧ wd c = false) ∧ (∀ c, 1 ≤ c → c ≤ nc → wd c = true → 0 ≤ (wv c).toInt)
theorem mOk.sel {np nc : Nat} {pe an up dn rw : Nat → Nat} {so : Nat → Bool} {mn : Nat → Nat} {wd : Nat → Bool} {wv : Nat → Int64} (h : mOk np nc pe an up dn rw so mn wd wv) {c : Nat} (h1 : 1 ≤ c) (h2 : c ≤ nc) : ∀ i, i < mn c → qS so c i = true → 0 < qF pe rw c i :=
  fun i hi hs => ((h.2.2.2.1 c h1 h2).2.1 i hi).2.2 (by simpa [qS] using hs)
/-- the numbers of a chain's places -/
theorem mOk.row {np nc : Nat} {pe an up dn rw : Nat → Nat} {so : Nat → Bool} {mn : Nat → Nat} {wd : Nat → Bool} {wv : Nat → Int64} (h : mOk np nc pe an up dn rw so mn wd wv) {c : Nat} (h1 : 1 ≤ c) (h2 : c ≤ nc) {k : Nat} (hk : k < mn c) :
    (1 ≤ rw (12 * c + k) ∧ rw (12 * c + k) ≤ np ∧ mn c ≤ 12) ∧ qF pe rw c k ≤ 20000 ∧ qF an rw c k ≤ 20000 ∧ qF up rw c k < qF dn rw c k ∧ qF dn rw c k ≤ 1000000 ∧ (qS so c k = true → 0 < qF pe rw c k) := by
  have g := (h.2.2.2.1 c h1 h2).2.1 k hk
  exact ⟨⟨g.1, g.2.1, (h.2.2.2.1 c h1 h2).1⟩, (h.2.2.1 _ g.1 g.2.1).1, (h.2.2.1 _ g.1 g.2.1).2.1, (h.2.2.1 _ g.1 g.2.1).2.2.1, (h.2.2.1 _ g.1 g.2.1).2.2.2, fun hs => h.sel h1 h2 k hk hs⟩
abbrev rea (pe an up dn rw : Nat → Nat) (so : Nat → Bool) (mn : Nat → Nat) (c : Nat) : Nat := sumN (brN (qS so c) (qF pe rw c) (qF an rw c) (qF up rw c) (qF dn rw c)) (mn c)
end
section
/-! the answers, and what a call does to the numbers: one word for the class and for the reference -/
abbrev MSt : Type := (Nat × Nat) × ((Nat → Nat) × (Nat → Nat) × (Nat → Nat) × (Nat → Nat)) × ((Nat → Nat) × (Nat → Bool) × (Nat → Nat)) × ((Nat → Bool) × (Nat → Int64))
abbrev mkM (np nc : Nat) (pe an up dn rw : Nat → Nat) (so : Nat → Bool) (mn : Nat → Nat) (wd : Nat → Bool) (wv : Nat → Int64) : MSt := ((np, nc), (pe, an, up, dn), (rw, so, mn), (wd, wv))
abbrev mWs (ka : Nat → ClassId) (a : Nat → Nat) (tv : Nat) (u : MSt) : va_W := mW ka a tv u.1.1 u.1.2 u.2.1.1 u.2.1.2.1 u.2.1.2.2.1 u.2.1.2.2.2 u.2.2.1.1 u.2.2.1.2.1 u.2.2.1.2.2 u.2.2.2.1 u.2.2.2.2
abbrev mOks (u : MSt) : Prop := mOk u.1.1 u.1.2 u.2.1.1 u.2.1.2.1 u.2.1.2.2.1 u.2.1.2.2.2 u.2.2.1.1 u.2.2.1.2.1 u.2.2.1.2.2 u.2.2.2.1 u.2.2.2.2
/-- the reference's cells -/
def mA (a : Nat → Nat) : Nat → Prop := fun q => ∃ i, i < 10 ∧ a i = q
theorem mD {ka : Nat → ClassId} {a : Nat → Nat} {tv np nc : Nat} {pe an up dn rw : Nat → Nat} {so : Nat → Bool} {mn : Nat → Nat} {wd : Nat → Bool} {wv : Nat → Int64} (haI : ∀ i j, i < 10 → j < 10 → a i = a j → i = j) : va_D (mA a) (mW ka a tv np nc pe an up dn rw so mn wd wv) := by
  have key : ∀ (k : Nat) (q : Nat × va_E), (mW ka a tv np nc pe an up dn rw so mn wd wv)[k]? = some q → k < 10 ∧ q.1 = a k := by
    intro k q hk
    have hl : k < 10 := (List.getElem?_eq_some_iff.mp hk).1
    refine ⟨hl, ?_⟩
    match k, hk with
    | 0, hk => cases hk; rfl
    | 1, hk => cases hk; rfl
    | 2, hk => cases hk; rfl
    | 3, hk => cases hk; rfl
    | 4, hk => cases hk; rfl
    | 5, hk => cases hk; rfl
    | 6, hk => cases hk; rfl
    | 7, hk => cases hk; rfl
    | 8, hk => cases hk; rfl
    | 9, hk => cases hk; rfl
    | k + 10, hk => omega
  refine ⟨fun i j x y hi hj hxy => ?_, fun k q hk => ⟨k, (key k q hk).1, (key k q hk).2.symm⟩⟩
  obtain ⟨h1, h2⟩ := key i x hi
  obtain ⟨h3, h4⟩ := key j y hj
  exact haI i j h1 h3 (by rw [← h2, ← h4]; exact hxy)
theorem upL {pe : Nat → Nat} {k x : Nat} : vp_updL (fun i => lN (pe i)) k (lN x) = fun i => lN (va_up pe k x i) := by
  funext i; by_cases h : i = k <;> simp [vp_updL, va_up, h]
theorem upI {pe : Nat → Nat} {k x : Nat} : upd (fun i => nI (pe i)) k (nI x) = fun i => nI (va_up pe k x i) := by
  funext i; by_cases h : i = k <;> simp [upd, va_up, h]
theorem upB {pe : Nat → Bool} {k : Nat} {x : Bool} : upd (fun i => bI (pe i)) k (vp_nar .boolean (bI x)) = fun i => bI (va_up pe k x i) := by
  rw [bI_nar]; funext i; by_cases h : i = k <;> simp [upd, va_up, h]
theorem upW {wv : Nat → Int64} {k : Nat} {x : Int64} : vp_updL wv k x = va_up wv k x := by
  funext i; by_cases h : i = k <;> simp [vp_updL, va_up, h]
def opPiece (np nc : Nat) (pe an up dn rw : Nat → Nat) (so : Nat → Bool) (mn : Nat → Nat) (wd : Nat → Bool) (wv : Nat → Int64) (kd : Int32) (x y : Int64) : MSt × Int32 :=
  if kd.toInt < 0 ∨ 2 < kd.toInt ∨ x.toInt < 0 ∨ 20000 < x.toInt ∨ y.toInt < 0 ∨ 20000 < y.toInt then (mkM np nc pe an up dn rw so mn wd wv, -2) else
  if 30 ≤ np then (mkM np nc pe an up dn rw so mn wd wv, -4) else
  (mkM (np + 1) nc (va_up pe (np + 1) x.toInt.toNat) (va_up an (np + 1) y.toInt.toNat) (va_up up (np + 1) 0) (va_up dn (np + 1) 1) rw so mn wd wv, nI (np + 1))
def opChain (np nc : Nat) (pe an up dn rw : Nat → Nat) (so : Nat → Bool) (mn : Nat → Nat) (wd : Nat → Bool) (wv : Nat → Int64) : MSt × Int32 :=
  if 20 ≤ nc then (mkM np nc pe an up dn rw so mn wd wv, -4) else (mkM np (nc + 1) pe an up dn rw so mn wd wv, nI (nc + 1))
def opAdd (np nc : Nat) (pe an up dn rw : Nat → Nat) (so : Nat → Bool) (mn : Nat → Nat) (wd : Nat → Bool) (wv : Nat → Int64) (x y : Int32) (tr : Bool) : MSt × Int32 :=
  if (cNo x nc || cNo y np) = true then (mkM np nc pe an up dn rw so mn wd wv, -1) else
  if ((mn x.toInt.toNat == 0 || !tr) && pe y.toInt.toNat == 0) = true then (mkM np nc pe an up dn rw so mn wd wv, -3) else
  if 12 ≤ mn x.toInt.toNat then (mkM np nc pe an up dn rw so mn wd wv, -4) else
  if anyN (fun k => rw (12 * x.toInt.toNat + k) == y.toInt.toNat) (mn x.toInt.toNat) = true then (mkM np nc pe an up dn rw so mn wd wv, nI 0) else
  (mkM np nc pe an up dn (va_up rw (12 * x.toInt.toNat + mn x.toInt.toNat) y.toInt.toNat) (va_up so (12 * x.toInt.toNat + mn x.toInt.toNat) (!(mn x.toInt.toNat == 0 || !tr))) (va_up mn x.toInt.toNat (mn x.toInt.toNat + 1)) wd wv, nI 1)
def opClock (np nc : Nat) (pe an up dn rw : Nat → Nat) (so : Nat → Bool) (mn : Nat → Nat) (wd : Nat → Bool) (wv : Nat → Int64) (y : Int32) (u d : Int64) : MSt × Int32 :=
  if cNo y np = true then (mkM np nc pe an up dn rw so mn wd wv, -1) else
  if d.toInt < 1 ∨ 1000000 < d.toInt ∨ u.toInt < 0 ∨ d.toInt ≤ u.toInt then (mkM np nc pe an up dn rw so mn wd wv, -2) else
  (mkM np nc pe an (va_up up y.toInt.toNat u.toInt.toNat) (va_up dn y.toInt.toNat d.toInt.toNat) rw so mn wd wv, nI (lgP (pe y.toInt.toNat) u.toInt.toNat d.toInt.toNat))
def spEmp (nc : Nat) (mn : Nat → Nat) (x : Int32) : Bool := cNo x nc || mn x.toInt.toNat == 0
def opWish (np nc : Nat) (pe an up dn rw : Nat → Nat) (so : Nat → Bool) (mn : Nat → Nat) (wd : Nat → Bool) (wv : Nat → Int64) (x : Int32) (mi : Int64) : MSt × Int32 :=
  if spEmp nc mn x = true then (mkM np nc pe an up dn rw so mn wd wv, -1) else
  if mi.toInt < 0 then (mkM np nc pe an up dn rw so mn wd wv, -2) else
  (mkM np nc pe an up dn rw so mn (va_up wd x.toInt.toNat true) (va_up wv x.toInt.toNat mi), bI (decide ((lN (rea pe an up dn rw so mn x.toInt.toNat)).toInt ≤ mi.toInt)))
abbrev ageN (pe an up dn rw : Nat → Nat) (so : Nat → Bool) (mn : Nat → Nat) (c : Nat) : Nat := rea pe an up dn rw so mn c - lgP (qF pe rw c 0) (qF up rw c 0) (qF dn rw c 0) + lastS (qS so c) (fun i => lgP (qF pe rw c i) (qF up rw c i) (qF dn rw c i)) (mn c)
def spWorst (nc : Nat) (pe an up dn rw : Nat → Nat) (so : Nat → Bool) (mn : Nat → Nat) (x : Int32) (ag : Bool) : Int64 :=
  if spEmp nc mn x = true then -1 else if ag = true then lN (ageN pe an up dn rw so mn x.toInt.toNat) else lN (rea pe an up dn rw so mn x.toInt.toNat)
def spBest (nc : Nat) (an rw : Nat → Nat) (mn : Nat → Nat) (x : Int32) (ag : Bool) : Int64 :=
  if spEmp nc mn x = true then -1 else lN (sumN (qF an rw x.toInt.toNat) (mn x.toInt.toNat) - sumN (qF an rw x.toInt.toNat) (if ag = true then 1 else 0))
def kept (pe an up dn rw : Nat → Nat) (so : Nat → Bool) (mn : Nat → Nat) (wd : Nat → Bool) (wv : Nat → Int64) (c : Nat) : Bool := wd c && decide ((lN (rea pe an up dn rw so mn c)).toInt ≤ (wv c).toInt)
def cntN (p : Nat → Bool) : Nat → Nat
  | 0 => 0
  | n + 1 => if p (n + 1) = true then cntN p n + 1 else cntN p n
theorem cntN_le {p : Nat → Bool} : ∀ n, cntN p n ≤ n
  | 0 => Nat.le_refl _
  | n + 1 => by
    have := cntN_le (p := p) n
    unfold cntN
    split <;> omega
def spShare (nc : Nat) (pe an up dn rw : Nat → Nat) (so : Nat → Bool) (mn : Nat → Nat) (wd : Nat → Bool) (wv : Nat → Int64) (x i : Int32) : Int32 :=
  if i.toInt = -1 then nI (cntN (kept pe an up dn rw so mn wd wv) nc) else
  if cNo x nc = true ∨ i.toInt < 0 ∨ (mn x.toInt.toNat : Int) ≤ i.toInt ∨ rea pe an up dn rw so mn x.toInt.toNat = 0 then -1 else
  nI (1000 * brN (qS so x.toInt.toNat) (qF pe rw x.toInt.toNat) (qF an rw x.toInt.toNat) (qF up rw x.toInt.toNat) (qF dn rw x.toInt.toNat) i.toInt.toNat / rea pe an up dn rw so mn x.toInt.toNat)
abbrev lack (pe rw : Nat → Nat) (mn : Nat → Nat) (c : Nat) : Bool := anyN (fun i => qF pe rw c i == 0) (mn c)
def spCycle (nc : Nat) (pe rw : Nat → Nat) (so : Nat → Bool) (mn : Nat → Nat) (x : Int32) : Int64 :=
  if spEmp nc mn x = true then -1 else lN (cyc (fun i => qS so x.toInt.toNat i || true) (qF pe rw x.toInt.toNat) (mn x.toInt.toNat))
def spPlain (nc : Nat) (pe up rw : Nat → Nat) (so : Nat → Bool) (mn : Nat → Nat) (x : Int32) : Bool :=
  !spEmp nc mn x && canN (qS so x.toInt.toNat) (qF pe rw x.toInt.toNat) (qF up rw x.toInt.toNat) (mn x.toInt.toNat)
def spStep (nc : Nat) (pe an up dn rw : Nat → Nat) (so : Nat → Bool) (mn : Nat → Nat) (x : Int32) : Int64 :=
  if spEmp nc mn x = true then -1 else
  if canN (qS so x.toInt.toNat) (qF pe rw x.toInt.toNat) (qF up rw x.toInt.toNat) (mn x.toInt.toNat) = true then lN (mxN (fun t => stp (qS so x.toInt.toNat) (qF pe rw x.toInt.toNat) (qF an rw x.toInt.toNat) t (mn x.toInt.toNat) - t) (cyc (fun i => qS so x.toInt.toNat i || false) (qF pe rw x.toInt.toNat) (mn x.toInt.toNat))) else
  lN (rea pe an up dn rw so mn x.toInt.toNat)
theorem spEmp_f {nc : Nat} {mn : Nat → Nat} {x : Int32} (h : spEmp nc mn x = false) : x = nI x.toInt.toNat ∧ 1 ≤ x.toInt.toNat ∧ x.toInt.toNat ≤ nc ∧ 0 < mn x.toInt.toNat := by
  unfold spEmp at h
  rw [Bool.or_eq_false_iff] at h
  obtain ⟨h1, h2, h3⟩ := cNo_nI h.1
  exact ⟨h1, h2, h3, Nat.pos_of_ne_zero (by simpa using h.2)⟩
/-- a long that is not outside a range is a number -/
theorem lon_of {x : Int64} {n : Nat} (h1 : 0 ≤ x.toInt) (h2 : x.toInt ≤ (n : Int)) : x = lN x.toInt.toNat ∧ x.toInt.toNat ≤ n := by
  have hx := Int64.toInt_lt x
  refine ⟨Int64.toInt_inj.mp ?_, by omega⟩
  rw [pk_lT (by omega)]; omega
end
section
/-! the numbers stay in their ranges -/
theorem mOk_clock {np nc : Nat} {pe an up dn rw : Nat → Nat} {so : Nat → Bool} {mn : Nat → Nat} {wd : Nat → Bool} {wv : Nat → Int64} (h : mOk np nc pe an up dn rw so mn wd wv) {y u d : Nat} (h1 : 1 ≤ y) (h2 : y ≤ np) (hu : u < d) (hd : d ≤ 1000000) : mOk np nc pe an (va_up up y u) (va_up dn y d) rw so mn wd wv := by
  obtain ⟨a1, a2, a3, a4, a5, a6⟩ := h
  refine ⟨a1, a2, fun p q1 q2 => ?_, a4, a5, a6⟩
  have g := a3 p q1 q2
  by_cases e : p = y
  · subst e
    rw [va_up_self, va_up_self]
    exact ⟨g.1, g.2.1, hu, hd⟩
  · rw [va_up_ne _ _ e, va_up_ne _ _ e]
    exact g
theorem mOk_wish {np nc : Nat} {pe an up dn rw : Nat → Nat} {so : Nat → Bool} {mn : Nat → Nat} {wd : Nat → Bool} {wv : Nat → Int64} (h : mOk np nc pe an up dn rw so mn wd wv) {x : Nat} {mi : Int64} (h2 : x ≤ nc) (hm : 0 ≤ mi.toInt) : mOk np nc pe an up dn rw so mn (va_up wd x true) (va_up wv x mi) := by
  obtain ⟨a1, a2, a3, a4, a5, a6⟩ := h
  refine ⟨a1, a2, a3, a4, fun c q1 q2 => ⟨(a5 c q1 q2).1, ?_⟩, fun c q1 q2 q3 => ?_⟩
  · rw [va_up_ne _ _ (by omega)]; exact (a5 c q1 q2).2
  · by_cases e : c = x
    · subst e; rw [va_up_self]; exact hm
    · rw [va_up_ne _ _ e] at q3 ⊢; exact a6 c q1 q2 q3
theorem brN_le {np nc : Nat} {pe an up dn rw : Nat → Nat} {so : Nat → Bool} {mn : Nat → Nat} {wd : Nat → Bool} {wv : Nat → Int64} (h : mOk np nc pe an up dn rw so mn wd wv) {c k : Nat} (h1 : 1 ≤ c) (h2 : c ≤ nc) (hk : k < mn c) : brN (qS so c) (qF pe rw c) (qF an rw c) (qF up rw c) (qF dn rw c) k ≤ 60000 := by
  have hR := h.row h1 h2 hk
  have hl := lgP_le (T := qF pe rw c k) hR.2.2.2.1
  unfold brN
  split <;> omega
theorem rea_le {np nc : Nat} {pe an up dn rw : Nat → Nat} {so : Nat → Bool} {mn : Nat → Nat} {wd : Nat → Bool} {wv : Nat → Int64} (h : mOk np nc pe an up dn rw so mn wd wv) {c : Nat} (h1 : 1 ≤ c) (h2 : c ≤ nc) : rea pe an up dn rw so mn c ≤ 720000 := by
  have hs := sumN_le (f := brN (qS so c) (qF pe rw c) (qF an rw c) (qF up rw c) (qF dn rw c)) (B := 60000) (mn c) (fun i hi => brN_le h h1 h2 hi)
  have hm := (h.2.2.2.1 c h1 h2).1
  have h3 : mn c * 60000 ≤ 12 * 60000 := Nat.mul_le_mul_right _ hm
  show sumN (brN (qS so c) (qF pe rw c) (qF an rw c) (qF up rw c) (qF dn rw c)) (mn c) ≤ 720000
  omega
theorem canN_cyc {sel : Nat → Bool} {T U : Nat → Nat} {n : Nat} (h : canN sel T U n = true) : cyc (fun i => sel i || false) T n ≤ 20000 := by
  unfold canN at h
  rw [Bool.and_eq_true] at h
  exact of_decide_eq_true h.2
theorem opPiece_ok {np nc : Nat} {pe an up dn rw : Nat → Nat} {so : Nat → Bool} {mn : Nat → Nat} {wd : Nat → Bool} {wv : Nat → Int64} (h : mOk np nc pe an up dn rw so mn wd wv) (kd : Int32) (x y : Int64) : mOks (opPiece np nc pe an up dn rw so mn wd wv kd x y).1 := by
  unfold opPiece
  split
  · exact h
  · rename_i hb
    split
    · exact h
    · obtain ⟨a1, a2, a3, a4, a5, a6⟩ := h
      refine ⟨by show np + 1 ≤ 30; omega, a2, fun p q1 q2 => ?_, fun c q1 q2 => ⟨(a4 c q1 q2).1, fun k hk => ?_, (a4 c q1 q2).2.2⟩, a5, a6⟩
      · have q2 : p ≤ np + 1 := q2
        by_cases e : p = np + 1
        · subst e
          show va_up pe (np + 1) x.toInt.toNat (np + 1) ≤ 20000 ∧ va_up an (np + 1) y.toInt.toNat (np + 1) ≤ 20000 ∧ va_up up (np + 1) 0 (np + 1) < va_up dn (np + 1) 1 (np + 1) ∧ va_up dn (np + 1) 1 (np + 1) ≤ 1000000
          rw [va_up_self, va_up_self, va_up_self, va_up_self]
          omega
        · show va_up pe (np + 1) x.toInt.toNat p ≤ 20000 ∧ va_up an (np + 1) y.toInt.toNat p ≤ 20000 ∧ va_up up (np + 1) 0 p < va_up dn (np + 1) 1 p ∧ va_up dn (np + 1) 1 p ≤ 1000000
          rw [va_up_ne _ _ e, va_up_ne _ _ e, va_up_ne _ _ e, va_up_ne _ _ e]
          exact a3 p q1 (by omega)
      · obtain ⟨b1, b2, b3⟩ := (a4 c q1 q2).2.1 k hk
        refine ⟨b1, by show rw (12 * c + k) ≤ np + 1; omega, fun hs => ?_⟩
        show 0 < va_up pe (np + 1) x.toInt.toNat (rw (12 * c + k))
        rw [va_up_ne _ _ (by omega)]
        exact b3 hs
theorem opChain_ok {np nc : Nat} {pe an up dn rw : Nat → Nat} {so : Nat → Bool} {mn : Nat → Nat} {wd : Nat → Bool} {wv : Nat → Int64} (h : mOk np nc pe an up dn rw so mn wd wv) : mOks (opChain np nc pe an up dn rw so mn wd wv).1 := by
  unfold opChain
  split
  · exact h
  · rename_i hb
    obtain ⟨a1, a2, a3, a4, a5, a6⟩ := h
    refine ⟨a1, by show nc + 1 ≤ 20; omega, a3, fun c q1 q2 => ?_, fun c q1 q2 => a5 c (by have : nc + 1 < c := q1; omega) q2, fun c q1 q2 q3 => ?_⟩
    · have q2 : c ≤ nc + 1 := q2
      rcases Nat.lt_or_ge nc c with e | e
      · have hz := (a5 c e (by omega)).1
        refine ⟨by show mn c ≤ 12; omega, fun k hk => absurd (show k < mn c from hk) (by omega), fun hk => absurd (show 0 < mn c from hk) (by omega)⟩
      · exact a4 c q1 e
    · have q2 : c ≤ nc + 1 := q2
      rcases Nat.lt_or_ge nc c with e | e
      · have hz := (a5 c e (by omega)).2
        rw [show wd c = true from q3] at hz
        cases hz
      · exact a6 c q1 e q3
theorem opClock_ok {np nc : Nat} {pe an up dn rw : Nat → Nat} {so : Nat → Bool} {mn : Nat → Nat} {wd : Nat → Bool} {wv : Nat → Int64} (h : mOk np nc pe an up dn rw so mn wd wv) (y : Int32) (u d : Int64) : mOks (opClock np nc pe an up dn rw so mn wd wv y u d).1 := by
  unfold opClock
  split
  · exact h
  · rename_i hn
    split
    · exact h
    · obtain ⟨-, h1, h2⟩ := cNo_nI (show cNo y np = false by simpa using hn)
      exact mOk_clock h h1 h2 (by omega) (by omega)
theorem opWish_ok {np nc : Nat} {pe an up dn rw : Nat → Nat} {so : Nat → Bool} {mn : Nat → Nat} {wd : Nat → Bool} {wv : Nat → Int64} (h : mOk np nc pe an up dn rw so mn wd wv) (x : Int32) (mi : Int64) : mOks (opWish np nc pe an up dn rw so mn wd wv x mi).1 := by
  unfold opWish
  split
  · exact h
  · rename_i hn
    split
    · exact h
    · obtain ⟨-, h1, h2, -⟩ := spEmp_f (show spEmp nc mn x = false by simpa using hn)
      exact mOk_wish h h2 (by omega)
theorem opAdd_ok {np nc : Nat} {pe an up dn rw : Nat → Nat} {so : Nat → Bool} {mn : Nat → Nat} {wd : Nat → Bool} {wv : Nat → Int64} (h : mOk np nc pe an up dn rw so mn wd wv) (x y : Int32) (tr : Bool) : mOks (opAdd np nc pe an up dn rw so mn wd wv x y tr).1 := by
  unfold opAdd
  split
  · exact h
  · rename_i hn
    split
    · exact h
    · rename_i h3
      split
      · exact h
      · split
        · exact h
        · have hn2 : cNo x nc = false ∧ cNo y np = false := by simpa using hn
          obtain ⟨-, x1, x2⟩ := cNo_nI hn2.1
          obtain ⟨-, y1, y2⟩ := cNo_nI hn2.2
          generalize x.toInt.toNat = X at *
          generalize y.toInt.toNat = Y at *
          obtain ⟨a1, a2, a3, a4, a5, a6⟩ := h
          refine ⟨a1, a2, a3, fun c q1 q2 => ?_, fun c q1 q2 => ?_, a6⟩
          · have g := a4 c q1 q2
            show va_up mn X (mn X + 1) c ≤ 12 ∧ (∀ k, k < va_up mn X (mn X + 1) c → 1 ≤ va_up rw (12 * X + mn X) Y (12 * c + k) ∧ va_up rw (12 * X + mn X) Y (12 * c + k) ≤ np ∧ (va_up so (12 * X + mn X) (!(mn X == 0 || !tr)) (12 * c + k) = false → 0 < pe (va_up rw (12 * X + mn X) Y (12 * c + k)))) ∧ (0 < va_up mn X (mn X + 1) c → va_up so (12 * X + mn X) (!(mn X == 0 || !tr)) (12 * c) = false)
            by_cases e : c = X
            · subst e
              rw [va_up_self]
              refine ⟨by omega, fun k hk => ?_, fun _ => ?_⟩
              · by_cases ek : k = mn c
                · subst ek
                  rw [va_up_self, va_up_self]
                  refine ⟨y1, y2, fun hs => Nat.pos_of_ne_zero (fun hz => h3 ?_)⟩
                  rw [show (mn c == 0 || !tr) = true by revert hs; cases (mn c == 0 || !tr) <;> simp, hz]; rfl
                · rw [va_up_ne _ _ (by omega), va_up_ne _ _ (by omega)]
                  exact g.2.1 k (by omega)
              · by_cases ek : mn c = 0
                · rw [ek, Nat.add_zero, va_up_self]; simp
                · rw [va_up_ne _ _ (by omega)]
                  exact g.2.2 (by omega)
            · have gX := a4 X x1 x2
              rw [va_up_ne _ _ e]
              refine ⟨g.1, fun k hk => ?_, fun hk => ?_⟩
              · rw [va_up_ne _ _ (by omega), va_up_ne _ _ (by omega)]
                exact g.2.1 k hk
              · rw [va_up_ne _ _ (by omega)]
                exact g.2.2 hk
          · have g := a5 c q1 q2
            have q1 : nc < c := q1
            refine ⟨?_, g.2⟩
            show va_up mn X (mn X + 1) c = 0
            rw [va_up_ne _ _ (by omega)]
            exact g.1
end
section
/-! what the class's state is: cells by their kind and number -/
def vl (np nc k i : Nat) : Prop := (k ≤ 2 ∧ i = 0) ∨ (k = 3 ∧ 1 ≤ i ∧ i ≤ np) ∨ (4 ≤ k ∧ k ≤ 6 ∧ 1 ≤ i ∧ i ≤ nc)
def wiN (wd : Nat → Bool) (wv : Nat → Int64) (c : Nat) : Int64 := if wd c = true then wv c else -1
def xC (ka : Nat → ClassId) (ad : Nat → Nat → Nat) (np nc : Nat) (pe an up dn rw : Nat → Nat) (so : Nat → Bool) (mn : Nat → Nat) (wd : Nat → Bool) (wv : Nat → Int64) (k i : Nat) : va_E := match k with
  | 0 => .inr (2, [.ref (ad 1 0), .ref (ad 2 0), .int (nI np), .int (nI nc)])
  | 1 => refE (ka 0) 30 (fun j => if j < np then some (ad 3 (j + 1)) else none)
  | 2 => refE (ka 1) 20 (fun j => if j < nc then some (ad 4 (j + 1)) else none)
  | 3 => pcE (pe i) (an i) (up i) (dn i)
  | 4 => chE (ad 5 i) (ad 6 i) (mn i) (wiN wd wv i)
  | 5 => refE (ka 0) 12 (fun j => if j < mn i then some (ad 3 (rw (12 * i + j))) else none)
  | _ => intE (ka 2) 12 (fun j => if j < mn i then bI (!so (12 * i + j)) else 0)
def XInv (D : va_G) (ka : Nat → ClassId) (ad : Nat → Nat → Nat) (np nc : Nat) (pe an up dn rw : Nat → Nat) (so : Nat → Bool) (mn : Nat → Nat) (wd : Nat → Bool) (wv : Nat → Int64) (H : Heap) : Prop :=
  (∀ k i, vl np nc k i → va_at D vwCl (ad k i, xC ka ad np nc pe an up dn rw so mn wd wv k i) H) ∧ ∀ k i k' i', vl np nc k i → vl np nc k' i' → ad k i = ad k' i' → k = k' ∧ i = i'
section XI
variable {D : va_G} {ka : Nat → ClassId} {ad : Nat → Nat → Nat} {np nc : Nat} {pe an up dn rw : Nat → Nat} {so : Nat → Bool} {mn : Nat → Nat} {wd : Nat → Bool} {wv : Nat → Int64} {H : Heap}
theorem vl_0 : vl np nc 0 0 := Or.inl ⟨by decide, rfl⟩
theorem vl_1 : vl np nc 1 0 := Or.inl ⟨by decide, rfl⟩
theorem vl_2 : vl np nc 2 0 := Or.inl ⟨by decide, rfl⟩
theorem vl_3 {i : Nat} (h1 : 1 ≤ i) (h2 : i ≤ np) : vl np nc 3 i := Or.inr (Or.inl ⟨rfl, h1, h2⟩)
theorem vl_4 {i : Nat} (h1 : 1 ≤ i) (h2 : i ≤ nc) : vl np nc 4 i := Or.inr (Or.inr ⟨by decide, by decide, h1, h2⟩)
theorem vl_5 {i : Nat} (h1 : 1 ≤ i) (h2 : i ≤ nc) : vl np nc 5 i := Or.inr (Or.inr ⟨by decide, by decide, h1, h2⟩)
theorem vl_6 {i : Nat} (h1 : 1 ≤ i) (h2 : i ≤ nc) : vl np nc 6 i := Or.inr (Or.inr ⟨by decide, by decide, h1, h2⟩)
theorem XInv.o (h : XInv D ka ad np nc pe an up dn rw so mn wd wv H) : va_at D vwCl (ad 0 0, .inr (2, [.ref (ad 1 0), .ref (ad 2 0), .int (nI np), .int (nI nc)])) H := h.1 0 0 vl_0
theorem XInv.pa (h : XInv D ka ad np nc pe an up dn rw so mn wd wv H) : va_at D vwCl (ad 1 0, refE (ka 0) 30 (fun j => if j < np then some (ad 3 (j + 1)) else none)) H := h.1 1 0 vl_1
theorem XInv.ca (h : XInv D ka ad np nc pe an up dn rw so mn wd wv H) : va_at D vwCl (ad 2 0, refE (ka 1) 20 (fun j => if j < nc then some (ad 4 (j + 1)) else none)) H := h.1 2 0 vl_2
theorem XInv.pc (h : XInv D ka ad np nc pe an up dn rw so mn wd wv H) {i : Nat} (h1 : 1 ≤ i) (h2 : i ≤ np) : va_at D vwCl (ad 3 i, pcE (pe i) (an i) (up i) (dn i)) H := h.1 3 i (vl_3 h1 h2)
theorem XInv.ch (h : XInv D ka ad np nc pe an up dn rw so mn wd wv H) (hO : mOk np nc pe an up dn rw so mn wd wv) {c : Nat} (h1 : 1 ≤ c) (h2 : c ≤ nc) : ChAt D ka (ad 4 c) (ad 5 c) (ad 6 c) (mn c) (wiN wd wv c) (fun k => ad 3 (rw (12 * c + k))) (qS so c) (qF pe rw c) (qF an rw c) (qF up rw c) (qF dn rw c) H := by
  have g := hO.2.2.2.1 c h1 h2
  refine ⟨h.1 4 c (vl_4 h1 h2), h.1 5 c (vl_5 h1 h2), h.1 6 c (vl_6 h1 h2), fun i hi => ?_, g.1, fun i hi => ?_, fun hn => ?_⟩
  · exact h.pc (g.2.1 i hi).1 (g.2.1 i hi).2.1
  · have hR := hO.row h1 h2 hi
    exact ⟨hR.2.1, hR.2.2.1, hR.2.2.2.1, hR.2.2.2.2.1, hR.2.2.2.2.2⟩
  · show (!so (12 * c + 0)) = true
    rw [Nat.add_zero, g.2.2 hn]; rfl
theorem kp_kept (hO : mOk np nc pe an up dn rw so mn wd wv) {c : Nat} (h1 : 1 ≤ c) (h2 : c ≤ nc) : kpN (wiN wd wv c) (rea pe an up dn rw so mn c) = kept pe an up dn rw so mn wd wv c := by
  have zm : ((-1 : Int64)).toInt = -1 := by decide +kernel
  unfold kept wiN
  cases hw : wd c with
  | false => rw [if_neg (by decide), kpN_none rfl]; rfl
  | true =>
    rw [if_pos rfl]
    have := hO.2.2.2.2.2 c h1 h2 hw
    unfold kpN
    rw [decide_eq_false (by omega)]; rfl
/-- what the class steps by begins is what the reference steps by moments -/
theorem step_eq (hO : mOk np nc pe an up dn rw so mn wd wv) {c : Nat} (h1 : 1 ≤ c) (h2 : c ≤ nc) (hn : 0 < mn c) (hcy : cyc (fun i => qS so c i || !true) (qF pe rw c) (mn c) ≤ 20000) :
    qF pe rw c 0 - 1 + mxN (fun k => stp (qS so c) (qF pe rw c) (qF an rw c) (k * qF pe rw c 0) (mn c) - k * qF pe rw c 0) (cyc (fun i => qS so c i || !true) (qF pe rw c) (mn c) / qF pe rw c 0) = mxN (fun t => stp (qS so c) (qF pe rw c) (qF an rw c) t (mn c) - t) (cyc (fun i => qS so c i || false) (qF pe rw c) (mn c)) := by
  have hal : ∀ i, i < mn c → (qS so c i || !true) = true → 0 < qF pe rw c i := fun i hi hs => hO.sel h1 h2 i hi (by simpa using hs)
  have hs0 : qS so c 0 = true := by
    show (!so (12 * c + 0)) = true
    rw [Nat.add_zero, (hO.2.2.2.1 c h1 h2).2.2 hn]; rfl
  have hin := cyc_in (sel := fun i => qS so c i || !true) (T := qF pe rw c) (mn c) hal
  have hdv := cyc_dvd (sel := fun i => qS so c i || !true) (T := qF pe rw c) (mn c) hal (by omega)
  have hd0 : qF pe rw c 0 ∣ cyc (fun i => qS so c i || !true) (qF pe rw c) (mn c) := hdv 0 hn (by rw [hs0]; rfl)
  exact (stp_worst hs0 hn hin.1 (fun i hi hs => ⟨hO.sel h1 h2 i hi hs, hdv i hi (by rw [hs]; rfl)⟩) (Nat.div_mul_cancel hd0).symm).symm
end XI
end
section
/-! the class's state after a write -/
section XU
variable {D : va_G} {ka : Nat → ClassId} {ad ad2 : Nat → Nat → Nat} {np nc np2 nc2 : Nat} {pe an up dn rw pe2 an2 up2 dn2 rw2 : Nat → Nat} {so so2 : Nat → Bool} {mn mn2 : Nat → Nat} {wd wd2 : Nat → Bool} {wv wv2 : Nat → Int64} {H H1 : Heap}
theorem XInv.renew (h : XInv D ka ad np nc pe an up dn rw so mn wd wv H) (t : Nat → Nat → Prop)
    (hsame : ∀ k i, vl np2 nc2 k i → ¬ t k i → vl np nc k i ∧ ad2 k i = ad k i ∧ xC ka ad2 np2 nc2 pe2 an2 up2 dn2 rw2 so2 mn2 wd2 wv2 k i = xC ka ad np nc pe an up dn rw so mn wd wv k i ∧ H1[ad k i]? = H[ad k i]?)
    (hnew : ∀ k i, vl np2 nc2 k i → t k i → va_at D vwCl (ad2 k i, xC ka ad2 np2 nc2 pe2 an2 up2 dn2 rw2 so2 mn2 wd2 wv2 k i) H1)
    (hinj : ∀ k i k' i', vl np2 nc2 k i → vl np2 nc2 k' i' → ad2 k i = ad2 k' i' → k = k' ∧ i = i') : XInv D ka ad2 np2 nc2 pe2 an2 up2 dn2 rw2 so2 mn2 wd2 wv2 H1 := by
  refine ⟨fun k i hv => ?_, hinj⟩
  by_cases ht : t k i
  · exact hnew k i hv ht
  · obtain ⟨h1, h2, h3, h4⟩ := hsame k i hv ht
    rw [h2, h3]
    exact (h.1 k i h1).kept h4
/-- a label's kind -/
theorem vl_k {k i : Nat} (h : vl np nc k i) : (k = 0 ∧ i = 0) ∨ (k = 1 ∧ i = 0) ∨ (k = 2 ∧ i = 0) ∨ (k = 3 ∧ 1 ≤ i ∧ i ≤ np) ∨ (k = 4 ∧ 1 ≤ i ∧ i ≤ nc) ∨ (k = 5 ∧ 1 ≤ i ∧ i ≤ nc) ∨ (k = 6 ∧ 1 ≤ i ∧ i ≤ nc) := by
  unfold vl at h; omega
theorem XInv.lt (h : XInv D ka ad np nc pe an up dn rw so mn wd wv H) {k i : Nat} (hv : vl np nc k i) : ad k i < H.size := (h.1 k i hv).lt
theorem XInv.clock (h : XInv D ka ad np nc pe an up dn rw so mn wd wv H) {y u d : Nat} (h1 : 1 ≤ y) (h2 : y ≤ np) (hk : ∀ q, q < H.size → ¬ q = ad 3 y → H1[q]? = H[q]?) (hn : va_at D vwCl (ad 3 y, pcE (pe y) (an y) u d) H1) : XInv D ka ad np nc pe an (va_up up y u) (va_up dn y d) rw so mn wd wv H1 := by
  refine h.renew (fun k i => k = 3 ∧ i = y) (fun k i hv ht => ?_) (fun k i hv ht => ?_) h.2
  · refine ⟨hv, rfl, ?_, hk _ (h.lt hv) (fun e => ht (h.2 k i 3 y hv (vl_3 h1 h2) e))⟩
    rcases vl_k hv with ⟨rfl, rfl⟩ | ⟨rfl, rfl⟩ | ⟨rfl, rfl⟩ | ⟨rfl, _⟩ | ⟨rfl, _⟩ | ⟨rfl, _⟩ | ⟨rfl, _⟩
    · rfl
    · rfl
    · rfl
    · have e : i ≠ y := fun e => ht ⟨rfl, e⟩
      show pcE (pe i) (an i) (va_up up y u i) (va_up dn y d i) = pcE (pe i) (an i) (up i) (dn i)
      rw [va_up_ne _ _ e, va_up_ne _ _ e]
    · rfl
    · rfl
    · rfl
  · obtain ⟨rfl, rfl⟩ := ht
    show va_at D vwCl (ad 3 i, pcE (pe i) (an i) (va_up up i u i) (va_up dn i d i)) H1
    rw [va_up_self, va_up_self]; exact hn
theorem XInv.wish (h : XInv D ka ad np nc pe an up dn rw so mn wd wv H) {c : Nat} {mi : Int64} (h1 : 1 ≤ c) (h2 : c ≤ nc) (hk : ∀ q, q < H.size → ¬ q = ad 4 c → H1[q]? = H[q]?) (hn : va_at D vwCl (ad 4 c, chE (ad 5 c) (ad 6 c) (mn c) mi) H1) : XInv D ka ad np nc pe an up dn rw so mn (va_up wd c true) (va_up wv c mi) H1 := by
  refine h.renew (fun k i => k = 4 ∧ i = c) (fun k i hv ht => ?_) (fun k i hv ht => ?_) h.2
  · refine ⟨hv, rfl, ?_, hk _ (h.lt hv) (fun e => ht (h.2 k i 4 c hv (vl_4 h1 h2) e))⟩
    rcases vl_k hv with ⟨rfl, rfl⟩ | ⟨rfl, rfl⟩ | ⟨rfl, rfl⟩ | ⟨rfl, _⟩ | ⟨rfl, _⟩ | ⟨rfl, _⟩ | ⟨rfl, _⟩
    · rfl
    · rfl
    · rfl
    · rfl
    · have e : i ≠ c := fun e => ht ⟨rfl, e⟩
      show chE (ad 5 i) (ad 6 i) (mn i) (wiN (va_up wd c true) (va_up wv c mi) i) = chE (ad 5 i) (ad 6 i) (mn i) (wiN wd wv i)
      unfold wiN
      rw [va_up_ne _ _ e, va_up_ne _ _ e]
    · rfl
    · rfl
  · obtain ⟨rfl, rfl⟩ := ht
    show va_at D vwCl (ad 4 i, chE (ad 5 i) (ad 6 i) (mn i) (wiN (va_up wd i true) (va_up wv i mi) i)) H1
    unfold wiN
    rw [va_up_self, va_up_self, if_pos rfl]; exact hn
theorem XInv.add (h : XInv D ka ad np nc pe an up dn rw so mn wd wv H) {c y : Nat} {b : Bool} (h1 : 1 ≤ c) (h2 : c ≤ nc) (y1 : 1 ≤ y) (y2 : y ≤ np) (hm : mn c < 12) (hall : ∀ j, 1 ≤ j → j ≤ nc → mn j ≤ 12)
    (hk : ∀ q, q < H.size → ¬ (q = ad 4 c ∨ q = ad 5 c ∨ q = ad 6 c ∨ q = ad 3 y) → H1[q]? = H[q]?) (ho : va_at D vwCl (ad 4 c, chE (ad 5 c) (ad 6 c) (mn c + 1) (wiN wd wv c)) H1)
    (hr : va_at D vwCl (ad 5 c, refE (ka 0) 12 (va_up (fun j => if j < mn c then some (ad 3 (rw (12 * c + j))) else none) (mn c) (some (ad 3 y)))) H1)
    (hs : va_at D vwCl (ad 6 c, intE (ka 2) 12 (upd (fun j => if j < mn c then bI (!so (12 * c + j)) else 0) (mn c) (bI (!b)))) H1) (hp : va_at D vwCl (ad 3 y, pcE (pe y) (an y) (up y) (dn y)) H1) :
    XInv D ka ad np nc pe an up dn (va_up rw (12 * c + mn c) y) (va_up so (12 * c + mn c) b) (va_up mn c (mn c + 1)) wd wv H1 := by
  refine h.renew (fun k i => (k = 3 ∧ i = y) ∨ ((k = 4 ∨ k = 5 ∨ k = 6) ∧ i = c)) (fun k i hv ht => ?_) (fun k i hv ht => ?_) h.2
  · refine ⟨hv, rfl, ?_, hk _ (h.lt hv) (fun e => ht ?_)⟩
    · rcases vl_k hv with ⟨rfl, rfl⟩ | ⟨rfl, rfl⟩ | ⟨rfl, rfl⟩ | ⟨rfl, _⟩ | ⟨rfl, i1, i2⟩ | ⟨rfl, i1, i2⟩ | ⟨rfl, i1, i2⟩
      · rfl
      · rfl
      · rfl
      · rfl
      · have e : i ≠ c := fun e => ht (Or.inr ⟨Or.inl rfl, e⟩)
        show chE (ad 5 i) (ad 6 i) (va_up mn c (mn c + 1) i) (wiN wd wv i) = chE (ad 5 i) (ad 6 i) (mn i) (wiN wd wv i)
        rw [va_up_ne _ _ e]
      · have e : i ≠ c := fun e => ht (Or.inr ⟨Or.inr (Or.inl rfl), e⟩)
        show refE (ka 0) 12 (fun j => if j < va_up mn c (mn c + 1) i then some (ad 3 (va_up rw (12 * c + mn c) y (12 * i + j))) else none) = refE (ka 0) 12 (fun j => if j < mn i then some (ad 3 (rw (12 * i + j))) else none)
        rw [va_up_ne _ _ e]
        congr; funext j
        by_cases hj : j < mn i
        · have := hall i i1 i2
          rw [if_pos hj, if_pos hj, va_up_ne _ _ (by omega)]
        · rw [if_neg hj, if_neg hj]
      · have e : i ≠ c := fun e => ht (Or.inr ⟨Or.inr (Or.inr rfl), e⟩)
        show intE (ka 2) 12 (fun j => if j < va_up mn c (mn c + 1) i then bI (!va_up so (12 * c + mn c) b (12 * i + j)) else 0) = intE (ka 2) 12 (fun j => if j < mn i then bI (!so (12 * i + j)) else 0)
        rw [va_up_ne _ _ e]
        congr; funext j
        by_cases hj : j < mn i
        · have := hall i i1 i2
          rw [if_pos hj, if_pos hj, va_up_ne _ _ (by omega)]
        · rw [if_neg hj, if_neg hj]
    · rcases e with e | e | e | e
      · have := h.2 k i 4 c hv (vl_4 h1 h2) e; exact Or.inr ⟨Or.inl this.1, this.2⟩
      · have := h.2 k i 5 c hv (vl_5 h1 h2) e; exact Or.inr ⟨Or.inr (Or.inl this.1), this.2⟩
      · have := h.2 k i 6 c hv (vl_6 h1 h2) e; exact Or.inr ⟨Or.inr (Or.inr this.1), this.2⟩
      · have := h.2 k i 3 y hv (vl_3 y1 y2) e; exact Or.inl this
  · rcases ht with ⟨rfl, rfl⟩ | ⟨rfl | rfl | rfl, rfl⟩
    · exact hp
    · show va_at D vwCl (ad 4 i, chE (ad 5 i) (ad 6 i) (va_up mn i (mn i + 1) i) (wiN wd wv i)) H1
      rw [va_up_self]; exact ho
    · show va_at D vwCl (ad 5 i, refE (ka 0) 12 (fun j => if j < va_up mn i (mn i + 1) i then some (ad 3 (va_up rw (12 * i + mn i) y (12 * i + j))) else none)) H1
      have e : (fun j => if j < va_up mn i (mn i + 1) i then some (ad 3 (va_up rw (12 * i + mn i) y (12 * i + j))) else none) = va_up (fun j => if j < mn i then some (ad 3 (rw (12 * i + j))) else none) (mn i) (some (ad 3 y)) := by
        funext j
        rw [va_up_self]
        by_cases hj : j = mn i
        · subst hj
          rw [if_pos (by omega), va_up_self, va_up_self]
        · rw [va_up_ne _ _ hj]
          by_cases h3 : j < mn i
          · rw [if_pos h3, if_pos (by omega), va_up_ne _ _ (by omega)]
          · rw [if_neg h3, if_neg (by omega)]
      rw [e]; exact hr
    · show va_at D vwCl (ad 6 i, intE (ka 2) 12 (fun j => if j < va_up mn i (mn i + 1) i then bI (!va_up so (12 * i + mn i) b (12 * i + j)) else 0)) H1
      have e : (fun j => if j < va_up mn i (mn i + 1) i then bI (!va_up so (12 * i + mn i) b (12 * i + j)) else 0) = upd (fun j => if j < mn i then bI (!so (12 * i + j)) else 0) (mn i) (bI (!b)) := by
        funext j
        rw [va_up_self]
        by_cases hj : j = mn i
        · subst hj
          rw [if_pos (by omega), va_up_self, pk_us]
        · rw [pk_un hj]
          by_cases h3 : j < mn i
          · rw [if_pos h3, if_pos (by omega), va_up_ne _ _ (by omega)]
          · rw [if_neg h3, if_neg (by omega)]
      rw [e]; exact hs
/-- an address laid beside the others -/
def ad1 (ad : Nat → Nat → Nat) (k i q : Nat) : Nat → Nat → Nat := fun k' i' => if k' = k ∧ i' = i then q else ad k' i'
theorem ad1_s {k i q : Nat} : ad1 ad k i q k i = q := if_pos ⟨rfl, rfl⟩
theorem ad1_n {k i q k' i' : Nat} (h : ¬ (k' = k ∧ i' = i)) : ad1 ad k i q k' i' = ad k' i' := if_neg h
theorem XInv.piece (h : XInv D ka ad np nc pe an up dn rw so mn wd wv H) (hO : mOk np nc pe an up dn rw so mn wd wv) {q T R : Nat} (hq : H.size ≤ q) (hk : ∀ z, z < H.size → ¬ (z = ad 0 0 ∨ z = ad 1 0) → H1[z]? = H[z]?)
    (ho : va_at D vwCl (ad 0 0, .inr (2, [.ref (ad 1 0), .ref (ad 2 0), .int (nI (np + 1)), .int (nI nc)])) H1)
    (hr : va_at D vwCl (ad 1 0, refE (ka 0) 30 (va_up (fun j => if j < np then some (ad 3 (j + 1)) else none) np (some q))) H1) (hp : va_at D vwCl (q, pcE T R 0 1) H1) :
    XInv D ka (ad1 ad 3 (np + 1) q) (np + 1) nc (va_up pe (np + 1) T) (va_up an (np + 1) R) (va_up up (np + 1) 0) (va_up dn (np + 1) 1) rw so mn wd wv H1 := by
  have old : ∀ k i, vl (np + 1) nc k i → ¬ (k = 3 ∧ i = np + 1) → vl np nc k i := by
    intro k i hv hn; unfold vl at hv ⊢; omega
  have hz : ∀ k i, vl np nc k i → ad k i ≠ q := fun k i hv e => by have := h.lt hv; omega
  refine h.renew (fun k i => (k = 0 ∨ k = 1) ∨ (k = 3 ∧ i = np + 1)) (fun k i hv ht => ?_) (fun k i hv ht => ?_) (fun k i k' i' hv hv' e => ?_)
  · have ho := old k i hv (fun e => ht (Or.inr e))
    refine ⟨ho, ad1_n (fun e => ht (Or.inr e)), ?_, hk _ (h.lt ho) (fun e => ht ?_)⟩
    · rcases vl_k ho with ⟨rfl, rfl⟩ | ⟨rfl, rfl⟩ | ⟨rfl, rfl⟩ | ⟨rfl, i1, i2⟩ | ⟨rfl, i1, i2⟩ | ⟨rfl, i1, i2⟩ | ⟨rfl, i1, i2⟩
      · exact absurd (Or.inl (Or.inl rfl)) ht
      · exact absurd (Or.inl (Or.inr rfl)) ht
      · show refE (ka 1) 20 (fun j => if j < nc then some (ad1 ad 3 (np + 1) q 4 (j + 1)) else none) = refE (ka 1) 20 (fun j => if j < nc then some (ad 4 (j + 1)) else none)
        rfl
      · show pcE (va_up pe (np + 1) T i) (va_up an (np + 1) R i) (va_up up (np + 1) 0 i) (va_up dn (np + 1) 1 i) = pcE (pe i) (an i) (up i) (dn i)
        rw [va_up_ne _ _ (by omega), va_up_ne _ _ (by omega), va_up_ne _ _ (by omega), va_up_ne _ _ (by omega)]
      · rfl
      · show refE (ka 0) 12 (fun j => if j < mn i then some (ad1 ad 3 (np + 1) q 3 (rw (12 * i + j))) else none) = refE (ka 0) 12 (fun j => if j < mn i then some (ad 3 (rw (12 * i + j))) else none)
        congr; funext j
        by_cases hj : j < mn i
        · have := hO.row i1 i2 hj
          rw [if_pos hj, if_pos hj, ad1_n (by omega)]
        · rw [if_neg hj, if_neg hj]
      · rfl
    · rcases e with e | e
      · exact Or.inl (Or.inl (h.2 k i 0 0 ho vl_0 e).1)
      · exact Or.inl (Or.inr (h.2 k i 1 0 ho vl_1 e).1)
  · rcases ht with (rfl | rfl) | ⟨rfl, rfl⟩
    · have : i = 0 := by unfold vl at hv; omega
      subst this
      exact ho
    · have : i = 0 := by unfold vl at hv; omega
      subst this
      show va_at D vwCl (ad 1 0, refE (ka 0) 30 (fun j => if j < np + 1 then some (ad1 ad 3 (np + 1) q 3 (j + 1)) else none)) H1
      have e : (fun j => if j < np + 1 then some (ad1 ad 3 (np + 1) q 3 (j + 1)) else none) = va_up (fun j => if j < np then some (ad 3 (j + 1)) else none) np (some q) := by
        funext j
        by_cases hj : j = np
        · subst hj
          rw [if_pos (by omega), ad1_s, va_up_self]
        · rw [va_up_ne _ _ hj]
          by_cases h3 : j < np
          · rw [if_pos h3, if_pos (by omega), ad1_n (by omega)]
          · rw [if_neg h3, if_neg (by omega)]
      rw [e]; exact hr
    · show va_at D vwCl (ad1 ad 3 (np + 1) q 3 (np + 1), pcE (va_up pe (np + 1) T (np + 1)) (va_up an (np + 1) R (np + 1)) (va_up up (np + 1) 0 (np + 1)) (va_up dn (np + 1) 1 (np + 1))) H1
      rw [ad1_s, va_up_self, va_up_self, va_up_self, va_up_self]; exact hp
  · by_cases a : k = 3 ∧ i = np + 1
    · by_cases b : k' = 3 ∧ i' = np + 1
      · exact ⟨a.1.trans b.1.symm, a.2.trans b.2.symm⟩
      · obtain ⟨rfl, rfl⟩ := a
        rw [ad1_s, ad1_n b] at e
        exact absurd e.symm (hz _ _ (old _ _ hv' b))
    · by_cases b : k' = 3 ∧ i' = np + 1
      · obtain ⟨rfl, rfl⟩ := b
        rw [ad1_s, ad1_n a] at e
        exact absurd e (hz _ _ (old _ _ hv a))
      · rw [ad1_n a, ad1_n b] at e
        exact h.2 _ _ _ _ (old _ _ hv a) (old _ _ hv' b) e
theorem XInv.chain (h : XInv D ka ad np nc pe an up dn rw so mn wd wv H) (hO : mOk np nc pe an up dn rw so mn wd wv) (hn20 : nc < 20) {q r m : Nat} (hq : H.size ≤ q) (hr0 : H.size ≤ r) (hm0 : H.size ≤ m) (hqr : q ≠ r) (hqm : q ≠ m) (hrm : r ≠ m) (hk : ∀ z, z < H.size → ¬ (z = ad 0 0 ∨ z = ad 2 0) → H1[z]? = H[z]?)
    (ho : va_at D vwCl (ad 0 0, .inr (2, [.ref (ad 1 0), .ref (ad 2 0), .int (nI np), .int (nI (nc + 1))])) H1)
    (hr : va_at D vwCl (ad 2 0, refE (ka 1) 20 (va_up (fun j => if j < nc then some (ad 4 (j + 1)) else none) nc (some q))) H1)
    (hc : va_at D vwCl (q, chE r m 0 (-1)) H1) (hrow : va_at D vwCl (r, refE (ka 0) 12 (fun _ => none)) H1) (hsm : va_at D vwCl (m, intE (ka 2) 12 (fun _ => 0)) H1) :
    XInv D ka (ad1 (ad1 (ad1 ad 4 (nc + 1) q) 5 (nc + 1) r) 6 (nc + 1) m) np (nc + 1) pe an up dn rw so mn wd wv H1 := by
  have hz0 := hO.2.2.2.2.1 (nc + 1) (by omega) (by omega)
  have e4 : ad1 (ad1 (ad1 ad 4 (nc + 1) q) 5 (nc + 1) r) 6 (nc + 1) m 4 (nc + 1) = q := by rw [ad1_n (by omega), ad1_n (by omega), ad1_s]
  have e5 : ad1 (ad1 (ad1 ad 4 (nc + 1) q) 5 (nc + 1) r) 6 (nc + 1) m 5 (nc + 1) = r := by rw [ad1_n (by omega), ad1_s]
  have e6 : ad1 (ad1 (ad1 ad 4 (nc + 1) q) 5 (nc + 1) r) 6 (nc + 1) m 6 (nc + 1) = m := ad1_s
  have en : ∀ k i, ¬ ((k = 4 ∨ k = 5 ∨ k = 6) ∧ i = nc + 1) → ad1 (ad1 (ad1 ad 4 (nc + 1) q) 5 (nc + 1) r) 6 (nc + 1) m k i = ad k i := fun k i hn => by rw [ad1_n (by omega), ad1_n (by omega), ad1_n (by omega)]
  generalize hAD : ad1 (ad1 (ad1 ad 4 (nc + 1) q) 5 (nc + 1) r) 6 (nc + 1) m = AD at e4 e5 e6 en ⊢
  have old : ∀ k i, vl np (nc + 1) k i → ¬ ((k = 4 ∨ k = 5 ∨ k = 6) ∧ i = nc + 1) → vl np nc k i := by
    intro k i hv hn; unfold vl at hv ⊢; omega
  have new : ∀ k i, vl np (nc + 1) k i → ((k = 4 ∨ k = 5 ∨ k = 6) ∧ i = nc + 1) → H.size ≤ AD k i ∧ ((k = 4 ∧ AD k i = q) ∨ (k = 5 ∧ AD k i = r) ∨ (k = 6 ∧ AD k i = m)) := by
    rintro k i hv ⟨rfl | rfl | rfl, rfl⟩
    · rw [e4]; exact ⟨hq, Or.inl ⟨rfl, rfl⟩⟩
    · rw [e5]; exact ⟨hr0, Or.inr (Or.inl ⟨rfl, rfl⟩)⟩
    · rw [e6]; exact ⟨hm0, Or.inr (Or.inr ⟨rfl, rfl⟩)⟩
  refine h.renew (fun k i => (k = 0 ∨ k = 2) ∨ ((k = 4 ∨ k = 5 ∨ k = 6) ∧ i = nc + 1)) (fun k i hv ht => ?_) (fun k i hv ht => ?_) (fun k i k' i' hv hv' e => ?_)
  · have hov := old k i hv (fun e => ht (Or.inr e))
    refine ⟨hov, en k i (fun e => ht (Or.inr e)), ?_, hk _ (h.lt hov) (fun e => ht ?_)⟩
    · rcases vl_k hov with ⟨rfl, rfl⟩ | ⟨rfl, rfl⟩ | ⟨rfl, rfl⟩ | ⟨rfl, i1, i2⟩ | ⟨rfl, i1, i2⟩ | ⟨rfl, i1, i2⟩ | ⟨rfl, i1, i2⟩
      · exact absurd (Or.inl (Or.inl rfl)) ht
      · show refE (ka 0) 30 (fun j => if j < np then some (AD 3 (j + 1)) else none) = refE (ka 0) 30 (fun j => if j < np then some (ad 3 (j + 1)) else none)
        congr; funext j; rw [en 3 (j + 1) (by omega)]
      · exact absurd (Or.inl (Or.inr rfl)) ht
      · rfl
      · show chE (AD 5 i) (AD 6 i) (mn i) (wiN wd wv i) = chE (ad 5 i) (ad 6 i) (mn i) (wiN wd wv i)
        rw [en 5 i (by omega), en 6 i (by omega)]
      · show refE (ka 0) 12 (fun j => if j < mn i then some (AD 3 (rw (12 * i + j))) else none) = refE (ka 0) 12 (fun j => if j < mn i then some (ad 3 (rw (12 * i + j))) else none)
        congr; funext j; rw [en 3 _ (by omega)]
      · rfl
    · rcases e with e | e
      · exact Or.inl (Or.inl (h.2 k i 0 0 hov vl_0 e).1)
      · exact Or.inl (Or.inr (h.2 k i 2 0 hov vl_2 e).1)
  · rcases ht with (rfl | rfl) | ⟨rfl | rfl | rfl, rfl⟩
    · have : i = 0 := by unfold vl at hv; omega
      subst this
      show va_at D vwCl (AD 0 0, .inr (2, [.ref (AD 1 0), .ref (AD 2 0), .int (nI np), .int (nI (nc + 1))])) H1
      rw [en 0 0 (by omega), en 1 0 (by omega), en 2 0 (by omega)]; exact ho
    · have : i = 0 := by unfold vl at hv; omega
      subst this
      show va_at D vwCl (AD 2 0, refE (ka 1) 20 (fun j => if j < nc + 1 then some (AD 4 (j + 1)) else none)) H1
      have e : (fun j => if j < nc + 1 then some (AD 4 (j + 1)) else none) = va_up (fun j => if j < nc then some (ad 4 (j + 1)) else none) nc (some q) := by
        funext j
        by_cases hj : j = nc
        · subst hj
          rw [if_pos (by omega), e4, va_up_self]
        · rw [va_up_ne _ _ hj]
          by_cases h3 : j < nc
          · rw [if_pos h3, if_pos (by omega), en 4 _ (by omega)]
          · rw [if_neg h3, if_neg (by omega)]
      rw [e, en 2 0 (by omega)]; exact hr
    · show va_at D vwCl (AD 4 (nc + 1), chE (AD 5 (nc + 1)) (AD 6 (nc + 1)) (mn (nc + 1)) (wiN wd wv (nc + 1))) H1
      rw [e4, e5, e6, hz0.1, wiN, hz0.2, if_neg (by decide)]; exact hc
    · show va_at D vwCl (AD 5 (nc + 1), refE (ka 0) 12 (fun j => if j < mn (nc + 1) then some (AD 3 (rw (12 * (nc + 1) + j))) else none)) H1
      rw [e5, hz0.1]
      exact hrow
    · show va_at D vwCl (AD 6 (nc + 1), intE (ka 2) 12 (fun j => if j < mn (nc + 1) then bI (!so (12 * (nc + 1) + j)) else 0)) H1
      rw [e6, hz0.1]
      exact hsm
  · by_cases a : (k = 4 ∨ k = 5 ∨ k = 6) ∧ i = nc + 1
    · have na := new k i hv a
      by_cases b : (k' = 4 ∨ k' = 5 ∨ k' = 6) ∧ i' = nc + 1
      · have nb := new k' i' hv' b
        refine ⟨?_, a.2.trans b.2.symm⟩
        omega
      · rw [en k' i' b] at e
        have := h.lt (old k' i' hv' b)
        omega
    · by_cases b : (k' = 4 ∨ k' = 5 ∨ k' = 6) ∧ i' = nc + 1
      · have nb := new k' i' hv' b
        rw [en k i a] at e
        have := h.lt (old k i hv a)
        omega
      · rw [en k i a, en k' i' b] at e
        exact h.2 _ _ _ _ (old _ _ hv a) (old _ _ hv' b) e
end XU
end
section
theorem va_P_nil {D : va_G} {cl : List vw_C} {H : Heap} : va_P D cl [] H := fun k q h => by simp at h
theorem va_P_cons {D : va_G} {cl : List vw_C} {q : Nat × va_E} {r : va_W} {H : Heap} (h : va_at D cl q H) (hr : va_P D cl r H) : va_P D cl (q :: r) H := va_P_of (fun x hx => by
  rcases List.mem_cons.mp hx with rfl | hx
  · exact h
  · obtain ⟨k, hk⟩ := List.getElem?_of_mem hx
    exact hr k x hk)
/-- the reference's numbers at the start -/
abbrev z0 : Nat → Nat := fun _ => 0
abbrev zF : Nat → Bool := fun _ => false
theorem mOk_0 : mOk 0 0 z0 z0 z0 z0 z0 zF z0 zF (fun _ => 0) := ⟨by decide, by decide, fun p h1 h2 => absurd h2 (by omega), fun c h1 h2 => absurd h2 (by omega), fun _ _ _ => ⟨rfl, rfl⟩, fun c h1 h2 => absurd h2 (by omega)⟩
theorem XInv_0 {D : va_G} {ka : Nat → ClassId} {o p c : Nat} {H : Heap} (h1 : va_at D vwCl (o, .inr (2, [.ref p, .ref c, .int (nI 0), .int (nI 0)])) H) (h2 : va_at D vwCl (p, refE (ka 0) 30 (fun _ => none)) H) (h3 : va_at D vwCl (c, refE (ka 1) 20 (fun _ => none)) H) (n1 : o ≠ p) (n2 : o ≠ c) (n3 : p ≠ c) : XInv D ka (fun k _ => if k = 0 then o else if k = 1 then p else c) 0 0 z0 z0 z0 z0 z0 zF z0 zF (fun _ => 0) H := by
  have key : ∀ k i, vl 0 0 k i → (k = 0 ∨ k = 1 ∨ k = 2) ∧ i = 0 := fun k i h => by unfold vl at h; omega
  refine ⟨fun k i hv => ?_, fun k i k' i' hv hv' e => ?_⟩
  · obtain ⟨rfl | rfl | rfl, rfl⟩ := key k i hv
    · exact h1
    · show va_at D vwCl (p, refE (ka 0) 30 (fun j => if j < 0 then _ else none)) H
      exact h2
    · show va_at D vwCl (c, refE (ka 1) 20 (fun j => if j < 0 then _ else none)) H
      exact h3
  · obtain ⟨hk, rfl⟩ := key k i hv
    obtain ⟨hk', rfl⟩ := key k' i' hv'
    refine ⟨?_, rfl⟩
    rcases hk with rfl | rfl | rfl <;> rcases hk' with rfl | rfl | rfl <;> simp at e <;> first | rfl | (exfalso; first | exact n1 e | exact n2 e | exact n3 e | exact n1 e.symm | exact n2 e.symm | exact n3 e.symm)
end
section
abbrev XIs (D : va_G) (ka : Nat → ClassId) (ad : Nat → Nat → Nat) (u : MSt) (H : Heap) : Prop := XInv D ka ad u.1.1 u.1.2 u.2.1.1 u.2.1.2.1 u.2.1.2.2.1 u.2.1.2.2.2 u.2.2.1.1 u.2.2.1.2.1 u.2.2.1.2.2 u.2.2.2.1 u.2.2.2.2 H
/-- the new addresses are the old ones, or new -/
def xFr (ad : Nat → Nat → Nat) (np nc sz : Nat) (u : MSt × (Nat → Nat → Nat)) : Prop := u.2 0 0 = ad 0 0 ∧ ∀ k i, vl u.1.1.1 u.1.1.2 k i → (∃ k' i', vl np nc k' i' ∧ u.2 k i = ad k' i') ∨ sz ≤ u.2 k i
theorem xFr_same {ad : Nat → Nat → Nat} {np nc sz : Nat} {r : ((Nat → Nat) × (Nat → Nat) × (Nat → Nat) × (Nat → Nat)) × ((Nat → Nat) × (Nat → Bool) × (Nat → Nat)) × ((Nat → Bool) × (Nat → Int64))} : xFr ad np nc sz (((np, nc), r), ad) := ⟨rfl, fun k i h => Or.inl ⟨k, i, h, rfl⟩⟩
theorem xFr_piece {ad : Nat → Nat → Nat} {np nc sz q : Nat} {r : ((Nat → Nat) × (Nat → Nat) × (Nat → Nat) × (Nat → Nat)) × ((Nat → Nat) × (Nat → Bool) × (Nat → Nat)) × ((Nat → Bool) × (Nat → Int64))} (hq : sz ≤ q) : xFr ad np nc sz (((np + 1, nc), r), ad1 ad 3 (np + 1) q) := by
  refine ⟨rfl, fun k i h => ?_⟩
  have h : vl (np + 1) nc k i := h
  by_cases e : k = 3 ∧ i = np + 1
  · obtain ⟨rfl, rfl⟩ := e
    exact Or.inr (by show sz ≤ ad1 ad 3 (np + 1) q 3 (np + 1); rw [ad1_s]; exact hq)
  · exact Or.inl ⟨k, i, by unfold vl at h ⊢; omega, ad1_n e⟩
theorem xFr_chain {ad : Nat → Nat → Nat} {np nc sz q p m : Nat} {r : ((Nat → Nat) × (Nat → Nat) × (Nat → Nat) × (Nat → Nat)) × ((Nat → Nat) × (Nat → Bool) × (Nat → Nat)) × ((Nat → Bool) × (Nat → Int64))} (hq : sz ≤ q) (hp : sz ≤ p) (hm : sz ≤ m) : xFr ad np nc sz (((np, nc + 1), r), ad1 (ad1 (ad1 ad 4 (nc + 1) q) 5 (nc + 1) p) 6 (nc + 1) m) := by
  refine ⟨rfl, fun k i h => ?_⟩
  have h : vl np (nc + 1) k i := h
  show _ ∨ sz ≤ ad1 (ad1 (ad1 ad 4 (nc + 1) q) 5 (nc + 1) p) 6 (nc + 1) m k i
  by_cases e6 : k = 6 ∧ i = nc + 1
  · obtain ⟨rfl, rfl⟩ := e6
    exact Or.inr (by rw [ad1_s]; exact hm)
  · by_cases e5 : k = 5 ∧ i = nc + 1
    · obtain ⟨rfl, rfl⟩ := e5
      exact Or.inr (by rw [ad1_n (by omega), ad1_s]; exact hp)
    · by_cases e4 : k = 4 ∧ i = nc + 1
      · obtain ⟨rfl, rfl⟩ := e4
        exact Or.inr (by rw [ad1_n (by omega), ad1_n (by omega), ad1_s]; exact hq)
      · refine Or.inl ⟨k, i, by unfold vl at h ⊢; omega, ?_⟩
        show ad1 (ad1 (ad1 ad 4 (nc + 1) q) 5 (nc + 1) p) 6 (nc + 1) m k i = ad k i
        rw [ad1_n e6, ad1_n e5, ad1_n e4]
theorem holds_eq {D : va_G} {ka : Nat → ClassId} {ad : Nat → Nat → Nat} {np nc : Nat} {pe an up dn rw : Nat → Nat} {so : Nat → Bool} {mn : Nat → Nat} {wd : Nat → Bool} {wv : Nat → Int64} {H : Heap} (hX : XInv D ka ad np nc pe an up dn rw so mn wd wv H) (hO : mOk np nc pe an up dn rw so mn wd wv) {c y : Nat} (h1 : 1 ≤ c) (h2 : c ≤ nc) (y1 : 1 ≤ y) (y2 : y ≤ np) : anyN (fun i => ad 3 (rw (12 * c + i)) == ad 3 y) (mn c) = anyN (fun k => rw (12 * c + k) == y) (mn c) := by
  refine anyN_congr (mn c) (fun i hi => ?_)
  have hR := hO.row h1 h2 hi
  by_cases e : rw (12 * c + i) = y
  · rw [e]; simp
  · have : ¬ ad 3 (rw (12 * c + i)) = ad 3 y := fun q => e (hX.2 3 _ 3 y (vl_3 hR.1.1 hR.1.2.1) (vl_3 y1 y2) q).2
    rw [beq_eq_false_iff_ne.mpr e, beq_eq_false_iff_ne.mpr this]
end
section
set_option maxHeartbeats 4000000 in
set_option maxRecDepth 100000 in
theorem c_units (l : Launch) (D : va_G) (ka : Nat → ClassId) (H0 : Heap) (v u : Nat) (hu : 0 < u) (hv : v + u < 2 ^ 63) : Met l yX2_unitsUpwards (.code yX2_unitsUpwards cX2_unitsUpwards 4 (some .long) :: gT) ({ frames := 0, cells := 0, slots := 0, locals := 0 }) (ro_Pc D vwCl (tyL ka) H0 [.long (lN v), .long (lN u)]) (vp_Sl (fun r => r = lN ((v + u - 1) / u))) 0 0 (fun _ => False) := by
  refine Met.ofW (cc := cX2_unitsUpwards) (maxL := 4) (ret := (some .long)) (by decide) rfl ?_
  intro p e s m args below meth c s₁ B hml hv
  obtain ⟨rfl, hH, hK, hN⟩ := hv
  subst hH
  have hx := B.exec
  have hb := B.bytes
  have hr := B.returns
  have hts : ∀ w ∈ gT, w.before ([.long (lN v), .long (lN u)] : List Value).toArray s = true := fun w h => atoms_spec (ws := (.code yX2_unitsUpwards cX2_unitsUpwards 4 (some .long) :: gT)) B.pre w (List.mem_cons_of_mem _ h)
  have hown : s.vm.findClass RX2 = some m.cls := findClass_of_methodNamed B.named
  have hlocks := B.notSynchronized
  have hl := lv_entry ([.long (lN v), .long (lN u)]) (n := 4) (Nat.le_of_ble_eq_true rfl)
  rw [lg_entry_eq]
  generalize (lg_sl ([.long (lN v), .long (lN u)]) ++ List.replicate (4 - (lg_sl ([.long (lN v), .long (lN u)])).length) Slot.unset).toArray = ls at hl ⊢
  have hl : lv_has ls 4 [(0, .long (lN v)), (2, .long (lN u))] := hl
  refine lv_lload_n hx hb dX2_unitsUpwards_0 rfl (lv_at hl 1 rfl) ?_
  refine lv_lconst (v := lN 1) hx hb dX2_unitsUpwards_1 rfl ?_
  refine n_lcmp_ge (tgt := 10) hx hb (by omega) (by omega) dX2_unitsUpwards_2 dX2_unitsUpwards_3 (by decide) (fun hc => ?_) (fun hc => ?_)
  · refine lv_lload_n hx hb dX2_unitsUpwards_10 rfl (lv_at hl 0 rfl) ?_
    refine lv_lload_n hx hb dX2_unitsUpwards_11 rfl (lv_at hl 1 rfl) ?_
    refine n_ladd hx hb dX2_unitsUpwards_12 ?_
    refine lv_lconst (v := lN 1) hx hb dX2_unitsUpwards_13 rfl ?_
    refine n_lsub hx hb (by omega) dX2_unitsUpwards_14 ?_
    refine lv_lload_n hx hb dX2_unitsUpwards_15 rfl (lv_at hl 1 rfl) ?_
    refine n_ldiv hx hb (by omega) (by omega) (by omega) dX2_unitsUpwards_16 ?_
    exact W.lret (v := lN (((v + u) - 1) / u)) hx hb hr (fun t ht hW => ⟨_, rfl, rfl, ht⟩) t_nil dX2_unitsUpwards_17
  · exact absurd hc (by omega)
set_option maxHeartbeats 4000000 in
set_option maxRecDepth 100000 in
theorem c_gcd (l : Launch) (D : va_G) (ka : Nat → ClassId) (H0 : Heap) (a b : Nat) (ha : a < 2 ^ 62) (hb2 : b < 2 ^ 15) : Met l yX2_greatestCommonDivisor (.code yX2_greatestCommonDivisor cX2_greatestCommonDivisor 11 (some .long) :: gT) ({ frames := 0, cells := 0, slots := 0, locals := 0 }) (ro_Pc D vwCl (tyL ka) H0 [.long (lN a), .long (lN b)]) (vp_Sl (fun r => r = lN (Nat.gcd a b))) 0 0 (fun _ => False) := by
  refine Met.ofW (cc := cX2_greatestCommonDivisor) (maxL := 11) (ret := (some .long)) (by decide) rfl ?_
  intro p e s m args below meth c s₁ B hml hv
  obtain ⟨rfl, hH, hK, hN⟩ := hv
  subst hH
  have hx := B.exec
  have hb := B.bytes
  have hr := B.returns
  have hts : ∀ w ∈ gT, w.before ([.long (lN a), .long (lN b)] : List Value).toArray s = true := fun w h => atoms_spec (ws := (.code yX2_greatestCommonDivisor cX2_greatestCommonDivisor 11 (some .long) :: gT)) B.pre w (List.mem_cons_of_mem _ h)
  have hown : s.vm.findClass RX2 = some m.cls := findClass_of_methodNamed B.named
  have hlocks := B.notSynchronized
  have hl := lv_entry ([.long (lN a), .long (lN b)]) (n := 11) (Nat.le_of_ble_eq_true rfl)
  rw [lg_entry_eq]
  generalize (lg_sl ([.long (lN a), .long (lN b)]) ++ List.replicate (11 - (lg_sl ([.long (lN a), .long (lN b)])).length) Slot.unset).toArray = ls at hl ⊢
  have hl : lv_has ls 11 [(0, .long (lN a)), (2, .long (lN b))] := hl
  refine lv_lload_n hx hb dX2_greatestCommonDivisor_0 rfl (lv_at hl 0 rfl) ?_
  refine lv_lstore (lv' := [(4, .long (lN a)), (0, .long (lN a)), (2, .long (lN b))]) hx hb dX2_greatestCommonDivisor_1 hl (by decide) rfl (fun ls hl => ?_)
  refine lv_lload_n hx hb dX2_greatestCommonDivisor_3 rfl (lv_at hl 2 rfl) ?_
  refine lv_lstore (lv' := [(6, .long (lN b)), (4, .long (lN a)), (0, .long (lN a)), (2, .long (lN b))]) hx hb dX2_greatestCommonDivisor_4 hl (by decide) rfl (fun ls hl => ?_)
  refine lv_iconst (v := nI 0) hx hb dX2_greatestCommonDivisor_6 (by decide) ?_
  refine lv_istore (lv' := [(8, .int (nI 0)), (6, .long (lN b)), (4, .long (lN a)), (0, .long (lN a)), (2, .long (lN b))]) hx hb dX2_greatestCommonDivisor_7 hl (by decide) rfl (fun ls hl => ?_)
  have loop : ∀ (fu i x y : Nat), eu fu x y → i + fu ≤ 126 → x < 2 ^ 62 → y < 2 ^ 62 → Nat.gcd x y = Nat.gcd a b → ∀ ls : Array Slot, lv_has ls 11 [(8, .int (nI i)), (6, .long (lN y)), (4, .long (lN x)), (2, .long (lN b)), (0, .long (lN a))] → W p l e (headSpec (.code yX2_greatestCommonDivisor cX2_greatestCommonDivisor 11 (some .long) :: gT) ({ frames := 0, cells := 0, slots := 0, locals := 0 })).room s m ([.long (lN a), .long (lN b)] : List Value).toArray below meth c s.heap [] 0 0 (MQ below (vp_Sl (fun r => r = lN (Nat.gcd a b))) ([.long (lN a), .long (lN b)] : List Value).toArray s 0 0 (fun _ => False)) (F0 m 9 ls []) := by
    intro fu
    induction fu with
    | zero =>
      intro i x y he hi hx2 hy2 hgc ls hl
      refine lv_iload hx hb dX2_greatestCommonDivisor_9 (lv_at hl 0 rfl) ?_
      refine lv_bipush (v := nI 126) hx hb dX2_greatestCommonDivisor_11 (by decide) ?_
      refine n_icmp_ge (tgt := 44) hx hb (by omega) (by omega) dX2_greatestCommonDivisor_13 (by decide) (fun hc => ?_) (fun hc => ?_)
      · have hz : y = 0 := by exact he
        refine lv_lload hx hb dX2_greatestCommonDivisor_44 (lv_at hl 2 rfl) ?_
        exact W.lret (v := lN x) hx hb hr (fun t ht hW => ⟨_, rfl, by rw [← hgc, hz, Nat.gcd_zero_right], ht⟩) t_nil dX2_greatestCommonDivisor_46
      · refine lv_lload hx hb dX2_greatestCommonDivisor_16 (lv_at hl 1 rfl) ?_
        refine lv_lconst (v := lN 0) hx hb dX2_greatestCommonDivisor_18 rfl ?_
        refine n_lcmp_le (tgt := 44) hx hb (by omega) (by omega) dX2_greatestCommonDivisor_19 dX2_greatestCommonDivisor_20 (by decide) (fun hc => ?_) (fun hc => ?_)
        · have hz : y = 0 := by exact he
          refine lv_lload hx hb dX2_greatestCommonDivisor_44 (lv_at hl 2 rfl) ?_
          exact W.lret (v := lN x) hx hb hr (fun t ht hW => ⟨_, rfl, by rw [← hgc, hz, Nat.gcd_zero_right], ht⟩) t_nil dX2_greatestCommonDivisor_46
        · exact absurd (show y = 0 from he) (by omega)
    | succ fu ih =>
      intro i x y he hi hx2 hy2 hgc ls hl
      refine lv_iload hx hb dX2_greatestCommonDivisor_9 (lv_at hl 0 rfl) ?_
      refine lv_bipush (v := nI 126) hx hb dX2_greatestCommonDivisor_11 (by decide) ?_
      refine n_icmp_ge (tgt := 44) hx hb (by omega) (by omega) dX2_greatestCommonDivisor_13 (by decide) (fun hc => ?_) (fun hc => ?_)
      · exact absurd hc (by omega)
      · refine lv_lload hx hb dX2_greatestCommonDivisor_16 (lv_at hl 1 rfl) ?_
        refine lv_lconst (v := lN 0) hx hb dX2_greatestCommonDivisor_18 rfl ?_
        refine n_lcmp_le (tgt := 44) hx hb (by omega) (by omega) dX2_greatestCommonDivisor_19 dX2_greatestCommonDivisor_20 (by decide) (fun hc => ?_) (fun hc => ?_)
        · have hz : y = 0 := by omega
          refine lv_lload hx hb dX2_greatestCommonDivisor_44 (lv_at hl 2 rfl) ?_
          exact W.lret (v := lN x) hx hb hr (fun t ht hW => ⟨_, rfl, by rw [← hgc, hz, Nat.gcd_zero_right], ht⟩) t_nil dX2_greatestCommonDivisor_46
        · have hy : 0 < y := by omega
          have he2 : eu fu y (x % y) := by
            rcases he with q | q
            · omega
            · exact q
          have hm := Nat.mod_lt x hy
          refine lv_lload hx hb dX2_greatestCommonDivisor_23 (lv_at hl 2 rfl) ?_
          refine lv_lload hx hb dX2_greatestCommonDivisor_25 (lv_at hl 1 rfl) ?_
          refine n_lrem hx hb (by omega) (by omega) (by omega) dX2_greatestCommonDivisor_27 ?_
          refine lv_lstore (lv' := [(9, .long (lN (x % y))), (8, .int (nI i)), (6, .long (lN y)), (4, .long (lN x)), (2, .long (lN b)), (0, .long (lN a))]) hx hb dX2_greatestCommonDivisor_28 hl (by decide) rfl (fun ls hl => ?_)
          refine lv_lload hx hb dX2_greatestCommonDivisor_30 (lv_at hl 2 rfl) ?_
          refine lv_lstore (lv' := [(4, .long (lN y)), (9, .long (lN (x % y))), (8, .int (nI i)), (6, .long (lN y)), (2, .long (lN b)), (0, .long (lN a))]) hx hb dX2_greatestCommonDivisor_32 hl (by decide) rfl (fun ls hl => ?_)
          refine lv_lload hx hb dX2_greatestCommonDivisor_34 (lv_at hl 1 rfl) ?_
          refine lv_lstore (lv' := [(6, .long (lN (x % y))), (4, .long (lN y)), (9, .long (lN (x % y))), (8, .int (nI i)), (2, .long (lN b)), (0, .long (lN a))]) hx hb dX2_greatestCommonDivisor_36 hl (by decide) rfl (fun ls hl => ?_)
          refine lv_iinc (v := nI (i + 1)) (lv' := [(8, .int (nI (i + 1))), (6, .long (lN (x % y))), (4, .long (lN y)), (9, .long (lN (x % y))), (2, .long (lN b)), (0, .long (lN a))]) hx hb dX2_greatestCommonDivisor_38 hl (k := 3) rfl (nI_add i 1) (by decide) rfl (fun ls hl => ?_)
          refine lv_goto (tgt := 9) hx hb dX2_greatestCommonDivisor_41 (by decide) ?_
          exact ih (i + 1) y (x % y) he2 (by omega) (by omega) (by omega) (by rw [← hgc]; exact (gcd_step x y).symm) ls (lv_sub hl [0, 1, 2, 4, 5] rfl)
  exact loop 30 0 a b (eu_lt 15 a b hb2) (by omega) ha (by omega) rfl ls (lv_sub hl [0, 1, 2, 4, 3] rfl)
set_option maxHeartbeats 4000000 in
set_option maxRecDepth 100000 in
theorem c_lcm (l : Launch) (D : va_G) (ka : Nat → ClassId) (H0 : Heap) (a b : Nat) (ha : a < 2 ^ 62) (hb2 : b < 2 ^ 15) (ha0 : 0 < a) : Met l yX2_leastCommonMultiple (.code yX2_leastCommonMultiple cX2_leastCommonMultiple 6 (some .long) :: gT) ({ frames := 1, cells := 0, slots := 0, locals := 30 }) (ro_Pc D vwCl (tyL ka) H0 [.long (lN a), .long (lN b)]) (vp_Sl (fun r => r = lN (Nat.lcm a b))) 0 0 (fun _ => False) := by
  refine Met.ofW (cc := cX2_leastCommonMultiple) (maxL := 6) (ret := (some .long)) (by decide) rfl ?_
  intro p e s m args below meth c s₁ B hml hv
  obtain ⟨rfl, hH, hK, hN⟩ := hv
  subst hH
  have hx := B.exec
  have hb := B.bytes
  have hr := B.returns
  have hts : ∀ w ∈ gT, w.before ([.long (lN a), .long (lN b)] : List Value).toArray s = true := fun w h => atoms_spec (ws := (.code yX2_leastCommonMultiple cX2_leastCommonMultiple 6 (some .long) :: gT)) B.pre w (List.mem_cons_of_mem _ h)
  have hown : s.vm.findClass RX2 = some m.cls := findClass_of_methodNamed B.named
  have hlocks := B.notSynchronized
  have hl := lv_entry ([.long (lN a), .long (lN b)]) (n := 6) (Nat.le_of_ble_eq_true rfl)
  rw [lg_entry_eq]
  generalize (lg_sl ([.long (lN a), .long (lN b)]) ++ List.replicate (6 - (lg_sl ([.long (lN a), .long (lN b)])).length) Slot.unset).toArray = ls at hl ⊢
  have hl : lv_has ls 6 [(0, .long (lN a)), (2, .long (lN b))] := hl
  refine lv_lload_n hx hb dX2_leastCommonMultiple_0 rfl (lv_at hl 0 rfl) ?_
  refine lv_lload_n hx hb dX2_leastCommonMultiple_1 rfl (lv_at hl 1 rfl) ?_
  refine vp_callSl (va_Run.run (va_runS (As := [.long (lN a), .long (lN b)]) (rest := []) ⟨hx, hb, hml, hown, hts⟩ (c_gcd l D ka s.heap a b ha hb2) (cw_S 2 hts tb_194 rfl rfl tb_192 tb_1 tb_193 (by decide +kernel) ⟨Nat.le_of_ble_eq_true rfl, Nat.le_of_ble_eq_true rfl⟩) (ro_S hK hN) rfl rfl hl.1 rfl (lv_room (Nat.le_of_ble_eq_true rfl)) dX2_leastCommonMultiple_2 ⟨Nat.zero_le _, Nat.zero_le _⟩)) (fun r er => ?_)
  subst er
  have hg : 0 < Nat.gcd a b := Nat.gcd_pos_of_pos_left b ha0
  have hg2 : Nat.gcd a b ≤ a := Nat.gcd_le_left b ha0
  refine lv_lstore (lv' := [(4, .long (lN (Nat.gcd a b))), (0, .long (lN a)), (2, .long (lN b))]) hx hb dX2_leastCommonMultiple_5 hl (by decide) rfl (fun ls hl => ?_)
  refine lv_lload hx hb dX2_leastCommonMultiple_7 (lv_at hl 0 rfl) ?_
  refine lv_lconst (v := lN 1) hx hb dX2_leastCommonMultiple_9 rfl ?_
  refine n_lcmp_ge (tgt := 18) hx hb (by omega) (by omega) dX2_leastCommonMultiple_10 dX2_leastCommonMultiple_11 (by decide) (fun hc => ?_) (fun hc => ?_)
  · refine lv_lload_n hx hb dX2_leastCommonMultiple_18 rfl (lv_at hl 1 rfl) ?_
    refine lv_lload hx hb dX2_leastCommonMultiple_19 (lv_at hl 0 rfl) ?_
    refine n_ldiv hx hb (by omega) (by omega) (by omega) dX2_leastCommonMultiple_21 ?_
    refine lv_lload_n hx hb dX2_leastCommonMultiple_22 rfl (lv_at hl 2 rfl) ?_
    refine n_lmul hx hb dX2_leastCommonMultiple_23 ?_
    exact W.lret (v := lN ((a / (Nat.gcd a b)) * b)) hx hb hr (fun t ht hW => ⟨_, rfl, congrArg lN (lcm_eq hg), ht⟩) t_nil dX2_leastCommonMultiple_24
  · exact absurd hc (by omega)
set_option maxHeartbeats 4000000 in
set_option maxRecDepth 100000 in
theorem c_longPeriod (l : Launch) (D : va_G) (ka : Nat → ClassId) (H0 : Heap) (a T R U Dn : Nat) (ha : va_at D vwCl (a, pcE T R U Dn) H0) (hT : T ≤ 20000) (hU : U < Dn) (hD : Dn ≤ 1000000) : Met l yX1_longPeriod (.code yX1_longPeriod cX1_longPeriod 1 (some .long) :: gT) ({ frames := 1, cells := 0, slots := 0, locals := 23 }) (ro_Pc D vwCl (tyL ka) H0 [.ref a]) (vp_Sl (fun r => r = lN (lgP T U Dn))) 0 0 (fun _ => False) := by
  refine Met.ofW (cc := cX1_longPeriod) (maxL := 1) (ret := (some .long)) (by decide) rfl ?_
  intro p e s m args below meth c s₁ B hml hv
  obtain ⟨rfl, hH, hK, hN⟩ := hv
  subst hH
  have hx := B.exec
  have hb := B.bytes
  have hr := B.returns
  have hts : ∀ w ∈ gT, w.before ([.ref a] : List Value).toArray s = true := fun w h => atoms_spec (ws := (.code yX1_longPeriod cX1_longPeriod 1 (some .long) :: gT)) B.pre w (List.mem_cons_of_mem _ h)
  have hown : s.vm.findClass RX1 = some m.cls := findClass_of_methodNamed B.named
  have hlocks := B.notSynchronized
  have hl := lv_entry ([.ref a]) (n := 1) (Nat.le_of_ble_eq_true rfl)
  rw [lg_entry_eq]
  generalize (lg_sl ([.ref a]) ++ List.replicate (1 - (lg_sl ([.ref a])).length) Slot.unset).toArray = ls at hl ⊢
  have hl : lv_has ls 1 [(0, .ref a)] := hl
  refine lv_aload_n hx hb dX1_longPeriod_0 rfl (lv_at hl 0 rfl) ?_
  refine g_get (cl := vwCl) (ci := 1) (v := .long (lN T)) hx hb hts inX1 hown hK ha rfl 0 (by decide) (hts _ tb_45) rfl dX1_longPeriod_1 ?_
  refine lv_aload_n hx hb dX1_longPeriod_4 rfl (lv_at hl 0 rfl) ?_
  refine g_get (cl := vwCl) (ci := 1) (v := .long (lN Dn)) hx hb hts inX1 hown hK ha rfl 3 (by decide) (hts _ tb_53) rfl dX1_longPeriod_5 ?_
  refine lv_aload_n hx hb dX1_longPeriod_8 rfl (lv_at hl 0 rfl) ?_
  refine g_get (cl := vwCl) (ci := 1) (v := .long (lN U)) hx hb hts inX1 hown hK ha rfl 2 (by decide) (hts _ tb_50) rfl dX1_longPeriod_9 ?_
  refine n_ladd hx hb dX1_longPeriod_12 ?_
  refine n_lmul hx hb dX1_longPeriod_13 ?_
  refine lv_aload_n hx hb dX1_longPeriod_14 rfl (lv_at hl 0 rfl) ?_
  refine g_get (cl := vwCl) (ci := 1) (v := .long (lN Dn)) hx hb hts inX1 hown hK ha rfl 3 (by decide) (hts _ tb_53) rfl dX1_longPeriod_15 ?_
  have hv2 : T * (Dn + U) ≤ 20000 * 2000000 := Nat.mul_le_mul hT (by omega)
  refine vp_callSl (va_Run.run (va_runSN (As := [.long (lN (T * (Dn + U))), .long (lN Dn)]) (rest := []) ⟨hx, hb, hml, hown, hts⟩ (c_units l D ka s.heap (T * (Dn + U)) Dn (by omega) (by omega)) (cw_SN 2 hts tb_130 rfl rfl (hN _ tn_128 rfl) tb_1 tb_129 (by decide +kernel) ⟨Nat.le_of_ble_eq_true rfl, Nat.le_of_ble_eq_true rfl⟩) (ro_S hK hN) rfl rfl hl.1 rfl (lv_room (Nat.le_of_ble_eq_true rfl)) dX1_longPeriod_18 ⟨Nat.zero_le _, Nat.zero_le _⟩)) (fun r er => ?_)
  subst er
  exact W.lret (v := lN ((T * (Dn + U) + Dn - 1) / Dn)) hx hb hr (fun t ht hW => ⟨_, rfl, rfl, ht⟩) t_nil dX1_longPeriod_21
set_option maxHeartbeats 4000000 in
set_option maxRecDepth 100000 in
theorem c_broughtBy (l : Launch) (D : va_G) (ka : Nat → ClassId) (H0 : Heap) (h rw sm n : Nat) (wi : Int64) (f : Nat → Nat) (sel : Nat → Bool) (T R U Dn : Nat → Nat) (i : Nat) (hC : ChAt D ka h rw sm n wi f sel T R U Dn H0) (hlt : i < n) : Met l yX0_broughtBy (.code yX0_broughtBy cX0_broughtBy 2 (some .long) :: gT) ({ frames := 2, cells := 0, slots := 0, locals := 43 }) (ro_Pc D vwCl (tyL ka) H0 [.ref h, .int (nI i)]) (vp_Sl (fun r => r = lN (brN sel T R U Dn i))) 0 0 (fun _ => False) := by
  refine Met.ofW (cc := cX0_broughtBy) (maxL := 2) (ret := (some .long)) (by decide) rfl ?_
  intro p e s m args below meth c s₁ B hml hv
  obtain ⟨rfl, hH, hK, hN⟩ := hv
  subst hH
  have hx := B.exec
  have hb := B.bytes
  have hr := B.returns
  have hts : ∀ w ∈ gT, w.before ([.ref h, .int (nI i)] : List Value).toArray s = true := fun w h => atoms_spec (ws := (.code yX0_broughtBy cX0_broughtBy 2 (some .long) :: gT)) B.pre w (List.mem_cons_of_mem _ h)
  have hown : s.vm.findClass RX0 = some m.cls := findClass_of_methodNamed B.named
  have hlocks := B.notSynchronized
  have hl := lv_entry ([.ref h, .int (nI i)]) (n := 2) (Nat.le_of_ble_eq_true rfl)
  rw [lg_entry_eq]
  generalize (lg_sl ([.ref h, .int (nI i)]) ++ List.replicate (2 - (lg_sl ([.ref h, .int (nI i)])).length) Slot.unset).toArray = ls at hl ⊢
  have hl : lv_has ls 2 [(0, .ref h), (1, .int (nI i))] := hl
  obtain ⟨hCo, hCr, hCs, hCp, hn12, hbd, hfirst⟩ := id hC
  have hB := hbd i hlt
  refine lv_aload_n hx hb dX0_broughtBy_0 rfl (lv_at hl 0 rfl) ?_
  refine g_get (cl := vwCl) (ci := 0) (v := .ref sm) hx hb hts inX0 hown hK hCo rfl 1 (by decide) (hts _ tb_76) rfl dX0_broughtBy_1 ?_
  refine lv_iload_n hx hb dX0_broughtBy_4 rfl (lv_at hl 1 rfl) ?_
  refine g_zaldv (v := bI (sel i)) hx hb hK 2 hCs rfl (by omega) (by decide) (if_pos (by omega)) dX0_broughtBy_5 ?_
  refine b_if_eq (tgt := 31) hx hb dX0_broughtBy_6 (by decide) (fun hc => ?_) (fun hc => ?_)
  · refine lv_aload_n hx hb dX0_broughtBy_31 rfl (lv_at hl 0 rfl) ?_
    refine g_get (cl := vwCl) (ci := 0) (v := .ref rw) hx hb hts inX0 hown hK hCo rfl 0 (by decide) (hts _ tb_75) rfl dX0_broughtBy_32 ?_
    refine lv_iload_n hx hb dX0_broughtBy_35 rfl (lv_at hl 1 rfl) ?_
    refine g_aldr hx hb hK 0 hCr rfl (by omega) (by decide) (if_pos (by omega)) dX0_broughtBy_36 ?_
    refine g_getN (cl := vwCl) (ci := 1) (v := .long (lN (R i))) hx hb hts inX1 hown hK (hCp i hlt) rfl 1 (by decide) (va_Nw.use rfl (hN _ tn_49 rfl)) rfl dX0_broughtBy_37 ?_
    exact W.lret (v := lN (R i)) hx hb hr (fun t ht hW => ⟨_, rfl, by simp [brN, hc], ht⟩) t_nil dX0_broughtBy_40
  · refine lv_aload_n hx hb dX0_broughtBy_9 rfl (lv_at hl 0 rfl) ?_
    refine g_get (cl := vwCl) (ci := 0) (v := .ref rw) hx hb hts inX0 hown hK hCo rfl 0 (by decide) (hts _ tb_75) rfl dX0_broughtBy_10 ?_
    refine lv_iload_n hx hb dX0_broughtBy_13 rfl (lv_at hl 1 rfl) ?_
    refine g_aldr hx hb hK 0 hCr rfl (by omega) (by decide) (if_pos (by omega)) dX0_broughtBy_14 ?_
    refine vp_callSl (va_Run.run (va_runVN (As := []) (rest := []) ⟨hx, hb, hml, hown, hts⟩ (c_longPeriod l D ka s.heap (f i) (T i) (R i) (U i) (Dn i) (hCp i hlt) hB.1 hB.2.2.1 hB.2.2.2.1) (cw_VN 0 hts tb_127 rfl rfl (hN _ tn_124 rfl) tb_3 tb_126 ts_6 (by decide +kernel) ⟨Nat.le_of_ble_eq_true rfl, Nat.le_of_ble_eq_true rfl⟩) (ro_V (ci := 1) hK hN (hCp i hlt) rfl) rfl rfl hl.1 rfl (lv_room (Nat.le_of_ble_eq_true rfl)) dX0_broughtBy_15 ⟨Nat.zero_le _, Nat.zero_le _⟩)) (fun r er => ?_)
    subst er
    refine lv_aload_n hx hb dX0_broughtBy_18 rfl (lv_at hl 0 rfl) ?_
    refine g_get (cl := vwCl) (ci := 0) (v := .ref rw) hx hb hts inX0 hown hK hCo rfl 0 (by decide) (hts _ tb_75) rfl dX0_broughtBy_19 ?_
    refine lv_iload_n hx hb dX0_broughtBy_22 rfl (lv_at hl 1 rfl) ?_
    refine g_aldr hx hb hK 0 hCr rfl (by omega) (by decide) (if_pos (by omega)) dX0_broughtBy_23 ?_
    refine g_getN (cl := vwCl) (ci := 1) (v := .long (lN (R i))) hx hb hts inX1 hown hK (hCp i hlt) rfl 1 (by decide) (va_Nw.use rfl (hN _ tn_49 rfl)) rfl dX0_broughtBy_24 ?_
    refine n_ladd hx hb dX0_broughtBy_27 ?_
    refine lv_goto (tgt := 40) hx hb dX0_broughtBy_28 (by decide) ?_
    exact W.lret (v := lN ((lgP (T i) (U i) (Dn i)) + (R i))) hx hb hr (fun t ht hW => ⟨_, rfl, by simp [brN, hc], ht⟩) t_nil dX0_broughtBy_40
set_option maxHeartbeats 4000000 in
set_option maxRecDepth 100000 in
theorem c_worstReaction (l : Launch) (D : va_G) (ka : Nat → ClassId) (H0 : Heap) (h rw sm n : Nat) (wi : Int64) (f : Nat → Nat) (sel : Nat → Bool) (T R U Dn : Nat → Nat) (hC : ChAt D ka h rw sm n wi f sel T R U Dn H0) : Met l yX0_worstReaction (.code yX0_worstReaction cX0_worstReaction 4 (some .long) :: gT) ({ frames := 3, cells := 0, slots := 0, locals := 64 }) (ro_Pc D vwCl (tyL ka) H0 [.ref h]) (vp_Sl (fun r => r = lN (sumN (brN sel T R U Dn) n))) 0 0 (fun _ => False) := by
  refine Met.ofW (cc := cX0_worstReaction) (maxL := 4) (ret := (some .long)) (by decide) rfl ?_
  intro p e s m args below meth c s₁ B hml hv
  obtain ⟨rfl, hH, hK, hN⟩ := hv
  subst hH
  have hx := B.exec
  have hb := B.bytes
  have hr := B.returns
  have hts : ∀ w ∈ gT, w.before ([.ref h] : List Value).toArray s = true := fun w h => atoms_spec (ws := (.code yX0_worstReaction cX0_worstReaction 4 (some .long) :: gT)) B.pre w (List.mem_cons_of_mem _ h)
  have hown : s.vm.findClass RX0 = some m.cls := findClass_of_methodNamed B.named
  have hlocks := B.notSynchronized
  have hl := lv_entry ([.ref h]) (n := 4) (Nat.le_of_ble_eq_true rfl)
  rw [lg_entry_eq]
  generalize (lg_sl ([.ref h]) ++ List.replicate (4 - (lg_sl ([.ref h])).length) Slot.unset).toArray = ls at hl ⊢
  have hl : lv_has ls 4 [(0, .ref h)] := hl
  obtain ⟨hCo, hCr, hCs, hCp, hn12, hbd, hfirst⟩ := id hC
  refine lv_lconst (v := lN 0) hx hb dX0_worstReaction_0 rfl ?_
  refine lv_lstore_n (lv' := [(1, .long (lN 0)), (0, .ref h)]) hx hb dX0_worstReaction_1 rfl hl (by decide) rfl (fun ls hl => ?_)
  refine lv_iconst (v := nI 0) hx hb dX0_worstReaction_2 (by decide) ?_
  refine lv_istore_n (lv' := [(3, .int (nI 0)), (1, .long (lN 0)), (0, .ref h)]) hx hb dX0_worstReaction_3 rfl hl (by decide) rfl (fun ls hl => ?_)
  have loop : ∀ (fu i : Nat), i ≤ n → n < i + fu → ∀ ls : Array Slot, lv_has ls 4 [(3, .int (nI i)), (1, .long (lN (sumN (brN sel T R U Dn) i))), (0, .ref h)] → W p l e (headSpec (.code yX0_worstReaction cX0_worstReaction 4 (some .long) :: gT) ({ frames := 3, cells := 0, slots := 0, locals := 64 })).room s m ([.ref h] : List Value).toArray below meth c s.heap [] 0 0 (MQ below (vp_Sl (fun r => r = lN (sumN (brN sel T R U Dn) n))) ([.ref h] : List Value).toArray s 0 0 (fun _ => False)) (F0 m 4 ls []) := by
    intro fu
    induction fu with
    | zero => intro i h1 h2; exact absurd h2 (by omega)
    | succ fu ih =>
      intro i hi hf  ls hl
      refine lv_iload_n hx hb dX0_worstReaction_4 rfl (lv_at hl 0 rfl) ?_
      refine lv_aload_n hx hb dX0_worstReaction_5 rfl (lv_at hl 2 rfl) ?_
      refine g_get (cl := vwCl) (ci := 0) (v := .int (nI n)) hx hb hts inX0 hown hK hCo rfl 2 (by decide) (hts _ tb_77) rfl dX0_worstReaction_6 ?_
      refine n_icmp_ge (tgt := 26) hx hb (by omega) (by omega) dX0_worstReaction_9 (by decide) (fun hc => ?_) (fun hc => ?_)
      · refine lv_lload_n hx hb dX0_worstReaction_26 rfl (lv_at hl 1 rfl) ?_
        exact W.lret (v := lN (sumN (brN sel T R U Dn) i)) hx hb hr (fun t ht hW => ⟨_, rfl, by rw [show i = n by omega], ht⟩) t_nil dX0_worstReaction_27
      · have hlt : i < n := hc
        refine lv_lload_n hx hb dX0_worstReaction_12 rfl (lv_at hl 1 rfl) ?_
        refine lv_aload_n hx hb dX0_worstReaction_13 rfl (lv_at hl 2 rfl) ?_
        refine lv_iload_n hx hb dX0_worstReaction_14 rfl (lv_at hl 0 rfl) ?_
        refine vp_callSl (va_Run.run (va_runV (As := [.int (nI i)]) (rest := [.long (lN (sumN (brN sel T R U Dn) i))]) ⟨hx, hb, hml, hown, hts⟩ (c_broughtBy l D ka s.heap h rw sm n wi f sel T R U Dn i hC hlt) (cw_V 1 hts tb_138 rfl rfl tb_135 tb_4 tb_137 ts_8 (by decide +kernel) ⟨Nat.le_of_ble_eq_true rfl, Nat.le_of_ble_eq_true rfl⟩) (ro_V (ci := 0) hK hN hCo rfl) rfl rfl hl.1 rfl (lv_room (Nat.le_of_ble_eq_true rfl)) dX0_worstReaction_15 ⟨Nat.zero_le _, Nat.zero_le _⟩)) (fun r er => ?_)
        subst er
        refine n_ladd hx hb dX0_worstReaction_18 ?_
        refine lv_lstore_n (lv' := [(1, .long (lN ((sumN (brN sel T R U Dn) i) + (brN sel T R U Dn i)))), (3, .int (nI i)), (0, .ref h)]) hx hb dX0_worstReaction_19 rfl hl (by decide) rfl (fun ls hl => ?_)
        refine lv_iinc (v := nI (i + 1)) (lv' := [(3, .int (nI (i + 1))), (1, .long (lN ((sumN (brN sel T R U Dn) i) + (brN sel T R U Dn i)))), (0, .ref h)]) hx hb dX0_worstReaction_20 hl (k := 1) rfl (nI_add i 1) (by decide) rfl (fun ls hl => ?_)
        refine lv_goto (tgt := 4) hx hb dX0_worstReaction_23 (by decide) ?_
        exact ih (i + 1) (by omega) (by omega) ls (lv_sub hl [0, 1, 2] rfl)
  exact loop (n + 1) 0 (by omega) (by omega) ls (lv_sub hl [0, 1, 2] rfl)
set_option maxHeartbeats 4000000 in
set_option maxRecDepth 100000 in
theorem c_worstAge (l : Launch) (D : va_G) (ka : Nat → ClassId) (H0 : Heap) (h rw sm n : Nat) (wi : Int64) (f : Nat → Nat) (sel : Nat → Bool) (T R U Dn : Nat → Nat) (hC : ChAt D ka h rw sm n wi f sel T R U Dn H0) (hn0 : 0 < n) : Met l yX0_worstAge (.code yX0_worstAge cX0_worstAge 6 (some .long) :: gT) ({ frames := 4, cells := 0, slots := 0, locals := 87 }) (ro_Pc D vwCl (tyL ka) H0 [.ref h]) (vp_Sl (fun r => r = lN (sumN (brN sel T R U Dn) n - lgP (T 0) (U 0) (Dn 0) + lastS sel (fun i => lgP (T i) (U i) (Dn i)) n))) 0 0 (fun _ => False) := by
  refine Met.ofW (cc := cX0_worstAge) (maxL := 6) (ret := (some .long)) (by decide) rfl ?_
  intro p e s m args below meth c s₁ B hml hv
  obtain ⟨rfl, hH, hK, hN⟩ := hv
  subst hH
  have hx := B.exec
  have hb := B.bytes
  have hr := B.returns
  have hts : ∀ w ∈ gT, w.before ([.ref h] : List Value).toArray s = true := fun w h => atoms_spec (ws := (.code yX0_worstAge cX0_worstAge 6 (some .long) :: gT)) B.pre w (List.mem_cons_of_mem _ h)
  have hown : s.vm.findClass RX0 = some m.cls := findClass_of_methodNamed B.named
  have hlocks := B.notSynchronized
  have hl := lv_entry ([.ref h]) (n := 6) (Nat.le_of_ble_eq_true rfl)
  rw [lg_entry_eq]
  generalize (lg_sl ([.ref h]) ++ List.replicate (6 - (lg_sl ([.ref h])).length) Slot.unset).toArray = ls at hl ⊢
  have hl : lv_has ls 6 [(0, .ref h)] := hl
  obtain ⟨hCo, hCr, hCs, hCp, hn12, hbd, hfirst⟩ := id hC
  refine lv_lconst (v := lN 0) hx hb dX0_worstAge_0 rfl ?_
  refine lv_lstore_n (lv' := [(1, .long (lN 0)), (0, .ref h)]) hx hb dX0_worstAge_1 rfl hl (by decide) rfl (fun ls hl => ?_)
  refine lv_lconst (v := lN 0) hx hb dX0_worstAge_2 rfl ?_
  refine lv_lstore_n (lv' := [(3, .long (lN 0)), (1, .long (lN 0)), (0, .ref h)]) hx hb dX0_worstAge_3 rfl hl (by decide) rfl (fun ls hl => ?_)
  refine lv_iconst (v := nI 0) hx hb dX0_worstAge_4 (by decide) ?_
  refine lv_istore (lv' := [(5, .int (nI 0)), (3, .long (lN 0)), (1, .long (lN 0)), (0, .ref h)]) hx hb dX0_worstAge_5 hl (by decide) rfl (fun ls hl => ?_)
  have loop : ∀ (fu i : Nat), i ≤ n → n < i + fu → ∀ ls : Array Slot, lv_has ls 6 [(5, .int (nI i)), (3, .long (lN (lastS sel (fun i => lgP (T i) (U i) (Dn i)) i))), (1, .long (lN (if i = 0 then 0 else lgP (T 0) (U 0) (Dn 0)))), (0, .ref h)] → W p l e (headSpec (.code yX0_worstAge cX0_worstAge 6 (some .long) :: gT) ({ frames := 4, cells := 0, slots := 0, locals := 87 })).room s m ([.ref h] : List Value).toArray below meth c s.heap [] 0 0 (MQ below (vp_Sl (fun r => r = lN (sumN (brN sel T R U Dn) n - lgP (T 0) (U 0) (Dn 0) + lastS sel (fun i => lgP (T i) (U i) (Dn i)) n))) ([.ref h] : List Value).toArray s 0 0 (fun _ => False)) (F0 m 7 ls []) := by
    intro fu
    induction fu with
    | zero => intro i h1 h2; exact absurd h2 (by omega)
    | succ fu ih =>
      intro i hi hf  ls hl
      refine lv_iload hx hb dX0_worstAge_7 (lv_at hl 0 rfl) ?_
      refine lv_aload_n hx hb dX0_worstAge_9 rfl (lv_at hl 3 rfl) ?_
      refine g_get (cl := vwCl) (ci := 0) (v := .int (nI n)) hx hb hts inX0 hown hK hCo rfl 2 (by decide) (hts _ tb_77) rfl dX0_worstAge_10 ?_
      refine n_icmp_ge (tgt := 59) hx hb (by omega) (by omega) dX0_worstAge_13 (by decide) (fun hc => ?_) (fun hc => ?_)
      · obtain rfl : i = n := by omega
        rw [if_neg (by omega : ¬ i = 0)] at hl
        refine lv_aload_n hx hb dX0_worstAge_59 rfl (lv_at hl 3 rfl) ?_
        refine vp_callSl (va_Run.run (va_runV (As := []) (rest := []) ⟨hx, hb, hml, hown, hts⟩ (c_worstReaction l D ka s.heap h rw sm i wi f sel T R U Dn hC) (cw_V 0 hts tb_134 rfl rfl tb_131 tb_4 tb_133 ts_7 (by decide +kernel) ⟨Nat.le_of_ble_eq_true rfl, Nat.le_of_ble_eq_true rfl⟩) (ro_V (ci := 0) hK hN hCo rfl) rfl rfl hl.1 rfl (lv_room (Nat.le_of_ble_eq_true rfl)) dX0_worstAge_60 ⟨Nat.zero_le _, Nat.zero_le _⟩)) (fun r er => ?_)
        subst er
        have hfs : lgP (T 0) (U 0) (Dn 0) ≤ sumN (brN sel T R U Dn) i := by
          refine Nat.le_trans ?_ (sumN_ge (f := brN sel T R U Dn) hn0)
          simp [brN, hfirst hn0]
        refine lv_lload_n hx hb dX0_worstAge_63 rfl (lv_at hl 2 rfl) ?_
        refine n_lsub hx hb (by omega) dX0_worstAge_64 ?_
        refine lv_lload_n hx hb dX0_worstAge_65 rfl (lv_at hl 1 rfl) ?_
        refine n_ladd hx hb dX0_worstAge_66 ?_
        exact W.lret (v := lN (((sumN (brN sel T R U Dn) i) - (lgP (T 0) (U 0) (Dn 0))) + (lastS sel (fun i => lgP (T i) (U i) (Dn i)) i))) hx hb hr (fun t ht hW => ⟨_, rfl, rfl, ht⟩) t_nil dX0_worstAge_67
      · have hlt : i < n := hc
        have hB := hbd i hlt
        refine lv_iload hx hb dX0_worstAge_16 (lv_at hl 0 rfl) ?_
        refine n_if_ne (tgt := 32) hx hb (by omega) dX0_worstAge_18 (by decide) (fun hc0 => ?_) (fun hc0 => ?_)
        · rw [if_neg hc0] at hl
          refine lv_aload_n hx hb dX0_worstAge_32 rfl (lv_at hl 3 rfl) ?_
          refine g_get (cl := vwCl) (ci := 0) (v := .ref sm) hx hb hts inX0 hown hK hCo rfl 1 (by decide) (hts _ tb_76) rfl dX0_worstAge_33 ?_
          refine lv_iload hx hb dX0_worstAge_36 (lv_at hl 0 rfl) ?_
          refine g_zaldv (v := bI (sel i)) hx hb hK 2 hCs rfl (by omega) (by decide) (if_pos (by omega)) dX0_worstAge_38 ?_
          refine b_if_eq (tgt := 53) hx hb dX0_worstAge_39 (by decide) (fun hc => ?_) (fun hc => ?_)
          · refine lv_iinc (v := nI (i + 1)) (lv' := [(5, .int (nI (i + 1))), (3, .long (lN (lastS sel (fun i => lgP (T i) (U i) (Dn i)) i))), (1, .long (lN (lgP (T 0) (U 0) (Dn 0)))), (0, .ref h)]) hx hb dX0_worstAge_53 hl (k := 0) rfl (nI_add i 1) (by decide) rfl (fun ls hl => ?_)
            refine lv_goto (tgt := 7) hx hb dX0_worstAge_56 (by decide) ?_
            have e1 : lastS sel (fun i => lgP (T i) (U i) (Dn i)) (i + 1) = lastS sel (fun i => lgP (T i) (U i) (Dn i)) i := by simp [lastS, hc]
            exact ih (i + 1) (by omega) (by omega) ls (by rw [e1, if_neg (by omega : ¬ i + 1 = 0)]; exact lv_sub hl [0, 1, 2, 3] rfl)
          · refine lv_aload_n hx hb dX0_worstAge_42 rfl (lv_at hl 3 rfl) ?_
            refine g_get (cl := vwCl) (ci := 0) (v := .ref rw) hx hb hts inX0 hown hK hCo rfl 0 (by decide) (hts _ tb_75) rfl dX0_worstAge_43 ?_
            refine lv_iload hx hb dX0_worstAge_46 (lv_at hl 0 rfl) ?_
            refine g_aldr hx hb hK 0 hCr rfl (by omega) (by decide) (if_pos (by omega)) dX0_worstAge_48 ?_
            refine vp_callSl (va_Run.run (va_runVN (As := []) (rest := []) ⟨hx, hb, hml, hown, hts⟩ (c_longPeriod l D ka s.heap (f i) (T i) (R i) (U i) (Dn i) (hCp i hlt) hB.1 hB.2.2.1 hB.2.2.2.1) (cw_VN 0 hts tb_127 rfl rfl (hN _ tn_124 rfl) tb_3 tb_126 ts_6 (by decide +kernel) ⟨Nat.le_of_ble_eq_true rfl, Nat.le_of_ble_eq_true rfl⟩) (ro_V (ci := 1) hK hN (hCp i hlt) rfl) rfl rfl hl.1 rfl (lv_room (Nat.le_of_ble_eq_true rfl)) dX0_worstAge_49 ⟨Nat.zero_le _, Nat.zero_le _⟩)) (fun r er => ?_)
            subst er
            refine lv_lstore_n (lv' := [(3, .long (lN (lgP (T i) (U i) (Dn i)))), (5, .int (nI i)), (1, .long (lN (lgP (T 0) (U 0) (Dn 0)))), (0, .ref h)]) hx hb dX0_worstAge_52 rfl hl (by decide) rfl (fun ls hl => ?_)
            refine lv_iinc (v := nI (i + 1)) (lv' := [(5, .int (nI (i + 1))), (3, .long (lN (lgP (T i) (U i) (Dn i)))), (1, .long (lN (lgP (T 0) (U 0) (Dn 0)))), (0, .ref h)]) hx hb dX0_worstAge_53 hl (k := 1) rfl (nI_add i 1) (by decide) rfl (fun ls hl => ?_)
            refine lv_goto (tgt := 7) hx hb dX0_worstAge_56 (by decide) ?_
            have e1 : lastS sel (fun i => lgP (T i) (U i) (Dn i)) (i + 1) = lgP (T i) (U i) (Dn i) := by simp [lastS, hc]
            exact ih (i + 1) (by omega) (by omega) ls (by rw [e1, if_neg (by omega : ¬ i + 1 = 0)]; exact lv_sub hl [0, 1, 2, 3] rfl)
        · refine lv_aload_n hx hb dX0_worstAge_21 rfl (lv_at hl 3 rfl) ?_
          refine g_get (cl := vwCl) (ci := 0) (v := .ref rw) hx hb hts inX0 hown hK hCo rfl 0 (by decide) (hts _ tb_75) rfl dX0_worstAge_22 ?_
          refine lv_iload hx hb dX0_worstAge_25 (lv_at hl 0 rfl) ?_
          refine g_aldr hx hb hK 0 hCr rfl (by omega) (by decide) (if_pos (by omega)) dX0_worstAge_27 ?_
          refine vp_callSl (va_Run.run (va_runVN (As := []) (rest := []) ⟨hx, hb, hml, hown, hts⟩ (c_longPeriod l D ka s.heap (f i) (T i) (R i) (U i) (Dn i) (hCp i hlt) hB.1 hB.2.2.1 hB.2.2.2.1) (cw_VN 0 hts tb_127 rfl rfl (hN _ tn_124 rfl) tb_3 tb_126 ts_6 (by decide +kernel) ⟨Nat.le_of_ble_eq_true rfl, Nat.le_of_ble_eq_true rfl⟩) (ro_V (ci := 1) hK hN (hCp i hlt) rfl) rfl rfl hl.1 rfl (lv_room (Nat.le_of_ble_eq_true rfl)) dX0_worstAge_28 ⟨Nat.zero_le _, Nat.zero_le _⟩)) (fun r er => ?_)
          subst er
          refine lv_lstore_n (lv' := [(1, .long (lN (lgP (T i) (U i) (Dn i)))), (5, .int (nI i)), (3, .long (lN (lastS sel (fun i => lgP (T i) (U i) (Dn i)) i))), (0, .ref h)]) hx hb dX0_worstAge_31 rfl hl (by decide) rfl (fun ls hl => ?_)
          rw [show lgP (T i) (U i) (Dn i) = lgP (T 0) (U 0) (Dn 0) by rw [hc0]] at hl
          refine lv_aload_n hx hb dX0_worstAge_32 rfl (lv_at hl 3 rfl) ?_
          refine g_get (cl := vwCl) (ci := 0) (v := .ref sm) hx hb hts inX0 hown hK hCo rfl 1 (by decide) (hts _ tb_76) rfl dX0_worstAge_33 ?_
          refine lv_iload hx hb dX0_worstAge_36 (lv_at hl 1 rfl) ?_
          refine g_zaldv (v := bI (sel i)) hx hb hK 2 hCs rfl (by omega) (by decide) (if_pos (by omega)) dX0_worstAge_38 ?_
          refine b_if_eq (tgt := 53) hx hb dX0_worstAge_39 (by decide) (fun hc => ?_) (fun hc => ?_)
          · refine lv_iinc (v := nI (i + 1)) (lv' := [(5, .int (nI (i + 1))), (1, .long (lN (lgP (T 0) (U 0) (Dn 0)))), (3, .long (lN (lastS sel (fun i => lgP (T i) (U i) (Dn i)) i))), (0, .ref h)]) hx hb dX0_worstAge_53 hl (k := 1) rfl (nI_add i 1) (by decide) rfl (fun ls hl => ?_)
            refine lv_goto (tgt := 7) hx hb dX0_worstAge_56 (by decide) ?_
            have e1 : lastS sel (fun i => lgP (T i) (U i) (Dn i)) (i + 1) = lastS sel (fun i => lgP (T i) (U i) (Dn i)) i := by simp [lastS, hc]
            exact ih (i + 1) (by omega) (by omega) ls (by rw [e1, if_neg (by omega : ¬ i + 1 = 0)]; exact lv_sub hl [0, 2, 1, 3] rfl)
          · refine lv_aload_n hx hb dX0_worstAge_42 rfl (lv_at hl 3 rfl) ?_
            refine g_get (cl := vwCl) (ci := 0) (v := .ref rw) hx hb hts inX0 hown hK hCo rfl 0 (by decide) (hts _ tb_75) rfl dX0_worstAge_43 ?_
            refine lv_iload hx hb dX0_worstAge_46 (lv_at hl 1 rfl) ?_
            refine g_aldr hx hb hK 0 hCr rfl (by omega) (by decide) (if_pos (by omega)) dX0_worstAge_48 ?_
            refine vp_callSl (va_Run.run (va_runVN (As := []) (rest := []) ⟨hx, hb, hml, hown, hts⟩ (c_longPeriod l D ka s.heap (f i) (T i) (R i) (U i) (Dn i) (hCp i hlt) hB.1 hB.2.2.1 hB.2.2.2.1) (cw_VN 0 hts tb_127 rfl rfl (hN _ tn_124 rfl) tb_3 tb_126 ts_6 (by decide +kernel) ⟨Nat.le_of_ble_eq_true rfl, Nat.le_of_ble_eq_true rfl⟩) (ro_V (ci := 1) hK hN (hCp i hlt) rfl) rfl rfl hl.1 rfl (lv_room (Nat.le_of_ble_eq_true rfl)) dX0_worstAge_49 ⟨Nat.zero_le _, Nat.zero_le _⟩)) (fun r er => ?_)
            subst er
            refine lv_lstore_n (lv' := [(3, .long (lN (lgP (T i) (U i) (Dn i)))), (1, .long (lN (lgP (T 0) (U 0) (Dn 0)))), (5, .int (nI i)), (0, .ref h)]) hx hb dX0_worstAge_52 rfl hl (by decide) rfl (fun ls hl => ?_)
            refine lv_iinc (v := nI (i + 1)) (lv' := [(5, .int (nI (i + 1))), (3, .long (lN (lgP (T i) (U i) (Dn i)))), (1, .long (lN (lgP (T 0) (U 0) (Dn 0)))), (0, .ref h)]) hx hb dX0_worstAge_53 hl (k := 2) rfl (nI_add i 1) (by decide) rfl (fun ls hl => ?_)
            refine lv_goto (tgt := 7) hx hb dX0_worstAge_56 (by decide) ?_
            have e1 : lastS sel (fun i => lgP (T i) (U i) (Dn i)) (i + 1) = lgP (T i) (U i) (Dn i) := by simp [lastS, hc]
            exact ih (i + 1) (by omega) (by omega) ls (by rw [e1, if_neg (by omega : ¬ i + 1 = 0)]; exact lv_sub hl [0, 1, 2, 3] rfl)
  exact loop (n + 1) 0 (by omega) (by omega) ls (lv_sub hl [0, 1, 2, 3] rfl)
set_option maxHeartbeats 4000000 in
set_option maxRecDepth 100000 in
theorem c_answersFrom (l : Launch) (D : va_G) (ka : Nat → ClassId) (H0 : Heap) (h rw sm n : Nat) (wi : Int64) (f : Nat → Nat) (sel : Nat → Bool) (T R U Dn : Nat → Nat) (k : Nat) (hC : ChAt D ka h rw sm n wi f sel T R U Dn H0) (hk : k ≤ n) : Met l yX0_answersFrom (.code yX0_answersFrom cX0_answersFrom 5 (some .long) :: gT) ({ frames := 0, cells := 0, slots := 0, locals := 0 }) (ro_Pc D vwCl (tyL ka) H0 [.ref h, .int (nI k)]) (vp_Sl (fun r => r = lN (sumN R n - sumN R k))) 0 0 (fun _ => False) := by
  refine Met.ofW (cc := cX0_answersFrom) (maxL := 5) (ret := (some .long)) (by decide) rfl ?_
  intro p e s m args below meth c s₁ B hml hv
  obtain ⟨rfl, hH, hK, hN⟩ := hv
  subst hH
  have hx := B.exec
  have hb := B.bytes
  have hr := B.returns
  have hts : ∀ w ∈ gT, w.before ([.ref h, .int (nI k)] : List Value).toArray s = true := fun w h => atoms_spec (ws := (.code yX0_answersFrom cX0_answersFrom 5 (some .long) :: gT)) B.pre w (List.mem_cons_of_mem _ h)
  have hown : s.vm.findClass RX0 = some m.cls := findClass_of_methodNamed B.named
  have hlocks := B.notSynchronized
  have hl := lv_entry ([.ref h, .int (nI k)]) (n := 5) (Nat.le_of_ble_eq_true rfl)
  rw [lg_entry_eq]
  generalize (lg_sl ([.ref h, .int (nI k)]) ++ List.replicate (5 - (lg_sl ([.ref h, .int (nI k)])).length) Slot.unset).toArray = ls at hl ⊢
  have hl : lv_has ls 5 [(0, .ref h), (1, .int (nI k))] := hl
  obtain ⟨hCo, hCr, hCs, hCp, hn12, hbd, hfirst⟩ := id hC
  have hb31 : k < 2 ^ 31 := by omega
  refine lv_lconst (v := lN 0) hx hb dX0_answersFrom_0 rfl ?_
  refine lv_lstore_n (lv' := [(2, .long (lN 0)), (0, .ref h), (1, .int (nI k))]) hx hb dX0_answersFrom_1 rfl hl (by decide) rfl (fun ls hl => ?_)
  refine lv_iload_n hx hb dX0_answersFrom_2 rfl (lv_at hl 2 rfl) ?_
  refine lv_istore (lv' := [(4, .int (nI k)), (2, .long (lN 0)), (0, .ref h), (1, .int (nI k))]) hx hb dX0_answersFrom_3 hl (by decide) rfl (fun ls hl => ?_)
  have loop : ∀ (fu i : Nat), i ≤ n → n < i + fu → k ≤ i → ∀ ls : Array Slot, lv_has ls 5 [(4, .int (nI i)), (2, .long (lN (sumN R i - sumN R k))), (1, .int (nI k)), (0, .ref h)] → W p l e (headSpec (.code yX0_answersFrom cX0_answersFrom 5 (some .long) :: gT) ({ frames := 0, cells := 0, slots := 0, locals := 0 })).room s m ([.ref h, .int (nI k)] : List Value).toArray below meth c s.heap [] 0 0 (MQ below (vp_Sl (fun r => r = lN (sumN R n - sumN R k))) ([.ref h, .int (nI k)] : List Value).toArray s 0 0 (fun _ => False)) (F0 m 5 ls []) := by
    intro fu
    induction fu with
    | zero => intro i h1 h2; exact absurd h2 (by omega)
    | succ fu ih =>
      intro i hi hf hg0 ls hl
      refine lv_iload hx hb dX0_answersFrom_5 (lv_at hl 0 rfl) ?_
      refine lv_aload_n hx hb dX0_answersFrom_7 rfl (lv_at hl 3 rfl) ?_
      refine g_get (cl := vwCl) (ci := 0) (v := .int (nI n)) hx hb hts inX0 hown hK hCo rfl 2 (by decide) (hts _ tb_77) rfl dX0_answersFrom_8 ?_
      refine n_icmp_ge (tgt := 33) hx hb (by omega) (by omega) dX0_answersFrom_11 (by decide) (fun hc => ?_) (fun hc => ?_)
      · refine lv_lload_n hx hb dX0_answersFrom_33 rfl (lv_at hl 1 rfl) ?_
        exact W.lret (v := lN (sumN R i - sumN R k)) hx hb hr (fun t ht hW => ⟨_, rfl, by rw [show i = n by omega], ht⟩) t_nil dX0_answersFrom_34
      · have hlt : i < n := hc
        have hmo := sumN_mono (f := R) i k hg0
        refine lv_lload_n hx hb dX0_answersFrom_14 rfl (lv_at hl 1 rfl) ?_
        refine lv_aload_n hx hb dX0_answersFrom_15 rfl (lv_at hl 3 rfl) ?_
        refine g_get (cl := vwCl) (ci := 0) (v := .ref rw) hx hb hts inX0 hown hK hCo rfl 0 (by decide) (hts _ tb_75) rfl dX0_answersFrom_16 ?_
        refine lv_iload hx hb dX0_answersFrom_19 (lv_at hl 0 rfl) ?_
        refine g_aldr hx hb hK 0 hCr rfl (by omega) (by decide) (if_pos (by omega)) dX0_answersFrom_21 ?_
        refine g_getN (cl := vwCl) (ci := 1) (v := .long (lN (R i))) hx hb hts inX1 hown hK (hCp i hlt) rfl 1 (by decide) (va_Nw.use rfl (hN _ tn_49 rfl)) rfl dX0_answersFrom_22 ?_
        refine n_ladd hx hb dX0_answersFrom_25 ?_
        refine lv_lstore_n (lv' := [(2, .long (lN ((sumN R i - sumN R k) + (R i)))), (4, .int (nI i)), (1, .int (nI k)), (0, .ref h)]) hx hb dX0_answersFrom_26 rfl hl (by decide) rfl (fun ls hl => ?_)
        refine lv_iinc (v := nI (i + 1)) (lv' := [(4, .int (nI (i + 1))), (2, .long (lN ((sumN R i - sumN R k) + (R i)))), (1, .int (nI k)), (0, .ref h)]) hx hb dX0_answersFrom_27 hl (k := 1) rfl (nI_add i 1) (by decide) rfl (fun ls hl => ?_)
        refine lv_goto (tgt := 5) hx hb dX0_answersFrom_30 (by decide) ?_
        exact ih (i + 1) (by omega) (by omega) (by omega) ls (by rw [show sumN R (i + 1) - sumN R k = sumN R i - sumN R k + R i from (by show sumN R i + R i - sumN R k = _; omega)]; exact lv_sub hl [0, 1, 2, 3] rfl)
  exact loop (n + 1) k hk (by omega) (Nat.le_refl k) ls (by rw [Nat.sub_self]; exact lv_sub hl [0, 1, 3, 2] rfl)
set_option maxHeartbeats 4000000 in
set_option maxRecDepth 100000 in
theorem c_lacksPeriod (l : Launch) (D : va_G) (ka : Nat → ClassId) (H0 : Heap) (h rw sm n : Nat) (wi : Int64) (f : Nat → Nat) (sel : Nat → Bool) (T R U Dn : Nat → Nat) (hC : ChAt D ka h rw sm n wi f sel T R U Dn H0) : Met l yX0_lacksPeriod (.code yX0_lacksPeriod cX0_lacksPeriod 2 (some .boolean) :: gT) ({ frames := 0, cells := 0, slots := 0, locals := 0 }) (ro_Pc D vwCl (tyL ka) H0 [.ref h]) (vp_Si (fun r => r = bI (anyN (fun i => T i == 0) n))) 0 0 (fun _ => False) := by
  refine Met.ofW (cc := cX0_lacksPeriod) (maxL := 2) (ret := (some .boolean)) (by decide) rfl ?_
  intro p e s m args below meth c s₁ B hml hv
  obtain ⟨rfl, hH, hK, hN⟩ := hv
  subst hH
  have hx := B.exec
  have hb := B.bytes
  have hr := B.returns
  have hts : ∀ w ∈ gT, w.before ([.ref h] : List Value).toArray s = true := fun w h => atoms_spec (ws := (.code yX0_lacksPeriod cX0_lacksPeriod 2 (some .boolean) :: gT)) B.pre w (List.mem_cons_of_mem _ h)
  have hown : s.vm.findClass RX0 = some m.cls := findClass_of_methodNamed B.named
  have hlocks := B.notSynchronized
  have hl := lv_entry ([.ref h]) (n := 2) (Nat.le_of_ble_eq_true rfl)
  rw [lg_entry_eq]
  generalize (lg_sl ([.ref h]) ++ List.replicate (2 - (lg_sl ([.ref h])).length) Slot.unset).toArray = ls at hl ⊢
  have hl : lv_has ls 2 [(0, .ref h)] := hl
  obtain ⟨hCo, hCr, hCs, hCp, hn12, hbd, hfirst⟩ := id hC
  refine lv_iconst (v := nI 0) hx hb dX0_lacksPeriod_0 (by decide) ?_
  refine lv_istore_n (lv' := [(1, .int (nI 0)), (0, .ref h)]) hx hb dX0_lacksPeriod_1 rfl hl (by decide) rfl (fun ls hl => ?_)
  have loop : ∀ (fu i : Nat), i ≤ n → n < i + fu → anyN (fun i => T i == 0) i = false → ∀ ls : Array Slot, lv_has ls 2 [(1, .int (nI i)), (0, .ref h)] → W p l e (headSpec (.code yX0_lacksPeriod cX0_lacksPeriod 2 (some .boolean) :: gT) ({ frames := 0, cells := 0, slots := 0, locals := 0 })).room s m ([.ref h] : List Value).toArray below meth c s.heap [] 0 0 (MQ below (vp_Si (fun r => r = bI (anyN (fun i => T i == 0) n))) ([.ref h] : List Value).toArray s 0 0 (fun _ => False)) (F0 m 2 ls []) := by
    intro fu
    induction fu with
    | zero => intro i h1 h2; exact absurd h2 (by omega)
    | succ fu ih =>
      intro i hi hf hg0 ls hl
      refine lv_iload_n hx hb dX0_lacksPeriod_2 rfl (lv_at hl 0 rfl) ?_
      refine lv_aload_n hx hb dX0_lacksPeriod_3 rfl (lv_at hl 1 rfl) ?_
      refine g_get (cl := vwCl) (ci := 0) (v := .int (nI n)) hx hb hts inX0 hown hK hCo rfl 2 (by decide) (hts _ tb_77) rfl dX0_lacksPeriod_4 ?_
      refine n_icmp_ge (tgt := 32) hx hb (by omega) (by omega) dX0_lacksPeriod_7 (by decide) (fun hc => ?_) (fun hc => ?_)
      · obtain rfl : i = n := by omega
        refine lv_iconst (v := nI 0) hx hb dX0_lacksPeriod_32 (by decide) ?_
        exact W.zret (v := nI 0) (ty := .boolean) hx hb hr (by decide) (fun t ht hW => ⟨_, rfl, by rw [hg0]; rfl, ht⟩) t_nil dX0_lacksPeriod_33
      · have hlt : i < n := hc
        have hB := hbd i hlt
        refine lv_aload_n hx hb dX0_lacksPeriod_10 rfl (lv_at hl 1 rfl) ?_
        refine g_get (cl := vwCl) (ci := 0) (v := .ref rw) hx hb hts inX0 hown hK hCo rfl 0 (by decide) (hts _ tb_75) rfl dX0_lacksPeriod_11 ?_
        refine lv_iload_n hx hb dX0_lacksPeriod_14 rfl (lv_at hl 0 rfl) ?_
        refine g_aldr hx hb hK 0 hCr rfl (by omega) (by decide) (if_pos (by omega)) dX0_lacksPeriod_15 ?_
        refine g_getN (cl := vwCl) (ci := 1) (v := .long (lN (T i))) hx hb hts inX1 hown hK (hCp i hlt) rfl 0 (by decide) (va_Nw.use rfl (hN _ tn_47 rfl)) rfl dX0_lacksPeriod_16 ?_
        refine lv_lconst (v := lN 0) hx hb dX0_lacksPeriod_19 rfl ?_
        refine n_lcmp_ne (tgt := 26) hx hb (by omega) (by omega) dX0_lacksPeriod_20 dX0_lacksPeriod_21 (by decide) (fun hc => ?_) (fun hc => ?_)
        · refine lv_iinc (v := nI (i + 1)) (lv' := [(1, .int (nI (i + 1))), (0, .ref h)]) hx hb dX0_lacksPeriod_26 hl (k := 0) rfl (nI_add i 1) (by decide) rfl (fun ls hl => ?_)
          refine lv_goto (tgt := 2) hx hb dX0_lacksPeriod_29 (by decide) ?_
          exact ih (i + 1) (by omega) (by omega) (anyN_next hg0 (by simp; omega)) ls (lv_sub hl [0, 1] rfl)
        · refine lv_iconst (v := nI 1) hx hb dX0_lacksPeriod_24 (by decide) ?_
          exact W.zret (v := nI 1) (ty := .boolean) hx hb hr (by decide) (fun t ht hW => ⟨_, rfl, by rw [anyN_hit hlt (by simp [hc])]; rfl, ht⟩) t_nil dX0_lacksPeriod_25
  exact loop (n + 1) 0 (by omega) (by omega) rfl ls (lv_sub hl [0, 1] rfl)
set_option maxHeartbeats 4000000 in
set_option maxRecDepth 100000 in
theorem c_clocksAreRight (l : Launch) (D : va_G) (ka : Nat → ClassId) (H0 : Heap) (h rw sm n : Nat) (wi : Int64) (f : Nat → Nat) (sel : Nat → Bool) (T R U Dn : Nat → Nat) (hC : ChAt D ka h rw sm n wi f sel T R U Dn H0) : Met l yX0_clocksAreRight (.code yX0_clocksAreRight cX0_clocksAreRight 2 (some .boolean) :: gT) ({ frames := 0, cells := 0, slots := 0, locals := 0 }) (ro_Pc D vwCl (tyL ka) H0 [.ref h]) (vp_Si (fun r => r = bI (!(anyN (fun i => U i != 0) n)))) 0 0 (fun _ => False) := by
  refine Met.ofW (cc := cX0_clocksAreRight) (maxL := 2) (ret := (some .boolean)) (by decide) rfl ?_
  intro p e s m args below meth c s₁ B hml hv
  obtain ⟨rfl, hH, hK, hN⟩ := hv
  subst hH
  have hx := B.exec
  have hb := B.bytes
  have hr := B.returns
  have hts : ∀ w ∈ gT, w.before ([.ref h] : List Value).toArray s = true := fun w h => atoms_spec (ws := (.code yX0_clocksAreRight cX0_clocksAreRight 2 (some .boolean) :: gT)) B.pre w (List.mem_cons_of_mem _ h)
  have hown : s.vm.findClass RX0 = some m.cls := findClass_of_methodNamed B.named
  have hlocks := B.notSynchronized
  have hl := lv_entry ([.ref h]) (n := 2) (Nat.le_of_ble_eq_true rfl)
  rw [lg_entry_eq]
  generalize (lg_sl ([.ref h]) ++ List.replicate (2 - (lg_sl ([.ref h])).length) Slot.unset).toArray = ls at hl ⊢
  have hl : lv_has ls 2 [(0, .ref h)] := hl
  obtain ⟨hCo, hCr, hCs, hCp, hn12, hbd, hfirst⟩ := id hC
  refine lv_iconst (v := nI 0) hx hb dX0_clocksAreRight_0 (by decide) ?_
  refine lv_istore_n (lv' := [(1, .int (nI 0)), (0, .ref h)]) hx hb dX0_clocksAreRight_1 rfl hl (by decide) rfl (fun ls hl => ?_)
  have loop : ∀ (fu i : Nat), i ≤ n → n < i + fu → anyN (fun i => U i != 0) i = false → ∀ ls : Array Slot, lv_has ls 2 [(1, .int (nI i)), (0, .ref h)] → W p l e (headSpec (.code yX0_clocksAreRight cX0_clocksAreRight 2 (some .boolean) :: gT) ({ frames := 0, cells := 0, slots := 0, locals := 0 })).room s m ([.ref h] : List Value).toArray below meth c s.heap [] 0 0 (MQ below (vp_Si (fun r => r = bI (!(anyN (fun i => U i != 0) n)))) ([.ref h] : List Value).toArray s 0 0 (fun _ => False)) (F0 m 2 ls []) := by
    intro fu
    induction fu with
    | zero => intro i h1 h2; exact absurd h2 (by omega)
    | succ fu ih =>
      intro i hi hf hg0 ls hl
      refine lv_iload_n hx hb dX0_clocksAreRight_2 rfl (lv_at hl 0 rfl) ?_
      refine lv_aload_n hx hb dX0_clocksAreRight_3 rfl (lv_at hl 1 rfl) ?_
      refine g_get (cl := vwCl) (ci := 0) (v := .int (nI n)) hx hb hts inX0 hown hK hCo rfl 2 (by decide) (hts _ tb_77) rfl dX0_clocksAreRight_4 ?_
      refine n_icmp_ge (tgt := 32) hx hb (by omega) (by omega) dX0_clocksAreRight_7 (by decide) (fun hc => ?_) (fun hc => ?_)
      · obtain rfl : i = n := by omega
        refine lv_iconst (v := nI 1) hx hb dX0_clocksAreRight_32 (by decide) ?_
        exact W.zret (v := nI 1) (ty := .boolean) hx hb hr (by decide) (fun t ht hW => ⟨_, rfl, by rw [hg0]; rfl, ht⟩) t_nil dX0_clocksAreRight_33
      · have hlt : i < n := hc
        have hB := hbd i hlt
        refine lv_aload_n hx hb dX0_clocksAreRight_10 rfl (lv_at hl 1 rfl) ?_
        refine g_get (cl := vwCl) (ci := 0) (v := .ref rw) hx hb hts inX0 hown hK hCo rfl 0 (by decide) (hts _ tb_75) rfl dX0_clocksAreRight_11 ?_
        refine lv_iload_n hx hb dX0_clocksAreRight_14 rfl (lv_at hl 0 rfl) ?_
        refine g_aldr hx hb hK 0 hCr rfl (by omega) (by decide) (if_pos (by omega)) dX0_clocksAreRight_15 ?_
        refine g_getN (cl := vwCl) (ci := 1) (v := .long (lN (U i))) hx hb hts inX1 hown hK (hCp i hlt) rfl 2 (by decide) (va_Nw.use rfl (hN _ tn_52 rfl)) rfl dX0_clocksAreRight_16 ?_
        refine lv_lconst (v := lN 0) hx hb dX0_clocksAreRight_19 rfl ?_
        refine n_lcmp_eq (tgt := 26) hx hb (by omega) (by omega) dX0_clocksAreRight_20 dX0_clocksAreRight_21 (by decide) (fun hc => ?_) (fun hc => ?_)
        · refine lv_iinc (v := nI (i + 1)) (lv' := [(1, .int (nI (i + 1))), (0, .ref h)]) hx hb dX0_clocksAreRight_26 hl (k := 0) rfl (nI_add i 1) (by decide) rfl (fun ls hl => ?_)
          refine lv_goto (tgt := 2) hx hb dX0_clocksAreRight_29 (by decide) ?_
          exact ih (i + 1) (by omega) (by omega) (anyN_next hg0 (by simp [hc])) ls (lv_sub hl [0, 1] rfl)
        · refine lv_iconst (v := nI 0) hx hb dX0_clocksAreRight_24 (by decide) ?_
          exact W.zret (v := nI 0) (ty := .boolean) hx hb hr (by decide) (fun t ht hW => ⟨_, rfl, by rw [anyN_hit hlt (by simp [hc])]; rfl, ht⟩) t_nil dX0_clocksAreRight_25
  exact loop (n + 1) 0 (by omega) (by omega) rfl ls (lv_sub hl [0, 1] rfl)
set_option maxHeartbeats 4000000 in
set_option maxRecDepth 100000 in
theorem c_commonCycle (l : Launch) (D : va_G) (ka : Nat → ClassId) (H0 : Heap) (h rw sm n : Nat) (wi : Int64) (f : Nat → Nat) (sel : Nat → Bool) (T R U Dn : Nat → Nat) (al : Bool) (hC : ChAt D ka h rw sm n wi f sel T R U Dn H0) (hal : ∀ i, i < n → (sel i || !al) = true → 0 < T i) : Met l yX0_commonCycle (.code yX0_commonCycle cX0_commonCycle 5 (some .long) :: gT) ({ frames := 2, cells := 0, slots := 0, locals := 55 }) (ro_Pc D vwCl (tyL ka) H0 [.ref h, .int (bI al)]) (vp_Sl (fun r => r = lN (cyc (fun i => sel i || !al) T n))) 0 0 (fun _ => False) := by
  refine Met.ofW (cc := cX0_commonCycle) (maxL := 5) (ret := (some .long)) (by decide) rfl ?_
  intro p e s m args below meth c s₁ B hml hv
  obtain ⟨rfl, hH, hK, hN⟩ := hv
  subst hH
  have hx := B.exec
  have hb := B.bytes
  have hr := B.returns
  have hts : ∀ w ∈ gT, w.before ([.ref h, .int (bI al)] : List Value).toArray s = true := fun w h => atoms_spec (ws := (.code yX0_commonCycle cX0_commonCycle 5 (some .long) :: gT)) B.pre w (List.mem_cons_of_mem _ h)
  have hown : s.vm.findClass RX0 = some m.cls := findClass_of_methodNamed B.named
  have hlocks := B.notSynchronized
  have hl := lv_entry ([.ref h, .int (bI al)]) (n := 5) (Nat.le_of_ble_eq_true rfl)
  rw [lg_entry_eq]
  generalize (lg_sl ([.ref h, .int (bI al)]) ++ List.replicate (5 - (lg_sl ([.ref h, .int (bI al)])).length) Slot.unset).toArray = ls at hl ⊢
  have hl : lv_has ls 5 [(0, .ref h), (1, .int (bI al))] := hl
  obtain ⟨hCo, hCr, hCs, hCp, hn12, hbd, hfirst⟩ := id hC
  refine lv_lconst (v := lN 1) hx hb dX0_commonCycle_0 rfl ?_
  refine lv_lstore_n (lv' := [(2, .long (lN 1)), (0, .ref h), (1, .int (bI al))]) hx hb dX0_commonCycle_1 rfl hl (by decide) rfl (fun ls hl => ?_)
  refine lv_iconst (v := nI 0) hx hb dX0_commonCycle_2 (by decide) ?_
  refine lv_istore (lv' := [(4, .int (nI 0)), (2, .long (lN 1)), (0, .ref h), (1, .int (bI al))]) hx hb dX0_commonCycle_3 hl (by decide) rfl (fun ls hl => ?_)
  have loop : ∀ (fu i : Nat), i ≤ n → n < i + fu → ∀ ls : Array Slot, lv_has ls 5 [(4, .int (nI i)), (2, .long (lN (cyc (fun i => sel i || !al) T i))), (1, .int (bI al)), (0, .ref h)] → W p l e (headSpec (.code yX0_commonCycle cX0_commonCycle 5 (some .long) :: gT) ({ frames := 2, cells := 0, slots := 0, locals := 55 })).room s m ([.ref h, .int (bI al)] : List Value).toArray below meth c s.heap [] 0 0 (MQ below (vp_Sl (fun r => r = lN (cyc (fun i => sel i || !al) T n))) ([.ref h, .int (bI al)] : List Value).toArray s 0 0 (fun _ => False)) (F0 m 5 ls []) := by
    intro fu
    induction fu with
    | zero => intro i h1 h2; exact absurd h2 (by omega)
    | succ fu ih =>
      intro i hi hf  ls hl
      refine lv_iload hx hb dX0_commonCycle_5 (lv_at hl 0 rfl) ?_
      refine lv_aload_n hx hb dX0_commonCycle_7 rfl (lv_at hl 3 rfl) ?_
      refine g_get (cl := vwCl) (ci := 0) (v := .int (nI n)) hx hb hts inX0 hown hK hCo rfl 2 (by decide) (hts _ tb_77) rfl dX0_commonCycle_8 ?_
      refine n_icmp_ge (tgt := 55) hx hb (by omega) (by omega) dX0_commonCycle_11 (by decide) (fun hc => ?_) (fun hc => ?_)
      · refine lv_lload_n hx hb dX0_commonCycle_55 rfl (lv_at hl 1 rfl) ?_
        exact W.lret (v := lN (cyc (fun i => sel i || !al) T i)) hx hb hr (fun t ht hW => ⟨_, rfl, by rw [show i = n by omega], ht⟩) t_nil dX0_commonCycle_56
      · have hlt : i < n := hc
        have hB := hbd i hlt
        have hci := cyc_in (sel := fun i => sel i || !al) (T := T) i (fun j hj hs => hal j (by omega) hs)
        refine lv_aload_n hx hb dX0_commonCycle_14 rfl (lv_at hl 3 rfl) ?_
        refine g_get (cl := vwCl) (ci := 0) (v := .ref sm) hx hb hts inX0 hown hK hCo rfl 1 (by decide) (hts _ tb_76) rfl dX0_commonCycle_15 ?_
        refine lv_iload hx hb dX0_commonCycle_18 (lv_at hl 0 rfl) ?_
        refine g_zaldv (v := bI (sel i)) hx hb hK 2 hCs rfl (by omega) (by decide) (if_pos (by omega)) dX0_commonCycle_20 ?_
        refine b_if_ne (tgt := 28) hx hb dX0_commonCycle_21 (by decide) (fun hc1 => ?_) (fun hc1 => ?_)
        · have hs : (sel i || !al) = true := by simp [hc1]
          have hTp := hal i hlt hs
          have hlp := lcm_le (a := cyc (fun i => sel i || !al) T i) (b := T i)
          have hlq : cyc (fun i => sel i || !al) T i * T i ≤ 1000000000 * 20000 := Nat.mul_le_mul hci.2 hB.1
          refine lv_ldc2 (v := lN 1000000000) hx hb hown (hts _ tb_188) dX0_commonCycle_28 ?_
          refine lv_lload_n hx hb dX0_commonCycle_31 rfl (lv_at hl 1 rfl) ?_
          refine lv_aload_n hx hb dX0_commonCycle_32 rfl (lv_at hl 3 rfl) ?_
          refine g_get (cl := vwCl) (ci := 0) (v := .ref rw) hx hb hts inX0 hown hK hCo rfl 0 (by decide) (hts _ tb_75) rfl dX0_commonCycle_33 ?_
          refine lv_iload hx hb dX0_commonCycle_36 (lv_at hl 0 rfl) ?_
          refine g_aldr hx hb hK 0 hCr rfl (by omega) (by decide) (if_pos (by omega)) dX0_commonCycle_38 ?_
          refine g_getN (cl := vwCl) (ci := 1) (v := .long (lN (T i))) hx hb hts inX1 hown hK (hCp i hlt) rfl 0 (by decide) (va_Nw.use rfl (hN _ tn_47 rfl)) rfl dX0_commonCycle_39 ?_
          refine vp_callSl (va_Run.run (va_runSN (As := [.long (lN (cyc (fun i => sel i || !al) T i)), .long (lN (T i))]) (rest := [.long (lN 1000000000)]) ⟨hx, hb, hml, hown, hts⟩ (c_lcm l D ka s.heap (cyc (fun i => sel i || !al) T i) (T i) (by omega) (by omega) hci.1) (cw_SN 2 hts tb_191 rfl rfl (hN _ tn_189 rfl) tb_1 tb_190 (by decide +kernel) ⟨Nat.le_of_ble_eq_true rfl, Nat.le_of_ble_eq_true rfl⟩) (ro_S hK hN) rfl rfl hl.1 rfl (lv_room (Nat.le_of_ble_eq_true rfl)) dX0_commonCycle_42 ⟨Nat.zero_le _, Nat.zero_le _⟩)) (fun r er => ?_)
          subst er
          refine n_lmin hx hb (by rw [hml, hl.1]) hown (hts _ tb_195) (hts _ tb_196) (hts _ tb_9) (hts _ tb_197) (Nat.le_of_ble_eq_true rfl) (Nat.le_of_ble_eq_true rfl) (Nat.zero_le _) (Nat.zero_le _) (by omega) (by omega) dX0_commonCycle_45 ?_
          refine lv_lstore_n (lv' := [(2, .long (lN (min 1000000000 (Nat.lcm (cyc (fun i => sel i || !al) T i) (T i))))), (4, .int (nI i)), (1, .int (bI al)), (0, .ref h)]) hx hb dX0_commonCycle_48 rfl hl (by decide) rfl (fun ls hl => ?_)
          refine lv_iinc (v := nI (i + 1)) (lv' := [(4, .int (nI (i + 1))), (2, .long (lN (min 1000000000 (Nat.lcm (cyc (fun i => sel i || !al) T i) (T i))))), (1, .int (bI al)), (0, .ref h)]) hx hb dX0_commonCycle_49 hl (k := 1) rfl (nI_add i 1) (by decide) rfl (fun ls hl => ?_)
          refine lv_goto (tgt := 5) hx hb dX0_commonCycle_52 (by decide) ?_
          have e1 : cyc (fun i => sel i || !al) T (i + 1) = min 1000000000 (Nat.lcm (cyc (fun i => sel i || !al) T i) (T i)) := by simp only [cyc]; rw [if_pos hs]
          exact ih (i + 1) (by omega) (by omega) ls (by rw [e1]; exact lv_sub hl [0, 1, 2, 3] rfl)
        · refine lv_iload_n hx hb dX0_commonCycle_24 rfl (lv_at hl 2 rfl) ?_
          refine b_if_ne (tgt := 49) hx hb dX0_commonCycle_25 (by decide) (fun hc2 => ?_) (fun hc2 => ?_)
          · refine lv_iinc (v := nI (i + 1)) (lv' := [(4, .int (nI (i + 1))), (2, .long (lN (cyc (fun i => sel i || !al) T i))), (1, .int (bI al)), (0, .ref h)]) hx hb dX0_commonCycle_49 hl (k := 0) rfl (nI_add i 1) (by decide) rfl (fun ls hl => ?_)
            refine lv_goto (tgt := 5) hx hb dX0_commonCycle_52 (by decide) ?_
            have e1 : cyc (fun i => sel i || !al) T (i + 1) = cyc (fun i => sel i || !al) T i := by simp only [cyc]; rw [if_neg (by simp [hc1, hc2])]
            exact ih (i + 1) (by omega) (by omega) ls (by rw [e1]; exact lv_sub hl [0, 1, 2, 3] rfl)
          · have hs : (sel i || !al) = true := by simp [hc2]
            have hTp := hal i hlt hs
            have hlp := lcm_le (a := cyc (fun i => sel i || !al) T i) (b := T i)
            have hlq : cyc (fun i => sel i || !al) T i * T i ≤ 1000000000 * 20000 := Nat.mul_le_mul hci.2 hB.1
            refine lv_ldc2 (v := lN 1000000000) hx hb hown (hts _ tb_188) dX0_commonCycle_28 ?_
            refine lv_lload_n hx hb dX0_commonCycle_31 rfl (lv_at hl 1 rfl) ?_
            refine lv_aload_n hx hb dX0_commonCycle_32 rfl (lv_at hl 3 rfl) ?_
            refine g_get (cl := vwCl) (ci := 0) (v := .ref rw) hx hb hts inX0 hown hK hCo rfl 0 (by decide) (hts _ tb_75) rfl dX0_commonCycle_33 ?_
            refine lv_iload hx hb dX0_commonCycle_36 (lv_at hl 0 rfl) ?_
            refine g_aldr hx hb hK 0 hCr rfl (by omega) (by decide) (if_pos (by omega)) dX0_commonCycle_38 ?_
            refine g_getN (cl := vwCl) (ci := 1) (v := .long (lN (T i))) hx hb hts inX1 hown hK (hCp i hlt) rfl 0 (by decide) (va_Nw.use rfl (hN _ tn_47 rfl)) rfl dX0_commonCycle_39 ?_
            refine vp_callSl (va_Run.run (va_runSN (As := [.long (lN (cyc (fun i => sel i || !al) T i)), .long (lN (T i))]) (rest := [.long (lN 1000000000)]) ⟨hx, hb, hml, hown, hts⟩ (c_lcm l D ka s.heap (cyc (fun i => sel i || !al) T i) (T i) (by omega) (by omega) hci.1) (cw_SN 2 hts tb_191 rfl rfl (hN _ tn_189 rfl) tb_1 tb_190 (by decide +kernel) ⟨Nat.le_of_ble_eq_true rfl, Nat.le_of_ble_eq_true rfl⟩) (ro_S hK hN) rfl rfl hl.1 rfl (lv_room (Nat.le_of_ble_eq_true rfl)) dX0_commonCycle_42 ⟨Nat.zero_le _, Nat.zero_le _⟩)) (fun r er => ?_)
            subst er
            refine n_lmin hx hb (by rw [hml, hl.1]) hown (hts _ tb_195) (hts _ tb_196) (hts _ tb_9) (hts _ tb_197) (Nat.le_of_ble_eq_true rfl) (Nat.le_of_ble_eq_true rfl) (Nat.zero_le _) (Nat.zero_le _) (by omega) (by omega) dX0_commonCycle_45 ?_
            refine lv_lstore_n (lv' := [(2, .long (lN (min 1000000000 (Nat.lcm (cyc (fun i => sel i || !al) T i) (T i))))), (4, .int (nI i)), (1, .int (bI al)), (0, .ref h)]) hx hb dX0_commonCycle_48 rfl hl (by decide) rfl (fun ls hl => ?_)
            refine lv_iinc (v := nI (i + 1)) (lv' := [(4, .int (nI (i + 1))), (2, .long (lN (min 1000000000 (Nat.lcm (cyc (fun i => sel i || !al) T i) (T i))))), (1, .int (bI al)), (0, .ref h)]) hx hb dX0_commonCycle_49 hl (k := 1) rfl (nI_add i 1) (by decide) rfl (fun ls hl => ?_)
            refine lv_goto (tgt := 5) hx hb dX0_commonCycle_52 (by decide) ?_
            have e1 : cyc (fun i => sel i || !al) T (i + 1) = min 1000000000 (Nat.lcm (cyc (fun i => sel i || !al) T i) (T i)) := by simp only [cyc]; rw [if_pos hs]
            exact ih (i + 1) (by omega) (by omega) ls (by rw [e1]; exact lv_sub hl [0, 1, 2, 3] rfl)
  exact loop (n + 1) 0 (by omega) (by omega) ls (lv_sub hl [0, 1, 3, 2] rfl)
set_option maxHeartbeats 4000000 in
set_option maxRecDepth 100000 in
theorem c_keepsWish (l : Launch) (D : va_G) (ka : Nat → ClassId) (H0 : Heap) (h rw sm n : Nat) (wi : Int64) (f : Nat → Nat) (sel : Nat → Bool) (T R U Dn : Nat → Nat) (hC : ChAt D ka h rw sm n wi f sel T R U Dn H0) : Met l yX0_keepsWish (.code yX0_keepsWish cX0_keepsWish 1 (some .boolean) :: gT) ({ frames := 4, cells := 0, slots := 0, locals := 87 }) (ro_Pc D vwCl (tyL ka) H0 [.ref h]) (vp_Si (fun r => r = bI (kpN wi (sumN (brN sel T R U Dn) n)))) 0 0 (fun _ => False) := by
  refine Met.ofW (cc := cX0_keepsWish) (maxL := 1) (ret := (some .boolean)) (by decide) rfl ?_
  intro p e s m args below meth c s₁ B hml hv
  obtain ⟨rfl, hH, hK, hN⟩ := hv
  subst hH
  have hx := B.exec
  have hb := B.bytes
  have hr := B.returns
  have hts : ∀ w ∈ gT, w.before ([.ref h] : List Value).toArray s = true := fun w h => atoms_spec (ws := (.code yX0_keepsWish cX0_keepsWish 1 (some .boolean) :: gT)) B.pre w (List.mem_cons_of_mem _ h)
  have hown : s.vm.findClass RX0 = some m.cls := findClass_of_methodNamed B.named
  have hlocks := B.notSynchronized
  have hl := lv_entry ([.ref h]) (n := 1) (Nat.le_of_ble_eq_true rfl)
  rw [lg_entry_eq]
  generalize (lg_sl ([.ref h]) ++ List.replicate (1 - (lg_sl ([.ref h])).length) Slot.unset).toArray = ls at hl ⊢
  have hl : lv_has ls 1 [(0, .ref h)] := hl
  obtain ⟨hCo, hCr, hCs, hCp, hn12, hbd, hfirst⟩ := id hC
  refine lv_aload_n hx hb dX0_keepsWish_0 rfl (lv_at hl 0 rfl) ?_
  refine g_get (cl := vwCl) (ci := 0) (v := .long wi) hx hb hts inX0 hown hK hCo rfl 3 (by decide) (hts _ tb_79) rfl dX0_keepsWish_1 ?_
  refine lv_ldc2 (v := (-1)) hx hb hown (hts _ tb_74) dX0_keepsWish_4 ?_
  refine r_lcmp_eq (tgt := 27) hx hb dX0_keepsWish_7 dX0_keepsWish_8 (by decide) (fun hc1 => ?_) (fun hc1 => ?_)
  · refine lv_iconst (v := nI 0) hx hb dX0_keepsWish_27 (by decide) ?_
    exact W.zret (v := nI 0) (ty := .boolean) hx hb hr (by decide) (fun t ht hW => ⟨_, rfl, by rw [kpN_none (by omega)]; rfl, ht⟩) t_nil dX0_keepsWish_28
  · refine lv_aload_n hx hb dX0_keepsWish_11 rfl (lv_at hl 0 rfl) ?_
    refine vp_callSl (va_Run.run (va_runV (As := []) (rest := []) ⟨hx, hb, hml, hown, hts⟩ (c_worstReaction l D ka s.heap h rw sm n wi f sel T R U Dn hC) (cw_V 0 hts tb_134 rfl rfl tb_131 tb_4 tb_133 ts_7 (by decide +kernel) ⟨Nat.le_of_ble_eq_true rfl, Nat.le_of_ble_eq_true rfl⟩) (ro_V (ci := 0) hK hN hCo rfl) rfl rfl hl.1 rfl (lv_room (Nat.le_of_ble_eq_true rfl)) dX0_keepsWish_12 ⟨Nat.zero_le _, Nat.zero_le _⟩)) (fun r er => ?_)
    subst er
    refine lv_aload_n hx hb dX0_keepsWish_15 rfl (lv_at hl 0 rfl) ?_
    refine g_get (cl := vwCl) (ci := 0) (v := .long wi) hx hb hts inX0 hown hK hCo rfl 3 (by decide) (hts _ tb_79) rfl dX0_keepsWish_16 ?_
    refine r_lcmp_gt (tgt := 27) hx hb dX0_keepsWish_19 dX0_keepsWish_20 (by decide) (fun hc => ?_) (fun hc => ?_)
    · refine lv_iconst (v := nI 0) hx hb dX0_keepsWish_27 (by decide) ?_
      exact W.zret (v := nI 0) (ty := .boolean) hx hb hr (by decide) (fun t ht hW => ⟨_, rfl, by rw [kpN_no hc1 hc]; rfl, ht⟩) t_nil dX0_keepsWish_28
    · refine lv_iconst (v := nI 1) hx hb dX0_keepsWish_23 (by decide) ?_
      refine lv_goto (tgt := 28) hx hb dX0_keepsWish_24 (by decide) ?_
      exact W.zret (v := nI 1) (ty := .boolean) hx hb hr (by decide) (fun t ht hW => ⟨_, rfl, by rw [kpN_yes hc1 hc]; rfl, ht⟩) t_nil dX0_keepsWish_28
set_option maxHeartbeats 4000000 in
set_option maxRecDepth 100000 in
theorem c_canBeStepped (l : Launch) (D : va_G) (ka : Nat → ClassId) (H0 : Heap) (h rw sm n : Nat) (wi : Int64) (f : Nat → Nat) (sel : Nat → Bool) (T R U Dn : Nat → Nat) (hC : ChAt D ka h rw sm n wi f sel T R U Dn H0) : Met l yX0_canBeStepped (.code yX0_canBeStepped cX0_canBeStepped 1 (some .boolean) :: gT) ({ frames := 3, cells := 0, slots := 0, locals := 79 }) (ro_Pc D vwCl (tyL ka) H0 [.ref h]) (vp_Si (fun r => r = bI (canN sel T U n))) 0 0 (fun _ => False) := by
  refine Met.ofW (cc := cX0_canBeStepped) (maxL := 1) (ret := (some .boolean)) (by decide) rfl ?_
  intro p e s m args below meth c s₁ B hml hv
  obtain ⟨rfl, hH, hK, hN⟩ := hv
  subst hH
  have hx := B.exec
  have hb := B.bytes
  have hr := B.returns
  have hts : ∀ w ∈ gT, w.before ([.ref h] : List Value).toArray s = true := fun w h => atoms_spec (ws := (.code yX0_canBeStepped cX0_canBeStepped 1 (some .boolean) :: gT)) B.pre w (List.mem_cons_of_mem _ h)
  have hown : s.vm.findClass RX0 = some m.cls := findClass_of_methodNamed B.named
  have hlocks := B.notSynchronized
  have hl := lv_entry ([.ref h]) (n := 1) (Nat.le_of_ble_eq_true rfl)
  rw [lg_entry_eq]
  generalize (lg_sl ([.ref h]) ++ List.replicate (1 - (lg_sl ([.ref h])).length) Slot.unset).toArray = ls at hl ⊢
  have hl : lv_has ls 1 [(0, .ref h)] := hl
  obtain ⟨hCo, hCr, hCs, hCp, hn12, hbd, hfirst⟩ := id hC
  refine lv_aload_n hx hb dX0_canBeStepped_0 rfl (lv_at hl 0 rfl) ?_
  have hal : ∀ i, i < n → (sel i || !true) = true → 0 < T i := fun i hi hs => (hbd i hi).2.2.2.2 (by simpa using hs)
  have hci := cyc_in (sel := fun i => sel i || !true) (T := T) n hal
  refine vp_callSi (va_Run.run (va_runV (As := []) (rest := []) ⟨hx, hb, hml, hown, hts⟩ (c_clocksAreRight l D ka s.heap h rw sm n wi f sel T R U Dn hC) (cw_V 0 hts tb_183 rfl rfl tb_180 tb_4 tb_182 ts_13 (by decide +kernel) ⟨Nat.le_of_ble_eq_true rfl, Nat.le_of_ble_eq_true rfl⟩) (ro_V (ci := 0) hK hN hCo rfl) rfl rfl hl.1 rfl (lv_room (Nat.le_of_ble_eq_true rfl)) dX0_canBeStepped_1 ⟨Nat.zero_le _, Nat.zero_le _⟩)) (fun r er => ?_)
  subst er
  refine b_if_eq (tgt := 23) hx hb dX0_canBeStepped_4 (by decide) (fun hc1 => ?_) (fun hc1 => ?_)
  · refine lv_iconst (v := nI 0) hx hb dX0_canBeStepped_23 (by decide) ?_
    exact W.zret (v := nI 0) (ty := .boolean) hx hb hr (by decide) (fun t ht hW => ⟨_, rfl, by rw [show canN sel T U n = false by simp [canN, hc1]]; rfl, ht⟩) t_nil dX0_canBeStepped_24
  · have ebt : bI true = nI 1 := rfl
    refine lv_aload_n hx hb dX0_canBeStepped_7 rfl (lv_at hl 0 rfl) ?_
    refine lv_iconst (v := nI 1) hx hb dX0_canBeStepped_8 (by decide) ?_
    rw [← ebt]
    refine vp_callSl (va_Run.run (va_runV (As := [.int (bI true)]) (rest := []) ⟨hx, hb, hml, hown, hts⟩ (c_commonCycle l D ka s.heap h rw sm n wi f sel T R U Dn true hC hal) (cw_V 1 hts tb_187 rfl rfl tb_184 tb_4 tb_186 ts_14 (by decide +kernel) ⟨Nat.le_of_ble_eq_true rfl, Nat.le_of_ble_eq_true rfl⟩) (ro_V (ci := 0) hK hN hCo rfl) rfl rfl hl.1 rfl (lv_room (Nat.le_of_ble_eq_true rfl)) dX0_canBeStepped_9 ⟨Nat.zero_le _, Nat.zero_le _⟩)) (fun r er => ?_)
    subst er
    refine lv_ldc2 (v := lN 20000) hx hb hown (hts _ tb_198) dX0_canBeStepped_12 ?_
    refine n_lcmp_gt (tgt := 23) hx hb (by omega) (by omega) dX0_canBeStepped_15 dX0_canBeStepped_16 (by decide) (fun hc => ?_) (fun hc => ?_)
    · refine lv_iconst (v := nI 0) hx hb dX0_canBeStepped_23 (by decide) ?_
      exact W.zret (v := nI 0) (ty := .boolean) hx hb hr (by decide) (fun t ht hW => ⟨_, rfl, by rw [canN_no hc]; rfl, ht⟩) t_nil dX0_canBeStepped_24
    · refine lv_iconst (v := nI 1) hx hb dX0_canBeStepped_19 (by decide) ?_
      refine lv_goto (tgt := 24) hx hb dX0_canBeStepped_20 (by decide) ?_
      exact W.zret (v := nI 1) (ty := .boolean) hx hb hr (by decide) (fun t ht hW => ⟨_, rfl, by rw [canN_yes hc1 hc]; rfl, ht⟩) t_nil dX0_canBeStepped_24
set_option maxHeartbeats 4000000 in
set_option maxRecDepth 100000 in
theorem c_timeFromBegin (l : Launch) (D : va_G) (ka : Nat → ClassId) (H0 : Heap) (h rw sm n : Nat) (wi : Int64) (f : Nat → Nat) (sel : Nat → Bool) (T R U Dn : Nat → Nat) (b : Nat) (hC : ChAt D ka h rw sm n wi f sel T R U Dn H0) (hb2 : b ≤ 20000) : Met l yX0_timeFromBegin (.code yX0_timeFromBegin cX0_timeFromBegin 6 (some .long) :: gT) ({ frames := 1, cells := 0, slots := 0, locals := 23 }) (ro_Pc D vwCl (tyL ka) H0 [.ref h, .long (lN b)]) (vp_Sl (fun r => r = lN (stp sel T R b n - b))) 0 0 (fun _ => False) := by
  refine Met.ofW (cc := cX0_timeFromBegin) (maxL := 6) (ret := (some .long)) (by decide) rfl ?_
  intro p e s m args below meth c s₁ B hml hv
  obtain ⟨rfl, hH, hK, hN⟩ := hv
  subst hH
  have hx := B.exec
  have hb := B.bytes
  have hr := B.returns
  have hts : ∀ w ∈ gT, w.before ([.ref h, .long (lN b)] : List Value).toArray s = true := fun w h => atoms_spec (ws := (.code yX0_timeFromBegin cX0_timeFromBegin 6 (some .long) :: gT)) B.pre w (List.mem_cons_of_mem _ h)
  have hown : s.vm.findClass RX0 = some m.cls := findClass_of_methodNamed B.named
  have hlocks := B.notSynchronized
  have hl := lv_entry ([.ref h, .long (lN b)]) (n := 6) (Nat.le_of_ble_eq_true rfl)
  rw [lg_entry_eq]
  generalize (lg_sl ([.ref h, .long (lN b)]) ++ List.replicate (6 - (lg_sl ([.ref h, .long (lN b)])).length) Slot.unset).toArray = ls at hl ⊢
  have hl : lv_has ls 6 [(0, .ref h), (1, .long (lN b))] := hl
  obtain ⟨hCo, hCr, hCs, hCp, hn12, hbd, hfirst⟩ := id hC
  refine lv_lload_n hx hb dX0_timeFromBegin_0 rfl (lv_at hl 1 rfl) ?_
  refine lv_lstore_n (lv' := [(3, .long (lN b)), (0, .ref h), (1, .long (lN b))]) hx hb dX0_timeFromBegin_1 rfl hl (by decide) rfl (fun ls hl => ?_)
  refine lv_iconst (v := nI 0) hx hb dX0_timeFromBegin_2 (by decide) ?_
  refine lv_istore (lv' := [(5, .int (nI 0)), (3, .long (lN b)), (0, .ref h), (1, .long (lN b))]) hx hb dX0_timeFromBegin_3 hl (by decide) rfl (fun ls hl => ?_)
  have loop : ∀ (fu i : Nat), i ≤ n → n < i + fu → ∀ ls : Array Slot, lv_has ls 6 [(5, .int (nI i)), (3, .long (lN (stp sel T R b i))), (1, .long (lN b)), (0, .ref h)] → W p l e (headSpec (.code yX0_timeFromBegin cX0_timeFromBegin 6 (some .long) :: gT) ({ frames := 1, cells := 0, slots := 0, locals := 23 })).room s m ([.ref h, .long (lN b)] : List Value).toArray below meth c s.heap [] 0 0 (MQ below (vp_Sl (fun r => r = lN (stp sel T R b n - b))) ([.ref h, .long (lN b)] : List Value).toArray s 0 0 (fun _ => False)) (F0 m 5 ls []) := by
    intro fu
    induction fu with
    | zero => intro i h1 h2; exact absurd h2 (by omega)
    | succ fu ih =>
      intro i hi hf  ls hl
      refine lv_iload hx hb dX0_timeFromBegin_5 (lv_at hl 0 rfl) ?_
      refine lv_aload_n hx hb dX0_timeFromBegin_7 rfl (lv_at hl 3 rfl) ?_
      refine g_get (cl := vwCl) (ci := 0) (v := .int (nI n)) hx hb hts inX0 hown hK hCo rfl 2 (by decide) (hts _ tb_77) rfl dX0_timeFromBegin_8 ?_
      refine n_icmp_ge (tgt := 69) hx hb (by omega) (by omega) dX0_timeFromBegin_11 (by decide) (fun hc => ?_) (fun hc => ?_)
      · obtain rfl : i = n := by omega
        have hge := stp_ge (R := R) (b := b) i (fun j hj hs => (hbd j hj).2.2.2.2 hs)
        refine lv_lload_n hx hb dX0_timeFromBegin_69 rfl (lv_at hl 1 rfl) ?_
        refine lv_lload_n hx hb dX0_timeFromBegin_70 rfl (lv_at hl 2 rfl) ?_
        refine n_lsub hx hb (by omega) dX0_timeFromBegin_71 ?_
        exact W.lret (v := lN ((stp sel T R b i) - b)) hx hb hr (fun t ht hW => ⟨_, rfl, rfl, ht⟩) t_nil dX0_timeFromBegin_72
      · have hlt : i < n := hc
        have hB := hbd i hlt
        have hle := stp_le (sel := sel) (T := T) (R := R) (b := b) (B := 20000) i (fun j hj => ⟨(hbd j (by omega)).1, (hbd j (by omega)).2.1, fun hs => (hbd j (by omega)).2.2.2.2 hs⟩)
        have hli : i * (2 * 20000) ≤ 12 * (2 * 20000) := Nat.mul_le_mul_right _ (by omega)
        refine lv_aload_n hx hb dX0_timeFromBegin_14 rfl (lv_at hl 3 rfl) ?_
        refine g_get (cl := vwCl) (ci := 0) (v := .ref sm) hx hb hts inX0 hown hK hCo rfl 1 (by decide) (hts _ tb_76) rfl dX0_timeFromBegin_15 ?_
        refine lv_iload hx hb dX0_timeFromBegin_18 (lv_at hl 0 rfl) ?_
        refine g_zaldv (v := bI (sel i)) hx hb hK 2 hCs rfl (by omega) (by decide) (if_pos (by omega)) dX0_timeFromBegin_20 ?_
        refine b_if_eq (tgt := 50) hx hb dX0_timeFromBegin_21 (by decide) (fun hc => ?_) (fun hc => ?_)
        · refine lv_lload_n hx hb dX0_timeFromBegin_50 rfl (lv_at hl 1 rfl) ?_
          refine lv_aload_n hx hb dX0_timeFromBegin_51 rfl (lv_at hl 3 rfl) ?_
          refine g_get (cl := vwCl) (ci := 0) (v := .ref rw) hx hb hts inX0 hown hK hCo rfl 0 (by decide) (hts _ tb_75) rfl dX0_timeFromBegin_52 ?_
          refine lv_iload hx hb dX0_timeFromBegin_55 (lv_at hl 0 rfl) ?_
          refine g_aldr hx hb hK 0 hCr rfl (by omega) (by decide) (if_pos (by omega)) dX0_timeFromBegin_57 ?_
          refine g_getN (cl := vwCl) (ci := 1) (v := .long (lN (R i))) hx hb hts inX1 hown hK (hCp i hlt) rfl 1 (by decide) (va_Nw.use rfl (hN _ tn_49 rfl)) rfl dX0_timeFromBegin_58 ?_
          refine n_ladd hx hb dX0_timeFromBegin_61 ?_
          refine lv_lstore_n (lv' := [(3, .long (lN ((stp sel T R b i) + (R i)))), (5, .int (nI i)), (1, .long (lN b)), (0, .ref h)]) hx hb dX0_timeFromBegin_62 rfl hl (by decide) rfl (fun ls hl => ?_)
          refine lv_iinc (v := nI (i + 1)) (lv' := [(5, .int (nI (i + 1))), (3, .long (lN ((stp sel T R b i) + (R i)))), (1, .long (lN b)), (0, .ref h)]) hx hb dX0_timeFromBegin_63 hl (k := 1) rfl (nI_add i 1) (by decide) rfl (fun ls hl => ?_)
          refine lv_goto (tgt := 5) hx hb dX0_timeFromBegin_66 (by decide) ?_
          have e1 : stp sel T R b (i + 1) = stp sel T R b i + R i := by simp [stp, hc]
          exact ih (i + 1) (by omega) (by omega) ls (by rw [e1]; exact lv_sub hl [0, 1, 2, 3] rfl)
        · have hTp := hB.2.2.2.2 hc
          refine lv_lload_n hx hb dX0_timeFromBegin_24 rfl (lv_at hl 1 rfl) ?_
          refine lv_aload_n hx hb dX0_timeFromBegin_25 rfl (lv_at hl 3 rfl) ?_
          refine g_get (cl := vwCl) (ci := 0) (v := .ref rw) hx hb hts inX0 hown hK hCo rfl 0 (by decide) (hts _ tb_75) rfl dX0_timeFromBegin_26 ?_
          refine lv_iload hx hb dX0_timeFromBegin_29 (lv_at hl 0 rfl) ?_
          refine g_aldr hx hb hK 0 hCr rfl (by omega) (by decide) (if_pos (by omega)) dX0_timeFromBegin_31 ?_
          refine g_getN (cl := vwCl) (ci := 1) (v := .long (lN (T i))) hx hb hts inX1 hown hK (hCp i hlt) rfl 0 (by decide) (va_Nw.use rfl (hN _ tn_47 rfl)) rfl dX0_timeFromBegin_32 ?_
          refine vp_callSl (va_Run.run (va_runSN (As := [.long (lN (stp sel T R b i)), .long (lN (T i))]) (rest := []) ⟨hx, hb, hml, hown, hts⟩ (c_units l D ka s.heap (stp sel T R b i) (T i) hTp (by omega)) (cw_SN 2 hts tb_130 rfl rfl (hN _ tn_207 rfl) tb_1 tb_129 (by decide +kernel) ⟨Nat.le_of_ble_eq_true rfl, Nat.le_of_ble_eq_true rfl⟩) (ro_S hK hN) rfl rfl hl.1 rfl (lv_room (Nat.le_of_ble_eq_true rfl)) dX0_timeFromBegin_35 ⟨Nat.zero_le _, Nat.zero_le _⟩)) (fun r er => ?_)
          subst er
          refine lv_aload_n hx hb dX0_timeFromBegin_38 rfl (lv_at hl 3 rfl) ?_
          refine g_get (cl := vwCl) (ci := 0) (v := .ref rw) hx hb hts inX0 hown hK hCo rfl 0 (by decide) (hts _ tb_75) rfl dX0_timeFromBegin_39 ?_
          refine lv_iload hx hb dX0_timeFromBegin_42 (lv_at hl 0 rfl) ?_
          refine g_aldr hx hb hK 0 hCr rfl (by omega) (by decide) (if_pos (by omega)) dX0_timeFromBegin_44 ?_
          refine g_getN (cl := vwCl) (ci := 1) (v := .long (lN (T i))) hx hb hts inX1 hown hK (hCp i hlt) rfl 0 (by decide) (va_Nw.use rfl (hN _ tn_47 rfl)) rfl dX0_timeFromBegin_45 ?_
          refine n_lmul hx hb dX0_timeFromBegin_48 ?_
          refine lv_lstore_n (lv' := [(3, .long (lN (((stp sel T R b i + T i - 1) / T i) * (T i)))), (5, .int (nI i)), (1, .long (lN b)), (0, .ref h)]) hx hb dX0_timeFromBegin_49 rfl hl (by decide) rfl (fun ls hl => ?_)
          refine lv_lload_n hx hb dX0_timeFromBegin_50 rfl (lv_at hl 0 rfl) ?_
          refine lv_aload_n hx hb dX0_timeFromBegin_51 rfl (lv_at hl 3 rfl) ?_
          refine g_get (cl := vwCl) (ci := 0) (v := .ref rw) hx hb hts inX0 hown hK hCo rfl 0 (by decide) (hts _ tb_75) rfl dX0_timeFromBegin_52 ?_
          refine lv_iload hx hb dX0_timeFromBegin_55 (lv_at hl 1 rfl) ?_
          refine g_aldr hx hb hK 0 hCr rfl (by omega) (by decide) (if_pos (by omega)) dX0_timeFromBegin_57 ?_
          refine g_getN (cl := vwCl) (ci := 1) (v := .long (lN (R i))) hx hb hts inX1 hown hK (hCp i hlt) rfl 1 (by decide) (va_Nw.use rfl (hN _ tn_49 rfl)) rfl dX0_timeFromBegin_58 ?_
          refine n_ladd hx hb dX0_timeFromBegin_61 ?_
          refine lv_lstore_n (lv' := [(3, .long (lN ((((stp sel T R b i + T i - 1) / T i) * (T i)) + (R i)))), (5, .int (nI i)), (1, .long (lN b)), (0, .ref h)]) hx hb dX0_timeFromBegin_62 rfl hl (by decide) rfl (fun ls hl => ?_)
          refine lv_iinc (v := nI (i + 1)) (lv' := [(5, .int (nI (i + 1))), (3, .long (lN ((((stp sel T R b i + T i - 1) / T i) * (T i)) + (R i)))), (1, .long (lN b)), (0, .ref h)]) hx hb dX0_timeFromBegin_63 hl (k := 1) rfl (nI_add i 1) (by decide) rfl (fun ls hl => ?_)
          refine lv_goto (tgt := 5) hx hb dX0_timeFromBegin_66 (by decide) ?_
          have e1 : stp sel T R b (i + 1) = (stp sel T R b i + T i - 1) / T i * T i + R i := by simp [stp, nx, hc]
          exact ih (i + 1) (by omega) (by omega) ls (by rw [e1]; exact lv_sub hl [0, 1, 2, 3] rfl)
  exact loop (n + 1) 0 (by omega) (by omega) ls (lv_sub hl [0, 1, 3, 2] rfl)
set_option maxHeartbeats 4000000 in
set_option maxRecDepth 100000 in
theorem c_longestByStepping (l : Launch) (D : va_G) (ka : Nat → ClassId) (H0 : Heap) (h rw sm n : Nat) (wi : Int64) (f : Nat → Nat) (sel : Nat → Bool) (T R U Dn : Nat → Nat) (hC : ChAt D ka h rw sm n wi f sel T R U Dn H0) (hn0 : 0 < n) (hcy : cyc (fun i => sel i || !true) T n ≤ 20000) : Met l yX0_longestByStepping (.code yX0_longestByStepping cX0_longestByStepping 9 (some .long) :: gT) ({ frames := 3, cells := 0, slots := 0, locals := 79 }) (ro_Pc D vwCl (tyL ka) H0 [.ref h]) (vp_Sl (fun r => r = lN (T 0 - 1 + mxN (fun k => stp sel T R (k * T 0) n - k * T 0) (cyc (fun i => sel i || !true) T n / T 0)))) 0 0 (fun _ => False) := by
  refine Met.ofW (cc := cX0_longestByStepping) (maxL := 9) (ret := (some .long)) (by decide) rfl ?_
  intro p e s m args below meth c s₁ B hml hv
  obtain ⟨rfl, hH, hK, hN⟩ := hv
  subst hH
  have hx := B.exec
  have hb := B.bytes
  have hr := B.returns
  have hts : ∀ w ∈ gT, w.before ([.ref h] : List Value).toArray s = true := fun w h => atoms_spec (ws := (.code yX0_longestByStepping cX0_longestByStepping 9 (some .long) :: gT)) B.pre w (List.mem_cons_of_mem _ h)
  have hown : s.vm.findClass RX0 = some m.cls := findClass_of_methodNamed B.named
  have hlocks := B.notSynchronized
  have hl := lv_entry ([.ref h]) (n := 9) (Nat.le_of_ble_eq_true rfl)
  rw [lg_entry_eq]
  generalize (lg_sl ([.ref h]) ++ List.replicate (9 - (lg_sl ([.ref h])).length) Slot.unset).toArray = ls at hl ⊢
  have hl : lv_has ls 9 [(0, .ref h)] := hl
  obtain ⟨hCo, hCr, hCs, hCp, hn12, hbd, hfirst⟩ := id hC
  have hal : ∀ i, i < n → (sel i || !true) = true → 0 < T i := fun i hi hs => (hbd i hi).2.2.2.2 (by simpa using hs)
  have hT0 : 0 < T 0 := (hbd 0 hn0).2.2.2.2 (hfirst hn0)
  have hT1 : T 0 ≤ 20000 := (hbd 0 hn0).1
  refine lv_aload_n hx hb dX0_longestByStepping_0 rfl (lv_at hl 0 rfl) ?_
  refine g_get (cl := vwCl) (ci := 0) (v := .int (nI n)) hx hb hts inX0 hown hK hCo rfl 2 (by decide) (hts _ tb_77) rfl dX0_longestByStepping_1 ?_
  refine n_if_eq (tgt := 21) hx hb (by omega) dX0_longestByStepping_4 (by decide) (fun hc => ?_) (fun hc => ?_)
  · exact absurd hc (by omega)
  · refine lv_aload_n hx hb dX0_longestByStepping_7 rfl (lv_at hl 0 rfl) ?_
    refine g_get (cl := vwCl) (ci := 0) (v := .ref rw) hx hb hts inX0 hown hK hCo rfl 0 (by decide) (hts _ tb_75) rfl dX0_longestByStepping_8 ?_
    refine lv_iconst (v := nI 0) hx hb dX0_longestByStepping_11 (by decide) ?_
    refine g_aldr hx hb hK 0 hCr rfl (by omega) (by decide) (if_pos (by omega)) dX0_longestByStepping_12 ?_
    refine g_getN (cl := vwCl) (ci := 1) (v := .long (lN (T 0))) hx hb hts inX1 hown hK (hCp 0 hn0) rfl 0 (by decide) (va_Nw.use rfl (hN _ tn_47 rfl)) rfl dX0_longestByStepping_13 ?_
    refine lv_lconst (v := lN 1) hx hb dX0_longestByStepping_16 rfl ?_
    refine n_lcmp_ge (tgt := 23) hx hb (by omega) (by omega) dX0_longestByStepping_17 dX0_longestByStepping_18 (by decide) (fun hc => ?_) (fun hc => ?_)
    · refine lv_aload_n hx hb dX0_longestByStepping_23 rfl (lv_at hl 0 rfl) ?_
      refine g_get (cl := vwCl) (ci := 0) (v := .ref rw) hx hb hts inX0 hown hK hCo rfl 0 (by decide) (hts _ tb_75) rfl dX0_longestByStepping_24 ?_
      refine lv_iconst (v := nI 0) hx hb dX0_longestByStepping_27 (by decide) ?_
      refine g_aldr hx hb hK 0 hCr rfl (by omega) (by decide) (if_pos (by omega)) dX0_longestByStepping_28 ?_
      refine g_getN (cl := vwCl) (ci := 1) (v := .long (lN (T 0))) hx hb hts inX1 hown hK (hCp 0 hn0) rfl 0 (by decide) (va_Nw.use rfl (hN _ tn_47 rfl)) rfl dX0_longestByStepping_29 ?_
      refine lv_lstore_n (lv' := [(1, .long (lN (T 0))), (0, .ref h)]) hx hb dX0_longestByStepping_32 rfl hl (by decide) rfl (fun ls hl => ?_)
      refine lv_aload_n hx hb dX0_longestByStepping_33 rfl (lv_at hl 1 rfl) ?_
      refine lv_iconst (v := nI 1) hx hb dX0_longestByStepping_34 (by decide) ?_
      have ebt : bI true = nI 1 := rfl
      rw [← ebt]
      refine vp_callSl (va_Run.run (va_runV (As := [.int (bI true)]) (rest := []) ⟨hx, hb, hml, hown, hts⟩ (c_commonCycle l D ka s.heap h rw sm n wi f sel T R U Dn true hC hal) (cw_V 1 hts tb_187 rfl rfl tb_184 tb_4 tb_186 ts_14 (by decide +kernel) ⟨Nat.le_of_ble_eq_true rfl, Nat.le_of_ble_eq_true rfl⟩) (ro_V (ci := 0) hK hN hCo rfl) rfl rfl hl.1 rfl (lv_room (Nat.le_of_ble_eq_true rfl)) dX0_longestByStepping_35 ⟨Nat.zero_le _, Nat.zero_le _⟩)) (fun r er => ?_)
      subst er
      have hqd : cyc (fun i => sel i || !true) T n / T 0 ≤ cyc (fun i => sel i || !true) T n := Nat.div_le_self _ _
      refine lv_lload_n hx hb dX0_longestByStepping_38 rfl (lv_at hl 0 rfl) ?_
      refine n_ldiv hx hb (by omega) (by omega) (by omega) dX0_longestByStepping_39 ?_
      refine lv_lstore_n (lv' := [(3, .long (lN ((cyc (fun i => sel i || !true) T n) / (T 0)))), (1, .long (lN (T 0))), (0, .ref h)]) hx hb dX0_longestByStepping_40 rfl hl (by decide) rfl (fun ls hl => ?_)
      refine lv_lconst (v := lN 0) hx hb dX0_longestByStepping_41 rfl ?_
      refine lv_lstore (lv' := [(5, .long (lN 0)), (3, .long (lN ((cyc (fun i => sel i || !true) T n) / (T 0)))), (1, .long (lN (T 0))), (0, .ref h)]) hx hb dX0_longestByStepping_42 hl (by decide) rfl (fun ls hl => ?_)
      refine lv_lconst (v := lN 0) hx hb dX0_longestByStepping_44 rfl ?_
      refine lv_lstore (lv' := [(7, .long (lN 0)), (5, .long (lN 0)), (3, .long (lN ((cyc (fun i => sel i || !true) T n) / (T 0)))), (1, .long (lN (T 0))), (0, .ref h)]) hx hb dX0_longestByStepping_45 hl (by decide) rfl (fun ls hl => ?_)
      generalize hQ : cyc (fun i => sel i || !true) T n / T 0 = Q at hqd hl ⊢
      have hkb : ∀ k, k < Q → k * T 0 ≤ 20000 := fun k hk => by
        have h1 : k * T 0 ≤ Q * T 0 := Nat.mul_le_mul_right _ (by omega)
        have h2 : Q * T 0 ≤ cyc (fun i => sel i || !true) T n := by rw [← hQ]; exact Nat.div_mul_le_self _ _
        omega
      have hgb : ∀ k, k < Q → (fun k => stp sel T R (k * T 0) n - k * T 0) k ≤ 20000 + 12 * 40000 := fun k hk => by
        have h1 := stp_le (sel := sel) (T := T) (R := R) (b := k * T 0) (B := 20000) n (fun j hj => ⟨(hbd j hj).1, (hbd j hj).2.1, fun hs => (hbd j hj).2.2.2.2 hs⟩)
        have h2 := hkb k hk
        have h3 : n * (2 * 20000) ≤ 12 * (2 * 20000) := Nat.mul_le_mul_right _ hn12
        show stp sel T R (k * T 0) n - k * T 0 ≤ _
        omega
      have loop : ∀ (fu k : Nat), k ≤ Q → Q < k + fu → ∀ ls : Array Slot, lv_has ls 9 [(7, .long (lN k)), (5, .long (lN (mxN (fun k => stp sel T R (k * T 0) n - k * T 0) k))), (3, .long (lN Q)), (1, .long (lN (T 0))), (0, .ref h)] → W p l e (headSpec (.code yX0_longestByStepping cX0_longestByStepping 9 (some .long) :: gT) ({ frames := 3, cells := 0, slots := 0, locals := 79 })).room s m ([.ref h] : List Value).toArray below meth c s.heap [] 0 0 (MQ below (vp_Sl (fun r => r = lN (T 0 - 1 + mxN (fun k => stp sel T R (k * T 0) n - k * T 0) (Q)))) ([.ref h] : List Value).toArray s 0 0 (fun _ => False)) (F0 m 47 ls []) := by
        intro fu
        induction fu with
        | zero => intro k h1 h2; exact absurd h2 (by omega)
        | succ fu ih =>
          intro k hk hf ls hl
          have hmb := mxN_le (f := (fun k => stp sel T R (k * T 0) n - k * T 0)) (B := 20000 + 12 * 40000) k (fun j hj => hgb j (by omega))
          refine lv_lload hx hb dX0_longestByStepping_47 (lv_at hl 0 rfl) ?_
          refine lv_lload_n hx hb dX0_longestByStepping_49 rfl (lv_at hl 2 rfl) ?_
          refine n_lcmp_ge (tgt := 78) hx hb (by omega) (by omega) dX0_longestByStepping_50 dX0_longestByStepping_51 (by decide) (fun hc => ?_) (fun hc => ?_)
          · obtain rfl : k = Q := by omega
            refine lv_lload_n hx hb dX0_longestByStepping_78 rfl (lv_at hl 3 rfl) ?_
            refine lv_lconst (v := lN 1) hx hb dX0_longestByStepping_79 rfl ?_
            refine n_lsub hx hb (by omega) dX0_longestByStepping_80 ?_
            refine lv_lload hx hb dX0_longestByStepping_81 (lv_at hl 1 rfl) ?_
            refine n_ladd hx hb dX0_longestByStepping_83 ?_
            exact W.lret (v := lN (((T 0) - 1) + (mxN (fun k => stp sel T R (k * T 0) n - k * T 0) k))) hx hb hr (fun t ht hW => ⟨_, rfl, rfl, ht⟩) t_nil dX0_longestByStepping_84
          · have hk1 := hkb k hc
            have hk2 := hgb k hc
            have hk3 : (fun k => stp sel T R (k * T 0) n - k * T 0) k = stp sel T R (k * T 0) n - k * T 0 := rfl
            refine lv_lload hx hb dX0_longestByStepping_54 (lv_at hl 1 rfl) ?_
            refine lv_aload_n hx hb dX0_longestByStepping_56 rfl (lv_at hl 4 rfl) ?_
            refine lv_lload hx hb dX0_longestByStepping_57 (lv_at hl 0 rfl) ?_
            refine lv_lload_n hx hb dX0_longestByStepping_59 rfl (lv_at hl 3 rfl) ?_
            refine n_lmul hx hb dX0_longestByStepping_60 ?_
            refine vp_callSl (va_Run.run (va_runV (As := [.long (lN (k * (T 0)))]) (rest := [.long (lN (mxN (fun k => stp sel T R (k * T 0) n - k * T 0) k))]) ⟨hx, hb, hml, hown, hts⟩ (c_timeFromBegin l D ka s.heap h rw sm n wi f sel T R U Dn (k * T 0) hC hk1) (cw_V 1 hts tb_206 rfl rfl tb_203 tb_4 tb_205 ts_16 (by decide +kernel) ⟨Nat.le_of_ble_eq_true rfl, Nat.le_of_ble_eq_true rfl⟩) (ro_V (ci := 0) hK hN hCo rfl) rfl rfl hl.1 rfl (lv_room (Nat.le_of_ble_eq_true rfl)) dX0_longestByStepping_61 ⟨Nat.zero_le _, Nat.zero_le _⟩)) (fun r er => ?_)
            subst er
            refine n_lmax hx hb (by rw [hml, hl.1]) hown (hts _ tb_208) (hts _ tb_209) (hts _ tb_9) (hts _ tb_210) (Nat.le_of_ble_eq_true rfl) (Nat.le_of_ble_eq_true rfl) (Nat.zero_le _) (Nat.zero_le _) (by omega) (by omega) dX0_longestByStepping_64 ?_
            refine lv_lstore (lv' := [(5, .long (lN (max (mxN (fun k => stp sel T R (k * T 0) n - k * T 0) k) (stp sel T R (k * T 0) n - k * T 0)))), (7, .long (lN k)), (3, .long (lN Q)), (1, .long (lN (T 0))), (0, .ref h)]) hx hb dX0_longestByStepping_67 hl (by decide) rfl (fun ls hl => ?_)
            refine lv_lload hx hb dX0_longestByStepping_69 (lv_at hl 1 rfl) ?_
            refine lv_lconst (v := lN 1) hx hb dX0_longestByStepping_71 rfl ?_
            refine n_ladd hx hb dX0_longestByStepping_72 ?_
            refine lv_lstore (lv' := [(7, .long (lN (k + 1))), (5, .long (lN (max (mxN (fun k => stp sel T R (k * T 0) n - k * T 0) k) (stp sel T R (k * T 0) n - k * T 0)))), (3, .long (lN Q)), (1, .long (lN (T 0))), (0, .ref h)]) hx hb dX0_longestByStepping_73 hl (by decide) rfl (fun ls hl => ?_)
            refine lv_goto (tgt := 47) hx hb dX0_longestByStepping_75 (by decide) ?_
            exact ih (k + 1) (by omega) (by omega) ls (lv_sub hl [0, 1, 2, 3, 4] rfl)
      exact loop (Q + 1) 0 (by omega) (by omega) ls (lv_sub hl [0, 1, 2, 3, 4] rfl)
    · exact absurd hc (by omega)
set_option maxHeartbeats 4000000 in
set_option maxRecDepth 100000 in
theorem c_holds (l : Launch) (D : va_G) (ka : Nat → ClassId) (H0 : Heap) (h rw sm n : Nat) (wi : Int64) (f : Nat → Nat) (sel : Nat → Bool) (T R U Dn : Nat → Nat) (a : Nat) (hC : ChAt D ka h rw sm n wi f sel T R U Dn H0) : Met l yX0_holds (.code yX0_holds cX0_holds 3 (some .boolean) :: gT) ({ frames := 0, cells := 0, slots := 0, locals := 0 }) (ro_Pc D vwCl (tyL ka) H0 [.ref h, .ref a]) (vp_Si (fun r => r = bI (anyN (fun i => f i == a) n))) 0 0 (fun _ => False) := by
  refine Met.ofW (cc := cX0_holds) (maxL := 3) (ret := (some .boolean)) (by decide) rfl ?_
  intro p e s m args below meth c s₁ B hml hv
  obtain ⟨rfl, hH, hK, hN⟩ := hv
  subst hH
  have hx := B.exec
  have hb := B.bytes
  have hr := B.returns
  have hts : ∀ w ∈ gT, w.before ([.ref h, .ref a] : List Value).toArray s = true := fun w h => atoms_spec (ws := (.code yX0_holds cX0_holds 3 (some .boolean) :: gT)) B.pre w (List.mem_cons_of_mem _ h)
  have hown : s.vm.findClass RX0 = some m.cls := findClass_of_methodNamed B.named
  have hlocks := B.notSynchronized
  have hl := lv_entry ([.ref h, .ref a]) (n := 3) (Nat.le_of_ble_eq_true rfl)
  rw [lg_entry_eq]
  generalize (lg_sl ([.ref h, .ref a]) ++ List.replicate (3 - (lg_sl ([.ref h, .ref a])).length) Slot.unset).toArray = ls at hl ⊢
  have hl : lv_has ls 3 [(0, .ref h), (1, .ref a)] := hl
  obtain ⟨hCo, hCr, hCs, hCp, hn12, hbd, hfirst⟩ := id hC
  refine lv_iconst (v := nI 0) hx hb dX0_holds_0 (by decide) ?_
  refine lv_istore_n (lv' := [(2, .int (nI 0)), (0, .ref h), (1, .ref a)]) hx hb dX0_holds_1 rfl hl (by decide) rfl (fun ls hl => ?_)
  have loop : ∀ (fu i : Nat), i ≤ n → n < i + fu → anyN (fun i => f i == a) i = false → ∀ ls : Array Slot, lv_has ls 3 [(2, .int (nI i)), (1, .ref a), (0, .ref h)] → W p l e (headSpec (.code yX0_holds cX0_holds 3 (some .boolean) :: gT) ({ frames := 0, cells := 0, slots := 0, locals := 0 })).room s m ([.ref h, .ref a] : List Value).toArray below meth c s.heap [] 0 0 (MQ below (vp_Si (fun r => r = bI (anyN (fun i => f i == a) n))) ([.ref h, .ref a] : List Value).toArray s 0 0 (fun _ => False)) (F0 m 2 ls []) := by
    intro fu
    induction fu with
    | zero => intro i h1 h2; exact absurd h2 (by omega)
    | succ fu ih =>
      intro i hi hf hg0 ls hl
      refine lv_iload_n hx hb dX0_holds_2 rfl (lv_at hl 0 rfl) ?_
      refine lv_aload_n hx hb dX0_holds_3 rfl (lv_at hl 2 rfl) ?_
      refine g_get (cl := vwCl) (ci := 0) (v := .int (nI n)) hx hb hts inX0 hown hK hCo rfl 2 (by decide) (hts _ tb_77) rfl dX0_holds_4 ?_
      refine n_icmp_ge (tgt := 28) hx hb (by omega) (by omega) dX0_holds_7 (by decide) (fun hc => ?_) (fun hc => ?_)
      · obtain rfl : i = n := by omega
        refine lv_iconst (v := nI 0) hx hb dX0_holds_28 (by decide) ?_
        exact W.zret (v := nI 0) (ty := .boolean) hx hb hr (by decide) (fun t ht hW => ⟨_, rfl, by rw [hg0]; rfl, ht⟩) t_nil dX0_holds_29
      · have hlt : i < n := hc
        refine lv_aload_n hx hb dX0_holds_10 rfl (lv_at hl 2 rfl) ?_
        refine g_get (cl := vwCl) (ci := 0) (v := .ref rw) hx hb hts inX0 hown hK hCo rfl 0 (by decide) (hts _ tb_75) rfl dX0_holds_11 ?_
        refine lv_iload_n hx hb dX0_holds_14 rfl (lv_at hl 0 rfl) ?_
        refine g_aldr hx hb hK 0 hCr rfl (by omega) (by decide) (if_pos (by omega)) dX0_holds_15 ?_
        refine lv_aload_n hx hb dX0_holds_16 rfl (lv_at hl 1 rfl) ?_
        refine lv_acmp_ne (rx := some (f i)) (ry := some a) (tgt := 22) hx hb dX0_holds_17 (by decide) (fun hc2 => ?_) (fun hc2 => ?_)
        · refine lv_iinc (v := nI (i + 1)) (lv' := [(2, .int (nI (i + 1))), (1, .ref a), (0, .ref h)]) hx hb dX0_holds_22 hl (k := 0) rfl (nI_add i 1) (by decide) rfl (fun ls hl => ?_)
          refine lv_goto (tgt := 2) hx hb dX0_holds_25 (by decide) ?_
          exact ih (i + 1) (by omega) (by omega) (anyN_next hg0 (by simpa using hc2)) ls (lv_sub hl [0, 1, 2] rfl)
        · refine lv_iconst (v := nI 1) hx hb dX0_holds_20 (by decide) ?_
          exact W.zret (v := nI 1) (ty := .boolean) hx hb hr (by decide) (fun t ht hW => ⟨_, rfl, by rw [anyN_hit hlt (by simpa using hc2)]; rfl, ht⟩) t_nil dX0_holds_21
  exact loop (n + 1) 0 (by omega) (by omega) rfl ls (lv_sub hl [0, 2, 1] rfl)
end
section
set_option maxHeartbeats 4000000 in
set_option maxRecDepth 100000 in
theorem m_noChain (l : Launch) (D : va_G) (ka : Nat → ClassId) (H0 : Heap) (a : Nat → Nat) (tv np nc : Nat) (pe an up dn rw : Nat → Nat) (so : Nat → Bool) (mn : Nat → Nat) (wd : Nat → Bool) (wv : Nat → Int64) (x : Int32) (hM : va_P D vwCl (mW ka a tv np nc pe an up dn rw so mn wd wv) H0) (hO : mOk np nc pe an up dn rw so mn wd wv) : Met l yM_noChain (.code yM_noChain cM_noChain 2 (some .boolean) :: gT) ({ frames := 0, cells := 0, slots := 0, locals := 0 }) (ro_Pc D vwCl (tyL ka) H0 [.ref (a 0), .int x]) (vp_Si (fun r => r = bI (cNo x nc))) 0 0 (fun _ => False) := by
  refine Met.ofW (cc := cM_noChain) (maxL := 2) (ret := (some .boolean)) (by decide) rfl ?_
  intro p e s m args below meth c s₁ B hml hv
  obtain ⟨rfl, hH, hK, hN⟩ := hv
  subst hH
  have hx := B.exec
  have hb := B.bytes
  have hr := B.returns
  have hts : ∀ w ∈ gT, w.before ([.ref (a 0), .int x] : List Value).toArray s = true := fun w h => atoms_spec (ws := (.code yM_noChain cM_noChain 2 (some .boolean) :: gT)) B.pre w (List.mem_cons_of_mem _ h)
  have hown : s.vm.findClass RM = some m.cls := findClass_of_methodNamed B.named
  have hlocks := B.notSynchronized
  have hl := lv_entry ([.ref (a 0), .int x]) (n := 2) (Nat.le_of_ble_eq_true rfl)
  rw [lg_entry_eq]
  generalize (lg_sl ([.ref (a 0), .int x]) ++ List.replicate (2 - (lg_sl ([.ref (a 0), .int x])).length) Slot.unset).toArray = ls at hl ⊢
  have hl : lv_has ls 2 [(0, .ref (a 0)), (1, .int x)] := hl
  have hnp := hO.1
  have hnc := hO.2.1
  refine lv_iload_n hx hb dM_noChain_0 rfl (lv_at hl 1 rfl) ?_
  refine lv_iconst (v := nI 1) hx hb dM_noChain_1 (by decide) ?_
  refine r_icmp_lt (tgt := 13) hx hb dM_noChain_2 (by decide) (fun hc0 => ?_) (fun hc0 => ?_)
  · refine lv_iconst (v := nI 1) hx hb dM_noChain_13 (by decide) ?_
    refine lv_goto (tgt := 18) hx hb dM_noChain_14 (by decide) ?_
    exact W.zret (v := nI 1) (ty := .boolean) hx hb hr (by decide) (fun t ht hW => ⟨_, rfl, by rw [cNo_t1 (by rw [nI_toInt (by omega)] at hc0; omega)]; rfl, ht⟩) t_nil dM_noChain_18
  · refine lv_iload_n hx hb dM_noChain_5 rfl (lv_at hl 1 rfl) ?_
    refine lv_aload_n hx hb dM_noChain_6 rfl (lv_at hl 0 rfl) ?_
    refine g_get (cl := vwCl) (ci := 3) (v := .int (nI nc)) hx hb hts inM hown hK (hM.nth 0 rfl) rfl 6 (by decide) (hts _ tb_306) rfl dM_noChain_7 ?_
    refine r_icmp_le (tgt := 17) hx hb dM_noChain_10 (by decide) (fun hc => ?_) (fun hc => ?_)
    · refine lv_iconst (v := nI 0) hx hb dM_noChain_17 (by decide) ?_
      exact W.zret (v := nI 0) (ty := .boolean) hx hb hr (by decide) (fun t ht hW => ⟨_, rfl, by rw [cNo_f (by rw [nI_toInt (by omega)] at hc0; omega) (by rw [nI_toInt (by omega)] at hc; omega)]; rfl, ht⟩) t_nil dM_noChain_18
    · refine lv_iconst (v := nI 1) hx hb dM_noChain_13 (by decide) ?_
      refine lv_goto (tgt := 18) hx hb dM_noChain_14 (by decide) ?_
      exact W.zret (v := nI 1) (ty := .boolean) hx hb hr (by decide) (fun t ht hW => ⟨_, rfl, by rw [cNo_t2 (by rw [nI_toInt (by omega)] at hc; omega)]; rfl, ht⟩) t_nil dM_noChain_18
set_option maxHeartbeats 4000000 in
set_option maxRecDepth 100000 in
theorem m_noPiece (l : Launch) (D : va_G) (ka : Nat → ClassId) (H0 : Heap) (a : Nat → Nat) (tv np nc : Nat) (pe an up dn rw : Nat → Nat) (so : Nat → Bool) (mn : Nat → Nat) (wd : Nat → Bool) (wv : Nat → Int64) (x : Int32) (hM : va_P D vwCl (mW ka a tv np nc pe an up dn rw so mn wd wv) H0) (hO : mOk np nc pe an up dn rw so mn wd wv) : Met l yM_noPiece (.code yM_noPiece cM_noPiece 2 (some .boolean) :: gT) ({ frames := 0, cells := 0, slots := 0, locals := 0 }) (ro_Pc D vwCl (tyL ka) H0 [.ref (a 0), .int x]) (vp_Si (fun r => r = bI (cNo x np))) 0 0 (fun _ => False) := by
  refine Met.ofW (cc := cM_noPiece) (maxL := 2) (ret := (some .boolean)) (by decide) rfl ?_
  intro p e s m args below meth c s₁ B hml hv
  obtain ⟨rfl, hH, hK, hN⟩ := hv
  subst hH
  have hx := B.exec
  have hb := B.bytes
  have hr := B.returns
  have hts : ∀ w ∈ gT, w.before ([.ref (a 0), .int x] : List Value).toArray s = true := fun w h => atoms_spec (ws := (.code yM_noPiece cM_noPiece 2 (some .boolean) :: gT)) B.pre w (List.mem_cons_of_mem _ h)
  have hown : s.vm.findClass RM = some m.cls := findClass_of_methodNamed B.named
  have hlocks := B.notSynchronized
  have hl := lv_entry ([.ref (a 0), .int x]) (n := 2) (Nat.le_of_ble_eq_true rfl)
  rw [lg_entry_eq]
  generalize (lg_sl ([.ref (a 0), .int x]) ++ List.replicate (2 - (lg_sl ([.ref (a 0), .int x])).length) Slot.unset).toArray = ls at hl ⊢
  have hl : lv_has ls 2 [(0, .ref (a 0)), (1, .int x)] := hl
  have hnp := hO.1
  have hnc := hO.2.1
  refine lv_iload_n hx hb dM_noPiece_0 rfl (lv_at hl 1 rfl) ?_
  refine lv_iconst (v := nI 1) hx hb dM_noPiece_1 (by decide) ?_
  refine r_icmp_lt (tgt := 13) hx hb dM_noPiece_2 (by decide) (fun hc0 => ?_) (fun hc0 => ?_)
  · refine lv_iconst (v := nI 1) hx hb dM_noPiece_13 (by decide) ?_
    refine lv_goto (tgt := 18) hx hb dM_noPiece_14 (by decide) ?_
    exact W.zret (v := nI 1) (ty := .boolean) hx hb hr (by decide) (fun t ht hW => ⟨_, rfl, by rw [cNo_t1 (by rw [nI_toInt (by omega)] at hc0; omega)]; rfl, ht⟩) t_nil dM_noPiece_18
  · refine lv_iload_n hx hb dM_noPiece_5 rfl (lv_at hl 1 rfl) ?_
    refine lv_aload_n hx hb dM_noPiece_6 rfl (lv_at hl 0 rfl) ?_
    refine g_get (cl := vwCl) (ci := 3) (v := .int (nI np)) hx hb hts inM hown hK (hM.nth 0 rfl) rfl 1 (by decide) (hts _ tb_301) rfl dM_noPiece_7 ?_
    refine r_icmp_le (tgt := 17) hx hb dM_noPiece_10 (by decide) (fun hc => ?_) (fun hc => ?_)
    · refine lv_iconst (v := nI 0) hx hb dM_noPiece_17 (by decide) ?_
      exact W.zret (v := nI 0) (ty := .boolean) hx hb hr (by decide) (fun t ht hW => ⟨_, rfl, by rw [cNo_f (by rw [nI_toInt (by omega)] at hc0; omega) (by rw [nI_toInt (by omega)] at hc; omega)]; rfl, ht⟩) t_nil dM_noPiece_18
    · refine lv_iconst (v := nI 1) hx hb dM_noPiece_13 (by decide) ?_
      refine lv_goto (tgt := 18) hx hb dM_noPiece_14 (by decide) ?_
      exact W.zret (v := nI 1) (ty := .boolean) hx hb hr (by decide) (fun t ht hW => ⟨_, rfl, by rw [cNo_t2 (by rw [nI_toInt (by omega)] at hc; omega)]; rfl, ht⟩) t_nil dM_noPiece_18
set_option maxHeartbeats 4000000 in
set_option maxRecDepth 100000 in
theorem m_isEmpty (l : Launch) (D : va_G) (ka : Nat → ClassId) (H0 : Heap) (a : Nat → Nat) (tv np nc : Nat) (pe an up dn rw : Nat → Nat) (so : Nat → Bool) (mn : Nat → Nat) (wd : Nat → Bool) (wv : Nat → Int64) (x : Int32) (hM : va_P D vwCl (mW ka a tv np nc pe an up dn rw so mn wd wv) H0) (hO : mOk np nc pe an up dn rw so mn wd wv) : Met l yM_isEmpty (.code yM_isEmpty cM_isEmpty 2 (some .boolean) :: gT) ({ frames := 1, cells := 0, slots := 0, locals := 21 }) (ro_Pc D vwCl (tyL ka) H0 [.ref (a 0), .int x]) (vp_Si (fun r => r = bI (spEmp nc mn x))) 0 0 (fun _ => False) := by
  refine Met.ofW (cc := cM_isEmpty) (maxL := 2) (ret := (some .boolean)) (by decide) rfl ?_
  intro p e s m args below meth c s₁ B hml hv
  obtain ⟨rfl, hH, hK, hN⟩ := hv
  subst hH
  have hx := B.exec
  have hb := B.bytes
  have hr := B.returns
  have hts : ∀ w ∈ gT, w.before ([.ref (a 0), .int x] : List Value).toArray s = true := fun w h => atoms_spec (ws := (.code yM_isEmpty cM_isEmpty 2 (some .boolean) :: gT)) B.pre w (List.mem_cons_of_mem _ h)
  have hown : s.vm.findClass RM = some m.cls := findClass_of_methodNamed B.named
  have hlocks := B.notSynchronized
  have hl := lv_entry ([.ref (a 0), .int x]) (n := 2) (Nat.le_of_ble_eq_true rfl)
  rw [lg_entry_eq]
  generalize (lg_sl ([.ref (a 0), .int x]) ++ List.replicate (2 - (lg_sl ([.ref (a 0), .int x])).length) Slot.unset).toArray = ls at hl ⊢
  have hl : lv_has ls 2 [(0, .ref (a 0)), (1, .int x)] := hl
  have hnp := hO.1
  have hnc := hO.2.1
  refine lv_aload_n hx hb dM_isEmpty_0 rfl (lv_at hl 0 rfl) ?_
  refine lv_iload_n hx hb dM_isEmpty_1 rfl (lv_at hl 1 rfl) ?_
  refine vp_callSi (va_Run.run (va_runV (As := [.int x]) (rest := []) ⟨hx, hb, hml, hown, hts⟩ (m_noChain l D ka s.heap a tv np nc pe an up dn rw so mn wd wv x hM hO) (cw_V 1 hts tb_359 rfl rfl tb_356 tb_2 tb_358 ts_19 (by decide +kernel) ⟨Nat.le_of_ble_eq_true rfl, Nat.le_of_ble_eq_true rfl⟩) (ro_V (ci := 3) hK hN (hM.nth 0 rfl) rfl) rfl rfl hl.1 rfl (lv_room (Nat.le_of_ble_eq_true rfl)) dM_isEmpty_2 ⟨Nat.zero_le _, Nat.zero_le _⟩)) (fun r er => ?_)
  subst er
  refine b_if_ne (tgt := 17) hx hb dM_isEmpty_5 (by decide) (fun hc => ?_) (fun hc => ?_)
  · refine lv_iconst (v := nI 1) hx hb dM_isEmpty_17 (by decide) ?_
    refine lv_goto (tgt := 22) hx hb dM_isEmpty_18 (by decide) ?_
    exact W.zret (v := nI 1) (ty := .boolean) hx hb hr (by decide) (fun t ht hW => ⟨_, rfl, by rw [spEmp, hc]; rfl, ht⟩) t_nil dM_isEmpty_22
  · have hse : spEmp nc mn x = (mn x.toInt.toNat == 0) := by rw [spEmp, hc]; rfl
    obtain ⟨ex, h1, h2⟩ := cNo_nI hc
    generalize hcx : x.toInt.toNat = ch at ex h1 h2 hse
    rw [ex] at hl
    have hmn := (hO.2.2.2.1 ch h1 h2).1
    refine lv_aload_n hx hb dM_isEmpty_8 rfl (lv_at hl 0 rfl) ?_
    refine g_get (cl := vwCl) (ci := 3) (v := .ref (a 7)) hx hb hts inM hown hK (hM.nth 0 rfl) rfl 9 (by decide) (hts _ tb_309) rfl dM_isEmpty_9 ?_
    refine lv_iload_n hx hb dM_isEmpty_12 rfl (lv_at hl 1 rfl) ?_
    refine g_ialdv (v := nI (mn ch)) hx hb hK 4 (hM.nth 7 rfl) rfl (by omega) (by decide) (rfl) dM_isEmpty_13 ?_
    refine n_if_ne (tgt := 21) hx hb (by omega) dM_isEmpty_14 (by decide) (fun hc3 => ?_) (fun hc3 => ?_)
    · refine lv_iconst (v := nI 0) hx hb dM_isEmpty_21 (by decide) ?_
      exact W.zret (v := nI 0) (ty := .boolean) hx hb hr (by decide) (fun t ht hW => ⟨_, rfl, by rw [hse, show (mn ch == 0) = false by simpa using hc3]; rfl, ht⟩) t_nil dM_isEmpty_22
    · refine lv_iconst (v := nI 1) hx hb dM_isEmpty_17 (by decide) ?_
      refine lv_goto (tgt := 22) hx hb dM_isEmpty_18 (by decide) ?_
      exact W.zret (v := nI 1) (ty := .boolean) hx hb hr (by decide) (fun t ht hW => ⟨_, rfl, by rw [hse, show (mn ch == 0) = true by simpa using hc3]; rfl, ht⟩) t_nil dM_isEmpty_22
set_option maxHeartbeats 4000000 in
set_option maxRecDepth 100000 in
theorem m_longPeriod (l : Launch) (D : va_G) (ka : Nat → ClassId) (H0 : Heap) (a : Nat → Nat) (tv np nc : Nat) (pe an up dn rw : Nat → Nat) (so : Nat → Bool) (mn : Nat → Nat) (wd : Nat → Bool) (wv : Nat → Int64) (p1 : Nat) (hM : va_P D vwCl (mW ka a tv np nc pe an up dn rw so mn wd wv) H0) (hO : mOk np nc pe an up dn rw so mn wd wv) (h1 : 1 ≤ p1) (h2 : p1 ≤ np) : Met l yM_longPeriod (.code yM_longPeriod cM_longPeriod 2 (some .long) :: gT) ({ frames := 0, cells := 0, slots := 0, locals := 0 }) (ro_Pc D vwCl (tyL ka) H0 [.ref (a 0), .int (nI p1)]) (vp_Sl (fun r => r = lN (lgP (pe p1) (up p1) (dn p1)))) 0 0 (fun _ => False) := by
  refine Met.ofW (cc := cM_longPeriod) (maxL := 2) (ret := (some .long)) (by decide) rfl ?_
  intro p e s m args below meth c s₁ B hml hv
  obtain ⟨rfl, hH, hK, hN⟩ := hv
  subst hH
  have hx := B.exec
  have hb := B.bytes
  have hr := B.returns
  have hts : ∀ w ∈ gT, w.before ([.ref (a 0), .int (nI p1)] : List Value).toArray s = true := fun w h => atoms_spec (ws := (.code yM_longPeriod cM_longPeriod 2 (some .long) :: gT)) B.pre w (List.mem_cons_of_mem _ h)
  have hown : s.vm.findClass RM = some m.cls := findClass_of_methodNamed B.named
  have hlocks := B.notSynchronized
  have hl := lv_entry ([.ref (a 0), .int (nI p1)]) (n := 2) (Nat.le_of_ble_eq_true rfl)
  rw [lg_entry_eq]
  generalize (lg_sl ([.ref (a 0), .int (nI p1)]) ++ List.replicate (2 - (lg_sl ([.ref (a 0), .int (nI p1)])).length) Slot.unset).toArray = ls at hl ⊢
  have hl : lv_has ls 2 [(0, .ref (a 0)), (1, .int (nI p1))] := hl
  have hnp := hO.1
  have hnc := hO.2.1
  have hB := hO.2.2.1 p1 h1 h2
  have hv2 : pe p1 * (dn p1 + up p1) ≤ 20000 * 2000000 := Nat.mul_le_mul hB.1 (by omega)
  refine lv_aload_n hx hb dM_longPeriod_0 rfl (lv_at hl 0 rfl) ?_
  refine g_get (cl := vwCl) (ci := 3) (v := .ref (a 1)) hx hb hts inM hown hK (hM.nth 0 rfl) rfl 2 (by decide) (hts _ tb_302) rfl dM_longPeriod_1 ?_
  refine lv_iload_n hx hb dM_longPeriod_4 rfl (lv_at hl 1 rfl) ?_
  refine g_laldv (v := lN (pe p1)) hx hb hK 3 (hM.nth 1 rfl) rfl (by omega) (by decide) (rfl) dM_longPeriod_5 ?_
  refine lv_aload_n hx hb dM_longPeriod_6 rfl (lv_at hl 0 rfl) ?_
  refine g_get (cl := vwCl) (ci := 3) (v := .ref (a 4)) hx hb hts inM hown hK (hM.nth 0 rfl) rfl 5 (by decide) (hts _ tb_305) rfl dM_longPeriod_7 ?_
  refine lv_iload_n hx hb dM_longPeriod_10 rfl (lv_at hl 1 rfl) ?_
  refine g_laldv (v := lN (dn p1)) hx hb hK 3 (hM.nth 4 rfl) rfl (by omega) (by decide) (rfl) dM_longPeriod_11 ?_
  refine lv_aload_n hx hb dM_longPeriod_12 rfl (lv_at hl 0 rfl) ?_
  refine g_get (cl := vwCl) (ci := 3) (v := .ref (a 3)) hx hb hts inM hown hK (hM.nth 0 rfl) rfl 4 (by decide) (hts _ tb_304) rfl dM_longPeriod_13 ?_
  refine lv_iload_n hx hb dM_longPeriod_16 rfl (lv_at hl 1 rfl) ?_
  refine g_laldv (v := lN (up p1)) hx hb hK 3 (hM.nth 3 rfl) rfl (by omega) (by decide) (rfl) dM_longPeriod_17 ?_
  refine n_ladd hx hb dM_longPeriod_18 ?_
  refine n_lmul hx hb dM_longPeriod_19 ?_
  refine lv_aload_n hx hb dM_longPeriod_20 rfl (lv_at hl 0 rfl) ?_
  refine g_get (cl := vwCl) (ci := 3) (v := .ref (a 4)) hx hb hts inM hown hK (hM.nth 0 rfl) rfl 5 (by decide) (hts _ tb_305) rfl dM_longPeriod_21 ?_
  refine lv_iload_n hx hb dM_longPeriod_24 rfl (lv_at hl 1 rfl) ?_
  refine g_laldv (v := lN (dn p1)) hx hb hK 3 (hM.nth 4 rfl) rfl (by omega) (by decide) (rfl) dM_longPeriod_25 ?_
  refine n_ladd hx hb dM_longPeriod_26 ?_
  refine lv_lconst (v := lN 1) hx hb dM_longPeriod_27 rfl ?_
  refine n_lsub hx hb (by omega) dM_longPeriod_28 ?_
  refine lv_aload_n hx hb dM_longPeriod_29 rfl (lv_at hl 0 rfl) ?_
  refine g_get (cl := vwCl) (ci := 3) (v := .ref (a 4)) hx hb hts inM hown hK (hM.nth 0 rfl) rfl 5 (by decide) (hts _ tb_305) rfl dM_longPeriod_30 ?_
  refine lv_iload_n hx hb dM_longPeriod_33 rfl (lv_at hl 1 rfl) ?_
  refine g_laldv (v := lN (dn p1)) hx hb hK 3 (hM.nth 4 rfl) rfl (by omega) (by decide) (rfl) dM_longPeriod_34 ?_
  refine n_ldiv hx hb (by omega) (by omega) (by omega) dM_longPeriod_35 ?_
  exact W.lret (v := lN (((((pe p1) * ((dn p1) + (up p1))) + (dn p1)) - 1) / (dn p1))) hx hb hr (fun t ht hW => ⟨_, rfl, rfl, ht⟩) t_nil dM_longPeriod_36
set_option maxHeartbeats 4000000 in
set_option maxRecDepth 100000 in
theorem m_brings (l : Launch) (D : va_G) (ka : Nat → ClassId) (H0 : Heap) (a : Nat → Nat) (tv np nc : Nat) (pe an up dn rw : Nat → Nat) (so : Nat → Bool) (mn : Nat → Nat) (wd : Nat → Bool) (wv : Nat → Int64) (ch k : Nat) (hM : va_P D vwCl (mW ka a tv np nc pe an up dn rw so mn wd wv) H0) (hO : mOk np nc pe an up dn rw so mn wd wv) (hc1 : 1 ≤ ch) (hc2 : ch ≤ nc) (hk : k < mn ch) : Met l yM_brings (.code yM_brings cM_brings 4 (some .long) :: gT) ({ frames := 1, cells := 0, slots := 0, locals := 21 }) (ro_Pc D vwCl (tyL ka) H0 [.ref (a 0), .int (nI ch), .int (nI k)]) (vp_Sl (fun r => r = lN ((brN (qS so ch) (qF pe rw ch) (qF an rw ch) (qF up rw ch) (qF dn rw ch)) k))) 0 0 (fun _ => False) := by
  refine Met.ofW (cc := cM_brings) (maxL := 4) (ret := (some .long)) (by decide) rfl ?_
  intro p e s m args below meth c s₁ B hml hv
  obtain ⟨rfl, hH, hK, hN⟩ := hv
  subst hH
  have hx := B.exec
  have hb := B.bytes
  have hr := B.returns
  have hts : ∀ w ∈ gT, w.before ([.ref (a 0), .int (nI ch), .int (nI k)] : List Value).toArray s = true := fun w h => atoms_spec (ws := (.code yM_brings cM_brings 4 (some .long) :: gT)) B.pre w (List.mem_cons_of_mem _ h)
  have hown : s.vm.findClass RM = some m.cls := findClass_of_methodNamed B.named
  have hlocks := B.notSynchronized
  have hl := lv_entry ([.ref (a 0), .int (nI ch), .int (nI k)]) (n := 4) (Nat.le_of_ble_eq_true rfl)
  rw [lg_entry_eq]
  generalize (lg_sl ([.ref (a 0), .int (nI ch), .int (nI k)]) ++ List.replicate (4 - (lg_sl ([.ref (a 0), .int (nI ch), .int (nI k)])).length) Slot.unset).toArray = ls at hl ⊢
  have hl : lv_has ls 4 [(0, .ref (a 0)), (1, .int (nI ch)), (2, .int (nI k))] := hl
  have hnp := hO.1
  have hnc := hO.2.1
  have hmn := (hO.2.2.2.1 ch hc1 hc2).1
  have hR := hO.row hc1 hc2 hk
  refine lv_aload_n hx hb dM_brings_0 rfl (lv_at hl 0 rfl) ?_
  refine g_get (cl := vwCl) (ci := 3) (v := .ref (a 5)) hx hb hts inM hown hK (hM.nth 0 rfl) rfl 7 (by decide) (hts _ tb_307) rfl dM_brings_1 ?_
  refine lv_bipush (v := nI 12) hx hb dM_brings_4 (by decide) ?_
  refine lv_iload_n hx hb dM_brings_6 rfl (lv_at hl 1 rfl) ?_
  refine n_imul hx hb dM_brings_7 ?_
  refine lv_iload_n hx hb dM_brings_8 rfl (lv_at hl 2 rfl) ?_
  refine n_iadd hx hb dM_brings_9 ?_
  refine g_ialdv (v := nI (rw ((12 * ch) + k))) hx hb hK 4 (hM.nth 5 rfl) rfl (by omega) (by decide) (rfl) dM_brings_10 ?_
  refine lv_istore_n (lv' := [(3, .int (nI (rw ((12 * ch) + k)))), (0, .ref (a 0)), (1, .int (nI ch)), (2, .int (nI k))]) hx hb dM_brings_11 rfl hl (by decide) rfl (fun ls hl => ?_)
  refine lv_aload_n hx hb dM_brings_12 rfl (lv_at hl 1 rfl) ?_
  refine g_get (cl := vwCl) (ci := 3) (v := .ref (a 2)) hx hb hts inM hown hK (hM.nth 0 rfl) rfl 3 (by decide) (hts _ tb_303) rfl dM_brings_13 ?_
  refine lv_iload_n hx hb dM_brings_16 rfl (lv_at hl 0 rfl) ?_
  refine g_laldv (v := lN (an (rw ((12 * ch) + k)))) hx hb hK 3 (hM.nth 2 rfl) rfl (by omega) (by decide) (rfl) dM_brings_17 ?_
  refine lv_aload_n hx hb dM_brings_18 rfl (lv_at hl 1 rfl) ?_
  refine g_get (cl := vwCl) (ci := 3) (v := .ref (a 6)) hx hb hts inM hown hK (hM.nth 0 rfl) rfl 8 (by decide) (hts _ tb_308) rfl dM_brings_19 ?_
  refine lv_bipush (v := nI 12) hx hb dM_brings_22 (by decide) ?_
  refine lv_iload_n hx hb dM_brings_24 rfl (lv_at hl 2 rfl) ?_
  refine n_imul hx hb dM_brings_25 ?_
  refine lv_iload_n hx hb dM_brings_26 rfl (lv_at hl 3 rfl) ?_
  refine n_iadd hx hb dM_brings_27 ?_
  refine g_zaldv (v := bI (so ((12 * ch) + k))) hx hb hK 2 (hM.nth 6 rfl) rfl (by omega) (by decide) (rfl) dM_brings_28 ?_
  refine b_if_eq (tgt := 36) hx hb dM_brings_29 (by decide) (fun hc => ?_) (fun hc => ?_)
  · refine lv_aload_n hx hb dM_brings_36 rfl (lv_at hl 1 rfl) ?_
    refine lv_iload_n hx hb dM_brings_37 rfl (lv_at hl 0 rfl) ?_
    refine vp_callSl (va_Run.run (va_runV (As := [.int (nI (rw ((12 * ch) + k)))]) (rest := [.long (lN (an (rw ((12 * ch) + k))))]) ⟨hx, hb, hml, hown, hts⟩ (m_longPeriod l D ka s.heap a tv np nc pe an up dn rw so mn wd wv (rw ((12 * ch) + k)) hM hO hR.1.1 hR.1.2.1) (cw_V 1 hts tb_388 rfl rfl tb_385 tb_2 tb_387 ts_25 (by decide +kernel) ⟨Nat.le_of_ble_eq_true rfl, Nat.le_of_ble_eq_true rfl⟩) (ro_V (ci := 3) hK hN (hM.nth 0 rfl) rfl) rfl rfl hl.1 rfl (lv_room (Nat.le_of_ble_eq_true rfl)) dM_brings_38 ⟨Nat.zero_le _, Nat.zero_le _⟩)) (fun r er => ?_)
    subst er
    refine n_ladd hx hb dM_brings_41 ?_
    exact W.lret (v := lN ((an (rw ((12 * ch) + k))) + (lgP (pe (rw ((12 * ch) + k))) (up (rw ((12 * ch) + k))) (dn (rw ((12 * ch) + k)))))) hx hb hr (fun t ht hW => ⟨_, rfl, by rw [brN, if_pos (by simp [qS, hc])]; exact congrArg lN (Nat.add_comm _ _), ht⟩) t_nil dM_brings_42
  · refine lv_lconst (v := lN 0) hx hb dM_brings_32 rfl ?_
    refine lv_goto (tgt := 41) hx hb dM_brings_33 (by decide) ?_
    refine n_ladd hx hb dM_brings_41 ?_
    exact W.lret (v := lN ((an (rw ((12 * ch) + k))) + 0)) hx hb hr (fun t ht hW => ⟨_, rfl, by simp [brN, qS, qF, hc], ht⟩) t_nil dM_brings_42
set_option maxHeartbeats 4000000 in
set_option maxRecDepth 100000 in
theorem m_reaction (l : Launch) (D : va_G) (ka : Nat → ClassId) (H0 : Heap) (a : Nat → Nat) (tv np nc : Nat) (pe an up dn rw : Nat → Nat) (so : Nat → Bool) (mn : Nat → Nat) (wd : Nat → Bool) (wv : Nat → Int64) (ch : Nat) (hM : va_P D vwCl (mW ka a tv np nc pe an up dn rw so mn wd wv) H0) (hO : mOk np nc pe an up dn rw so mn wd wv) (hc1 : 1 ≤ ch) (hc2 : ch ≤ nc) : Met l yM_reaction (.code yM_reaction cM_reaction 5 (some .long) :: gT) ({ frames := 2, cells := 0, slots := 0, locals := 44 }) (ro_Pc D vwCl (tyL ka) H0 [.ref (a 0), .int (nI ch)]) (vp_Sl (fun r => r = lN (rea pe an up dn rw so mn ch))) 0 0 (fun _ => False) := by
  refine Met.ofW (cc := cM_reaction) (maxL := 5) (ret := (some .long)) (by decide) rfl ?_
  intro p e s m args below meth c s₁ B hml hv
  obtain ⟨rfl, hH, hK, hN⟩ := hv
  subst hH
  have hx := B.exec
  have hb := B.bytes
  have hr := B.returns
  have hts : ∀ w ∈ gT, w.before ([.ref (a 0), .int (nI ch)] : List Value).toArray s = true := fun w h => atoms_spec (ws := (.code yM_reaction cM_reaction 5 (some .long) :: gT)) B.pre w (List.mem_cons_of_mem _ h)
  have hown : s.vm.findClass RM = some m.cls := findClass_of_methodNamed B.named
  have hlocks := B.notSynchronized
  have hl := lv_entry ([.ref (a 0), .int (nI ch)]) (n := 5) (Nat.le_of_ble_eq_true rfl)
  rw [lg_entry_eq]
  generalize (lg_sl ([.ref (a 0), .int (nI ch)]) ++ List.replicate (5 - (lg_sl ([.ref (a 0), .int (nI ch)])).length) Slot.unset).toArray = ls at hl ⊢
  have hl : lv_has ls 5 [(0, .ref (a 0)), (1, .int (nI ch))] := hl
  have hnp := hO.1
  have hnc := hO.2.1
  have hmn := (hO.2.2.2.1 ch hc1 hc2).1
  refine lv_lconst (v := lN 0) hx hb dM_reaction_0 rfl ?_
  refine lv_lstore_n (lv' := [(2, .long (lN 0)), (0, .ref (a 0)), (1, .int (nI ch))]) hx hb dM_reaction_1 rfl hl (by decide) rfl (fun ls hl => ?_)
  refine lv_iconst (v := nI 0) hx hb dM_reaction_2 (by decide) ?_
  refine lv_istore (lv' := [(4, .int (nI 0)), (2, .long (lN 0)), (0, .ref (a 0)), (1, .int (nI ch))]) hx hb dM_reaction_3 hl (by decide) rfl (fun ls hl => ?_)
  have loop : ∀ (fu i : Nat), i ≤ mn ch → mn ch < i + fu → ∀ ls : Array Slot, lv_has ls 5 [(4, .int (nI i)), (2, .long (lN (sumN (brN (qS so ch) (qF pe rw ch) (qF an rw ch) (qF up rw ch) (qF dn rw ch)) i))), (1, .int (nI ch)), (0, .ref (a 0))] → W p l e (headSpec (.code yM_reaction cM_reaction 5 (some .long) :: gT) ({ frames := 2, cells := 0, slots := 0, locals := 44 })).room s m ([.ref (a 0), .int (nI ch)] : List Value).toArray below meth c s.heap [] 0 0 (MQ below (vp_Sl (fun r => r = lN (rea pe an up dn rw so mn ch))) ([.ref (a 0), .int (nI ch)] : List Value).toArray s 0 0 (fun _ => False)) (F0 m 5 ls []) := by
    intro fu
    induction fu with
    | zero => intro i h1 h2; exact absurd h2 (by omega)
    | succ fu ih =>
      intro i hi hf  ls hl
      refine lv_iload hx hb dM_reaction_5 (lv_at hl 0 rfl) ?_
      refine lv_aload_n hx hb dM_reaction_7 rfl (lv_at hl 3 rfl) ?_
      refine g_get (cl := vwCl) (ci := 3) (v := .ref (a 7)) hx hb hts inM hown hK (hM.nth 0 rfl) rfl 9 (by decide) (hts _ tb_309) rfl dM_reaction_8 ?_
      refine lv_iload_n hx hb dM_reaction_11 rfl (lv_at hl 2 rfl) ?_
      refine g_ialdv (v := nI (mn ch)) hx hb hK 4 (hM.nth 7 rfl) rfl (by omega) (by decide) (rfl) dM_reaction_12 ?_
      refine n_icmp_ge (tgt := 32) hx hb (by omega) (by omega) dM_reaction_13 (by decide) (fun hc => ?_) (fun hc => ?_)
      · refine lv_lload_n hx hb dM_reaction_32 rfl (lv_at hl 1 rfl) ?_
        exact W.lret (v := lN (sumN (brN (qS so ch) (qF pe rw ch) (qF an rw ch) (qF up rw ch) (qF dn rw ch)) i)) hx hb hr (fun t ht hW => ⟨_, rfl, by rw [show i = mn ch by omega], ht⟩) t_nil dM_reaction_33
      · refine lv_lload_n hx hb dM_reaction_16 rfl (lv_at hl 1 rfl) ?_
        refine lv_aload_n hx hb dM_reaction_17 rfl (lv_at hl 3 rfl) ?_
        refine lv_iload_n hx hb dM_reaction_18 rfl (lv_at hl 2 rfl) ?_
        refine lv_iload hx hb dM_reaction_19 (lv_at hl 0 rfl) ?_
        refine vp_callSl (va_Run.run (va_runV (As := [.int (nI ch), .int (nI i)]) (rest := [.long (lN (sumN (brN (qS so ch) (qF pe rw ch) (qF an rw ch) (qF up rw ch) (qF dn rw ch)) i))]) ⟨hx, hb, hml, hown, hts⟩ (m_brings l D ka s.heap a tv np nc pe an up dn rw so mn wd wv ch i hM hO hc1 hc2 hc) (cw_V 2 hts tb_384 rfl rfl tb_381 tb_2 tb_383 ts_24 (by decide +kernel) ⟨Nat.le_of_ble_eq_true rfl, Nat.le_of_ble_eq_true rfl⟩) (ro_V (ci := 3) hK hN (hM.nth 0 rfl) rfl) rfl rfl hl.1 rfl (lv_room (Nat.le_of_ble_eq_true rfl)) dM_reaction_21 ⟨Nat.zero_le _, Nat.zero_le _⟩)) (fun r er => ?_)
        subst er
        refine n_ladd hx hb dM_reaction_24 ?_
        refine lv_lstore_n (lv' := [(2, .long (lN ((sumN (brN (qS so ch) (qF pe rw ch) (qF an rw ch) (qF up rw ch) (qF dn rw ch)) i) + ((brN (qS so ch) (qF pe rw ch) (qF an rw ch) (qF up rw ch) (qF dn rw ch)) i)))), (4, .int (nI i)), (1, .int (nI ch)), (0, .ref (a 0))]) hx hb dM_reaction_25 rfl hl (by decide) rfl (fun ls hl => ?_)
        refine lv_iinc (v := nI (i + 1)) (lv' := [(4, .int (nI (i + 1))), (2, .long (lN ((sumN (brN (qS so ch) (qF pe rw ch) (qF an rw ch) (qF up rw ch) (qF dn rw ch)) i) + ((brN (qS so ch) (qF pe rw ch) (qF an rw ch) (qF up rw ch) (qF dn rw ch)) i)))), (1, .int (nI ch)), (0, .ref (a 0))]) hx hb dM_reaction_26 hl (k := 1) rfl (nI_add i 1) (by decide) rfl (fun ls hl => ?_)
        refine lv_goto (tgt := 5) hx hb dM_reaction_29 (by decide) ?_
        exact ih (i + 1) (by omega) (by omega) ls (lv_sub hl [0, 1, 2, 3] rfl)
  exact loop (mn ch + 1) 0 (by omega) (by omega) ls (lv_sub hl [0, 1, 3, 2] rfl)
set_option maxHeartbeats 4000000 in
set_option maxRecDepth 100000 in
theorem m_age (l : Launch) (D : va_G) (ka : Nat → ClassId) (H0 : Heap) (a : Nat → Nat) (tv np nc : Nat) (pe an up dn rw : Nat → Nat) (so : Nat → Bool) (mn : Nat → Nat) (wd : Nat → Bool) (wv : Nat → Int64) (ch : Nat) (hM : va_P D vwCl (mW ka a tv np nc pe an up dn rw so mn wd wv) H0) (hO : mOk np nc pe an up dn rw so mn wd wv) (hc1 : 1 ≤ ch) (hc2 : ch ≤ nc) (hn0 : 0 < mn ch) : Met l yM_age (.code yM_age cM_age 4 (some .long) :: gT) ({ frames := 3, cells := 0, slots := 0, locals := 68 }) (ro_Pc D vwCl (tyL ka) H0 [.ref (a 0), .int (nI ch)]) (vp_Sl (fun r => r = lN (rea pe an up dn rw so mn ch - lgP ((qF pe rw ch) 0) ((qF up rw ch) 0) ((qF dn rw ch) 0) + lastS (qS so ch) (fun i => lgP ((qF pe rw ch) i) ((qF up rw ch) i) ((qF dn rw ch) i)) (mn ch)))) 0 0 (fun _ => False) := by
  refine Met.ofW (cc := cM_age) (maxL := 4) (ret := (some .long)) (by decide) rfl ?_
  intro p e s m args below meth c s₁ B hml hv
  obtain ⟨rfl, hH, hK, hN⟩ := hv
  subst hH
  have hx := B.exec
  have hb := B.bytes
  have hr := B.returns
  have hts : ∀ w ∈ gT, w.before ([.ref (a 0), .int (nI ch)] : List Value).toArray s = true := fun w h => atoms_spec (ws := (.code yM_age cM_age 4 (some .long) :: gT)) B.pre w (List.mem_cons_of_mem _ h)
  have hown : s.vm.findClass RM = some m.cls := findClass_of_methodNamed B.named
  have hlocks := B.notSynchronized
  have hl := lv_entry ([.ref (a 0), .int (nI ch)]) (n := 4) (Nat.le_of_ble_eq_true rfl)
  rw [lg_entry_eq]
  generalize (lg_sl ([.ref (a 0), .int (nI ch)]) ++ List.replicate (4 - (lg_sl ([.ref (a 0), .int (nI ch)])).length) Slot.unset).toArray = ls at hl ⊢
  have hl : lv_has ls 4 [(0, .ref (a 0)), (1, .int (nI ch))] := hl
  have hnp := hO.1
  have hnc := hO.2.1
  have hmn := (hO.2.2.2.1 ch hc1 hc2).1
  refine lv_iconst (v := nI 0) hx hb dM_age_0 (by decide) ?_
  refine lv_istore_n (lv' := [(2, .int (nI 0)), (0, .ref (a 0)), (1, .int (nI ch))]) hx hb dM_age_1 rfl hl (by decide) rfl (fun ls hl => ?_)
  refine lv_iconst (v := nI 0) hx hb dM_age_2 (by decide) ?_
  refine lv_istore_n (lv' := [(3, .int (nI 0)), (2, .int (nI 0)), (0, .ref (a 0)), (1, .int (nI ch))]) hx hb dM_age_3 rfl hl (by decide) rfl (fun ls hl => ?_)
  have hs0 : (qS so ch) 0 = true := by simp [qS, (hO.2.2.2.1 ch hc1 hc2).2.2 hn0]
  have loop : ∀ (fu i : Nat), i ≤ mn ch → mn ch < i + fu → ∀ ls : Array Slot, lv_has ls 4 [(3, .int (nI i)), (2, .int (nI (lastI (qS so ch) i))), (1, .int (nI ch)), (0, .ref (a 0))] → W p l e (headSpec (.code yM_age cM_age 4 (some .long) :: gT) ({ frames := 3, cells := 0, slots := 0, locals := 68 })).room s m ([.ref (a 0), .int (nI ch)] : List Value).toArray below meth c s.heap [] 0 0 (MQ below (vp_Sl (fun r => r = lN (rea pe an up dn rw so mn ch - lgP ((qF pe rw ch) 0) ((qF up rw ch) 0) ((qF dn rw ch) 0) + lastS (qS so ch) (fun i => lgP ((qF pe rw ch) i) ((qF up rw ch) i) ((qF dn rw ch) i)) (mn ch)))) ([.ref (a 0), .int (nI ch)] : List Value).toArray s 0 0 (fun _ => False)) (F0 m 4 ls []) := by
    intro fu
    induction fu with
    | zero => intro i h1 h2; exact absurd h2 (by omega)
    | succ fu ih =>
      intro i hi hf  ls hl
      refine lv_iload_n hx hb dM_age_4 rfl (lv_at hl 0 rfl) ?_
      refine lv_aload_n hx hb dM_age_5 rfl (lv_at hl 3 rfl) ?_
      refine g_get (cl := vwCl) (ci := 3) (v := .ref (a 7)) hx hb hts inM hown hK (hM.nth 0 rfl) rfl 9 (by decide) (hts _ tb_309) rfl dM_age_6 ?_
      refine lv_iload_n hx hb dM_age_9 rfl (lv_at hl 2 rfl) ?_
      refine g_ialdv (v := nI (mn ch)) hx hb hK 4 (hM.nth 7 rfl) rfl (by omega) (by decide) (rfl) dM_age_10 ?_
      refine n_icmp_ge (tgt := 40) hx hb (by omega) (by omega) dM_age_11 (by decide) (fun hc => ?_) (fun hc => ?_)
      · obtain hi2 : i = mn ch := by omega
        subst hi2
        have hR0 := hO.row hc1 hc2 hn0
        have hlt := lastI_lt (sel := (qS so ch)) (mn ch) hn0
        have hRl := hO.row hc1 hc2 hlt
        refine lv_aload_n hx hb dM_age_40 rfl (lv_at hl 3 rfl) ?_
        refine lv_iload_n hx hb dM_age_41 rfl (lv_at hl 2 rfl) ?_
        refine vp_callSl (va_Run.run (va_runV (As := [.int (nI ch)]) (rest := []) ⟨hx, hb, hml, hown, hts⟩ (m_reaction l D ka s.heap a tv np nc pe an up dn rw so mn wd wv ch hM hO hc1 hc2) (cw_V 1 hts tb_380 rfl rfl tb_377 tb_2 tb_379 ts_23 (by decide +kernel) ⟨Nat.le_of_ble_eq_true rfl, Nat.le_of_ble_eq_true rfl⟩) (ro_V (ci := 3) hK hN (hM.nth 0 rfl) rfl) rfl rfl hl.1 rfl (lv_room (Nat.le_of_ble_eq_true rfl)) dM_age_42 ⟨Nat.zero_le _, Nat.zero_le _⟩)) (fun r er => ?_)
        subst er
        refine lv_aload_n hx hb dM_age_45 rfl (lv_at hl 3 rfl) ?_
        refine lv_aload_n hx hb dM_age_46 rfl (lv_at hl 3 rfl) ?_
        refine g_get (cl := vwCl) (ci := 3) (v := .ref (a 5)) hx hb hts inM hown hK (hM.nth 0 rfl) rfl 7 (by decide) (hts _ tb_307) rfl dM_age_47 ?_
        refine lv_bipush (v := nI 12) hx hb dM_age_50 (by decide) ?_
        refine lv_iload_n hx hb dM_age_52 rfl (lv_at hl 2 rfl) ?_
        refine n_imul hx hb dM_age_53 ?_
        refine g_ialdv (v := nI (rw (12 * ch))) hx hb hK 4 (hM.nth 5 rfl) rfl (by omega) (by decide) (rfl) dM_age_54 ?_
        refine vp_callSl (va_Run.run (va_runV (As := [.int (nI (rw (12 * ch)))]) (rest := [.long (lN (rea pe an up dn rw so mn ch))]) ⟨hx, hb, hml, hown, hts⟩ (m_longPeriod l D ka s.heap a tv np nc pe an up dn rw so mn wd wv (rw (12 * ch)) hM hO hR0.1.1 hR0.1.2.1) (cw_V 1 hts tb_388 rfl rfl tb_385 tb_2 tb_387 ts_25 (by decide +kernel) ⟨Nat.le_of_ble_eq_true rfl, Nat.le_of_ble_eq_true rfl⟩) (ro_V (ci := 3) hK hN (hM.nth 0 rfl) rfl) rfl rfl hl.1 rfl (lv_room (Nat.le_of_ble_eq_true rfl)) dM_age_55 ⟨Nat.zero_le _, Nat.zero_le _⟩)) (fun r er => ?_)
        subst er
        have hfs : lgP (pe (rw (12 * ch))) (up (rw (12 * ch))) (dn (rw (12 * ch))) ≤ rea pe an up dn rw so mn ch := by
          refine Nat.le_trans ?_ (sumN_ge (f := (brN (qS so ch) (qF pe rw ch) (qF an rw ch) (qF up rw ch) (qF dn rw ch))) hn0)
          rw [brN, if_pos hs0]
          exact Nat.le_add_right _ _
        refine n_lsub hx hb (by omega) dM_age_58 ?_
        refine lv_aload_n hx hb dM_age_59 rfl (lv_at hl 3 rfl) ?_
        refine lv_aload_n hx hb dM_age_60 rfl (lv_at hl 3 rfl) ?_
        refine g_get (cl := vwCl) (ci := 3) (v := .ref (a 5)) hx hb hts inM hown hK (hM.nth 0 rfl) rfl 7 (by decide) (hts _ tb_307) rfl dM_age_61 ?_
        refine lv_bipush (v := nI 12) hx hb dM_age_64 (by decide) ?_
        refine lv_iload_n hx hb dM_age_66 rfl (lv_at hl 2 rfl) ?_
        refine n_imul hx hb dM_age_67 ?_
        refine lv_iload_n hx hb dM_age_68 rfl (lv_at hl 1 rfl) ?_
        refine n_iadd hx hb dM_age_69 ?_
        refine g_ialdv (v := nI (rw ((12 * ch) + (lastI (qS so ch) (mn ch))))) hx hb hK 4 (hM.nth 5 rfl) rfl (by omega) (by decide) (rfl) dM_age_70 ?_
        refine vp_callSl (va_Run.run (va_runV (As := [.int (nI (rw ((12 * ch) + (lastI (qS so ch) (mn ch)))))]) (rest := [.long (lN ((rea pe an up dn rw so mn ch) - (lgP (pe (rw (12 * ch))) (up (rw (12 * ch))) (dn (rw (12 * ch))))))]) ⟨hx, hb, hml, hown, hts⟩ (m_longPeriod l D ka s.heap a tv np nc pe an up dn rw so mn wd wv (rw ((12 * ch) + lastI (qS so ch) (mn ch))) hM hO hRl.1.1 hRl.1.2.1) (cw_V 1 hts tb_388 rfl rfl tb_385 tb_2 tb_387 ts_25 (by decide +kernel) ⟨Nat.le_of_ble_eq_true rfl, Nat.le_of_ble_eq_true rfl⟩) (ro_V (ci := 3) hK hN (hM.nth 0 rfl) rfl) rfl rfl hl.1 rfl (lv_room (Nat.le_of_ble_eq_true rfl)) dM_age_71 ⟨Nat.zero_le _, Nat.zero_le _⟩)) (fun r er => ?_)
        subst er
        refine n_ladd hx hb dM_age_74 ?_
        exact W.lret (v := lN (((rea pe an up dn rw so mn ch) - (lgP (pe (rw (12 * ch))) (up (rw (12 * ch))) (dn (rw (12 * ch))))) + (lgP (pe (rw ((12 * ch) + lastI (qS so ch) (mn ch)))) (up (rw ((12 * ch) + lastI (qS so ch) (mn ch)))) (dn (rw ((12 * ch) + lastI (qS so ch) (mn ch))))))) hx hb hr (fun t ht hW => ⟨_, rfl, by obtain ⟨q, hq⟩ : ∃ q, mn ch = q + 1 := ⟨mn ch - 1, by omega⟩; rw [hq, lastS_I hs0 q]; rfl, ht⟩) t_nil dM_age_75
      · have hR := hO.row hc1 hc2 hc
        refine lv_aload_n hx hb dM_age_14 rfl (lv_at hl 3 rfl) ?_
        refine g_get (cl := vwCl) (ci := 3) (v := .ref (a 6)) hx hb hts inM hown hK (hM.nth 0 rfl) rfl 8 (by decide) (hts _ tb_308) rfl dM_age_15 ?_
        refine lv_bipush (v := nI 12) hx hb dM_age_18 (by decide) ?_
        refine lv_iload_n hx hb dM_age_20 rfl (lv_at hl 2 rfl) ?_
        refine n_imul hx hb dM_age_21 ?_
        refine lv_iload_n hx hb dM_age_22 rfl (lv_at hl 0 rfl) ?_
        refine n_iadd hx hb dM_age_23 ?_
        refine g_zaldv (v := bI (so ((12 * ch) + i))) hx hb hK 2 (hM.nth 6 rfl) rfl (by omega) (by decide) (rfl) dM_age_24 ?_
        refine b_if_eq (tgt := 32) hx hb dM_age_25 (by decide) (fun hc3 => ?_) (fun hc3 => ?_)
        · refine lv_iload_n hx hb dM_age_32 rfl (lv_at hl 0 rfl) ?_
          refine lv_istore_n (lv' := [(2, .int (nI i)), (3, .int (nI i)), (1, .int (nI ch)), (0, .ref (a 0))]) hx hb dM_age_33 rfl hl (by decide) rfl (fun ls hl => ?_)
          refine lv_iinc (v := nI (i + 1)) (lv' := [(3, .int (nI (i + 1))), (2, .int (nI i)), (1, .int (nI ch)), (0, .ref (a 0))]) hx hb dM_age_34 hl (k := 1) rfl (nI_add i 1) (by decide) rfl (fun ls hl => ?_)
          refine lv_goto (tgt := 4) hx hb dM_age_37 (by decide) ?_
          have e1 : lastI (qS so ch) (i + 1) = i := by simp [lastI, qS, hc3]
          exact ih (i + 1) (by omega) (by omega) ls (by rw [e1]; exact lv_sub hl [0, 1, 2, 3] rfl)
        · refine lv_iload_n hx hb dM_age_28 rfl (lv_at hl 1 rfl) ?_
          refine lv_goto (tgt := 33) hx hb dM_age_29 (by decide) ?_
          refine lv_istore_n (lv' := [(2, .int (nI (lastI (qS so ch) i))), (3, .int (nI i)), (1, .int (nI ch)), (0, .ref (a 0))]) hx hb dM_age_33 rfl hl (by decide) rfl (fun ls hl => ?_)
          refine lv_iinc (v := nI (i + 1)) (lv' := [(3, .int (nI (i + 1))), (2, .int (nI (lastI (qS so ch) i))), (1, .int (nI ch)), (0, .ref (a 0))]) hx hb dM_age_34 hl (k := 1) rfl (nI_add i 1) (by decide) rfl (fun ls hl => ?_)
          refine lv_goto (tgt := 4) hx hb dM_age_37 (by decide) ?_
          have e1 : lastI (qS so ch) (i + 1) = lastI (qS so ch) i := by simp [lastI, qS, hc3]
          exact ih (i + 1) (by omega) (by omega) ls (by rw [e1]; exact lv_sub hl [0, 1, 2, 3] rfl)
  exact loop (mn ch + 1) 0 (by omega) (by omega) ls (lv_sub hl [0, 1, 3, 2] rfl)
set_option maxHeartbeats 4000000 in
set_option maxRecDepth 100000 in
theorem m_divisor (l : Launch) (D : va_G) (ka : Nat → ClassId) (H0 : Heap) (a1 b1 : Nat) (ha : a1 < 2 ^ 62) (hb2 : b1 < 2 ^ 62) : Met l yM_divisor (.code yM_divisor cM_divisor 10 (some .long) :: gT) ({ frames := 0, cells := 0, slots := 0, locals := 0 }) (ro_Pc D vwCl (tyL ka) H0 [.long (lN a1), .long (lN b1)]) (vp_Sl (fun r => r = lN (Nat.gcd a1 b1))) 0 0 (fun _ => False) := by
  refine Met.ofW (cc := cM_divisor) (maxL := 10) (ret := (some .long)) (by decide) rfl ?_
  intro p e s m args below meth c s₁ B hml hv
  obtain ⟨rfl, hH, hK, hN⟩ := hv
  subst hH
  have hx := B.exec
  have hb := B.bytes
  have hr := B.returns
  have hts : ∀ w ∈ gT, w.before ([.long (lN a1), .long (lN b1)] : List Value).toArray s = true := fun w h => atoms_spec (ws := (.code yM_divisor cM_divisor 10 (some .long) :: gT)) B.pre w (List.mem_cons_of_mem _ h)
  have hown : s.vm.findClass RM = some m.cls := findClass_of_methodNamed B.named
  have hlocks := B.notSynchronized
  have hl := lv_entry ([.long (lN a1), .long (lN b1)]) (n := 10) (Nat.le_of_ble_eq_true rfl)
  rw [lg_entry_eq]
  generalize (lg_sl ([.long (lN a1), .long (lN b1)]) ++ List.replicate (10 - (lg_sl ([.long (lN a1), .long (lN b1)])).length) Slot.unset).toArray = ls at hl ⊢
  have hl : lv_has ls 10 [(0, .long (lN a1)), (2, .long (lN b1))] := hl
  refine lv_lload_n hx hb dM_divisor_0 rfl (lv_at hl 0 rfl) ?_
  refine lv_lstore (lv' := [(4, .long (lN a1)), (0, .long (lN a1)), (2, .long (lN b1))]) hx hb dM_divisor_1 hl (by decide) rfl (fun ls hl => ?_)
  refine lv_lload_n hx hb dM_divisor_3 rfl (lv_at hl 2 rfl) ?_
  refine lv_lstore (lv' := [(6, .long (lN b1)), (4, .long (lN a1)), (0, .long (lN a1)), (2, .long (lN b1))]) hx hb dM_divisor_4 hl (by decide) rfl (fun ls hl => ?_)
  have loop : ∀ (fu x y : Nat), y < fu → x < 2 ^ 62 → y < 2 ^ 62 → Nat.gcd x y = Nat.gcd a1 b1 → ∀ ls : Array Slot, lv_has ls 10 [(6, .long (lN y)), (4, .long (lN x)), (2, .long (lN b1)), (0, .long (lN a1))] → W p l e (headSpec (.code yM_divisor cM_divisor 10 (some .long) :: gT) ({ frames := 0, cells := 0, slots := 0, locals := 0 })).room s m ([.long (lN a1), .long (lN b1)] : List Value).toArray below meth c s.heap [] 0 0 (MQ below (vp_Sl (fun r => r = lN (Nat.gcd a1 b1))) ([.long (lN a1), .long (lN b1)] : List Value).toArray s 0 0 (fun _ => False)) (F0 m 6 ls []) := by
    intro fu
    induction fu with
    | zero => intro x y h1; exact absurd h1 (by omega)
    | succ fu ih =>
      intro x y h1 hx2 hy2 hgc ls hl
      refine lv_lload hx hb dM_divisor_6 (lv_at hl 0 rfl) ?_
      refine lv_lconst (v := lN 0) hx hb dM_divisor_8 rfl ?_
      refine n_lcmp_eq (tgt := 31) hx hb (by omega) (by omega) dM_divisor_9 dM_divisor_10 (by decide) (fun hc => ?_) (fun hc => ?_)
      · refine lv_lload hx hb dM_divisor_31 (lv_at hl 1 rfl) ?_
        exact W.lret (v := lN x) hx hb hr (fun t ht hW => ⟨_, rfl, by rw [← hgc, show y = 0 by omega, Nat.gcd_zero_right], ht⟩) t_nil dM_divisor_33
      · have hy : 0 < y := by omega
        have hm := Nat.mod_lt x hy
        refine lv_lload hx hb dM_divisor_13 (lv_at hl 1 rfl) ?_
        refine lv_lload hx hb dM_divisor_15 (lv_at hl 0 rfl) ?_
        refine n_lrem hx hb (by omega) (by omega) (by omega) dM_divisor_17 ?_
        refine lv_lstore (lv' := [(8, .long (lN (x % y))), (6, .long (lN y)), (4, .long (lN x)), (2, .long (lN b1)), (0, .long (lN a1))]) hx hb dM_divisor_18 hl (by decide) rfl (fun ls hl => ?_)
        refine lv_lload hx hb dM_divisor_20 (lv_at hl 1 rfl) ?_
        refine lv_lstore (lv' := [(4, .long (lN y)), (8, .long (lN (x % y))), (6, .long (lN y)), (2, .long (lN b1)), (0, .long (lN a1))]) hx hb dM_divisor_22 hl (by decide) rfl (fun ls hl => ?_)
        refine lv_lload hx hb dM_divisor_24 (lv_at hl 1 rfl) ?_
        refine lv_lstore (lv' := [(6, .long (lN (x % y))), (4, .long (lN y)), (8, .long (lN (x % y))), (2, .long (lN b1)), (0, .long (lN a1))]) hx hb dM_divisor_26 hl (by decide) rfl (fun ls hl => ?_)
        refine lv_goto (tgt := 6) hx hb dM_divisor_28 (by decide) ?_
        exact ih y (x % y) (by omega) (by omega) (by omega) (by rw [← hgc]; exact (gcd_step x y).symm) ls (lv_sub hl [0, 1, 3, 4] rfl)
  exact loop (b1 + 1) a1 b1 (by omega) ha hb2 rfl ls (lv_sub hl [0, 1, 3, 2] rfl)
set_option maxHeartbeats 4000000 in
set_option maxRecDepth 100000 in
theorem m_common (l : Launch) (D : va_G) (ka : Nat → ClassId) (H0 : Heap) (a : Nat → Nat) (tv np nc : Nat) (pe an up dn rw : Nat → Nat) (so : Nat → Bool) (mn : Nat → Nat) (wd : Nat → Bool) (wv : Nat → Int64) (ch : Nat) (al : Bool) (Bd : Nat) (hM : va_P D vwCl (mW ka a tv np nc pe an up dn rw so mn wd wv) H0) (hO : mOk np nc pe an up dn rw so mn wd wv) (hc1 : 1 ≤ ch) (hc2 : ch ≤ nc) (hB1 : 1 < Bd) (hB2 : Bd ≤ 1000000000) (hal : ∀ i, i < mn ch → ((qS so ch) i || al) = true → 0 < (qF pe rw ch) i) : Met l yM_common (.code yM_common cM_common 10 (some .long) :: gT) ({ frames := 1, cells := 0, slots := 0, locals := 29 }) (ro_Pc D vwCl (tyL ka) H0 [.ref (a 0), .int (nI ch), .int (bI al), .long (lN Bd)]) (vp_Sl (fun r => r = lN (cyM Bd (fun i => (qS so ch) i || al) (qF pe rw ch) (mn ch)))) 0 0 (fun _ => False) := by
  refine Met.ofW (cc := cM_common) (maxL := 10) (ret := (some .long)) (by decide) rfl ?_
  intro p e s m args below meth c s₁ B hml hv
  obtain ⟨rfl, hH, hK, hN⟩ := hv
  subst hH
  have hx := B.exec
  have hb := B.bytes
  have hr := B.returns
  have hts : ∀ w ∈ gT, w.before ([.ref (a 0), .int (nI ch), .int (bI al), .long (lN Bd)] : List Value).toArray s = true := fun w h => atoms_spec (ws := (.code yM_common cM_common 10 (some .long) :: gT)) B.pre w (List.mem_cons_of_mem _ h)
  have hown : s.vm.findClass RM = some m.cls := findClass_of_methodNamed B.named
  have hlocks := B.notSynchronized
  have hl := lv_entry ([.ref (a 0), .int (nI ch), .int (bI al), .long (lN Bd)]) (n := 10) (Nat.le_of_ble_eq_true rfl)
  rw [lg_entry_eq]
  generalize (lg_sl ([.ref (a 0), .int (nI ch), .int (bI al), .long (lN Bd)]) ++ List.replicate (10 - (lg_sl ([.ref (a 0), .int (nI ch), .int (bI al), .long (lN Bd)])).length) Slot.unset).toArray = ls at hl ⊢
  have hl : lv_has ls 10 [(0, .ref (a 0)), (1, .int (nI ch)), (2, .int (bI al)), (3, .long (lN Bd))] := hl
  have hnp := hO.1
  have hnc := hO.2.1
  have hmn := (hO.2.2.2.1 ch hc1 hc2).1
  refine lv_lconst (v := lN 1) hx hb dM_common_0 rfl ?_
  refine lv_lstore (lv' := [(5, .long (lN 1)), (0, .ref (a 0)), (1, .int (nI ch)), (2, .int (bI al)), (3, .long (lN Bd))]) hx hb dM_common_1 hl (by decide) rfl (fun ls hl => ?_)
  refine lv_iconst (v := nI 0) hx hb dM_common_3 (by decide) ?_
  refine lv_istore (lv' := [(7, .int (nI 0)), (5, .long (lN 1)), (0, .ref (a 0)), (1, .int (nI ch)), (2, .int (bI al)), (3, .long (lN Bd))]) hx hb dM_common_4 hl (by decide) rfl (fun ls hl => ?_)
  have hB0 : 0 < Bd := by omega
  have loop : ∀ (fu i : Nat), i ≤ mn ch → mn ch < i + fu → ∀ ls : Array Slot, lv_has ls 10 [(7, .int (nI i)), (5, .long (lN (cyM Bd (fun i => (qS so ch) i || al) (qF pe rw ch) i))), (3, .long (lN Bd)), (2, .int (bI al)), (1, .int (nI ch)), (0, .ref (a 0))] → W p l e (headSpec (.code yM_common cM_common 10 (some .long) :: gT) ({ frames := 1, cells := 0, slots := 0, locals := 29 })).room s m ([.ref (a 0), .int (nI ch), .int (bI al), .long (lN Bd)] : List Value).toArray below meth c s.heap [] 0 0 (MQ below (vp_Sl (fun r => r = lN (cyM Bd (fun i => (qS so ch) i || al) (qF pe rw ch) (mn ch)))) ([.ref (a 0), .int (nI ch), .int (bI al), .long (lN Bd)] : List Value).toArray s 0 0 (fun _ => False)) (F0 m 6 ls []) := by
    intro fu
    induction fu with
    | zero => intro i h1 h2; exact absurd h2 (by omega)
    | succ fu ih =>
      intro i hi hf  ls hl
      refine lv_iload hx hb dM_common_6 (lv_at hl 0 rfl) ?_
      refine lv_aload_n hx hb dM_common_8 rfl (lv_at hl 5 rfl) ?_
      refine g_get (cl := vwCl) (ci := 3) (v := .ref (a 7)) hx hb hts inM hown hK (hM.nth 0 rfl) rfl 9 (by decide) (hts _ tb_309) rfl dM_common_9 ?_
      refine lv_iload_n hx hb dM_common_12 rfl (lv_at hl 4 rfl) ?_
      refine g_ialdv (v := nI (mn ch)) hx hb hK 4 (hM.nth 7 rfl) rfl (by omega) (by decide) (rfl) dM_common_13 ?_
      refine n_icmp_ge (tgt := 100) hx hb (by omega) (by omega) dM_common_14 (by decide) (fun hc => ?_) (fun hc => ?_)
      · refine lv_lload hx hb dM_common_100 (lv_at hl 1 rfl) ?_
        exact W.lret (v := lN (cyM Bd (fun i => (qS so ch) i || al) (qF pe rw ch) i)) hx hb hr (fun t ht hW => ⟨_, rfl, by rw [show i = mn ch by omega], ht⟩) t_nil dM_common_102
      · have hR := hO.row hc1 hc2 hc
        have hR2 : pe (rw ((12 * ch) + i)) ≤ 20000 := hR.2.1
        have hci := cyM_in hB0 (sel := (fun i => (qS so ch) i || al)) (T := (qF pe rw ch)) i (fun j hj hs => hal j (by omega) hs)
        refine lv_aload_n hx hb dM_common_17 rfl (lv_at hl 5 rfl) ?_
        refine g_get (cl := vwCl) (ci := 3) (v := .ref (a 1)) hx hb hts inM hown hK (hM.nth 0 rfl) rfl 2 (by decide) (hts _ tb_302) rfl dM_common_18 ?_
        refine lv_aload_n hx hb dM_common_21 rfl (lv_at hl 5 rfl) ?_
        refine g_get (cl := vwCl) (ci := 3) (v := .ref (a 5)) hx hb hts inM hown hK (hM.nth 0 rfl) rfl 7 (by decide) (hts _ tb_307) rfl dM_common_22 ?_
        refine lv_bipush (v := nI 12) hx hb dM_common_25 (by decide) ?_
        refine lv_iload_n hx hb dM_common_27 rfl (lv_at hl 4 rfl) ?_
        refine n_imul hx hb dM_common_28 ?_
        refine lv_iload hx hb dM_common_29 (lv_at hl 0 rfl) ?_
        refine n_iadd hx hb dM_common_31 ?_
        refine g_ialdv (v := nI (rw ((12 * ch) + i))) hx hb hK 4 (hM.nth 5 rfl) rfl (by omega) (by decide) (rfl) dM_common_32 ?_
        refine g_laldv (v := lN (pe (rw ((12 * ch) + i)))) hx hb hK 3 (hM.nth 1 rfl) rfl (by omega) (by decide) (rfl) dM_common_33 ?_
        refine lv_lstore (lv' := [(8, .long (lN (pe (rw ((12 * ch) + i))))), (7, .int (nI i)), (5, .long (lN (cyM Bd (fun i => (qS so ch) i || al) (qF pe rw ch) i))), (3, .long (lN Bd)), (2, .int (bI al)), (1, .int (nI ch)), (0, .ref (a 0))]) hx hb dM_common_34 hl (by decide) rfl (fun ls hl => ?_)
        refine lv_iload_n hx hb dM_common_36 rfl (lv_at hl 4 rfl) ?_
        refine b_if_ne (tgt := 55) hx hb dM_common_37 (by decide) (fun hc3 => ?_) (fun hc3 => ?_)
        · have hs : ((qS so ch) i || al) = true := by simp [hc3]
          have hTp : 0 < pe (rw ((12 * ch) + i)) := hal i hc hs
          have hlp := lcm_le (a := cyM Bd (fun i => (qS so ch) i || al) (qF pe rw ch) i) (b := pe (rw ((12 * ch) + i)))
          have hlq : cyM Bd (fun i => (qS so ch) i || al) (qF pe rw ch) i * pe (rw ((12 * ch) + i)) ≤ 1000000000 * 20000 := Nat.mul_le_mul (by omega) hR2
          have hg := Nat.gcd_pos_of_pos_left (pe (rw ((12 * ch) + i))) hci.1
          have hg2 := Nat.gcd_le_left (pe (rw ((12 * ch) + i))) hci.1
          have e0 : cyM Bd (fun i => (qS so ch) i || al) (qF pe rw ch) i / Nat.gcd (cyM Bd (fun i => (qS so ch) i || al) (qF pe rw ch) i) (pe (rw ((12 * ch) + i))) * pe (rw ((12 * ch) + i)) = Nat.lcm (cyM Bd (fun i => (qS so ch) i || al) (qF pe rw ch) i) (pe (rw ((12 * ch) + i))) := lcm_eq hg
          have e1 : cyM Bd (fun i => (qS so ch) i || al) (qF pe rw ch) (i + 1) = min Bd (Nat.lcm (cyM Bd (fun i => (qS so ch) i || al) (qF pe rw ch) i) (pe (rw ((12 * ch) + i)))) := by show (if _ then _ else _) = _; rw [if_pos hs]; rfl
          have htop : cyM Bd (fun i => (qS so ch) i || al) (qF pe rw ch) (i + 1) = Bd → cyM Bd (fun i => (qS so ch) i || al) (qF pe rw ch) (mn ch) = Bd := fun q => cyM_top hB0 (i := i + 1) (by omega) hal q
          refine lv_lload hx hb dM_common_55 (lv_at hl 2 rfl) ?_
          refine lv_lload hx hb dM_common_57 (lv_at hl 2 rfl) ?_
          refine lv_lload hx hb dM_common_59 (lv_at hl 0 rfl) ?_
          refine vp_callSl (va_Run.run (va_runS (As := [.long (lN (cyM Bd (fun i => (qS so ch) i || al) (qF pe rw ch) i)), .long (lN (pe (rw ((12 * ch) + i))))]) (rest := [.long (lN (cyM Bd (fun i => (qS so ch) i || al) (qF pe rw ch) i))]) ⟨hx, hb, hml, hown, hts⟩ (m_divisor l D ka s.heap (cyM Bd (fun i => (qS so ch) i || al) (qF pe rw ch) i) (pe (rw ((12 * ch) + i))) (by omega) (by omega)) (cw_S 2 hts tb_418 rfl rfl tb_416 tb_2 tb_417 (by decide +kernel) ⟨Nat.le_of_ble_eq_true rfl, Nat.le_of_ble_eq_true rfl⟩) (ro_S hK hN) rfl rfl hl.1 rfl (lv_room (Nat.le_of_ble_eq_true rfl)) dM_common_61 ⟨Nat.zero_le _, Nat.zero_le _⟩)) (fun r er => ?_)
          subst er
          refine n_ldiv hx hb (by omega) (by omega) (by omega) dM_common_64 ?_
          refine lv_lload hx hb dM_common_65 (lv_at hl 0 rfl) ?_
          refine n_lmul hx hb dM_common_67 ?_
          rw [e0]
          generalize hLL : Nat.lcm (cyM Bd (fun i => (qS so ch) i || al) (qF pe rw ch) i) (pe (rw ((12 * ch) + i))) = LL at hlp e1 ⊢
          refine lv_lstore (lv' := [(5, .long (lN LL)), (8, .long (lN (pe (rw ((12 * ch) + i))))), (7, .int (nI i)), (3, .long (lN Bd)), (2, .int (bI al)), (1, .int (nI ch)), (0, .ref (a 0))]) hx hb dM_common_68 hl (by decide) rfl (fun ls hl => ?_)
          refine lv_lload hx hb dM_common_70 (lv_at hl 0 rfl) ?_
          refine lv_lload_n hx hb dM_common_72 rfl (lv_at hl 3 rfl) ?_
          refine n_lcmp_le (tgt := 81) hx hb (by omega) (by omega) dM_common_73 dM_common_74 (by decide) (fun hc5 => ?_) (fun hc5 => ?_)
          · refine lv_lload hx hb dM_common_81 (lv_at hl 0 rfl) ?_
            refine lv_lstore (lv' := [(5, .long (lN LL)), (8, .long (lN (pe (rw ((12 * ch) + i))))), (7, .int (nI i)), (3, .long (lN Bd)), (2, .int (bI al)), (1, .int (nI ch)), (0, .ref (a 0))]) hx hb dM_common_83 hl (by decide) rfl (fun ls hl => ?_)
            refine lv_lload hx hb dM_common_85 (lv_at hl 0 rfl) ?_
            refine lv_lload_n hx hb dM_common_87 rfl (lv_at hl 3 rfl) ?_
            refine n_lcmp_ne (tgt := 94) hx hb (by omega) (by omega) dM_common_88 dM_common_89 (by decide) (fun hc6 => ?_) (fun hc6 => ?_)
            · refine lv_iinc (v := nI (i + 1)) (lv' := [(7, .int (nI (i + 1))), (5, .long (lN LL)), (8, .long (lN (pe (rw ((12 * ch) + i))))), (3, .long (lN Bd)), (2, .int (bI al)), (1, .int (nI ch)), (0, .ref (a 0))]) hx hb dM_common_94 hl (k := 2) rfl (nI_add i 1) (by decide) rfl (fun ls hl => ?_)
              refine lv_goto (tgt := 6) hx hb dM_common_97 (by decide) ?_
              exact ih (i + 1) (by omega) (by omega) ls (by rw [e1, show min Bd LL = LL by omega]; exact lv_sub hl [0, 1, 3, 4, 5, 6] rfl)
            · refine lv_lload_n hx hb dM_common_92 rfl (lv_at hl 3 rfl) ?_
              exact W.lret (v := lN Bd) hx hb hr (fun t ht hW => ⟨_, rfl, by rw [htop (by rw [e1]; omega)], ht⟩) t_nil dM_common_93
          · refine lv_lload_n hx hb dM_common_77 rfl (lv_at hl 3 rfl) ?_
            refine lv_goto (tgt := 83) hx hb dM_common_78 (by decide) ?_
            refine lv_lstore (lv' := [(5, .long (lN Bd)), (8, .long (lN (pe (rw ((12 * ch) + i))))), (7, .int (nI i)), (3, .long (lN Bd)), (2, .int (bI al)), (1, .int (nI ch)), (0, .ref (a 0))]) hx hb dM_common_83 hl (by decide) rfl (fun ls hl => ?_)
            refine lv_lload hx hb dM_common_85 (lv_at hl 0 rfl) ?_
            refine lv_lload_n hx hb dM_common_87 rfl (lv_at hl 3 rfl) ?_
            refine n_lcmp_ne (tgt := 94) hx hb (by omega) (by omega) dM_common_88 dM_common_89 (by decide) (fun hc6 => ?_) (fun hc6 => ?_)
            · refine lv_iinc (v := nI (i + 1)) (lv' := [(7, .int (nI (i + 1))), (5, .long (lN Bd)), (8, .long (lN (pe (rw ((12 * ch) + i))))), (3, .long (lN Bd)), (2, .int (bI al)), (1, .int (nI ch)), (0, .ref (a 0))]) hx hb dM_common_94 hl (k := 2) rfl (nI_add i 1) (by decide) rfl (fun ls hl => ?_)
              refine lv_goto (tgt := 6) hx hb dM_common_97 (by decide) ?_
              exact ih (i + 1) (by omega) (by omega) ls (by rw [e1, show min Bd LL = Bd by omega]; exact lv_sub hl [0, 1, 3, 4, 5, 6] rfl)
            · refine lv_lload_n hx hb dM_common_92 rfl (lv_at hl 3 rfl) ?_
              exact W.lret (v := lN Bd) hx hb hr (fun t ht hW => ⟨_, rfl, by rw [htop (by rw [e1]; omega)], ht⟩) t_nil dM_common_93
        · refine lv_aload_n hx hb dM_common_40 rfl (lv_at hl 6 rfl) ?_
          refine g_get (cl := vwCl) (ci := 3) (v := .ref (a 6)) hx hb hts inM hown hK (hM.nth 0 rfl) rfl 8 (by decide) (hts _ tb_308) rfl dM_common_41 ?_
          refine lv_bipush (v := nI 12) hx hb dM_common_44 (by decide) ?_
          refine lv_iload_n hx hb dM_common_46 rfl (lv_at hl 5 rfl) ?_
          refine n_imul hx hb dM_common_47 ?_
          refine lv_iload hx hb dM_common_48 (lv_at hl 1 rfl) ?_
          refine n_iadd hx hb dM_common_50 ?_
          refine g_zaldv (v := bI (so ((12 * ch) + i))) hx hb hK 2 (hM.nth 6 rfl) rfl (by omega) (by decide) (rfl) dM_common_51 ?_
          refine b_if_ne (tgt := 94) hx hb dM_common_52 (by decide) (fun hc4 => ?_) (fun hc4 => ?_)
          · refine lv_iinc (v := nI (i + 1)) (lv' := [(7, .int (nI (i + 1))), (8, .long (lN (pe (rw ((12 * ch) + i))))), (5, .long (lN (cyM Bd (fun i => (qS so ch) i || al) (qF pe rw ch) i))), (3, .long (lN Bd)), (2, .int (bI al)), (1, .int (nI ch)), (0, .ref (a 0))]) hx hb dM_common_94 hl (k := 1) rfl (nI_add i 1) (by decide) rfl (fun ls hl => ?_)
            refine lv_goto (tgt := 6) hx hb dM_common_97 (by decide) ?_
            have e1 : cyM Bd (fun i => (qS so ch) i || al) (qF pe rw ch) (i + 1) = cyM Bd (fun i => (qS so ch) i || al) (qF pe rw ch) i := by show (if _ then _ else _) = _; rw [if_neg (by simp [qS, hc3, hc4])]
            exact ih (i + 1) (by omega) (by omega) ls (by rw [e1]; exact lv_sub hl [0, 2, 3, 4, 5, 6] rfl)
          · have hs : ((qS so ch) i || al) = true := by simp [qS, hc3, hc4]
            have hTp : 0 < pe (rw ((12 * ch) + i)) := hal i hc hs
            have hlp := lcm_le (a := cyM Bd (fun i => (qS so ch) i || al) (qF pe rw ch) i) (b := pe (rw ((12 * ch) + i)))
            have hlq : cyM Bd (fun i => (qS so ch) i || al) (qF pe rw ch) i * pe (rw ((12 * ch) + i)) ≤ 1000000000 * 20000 := Nat.mul_le_mul (by omega) hR2
            have hg := Nat.gcd_pos_of_pos_left (pe (rw ((12 * ch) + i))) hci.1
            have hg2 := Nat.gcd_le_left (pe (rw ((12 * ch) + i))) hci.1
            have e0 : cyM Bd (fun i => (qS so ch) i || al) (qF pe rw ch) i / Nat.gcd (cyM Bd (fun i => (qS so ch) i || al) (qF pe rw ch) i) (pe (rw ((12 * ch) + i))) * pe (rw ((12 * ch) + i)) = Nat.lcm (cyM Bd (fun i => (qS so ch) i || al) (qF pe rw ch) i) (pe (rw ((12 * ch) + i))) := lcm_eq hg
            have e1 : cyM Bd (fun i => (qS so ch) i || al) (qF pe rw ch) (i + 1) = min Bd (Nat.lcm (cyM Bd (fun i => (qS so ch) i || al) (qF pe rw ch) i) (pe (rw ((12 * ch) + i)))) := by show (if _ then _ else _) = _; rw [if_pos hs]; rfl
            have htop : cyM Bd (fun i => (qS so ch) i || al) (qF pe rw ch) (i + 1) = Bd → cyM Bd (fun i => (qS so ch) i || al) (qF pe rw ch) (mn ch) = Bd := fun q => cyM_top hB0 (i := i + 1) (by omega) hal q
            refine lv_lload hx hb dM_common_55 (lv_at hl 2 rfl) ?_
            refine lv_lload hx hb dM_common_57 (lv_at hl 2 rfl) ?_
            refine lv_lload hx hb dM_common_59 (lv_at hl 0 rfl) ?_
            refine vp_callSl (va_Run.run (va_runS (As := [.long (lN (cyM Bd (fun i => (qS so ch) i || al) (qF pe rw ch) i)), .long (lN (pe (rw ((12 * ch) + i))))]) (rest := [.long (lN (cyM Bd (fun i => (qS so ch) i || al) (qF pe rw ch) i))]) ⟨hx, hb, hml, hown, hts⟩ (m_divisor l D ka s.heap (cyM Bd (fun i => (qS so ch) i || al) (qF pe rw ch) i) (pe (rw ((12 * ch) + i))) (by omega) (by omega)) (cw_S 2 hts tb_418 rfl rfl tb_416 tb_2 tb_417 (by decide +kernel) ⟨Nat.le_of_ble_eq_true rfl, Nat.le_of_ble_eq_true rfl⟩) (ro_S hK hN) rfl rfl hl.1 rfl (lv_room (Nat.le_of_ble_eq_true rfl)) dM_common_61 ⟨Nat.zero_le _, Nat.zero_le _⟩)) (fun r er => ?_)
            subst er
            refine n_ldiv hx hb (by omega) (by omega) (by omega) dM_common_64 ?_
            refine lv_lload hx hb dM_common_65 (lv_at hl 0 rfl) ?_
            refine n_lmul hx hb dM_common_67 ?_
            rw [e0]
            generalize hLL : Nat.lcm (cyM Bd (fun i => (qS so ch) i || al) (qF pe rw ch) i) (pe (rw ((12 * ch) + i))) = LL at hlp e1 ⊢
            refine lv_lstore (lv' := [(5, .long (lN LL)), (8, .long (lN (pe (rw ((12 * ch) + i))))), (7, .int (nI i)), (3, .long (lN Bd)), (2, .int (bI al)), (1, .int (nI ch)), (0, .ref (a 0))]) hx hb dM_common_68 hl (by decide) rfl (fun ls hl => ?_)
            refine lv_lload hx hb dM_common_70 (lv_at hl 0 rfl) ?_
            refine lv_lload_n hx hb dM_common_72 rfl (lv_at hl 3 rfl) ?_
            refine n_lcmp_le (tgt := 81) hx hb (by omega) (by omega) dM_common_73 dM_common_74 (by decide) (fun hc5 => ?_) (fun hc5 => ?_)
            · refine lv_lload hx hb dM_common_81 (lv_at hl 0 rfl) ?_
              refine lv_lstore (lv' := [(5, .long (lN LL)), (8, .long (lN (pe (rw ((12 * ch) + i))))), (7, .int (nI i)), (3, .long (lN Bd)), (2, .int (bI al)), (1, .int (nI ch)), (0, .ref (a 0))]) hx hb dM_common_83 hl (by decide) rfl (fun ls hl => ?_)
              refine lv_lload hx hb dM_common_85 (lv_at hl 0 rfl) ?_
              refine lv_lload_n hx hb dM_common_87 rfl (lv_at hl 3 rfl) ?_
              refine n_lcmp_ne (tgt := 94) hx hb (by omega) (by omega) dM_common_88 dM_common_89 (by decide) (fun hc6 => ?_) (fun hc6 => ?_)
              · refine lv_iinc (v := nI (i + 1)) (lv' := [(7, .int (nI (i + 1))), (5, .long (lN LL)), (8, .long (lN (pe (rw ((12 * ch) + i))))), (3, .long (lN Bd)), (2, .int (bI al)), (1, .int (nI ch)), (0, .ref (a 0))]) hx hb dM_common_94 hl (k := 2) rfl (nI_add i 1) (by decide) rfl (fun ls hl => ?_)
                refine lv_goto (tgt := 6) hx hb dM_common_97 (by decide) ?_
                exact ih (i + 1) (by omega) (by omega) ls (by rw [e1, show min Bd LL = LL by omega]; exact lv_sub hl [0, 1, 3, 4, 5, 6] rfl)
              · refine lv_lload_n hx hb dM_common_92 rfl (lv_at hl 3 rfl) ?_
                exact W.lret (v := lN Bd) hx hb hr (fun t ht hW => ⟨_, rfl, by rw [htop (by rw [e1]; omega)], ht⟩) t_nil dM_common_93
            · refine lv_lload_n hx hb dM_common_77 rfl (lv_at hl 3 rfl) ?_
              refine lv_goto (tgt := 83) hx hb dM_common_78 (by decide) ?_
              refine lv_lstore (lv' := [(5, .long (lN Bd)), (8, .long (lN (pe (rw ((12 * ch) + i))))), (7, .int (nI i)), (3, .long (lN Bd)), (2, .int (bI al)), (1, .int (nI ch)), (0, .ref (a 0))]) hx hb dM_common_83 hl (by decide) rfl (fun ls hl => ?_)
              refine lv_lload hx hb dM_common_85 (lv_at hl 0 rfl) ?_
              refine lv_lload_n hx hb dM_common_87 rfl (lv_at hl 3 rfl) ?_
              refine n_lcmp_ne (tgt := 94) hx hb (by omega) (by omega) dM_common_88 dM_common_89 (by decide) (fun hc6 => ?_) (fun hc6 => ?_)
              · refine lv_iinc (v := nI (i + 1)) (lv' := [(7, .int (nI (i + 1))), (5, .long (lN Bd)), (8, .long (lN (pe (rw ((12 * ch) + i))))), (3, .long (lN Bd)), (2, .int (bI al)), (1, .int (nI ch)), (0, .ref (a 0))]) hx hb dM_common_94 hl (k := 2) rfl (nI_add i 1) (by decide) rfl (fun ls hl => ?_)
                refine lv_goto (tgt := 6) hx hb dM_common_97 (by decide) ?_
                exact ih (i + 1) (by omega) (by omega) ls (by rw [e1, show min Bd LL = Bd by omega]; exact lv_sub hl [0, 1, 3, 4, 5, 6] rfl)
              · refine lv_lload_n hx hb dM_common_92 rfl (lv_at hl 3 rfl) ?_
                exact W.lret (v := lN Bd) hx hb hr (fun t ht hW => ⟨_, rfl, by rw [htop (by rw [e1]; omega)], ht⟩) t_nil dM_common_93
  exact loop (mn ch + 1) 0 (by omega) (by omega) ls (lv_sub hl [0, 1, 5, 4, 3, 2] rfl)
set_option maxHeartbeats 4000000 in
set_option maxRecDepth 100000 in
theorem m_isPlain (l : Launch) (D : va_G) (ka : Nat → ClassId) (H0 : Heap) (a : Nat → Nat) (tv np nc : Nat) (pe an up dn rw : Nat → Nat) (so : Nat → Bool) (mn : Nat → Nat) (wd : Nat → Bool) (wv : Nat → Int64) (ch : Nat) (hM : va_P D vwCl (mW ka a tv np nc pe an up dn rw so mn wd wv) H0) (hO : mOk np nc pe an up dn rw so mn wd wv) (hc1 : 1 ≤ ch) (hc2 : ch ≤ nc) : Met l yM_isPlain (.code yM_isPlain cM_isPlain 4 (some .boolean) :: gT) ({ frames := 2, cells := 0, slots := 0, locals := 58 }) (ro_Pc D vwCl (tyL ka) H0 [.ref (a 0), .int (nI ch)]) (vp_Si (fun r => r = bI (canN (qS so ch) (qF pe rw ch) (qF up rw ch) (mn ch)))) 0 0 (fun _ => False) := by
  refine Met.ofW (cc := cM_isPlain) (maxL := 4) (ret := (some .boolean)) (by decide) rfl ?_
  intro p e s m args below meth c s₁ B hml hv
  obtain ⟨rfl, hH, hK, hN⟩ := hv
  subst hH
  have hx := B.exec
  have hb := B.bytes
  have hr := B.returns
  have hts : ∀ w ∈ gT, w.before ([.ref (a 0), .int (nI ch)] : List Value).toArray s = true := fun w h => atoms_spec (ws := (.code yM_isPlain cM_isPlain 4 (some .boolean) :: gT)) B.pre w (List.mem_cons_of_mem _ h)
  have hown : s.vm.findClass RM = some m.cls := findClass_of_methodNamed B.named
  have hlocks := B.notSynchronized
  have hl := lv_entry ([.ref (a 0), .int (nI ch)]) (n := 4) (Nat.le_of_ble_eq_true rfl)
  rw [lg_entry_eq]
  generalize (lg_sl ([.ref (a 0), .int (nI ch)]) ++ List.replicate (4 - (lg_sl ([.ref (a 0), .int (nI ch)])).length) Slot.unset).toArray = ls at hl ⊢
  have hl : lv_has ls 4 [(0, .ref (a 0)), (1, .int (nI ch))] := hl
  have hnp := hO.1
  have hnc := hO.2.1
  have hmn := (hO.2.2.2.1 ch hc1 hc2).1
  have hal : ∀ i, i < mn ch → ((qS so ch) i || false) = true → 0 < (qF pe rw ch) i := fun i hi hs => hO.sel hc1 hc2 i hi (by simpa using hs)
  have hcl := cyM_le hal
  refine lv_iconst (v := nI 1) hx hb dM_isPlain_0 (by decide) ?_
  refine lv_istore_n (lv' := [(2, .int (nI 1)), (0, .ref (a 0)), (1, .int (nI ch))]) hx hb dM_isPlain_1 rfl hl (by decide) rfl (fun ls hl => ?_)
  refine lv_iconst (v := nI 0) hx hb dM_isPlain_2 (by decide) ?_
  refine lv_istore_n (lv' := [(3, .int (nI 0)), (2, .int (nI 1)), (0, .ref (a 0)), (1, .int (nI ch))]) hx hb dM_isPlain_3 rfl hl (by decide) rfl (fun ls hl => ?_)
  have ebt : nI 1 = bI true := rfl
  rw [ebt] at hl
  have loop : ∀ (fu i : Nat), i ≤ mn ch → mn ch < i + fu → ∀ ls : Array Slot, lv_has ls 4 [(3, .int (nI i)), (2, .int (bI (!(anyN (fun i => (qF up rw ch) i != 0) i)))), (1, .int (nI ch)), (0, .ref (a 0))] → W p l e (headSpec (.code yM_isPlain cM_isPlain 4 (some .boolean) :: gT) ({ frames := 2, cells := 0, slots := 0, locals := 58 })).room s m ([.ref (a 0), .int (nI ch)] : List Value).toArray below meth c s.heap [] 0 0 (MQ below (vp_Si (fun r => r = bI (canN (qS so ch) (qF pe rw ch) (qF up rw ch) (mn ch)))) ([.ref (a 0), .int (nI ch)] : List Value).toArray s 0 0 (fun _ => False)) (F0 m 4 ls []) := by
    intro fu
    induction fu with
    | zero => intro i h1 h2; exact absurd h2 (by omega)
    | succ fu ih =>
      intro i hi hf  ls hl
      refine lv_iload_n hx hb dM_isPlain_4 rfl (lv_at hl 0 rfl) ?_
      refine lv_aload_n hx hb dM_isPlain_5 rfl (lv_at hl 3 rfl) ?_
      refine g_get (cl := vwCl) (ci := 3) (v := .ref (a 7)) hx hb hts inM hown hK (hM.nth 0 rfl) rfl 9 (by decide) (hts _ tb_309) rfl dM_isPlain_6 ?_
      refine lv_iload_n hx hb dM_isPlain_9 rfl (lv_at hl 2 rfl) ?_
      refine g_ialdv (v := nI (mn ch)) hx hb hK 4 (hM.nth 7 rfl) rfl (by omega) (by decide) (rfl) dM_isPlain_10 ?_
      refine n_icmp_ge (tgt := 51) hx hb (by omega) (by omega) dM_isPlain_11 (by decide) (fun hc => ?_) (fun hc => ?_)
      · obtain hi2 : i = mn ch := by omega
        subst hi2
        refine lv_iload_n hx hb dM_isPlain_51 rfl (lv_at hl 1 rfl) ?_
        refine b_if_eq (tgt := 75) hx hb dM_isPlain_52 (by decide) (fun hc3 => ?_) (fun hc3 => ?_)
        · refine lv_iconst (v := nI 0) hx hb dM_isPlain_75 (by decide) ?_
          exact W.zret (v := nI 0) (ty := .boolean) hx hb hr (by decide) (fun t ht hW => ⟨_, rfl, by rw [show canN (qS so ch) (qF pe rw ch) (qF up rw ch) (mn ch) = false by simp [canN, hc3]]; rfl, ht⟩) t_nil dM_isPlain_76
        · refine lv_aload_n hx hb dM_isPlain_55 rfl (lv_at hl 3 rfl) ?_
          refine lv_iload_n hx hb dM_isPlain_56 rfl (lv_at hl 2 rfl) ?_
          refine lv_iconst (v := nI 0) hx hb dM_isPlain_57 (by decide) ?_
          have ebf : nI 0 = bI false := rfl
          rw [ebf]
          refine lv_ldc2 (v := lN 20001) hx hb hown (hts _ tb_427) dM_isPlain_58 ?_
          refine vp_callSl (va_Run.run (va_runV (As := [.int (nI ch), .int (bI false), .long (lN 20001)]) (rest := []) ⟨hx, hb, hml, hown, hts⟩ (m_common l D ka s.heap a tv np nc pe an up dn rw so mn wd wv ch false 20001 hM hO hc1 hc2 (by omega) (by omega) hal) (cw_V 3 hts tb_415 rfl rfl tb_412 tb_2 tb_414 ts_26 (by decide +kernel) ⟨Nat.le_of_ble_eq_true rfl, Nat.le_of_ble_eq_true rfl⟩) (ro_V (ci := 3) hK hN (hM.nth 0 rfl) rfl) rfl rfl hl.1 rfl (lv_room (Nat.le_of_ble_eq_true rfl)) dM_isPlain_61 ⟨Nat.zero_le _, Nat.zero_le _⟩)) (fun r er => ?_)
          subst er
          have hcin := cyM_in (B := 20001) (by decide) (sel := fun i => (qS so ch) i || false) (T := (qF pe rw ch)) (mn ch) hal
          refine lv_ldc2 (v := lN 20000) hx hb hown (hts _ tb_347) dM_isPlain_64 ?_
          refine n_lcmp_gt (tgt := 75) hx hb (by omega) (by omega) dM_isPlain_67 dM_isPlain_68 (by decide) (fun hc4 => ?_) (fun hc4 => ?_)
          · refine lv_iconst (v := nI 0) hx hb dM_isPlain_75 (by decide) ?_
            exact W.zret (v := nI 0) (ty := .boolean) hx hb hr (by decide) (fun t ht hW => ⟨_, rfl, by rw [canN_no (Nat.lt_of_not_le (fun q => absurd (hcl.mpr q) (by omega)))]; rfl, ht⟩) t_nil dM_isPlain_76
          · refine lv_iconst (v := nI 1) hx hb dM_isPlain_71 (by decide) ?_
            refine lv_goto (tgt := 76) hx hb dM_isPlain_72 (by decide) ?_
            exact W.zret (v := nI 1) (ty := .boolean) hx hb hr (by decide) (fun t ht hW => ⟨_, rfl, by rw [canN_yes hc3 (hcl.mp hc4)]; rfl, ht⟩) t_nil dM_isPlain_76
      · have hR := hO.row hc1 hc2 hc
        refine lv_iload_n hx hb dM_isPlain_14 rfl (lv_at hl 1 rfl) ?_
        refine b_if_eq (tgt := 43) hx hb dM_isPlain_15 (by decide) (fun hc3 => ?_) (fun hc3 => ?_)
        · refine lv_iconst (v := nI 0) hx hb dM_isPlain_43 (by decide) ?_
          refine lv_istore_n (lv' := [(2, .int (nI 0)), (3, .int (nI i)), (1, .int (nI ch)), (0, .ref (a 0))]) hx hb dM_isPlain_44 rfl hl (by decide) rfl (fun ls hl => ?_)
          refine lv_iinc (v := nI (i + 1)) (lv' := [(3, .int (nI (i + 1))), (2, .int (nI 0)), (1, .int (nI ch)), (0, .ref (a 0))]) hx hb dM_isPlain_45 hl (k := 1) rfl (nI_add i 1) (by decide) rfl (fun ls hl => ?_)
          refine lv_goto (tgt := 4) hx hb dM_isPlain_48 (by decide) ?_
          have e1 : bI (!(anyN (fun i => (qF up rw ch) i != 0) (i + 1))) = nI 0 := by rw [show (!(anyN (fun i => (qF up rw ch) i != 0) (i + 1))) = false by simp [anyN]; intro h9; simp [h9] at hc3]; rfl
          exact ih (i + 1) (by omega) (by omega) ls (by rw [e1]; exact lv_sub hl [0, 1, 2, 3] rfl)
        · have hu : up (rw ((12 * ch) + i)) ≤ 1000000 := by have h9 := hR.2.2.2.1; have h8 := hR.2.2.2.2.1; simp only [qF] at h9 h8; omega
          refine lv_aload_n hx hb dM_isPlain_18 rfl (lv_at hl 3 rfl) ?_
          refine g_get (cl := vwCl) (ci := 3) (v := .ref (a 3)) hx hb hts inM hown hK (hM.nth 0 rfl) rfl 4 (by decide) (hts _ tb_304) rfl dM_isPlain_19 ?_
          refine lv_aload_n hx hb dM_isPlain_22 rfl (lv_at hl 3 rfl) ?_
          refine g_get (cl := vwCl) (ci := 3) (v := .ref (a 5)) hx hb hts inM hown hK (hM.nth 0 rfl) rfl 7 (by decide) (hts _ tb_307) rfl dM_isPlain_23 ?_
          refine lv_bipush (v := nI 12) hx hb dM_isPlain_26 (by decide) ?_
          refine lv_iload_n hx hb dM_isPlain_28 rfl (lv_at hl 2 rfl) ?_
          refine n_imul hx hb dM_isPlain_29 ?_
          refine lv_iload_n hx hb dM_isPlain_30 rfl (lv_at hl 0 rfl) ?_
          refine n_iadd hx hb dM_isPlain_31 ?_
          refine g_ialdv (v := nI (rw ((12 * ch) + i))) hx hb hK 4 (hM.nth 5 rfl) rfl (by omega) (by decide) (rfl) dM_isPlain_32 ?_
          refine g_laldv (v := lN (up (rw ((12 * ch) + i)))) hx hb hK 3 (hM.nth 3 rfl) rfl (by omega) (by decide) (rfl) dM_isPlain_33 ?_
          refine lv_lconst (v := lN 0) hx hb dM_isPlain_34 rfl ?_
          refine n_lcmp_ne (tgt := 43) hx hb (by omega) (by omega) dM_isPlain_35 dM_isPlain_36 (by decide) (fun hc4 => ?_) (fun hc4 => ?_)
          · refine lv_iconst (v := nI 0) hx hb dM_isPlain_43 (by decide) ?_
            refine lv_istore_n (lv' := [(2, .int (nI 0)), (3, .int (nI i)), (1, .int (nI ch)), (0, .ref (a 0))]) hx hb dM_isPlain_44 rfl hl (by decide) rfl (fun ls hl => ?_)
            refine lv_iinc (v := nI (i + 1)) (lv' := [(3, .int (nI (i + 1))), (2, .int (nI 0)), (1, .int (nI ch)), (0, .ref (a 0))]) hx hb dM_isPlain_45 hl (k := 1) rfl (nI_add i 1) (by decide) rfl (fun ls hl => ?_)
            refine lv_goto (tgt := 4) hx hb dM_isPlain_48 (by decide) ?_
            have e1 : bI (!(anyN (fun i => (qF up rw ch) i != 0) (i + 1))) = nI 0 := by rw [show (!(anyN (fun i => (qF up rw ch) i != 0) (i + 1))) = false by simp [anyN, qF, hc4]]; rfl
            exact ih (i + 1) (by omega) (by omega) ls (by rw [e1]; exact lv_sub hl [0, 1, 2, 3] rfl)
          · refine lv_iconst (v := nI 1) hx hb dM_isPlain_39 (by decide) ?_
            refine lv_goto (tgt := 44) hx hb dM_isPlain_40 (by decide) ?_
            refine lv_istore_n (lv' := [(2, .int (nI 1)), (3, .int (nI i)), (1, .int (nI ch)), (0, .ref (a 0))]) hx hb dM_isPlain_44 rfl hl (by decide) rfl (fun ls hl => ?_)
            refine lv_iinc (v := nI (i + 1)) (lv' := [(3, .int (nI (i + 1))), (2, .int (nI 1)), (1, .int (nI ch)), (0, .ref (a 0))]) hx hb dM_isPlain_45 hl (k := 1) rfl (nI_add i 1) (by decide) rfl (fun ls hl => ?_)
            refine lv_goto (tgt := 4) hx hb dM_isPlain_48 (by decide) ?_
            have e1 : bI (!(anyN (fun i => (qF up rw ch) i != 0) (i + 1))) = nI 1 := by rw [show (!(anyN (fun i => (qF up rw ch) i != 0) (i + 1))) = true by simp only [anyN]; rw [show (anyN (fun i => (qF up rw ch) i != 0) i) = false by simpa using hc3]; simp [qF, hc4]]; rfl
            exact ih (i + 1) (by omega) (by omega) ls (by rw [e1]; exact lv_sub hl [0, 1, 2, 3] rfl)
  exact loop (mn ch + 1) 0 (by omega) (by omega) ls (lv_sub hl [0, 1, 3, 2] rfl)
end
section
set_option maxHeartbeats 4000000 in
set_option maxRecDepth 100000 in
theorem n_thrown (l : Launch) (D : va_G) (ka : Nat → ClassId) (H0 : Heap) (a : Nat → Nat) (tv np nc : Nat) (pe an up dn rw : Nat → Nat) (so : Nat → Bool) (mn : Nat → Nat) (wd : Nat → Bool) (wv : Nat → Int64)  (hM : va_P D vwCl (mW ka a tv np nc pe an up dn rw so mn wd wv) H0) (hO : mOk np nc pe an up dn rw so mn wd wv) (haI : ∀ i j, i < 10 → j < 10 → a i = a j → i = j)  : Met l yM_thrown (.code yM_thrown cM_thrown 1 (some .int) :: gT) ({ frames := 0, cells := 0, slots := 0, locals := 0 }) (ro_Pc D vwCl (tyL ka) H0 [.ref (a 0)]) (va_Qi (fun (r : Int32) (u : Unit) => r = nI tv) (fun u t => va_P D vwCl (mW ka a tv np nc pe an up dn rw so mn wd wv) t.heap) (mA a)) 0 0 (mA a) := by
  refine Met.ofW (cc := cM_thrown) (maxL := 1) (ret := (some .int)) (by decide) rfl ?_
  intro p e s m args below meth c s₁ B hml hv
  obtain ⟨rfl, hH, hK, hN⟩ := hv
  subst hH
  have hx := B.exec
  have hb := B.bytes
  have hr := B.returns
  have hts : ∀ w ∈ gT, w.before ([.ref (a 0)] : List Value).toArray s = true := fun w h => atoms_spec (ws := (.code yM_thrown cM_thrown 1 (some .int) :: gT)) B.pre w (List.mem_cons_of_mem _ h)
  have hown : s.vm.findClass RM = some m.cls := findClass_of_methodNamed B.named
  have hlocks := B.notSynchronized
  have hl := lv_entry ([.ref (a 0)]) (n := 1) (Nat.le_of_ble_eq_true rfl)
  rw [lg_entry_eq]
  generalize (lg_sl ([.ref (a 0)]) ++ List.replicate (1 - (lg_sl ([.ref (a 0)])).length) Slot.unset).toArray = ls at hl ⊢
  have hl : lv_has ls 1 [(0, .ref (a 0))] := hl
  have hP : va_P D vwCl (mW ka a tv np nc pe an up dn rw so mn wd wv) s.heap := hM
  have hD : va_D (mA a) (mW ka a tv np nc pe an up dn rw so mn wd wv) := mD haI
  have hS : va_S (mA a) s.heap s.heap [] := va_S.rf
  have hnp := hO.1
  have hnc := hO.2.1
  refine lv_aload_n hx hb dM_thrown_0 rfl (lv_at hl 0 rfl) ?_
  refine g_get (cl := vwCl) (ci := 3) (v := .int (nI tv)) hx hb hts inM hown hK (hP.nth 0 rfl) rfl 0 (by decide) (hts _ tb_300) rfl dM_thrown_1 ?_
  exact W.iret (v := nI tv) hx hb hr (fun t ht hW => ⟨⟨_, (), rfl, rfl, by show va_P D vwCl _ t.heap; rw [ht]; exact hP⟩, hS.F ht⟩) hS.2.2 dM_thrown_4
set_option maxHeartbeats 4000000 in
set_option maxRecDepth 100000 in
theorem n_piece (l : Launch) (D : va_G) (ka : Nat → ClassId) (H0 : Heap) (a : Nat → Nat) (tv np nc : Nat) (pe an up dn rw : Nat → Nat) (so : Nat → Bool) (mn : Nat → Nat) (wd : Nat → Bool) (wv : Nat → Int64) (kd : Int32) (x y : Int64) (hM : va_P D vwCl (mW ka a tv np nc pe an up dn rw so mn wd wv) H0) (hO : mOk np nc pe an up dn rw so mn wd wv) (haI : ∀ i j, i < 10 → j < 10 → a i = a j → i = j)  : Met l yM_piece (.code yM_piece cM_piece 6 (some .int) :: gT) ({ frames := 0, cells := 0, slots := 0, locals := 0 }) (ro_Pc D vwCl (tyL ka) H0 [.ref (a 0), .int kd, .long x, .long y]) (va_Qi (fun (r : Int32) (u : MSt) => (u, r) = opPiece np nc pe an up dn rw so mn wd wv kd x y) (fun u t => va_P D vwCl (mWs ka a 0 u) t.heap) (mA a)) 0 0 (mA a) := by
  refine Met.ofW (cc := cM_piece) (maxL := 6) (ret := (some .int)) (by decide) rfl ?_
  intro p e s m args below meth c s₁ B hml hv
  obtain ⟨rfl, hH, hK, hN⟩ := hv
  subst hH
  have hx := B.exec
  have hb := B.bytes
  have hr := B.returns
  have hts : ∀ w ∈ gT, w.before ([.ref (a 0), .int kd, .long x, .long y] : List Value).toArray s = true := fun w h => atoms_spec (ws := (.code yM_piece cM_piece 6 (some .int) :: gT)) B.pre w (List.mem_cons_of_mem _ h)
  have hown : s.vm.findClass RM = some m.cls := findClass_of_methodNamed B.named
  have hlocks := B.notSynchronized
  have hl := lv_entry ([.ref (a 0), .int kd, .long x, .long y]) (n := 6) (Nat.le_of_ble_eq_true rfl)
  rw [lg_entry_eq]
  generalize (lg_sl ([.ref (a 0), .int kd, .long x, .long y]) ++ List.replicate (6 - (lg_sl ([.ref (a 0), .int kd, .long x, .long y])).length) Slot.unset).toArray = ls at hl ⊢
  have hl : lv_has ls 6 [(0, .ref (a 0)), (1, .int kd), (2, .long x), (4, .long y)] := hl
  have hP : va_P D vwCl (mW ka a tv np nc pe an up dn rw so mn wd wv) s.heap := hM
  have hD : va_D (mA a) (mW ka a tv np nc pe an up dn rw so mn wd wv) := mD haI
  have hS : va_S (mA a) s.heap s.heap [] := va_S.rf
  have hnp := hO.1
  have hnc := hO.2.1
  have z2 : (nI 2).toInt = 2 := by decide +kernel
  have z0 : (lN 0).toInt = 0 := by decide +kernel
  have zb : (lN 20000).toInt = 20000 := by decide +kernel
  refine lv_aload_n hx hb dM_piece_0 rfl (lv_at hl 0 rfl) ?_
  refine lv_iconst (v := nI 0) hx hb dM_piece_1 (by decide) ?_
  refine va_put (D := D) (cl := vwCl) (ci := 3) (v := .int (nI 0)) (ty := .int) (C := RM) (T := TM) (N := 12) hx hb hts inM tyM tyM_ok nmM hown hK hP hD hS 0 rfl rfl 0 (by decide) (hts _ tb_300) (fun _ h9 => h9) rfl (by decide +kernel) rfl rfl (Nat.le_of_ble_eq_true rfl) dM_piece_2 (fun H locs hP hD hS => ?_)
  have hP : va_P D vwCl (mW ka a 0 np nc pe an up dn rw so mn wd wv) H := hP
  have hD : va_D (mA a) (mW ka a 0 np nc pe an up dn rw so mn wd wv) := hD
  refine lv_iload_n hx hb dM_piece_5 rfl (lv_at hl 1 rfl) ?_
  refine r_if_lt (tgt := 44) hx hb dM_piece_6 (by decide) (fun q1 => ?_) (fun q1 => ?_)
  · refine lv_bipush (v := (-2)) hx hb dM_piece_44 (by decide) ?_
    exact W.iret (v := (-2)) hx hb hr (fun t ht hW => ⟨⟨_, (mkM np nc pe an up dn rw so mn wd wv), rfl, by rw [opPiece, if_pos (by omega)], by show va_P D vwCl _ t.heap; rw [ht]; exact hP⟩, hS.F ht⟩) hS.2.2 dM_piece_46
  · refine lv_iload_n hx hb dM_piece_9 rfl (lv_at hl 1 rfl) ?_
    refine lv_iconst (v := nI 2) hx hb dM_piece_10 (by decide) ?_
    refine r_icmp_gt (tgt := 44) hx hb dM_piece_11 (by decide) (fun q2 => ?_) (fun q2 => ?_)
    · refine lv_bipush (v := (-2)) hx hb dM_piece_44 (by decide) ?_
      exact W.iret (v := (-2)) hx hb hr (fun t ht hW => ⟨⟨_, (mkM np nc pe an up dn rw so mn wd wv), rfl, by rw [opPiece, if_pos (by omega)], by show va_P D vwCl _ t.heap; rw [ht]; exact hP⟩, hS.F ht⟩) hS.2.2 dM_piece_46
    · refine lv_lload_n hx hb dM_piece_14 rfl (lv_at hl 2 rfl) ?_
      refine lv_lconst (v := lN 0) hx hb dM_piece_15 rfl ?_
      refine r_lcmp_lt (tgt := 44) hx hb dM_piece_16 dM_piece_17 (by decide) (fun q3 => ?_) (fun q3 => ?_)
      · refine lv_bipush (v := (-2)) hx hb dM_piece_44 (by decide) ?_
        exact W.iret (v := (-2)) hx hb hr (fun t ht hW => ⟨⟨_, (mkM np nc pe an up dn rw so mn wd wv), rfl, by rw [opPiece, if_pos (by omega)], by show va_P D vwCl _ t.heap; rw [ht]; exact hP⟩, hS.F ht⟩) hS.2.2 dM_piece_46
      · refine lv_lload_n hx hb dM_piece_20 rfl (lv_at hl 2 rfl) ?_
        refine lv_ldc2 (v := lN 20000) hx hb hown (hts _ tb_347) dM_piece_21 ?_
        refine r_lcmp_gt (tgt := 44) hx hb dM_piece_24 dM_piece_25 (by decide) (fun q4 => ?_) (fun q4 => ?_)
        · refine lv_bipush (v := (-2)) hx hb dM_piece_44 (by decide) ?_
          exact W.iret (v := (-2)) hx hb hr (fun t ht hW => ⟨⟨_, (mkM np nc pe an up dn rw so mn wd wv), rfl, by rw [opPiece, if_pos (by omega)], by show va_P D vwCl _ t.heap; rw [ht]; exact hP⟩, hS.F ht⟩) hS.2.2 dM_piece_46
        · refine lv_lload hx hb dM_piece_28 (lv_at hl 3 rfl) ?_
          refine lv_lconst (v := lN 0) hx hb dM_piece_30 rfl ?_
          refine r_lcmp_lt (tgt := 44) hx hb dM_piece_31 dM_piece_32 (by decide) (fun q5 => ?_) (fun q5 => ?_)
          · refine lv_bipush (v := (-2)) hx hb dM_piece_44 (by decide) ?_
            exact W.iret (v := (-2)) hx hb hr (fun t ht hW => ⟨⟨_, (mkM np nc pe an up dn rw so mn wd wv), rfl, by rw [opPiece, if_pos (by omega)], by show va_P D vwCl _ t.heap; rw [ht]; exact hP⟩, hS.F ht⟩) hS.2.2 dM_piece_46
          · refine lv_lload hx hb dM_piece_35 (lv_at hl 3 rfl) ?_
            refine lv_ldc2 (v := lN 20000) hx hb hown (hts _ tb_347) dM_piece_37 ?_
            refine r_lcmp_le (tgt := 47) hx hb dM_piece_40 dM_piece_41 (by decide) (fun q6 => ?_) (fun q6 => ?_)
            · have hok : ¬ (kd.toInt < 0 ∨ 2 < kd.toInt ∨ x.toInt < 0 ∨ 20000 < x.toInt ∨ y.toInt < 0 ∨ 20000 < y.toInt) := by omega
              obtain ⟨ex, hx9⟩ := lon_of (x := x) (n := 20000) (by omega) (by omega)
              obtain ⟨ey, hy9⟩ := lon_of (x := y) (n := 20000) (by omega) (by omega)
              refine lv_aload_n hx hb dM_piece_47 rfl (lv_at hl 0 rfl) ?_
              refine g_get (cl := vwCl) (ci := 3) (v := .int (nI np)) hx hb hts inM hown hK (hP.nth 0 rfl) rfl 1 (by decide) (hts _ tb_301) rfl dM_piece_48 ?_
              refine lv_bipush (v := nI 30) hx hb dM_piece_51 (by decide) ?_
              refine n_icmp_ne (tgt := 59) hx hb (by omega) (by omega) dM_piece_53 (by decide) (fun q7 => ?_) (fun q7 => ?_)
              · rw [ex, ey] at hl
                have hlt : np < 30 := by omega
                refine lv_aload_n hx hb dM_piece_59 rfl (lv_at hl 0 rfl) ?_
                refine lv_dup hx hb dM_piece_60 rfl ?_
                refine g_get (cl := vwCl) (ci := 3) (v := .int (nI np)) hx hb hts inM hown hK (hP.nth 0 rfl) rfl 1 (by decide) (hts _ tb_301) rfl dM_piece_61 ?_
                refine lv_iconst (v := nI 1) hx hb dM_piece_64 (by decide) ?_
                refine n_iadd hx hb dM_piece_65 ?_
                refine va_put (D := D) (cl := vwCl) (ci := 3) (v := .int (nI (np + 1))) (ty := .int) (C := RM) (T := TM) (N := 12) hx hb hts inM tyM tyM_ok nmM hown hK hP hD hS 0 rfl rfl 1 (by decide) (hts _ tb_301) (fun _ h9 => h9) rfl (by decide +kernel) rfl rfl (Nat.le_of_ble_eq_true rfl) dM_piece_66 (fun H locs hP hD hS => ?_)
                have hP : va_P D vwCl (mW ka a 0 (np + 1) nc pe an up dn rw so mn wd wv) H := hP
                have hD : va_D (mA a) (mW ka a 0 (np + 1) nc pe an up dn rw so mn wd wv) := hD
                refine lv_aload_n hx hb dM_piece_69 rfl (lv_at hl 0 rfl) ?_
                refine g_get (cl := vwCl) (ci := 3) (v := .ref (a 1)) hx hb hts inM hown hK (hP.nth 0 rfl) rfl 2 (by decide) (hts _ tb_302) rfl dM_piece_70 ?_
                refine lv_aload_n hx hb dM_piece_73 rfl (lv_at hl 0 rfl) ?_
                refine g_get (cl := vwCl) (ci := 3) (v := .int (nI (np + 1))) hx hb hts inM hown hK (hP.nth 0 rfl) rfl 1 (by decide) (hts _ tb_301) rfl dM_piece_74 ?_
                refine lv_lload_n hx hb dM_piece_77 rfl (lv_at hl 2 rfl) ?_
                refine g_last hx hb hK hP hD hS 1 3 rfl rfl (by omega) (by decide) upL dM_piece_78 (fun H locs hP hD hS => ?_)
                have hP : va_P D vwCl (mW ka a 0 (np + 1) nc (va_up pe (np + 1) (x.toInt.toNat)) an up dn rw so mn wd wv) H := hP
                have hD : va_D (mA a) (mW ka a 0 (np + 1) nc (va_up pe (np + 1) (x.toInt.toNat)) an up dn rw so mn wd wv) := hD
                refine lv_aload_n hx hb dM_piece_79 rfl (lv_at hl 0 rfl) ?_
                refine g_get (cl := vwCl) (ci := 3) (v := .ref (a 2)) hx hb hts inM hown hK (hP.nth 0 rfl) rfl 3 (by decide) (hts _ tb_303) rfl dM_piece_80 ?_
                refine lv_aload_n hx hb dM_piece_83 rfl (lv_at hl 0 rfl) ?_
                refine g_get (cl := vwCl) (ci := 3) (v := .int (nI (np + 1))) hx hb hts inM hown hK (hP.nth 0 rfl) rfl 1 (by decide) (hts _ tb_301) rfl dM_piece_84 ?_
                refine lv_lload hx hb dM_piece_87 (lv_at hl 3 rfl) ?_
                refine g_last hx hb hK hP hD hS 2 3 rfl rfl (by omega) (by decide) upL dM_piece_89 (fun H locs hP hD hS => ?_)
                have hP : va_P D vwCl (mW ka a 0 (np + 1) nc (va_up pe (np + 1) (x.toInt.toNat)) (va_up an (np + 1) (y.toInt.toNat)) up dn rw so mn wd wv) H := hP
                have hD : va_D (mA a) (mW ka a 0 (np + 1) nc (va_up pe (np + 1) (x.toInt.toNat)) (va_up an (np + 1) (y.toInt.toNat)) up dn rw so mn wd wv) := hD
                refine lv_aload_n hx hb dM_piece_90 rfl (lv_at hl 0 rfl) ?_
                refine g_get (cl := vwCl) (ci := 3) (v := .ref (a 3)) hx hb hts inM hown hK (hP.nth 0 rfl) rfl 4 (by decide) (hts _ tb_304) rfl dM_piece_91 ?_
                refine lv_aload_n hx hb dM_piece_94 rfl (lv_at hl 0 rfl) ?_
                refine g_get (cl := vwCl) (ci := 3) (v := .int (nI (np + 1))) hx hb hts inM hown hK (hP.nth 0 rfl) rfl 1 (by decide) (hts _ tb_301) rfl dM_piece_95 ?_
                refine lv_lconst (v := lN 0) hx hb dM_piece_98 rfl ?_
                refine g_last hx hb hK hP hD hS 3 3 rfl rfl (by omega) (by decide) upL dM_piece_99 (fun H locs hP hD hS => ?_)
                have hP : va_P D vwCl (mW ka a 0 (np + 1) nc (va_up pe (np + 1) (x.toInt.toNat)) (va_up an (np + 1) (y.toInt.toNat)) (va_up up (np + 1) 0) dn rw so mn wd wv) H := hP
                have hD : va_D (mA a) (mW ka a 0 (np + 1) nc (va_up pe (np + 1) (x.toInt.toNat)) (va_up an (np + 1) (y.toInt.toNat)) (va_up up (np + 1) 0) dn rw so mn wd wv) := hD
                refine lv_aload_n hx hb dM_piece_100 rfl (lv_at hl 0 rfl) ?_
                refine g_get (cl := vwCl) (ci := 3) (v := .ref (a 4)) hx hb hts inM hown hK (hP.nth 0 rfl) rfl 5 (by decide) (hts _ tb_305) rfl dM_piece_101 ?_
                refine lv_aload_n hx hb dM_piece_104 rfl (lv_at hl 0 rfl) ?_
                refine g_get (cl := vwCl) (ci := 3) (v := .int (nI (np + 1))) hx hb hts inM hown hK (hP.nth 0 rfl) rfl 1 (by decide) (hts _ tb_301) rfl dM_piece_105 ?_
                refine lv_lconst (v := lN 1) hx hb dM_piece_108 rfl ?_
                refine g_last hx hb hK hP hD hS 4 3 rfl rfl (by omega) (by decide) upL dM_piece_109 (fun H locs hP hD hS => ?_)
                have hP : va_P D vwCl (mW ka a 0 (np + 1) nc (va_up pe (np + 1) (x.toInt.toNat)) (va_up an (np + 1) (y.toInt.toNat)) (va_up up (np + 1) 0) (va_up dn (np + 1) 1) rw so mn wd wv) H := hP
                have hD : va_D (mA a) (mW ka a 0 (np + 1) nc (va_up pe (np + 1) (x.toInt.toNat)) (va_up an (np + 1) (y.toInt.toNat)) (va_up up (np + 1) 0) (va_up dn (np + 1) 1) rw so mn wd wv) := hD
                refine lv_aload_n hx hb dM_piece_110 rfl (lv_at hl 0 rfl) ?_
                refine g_get (cl := vwCl) (ci := 3) (v := .int (nI (np + 1))) hx hb hts inM hown hK (hP.nth 0 rfl) rfl 1 (by decide) (hts _ tb_301) rfl dM_piece_111 ?_
                exact W.iret (v := nI (np + 1)) hx hb hr (fun t ht hW => ⟨⟨_, (mkM (np + 1) nc (va_up pe (np + 1) (x.toInt.toNat)) (va_up an (np + 1) (y.toInt.toNat)) (va_up up (np + 1) 0) (va_up dn (np + 1) 1) rw so mn wd wv), rfl, by rw [opPiece, if_neg hok, if_neg (by omega)], by show va_P D vwCl _ t.heap; rw [ht]; exact hP⟩, hS.F ht⟩) hS.2.2 dM_piece_114
              · refine lv_bipush (v := (-4)) hx hb dM_piece_56 (by decide) ?_
                exact W.iret (v := (-4)) hx hb hr (fun t ht hW => ⟨⟨_, (mkM np nc pe an up dn rw so mn wd wv), rfl, by rw [opPiece, if_neg hok, if_pos (by omega)], by show va_P D vwCl _ t.heap; rw [ht]; exact hP⟩, hS.F ht⟩) hS.2.2 dM_piece_58
            · refine lv_bipush (v := (-2)) hx hb dM_piece_44 (by decide) ?_
              exact W.iret (v := (-2)) hx hb hr (fun t ht hW => ⟨⟨_, (mkM np nc pe an up dn rw so mn wd wv), rfl, by rw [opPiece, if_pos (by omega)], by show va_P D vwCl _ t.heap; rw [ht]; exact hP⟩, hS.F ht⟩) hS.2.2 dM_piece_46
set_option maxHeartbeats 4000000 in
set_option maxRecDepth 100000 in
theorem n_chain (l : Launch) (D : va_G) (ka : Nat → ClassId) (H0 : Heap) (a : Nat → Nat) (tv np nc : Nat) (pe an up dn rw : Nat → Nat) (so : Nat → Bool) (mn : Nat → Nat) (wd : Nat → Bool) (wv : Nat → Int64)  (hM : va_P D vwCl (mW ka a tv np nc pe an up dn rw so mn wd wv) H0) (hO : mOk np nc pe an up dn rw so mn wd wv) (haI : ∀ i j, i < 10 → j < 10 → a i = a j → i = j)  : Met l yM_chain (.code yM_chain cM_chain 1 (some .int) :: gT) ({ frames := 0, cells := 0, slots := 0, locals := 0 }) (ro_Pc D vwCl (tyL ka) H0 [.ref (a 0)]) (va_Qi (fun (r : Int32) (u : MSt) => (u, r) = opChain np nc pe an up dn rw so mn wd wv) (fun u t => va_P D vwCl (mWs ka a 0 u) t.heap) (mA a)) 0 0 (mA a) := by
  refine Met.ofW (cc := cM_chain) (maxL := 1) (ret := (some .int)) (by decide) rfl ?_
  intro p e s m args below meth c s₁ B hml hv
  obtain ⟨rfl, hH, hK, hN⟩ := hv
  subst hH
  have hx := B.exec
  have hb := B.bytes
  have hr := B.returns
  have hts : ∀ w ∈ gT, w.before ([.ref (a 0)] : List Value).toArray s = true := fun w h => atoms_spec (ws := (.code yM_chain cM_chain 1 (some .int) :: gT)) B.pre w (List.mem_cons_of_mem _ h)
  have hown : s.vm.findClass RM = some m.cls := findClass_of_methodNamed B.named
  have hlocks := B.notSynchronized
  have hl := lv_entry ([.ref (a 0)]) (n := 1) (Nat.le_of_ble_eq_true rfl)
  rw [lg_entry_eq]
  generalize (lg_sl ([.ref (a 0)]) ++ List.replicate (1 - (lg_sl ([.ref (a 0)])).length) Slot.unset).toArray = ls at hl ⊢
  have hl : lv_has ls 1 [(0, .ref (a 0))] := hl
  have hP : va_P D vwCl (mW ka a tv np nc pe an up dn rw so mn wd wv) s.heap := hM
  have hD : va_D (mA a) (mW ka a tv np nc pe an up dn rw so mn wd wv) := mD haI
  have hS : va_S (mA a) s.heap s.heap [] := va_S.rf
  have hnp := hO.1
  have hnc := hO.2.1
  refine lv_aload_n hx hb dM_chain_0 rfl (lv_at hl 0 rfl) ?_
  refine lv_iconst (v := nI 0) hx hb dM_chain_1 (by decide) ?_
  refine va_put (D := D) (cl := vwCl) (ci := 3) (v := .int (nI 0)) (ty := .int) (C := RM) (T := TM) (N := 12) hx hb hts inM tyM tyM_ok nmM hown hK hP hD hS 0 rfl rfl 0 (by decide) (hts _ tb_300) (fun _ h9 => h9) rfl (by decide +kernel) rfl rfl (Nat.le_of_ble_eq_true rfl) dM_chain_2 (fun H locs hP hD hS => ?_)
  have hP : va_P D vwCl (mW ka a 0 np nc pe an up dn rw so mn wd wv) H := hP
  have hD : va_D (mA a) (mW ka a 0 np nc pe an up dn rw so mn wd wv) := hD
  refine lv_aload_n hx hb dM_chain_5 rfl (lv_at hl 0 rfl) ?_
  refine g_get (cl := vwCl) (ci := 3) (v := .int (nI nc)) hx hb hts inM hown hK (hP.nth 0 rfl) rfl 6 (by decide) (hts _ tb_306) rfl dM_chain_6 ?_
  refine lv_bipush (v := nI 20) hx hb dM_chain_9 (by decide) ?_
  refine n_icmp_ne (tgt := 17) hx hb (by omega) (by omega) dM_chain_11 (by decide) (fun q7 => ?_) (fun q7 => ?_)
  · have hlt : nc < 20 := by omega
    refine lv_aload_n hx hb dM_chain_17 rfl (lv_at hl 0 rfl) ?_
    refine lv_dup hx hb dM_chain_18 rfl ?_
    refine g_get (cl := vwCl) (ci := 3) (v := .int (nI nc)) hx hb hts inM hown hK (hP.nth 0 rfl) rfl 6 (by decide) (hts _ tb_306) rfl dM_chain_19 ?_
    refine lv_iconst (v := nI 1) hx hb dM_chain_22 (by decide) ?_
    refine n_iadd hx hb dM_chain_23 ?_
    refine va_put (D := D) (cl := vwCl) (ci := 3) (v := .int (nI (nc + 1))) (ty := .int) (C := RM) (T := TM) (N := 12) hx hb hts inM tyM tyM_ok nmM hown hK hP hD hS 0 rfl rfl 6 (by decide) (hts _ tb_306) (fun _ h9 => h9) rfl (by decide +kernel) rfl rfl (Nat.le_of_ble_eq_true rfl) dM_chain_24 (fun H locs hP hD hS => ?_)
    have hP : va_P D vwCl (mW ka a 0 np (nc + 1) pe an up dn rw so mn wd wv) H := hP
    have hD : va_D (mA a) (mW ka a 0 np (nc + 1) pe an up dn rw so mn wd wv) := hD
    refine lv_aload_n hx hb dM_chain_27 rfl (lv_at hl 0 rfl) ?_
    refine g_get (cl := vwCl) (ci := 3) (v := .int (nI (nc + 1))) hx hb hts inM hown hK (hP.nth 0 rfl) rfl 6 (by decide) (hts _ tb_306) rfl dM_chain_28 ?_
    exact W.iret (v := nI (nc + 1)) hx hb hr (fun t ht hW => ⟨⟨_, (mkM np (nc + 1) pe an up dn rw so mn wd wv), rfl, by rw [opChain, if_neg (by omega)], by show va_P D vwCl _ t.heap; rw [ht]; exact hP⟩, hS.F ht⟩) hS.2.2 dM_chain_31
  · refine lv_bipush (v := (-4)) hx hb dM_chain_14 (by decide) ?_
    exact W.iret (v := (-4)) hx hb hr (fun t ht hW => ⟨⟨_, (mkM np nc pe an up dn rw so mn wd wv), rfl, by rw [opChain, if_pos (by omega)], by show va_P D vwCl _ t.heap; rw [ht]; exact hP⟩, hS.F ht⟩) hS.2.2 dM_chain_16
set_option maxHeartbeats 4000000 in
set_option maxRecDepth 100000 in
theorem n_add (l : Launch) (D : va_G) (ka : Nat → ClassId) (H0 : Heap) (a : Nat → Nat) (tv np nc : Nat) (pe an up dn rw : Nat → Nat) (so : Nat → Bool) (mn : Nat → Nat) (wd : Nat → Bool) (wv : Nat → Int64) (x y : Int32) (tr : Bool) (hM : va_P D vwCl (mW ka a tv np nc pe an up dn rw so mn wd wv) H0) (hO : mOk np nc pe an up dn rw so mn wd wv) (haI : ∀ i j, i < 10 → j < 10 → a i = a j → i = j)  : Met l yM_add (.code yM_add cM_add 6 (some .int) :: gT) ({ frames := 1, cells := 0, slots := 0, locals := 21 }) (ro_Pc D vwCl (tyL ka) H0 [.ref (a 0), .int x, .int y, .int (bI tr)]) (va_Qi (fun (r : Int32) (u : MSt) => (u, r) = opAdd np nc pe an up dn rw so mn wd wv x y tr) (fun u t => va_P D vwCl (mWs ka a 0 u) t.heap) (mA a)) 0 0 (mA a) := by
  refine Met.ofW (cc := cM_add) (maxL := 6) (ret := (some .int)) (by decide) rfl ?_
  intro p e s m args below meth c s₁ B hml hv
  obtain ⟨rfl, hH, hK, hN⟩ := hv
  subst hH
  have hx := B.exec
  have hb := B.bytes
  have hr := B.returns
  have hts : ∀ w ∈ gT, w.before ([.ref (a 0), .int x, .int y, .int (bI tr)] : List Value).toArray s = true := fun w h => atoms_spec (ws := (.code yM_add cM_add 6 (some .int) :: gT)) B.pre w (List.mem_cons_of_mem _ h)
  have hown : s.vm.findClass RM = some m.cls := findClass_of_methodNamed B.named
  have hlocks := B.notSynchronized
  have hl := lv_entry ([.ref (a 0), .int x, .int y, .int (bI tr)]) (n := 6) (Nat.le_of_ble_eq_true rfl)
  rw [lg_entry_eq]
  generalize (lg_sl ([.ref (a 0), .int x, .int y, .int (bI tr)]) ++ List.replicate (6 - (lg_sl ([.ref (a 0), .int x, .int y, .int (bI tr)])).length) Slot.unset).toArray = ls at hl ⊢
  have hl : lv_has ls 6 [(0, .ref (a 0)), (1, .int x), (2, .int y), (3, .int (bI tr))] := hl
  have hP : va_P D vwCl (mW ka a tv np nc pe an up dn rw so mn wd wv) s.heap := hM
  have hD : va_D (mA a) (mW ka a tv np nc pe an up dn rw so mn wd wv) := mD haI
  have hS : va_S (mA a) s.heap s.heap [] := va_S.rf
  have hnp := hO.1
  have hnc := hO.2.1
  refine lv_aload_n hx hb dM_add_0 rfl (lv_at hl 0 rfl) ?_
  refine lv_iconst (v := nI 0) hx hb dM_add_1 (by decide) ?_
  refine va_put (D := D) (cl := vwCl) (ci := 3) (v := .int (nI 0)) (ty := .int) (C := RM) (T := TM) (N := 12) hx hb hts inM tyM tyM_ok nmM hown hK hP hD hS 0 rfl rfl 0 (by decide) (hts _ tb_300) (fun _ h9 => h9) rfl (by decide +kernel) rfl rfl (Nat.le_of_ble_eq_true rfl) dM_add_2 (fun H locs hP hD hS => ?_)
  have hP : va_P D vwCl (mW ka a 0 np nc pe an up dn rw so mn wd wv) H := hP
  have hD : va_D (mA a) (mW ka a 0 np nc pe an up dn rw so mn wd wv) := hD
  refine lv_aload_n hx hb dM_add_5 rfl (lv_at hl 0 rfl) ?_
  refine lv_iload_n hx hb dM_add_6 rfl (lv_at hl 1 rfl) ?_
  refine vp_callSi (va_Run.run (va_runV (As := [.int x]) (rest := []) ⟨hx, hb, hml, hown, hts⟩ (m_noChain l D ka H a 0 np nc pe an up dn rw so mn wd wv x hP hO) (cw_V 1 hts tb_359 rfl rfl tb_356 tb_2 tb_358 ts_19 (by decide +kernel) ⟨Nat.le_of_ble_eq_true rfl, Nat.le_of_ble_eq_true rfl⟩) (ro_V (ci := 3) hK hN (hP.nth 0 rfl) rfl) rfl rfl hl.1 rfl (lv_room (Nat.le_of_ble_eq_true rfl)) dM_add_7 ⟨Nat.zero_le _, Nat.zero_le _⟩)) (fun r er => ?_)
  subst er
  refine b_if_ne (tgt := 21) hx hb dM_add_10 (by decide) (fun q1 => ?_) (fun q1 => ?_)
  · refine lv_iconst (v := (-1)) hx hb dM_add_21 (by decide) ?_
    exact W.iret (v := (-1)) hx hb hr (fun t ht hW => ⟨⟨_, (mkM np nc pe an up dn rw so mn wd wv), rfl, by rw [opAdd, if_pos (by rw [q1]; rfl)], by show va_P D vwCl _ t.heap; rw [ht]; exact hP⟩, hS.F ht⟩) hS.2.2 dM_add_22
  · refine lv_aload_n hx hb dM_add_13 rfl (lv_at hl 0 rfl) ?_
    refine lv_iload_n hx hb dM_add_14 rfl (lv_at hl 2 rfl) ?_
    refine vp_callSi (va_Run.run (va_runV (As := [.int y]) (rest := []) ⟨hx, hb, hml, hown, hts⟩ (m_noPiece l D ka H a 0 np nc pe an up dn rw so mn wd wv y hP hO) (cw_V 1 hts tb_363 rfl rfl tb_360 tb_2 tb_362 ts_20 (by decide +kernel) ⟨Nat.le_of_ble_eq_true rfl, Nat.le_of_ble_eq_true rfl⟩) (ro_V (ci := 3) hK hN (hP.nth 0 rfl) rfl) rfl rfl hl.1 rfl (lv_room (Nat.le_of_ble_eq_true rfl)) dM_add_15 ⟨Nat.zero_le _, Nat.zero_le _⟩)) (fun r er => ?_)
    subst er
    refine b_if_eq (tgt := 23) hx hb dM_add_18 (by decide) (fun q2 => ?_) (fun q2 => ?_)
    · have hno : ¬ (cNo x nc || cNo y np) = true := by rw [q1, q2]; decide
      obtain ⟨ex1, hc11, hc21⟩ := cNo_nI q1
      rw [ex1] at hl
      obtain ⟨ex2, hc12, hc22⟩ := cNo_nI q2
      rw [ex2] at hl
      have hmn := (hO.2.2.2.1 x.toInt.toNat hc11 hc21).1
      have hpb := hO.2.2.1 y.toInt.toNat hc12 hc22
      refine lv_aload_n hx hb dM_add_23 rfl (lv_at hl 0 rfl) ?_
      refine g_get (cl := vwCl) (ci := 3) (v := .ref (a 7)) hx hb hts inM hown hK (hP.nth 0 rfl) rfl 9 (by decide) (hts _ tb_309) rfl dM_add_24 ?_
      refine lv_iload_n hx hb dM_add_27 rfl (lv_at hl 1 rfl) ?_
      refine g_ialdv (v := nI (mn (x.toInt.toNat))) hx hb hK 4 (hP.nth 7 rfl) rfl (by omega) (by decide) (rfl) dM_add_28 ?_
      refine n_if_eq (tgt := 36) hx hb (by omega) dM_add_29 (by decide) (fun q3 => ?_) (fun q3 => ?_)
      · have hsm : (mn x.toInt.toNat == 0 || !tr) = true := by rw [show (mn x.toInt.toNat == 0) = true from beq_iff_eq.mpr q3]; rfl
        refine lv_iconst (v := nI 1) hx hb dM_add_36 (by decide) ?_
        refine lv_goto (tgt := 41) hx hb dM_add_37 (by decide) ?_
        refine lv_istore (lv' := [(4, .int (nI 1)), (0, .ref (a 0)), (1, .int (nI (x.toInt.toNat))), (2, .int (nI (y.toInt.toNat))), (3, .int (bI tr))]) hx hb dM_add_41 hl (by decide) rfl (fun ls hl => ?_)
        have eb : nI 1 = bI true := rfl
        rw [eb] at hl
        refine lv_iload hx hb dM_add_43 (lv_at hl 0 rfl) ?_
        refine b_if_eq (tgt := 62) hx hb dM_add_45 (by decide) (fun hc7 => ?_) (fun hc7 => ?_)
        · exact Bool.noConfusion hc7
        · refine lv_aload_n hx hb dM_add_48 rfl (lv_at hl 1 rfl) ?_
          refine g_get (cl := vwCl) (ci := 3) (v := .ref (a 1)) hx hb hts inM hown hK (hP.nth 0 rfl) rfl 2 (by decide) (hts _ tb_302) rfl dM_add_49 ?_
          refine lv_iload_n hx hb dM_add_52 rfl (lv_at hl 3 rfl) ?_
          refine g_laldv (v := lN (pe (y.toInt.toNat))) hx hb hK 3 (hP.nth 1 rfl) rfl (by omega) (by decide) (rfl) dM_add_53 ?_
          refine lv_lconst (v := lN 0) hx hb dM_add_54 rfl ?_
          refine n_lcmp_ne (tgt := 62) hx hb (by omega) (by omega) dM_add_55 dM_add_56 (by decide) (fun q5 => ?_) (fun q5 => ?_)
          · have hno3 : ¬ ((mn x.toInt.toNat == 0 || !tr) && pe y.toInt.toNat == 0) = true := by rw [hsm, show (pe y.toInt.toNat == 0) = false by simpa using q5]; decide
            refine lv_aload_n hx hb dM_add_62 rfl (lv_at hl 1 rfl) ?_
            refine g_get (cl := vwCl) (ci := 3) (v := .ref (a 7)) hx hb hts inM hown hK (hP.nth 0 rfl) rfl 9 (by decide) (hts _ tb_309) rfl dM_add_63 ?_
            refine lv_iload_n hx hb dM_add_66 rfl (lv_at hl 2 rfl) ?_
            refine g_ialdv (v := nI (mn (x.toInt.toNat))) hx hb hK 4 (hP.nth 7 rfl) rfl (by omega) (by decide) (rfl) dM_add_67 ?_
            refine lv_bipush (v := nI 12) hx hb dM_add_68 (by decide) ?_
            refine n_icmp_ne (tgt := 76) hx hb (by omega) (by omega) dM_add_70 (by decide) (fun q6 => ?_) (fun q6 => ?_)
            · have hlt : mn x.toInt.toNat < 12 := by omega
              refine lv_iconst (v := nI 0) hx hb dM_add_76 (by decide) ?_
              refine lv_istore (lv' := [(5, .int (nI 0)), (4, .int (bI true)), (0, .ref (a 0)), (1, .int (nI (x.toInt.toNat))), (2, .int (nI (y.toInt.toNat))), (3, .int (bI tr))]) hx hb dM_add_77 hl (by decide) rfl (fun ls hl => ?_)
              have loop : ∀ (fu i : Nat), i ≤ mn x.toInt.toNat → mn x.toInt.toNat < i + fu → anyN (fun k => rw (12 * x.toInt.toNat + k) == y.toInt.toNat) i = false → ∀ ls : Array Slot, lv_has ls 6 [(5, .int (nI i)), (4, .int (bI true)), (1, .int (nI (x.toInt.toNat))), (2, .int (nI (y.toInt.toNat))), (0, .ref (a 0)), (3, .int (bI tr))] → W p l e (headSpec (.code yM_add cM_add 6 (some .int) :: gT) ({ frames := 1, cells := 0, slots := 0, locals := 21 })).room s m ([.ref (a 0), .int x, .int y, .int (bI tr)] : List Value).toArray below meth c H locs 0 0 (MQ below (va_Qi (fun (r : Int32) (u : MSt) => (u, r) = opAdd np nc pe an up dn rw so mn wd wv x y tr) (fun u t => va_P D vwCl (mWs ka a 0 u) t.heap) (mA a)) ([.ref (a 0), .int x, .int y, .int (bI tr)] : List Value).toArray s 0 0 (mA a)) (F0 m 79 ls []) := by
                intro fu
                induction fu with
                | zero => intro i h1 h2; exact absurd h2 (by omega)
                | succ fu ih =>
                  intro i hi hf hg0 ls hl
                  refine lv_iload hx hb dM_add_79 (lv_at hl 0 rfl) ?_
                  refine lv_aload_n hx hb dM_add_81 rfl (lv_at hl 4 rfl) ?_
                  refine g_get (cl := vwCl) (ci := 3) (v := .ref (a 7)) hx hb hts inM hown hK (hP.nth 0 rfl) rfl 9 (by decide) (hts _ tb_309) rfl dM_add_82 ?_
                  refine lv_iload_n hx hb dM_add_85 rfl (lv_at hl 2 rfl) ?_
                  refine g_ialdv (v := nI (mn (x.toInt.toNat))) hx hb hK 4 (hP.nth 7 rfl) rfl (by omega) (by decide) (rfl) dM_add_86 ?_
                  refine n_icmp_ge (tgt := 114) hx hb (by omega) (by omega) dM_add_87 (by decide) (fun hc => ?_) (fun hc => ?_)
                  · obtain hi2 : i = mn x.toInt.toNat := by omega
                    subst hi2
                    refine lv_aload_n hx hb dM_add_114 rfl (lv_at hl 4 rfl) ?_
                    refine g_get (cl := vwCl) (ci := 3) (v := .ref (a 5)) hx hb hts inM hown hK (hP.nth 0 rfl) rfl 7 (by decide) (hts _ tb_307) rfl dM_add_115 ?_
                    refine lv_bipush (v := nI 12) hx hb dM_add_118 (by decide) ?_
                    refine lv_iload_n hx hb dM_add_120 rfl (lv_at hl 2 rfl) ?_
                    refine n_imul hx hb dM_add_121 ?_
                    refine lv_aload_n hx hb dM_add_122 rfl (lv_at hl 4 rfl) ?_
                    refine g_get (cl := vwCl) (ci := 3) (v := .ref (a 7)) hx hb hts inM hown hK (hP.nth 0 rfl) rfl 9 (by decide) (hts _ tb_309) rfl dM_add_123 ?_
                    refine lv_iload_n hx hb dM_add_126 rfl (lv_at hl 2 rfl) ?_
                    refine g_ialdv (v := nI (mn (x.toInt.toNat))) hx hb hK 4 (hP.nth 7 rfl) rfl (by omega) (by decide) (rfl) dM_add_127 ?_
                    refine n_iadd hx hb dM_add_128 ?_
                    refine lv_iload_n hx hb dM_add_129 rfl (lv_at hl 3 rfl) ?_
                    refine g_iast hx hb hK hP hD hS 5 4 rfl rfl (by omega) (by decide) upI dM_add_130 (fun H locs hP hD hS => ?_)
                    have hP : va_P D vwCl (mW ka a 0 np nc pe an up dn (va_up rw ((12 * (x.toInt.toNat)) + (mn (x.toInt.toNat))) (y.toInt.toNat)) so mn wd wv) H := hP
                    have hD : va_D (mA a) (mW ka a 0 np nc pe an up dn (va_up rw ((12 * (x.toInt.toNat)) + (mn (x.toInt.toNat))) (y.toInt.toNat)) so mn wd wv) := hD
                    refine lv_aload_n hx hb dM_add_131 rfl (lv_at hl 4 rfl) ?_
                    refine g_get (cl := vwCl) (ci := 3) (v := .ref (a 6)) hx hb hts inM hown hK (hP.nth 0 rfl) rfl 8 (by decide) (hts _ tb_308) rfl dM_add_132 ?_
                    refine lv_bipush (v := nI 12) hx hb dM_add_135 (by decide) ?_
                    refine lv_iload_n hx hb dM_add_137 rfl (lv_at hl 2 rfl) ?_
                    refine n_imul hx hb dM_add_138 ?_
                    refine lv_aload_n hx hb dM_add_139 rfl (lv_at hl 4 rfl) ?_
                    refine g_get (cl := vwCl) (ci := 3) (v := .ref (a 7)) hx hb hts inM hown hK (hP.nth 0 rfl) rfl 9 (by decide) (hts _ tb_309) rfl dM_add_140 ?_
                    refine lv_iload_n hx hb dM_add_143 rfl (lv_at hl 2 rfl) ?_
                    refine g_ialdv (v := nI (mn (x.toInt.toNat))) hx hb hK 4 (hP.nth 7 rfl) rfl (by omega) (by decide) (rfl) dM_add_144 ?_
                    refine n_iadd hx hb dM_add_145 ?_
                    refine lv_iload hx hb dM_add_146 (lv_at hl 1 rfl) ?_
                    refine b_if_ne (tgt := 155) hx hb dM_add_148 (by decide) (fun hc8 => ?_) (fun hc8 => ?_)
                    · refine lv_iconst (v := nI 0) hx hb dM_add_155 (by decide) ?_
                      have eb2 : nI 0 = bI (!(mn x.toInt.toNat == 0 || !tr)) := by rw [hsm]; rfl
                      rw [eb2]
                      refine g_zast hx hb hK hP hD hS 6 2 rfl rfl (by omega) (by decide) upB dM_add_156 (fun H locs hP hD hS => ?_)
                      have hP : va_P D vwCl (mW ka a 0 np nc pe an up dn (va_up rw ((12 * (x.toInt.toNat)) + (mn (x.toInt.toNat))) (y.toInt.toNat)) (va_up so ((12 * (x.toInt.toNat)) + (mn (x.toInt.toNat))) (!(mn x.toInt.toNat == 0 || !tr))) mn wd wv) H := hP
                      have hD : va_D (mA a) (mW ka a 0 np nc pe an up dn (va_up rw ((12 * (x.toInt.toNat)) + (mn (x.toInt.toNat))) (y.toInt.toNat)) (va_up so ((12 * (x.toInt.toNat)) + (mn (x.toInt.toNat))) (!(mn x.toInt.toNat == 0 || !tr))) mn wd wv) := hD
                      refine lv_aload_n hx hb dM_add_157 rfl (lv_at hl 4 rfl) ?_
                      refine g_get (cl := vwCl) (ci := 3) (v := .ref (a 7)) hx hb hts inM hown hK (hP.nth 0 rfl) rfl 9 (by decide) (hts _ tb_309) rfl dM_add_158 ?_
                      refine lv_iload_n hx hb dM_add_161 rfl (lv_at hl 2 rfl) ?_
                      refine lv_dup2_11 hx hb dM_add_162 rfl rfl ?_
                      refine g_ialdv (v := nI (mn (x.toInt.toNat))) hx hb hK 4 (hP.nth 7 rfl) rfl (by omega) (by decide) (rfl) dM_add_163 ?_
                      refine lv_iconst (v := nI 1) hx hb dM_add_164 (by decide) ?_
                      refine n_iadd hx hb dM_add_165 ?_
                      refine g_iast hx hb hK hP hD hS 7 4 rfl rfl (by omega) (by decide) upI dM_add_166 (fun H locs hP hD hS => ?_)
                      have hP : va_P D vwCl (mW ka a 0 np nc pe an up dn (va_up rw ((12 * (x.toInt.toNat)) + (mn (x.toInt.toNat))) (y.toInt.toNat)) (va_up so ((12 * (x.toInt.toNat)) + (mn (x.toInt.toNat))) (!(mn x.toInt.toNat == 0 || !tr))) (va_up mn (x.toInt.toNat) ((mn (x.toInt.toNat)) + 1)) wd wv) H := hP
                      have hD : va_D (mA a) (mW ka a 0 np nc pe an up dn (va_up rw ((12 * (x.toInt.toNat)) + (mn (x.toInt.toNat))) (y.toInt.toNat)) (va_up so ((12 * (x.toInt.toNat)) + (mn (x.toInt.toNat))) (!(mn x.toInt.toNat == 0 || !tr))) (va_up mn (x.toInt.toNat) ((mn (x.toInt.toNat)) + 1)) wd wv) := hD
                      refine lv_iconst (v := nI 1) hx hb dM_add_167 (by decide) ?_
                      exact W.iret (v := nI 1) hx hb hr (fun t ht hW => ⟨⟨_, (mkM np nc pe an up dn (va_up rw ((12 * (x.toInt.toNat)) + (mn (x.toInt.toNat))) (y.toInt.toNat)) (va_up so ((12 * (x.toInt.toNat)) + (mn (x.toInt.toNat))) (!(mn x.toInt.toNat == 0 || !tr))) (va_up mn (x.toInt.toNat) ((mn (x.toInt.toNat)) + 1)) wd wv), rfl, by rw [opAdd, if_neg hno, if_neg hno3, if_neg (by omega), if_neg (by rw [hg0]; decide)], by show va_P D vwCl _ t.heap; rw [ht]; exact hP⟩, hS.F ht⟩) hS.2.2 dM_add_168
                    · exact Bool.noConfusion hc8
                  · have hR := hO.row hc11 hc21 hc
                    refine lv_aload_n hx hb dM_add_90 rfl (lv_at hl 4 rfl) ?_
                    refine g_get (cl := vwCl) (ci := 3) (v := .ref (a 5)) hx hb hts inM hown hK (hP.nth 0 rfl) rfl 7 (by decide) (hts _ tb_307) rfl dM_add_91 ?_
                    refine lv_bipush (v := nI 12) hx hb dM_add_94 (by decide) ?_
                    refine lv_iload_n hx hb dM_add_96 rfl (lv_at hl 2 rfl) ?_
                    refine n_imul hx hb dM_add_97 ?_
                    refine lv_iload hx hb dM_add_98 (lv_at hl 0 rfl) ?_
                    refine n_iadd hx hb dM_add_100 ?_
                    refine g_ialdv (v := nI (rw ((12 * (x.toInt.toNat)) + i))) hx hb hK 4 (hP.nth 5 rfl) rfl (by omega) (by decide) (rfl) dM_add_101 ?_
                    refine lv_iload_n hx hb dM_add_102 rfl (lv_at hl 3 rfl) ?_
                    refine n_icmp_ne (tgt := 108) hx hb (by omega) (by omega) dM_add_103 (by decide) (fun hc9 => ?_) (fun hc9 => ?_)
                    · refine lv_iinc (v := nI (i + 1)) (lv' := [(5, .int (nI (i + 1))), (4, .int (bI true)), (1, .int (nI (x.toInt.toNat))), (2, .int (nI (y.toInt.toNat))), (0, .ref (a 0)), (3, .int (bI tr))]) hx hb dM_add_108 hl (k := 0) rfl (nI_add i 1) (by decide) rfl (fun ls hl => ?_)
                      refine lv_goto (tgt := 79) hx hb dM_add_111 (by decide) ?_
                      exact ih (i + 1) (by omega) (by omega) (anyN_next hg0 (by simpa using hc9)) ls (lv_sub hl [0, 1, 2, 3, 4, 5] rfl)
                    · refine lv_iconst (v := nI 0) hx hb dM_add_106 (by decide) ?_
                      exact W.iret (v := nI 0) hx hb hr (fun t ht hW => ⟨⟨_, (mkM np nc pe an up dn rw so mn wd wv), rfl, by rw [opAdd, if_neg hno, if_neg hno3, if_neg (by omega), if_pos (anyN_hit hc (by simpa using hc9))], by show va_P D vwCl _ t.heap; rw [ht]; exact hP⟩, hS.F ht⟩) hS.2.2 dM_add_107
              exact loop (mn x.toInt.toNat + 1) 0 (by omega) (by omega) rfl ls (lv_sub hl [0, 1, 3, 4, 2, 5] rfl)
            · refine lv_bipush (v := (-4)) hx hb dM_add_73 (by decide) ?_
              exact W.iret (v := (-4)) hx hb hr (fun t ht hW => ⟨⟨_, (mkM np nc pe an up dn rw so mn wd wv), rfl, by rw [opAdd, if_neg hno, if_neg hno3, if_pos (by omega)], by show va_P D vwCl _ t.heap; rw [ht]; exact hP⟩, hS.F ht⟩) hS.2.2 dM_add_75
          · refine lv_bipush (v := (-3)) hx hb dM_add_59 (by decide) ?_
            exact W.iret (v := (-3)) hx hb hr (fun t ht hW => ⟨⟨_, (mkM np nc pe an up dn rw so mn wd wv), rfl, by rw [opAdd, if_neg hno, if_pos (by rw [hsm, show (pe y.toInt.toNat == 0) = true by simpa using q5]; rfl)], by show va_P D vwCl _ t.heap; rw [ht]; exact hP⟩, hS.F ht⟩) hS.2.2 dM_add_61
      · refine lv_iload_n hx hb dM_add_32 rfl (lv_at hl 3 rfl) ?_
        refine b_if_ne (tgt := 40) hx hb dM_add_33 (by decide) (fun q4 => ?_) (fun q4 => ?_)
        · have hsm : (mn x.toInt.toNat == 0 || !tr) = false := by rw [show (mn x.toInt.toNat == 0) = false from beq_eq_false_iff_ne.mpr q3, q4]; rfl
          refine lv_iconst (v := nI 0) hx hb dM_add_40 (by decide) ?_
          refine lv_istore (lv' := [(4, .int (nI 0)), (0, .ref (a 0)), (1, .int (nI (x.toInt.toNat))), (2, .int (nI (y.toInt.toNat))), (3, .int (bI tr))]) hx hb dM_add_41 hl (by decide) rfl (fun ls hl => ?_)
          have eb : nI 0 = bI false := rfl
          rw [eb] at hl
          refine lv_iload hx hb dM_add_43 (lv_at hl 0 rfl) ?_
          refine b_if_eq (tgt := 62) hx hb dM_add_45 (by decide) (fun hc7 => ?_) (fun hc7 => ?_)
          · have hno3 : ¬ ((mn x.toInt.toNat == 0 || !tr) && pe y.toInt.toNat == 0) = true := by rw [hsm]; simp
            refine lv_aload_n hx hb dM_add_62 rfl (lv_at hl 1 rfl) ?_
            refine g_get (cl := vwCl) (ci := 3) (v := .ref (a 7)) hx hb hts inM hown hK (hP.nth 0 rfl) rfl 9 (by decide) (hts _ tb_309) rfl dM_add_63 ?_
            refine lv_iload_n hx hb dM_add_66 rfl (lv_at hl 2 rfl) ?_
            refine g_ialdv (v := nI (mn (x.toInt.toNat))) hx hb hK 4 (hP.nth 7 rfl) rfl (by omega) (by decide) (rfl) dM_add_67 ?_
            refine lv_bipush (v := nI 12) hx hb dM_add_68 (by decide) ?_
            refine n_icmp_ne (tgt := 76) hx hb (by omega) (by omega) dM_add_70 (by decide) (fun q6 => ?_) (fun q6 => ?_)
            · have hlt : mn x.toInt.toNat < 12 := by omega
              refine lv_iconst (v := nI 0) hx hb dM_add_76 (by decide) ?_
              refine lv_istore (lv' := [(5, .int (nI 0)), (4, .int (bI false)), (0, .ref (a 0)), (1, .int (nI (x.toInt.toNat))), (2, .int (nI (y.toInt.toNat))), (3, .int (bI tr))]) hx hb dM_add_77 hl (by decide) rfl (fun ls hl => ?_)
              have loop : ∀ (fu i : Nat), i ≤ mn x.toInt.toNat → mn x.toInt.toNat < i + fu → anyN (fun k => rw (12 * x.toInt.toNat + k) == y.toInt.toNat) i = false → ∀ ls : Array Slot, lv_has ls 6 [(5, .int (nI i)), (4, .int (bI false)), (1, .int (nI (x.toInt.toNat))), (2, .int (nI (y.toInt.toNat))), (0, .ref (a 0)), (3, .int (bI tr))] → W p l e (headSpec (.code yM_add cM_add 6 (some .int) :: gT) ({ frames := 1, cells := 0, slots := 0, locals := 21 })).room s m ([.ref (a 0), .int x, .int y, .int (bI tr)] : List Value).toArray below meth c H locs 0 0 (MQ below (va_Qi (fun (r : Int32) (u : MSt) => (u, r) = opAdd np nc pe an up dn rw so mn wd wv x y tr) (fun u t => va_P D vwCl (mWs ka a 0 u) t.heap) (mA a)) ([.ref (a 0), .int x, .int y, .int (bI tr)] : List Value).toArray s 0 0 (mA a)) (F0 m 79 ls []) := by
                intro fu
                induction fu with
                | zero => intro i h1 h2; exact absurd h2 (by omega)
                | succ fu ih =>
                  intro i hi hf hg0 ls hl
                  refine lv_iload hx hb dM_add_79 (lv_at hl 0 rfl) ?_
                  refine lv_aload_n hx hb dM_add_81 rfl (lv_at hl 4 rfl) ?_
                  refine g_get (cl := vwCl) (ci := 3) (v := .ref (a 7)) hx hb hts inM hown hK (hP.nth 0 rfl) rfl 9 (by decide) (hts _ tb_309) rfl dM_add_82 ?_
                  refine lv_iload_n hx hb dM_add_85 rfl (lv_at hl 2 rfl) ?_
                  refine g_ialdv (v := nI (mn (x.toInt.toNat))) hx hb hK 4 (hP.nth 7 rfl) rfl (by omega) (by decide) (rfl) dM_add_86 ?_
                  refine n_icmp_ge (tgt := 114) hx hb (by omega) (by omega) dM_add_87 (by decide) (fun hc => ?_) (fun hc => ?_)
                  · obtain hi2 : i = mn x.toInt.toNat := by omega
                    subst hi2
                    refine lv_aload_n hx hb dM_add_114 rfl (lv_at hl 4 rfl) ?_
                    refine g_get (cl := vwCl) (ci := 3) (v := .ref (a 5)) hx hb hts inM hown hK (hP.nth 0 rfl) rfl 7 (by decide) (hts _ tb_307) rfl dM_add_115 ?_
                    refine lv_bipush (v := nI 12) hx hb dM_add_118 (by decide) ?_
                    refine lv_iload_n hx hb dM_add_120 rfl (lv_at hl 2 rfl) ?_
                    refine n_imul hx hb dM_add_121 ?_
                    refine lv_aload_n hx hb dM_add_122 rfl (lv_at hl 4 rfl) ?_
                    refine g_get (cl := vwCl) (ci := 3) (v := .ref (a 7)) hx hb hts inM hown hK (hP.nth 0 rfl) rfl 9 (by decide) (hts _ tb_309) rfl dM_add_123 ?_
                    refine lv_iload_n hx hb dM_add_126 rfl (lv_at hl 2 rfl) ?_
                    refine g_ialdv (v := nI (mn (x.toInt.toNat))) hx hb hK 4 (hP.nth 7 rfl) rfl (by omega) (by decide) (rfl) dM_add_127 ?_
                    refine n_iadd hx hb dM_add_128 ?_
                    refine lv_iload_n hx hb dM_add_129 rfl (lv_at hl 3 rfl) ?_
                    refine g_iast hx hb hK hP hD hS 5 4 rfl rfl (by omega) (by decide) upI dM_add_130 (fun H locs hP hD hS => ?_)
                    have hP : va_P D vwCl (mW ka a 0 np nc pe an up dn (va_up rw ((12 * (x.toInt.toNat)) + (mn (x.toInt.toNat))) (y.toInt.toNat)) so mn wd wv) H := hP
                    have hD : va_D (mA a) (mW ka a 0 np nc pe an up dn (va_up rw ((12 * (x.toInt.toNat)) + (mn (x.toInt.toNat))) (y.toInt.toNat)) so mn wd wv) := hD
                    refine lv_aload_n hx hb dM_add_131 rfl (lv_at hl 4 rfl) ?_
                    refine g_get (cl := vwCl) (ci := 3) (v := .ref (a 6)) hx hb hts inM hown hK (hP.nth 0 rfl) rfl 8 (by decide) (hts _ tb_308) rfl dM_add_132 ?_
                    refine lv_bipush (v := nI 12) hx hb dM_add_135 (by decide) ?_
                    refine lv_iload_n hx hb dM_add_137 rfl (lv_at hl 2 rfl) ?_
                    refine n_imul hx hb dM_add_138 ?_
                    refine lv_aload_n hx hb dM_add_139 rfl (lv_at hl 4 rfl) ?_
                    refine g_get (cl := vwCl) (ci := 3) (v := .ref (a 7)) hx hb hts inM hown hK (hP.nth 0 rfl) rfl 9 (by decide) (hts _ tb_309) rfl dM_add_140 ?_
                    refine lv_iload_n hx hb dM_add_143 rfl (lv_at hl 2 rfl) ?_
                    refine g_ialdv (v := nI (mn (x.toInt.toNat))) hx hb hK 4 (hP.nth 7 rfl) rfl (by omega) (by decide) (rfl) dM_add_144 ?_
                    refine n_iadd hx hb dM_add_145 ?_
                    refine lv_iload hx hb dM_add_146 (lv_at hl 1 rfl) ?_
                    refine b_if_ne (tgt := 155) hx hb dM_add_148 (by decide) (fun hc8 => ?_) (fun hc8 => ?_)
                    · exact Bool.noConfusion hc8
                    · refine lv_iconst (v := nI 1) hx hb dM_add_151 (by decide) ?_
                      refine lv_goto (tgt := 156) hx hb dM_add_152 (by decide) ?_
                      have eb2 : nI 1 = bI (!(mn x.toInt.toNat == 0 || !tr)) := by rw [hsm]; rfl
                      rw [eb2]
                      refine g_zast hx hb hK hP hD hS 6 2 rfl rfl (by omega) (by decide) upB dM_add_156 (fun H locs hP hD hS => ?_)
                      have hP : va_P D vwCl (mW ka a 0 np nc pe an up dn (va_up rw ((12 * (x.toInt.toNat)) + (mn (x.toInt.toNat))) (y.toInt.toNat)) (va_up so ((12 * (x.toInt.toNat)) + (mn (x.toInt.toNat))) (!(mn x.toInt.toNat == 0 || !tr))) mn wd wv) H := hP
                      have hD : va_D (mA a) (mW ka a 0 np nc pe an up dn (va_up rw ((12 * (x.toInt.toNat)) + (mn (x.toInt.toNat))) (y.toInt.toNat)) (va_up so ((12 * (x.toInt.toNat)) + (mn (x.toInt.toNat))) (!(mn x.toInt.toNat == 0 || !tr))) mn wd wv) := hD
                      refine lv_aload_n hx hb dM_add_157 rfl (lv_at hl 4 rfl) ?_
                      refine g_get (cl := vwCl) (ci := 3) (v := .ref (a 7)) hx hb hts inM hown hK (hP.nth 0 rfl) rfl 9 (by decide) (hts _ tb_309) rfl dM_add_158 ?_
                      refine lv_iload_n hx hb dM_add_161 rfl (lv_at hl 2 rfl) ?_
                      refine lv_dup2_11 hx hb dM_add_162 rfl rfl ?_
                      refine g_ialdv (v := nI (mn (x.toInt.toNat))) hx hb hK 4 (hP.nth 7 rfl) rfl (by omega) (by decide) (rfl) dM_add_163 ?_
                      refine lv_iconst (v := nI 1) hx hb dM_add_164 (by decide) ?_
                      refine n_iadd hx hb dM_add_165 ?_
                      refine g_iast hx hb hK hP hD hS 7 4 rfl rfl (by omega) (by decide) upI dM_add_166 (fun H locs hP hD hS => ?_)
                      have hP : va_P D vwCl (mW ka a 0 np nc pe an up dn (va_up rw ((12 * (x.toInt.toNat)) + (mn (x.toInt.toNat))) (y.toInt.toNat)) (va_up so ((12 * (x.toInt.toNat)) + (mn (x.toInt.toNat))) (!(mn x.toInt.toNat == 0 || !tr))) (va_up mn (x.toInt.toNat) ((mn (x.toInt.toNat)) + 1)) wd wv) H := hP
                      have hD : va_D (mA a) (mW ka a 0 np nc pe an up dn (va_up rw ((12 * (x.toInt.toNat)) + (mn (x.toInt.toNat))) (y.toInt.toNat)) (va_up so ((12 * (x.toInt.toNat)) + (mn (x.toInt.toNat))) (!(mn x.toInt.toNat == 0 || !tr))) (va_up mn (x.toInt.toNat) ((mn (x.toInt.toNat)) + 1)) wd wv) := hD
                      refine lv_iconst (v := nI 1) hx hb dM_add_167 (by decide) ?_
                      exact W.iret (v := nI 1) hx hb hr (fun t ht hW => ⟨⟨_, (mkM np nc pe an up dn (va_up rw ((12 * (x.toInt.toNat)) + (mn (x.toInt.toNat))) (y.toInt.toNat)) (va_up so ((12 * (x.toInt.toNat)) + (mn (x.toInt.toNat))) (!(mn x.toInt.toNat == 0 || !tr))) (va_up mn (x.toInt.toNat) ((mn (x.toInt.toNat)) + 1)) wd wv), rfl, by rw [opAdd, if_neg hno, if_neg hno3, if_neg (by omega), if_neg (by rw [hg0]; decide)], by show va_P D vwCl _ t.heap; rw [ht]; exact hP⟩, hS.F ht⟩) hS.2.2 dM_add_168
                  · have hR := hO.row hc11 hc21 hc
                    refine lv_aload_n hx hb dM_add_90 rfl (lv_at hl 4 rfl) ?_
                    refine g_get (cl := vwCl) (ci := 3) (v := .ref (a 5)) hx hb hts inM hown hK (hP.nth 0 rfl) rfl 7 (by decide) (hts _ tb_307) rfl dM_add_91 ?_
                    refine lv_bipush (v := nI 12) hx hb dM_add_94 (by decide) ?_
                    refine lv_iload_n hx hb dM_add_96 rfl (lv_at hl 2 rfl) ?_
                    refine n_imul hx hb dM_add_97 ?_
                    refine lv_iload hx hb dM_add_98 (lv_at hl 0 rfl) ?_
                    refine n_iadd hx hb dM_add_100 ?_
                    refine g_ialdv (v := nI (rw ((12 * (x.toInt.toNat)) + i))) hx hb hK 4 (hP.nth 5 rfl) rfl (by omega) (by decide) (rfl) dM_add_101 ?_
                    refine lv_iload_n hx hb dM_add_102 rfl (lv_at hl 3 rfl) ?_
                    refine n_icmp_ne (tgt := 108) hx hb (by omega) (by omega) dM_add_103 (by decide) (fun hc9 => ?_) (fun hc9 => ?_)
                    · refine lv_iinc (v := nI (i + 1)) (lv' := [(5, .int (nI (i + 1))), (4, .int (bI false)), (1, .int (nI (x.toInt.toNat))), (2, .int (nI (y.toInt.toNat))), (0, .ref (a 0)), (3, .int (bI tr))]) hx hb dM_add_108 hl (k := 0) rfl (nI_add i 1) (by decide) rfl (fun ls hl => ?_)
                      refine lv_goto (tgt := 79) hx hb dM_add_111 (by decide) ?_
                      exact ih (i + 1) (by omega) (by omega) (anyN_next hg0 (by simpa using hc9)) ls (lv_sub hl [0, 1, 2, 3, 4, 5] rfl)
                    · refine lv_iconst (v := nI 0) hx hb dM_add_106 (by decide) ?_
                      exact W.iret (v := nI 0) hx hb hr (fun t ht hW => ⟨⟨_, (mkM np nc pe an up dn rw so mn wd wv), rfl, by rw [opAdd, if_neg hno, if_neg hno3, if_neg (by omega), if_pos (anyN_hit hc (by simpa using hc9))], by show va_P D vwCl _ t.heap; rw [ht]; exact hP⟩, hS.F ht⟩) hS.2.2 dM_add_107
              exact loop (mn x.toInt.toNat + 1) 0 (by omega) (by omega) rfl ls (lv_sub hl [0, 1, 3, 4, 2, 5] rfl)
            · refine lv_bipush (v := (-4)) hx hb dM_add_73 (by decide) ?_
              exact W.iret (v := (-4)) hx hb hr (fun t ht hW => ⟨⟨_, (mkM np nc pe an up dn rw so mn wd wv), rfl, by rw [opAdd, if_neg hno, if_neg hno3, if_pos (by omega)], by show va_P D vwCl _ t.heap; rw [ht]; exact hP⟩, hS.F ht⟩) hS.2.2 dM_add_75
          · exact Bool.noConfusion hc7
        · have hsm : (mn x.toInt.toNat == 0 || !tr) = true := by simp [q4]
          refine lv_iconst (v := nI 1) hx hb dM_add_36 (by decide) ?_
          refine lv_goto (tgt := 41) hx hb dM_add_37 (by decide) ?_
          refine lv_istore (lv' := [(4, .int (nI 1)), (0, .ref (a 0)), (1, .int (nI (x.toInt.toNat))), (2, .int (nI (y.toInt.toNat))), (3, .int (bI tr))]) hx hb dM_add_41 hl (by decide) rfl (fun ls hl => ?_)
          have eb : nI 1 = bI true := rfl
          rw [eb] at hl
          refine lv_iload hx hb dM_add_43 (lv_at hl 0 rfl) ?_
          refine b_if_eq (tgt := 62) hx hb dM_add_45 (by decide) (fun hc7 => ?_) (fun hc7 => ?_)
          · exact Bool.noConfusion hc7
          · refine lv_aload_n hx hb dM_add_48 rfl (lv_at hl 1 rfl) ?_
            refine g_get (cl := vwCl) (ci := 3) (v := .ref (a 1)) hx hb hts inM hown hK (hP.nth 0 rfl) rfl 2 (by decide) (hts _ tb_302) rfl dM_add_49 ?_
            refine lv_iload_n hx hb dM_add_52 rfl (lv_at hl 3 rfl) ?_
            refine g_laldv (v := lN (pe (y.toInt.toNat))) hx hb hK 3 (hP.nth 1 rfl) rfl (by omega) (by decide) (rfl) dM_add_53 ?_
            refine lv_lconst (v := lN 0) hx hb dM_add_54 rfl ?_
            refine n_lcmp_ne (tgt := 62) hx hb (by omega) (by omega) dM_add_55 dM_add_56 (by decide) (fun q5 => ?_) (fun q5 => ?_)
            · have hno3 : ¬ ((mn x.toInt.toNat == 0 || !tr) && pe y.toInt.toNat == 0) = true := by rw [hsm, show (pe y.toInt.toNat == 0) = false by simpa using q5]; decide
              refine lv_aload_n hx hb dM_add_62 rfl (lv_at hl 1 rfl) ?_
              refine g_get (cl := vwCl) (ci := 3) (v := .ref (a 7)) hx hb hts inM hown hK (hP.nth 0 rfl) rfl 9 (by decide) (hts _ tb_309) rfl dM_add_63 ?_
              refine lv_iload_n hx hb dM_add_66 rfl (lv_at hl 2 rfl) ?_
              refine g_ialdv (v := nI (mn (x.toInt.toNat))) hx hb hK 4 (hP.nth 7 rfl) rfl (by omega) (by decide) (rfl) dM_add_67 ?_
              refine lv_bipush (v := nI 12) hx hb dM_add_68 (by decide) ?_
              refine n_icmp_ne (tgt := 76) hx hb (by omega) (by omega) dM_add_70 (by decide) (fun q6 => ?_) (fun q6 => ?_)
              · have hlt : mn x.toInt.toNat < 12 := by omega
                refine lv_iconst (v := nI 0) hx hb dM_add_76 (by decide) ?_
                refine lv_istore (lv' := [(5, .int (nI 0)), (4, .int (bI true)), (0, .ref (a 0)), (1, .int (nI (x.toInt.toNat))), (2, .int (nI (y.toInt.toNat))), (3, .int (bI tr))]) hx hb dM_add_77 hl (by decide) rfl (fun ls hl => ?_)
                have loop : ∀ (fu i : Nat), i ≤ mn x.toInt.toNat → mn x.toInt.toNat < i + fu → anyN (fun k => rw (12 * x.toInt.toNat + k) == y.toInt.toNat) i = false → ∀ ls : Array Slot, lv_has ls 6 [(5, .int (nI i)), (4, .int (bI true)), (1, .int (nI (x.toInt.toNat))), (2, .int (nI (y.toInt.toNat))), (0, .ref (a 0)), (3, .int (bI tr))] → W p l e (headSpec (.code yM_add cM_add 6 (some .int) :: gT) ({ frames := 1, cells := 0, slots := 0, locals := 21 })).room s m ([.ref (a 0), .int x, .int y, .int (bI tr)] : List Value).toArray below meth c H locs 0 0 (MQ below (va_Qi (fun (r : Int32) (u : MSt) => (u, r) = opAdd np nc pe an up dn rw so mn wd wv x y tr) (fun u t => va_P D vwCl (mWs ka a 0 u) t.heap) (mA a)) ([.ref (a 0), .int x, .int y, .int (bI tr)] : List Value).toArray s 0 0 (mA a)) (F0 m 79 ls []) := by
                  intro fu
                  induction fu with
                  | zero => intro i h1 h2; exact absurd h2 (by omega)
                  | succ fu ih =>
                    intro i hi hf hg0 ls hl
                    refine lv_iload hx hb dM_add_79 (lv_at hl 0 rfl) ?_
                    refine lv_aload_n hx hb dM_add_81 rfl (lv_at hl 4 rfl) ?_
                    refine g_get (cl := vwCl) (ci := 3) (v := .ref (a 7)) hx hb hts inM hown hK (hP.nth 0 rfl) rfl 9 (by decide) (hts _ tb_309) rfl dM_add_82 ?_
                    refine lv_iload_n hx hb dM_add_85 rfl (lv_at hl 2 rfl) ?_
                    refine g_ialdv (v := nI (mn (x.toInt.toNat))) hx hb hK 4 (hP.nth 7 rfl) rfl (by omega) (by decide) (rfl) dM_add_86 ?_
                    refine n_icmp_ge (tgt := 114) hx hb (by omega) (by omega) dM_add_87 (by decide) (fun hc => ?_) (fun hc => ?_)
                    · obtain hi2 : i = mn x.toInt.toNat := by omega
                      subst hi2
                      refine lv_aload_n hx hb dM_add_114 rfl (lv_at hl 4 rfl) ?_
                      refine g_get (cl := vwCl) (ci := 3) (v := .ref (a 5)) hx hb hts inM hown hK (hP.nth 0 rfl) rfl 7 (by decide) (hts _ tb_307) rfl dM_add_115 ?_
                      refine lv_bipush (v := nI 12) hx hb dM_add_118 (by decide) ?_
                      refine lv_iload_n hx hb dM_add_120 rfl (lv_at hl 2 rfl) ?_
                      refine n_imul hx hb dM_add_121 ?_
                      refine lv_aload_n hx hb dM_add_122 rfl (lv_at hl 4 rfl) ?_
                      refine g_get (cl := vwCl) (ci := 3) (v := .ref (a 7)) hx hb hts inM hown hK (hP.nth 0 rfl) rfl 9 (by decide) (hts _ tb_309) rfl dM_add_123 ?_
                      refine lv_iload_n hx hb dM_add_126 rfl (lv_at hl 2 rfl) ?_
                      refine g_ialdv (v := nI (mn (x.toInt.toNat))) hx hb hK 4 (hP.nth 7 rfl) rfl (by omega) (by decide) (rfl) dM_add_127 ?_
                      refine n_iadd hx hb dM_add_128 ?_
                      refine lv_iload_n hx hb dM_add_129 rfl (lv_at hl 3 rfl) ?_
                      refine g_iast hx hb hK hP hD hS 5 4 rfl rfl (by omega) (by decide) upI dM_add_130 (fun H locs hP hD hS => ?_)
                      have hP : va_P D vwCl (mW ka a 0 np nc pe an up dn (va_up rw ((12 * (x.toInt.toNat)) + (mn (x.toInt.toNat))) (y.toInt.toNat)) so mn wd wv) H := hP
                      have hD : va_D (mA a) (mW ka a 0 np nc pe an up dn (va_up rw ((12 * (x.toInt.toNat)) + (mn (x.toInt.toNat))) (y.toInt.toNat)) so mn wd wv) := hD
                      refine lv_aload_n hx hb dM_add_131 rfl (lv_at hl 4 rfl) ?_
                      refine g_get (cl := vwCl) (ci := 3) (v := .ref (a 6)) hx hb hts inM hown hK (hP.nth 0 rfl) rfl 8 (by decide) (hts _ tb_308) rfl dM_add_132 ?_
                      refine lv_bipush (v := nI 12) hx hb dM_add_135 (by decide) ?_
                      refine lv_iload_n hx hb dM_add_137 rfl (lv_at hl 2 rfl) ?_
                      refine n_imul hx hb dM_add_138 ?_
                      refine lv_aload_n hx hb dM_add_139 rfl (lv_at hl 4 rfl) ?_
                      refine g_get (cl := vwCl) (ci := 3) (v := .ref (a 7)) hx hb hts inM hown hK (hP.nth 0 rfl) rfl 9 (by decide) (hts _ tb_309) rfl dM_add_140 ?_
                      refine lv_iload_n hx hb dM_add_143 rfl (lv_at hl 2 rfl) ?_
                      refine g_ialdv (v := nI (mn (x.toInt.toNat))) hx hb hK 4 (hP.nth 7 rfl) rfl (by omega) (by decide) (rfl) dM_add_144 ?_
                      refine n_iadd hx hb dM_add_145 ?_
                      refine lv_iload hx hb dM_add_146 (lv_at hl 1 rfl) ?_
                      refine b_if_ne (tgt := 155) hx hb dM_add_148 (by decide) (fun hc8 => ?_) (fun hc8 => ?_)
                      · refine lv_iconst (v := nI 0) hx hb dM_add_155 (by decide) ?_
                        have eb2 : nI 0 = bI (!(mn x.toInt.toNat == 0 || !tr)) := by rw [hsm]; rfl
                        rw [eb2]
                        refine g_zast hx hb hK hP hD hS 6 2 rfl rfl (by omega) (by decide) upB dM_add_156 (fun H locs hP hD hS => ?_)
                        have hP : va_P D vwCl (mW ka a 0 np nc pe an up dn (va_up rw ((12 * (x.toInt.toNat)) + (mn (x.toInt.toNat))) (y.toInt.toNat)) (va_up so ((12 * (x.toInt.toNat)) + (mn (x.toInt.toNat))) (!(mn x.toInt.toNat == 0 || !tr))) mn wd wv) H := hP
                        have hD : va_D (mA a) (mW ka a 0 np nc pe an up dn (va_up rw ((12 * (x.toInt.toNat)) + (mn (x.toInt.toNat))) (y.toInt.toNat)) (va_up so ((12 * (x.toInt.toNat)) + (mn (x.toInt.toNat))) (!(mn x.toInt.toNat == 0 || !tr))) mn wd wv) := hD
                        refine lv_aload_n hx hb dM_add_157 rfl (lv_at hl 4 rfl) ?_
                        refine g_get (cl := vwCl) (ci := 3) (v := .ref (a 7)) hx hb hts inM hown hK (hP.nth 0 rfl) rfl 9 (by decide) (hts _ tb_309) rfl dM_add_158 ?_
                        refine lv_iload_n hx hb dM_add_161 rfl (lv_at hl 2 rfl) ?_
                        refine lv_dup2_11 hx hb dM_add_162 rfl rfl ?_
                        refine g_ialdv (v := nI (mn (x.toInt.toNat))) hx hb hK 4 (hP.nth 7 rfl) rfl (by omega) (by decide) (rfl) dM_add_163 ?_
                        refine lv_iconst (v := nI 1) hx hb dM_add_164 (by decide) ?_
                        refine n_iadd hx hb dM_add_165 ?_
                        refine g_iast hx hb hK hP hD hS 7 4 rfl rfl (by omega) (by decide) upI dM_add_166 (fun H locs hP hD hS => ?_)
                        have hP : va_P D vwCl (mW ka a 0 np nc pe an up dn (va_up rw ((12 * (x.toInt.toNat)) + (mn (x.toInt.toNat))) (y.toInt.toNat)) (va_up so ((12 * (x.toInt.toNat)) + (mn (x.toInt.toNat))) (!(mn x.toInt.toNat == 0 || !tr))) (va_up mn (x.toInt.toNat) ((mn (x.toInt.toNat)) + 1)) wd wv) H := hP
                        have hD : va_D (mA a) (mW ka a 0 np nc pe an up dn (va_up rw ((12 * (x.toInt.toNat)) + (mn (x.toInt.toNat))) (y.toInt.toNat)) (va_up so ((12 * (x.toInt.toNat)) + (mn (x.toInt.toNat))) (!(mn x.toInt.toNat == 0 || !tr))) (va_up mn (x.toInt.toNat) ((mn (x.toInt.toNat)) + 1)) wd wv) := hD
                        refine lv_iconst (v := nI 1) hx hb dM_add_167 (by decide) ?_
                        exact W.iret (v := nI 1) hx hb hr (fun t ht hW => ⟨⟨_, (mkM np nc pe an up dn (va_up rw ((12 * (x.toInt.toNat)) + (mn (x.toInt.toNat))) (y.toInt.toNat)) (va_up so ((12 * (x.toInt.toNat)) + (mn (x.toInt.toNat))) (!(mn x.toInt.toNat == 0 || !tr))) (va_up mn (x.toInt.toNat) ((mn (x.toInt.toNat)) + 1)) wd wv), rfl, by rw [opAdd, if_neg hno, if_neg hno3, if_neg (by omega), if_neg (by rw [hg0]; decide)], by show va_P D vwCl _ t.heap; rw [ht]; exact hP⟩, hS.F ht⟩) hS.2.2 dM_add_168
                      · exact Bool.noConfusion hc8
                    · have hR := hO.row hc11 hc21 hc
                      refine lv_aload_n hx hb dM_add_90 rfl (lv_at hl 4 rfl) ?_
                      refine g_get (cl := vwCl) (ci := 3) (v := .ref (a 5)) hx hb hts inM hown hK (hP.nth 0 rfl) rfl 7 (by decide) (hts _ tb_307) rfl dM_add_91 ?_
                      refine lv_bipush (v := nI 12) hx hb dM_add_94 (by decide) ?_
                      refine lv_iload_n hx hb dM_add_96 rfl (lv_at hl 2 rfl) ?_
                      refine n_imul hx hb dM_add_97 ?_
                      refine lv_iload hx hb dM_add_98 (lv_at hl 0 rfl) ?_
                      refine n_iadd hx hb dM_add_100 ?_
                      refine g_ialdv (v := nI (rw ((12 * (x.toInt.toNat)) + i))) hx hb hK 4 (hP.nth 5 rfl) rfl (by omega) (by decide) (rfl) dM_add_101 ?_
                      refine lv_iload_n hx hb dM_add_102 rfl (lv_at hl 3 rfl) ?_
                      refine n_icmp_ne (tgt := 108) hx hb (by omega) (by omega) dM_add_103 (by decide) (fun hc9 => ?_) (fun hc9 => ?_)
                      · refine lv_iinc (v := nI (i + 1)) (lv' := [(5, .int (nI (i + 1))), (4, .int (bI true)), (1, .int (nI (x.toInt.toNat))), (2, .int (nI (y.toInt.toNat))), (0, .ref (a 0)), (3, .int (bI tr))]) hx hb dM_add_108 hl (k := 0) rfl (nI_add i 1) (by decide) rfl (fun ls hl => ?_)
                        refine lv_goto (tgt := 79) hx hb dM_add_111 (by decide) ?_
                        exact ih (i + 1) (by omega) (by omega) (anyN_next hg0 (by simpa using hc9)) ls (lv_sub hl [0, 1, 2, 3, 4, 5] rfl)
                      · refine lv_iconst (v := nI 0) hx hb dM_add_106 (by decide) ?_
                        exact W.iret (v := nI 0) hx hb hr (fun t ht hW => ⟨⟨_, (mkM np nc pe an up dn rw so mn wd wv), rfl, by rw [opAdd, if_neg hno, if_neg hno3, if_neg (by omega), if_pos (anyN_hit hc (by simpa using hc9))], by show va_P D vwCl _ t.heap; rw [ht]; exact hP⟩, hS.F ht⟩) hS.2.2 dM_add_107
                exact loop (mn x.toInt.toNat + 1) 0 (by omega) (by omega) rfl ls (lv_sub hl [0, 1, 3, 4, 2, 5] rfl)
              · refine lv_bipush (v := (-4)) hx hb dM_add_73 (by decide) ?_
                exact W.iret (v := (-4)) hx hb hr (fun t ht hW => ⟨⟨_, (mkM np nc pe an up dn rw so mn wd wv), rfl, by rw [opAdd, if_neg hno, if_neg hno3, if_pos (by omega)], by show va_P D vwCl _ t.heap; rw [ht]; exact hP⟩, hS.F ht⟩) hS.2.2 dM_add_75
            · refine lv_bipush (v := (-3)) hx hb dM_add_59 (by decide) ?_
              exact W.iret (v := (-3)) hx hb hr (fun t ht hW => ⟨⟨_, (mkM np nc pe an up dn rw so mn wd wv), rfl, by rw [opAdd, if_neg hno, if_pos (by rw [hsm, show (pe y.toInt.toNat == 0) = true by simpa using q5]; rfl)], by show va_P D vwCl _ t.heap; rw [ht]; exact hP⟩, hS.F ht⟩) hS.2.2 dM_add_61
    · refine lv_iconst (v := (-1)) hx hb dM_add_21 (by decide) ?_
      exact W.iret (v := (-1)) hx hb hr (fun t ht hW => ⟨⟨_, (mkM np nc pe an up dn rw so mn wd wv), rfl, by rw [opAdd, if_pos (by rw [q1, q2]; rfl)], by show va_P D vwCl _ t.heap; rw [ht]; exact hP⟩, hS.F ht⟩) hS.2.2 dM_add_22
set_option maxHeartbeats 4000000 in
set_option maxRecDepth 100000 in
theorem n_worst (l : Launch) (D : va_G) (ka : Nat → ClassId) (H0 : Heap) (a : Nat → Nat) (tv np nc : Nat) (pe an up dn rw : Nat → Nat) (so : Nat → Bool) (mn : Nat → Nat) (wd : Nat → Bool) (wv : Nat → Int64) (x : Int32) (ag : Bool) (hM : va_P D vwCl (mW ka a tv np nc pe an up dn rw so mn wd wv) H0) (hO : mOk np nc pe an up dn rw so mn wd wv) (haI : ∀ i j, i < 10 → j < 10 → a i = a j → i = j)  : Met l yM_worst (.code yM_worst cM_worst 3 (some .long) :: gT) ({ frames := 4, cells := 0, slots := 0, locals := 91 }) (ro_Pc D vwCl (tyL ka) H0 [.ref (a 0), .int x, .int (bI ag)]) (va_Ql (fun (r : Int64) (u : Unit) => r = spWorst nc pe an up dn rw so mn x ag) (fun u t => va_P D vwCl (mW ka a 0 np nc pe an up dn rw so mn wd wv) t.heap) (mA a)) 0 0 (mA a) := by
  refine Met.ofW (cc := cM_worst) (maxL := 3) (ret := (some .long)) (by decide) rfl ?_
  intro p e s m args below meth c s₁ B hml hv
  obtain ⟨rfl, hH, hK, hN⟩ := hv
  subst hH
  have hx := B.exec
  have hb := B.bytes
  have hr := B.returns
  have hts : ∀ w ∈ gT, w.before ([.ref (a 0), .int x, .int (bI ag)] : List Value).toArray s = true := fun w h => atoms_spec (ws := (.code yM_worst cM_worst 3 (some .long) :: gT)) B.pre w (List.mem_cons_of_mem _ h)
  have hown : s.vm.findClass RM = some m.cls := findClass_of_methodNamed B.named
  have hlocks := B.notSynchronized
  have hl := lv_entry ([.ref (a 0), .int x, .int (bI ag)]) (n := 3) (Nat.le_of_ble_eq_true rfl)
  rw [lg_entry_eq]
  generalize (lg_sl ([.ref (a 0), .int x, .int (bI ag)]) ++ List.replicate (3 - (lg_sl ([.ref (a 0), .int x, .int (bI ag)])).length) Slot.unset).toArray = ls at hl ⊢
  have hl : lv_has ls 3 [(0, .ref (a 0)), (1, .int x), (2, .int (bI ag))] := hl
  have hP : va_P D vwCl (mW ka a tv np nc pe an up dn rw so mn wd wv) s.heap := hM
  have hD : va_D (mA a) (mW ka a tv np nc pe an up dn rw so mn wd wv) := mD haI
  have hS : va_S (mA a) s.heap s.heap [] := va_S.rf
  have hnp := hO.1
  have hnc := hO.2.1
  refine lv_aload_n hx hb dM_worst_0 rfl (lv_at hl 0 rfl) ?_
  refine lv_iconst (v := nI 0) hx hb dM_worst_1 (by decide) ?_
  refine va_put (D := D) (cl := vwCl) (ci := 3) (v := .int (nI 0)) (ty := .int) (C := RM) (T := TM) (N := 12) hx hb hts inM tyM tyM_ok nmM hown hK hP hD hS 0 rfl rfl 0 (by decide) (hts _ tb_300) (fun _ h9 => h9) rfl (by decide +kernel) rfl rfl (Nat.le_of_ble_eq_true rfl) dM_worst_2 (fun H locs hP hD hS => ?_)
  have hP : va_P D vwCl (mW ka a 0 np nc pe an up dn rw so mn wd wv) H := hP
  have hD : va_D (mA a) (mW ka a 0 np nc pe an up dn rw so mn wd wv) := hD
  refine lv_aload_n hx hb dM_worst_5 rfl (lv_at hl 0 rfl) ?_
  refine lv_iload_n hx hb dM_worst_6 rfl (lv_at hl 1 rfl) ?_
  refine vp_callSi (va_Run.run (va_runV (As := [.int x]) (rest := []) ⟨hx, hb, hml, hown, hts⟩ (m_isEmpty l D ka H a 0 np nc pe an up dn rw so mn wd wv x hP hO) (cw_V 1 hts tb_371 rfl rfl tb_368 tb_2 tb_370 ts_21 (by decide +kernel) ⟨Nat.le_of_ble_eq_true rfl, Nat.le_of_ble_eq_true rfl⟩) (ro_V (ci := 3) hK hN (hP.nth 0 rfl) rfl) rfl rfl hl.1 rfl (lv_room (Nat.le_of_ble_eq_true rfl)) dM_worst_7 ⟨Nat.zero_le _, Nat.zero_le _⟩)) (fun r er => ?_)
  subst er
  refine b_if_eq (tgt := 19) hx hb dM_worst_10 (by decide) (fun q1 => ?_) (fun q1 => ?_)
  · obtain ⟨ex, hc1, hc2, hn0⟩ := spEmp_f q1
    rw [ex] at hl
    have hmn := (hO.2.2.2.1 x.toInt.toNat hc1 hc2).1
    refine lv_iload_n hx hb dM_worst_19 rfl (lv_at hl 2 rfl) ?_
    refine b_if_eq (tgt := 31) hx hb dM_worst_20 (by decide) (fun q2 => ?_) (fun q2 => ?_)
    · refine lv_aload_n hx hb dM_worst_31 rfl (lv_at hl 0 rfl) ?_
      refine lv_iload_n hx hb dM_worst_32 rfl (lv_at hl 1 rfl) ?_
      refine vp_callSl (va_Run.run (va_runV (As := [.int (nI (x.toInt.toNat))]) (rest := []) ⟨hx, hb, hml, hown, hts⟩ (m_reaction l D ka H a 0 np nc pe an up dn rw so mn wd wv x.toInt.toNat hP hO hc1 hc2) (cw_V 1 hts tb_380 rfl rfl tb_377 tb_2 tb_379 ts_23 (by decide +kernel) ⟨Nat.le_of_ble_eq_true rfl, Nat.le_of_ble_eq_true rfl⟩) (ro_V (ci := 3) hK hN (hP.nth 0 rfl) rfl) rfl rfl hl.1 rfl (lv_room (Nat.le_of_ble_eq_true rfl)) dM_worst_33 ⟨Nat.zero_le _, Nat.zero_le _⟩)) (fun r er => ?_)
      subst er
      exact W.lret (v := lN (rea pe an up dn rw so mn x.toInt.toNat)) hx hb hr (fun t ht hW => ⟨⟨_, (), rfl, by rw [spWorst, if_neg (by rw [q1]; decide), if_neg (by rw [q2]; decide)], by show va_P D vwCl _ t.heap; rw [ht]; exact hP⟩, hS.F ht⟩) hS.2.2 dM_worst_36
    · refine lv_aload_n hx hb dM_worst_23 rfl (lv_at hl 0 rfl) ?_
      refine lv_iload_n hx hb dM_worst_24 rfl (lv_at hl 1 rfl) ?_
      refine vp_callSl (va_Run.run (va_runV (As := [.int (nI (x.toInt.toNat))]) (rest := []) ⟨hx, hb, hml, hown, hts⟩ (m_age l D ka H a 0 np nc pe an up dn rw so mn wd wv x.toInt.toNat hP hO hc1 hc2 hn0) (cw_V 1 hts tb_376 rfl rfl tb_373 tb_2 tb_375 ts_22 (by decide +kernel) ⟨Nat.le_of_ble_eq_true rfl, Nat.le_of_ble_eq_true rfl⟩) (ro_V (ci := 3) hK hN (hP.nth 0 rfl) rfl) rfl rfl hl.1 rfl (lv_room (Nat.le_of_ble_eq_true rfl)) dM_worst_25 ⟨Nat.zero_le _, Nat.zero_le _⟩)) (fun r er => ?_)
      subst er
      refine lv_goto (tgt := 36) hx hb dM_worst_28 (by decide) ?_
      exact W.lret (v := lN (ageN pe an up dn rw so mn x.toInt.toNat)) hx hb hr (fun t ht hW => ⟨⟨_, (), rfl, by rw [spWorst, if_neg (by rw [q1]; decide), if_pos q2], by show va_P D vwCl _ t.heap; rw [ht]; exact hP⟩, hS.F ht⟩) hS.2.2 dM_worst_36
  · refine lv_ldc2 (v := (-1)) hx hb hown (hts _ tb_372) dM_worst_13 ?_
    refine lv_goto (tgt := 36) hx hb dM_worst_16 (by decide) ?_
    exact W.lret (v := (-1)) hx hb hr (fun t ht hW => ⟨⟨_, (), rfl, by rw [spWorst, if_pos q1], by show va_P D vwCl _ t.heap; rw [ht]; exact hP⟩, hS.F ht⟩) hS.2.2 dM_worst_36
set_option maxHeartbeats 4000000 in
set_option maxRecDepth 100000 in
theorem n_best (l : Launch) (D : va_G) (ka : Nat → ClassId) (H0 : Heap) (a : Nat → Nat) (tv np nc : Nat) (pe an up dn rw : Nat → Nat) (so : Nat → Bool) (mn : Nat → Nat) (wd : Nat → Bool) (wv : Nat → Int64) (x : Int32) (ag : Bool) (hM : va_P D vwCl (mW ka a tv np nc pe an up dn rw so mn wd wv) H0) (hO : mOk np nc pe an up dn rw so mn wd wv) (haI : ∀ i j, i < 10 → j < 10 → a i = a j → i = j)  : Met l yM_best (.code yM_best cM_best 6 (some .long) :: gT) ({ frames := 2, cells := 0, slots := 0, locals := 42 }) (ro_Pc D vwCl (tyL ka) H0 [.ref (a 0), .int x, .int (bI ag)]) (va_Ql (fun (r : Int64) (u : Unit) => r = spBest nc an rw mn x ag) (fun u t => va_P D vwCl (mW ka a 0 np nc pe an up dn rw so mn wd wv) t.heap) (mA a)) 0 0 (mA a) := by
  refine Met.ofW (cc := cM_best) (maxL := 6) (ret := (some .long)) (by decide) rfl ?_
  intro p e s m args below meth c s₁ B hml hv
  obtain ⟨rfl, hH, hK, hN⟩ := hv
  subst hH
  have hx := B.exec
  have hb := B.bytes
  have hr := B.returns
  have hts : ∀ w ∈ gT, w.before ([.ref (a 0), .int x, .int (bI ag)] : List Value).toArray s = true := fun w h => atoms_spec (ws := (.code yM_best cM_best 6 (some .long) :: gT)) B.pre w (List.mem_cons_of_mem _ h)
  have hown : s.vm.findClass RM = some m.cls := findClass_of_methodNamed B.named
  have hlocks := B.notSynchronized
  have hl := lv_entry ([.ref (a 0), .int x, .int (bI ag)]) (n := 6) (Nat.le_of_ble_eq_true rfl)
  rw [lg_entry_eq]
  generalize (lg_sl ([.ref (a 0), .int x, .int (bI ag)]) ++ List.replicate (6 - (lg_sl ([.ref (a 0), .int x, .int (bI ag)])).length) Slot.unset).toArray = ls at hl ⊢
  have hl : lv_has ls 6 [(0, .ref (a 0)), (1, .int x), (2, .int (bI ag))] := hl
  have hP : va_P D vwCl (mW ka a tv np nc pe an up dn rw so mn wd wv) s.heap := hM
  have hD : va_D (mA a) (mW ka a tv np nc pe an up dn rw so mn wd wv) := mD haI
  have hS : va_S (mA a) s.heap s.heap [] := va_S.rf
  have hnp := hO.1
  have hnc := hO.2.1
  refine lv_aload_n hx hb dM_best_0 rfl (lv_at hl 0 rfl) ?_
  refine lv_iconst (v := nI 0) hx hb dM_best_1 (by decide) ?_
  refine va_put (D := D) (cl := vwCl) (ci := 3) (v := .int (nI 0)) (ty := .int) (C := RM) (T := TM) (N := 12) hx hb hts inM tyM tyM_ok nmM hown hK hP hD hS 0 rfl rfl 0 (by decide) (hts _ tb_300) (fun _ h9 => h9) rfl (by decide +kernel) rfl rfl (Nat.le_of_ble_eq_true rfl) dM_best_2 (fun H locs hP hD hS => ?_)
  have hP : va_P D vwCl (mW ka a 0 np nc pe an up dn rw so mn wd wv) H := hP
  have hD : va_D (mA a) (mW ka a 0 np nc pe an up dn rw so mn wd wv) := hD
  refine lv_aload_n hx hb dM_best_5 rfl (lv_at hl 0 rfl) ?_
  refine lv_iload_n hx hb dM_best_6 rfl (lv_at hl 1 rfl) ?_
  refine vp_callSi (va_Run.run (va_runV (As := [.int x]) (rest := []) ⟨hx, hb, hml, hown, hts⟩ (m_isEmpty l D ka H a 0 np nc pe an up dn rw so mn wd wv x hP hO) (cw_V 1 hts tb_371 rfl rfl tb_368 tb_2 tb_370 ts_21 (by decide +kernel) ⟨Nat.le_of_ble_eq_true rfl, Nat.le_of_ble_eq_true rfl⟩) (ro_V (ci := 3) hK hN (hP.nth 0 rfl) rfl) rfl rfl hl.1 rfl (lv_room (Nat.le_of_ble_eq_true rfl)) dM_best_7 ⟨Nat.zero_le _, Nat.zero_le _⟩)) (fun r er => ?_)
  subst er
  refine b_if_eq (tgt := 17) hx hb dM_best_10 (by decide) (fun q1 => ?_) (fun q1 => ?_)
  · obtain ⟨ex, hc1, hc2, hn0⟩ := spEmp_f q1
    rw [ex] at hl
    have hmn := (hO.2.2.2.1 x.toInt.toNat hc1 hc2).1
    refine lv_lconst (v := lN 0) hx hb dM_best_17 rfl ?_
    refine lv_lstore_n (lv' := [(3, .long (lN 0)), (0, .ref (a 0)), (1, .int (nI (x.toInt.toNat))), (2, .int (bI ag))]) hx hb dM_best_18 rfl hl (by decide) rfl (fun ls hl => ?_)
    refine lv_iload_n hx hb dM_best_19 rfl (lv_at hl 3 rfl) ?_
    refine b_if_eq (tgt := 27) hx hb dM_best_20 (by decide) (fun q2 => ?_) (fun q2 => ?_)
    · refine lv_iconst (v := nI 0) hx hb dM_best_27 (by decide) ?_
      refine lv_istore (lv' := [(5, .int (nI 0)), (3, .long (lN 0)), (0, .ref (a 0)), (1, .int (nI (x.toInt.toNat))), (2, .int (bI ag))]) hx hb dM_best_28 hl (by decide) rfl (fun ls hl => ?_)
      have loop : ∀ (fu i : Nat), i ≤ mn x.toInt.toNat → mn x.toInt.toNat < i + fu → 0 ≤ i → ∀ ls : Array Slot, lv_has ls 6 [(5, .int (nI i)), (3, .long (lN (sumN (qF an rw x.toInt.toNat) i - sumN (qF an rw x.toInt.toNat) 0))), (1, .int (nI (x.toInt.toNat))), (0, .ref (a 0))] → W p l e (headSpec (.code yM_best cM_best 6 (some .long) :: gT) ({ frames := 2, cells := 0, slots := 0, locals := 42 })).room s m ([.ref (a 0), .int x, .int (bI ag)] : List Value).toArray below meth c H locs 0 0 (MQ below (va_Ql (fun (r : Int64) (u : Unit) => r = spBest nc an rw mn x ag) (fun u t => va_P D vwCl (mW ka a 0 np nc pe an up dn rw so mn wd wv) t.heap) (mA a)) ([.ref (a 0), .int x, .int (bI ag)] : List Value).toArray s 0 0 (mA a)) (F0 m 30 ls []) := by
        intro fu
        induction fu with
        | zero => intro i h1 h2; exact absurd h2 (by omega)
        | succ fu ih =>
          intro i hi hf hg0 ls hl
          refine lv_iload hx hb dM_best_30 (lv_at hl 0 rfl) ?_
          refine lv_aload_n hx hb dM_best_32 rfl (lv_at hl 3 rfl) ?_
          refine g_get (cl := vwCl) (ci := 3) (v := .ref (a 7)) hx hb hts inM hown hK (hP.nth 0 rfl) rfl 9 (by decide) (hts _ tb_309) rfl dM_best_33 ?_
          refine lv_iload_n hx hb dM_best_36 rfl (lv_at hl 2 rfl) ?_
          refine g_ialdv (v := nI (mn (x.toInt.toNat))) hx hb hK 4 (hP.nth 7 rfl) rfl (by omega) (by decide) (rfl) dM_best_37 ?_
          refine n_icmp_ge (tgt := 67) hx hb (by omega) (by omega) dM_best_38 (by decide) (fun hc => ?_) (fun hc => ?_)
          · refine lv_lload_n hx hb dM_best_67 rfl (lv_at hl 1 rfl) ?_
            exact W.lret (v := lN (sumN (qF an rw x.toInt.toNat) i - sumN (qF an rw x.toInt.toNat) 0)) hx hb hr (fun t ht hW => ⟨⟨_, (), rfl, by rw [spBest, if_neg (by rw [q1]; decide), show i = mn x.toInt.toNat by omega, if_neg (by rw [q2]; decide)], by show va_P D vwCl _ t.heap; rw [ht]; exact hP⟩, hS.F ht⟩) hS.2.2 dM_best_68
          · have hR := hO.row hc1 hc2 hc
            have hmo := sumN_mono (f := (qF an rw x.toInt.toNat)) i 0 hg0
            refine lv_lload_n hx hb dM_best_41 rfl (lv_at hl 1 rfl) ?_
            refine lv_aload_n hx hb dM_best_42 rfl (lv_at hl 3 rfl) ?_
            refine g_get (cl := vwCl) (ci := 3) (v := .ref (a 2)) hx hb hts inM hown hK (hP.nth 0 rfl) rfl 3 (by decide) (hts _ tb_303) rfl dM_best_43 ?_
            refine lv_aload_n hx hb dM_best_46 rfl (lv_at hl 3 rfl) ?_
            refine g_get (cl := vwCl) (ci := 3) (v := .ref (a 5)) hx hb hts inM hown hK (hP.nth 0 rfl) rfl 7 (by decide) (hts _ tb_307) rfl dM_best_47 ?_
            refine lv_bipush (v := nI 12) hx hb dM_best_50 (by decide) ?_
            refine lv_iload_n hx hb dM_best_52 rfl (lv_at hl 2 rfl) ?_
            refine n_imul hx hb dM_best_53 ?_
            refine lv_iload hx hb dM_best_54 (lv_at hl 0 rfl) ?_
            refine n_iadd hx hb dM_best_56 ?_
            refine g_ialdv (v := nI (rw ((12 * (x.toInt.toNat)) + i))) hx hb hK 4 (hP.nth 5 rfl) rfl (by omega) (by decide) (rfl) dM_best_57 ?_
            refine g_laldv (v := lN (an (rw ((12 * (x.toInt.toNat)) + i)))) hx hb hK 3 (hP.nth 2 rfl) rfl (by omega) (by decide) (rfl) dM_best_58 ?_
            refine n_ladd hx hb dM_best_59 ?_
            refine lv_lstore_n (lv' := [(3, .long (lN ((sumN (qF an rw x.toInt.toNat) i - sumN (qF an rw x.toInt.toNat) 0) + (an (rw ((12 * (x.toInt.toNat)) + i)))))), (5, .int (nI i)), (1, .int (nI (x.toInt.toNat))), (0, .ref (a 0))]) hx hb dM_best_60 rfl hl (by decide) rfl (fun ls hl => ?_)
            refine lv_iinc (v := nI (i + 1)) (lv' := [(5, .int (nI (i + 1))), (3, .long (lN ((sumN (qF an rw x.toInt.toNat) i - sumN (qF an rw x.toInt.toNat) 0) + (an (rw ((12 * (x.toInt.toNat)) + i)))))), (1, .int (nI (x.toInt.toNat))), (0, .ref (a 0))]) hx hb dM_best_61 hl (k := 1) rfl (nI_add i 1) (by decide) rfl (fun ls hl => ?_)
            refine lv_goto (tgt := 30) hx hb dM_best_64 (by decide) ?_
            exact ih (i + 1) (by omega) (by omega) (by omega) ls (by rw [show sumN (qF an rw x.toInt.toNat) (i + 1) - sumN (qF an rw x.toInt.toNat) 0 = sumN (qF an rw x.toInt.toNat) i - sumN (qF an rw x.toInt.toNat) 0 + an (rw ((12 * x.toInt.toNat) + i)) from (by show sumN (qF an rw x.toInt.toNat) i + an (rw ((12 * x.toInt.toNat) + i)) - sumN (qF an rw x.toInt.toNat) 0 = _; omega)]; exact lv_sub hl [0, 1, 2, 3] rfl)
      exact loop (mn x.toInt.toNat + 1) 0 (by omega) (by omega) (Nat.le_refl _) ls (by rw [Nat.sub_self]; exact lv_sub hl [0, 1, 3, 2] rfl)
    · refine lv_iconst (v := nI 1) hx hb dM_best_23 (by decide) ?_
      refine lv_goto (tgt := 28) hx hb dM_best_24 (by decide) ?_
      refine lv_istore (lv' := [(5, .int (nI 1)), (3, .long (lN 0)), (0, .ref (a 0)), (1, .int (nI (x.toInt.toNat))), (2, .int (bI ag))]) hx hb dM_best_28 hl (by decide) rfl (fun ls hl => ?_)
      have loop : ∀ (fu i : Nat), i ≤ mn x.toInt.toNat → mn x.toInt.toNat < i + fu → 1 ≤ i → ∀ ls : Array Slot, lv_has ls 6 [(5, .int (nI i)), (3, .long (lN (sumN (qF an rw x.toInt.toNat) i - sumN (qF an rw x.toInt.toNat) 1))), (1, .int (nI (x.toInt.toNat))), (0, .ref (a 0))] → W p l e (headSpec (.code yM_best cM_best 6 (some .long) :: gT) ({ frames := 2, cells := 0, slots := 0, locals := 42 })).room s m ([.ref (a 0), .int x, .int (bI ag)] : List Value).toArray below meth c H locs 0 0 (MQ below (va_Ql (fun (r : Int64) (u : Unit) => r = spBest nc an rw mn x ag) (fun u t => va_P D vwCl (mW ka a 0 np nc pe an up dn rw so mn wd wv) t.heap) (mA a)) ([.ref (a 0), .int x, .int (bI ag)] : List Value).toArray s 0 0 (mA a)) (F0 m 30 ls []) := by
        intro fu
        induction fu with
        | zero => intro i h1 h2; exact absurd h2 (by omega)
        | succ fu ih =>
          intro i hi hf hg0 ls hl
          refine lv_iload hx hb dM_best_30 (lv_at hl 0 rfl) ?_
          refine lv_aload_n hx hb dM_best_32 rfl (lv_at hl 3 rfl) ?_
          refine g_get (cl := vwCl) (ci := 3) (v := .ref (a 7)) hx hb hts inM hown hK (hP.nth 0 rfl) rfl 9 (by decide) (hts _ tb_309) rfl dM_best_33 ?_
          refine lv_iload_n hx hb dM_best_36 rfl (lv_at hl 2 rfl) ?_
          refine g_ialdv (v := nI (mn (x.toInt.toNat))) hx hb hK 4 (hP.nth 7 rfl) rfl (by omega) (by decide) (rfl) dM_best_37 ?_
          refine n_icmp_ge (tgt := 67) hx hb (by omega) (by omega) dM_best_38 (by decide) (fun hc => ?_) (fun hc => ?_)
          · refine lv_lload_n hx hb dM_best_67 rfl (lv_at hl 1 rfl) ?_
            exact W.lret (v := lN (sumN (qF an rw x.toInt.toNat) i - sumN (qF an rw x.toInt.toNat) 1)) hx hb hr (fun t ht hW => ⟨⟨_, (), rfl, by rw [spBest, if_neg (by rw [q1]; decide), show i = mn x.toInt.toNat by omega, if_pos q2], by show va_P D vwCl _ t.heap; rw [ht]; exact hP⟩, hS.F ht⟩) hS.2.2 dM_best_68
          · have hR := hO.row hc1 hc2 hc
            have hmo := sumN_mono (f := (qF an rw x.toInt.toNat)) i 1 hg0
            refine lv_lload_n hx hb dM_best_41 rfl (lv_at hl 1 rfl) ?_
            refine lv_aload_n hx hb dM_best_42 rfl (lv_at hl 3 rfl) ?_
            refine g_get (cl := vwCl) (ci := 3) (v := .ref (a 2)) hx hb hts inM hown hK (hP.nth 0 rfl) rfl 3 (by decide) (hts _ tb_303) rfl dM_best_43 ?_
            refine lv_aload_n hx hb dM_best_46 rfl (lv_at hl 3 rfl) ?_
            refine g_get (cl := vwCl) (ci := 3) (v := .ref (a 5)) hx hb hts inM hown hK (hP.nth 0 rfl) rfl 7 (by decide) (hts _ tb_307) rfl dM_best_47 ?_
            refine lv_bipush (v := nI 12) hx hb dM_best_50 (by decide) ?_
            refine lv_iload_n hx hb dM_best_52 rfl (lv_at hl 2 rfl) ?_
            refine n_imul hx hb dM_best_53 ?_
            refine lv_iload hx hb dM_best_54 (lv_at hl 0 rfl) ?_
            refine n_iadd hx hb dM_best_56 ?_
            refine g_ialdv (v := nI (rw ((12 * (x.toInt.toNat)) + i))) hx hb hK 4 (hP.nth 5 rfl) rfl (by omega) (by decide) (rfl) dM_best_57 ?_
            refine g_laldv (v := lN (an (rw ((12 * (x.toInt.toNat)) + i)))) hx hb hK 3 (hP.nth 2 rfl) rfl (by omega) (by decide) (rfl) dM_best_58 ?_
            refine n_ladd hx hb dM_best_59 ?_
            refine lv_lstore_n (lv' := [(3, .long (lN ((sumN (qF an rw x.toInt.toNat) i - sumN (qF an rw x.toInt.toNat) 1) + (an (rw ((12 * (x.toInt.toNat)) + i)))))), (5, .int (nI i)), (1, .int (nI (x.toInt.toNat))), (0, .ref (a 0))]) hx hb dM_best_60 rfl hl (by decide) rfl (fun ls hl => ?_)
            refine lv_iinc (v := nI (i + 1)) (lv' := [(5, .int (nI (i + 1))), (3, .long (lN ((sumN (qF an rw x.toInt.toNat) i - sumN (qF an rw x.toInt.toNat) 1) + (an (rw ((12 * (x.toInt.toNat)) + i)))))), (1, .int (nI (x.toInt.toNat))), (0, .ref (a 0))]) hx hb dM_best_61 hl (k := 1) rfl (nI_add i 1) (by decide) rfl (fun ls hl => ?_)
            refine lv_goto (tgt := 30) hx hb dM_best_64 (by decide) ?_
            exact ih (i + 1) (by omega) (by omega) (by omega) ls (by rw [show sumN (qF an rw x.toInt.toNat) (i + 1) - sumN (qF an rw x.toInt.toNat) 1 = sumN (qF an rw x.toInt.toNat) i - sumN (qF an rw x.toInt.toNat) 1 + an (rw ((12 * x.toInt.toNat) + i)) from (by show sumN (qF an rw x.toInt.toNat) i + an (rw ((12 * x.toInt.toNat) + i)) - sumN (qF an rw x.toInt.toNat) 1 = _; omega)]; exact lv_sub hl [0, 1, 2, 3] rfl)
      exact loop (mn x.toInt.toNat + 1) 1 (by omega) (by omega) (Nat.le_refl _) ls (by rw [Nat.sub_self]; exact lv_sub hl [0, 1, 3, 2] rfl)
  · refine lv_ldc2 (v := (-1)) hx hb hown (hts _ tb_372) dM_best_13 ?_
    exact W.lret (v := (-1)) hx hb hr (fun t ht hW => ⟨⟨_, (), rfl, by rw [spBest, if_pos q1], by show va_P D vwCl _ t.heap; rw [ht]; exact hP⟩, hS.F ht⟩) hS.2.2 dM_best_16
set_option maxHeartbeats 4000000 in
set_option maxRecDepth 100000 in
theorem n_plain (l : Launch) (D : va_G) (ka : Nat → ClassId) (H0 : Heap) (a : Nat → Nat) (tv np nc : Nat) (pe an up dn rw : Nat → Nat) (so : Nat → Bool) (mn : Nat → Nat) (wd : Nat → Bool) (wv : Nat → Int64) (x : Int32) (hM : va_P D vwCl (mW ka a tv np nc pe an up dn rw so mn wd wv) H0) (hO : mOk np nc pe an up dn rw so mn wd wv) (haI : ∀ i j, i < 10 → j < 10 → a i = a j → i = j)  : Met l yM_plain (.code yM_plain cM_plain 2 (some .boolean) :: gT) ({ frames := 3, cells := 0, slots := 0, locals := 81 }) (ro_Pc D vwCl (tyL ka) H0 [.ref (a 0), .int x]) (va_Qi (fun (r : Int32) (u : Unit) => r = bI (spPlain nc pe up rw so mn x)) (fun u t => va_P D vwCl (mW ka a 0 np nc pe an up dn rw so mn wd wv) t.heap) (mA a)) 0 0 (mA a) := by
  refine Met.ofW (cc := cM_plain) (maxL := 2) (ret := (some .boolean)) (by decide) rfl ?_
  intro p e s m args below meth c s₁ B hml hv
  obtain ⟨rfl, hH, hK, hN⟩ := hv
  subst hH
  have hx := B.exec
  have hb := B.bytes
  have hr := B.returns
  have hts : ∀ w ∈ gT, w.before ([.ref (a 0), .int x] : List Value).toArray s = true := fun w h => atoms_spec (ws := (.code yM_plain cM_plain 2 (some .boolean) :: gT)) B.pre w (List.mem_cons_of_mem _ h)
  have hown : s.vm.findClass RM = some m.cls := findClass_of_methodNamed B.named
  have hlocks := B.notSynchronized
  have hl := lv_entry ([.ref (a 0), .int x]) (n := 2) (Nat.le_of_ble_eq_true rfl)
  rw [lg_entry_eq]
  generalize (lg_sl ([.ref (a 0), .int x]) ++ List.replicate (2 - (lg_sl ([.ref (a 0), .int x])).length) Slot.unset).toArray = ls at hl ⊢
  have hl : lv_has ls 2 [(0, .ref (a 0)), (1, .int x)] := hl
  have hP : va_P D vwCl (mW ka a tv np nc pe an up dn rw so mn wd wv) s.heap := hM
  have hD : va_D (mA a) (mW ka a tv np nc pe an up dn rw so mn wd wv) := mD haI
  have hS : va_S (mA a) s.heap s.heap [] := va_S.rf
  have hnp := hO.1
  have hnc := hO.2.1
  refine lv_aload_n hx hb dM_plain_0 rfl (lv_at hl 0 rfl) ?_
  refine lv_iconst (v := nI 0) hx hb dM_plain_1 (by decide) ?_
  refine va_put (D := D) (cl := vwCl) (ci := 3) (v := .int (nI 0)) (ty := .int) (C := RM) (T := TM) (N := 12) hx hb hts inM tyM tyM_ok nmM hown hK hP hD hS 0 rfl rfl 0 (by decide) (hts _ tb_300) (fun _ h9 => h9) rfl (by decide +kernel) rfl rfl (Nat.le_of_ble_eq_true rfl) dM_plain_2 (fun H locs hP hD hS => ?_)
  have hP : va_P D vwCl (mW ka a 0 np nc pe an up dn rw so mn wd wv) H := hP
  have hD : va_D (mA a) (mW ka a 0 np nc pe an up dn rw so mn wd wv) := hD
  refine lv_aload_n hx hb dM_plain_5 rfl (lv_at hl 0 rfl) ?_
  refine lv_iload_n hx hb dM_plain_6 rfl (lv_at hl 1 rfl) ?_
  refine vp_callSi (va_Run.run (va_runV (As := [.int x]) (rest := []) ⟨hx, hb, hml, hown, hts⟩ (m_isEmpty l D ka H a 0 np nc pe an up dn rw so mn wd wv x hP hO) (cw_V 1 hts tb_371 rfl rfl tb_368 tb_2 tb_370 ts_21 (by decide +kernel) ⟨Nat.le_of_ble_eq_true rfl, Nat.le_of_ble_eq_true rfl⟩) (ro_V (ci := 3) hK hN (hP.nth 0 rfl) rfl) rfl rfl hl.1 rfl (lv_room (Nat.le_of_ble_eq_true rfl)) dM_plain_7 ⟨Nat.zero_le _, Nat.zero_le _⟩)) (fun r er => ?_)
  subst er
  refine b_if_ne (tgt := 25) hx hb dM_plain_10 (by decide) (fun q1 => ?_) (fun q1 => ?_)
  · refine lv_iconst (v := nI 0) hx hb dM_plain_25 (by decide) ?_
    exact W.zret (v := nI 0) (ty := .boolean) hx hb hr (by decide) (fun t ht hW => ⟨⟨_, (), rfl, by rw [spPlain, q1]; rfl, by show va_P D vwCl _ t.heap; rw [ht]; exact hP⟩, hS.F ht⟩) hS.2.2 dM_plain_26
  · obtain ⟨ex, hc1, hc2, hn0⟩ := spEmp_f q1
    rw [ex] at hl
    have hmn := (hO.2.2.2.1 x.toInt.toNat hc1 hc2).1
    refine lv_aload_n hx hb dM_plain_13 rfl (lv_at hl 0 rfl) ?_
    refine lv_iload_n hx hb dM_plain_14 rfl (lv_at hl 1 rfl) ?_
    refine vp_callSi (va_Run.run (va_runV (As := [.int (nI (x.toInt.toNat))]) (rest := []) ⟨hx, hb, hml, hown, hts⟩ (m_isPlain l D ka H a 0 np nc pe an up dn rw so mn wd wv x.toInt.toNat hP hO hc1 hc2) (cw_V 1 hts tb_426 rfl rfl tb_423 tb_2 tb_425 ts_27 (by decide +kernel) ⟨Nat.le_of_ble_eq_true rfl, Nat.le_of_ble_eq_true rfl⟩) (ro_V (ci := 3) hK hN (hP.nth 0 rfl) rfl) rfl rfl hl.1 rfl (lv_room (Nat.le_of_ble_eq_true rfl)) dM_plain_15 ⟨Nat.zero_le _, Nat.zero_le _⟩)) (fun r er => ?_)
    subst er
    refine b_if_eq (tgt := 25) hx hb dM_plain_18 (by decide) (fun q2 => ?_) (fun q2 => ?_)
    · refine lv_iconst (v := nI 0) hx hb dM_plain_25 (by decide) ?_
      exact W.zret (v := nI 0) (ty := .boolean) hx hb hr (by decide) (fun t ht hW => ⟨⟨_, (), rfl, by rw [spPlain, q1, q2]; rfl, by show va_P D vwCl _ t.heap; rw [ht]; exact hP⟩, hS.F ht⟩) hS.2.2 dM_plain_26
    · refine lv_iconst (v := nI 1) hx hb dM_plain_21 (by decide) ?_
      refine lv_goto (tgt := 26) hx hb dM_plain_22 (by decide) ?_
      exact W.zret (v := nI 1) (ty := .boolean) hx hb hr (by decide) (fun t ht hW => ⟨⟨_, (), rfl, by rw [spPlain, q1, q2]; rfl, by show va_P D vwCl _ t.heap; rw [ht]; exact hP⟩, hS.F ht⟩) hS.2.2 dM_plain_26
set_option maxHeartbeats 4000000 in
set_option maxRecDepth 100000 in
theorem n_clock (l : Launch) (D : va_G) (ka : Nat → ClassId) (H0 : Heap) (a : Nat → Nat) (tv np nc : Nat) (pe an up dn rw : Nat → Nat) (so : Nat → Bool) (mn : Nat → Nat) (wd : Nat → Bool) (wv : Nat → Int64) (x : Int32) (uu dd : Int64) (hM : va_P D vwCl (mW ka a tv np nc pe an up dn rw so mn wd wv) H0) (hO : mOk np nc pe an up dn rw so mn wd wv) (haI : ∀ i j, i < 10 → j < 10 → a i = a j → i = j)  : Met l yM_clock (.code yM_clock cM_clock 6 (some .int) :: gT) ({ frames := 1, cells := 0, slots := 0, locals := 21 }) (ro_Pc D vwCl (tyL ka) H0 [.ref (a 0), .int x, .long uu, .long dd]) (va_Qi (fun (r : Int32) (u : MSt) => (u, r) = opClock np nc pe an up dn rw so mn wd wv x uu dd) (fun u t => va_P D vwCl (mWs ka a 0 u) t.heap) (mA a)) 0 0 (mA a) := by
  refine Met.ofW (cc := cM_clock) (maxL := 6) (ret := (some .int)) (by decide) rfl ?_
  intro p e s m args below meth c s₁ B hml hv
  obtain ⟨rfl, hH, hK, hN⟩ := hv
  subst hH
  have hx := B.exec
  have hb := B.bytes
  have hr := B.returns
  have hts : ∀ w ∈ gT, w.before ([.ref (a 0), .int x, .long uu, .long dd] : List Value).toArray s = true := fun w h => atoms_spec (ws := (.code yM_clock cM_clock 6 (some .int) :: gT)) B.pre w (List.mem_cons_of_mem _ h)
  have hown : s.vm.findClass RM = some m.cls := findClass_of_methodNamed B.named
  have hlocks := B.notSynchronized
  have hl := lv_entry ([.ref (a 0), .int x, .long uu, .long dd]) (n := 6) (Nat.le_of_ble_eq_true rfl)
  rw [lg_entry_eq]
  generalize (lg_sl ([.ref (a 0), .int x, .long uu, .long dd]) ++ List.replicate (6 - (lg_sl ([.ref (a 0), .int x, .long uu, .long dd])).length) Slot.unset).toArray = ls at hl ⊢
  have hl : lv_has ls 6 [(0, .ref (a 0)), (1, .int x), (2, .long uu), (4, .long dd)] := hl
  have hP : va_P D vwCl (mW ka a tv np nc pe an up dn rw so mn wd wv) s.heap := hM
  have hD : va_D (mA a) (mW ka a tv np nc pe an up dn rw so mn wd wv) := mD haI
  have hS : va_S (mA a) s.heap s.heap [] := va_S.rf
  have hnp := hO.1
  have hnc := hO.2.1
  have z0 : (lN 0).toInt = 0 := by decide +kernel
  have z1 : (lN 1).toInt = 1 := by decide +kernel
  have zb : (lN 1000000).toInt = 1000000 := by decide +kernel
  refine lv_aload_n hx hb dM_clock_0 rfl (lv_at hl 0 rfl) ?_
  refine lv_iconst (v := nI 0) hx hb dM_clock_1 (by decide) ?_
  refine va_put (D := D) (cl := vwCl) (ci := 3) (v := .int (nI 0)) (ty := .int) (C := RM) (T := TM) (N := 12) hx hb hts inM tyM tyM_ok nmM hown hK hP hD hS 0 rfl rfl 0 (by decide) (hts _ tb_300) (fun _ h9 => h9) rfl (by decide +kernel) rfl rfl (Nat.le_of_ble_eq_true rfl) dM_clock_2 (fun H locs hP hD hS => ?_)
  have hP : va_P D vwCl (mW ka a 0 np nc pe an up dn rw so mn wd wv) H := hP
  have hD : va_D (mA a) (mW ka a 0 np nc pe an up dn rw so mn wd wv) := hD
  refine lv_aload_n hx hb dM_clock_5 rfl (lv_at hl 0 rfl) ?_
  refine lv_iload_n hx hb dM_clock_6 rfl (lv_at hl 1 rfl) ?_
  refine vp_callSi (va_Run.run (va_runV (As := [.int x]) (rest := []) ⟨hx, hb, hml, hown, hts⟩ (m_noPiece l D ka H a 0 np nc pe an up dn rw so mn wd wv x hP hO) (cw_V 1 hts tb_363 rfl rfl tb_360 tb_2 tb_362 ts_20 (by decide +kernel) ⟨Nat.le_of_ble_eq_true rfl, Nat.le_of_ble_eq_true rfl⟩) (ro_V (ci := 3) hK hN (hP.nth 0 rfl) rfl) rfl rfl hl.1 rfl (lv_room (Nat.le_of_ble_eq_true rfl)) dM_clock_7 ⟨Nat.zero_le _, Nat.zero_le _⟩)) (fun r er => ?_)
  subst er
  refine b_if_eq (tgt := 15) hx hb dM_clock_10 (by decide) (fun q0 => ?_) (fun q0 => ?_)
  · have hno : ¬ cNo x np = true := by rw [q0]; decide
    obtain ⟨ex1, hc11, hc21⟩ := cNo_nI q0
    rw [ex1] at hl
    have hpb := hO.2.2.1 x.toInt.toNat hc11 hc21
    refine lv_lload hx hb dM_clock_15 (lv_at hl 3 rfl) ?_
    refine lv_lconst (v := lN 1) hx hb dM_clock_17 rfl ?_
    refine r_lcmp_lt (tgt := 46) hx hb dM_clock_18 dM_clock_19 (by decide) (fun q1 => ?_) (fun q1 => ?_)
    · refine lv_bipush (v := (-2)) hx hb dM_clock_46 (by decide) ?_
      exact W.iret (v := (-2)) hx hb hr (fun t ht hW => ⟨⟨_, (mkM np nc pe an up dn rw so mn wd wv), rfl, by rw [opClock, if_neg hno, if_pos (by omega)], by show va_P D vwCl _ t.heap; rw [ht]; exact hP⟩, hS.F ht⟩) hS.2.2 dM_clock_48
    · refine lv_lload hx hb dM_clock_22 (lv_at hl 3 rfl) ?_
      refine lv_ldc2 (v := lN 1000000) hx hb hown (hts _ tb_397) dM_clock_24 ?_
      refine r_lcmp_gt (tgt := 46) hx hb dM_clock_27 dM_clock_28 (by decide) (fun q2 => ?_) (fun q2 => ?_)
      · refine lv_bipush (v := (-2)) hx hb dM_clock_46 (by decide) ?_
        exact W.iret (v := (-2)) hx hb hr (fun t ht hW => ⟨⟨_, (mkM np nc pe an up dn rw so mn wd wv), rfl, by rw [opClock, if_neg hno, if_pos (by omega)], by show va_P D vwCl _ t.heap; rw [ht]; exact hP⟩, hS.F ht⟩) hS.2.2 dM_clock_48
      · refine lv_lload_n hx hb dM_clock_31 rfl (lv_at hl 2 rfl) ?_
        refine lv_lconst (v := lN 0) hx hb dM_clock_32 rfl ?_
        refine r_lcmp_lt (tgt := 46) hx hb dM_clock_33 dM_clock_34 (by decide) (fun q3 => ?_) (fun q3 => ?_)
        · refine lv_bipush (v := (-2)) hx hb dM_clock_46 (by decide) ?_
          exact W.iret (v := (-2)) hx hb hr (fun t ht hW => ⟨⟨_, (mkM np nc pe an up dn rw so mn wd wv), rfl, by rw [opClock, if_neg hno, if_pos (by omega)], by show va_P D vwCl _ t.heap; rw [ht]; exact hP⟩, hS.F ht⟩) hS.2.2 dM_clock_48
        · obtain ⟨ed, hd9⟩ := lon_of (x := dd) (n := 1000000) (by omega) (by omega)
          have hd1 : 1 ≤ dd.toInt.toNat := by omega
          rw [ed] at hl
          refine lv_lload_n hx hb dM_clock_37 rfl (lv_at hl 2 rfl) ?_
          refine lv_lload hx hb dM_clock_38 (lv_at hl 3 rfl) ?_
          refine lv_lconst (v := lN 1) hx hb dM_clock_40 rfl ?_
          refine n_lsub hx hb (by omega) dM_clock_41 ?_
          have zd : (lN (dd.toInt.toNat - 1)).toInt = dd.toInt - 1 := by rw [pk_lT (by omega)]; omega
          refine r_lcmp_le (tgt := 49) hx hb dM_clock_42 dM_clock_43 (by decide) (fun q4 => ?_) (fun q4 => ?_)
          · obtain ⟨eu2, hu9⟩ := lon_of (x := uu) (n := 1000000) (by omega) (by omega)
            rw [eu2] at hl
            have hok : ¬ (dd.toInt < 1 ∨ 1000000 < dd.toInt ∨ uu.toInt < 0 ∨ dd.toInt ≤ uu.toInt) := by omega
            refine lv_aload_n hx hb dM_clock_49 rfl (lv_at hl 0 rfl) ?_
            refine g_get (cl := vwCl) (ci := 3) (v := .ref (a 3)) hx hb hts inM hown hK (hP.nth 0 rfl) rfl 4 (by decide) (hts _ tb_304) rfl dM_clock_50 ?_
            refine lv_iload_n hx hb dM_clock_53 rfl (lv_at hl 1 rfl) ?_
            refine lv_lload_n hx hb dM_clock_54 rfl (lv_at hl 2 rfl) ?_
            refine g_last hx hb hK hP hD hS 3 3 rfl rfl (by omega) (by decide) upL dM_clock_55 (fun H locs hP hD hS => ?_)
            have hP : va_P D vwCl (mW ka a 0 np nc pe an (va_up up (x.toInt.toNat) (uu.toInt.toNat)) dn rw so mn wd wv) H := hP
            have hD : va_D (mA a) (mW ka a 0 np nc pe an (va_up up (x.toInt.toNat) (uu.toInt.toNat)) dn rw so mn wd wv) := hD
            refine lv_aload_n hx hb dM_clock_56 rfl (lv_at hl 0 rfl) ?_
            refine g_get (cl := vwCl) (ci := 3) (v := .ref (a 4)) hx hb hts inM hown hK (hP.nth 0 rfl) rfl 5 (by decide) (hts _ tb_305) rfl dM_clock_57 ?_
            refine lv_iload_n hx hb dM_clock_60 rfl (lv_at hl 1 rfl) ?_
            refine lv_lload hx hb dM_clock_61 (lv_at hl 3 rfl) ?_
            refine g_last hx hb hK hP hD hS 4 3 rfl rfl (by omega) (by decide) upL dM_clock_63 (fun H locs hP hD hS => ?_)
            have hP : va_P D vwCl (mW ka a 0 np nc pe an (va_up up (x.toInt.toNat) (uu.toInt.toNat)) (va_up dn (x.toInt.toNat) (dd.toInt.toNat)) rw so mn wd wv) H := hP
            have hD : va_D (mA a) (mW ka a 0 np nc pe an (va_up up (x.toInt.toNat) (uu.toInt.toNat)) (va_up dn (x.toInt.toNat) (dd.toInt.toNat)) rw so mn wd wv) := hD
            refine lv_aload_n hx hb dM_clock_64 rfl (lv_at hl 0 rfl) ?_
            refine lv_iload_n hx hb dM_clock_65 rfl (lv_at hl 1 rfl) ?_
            have hO2 : mOk np nc pe an (va_up up x.toInt.toNat uu.toInt.toNat) (va_up dn x.toInt.toNat dd.toInt.toNat) rw so mn wd wv := mOk_clock hO hc11 hc21 (by omega) (by omega)
            refine vp_callSl (va_Run.run (va_runV (As := [.int (nI (x.toInt.toNat))]) (rest := []) ⟨hx, hb, hml, hown, hts⟩ (m_longPeriod l D ka H a 0 np nc pe an (va_up up (x.toInt.toNat) (uu.toInt.toNat)) (va_up dn (x.toInt.toNat) (dd.toInt.toNat)) rw so mn wd wv x.toInt.toNat hP hO2 hc11 hc21) (cw_V 1 hts tb_388 rfl rfl tb_385 tb_2 tb_387 ts_25 (by decide +kernel) ⟨Nat.le_of_ble_eq_true rfl, Nat.le_of_ble_eq_true rfl⟩) (ro_V (ci := 3) hK hN (hP.nth 0 rfl) rfl) rfl rfl hl.1 rfl (lv_room (Nat.le_of_ble_eq_true rfl)) dM_clock_66 ⟨Nat.zero_le _, Nat.zero_le _⟩)) (fun r er => ?_)
            subst er
            refine n_l2i hx hb dM_clock_69 ?_
            exact W.iret (v := nI (lgP (pe x.toInt.toNat) (va_up up x.toInt.toNat uu.toInt.toNat x.toInt.toNat) (va_up dn x.toInt.toNat dd.toInt.toNat x.toInt.toNat))) hx hb hr (fun t ht hW => ⟨⟨_, (mkM np nc pe an (va_up up (x.toInt.toNat) (uu.toInt.toNat)) (va_up dn (x.toInt.toNat) (dd.toInt.toNat)) rw so mn wd wv), rfl, by rw [opClock, if_neg hno, if_neg hok, va_up_self, va_up_self], by show va_P D vwCl _ t.heap; rw [ht]; exact hP⟩, hS.F ht⟩) hS.2.2 dM_clock_70
          · refine lv_bipush (v := (-2)) hx hb dM_clock_46 (by decide) ?_
            exact W.iret (v := (-2)) hx hb hr (fun t ht hW => ⟨⟨_, (mkM np nc pe an up dn rw so mn wd wv), rfl, by rw [opClock, if_neg hno, if_pos (by omega)], by show va_P D vwCl _ t.heap; rw [ht]; exact hP⟩, hS.F ht⟩) hS.2.2 dM_clock_48
  · refine lv_iconst (v := (-1)) hx hb dM_clock_13 (by decide) ?_
    exact W.iret (v := (-1)) hx hb hr (fun t ht hW => ⟨⟨_, (mkM np nc pe an up dn rw so mn wd wv), rfl, by rw [opClock, if_pos q0], by show va_P D vwCl _ t.heap; rw [ht]; exact hP⟩, hS.F ht⟩) hS.2.2 dM_clock_14
set_option maxHeartbeats 4000000 in
set_option maxRecDepth 100000 in
theorem n_wish (l : Launch) (D : va_G) (ka : Nat → ClassId) (H0 : Heap) (a : Nat → Nat) (tv np nc : Nat) (pe an up dn rw : Nat → Nat) (so : Nat → Bool) (mn : Nat → Nat) (wd : Nat → Bool) (wv : Nat → Int64) (x : Int32) (mi : Int64) (hM : va_P D vwCl (mW ka a tv np nc pe an up dn rw so mn wd wv) H0) (hO : mOk np nc pe an up dn rw so mn wd wv) (haI : ∀ i j, i < 10 → j < 10 → a i = a j → i = j)  : Met l yM_wish (.code yM_wish cM_wish 4 (some .int) :: gT) ({ frames := 3, cells := 0, slots := 0, locals := 68 }) (ro_Pc D vwCl (tyL ka) H0 [.ref (a 0), .int x, .long mi]) (va_Qi (fun (r : Int32) (u : MSt) => (u, r) = opWish np nc pe an up dn rw so mn wd wv x mi) (fun u t => va_P D vwCl (mWs ka a 0 u) t.heap) (mA a)) 0 0 (mA a) := by
  refine Met.ofW (cc := cM_wish) (maxL := 4) (ret := (some .int)) (by decide) rfl ?_
  intro p e s m args below meth c s₁ B hml hv
  obtain ⟨rfl, hH, hK, hN⟩ := hv
  subst hH
  have hx := B.exec
  have hb := B.bytes
  have hr := B.returns
  have hts : ∀ w ∈ gT, w.before ([.ref (a 0), .int x, .long mi] : List Value).toArray s = true := fun w h => atoms_spec (ws := (.code yM_wish cM_wish 4 (some .int) :: gT)) B.pre w (List.mem_cons_of_mem _ h)
  have hown : s.vm.findClass RM = some m.cls := findClass_of_methodNamed B.named
  have hlocks := B.notSynchronized
  have hl := lv_entry ([.ref (a 0), .int x, .long mi]) (n := 4) (Nat.le_of_ble_eq_true rfl)
  rw [lg_entry_eq]
  generalize (lg_sl ([.ref (a 0), .int x, .long mi]) ++ List.replicate (4 - (lg_sl ([.ref (a 0), .int x, .long mi])).length) Slot.unset).toArray = ls at hl ⊢
  have hl : lv_has ls 4 [(0, .ref (a 0)), (1, .int x), (2, .long mi)] := hl
  have hP : va_P D vwCl (mW ka a tv np nc pe an up dn rw so mn wd wv) s.heap := hM
  have hD : va_D (mA a) (mW ka a tv np nc pe an up dn rw so mn wd wv) := mD haI
  have hS : va_S (mA a) s.heap s.heap [] := va_S.rf
  have hnp := hO.1
  have hnc := hO.2.1
  have z0 : (lN 0).toInt = 0 := by decide +kernel
  refine lv_aload_n hx hb dM_wish_0 rfl (lv_at hl 0 rfl) ?_
  refine lv_iconst (v := nI 0) hx hb dM_wish_1 (by decide) ?_
  refine va_put (D := D) (cl := vwCl) (ci := 3) (v := .int (nI 0)) (ty := .int) (C := RM) (T := TM) (N := 12) hx hb hts inM tyM tyM_ok nmM hown hK hP hD hS 0 rfl rfl 0 (by decide) (hts _ tb_300) (fun _ h9 => h9) rfl (by decide +kernel) rfl rfl (Nat.le_of_ble_eq_true rfl) dM_wish_2 (fun H locs hP hD hS => ?_)
  have hP : va_P D vwCl (mW ka a 0 np nc pe an up dn rw so mn wd wv) H := hP
  have hD : va_D (mA a) (mW ka a 0 np nc pe an up dn rw so mn wd wv) := hD
  refine lv_aload_n hx hb dM_wish_5 rfl (lv_at hl 0 rfl) ?_
  refine lv_iload_n hx hb dM_wish_6 rfl (lv_at hl 1 rfl) ?_
  refine vp_callSi (va_Run.run (va_runV (As := [.int x]) (rest := []) ⟨hx, hb, hml, hown, hts⟩ (m_isEmpty l D ka H a 0 np nc pe an up dn rw so mn wd wv x hP hO) (cw_V 1 hts tb_371 rfl rfl tb_368 tb_2 tb_370 ts_21 (by decide +kernel) ⟨Nat.le_of_ble_eq_true rfl, Nat.le_of_ble_eq_true rfl⟩) (ro_V (ci := 3) hK hN (hP.nth 0 rfl) rfl) rfl rfl hl.1 rfl (lv_room (Nat.le_of_ble_eq_true rfl)) dM_wish_7 ⟨Nat.zero_le _, Nat.zero_le _⟩)) (fun r er => ?_)
  subst er
  refine b_if_eq (tgt := 15) hx hb dM_wish_10 (by decide) (fun q1 => ?_) (fun q1 => ?_)
  · have hno : ¬ spEmp nc mn x = true := by rw [q1]; decide
    obtain ⟨ex, hc1, hc2, hn0⟩ := spEmp_f q1
    rw [ex] at hl
    have hmn := (hO.2.2.2.1 x.toInt.toNat hc1 hc2).1
    refine lv_lload_n hx hb dM_wish_15 rfl (lv_at hl 2 rfl) ?_
    refine lv_lconst (v := lN 0) hx hb dM_wish_16 rfl ?_
    refine r_lcmp_ge (tgt := 24) hx hb dM_wish_17 dM_wish_18 (by decide) (fun q2 => ?_) (fun q2 => ?_)
    · refine lv_aload_n hx hb dM_wish_24 rfl (lv_at hl 0 rfl) ?_
      refine g_get (cl := vwCl) (ci := 3) (v := .ref (a 8)) hx hb hts inM hown hK (hP.nth 0 rfl) rfl 10 (by decide) (hts _ tb_310) rfl dM_wish_25 ?_
      refine lv_iload_n hx hb dM_wish_28 rfl (lv_at hl 1 rfl) ?_
      refine lv_iconst (v := nI 1) hx hb dM_wish_29 (by decide) ?_
      have eb : nI 1 = bI true := rfl
      rw [eb]
      refine g_zast hx hb hK hP hD hS 8 2 rfl rfl (by omega) (by decide) upB dM_wish_30 (fun H locs hP hD hS => ?_)
      have hP : va_P D vwCl (mW ka a 0 np nc pe an up dn rw so mn (va_up wd (x.toInt.toNat) true) wv) H := hP
      have hD : va_D (mA a) (mW ka a 0 np nc pe an up dn rw so mn (va_up wd (x.toInt.toNat) true) wv) := hD
      refine lv_aload_n hx hb dM_wish_31 rfl (lv_at hl 0 rfl) ?_
      refine g_get (cl := vwCl) (ci := 3) (v := .ref (a 9)) hx hb hts inM hown hK (hP.nth 0 rfl) rfl 11 (by decide) (hts _ tb_311) rfl dM_wish_32 ?_
      refine lv_iload_n hx hb dM_wish_35 rfl (lv_at hl 1 rfl) ?_
      refine lv_lload_n hx hb dM_wish_36 rfl (lv_at hl 2 rfl) ?_
      refine g_last hx hb hK hP hD hS 9 3 rfl rfl (by omega) (by decide) upW dM_wish_37 (fun H locs hP hD hS => ?_)
      have hP : va_P D vwCl (mW ka a 0 np nc pe an up dn rw so mn (va_up wd (x.toInt.toNat) true) (va_up wv (x.toInt.toNat) mi)) H := hP
      have hD : va_D (mA a) (mW ka a 0 np nc pe an up dn rw so mn (va_up wd (x.toInt.toNat) true) (va_up wv (x.toInt.toNat) mi)) := hD
      refine lv_aload_n hx hb dM_wish_38 rfl (lv_at hl 0 rfl) ?_
      refine lv_iload_n hx hb dM_wish_39 rfl (lv_at hl 1 rfl) ?_
      have hO2 : mOk np nc pe an up dn rw so mn (va_up wd x.toInt.toNat true) (va_up wv x.toInt.toNat mi) := mOk_wish hO hc2 (by omega)
      refine vp_callSl (va_Run.run (va_runV (As := [.int (nI (x.toInt.toNat))]) (rest := []) ⟨hx, hb, hml, hown, hts⟩ (m_reaction l D ka H a 0 np nc pe an up dn rw so mn (va_up wd (x.toInt.toNat) true) (va_up wv (x.toInt.toNat) mi) x.toInt.toNat hP hO2 hc1 hc2) (cw_V 1 hts tb_380 rfl rfl tb_377 tb_2 tb_379 ts_23 (by decide +kernel) ⟨Nat.le_of_ble_eq_true rfl, Nat.le_of_ble_eq_true rfl⟩) (ro_V (ci := 3) hK hN (hP.nth 0 rfl) rfl) rfl rfl hl.1 rfl (lv_room (Nat.le_of_ble_eq_true rfl)) dM_wish_40 ⟨Nat.zero_le _, Nat.zero_le _⟩)) (fun r er => ?_)
      subst er
      refine lv_lload_n hx hb dM_wish_43 rfl (lv_at hl 2 rfl) ?_
      refine r_lcmp_gt (tgt := 52) hx hb dM_wish_44 dM_wish_45 (by decide) (fun q3 => ?_) (fun q3 => ?_)
      · refine lv_iconst (v := nI 0) hx hb dM_wish_52 (by decide) ?_
        exact W.iret (v := nI 0) hx hb hr (fun t ht hW => ⟨⟨_, (mkM np nc pe an up dn rw so mn (va_up wd (x.toInt.toNat) true) (va_up wv (x.toInt.toNat) mi)), rfl, by rw [opWish, if_neg hno, if_neg (by omega), decide_eq_false (by omega)]; rfl, by show va_P D vwCl _ t.heap; rw [ht]; exact hP⟩, hS.F ht⟩) hS.2.2 dM_wish_53
      · refine lv_iconst (v := nI 1) hx hb dM_wish_48 (by decide) ?_
        refine lv_goto (tgt := 53) hx hb dM_wish_49 (by decide) ?_
        exact W.iret (v := nI 1) hx hb hr (fun t ht hW => ⟨⟨_, (mkM np nc pe an up dn rw so mn (va_up wd (x.toInt.toNat) true) (va_up wv (x.toInt.toNat) mi)), rfl, by rw [opWish, if_neg hno, if_neg (by omega), decide_eq_true (by omega)]; rfl, by show va_P D vwCl _ t.heap; rw [ht]; exact hP⟩, hS.F ht⟩) hS.2.2 dM_wish_53
    · refine lv_bipush (v := (-2)) hx hb dM_wish_21 (by decide) ?_
      exact W.iret (v := (-2)) hx hb hr (fun t ht hW => ⟨⟨_, (mkM np nc pe an up dn rw so mn wd wv), rfl, by rw [opWish, if_neg hno, if_pos (by omega)], by show va_P D vwCl _ t.heap; rw [ht]; exact hP⟩, hS.F ht⟩) hS.2.2 dM_wish_23
  · refine lv_iconst (v := (-1)) hx hb dM_wish_13 (by decide) ?_
    exact W.iret (v := (-1)) hx hb hr (fun t ht hW => ⟨⟨_, (mkM np nc pe an up dn rw so mn wd wv), rfl, by rw [opWish, if_pos q1], by show va_P D vwCl _ t.heap; rw [ht]; exact hP⟩, hS.F ht⟩) hS.2.2 dM_wish_14
set_option maxHeartbeats 4000000 in
set_option maxRecDepth 100000 in
theorem n_share (l : Launch) (D : va_G) (ka : Nat → ClassId) (H0 : Heap) (a : Nat → Nat) (tv np nc : Nat) (pe an up dn rw : Nat → Nat) (so : Nat → Bool) (mn : Nat → Nat) (wd : Nat → Bool) (wv : Nat → Int64) (x ix : Int32) (hM : va_P D vwCl (mW ka a tv np nc pe an up dn rw so mn wd wv) H0) (hO : mOk np nc pe an up dn rw so mn wd wv) (haI : ∀ i j, i < 10 → j < 10 → a i = a j → i = j)  : Met l yM_share (.code yM_share cM_share 5 (some .int) :: gT) ({ frames := 3, cells := 0, slots := 0, locals := 68 }) (ro_Pc D vwCl (tyL ka) H0 [.ref (a 0), .int x, .int ix]) (va_Qi (fun (r : Int32) (u : Unit) => r = spShare nc pe an up dn rw so mn wd wv x ix) (fun u t => va_P D vwCl (mW ka a 0 np nc pe an up dn rw so mn wd wv) t.heap) (mA a)) 0 0 (mA a) := by
  refine Met.ofW (cc := cM_share) (maxL := 5) (ret := (some .int)) (by decide) rfl ?_
  intro p e s m args below meth c s₁ B hml hv
  obtain ⟨rfl, hH, hK, hN⟩ := hv
  subst hH
  have hx := B.exec
  have hb := B.bytes
  have hr := B.returns
  have hts : ∀ w ∈ gT, w.before ([.ref (a 0), .int x, .int ix] : List Value).toArray s = true := fun w h => atoms_spec (ws := (.code yM_share cM_share 5 (some .int) :: gT)) B.pre w (List.mem_cons_of_mem _ h)
  have hown : s.vm.findClass RM = some m.cls := findClass_of_methodNamed B.named
  have hlocks := B.notSynchronized
  have hl := lv_entry ([.ref (a 0), .int x, .int ix]) (n := 5) (Nat.le_of_ble_eq_true rfl)
  rw [lg_entry_eq]
  generalize (lg_sl ([.ref (a 0), .int x, .int ix]) ++ List.replicate (5 - (lg_sl ([.ref (a 0), .int x, .int ix])).length) Slot.unset).toArray = ls at hl ⊢
  have hl : lv_has ls 5 [(0, .ref (a 0)), (1, .int x), (2, .int ix)] := hl
  have hP : va_P D vwCl (mW ka a tv np nc pe an up dn rw so mn wd wv) s.heap := hM
  have hD : va_D (mA a) (mW ka a tv np nc pe an up dn rw so mn wd wv) := mD haI
  have hS : va_S (mA a) s.heap s.heap [] := va_S.rf
  have hnp := hO.1
  have hnc := hO.2.1
  refine lv_aload_n hx hb dM_share_0 rfl (lv_at hl 0 rfl) ?_
  refine lv_iconst (v := nI 0) hx hb dM_share_1 (by decide) ?_
  refine va_put (D := D) (cl := vwCl) (ci := 3) (v := .int (nI 0)) (ty := .int) (C := RM) (T := TM) (N := 12) hx hb hts inM tyM tyM_ok nmM hown hK hP hD hS 0 rfl rfl 0 (by decide) (hts _ tb_300) (fun _ h9 => h9) rfl (by decide +kernel) rfl rfl (Nat.le_of_ble_eq_true rfl) dM_share_2 (fun H locs hP hD hS => ?_)
  have hP : va_P D vwCl (mW ka a 0 np nc pe an up dn rw so mn wd wv) H := hP
  have hD : va_D (mA a) (mW ka a 0 np nc pe an up dn rw so mn wd wv) := hD
  refine lv_iload_n hx hb dM_share_5 rfl (lv_at hl 2 rfl) ?_
  refine lv_iconst (v := (-1)) hx hb dM_share_6 (by decide) ?_
  have zm : ((-1 : Int32)).toInt = -1 := by decide +kernel
  have z0 : (0 : Int32).toInt = 0 := by decide +kernel
  refine r_icmp_ne (tgt := 67) hx hb dM_share_7 (by decide) (fun q1 => ?_) (fun q1 => ?_)
  · refine lv_aload_n hx hb dM_share_67 rfl (lv_at hl 0 rfl) ?_
    refine lv_iload_n hx hb dM_share_68 rfl (lv_at hl 1 rfl) ?_
    refine vp_callSi (va_Run.run (va_runV (As := [.int x]) (rest := []) ⟨hx, hb, hml, hown, hts⟩ (m_noChain l D ka H a 0 np nc pe an up dn rw so mn wd wv x hP hO) (cw_V 1 hts tb_359 rfl rfl tb_356 tb_2 tb_358 ts_19 (by decide +kernel) ⟨Nat.le_of_ble_eq_true rfl, Nat.le_of_ble_eq_true rfl⟩) (ro_V (ci := 3) hK hN (hP.nth 0 rfl) rfl) rfl rfl hl.1 rfl (lv_room (Nat.le_of_ble_eq_true rfl)) dM_share_69 ⟨Nat.zero_le _, Nat.zero_le _⟩)) (fun r er => ?_)
    subst er
    have hn1 : ¬ ix.toInt = -1 := by omega
    refine b_if_ne (tgt := 99) hx hb dM_share_72 (by decide) (fun q2 => ?_) (fun q2 => ?_)
    · refine lv_iconst (v := (-1)) hx hb dM_share_99 (by decide) ?_
      exact W.iret (v := (-1)) hx hb hr (fun t ht hW => ⟨⟨_, (), rfl, by rw [spShare, if_neg hn1, if_pos (Or.inl q2)], by show va_P D vwCl _ t.heap; rw [ht]; exact hP⟩, hS.F ht⟩) hS.2.2 dM_share_100
    · obtain ⟨ex1, hc11, hc21⟩ := cNo_nI q2
      rw [ex1] at hl
      have hmn := (hO.2.2.2.1 x.toInt.toNat hc11 hc21).1
      refine lv_iload_n hx hb dM_share_75 rfl (lv_at hl 2 rfl) ?_
      refine r_if_lt (tgt := 99) hx hb dM_share_76 (by decide) (fun q3 => ?_) (fun q3 => ?_)
      · refine lv_iconst (v := (-1)) hx hb dM_share_99 (by decide) ?_
        exact W.iret (v := (-1)) hx hb hr (fun t ht hW => ⟨⟨_, (), rfl, by rw [spShare, if_neg hn1, if_pos (Or.inr (Or.inl (by omega)))], by show va_P D vwCl _ t.heap; rw [ht]; exact hP⟩, hS.F ht⟩) hS.2.2 dM_share_100
      · refine lv_iload_n hx hb dM_share_79 rfl (lv_at hl 2 rfl) ?_
        refine lv_aload_n hx hb dM_share_80 rfl (lv_at hl 0 rfl) ?_
        refine g_get (cl := vwCl) (ci := 3) (v := .ref (a 7)) hx hb hts inM hown hK (hP.nth 0 rfl) rfl 9 (by decide) (hts _ tb_309) rfl dM_share_81 ?_
        refine lv_iload_n hx hb dM_share_84 rfl (lv_at hl 1 rfl) ?_
        refine g_ialdv (v := nI (mn (x.toInt.toNat))) hx hb hK 4 (hP.nth 7 rfl) rfl (by omega) (by decide) (rfl) dM_share_85 ?_
        have zmn : (nI (mn x.toInt.toNat)).toInt = (mn x.toInt.toNat : Int) := nI_toInt (by omega)
        refine r_icmp_ge (tgt := 99) hx hb dM_share_86 (by decide) (fun q4 => ?_) (fun q4 => ?_)
        · refine lv_iconst (v := (-1)) hx hb dM_share_99 (by decide) ?_
          exact W.iret (v := (-1)) hx hb hr (fun t ht hW => ⟨⟨_, (), rfl, by rw [spShare, if_neg hn1, if_pos (Or.inr (Or.inr (Or.inl (by omega))))], by show va_P D vwCl _ t.heap; rw [ht]; exact hP⟩, hS.F ht⟩) hS.2.2 dM_share_100
        · refine lv_aload_n hx hb dM_share_89 rfl (lv_at hl 0 rfl) ?_
          refine lv_iload_n hx hb dM_share_90 rfl (lv_at hl 1 rfl) ?_
          refine vp_callSl (va_Run.run (va_runV (As := [.int (nI (x.toInt.toNat))]) (rest := []) ⟨hx, hb, hml, hown, hts⟩ (m_reaction l D ka H a 0 np nc pe an up dn rw so mn wd wv x.toInt.toNat hP hO hc11 hc21) (cw_V 1 hts tb_380 rfl rfl tb_377 tb_2 tb_379 ts_23 (by decide +kernel) ⟨Nat.le_of_ble_eq_true rfl, Nat.le_of_ble_eq_true rfl⟩) (ro_V (ci := 3) hK hN (hP.nth 0 rfl) rfl) rfl rfl hl.1 rfl (lv_room (Nat.le_of_ble_eq_true rfl)) dM_share_91 ⟨Nat.zero_le _, Nat.zero_le _⟩)) (fun r er => ?_)
          subst er
          have hrb := rea_le hO hc11 hc21
          refine lv_lconst (v := lN 0) hx hb dM_share_94 rfl ?_
          refine n_lcmp_ne (tgt := 101) hx hb (by omega) (by omega) dM_share_95 dM_share_96 (by decide) (fun q5 => ?_) (fun q5 => ?_)
          · have hik : ix.toInt.toNat < mn x.toInt.toNat := by omega
            have eix : ix = nI ix.toInt.toNat := Int32.toInt_inj.mp (by rw [nI_toInt (by omega)]; omega)
            rw [eix] at hl
            have hbb := brN_le hO hc11 hc21 hik
            refine lv_ldc2 (v := lN 1000) hx hb hown (hts _ tb_406) dM_share_101 ?_
            refine lv_aload_n hx hb dM_share_104 rfl (lv_at hl 0 rfl) ?_
            refine lv_iload_n hx hb dM_share_105 rfl (lv_at hl 1 rfl) ?_
            refine lv_iload_n hx hb dM_share_106 rfl (lv_at hl 2 rfl) ?_
            refine vp_callSl (va_Run.run (va_runV (As := [.int (nI (x.toInt.toNat)), .int (nI (ix.toInt.toNat))]) (rest := [.long (lN 1000)]) ⟨hx, hb, hml, hown, hts⟩ (m_brings l D ka H a 0 np nc pe an up dn rw so mn wd wv x.toInt.toNat ix.toInt.toNat hP hO hc11 hc21 hik) (cw_V 2 hts tb_384 rfl rfl tb_381 tb_2 tb_383 ts_24 (by decide +kernel) ⟨Nat.le_of_ble_eq_true rfl, Nat.le_of_ble_eq_true rfl⟩) (ro_V (ci := 3) hK hN (hP.nth 0 rfl) rfl) rfl rfl hl.1 rfl (lv_room (Nat.le_of_ble_eq_true rfl)) dM_share_107 ⟨Nat.zero_le _, Nat.zero_le _⟩)) (fun r er => ?_)
            subst er
            refine n_lmul hx hb dM_share_110 ?_
            refine lv_aload_n hx hb dM_share_111 rfl (lv_at hl 0 rfl) ?_
            refine lv_iload_n hx hb dM_share_112 rfl (lv_at hl 1 rfl) ?_
            refine vp_callSl (va_Run.run (va_runV (As := [.int (nI (x.toInt.toNat))]) (rest := [.long (lN (1000 * (brN (qS so x.toInt.toNat) (qF pe rw x.toInt.toNat) (qF an rw x.toInt.toNat) (qF up rw x.toInt.toNat) (qF dn rw x.toInt.toNat) ix.toInt.toNat)))]) ⟨hx, hb, hml, hown, hts⟩ (m_reaction l D ka H a 0 np nc pe an up dn rw so mn wd wv x.toInt.toNat hP hO hc11 hc21) (cw_V 1 hts tb_380 rfl rfl tb_377 tb_2 tb_379 ts_23 (by decide +kernel) ⟨Nat.le_of_ble_eq_true rfl, Nat.le_of_ble_eq_true rfl⟩) (ro_V (ci := 3) hK hN (hP.nth 0 rfl) rfl) rfl rfl hl.1 rfl (lv_room (Nat.le_of_ble_eq_true rfl)) dM_share_113 ⟨Nat.zero_le _, Nat.zero_le _⟩)) (fun r er => ?_)
            subst er
            refine n_ldiv hx hb (by omega) (by omega) (by omega) dM_share_116 ?_
            refine n_l2i hx hb dM_share_117 ?_
            exact W.iret (v := nI ((1000 * (brN (qS so x.toInt.toNat) (qF pe rw x.toInt.toNat) (qF an rw x.toInt.toNat) (qF up rw x.toInt.toNat) (qF dn rw x.toInt.toNat) ix.toInt.toNat)) / (rea pe an up dn rw so mn x.toInt.toNat))) hx hb hr (fun t ht hW => ⟨⟨_, (), rfl, by rw [spShare, if_neg hn1, if_neg (by rw [q2]; simp only [Bool.false_eq_true, false_or]; omega)], by show va_P D vwCl _ t.heap; rw [ht]; exact hP⟩, hS.F ht⟩) hS.2.2 dM_share_118
          · refine lv_iconst (v := (-1)) hx hb dM_share_99 (by decide) ?_
            exact W.iret (v := (-1)) hx hb hr (fun t ht hW => ⟨⟨_, (), rfl, by rw [spShare, if_neg hn1, if_pos (Or.inr (Or.inr (Or.inr (by omega))))], by show va_P D vwCl _ t.heap; rw [ht]; exact hP⟩, hS.F ht⟩) hS.2.2 dM_share_100
  · refine lv_iconst (v := nI 0) hx hb dM_share_10 (by decide) ?_
    refine lv_istore_n (lv' := [(3, .int (nI 0)), (0, .ref (a 0)), (1, .int x), (2, .int ix)]) hx hb dM_share_11 rfl hl (by decide) rfl (fun ls hl => ?_)
    refine lv_iconst (v := nI 1) hx hb dM_share_12 (by decide) ?_
    refine lv_istore (lv' := [(4, .int (nI 1)), (3, .int (nI 0)), (0, .ref (a 0)), (1, .int x), (2, .int ix)]) hx hb dM_share_13 hl (by decide) rfl (fun ls hl => ?_)
    have loop : ∀ (fu i : Nat), i ≤ nc → nc < i + fu → ∀ ls : Array Slot, lv_has ls 5 [(4, .int (nI (i + 1))), (3, .int (nI (cntN (kept pe an up dn rw so mn wd wv) i))), (2, .int ix), (0, .ref (a 0))] → W p l e (headSpec (.code yM_share cM_share 5 (some .int) :: gT) ({ frames := 3, cells := 0, slots := 0, locals := 68 })).room s m ([.ref (a 0), .int x, .int ix] : List Value).toArray below meth c H locs 0 0 (MQ below (va_Qi (fun (r : Int32) (u : Unit) => r = spShare nc pe an up dn rw so mn wd wv x ix) (fun u t => va_P D vwCl (mW ka a 0 np nc pe an up dn rw so mn wd wv) t.heap) (mA a)) ([.ref (a 0), .int x, .int ix] : List Value).toArray s 0 0 (mA a)) (F0 m 15 ls []) := by
      intro fu
      induction fu with
      | zero => intro i h1 h2; exact absurd h2 (by omega)
      | succ fu ih =>
        intro i hi hf  ls hl
        have hcn := cntN_le (p := (kept pe an up dn rw so mn wd wv)) i
        refine lv_iload hx hb dM_share_15 (lv_at hl 0 rfl) ?_
        refine lv_aload_n hx hb dM_share_17 rfl (lv_at hl 3 rfl) ?_
        refine g_get (cl := vwCl) (ci := 3) (v := .int (nI nc)) hx hb hts inM hown hK (hP.nth 0 rfl) rfl 6 (by decide) (hts _ tb_306) rfl dM_share_18 ?_
        refine n_icmp_gt (tgt := 65) hx hb (by omega) (by omega) dM_share_21 (by decide) (fun hc => ?_) (fun hc => ?_)
        · refine lv_iload_n hx hb dM_share_65 rfl (lv_at hl 1 rfl) ?_
          exact W.iret (v := nI (cntN (kept pe an up dn rw so mn wd wv) i)) hx hb hr (fun t ht hW => ⟨⟨_, (), rfl, by rw [spShare, if_pos (by omega), show i = nc by omega], by show va_P D vwCl _ t.heap; rw [ht]; exact hP⟩, hS.F ht⟩) hS.2.2 dM_share_66
        · refine lv_aload_n hx hb dM_share_24 rfl (lv_at hl 3 rfl) ?_
          refine g_get (cl := vwCl) (ci := 3) (v := .ref (a 8)) hx hb hts inM hown hK (hP.nth 0 rfl) rfl 10 (by decide) (hts _ tb_310) rfl dM_share_25 ?_
          refine lv_iload hx hb dM_share_28 (lv_at hl 0 rfl) ?_
          refine g_zaldv (v := bI (wd (i + 1))) hx hb hK 2 (hP.nth 8 rfl) rfl (by omega) (by decide) (rfl) dM_share_30 ?_
          refine b_if_eq (tgt := 57) hx hb dM_share_31 (by decide) (fun q3 => ?_) (fun q3 => ?_)
          · refine lv_iload_n hx hb dM_share_57 rfl (lv_at hl 1 rfl) ?_
            refine lv_istore_n (lv' := [(3, .int (nI (cntN (kept pe an up dn rw so mn wd wv) i))), (4, .int (nI (i + 1))), (2, .int ix), (0, .ref (a 0))]) hx hb dM_share_58 rfl hl (by decide) rfl (fun ls hl => ?_)
            refine lv_iinc (v := nI ((i + 1) + 1)) (lv' := [(4, .int (nI ((i + 1) + 1))), (3, .int (nI (cntN (kept pe an up dn rw so mn wd wv) i))), (2, .int ix), (0, .ref (a 0))]) hx hb dM_share_59 hl (k := 1) rfl (nI_add (i + 1) 1) (by decide) rfl (fun ls hl => ?_)
            refine lv_goto (tgt := 15) hx hb dM_share_62 (by decide) ?_
            have e1 : cntN (kept pe an up dn rw so mn wd wv) (i + 1) = cntN (kept pe an up dn rw so mn wd wv) i := by show (if _ then _ else _) = _; rw [if_neg (by simp [kept, q3])]
            exact ih (i + 1) (by omega) (by omega) ls (by rw [e1]; exact lv_sub hl [0, 1, 2, 3] rfl)
          · refine lv_aload_n hx hb dM_share_34 rfl (lv_at hl 3 rfl) ?_
            refine lv_iload hx hb dM_share_35 (lv_at hl 0 rfl) ?_
            refine vp_callSl (va_Run.run (va_runV (As := [.int (nI (i + 1))]) (rest := []) ⟨hx, hb, hml, hown, hts⟩ (m_reaction l D ka H a 0 np nc pe an up dn rw so mn wd wv (i + 1) hP hO (by omega) (by omega)) (cw_V 1 hts tb_380 rfl rfl tb_377 tb_2 tb_379 ts_23 (by decide +kernel) ⟨Nat.le_of_ble_eq_true rfl, Nat.le_of_ble_eq_true rfl⟩) (ro_V (ci := 3) hK hN (hP.nth 0 rfl) rfl) rfl rfl hl.1 rfl (lv_room (Nat.le_of_ble_eq_true rfl)) dM_share_37 ⟨Nat.zero_le _, Nat.zero_le _⟩)) (fun r er => ?_)
            subst er
            refine lv_aload_n hx hb dM_share_40 rfl (lv_at hl 3 rfl) ?_
            refine g_get (cl := vwCl) (ci := 3) (v := .ref (a 9)) hx hb hts inM hown hK (hP.nth 0 rfl) rfl 11 (by decide) (hts _ tb_311) rfl dM_share_41 ?_
            refine lv_iload hx hb dM_share_44 (lv_at hl 0 rfl) ?_
            refine g_laldv (v := wv (i + 1)) hx hb hK 3 (hP.nth 9 rfl) rfl (by omega) (by decide) (rfl) dM_share_46 ?_
            refine r_lcmp_gt (tgt := 57) hx hb dM_share_47 dM_share_48 (by decide) (fun q4 => ?_) (fun q4 => ?_)
            · refine lv_iload_n hx hb dM_share_57 rfl (lv_at hl 1 rfl) ?_
              refine lv_istore_n (lv' := [(3, .int (nI (cntN (kept pe an up dn rw so mn wd wv) i))), (4, .int (nI (i + 1))), (2, .int ix), (0, .ref (a 0))]) hx hb dM_share_58 rfl hl (by decide) rfl (fun ls hl => ?_)
              refine lv_iinc (v := nI ((i + 1) + 1)) (lv' := [(4, .int (nI ((i + 1) + 1))), (3, .int (nI (cntN (kept pe an up dn rw so mn wd wv) i))), (2, .int ix), (0, .ref (a 0))]) hx hb dM_share_59 hl (k := 1) rfl (nI_add (i + 1) 1) (by decide) rfl (fun ls hl => ?_)
              refine lv_goto (tgt := 15) hx hb dM_share_62 (by decide) ?_
              have e1 : cntN (kept pe an up dn rw so mn wd wv) (i + 1) = cntN (kept pe an up dn rw so mn wd wv) i := by show (if _ then _ else _) = _; rw [if_neg (by simp only [kept]; rw [decide_eq_false (by omega)]; simp)]
              exact ih (i + 1) (by omega) (by omega) ls (by rw [e1]; exact lv_sub hl [0, 1, 2, 3] rfl)
            · refine lv_iload_n hx hb dM_share_51 rfl (lv_at hl 1 rfl) ?_
              refine lv_iconst (v := nI 1) hx hb dM_share_52 (by decide) ?_
              refine n_iadd hx hb dM_share_53 ?_
              refine lv_goto (tgt := 58) hx hb dM_share_54 (by decide) ?_
              refine lv_istore_n (lv' := [(3, .int (nI ((cntN (kept pe an up dn rw so mn wd wv) i) + 1))), (4, .int (nI (i + 1))), (2, .int ix), (0, .ref (a 0))]) hx hb dM_share_58 rfl hl (by decide) rfl (fun ls hl => ?_)
              refine lv_iinc (v := nI ((i + 1) + 1)) (lv' := [(4, .int (nI ((i + 1) + 1))), (3, .int (nI ((cntN (kept pe an up dn rw so mn wd wv) i) + 1))), (2, .int ix), (0, .ref (a 0))]) hx hb dM_share_59 hl (k := 1) rfl (nI_add (i + 1) 1) (by decide) rfl (fun ls hl => ?_)
              refine lv_goto (tgt := 15) hx hb dM_share_62 (by decide) ?_
              have e1 : cntN (kept pe an up dn rw so mn wd wv) (i + 1) = cntN (kept pe an up dn rw so mn wd wv) i + 1 := by show (if _ then _ else _) = _; rw [if_pos (by simp only [kept]; rw [q3, decide_eq_true (by omega)]; rfl)]
              exact ih (i + 1) (by omega) (by omega) ls (by rw [e1]; exact lv_sub hl [0, 1, 2, 3] rfl)
    exact loop (nc + 1) 0 (by omega) (by omega) ls (lv_sub hl [0, 1, 4, 2] rfl)
set_option maxHeartbeats 4000000 in
set_option maxRecDepth 100000 in
theorem n_stepped (l : Launch) (D : va_G) (ka : Nat → ClassId) (H0 : Heap) (a : Nat → Nat) (tv np nc : Nat) (pe an up dn rw : Nat → Nat) (so : Nat → Bool) (mn : Nat → Nat) (wd : Nat → Bool) (wv : Nat → Int64) (x : Int32) (hM : va_P D vwCl (mW ka a tv np nc pe an up dn rw so mn wd wv) H0) (hO : mOk np nc pe an up dn rw so mn wd wv) (haI : ∀ i j, i < 10 → j < 10 → a i = a j → i = j)  : Met l yM_stepped (.code yM_stepped cM_stepped 12 (some .long) :: gT) ({ frames := 3, cells := 0, slots := 0, locals := 81 }) (ro_Pc D vwCl (tyL ka) H0 [.ref (a 0), .int x]) (va_Ql (fun (r : Int64) (u : Unit) => r = spStep nc pe an up dn rw so mn x) (fun u t => va_P D vwCl (mW ka a 0 np nc pe an up dn rw so mn wd wv) t.heap) (mA a)) 0 0 (mA a) := by
  refine Met.ofW (cc := cM_stepped) (maxL := 12) (ret := (some .long)) (by decide) rfl ?_
  intro p e s m args below meth c s₁ B hml hv
  obtain ⟨rfl, hH, hK, hN⟩ := hv
  subst hH
  have hx := B.exec
  have hb := B.bytes
  have hr := B.returns
  have hts : ∀ w ∈ gT, w.before ([.ref (a 0), .int x] : List Value).toArray s = true := fun w h => atoms_spec (ws := (.code yM_stepped cM_stepped 12 (some .long) :: gT)) B.pre w (List.mem_cons_of_mem _ h)
  have hown : s.vm.findClass RM = some m.cls := findClass_of_methodNamed B.named
  have hlocks := B.notSynchronized
  have hl := lv_entry ([.ref (a 0), .int x]) (n := 12) (Nat.le_of_ble_eq_true rfl)
  rw [lg_entry_eq]
  generalize (lg_sl ([.ref (a 0), .int x]) ++ List.replicate (12 - (lg_sl ([.ref (a 0), .int x])).length) Slot.unset).toArray = ls at hl ⊢
  have hl : lv_has ls 12 [(0, .ref (a 0)), (1, .int x)] := hl
  have hP : va_P D vwCl (mW ka a tv np nc pe an up dn rw so mn wd wv) s.heap := hM
  have hD : va_D (mA a) (mW ka a tv np nc pe an up dn rw so mn wd wv) := mD haI
  have hS : va_S (mA a) s.heap s.heap [] := va_S.rf
  have hnp := hO.1
  have hnc := hO.2.1
  refine lv_aload_n hx hb dM_stepped_0 rfl (lv_at hl 0 rfl) ?_
  refine lv_iconst (v := nI 0) hx hb dM_stepped_1 (by decide) ?_
  refine va_put (D := D) (cl := vwCl) (ci := 3) (v := .int (nI 0)) (ty := .int) (C := RM) (T := TM) (N := 12) hx hb hts inM tyM tyM_ok nmM hown hK hP hD hS 0 rfl rfl 0 (by decide) (hts _ tb_300) (fun _ h9 => h9) rfl (by decide +kernel) rfl rfl (Nat.le_of_ble_eq_true rfl) dM_stepped_2 (fun H locs hP hD hS => ?_)
  have hP : va_P D vwCl (mW ka a 0 np nc pe an up dn rw so mn wd wv) H := hP
  have hD : va_D (mA a) (mW ka a 0 np nc pe an up dn rw so mn wd wv) := hD
  refine lv_aload_n hx hb dM_stepped_5 rfl (lv_at hl 0 rfl) ?_
  refine lv_iload_n hx hb dM_stepped_6 rfl (lv_at hl 1 rfl) ?_
  refine vp_callSi (va_Run.run (va_runV (As := [.int x]) (rest := []) ⟨hx, hb, hml, hown, hts⟩ (m_isEmpty l D ka H a 0 np nc pe an up dn rw so mn wd wv x hP hO) (cw_V 1 hts tb_371 rfl rfl tb_368 tb_2 tb_370 ts_21 (by decide +kernel) ⟨Nat.le_of_ble_eq_true rfl, Nat.le_of_ble_eq_true rfl⟩) (ro_V (ci := 3) hK hN (hP.nth 0 rfl) rfl) rfl rfl hl.1 rfl (lv_room (Nat.le_of_ble_eq_true rfl)) dM_stepped_7 ⟨Nat.zero_le _, Nat.zero_le _⟩)) (fun r er => ?_)
  subst er
  refine b_if_eq (tgt := 17) hx hb dM_stepped_10 (by decide) (fun q1 => ?_) (fun q1 => ?_)
  · have hno : ¬ spEmp nc mn x = true := by rw [q1]; decide
    obtain ⟨ex, hc1, hc2, hn0⟩ := spEmp_f q1
    rw [ex] at hl
    have hmn := (hO.2.2.2.1 x.toInt.toNat hc1 hc2).1
    refine lv_aload_n hx hb dM_stepped_17 rfl (lv_at hl 0 rfl) ?_
    refine lv_iload_n hx hb dM_stepped_18 rfl (lv_at hl 1 rfl) ?_
    refine vp_callSi (va_Run.run (va_runV (As := [.int (nI (x.toInt.toNat))]) (rest := []) ⟨hx, hb, hml, hown, hts⟩ (m_isPlain l D ka H a 0 np nc pe an up dn rw so mn wd wv x.toInt.toNat hP hO hc1 hc2) (cw_V 1 hts tb_426 rfl rfl tb_423 tb_2 tb_425 ts_27 (by decide +kernel) ⟨Nat.le_of_ble_eq_true rfl, Nat.le_of_ble_eq_true rfl⟩) (ro_V (ci := 3) hK hN (hP.nth 0 rfl) rfl) rfl rfl hl.1 rfl (lv_room (Nat.le_of_ble_eq_true rfl)) dM_stepped_19 ⟨Nat.zero_le _, Nat.zero_le _⟩)) (fun r er => ?_)
    subst er
    refine b_if_ne (tgt := 31) hx hb dM_stepped_22 (by decide) (fun q2 => ?_) (fun q2 => ?_)
    · have hal : ∀ i, i < mn x.toInt.toNat → ((qS so x.toInt.toNat) i || false) = true → 0 < (qF pe rw x.toInt.toNat) i := fun i hi hs => hO.sel hc1 hc2 i hi (by simpa using hs)
      have hcy : cyc (fun i => (qS so x.toInt.toNat) i || false) (qF pe rw x.toInt.toNat) (mn x.toInt.toNat) ≤ 20000 := canN_cyc q2
      have hce := cyM_eq hal hcy
      refine lv_aload_n hx hb dM_stepped_31 rfl (lv_at hl 0 rfl) ?_
      refine lv_iload_n hx hb dM_stepped_32 rfl (lv_at hl 1 rfl) ?_
      refine lv_iconst (v := nI 0) hx hb dM_stepped_33 (by decide) ?_
      have ebf : nI 0 = bI false := rfl
      rw [ebf]
      refine lv_ldc2 (v := lN 20001) hx hb hown (hts _ tb_427) dM_stepped_34 ?_
      refine vp_callSl (va_Run.run (va_runV (As := [.int (nI (x.toInt.toNat)), .int (bI false), .long (lN 20001)]) (rest := []) ⟨hx, hb, hml, hown, hts⟩ (m_common l D ka H a 0 np nc pe an up dn rw so mn wd wv x.toInt.toNat false 20001 hP hO hc1 hc2 (by omega) (by omega) hal) (cw_V 3 hts tb_415 rfl rfl tb_412 tb_2 tb_414 ts_26 (by decide +kernel) ⟨Nat.le_of_ble_eq_true rfl, Nat.le_of_ble_eq_true rfl⟩) (ro_V (ci := 3) hK hN (hP.nth 0 rfl) rfl) rfl rfl hl.1 rfl (lv_room (Nat.le_of_ble_eq_true rfl)) dM_stepped_37 ⟨Nat.zero_le _, Nat.zero_le _⟩)) (fun r er => ?_)
      subst er
      rw [hce]
      refine lv_lstore_n (lv' := [(2, .long (lN (cyc (fun i => (qS so x.toInt.toNat) i || false) (qF pe rw x.toInt.toNat) (mn x.toInt.toNat)))), (0, .ref (a 0)), (1, .int (nI (x.toInt.toNat)))]) hx hb dM_stepped_40 rfl hl (by decide) rfl (fun ls hl => ?_)
      refine lv_lconst (v := lN 0) hx hb dM_stepped_41 rfl ?_
      refine lv_lstore (lv' := [(4, .long (lN 0)), (2, .long (lN (cyc (fun i => (qS so x.toInt.toNat) i || false) (qF pe rw x.toInt.toNat) (mn x.toInt.toNat)))), (0, .ref (a 0)), (1, .int (nI (x.toInt.toNat)))]) hx hb dM_stepped_42 hl (by decide) rfl (fun ls hl => ?_)
      refine lv_lconst (v := lN 0) hx hb dM_stepped_44 rfl ?_
      refine lv_lstore (lv' := [(6, .long (lN 0)), (4, .long (lN 0)), (2, .long (lN (cyc (fun i => (qS so x.toInt.toNat) i || false) (qF pe rw x.toInt.toNat) (mn x.toInt.toNat)))), (0, .ref (a 0)), (1, .int (nI (x.toInt.toNat)))]) hx hb dM_stepped_45 hl (by decide) rfl (fun ls hl => ?_)
      generalize hQ : cyc (fun i => (qS so x.toInt.toNat) i || false) (qF pe rw x.toInt.toNat) (mn x.toInt.toNat) = Q at hcy hl
      have hbd : ∀ j, j < mn x.toInt.toNat → (qF pe rw x.toInt.toNat) j ≤ 20000 ∧ (qF an rw x.toInt.toNat) j ≤ 20000 ∧ ((qS so x.toInt.toNat) j = true → 0 < (qF pe rw x.toInt.toNat) j) := fun j hj => ⟨(hO.row hc1 hc2 hj).2.1, (hO.row hc1 hc2 hj).2.2.1, (hO.row hc1 hc2 hj).2.2.2.2.2⟩
      have hgb : ∀ t, t < Q → (fun t => stp (qS so x.toInt.toNat) (qF pe rw x.toInt.toNat) (qF an rw x.toInt.toNat) t (mn x.toInt.toNat) - t) t ≤ 20000 + 12 * 40000 := fun t ht => by
        have h1 := stp_le (sel := (qS so x.toInt.toNat)) (T := (qF pe rw x.toInt.toNat)) (R := (qF an rw x.toInt.toNat)) (b := t) (B := 20000) (mn x.toInt.toNat) hbd
        have h3 : mn x.toInt.toNat * (2 * 20000) ≤ 12 * (2 * 20000) := Nat.mul_le_mul_right _ hmn
        show stp (qS so x.toInt.toNat) (qF pe rw x.toInt.toNat) (qF an rw x.toInt.toNat) t (mn x.toInt.toNat) - t ≤ _
        omega
      have loop : ∀ (fu k : Nat), k ≤ Q → Q < k + fu → ∀ ls : Array Slot, lv_has ls 12 [(6, .long (lN k)), (4, .long (lN (mxN (fun t => stp (qS so x.toInt.toNat) (qF pe rw x.toInt.toNat) (qF an rw x.toInt.toNat) t (mn x.toInt.toNat) - t) k))), (2, .long (lN Q)), (1, .int (nI (x.toInt.toNat))), (0, .ref (a 0))] → W p l e (headSpec (.code yM_stepped cM_stepped 12 (some .long) :: gT) ({ frames := 3, cells := 0, slots := 0, locals := 81 })).room s m ([.ref (a 0), .int x] : List Value).toArray below meth c H locs 0 0 (MQ below (va_Ql (fun (r : Int64) (u : Unit) => r = spStep nc pe an up dn rw so mn x) (fun u t => va_P D vwCl (mW ka a 0 np nc pe an up dn rw so mn wd wv) t.heap) (mA a)) ([.ref (a 0), .int x] : List Value).toArray s 0 0 (mA a)) (F0 m 47 ls []) := by
        intro fu
        induction fu with
        | zero => intro k h1 h2; exact absurd h2 (by omega)
        | succ fu ih =>
          intro k hk hf ls hl
          have hmb := mxN_le (f := (fun t => stp (qS so x.toInt.toNat) (qF pe rw x.toInt.toNat) (qF an rw x.toInt.toNat) t (mn x.toInt.toNat) - t)) (B := 20000 + 12 * 40000) k (fun j hj => hgb j (by omega))
          refine lv_lload hx hb dM_stepped_47 (lv_at hl 0 rfl) ?_
          refine lv_lload_n hx hb dM_stepped_49 rfl (lv_at hl 2 rfl) ?_
          refine n_lcmp_ge (tgt := 186) hx hb (by omega) (by omega) dM_stepped_50 dM_stepped_51 (by decide) (fun hc => ?_) (fun hc => ?_)
          · refine lv_lload hx hb dM_stepped_186 (lv_at hl 1 rfl) ?_
            exact W.lret (v := lN (mxN (fun t => stp (qS so x.toInt.toNat) (qF pe rw x.toInt.toNat) (qF an rw x.toInt.toNat) t (mn x.toInt.toNat) - t) k)) hx hb hr (fun t ht hW => ⟨⟨_, (), rfl, by rw [spStep, if_neg hno, if_pos q2, hQ, show k = Q by omega], by show va_P D vwCl _ t.heap; rw [ht]; exact hP⟩, hS.F ht⟩) hS.2.2 dM_stepped_188
          · have hk2 := hgb k hc
            have hk3 : (fun t => stp (qS so x.toInt.toNat) (qF pe rw x.toInt.toNat) (qF an rw x.toInt.toNat) t (mn x.toInt.toNat) - t) k = stp (qS so x.toInt.toNat) (qF pe rw x.toInt.toNat) (qF an rw x.toInt.toNat) k (mn x.toInt.toNat) - k := rfl
            have hge := stp_ge (sel := (qS so x.toInt.toNat)) (T := (qF pe rw x.toInt.toNat)) (R := (qF an rw x.toInt.toNat)) (b := k) (mn x.toInt.toNat) (fun j hj hs => (hbd j hj).2.2 hs)
            refine lv_lload hx hb dM_stepped_54 (lv_at hl 0 rfl) ?_
            refine lv_lstore (lv' := [(8, .long (lN k)), (6, .long (lN k)), (4, .long (lN (mxN (fun t => stp (qS so x.toInt.toNat) (qF pe rw x.toInt.toNat) (qF an rw x.toInt.toNat) t (mn x.toInt.toNat) - t) k))), (2, .long (lN Q)), (1, .int (nI (x.toInt.toNat))), (0, .ref (a 0))]) hx hb dM_stepped_56 hl (by decide) rfl (fun ls hl => ?_)
            refine lv_iconst (v := nI 0) hx hb dM_stepped_58 (by decide) ?_
            refine lv_istore (lv' := [(10, .int (nI 0)), (8, .long (lN k)), (6, .long (lN k)), (4, .long (lN (mxN (fun t => stp (qS so x.toInt.toNat) (qF pe rw x.toInt.toNat) (qF an rw x.toInt.toNat) t (mn x.toInt.toNat) - t) k))), (2, .long (lN Q)), (1, .int (nI (x.toInt.toNat))), (0, .ref (a 0))]) hx hb dM_stepped_59 hl (by decide) rfl (fun ls hl => ?_)
            have inner : ∀ (f2 i : Nat), i ≤ mn x.toInt.toNat → mn x.toInt.toNat < i + f2 → ∀ ls : Array Slot, lv_has ls 12 [(10, .int (nI i)), (8, .long (lN (stp (qS so x.toInt.toNat) (qF pe rw x.toInt.toNat) (qF an rw x.toInt.toNat) k i))), (6, .long (lN k)), (4, .long (lN (mxN (fun t => stp (qS so x.toInt.toNat) (qF pe rw x.toInt.toNat) (qF an rw x.toInt.toNat) t (mn x.toInt.toNat) - t) k))), (2, .long (lN Q)), (1, .int (nI (x.toInt.toNat))), (0, .ref (a 0))] → W p l e (headSpec (.code yM_stepped cM_stepped 12 (some .long) :: gT) ({ frames := 3, cells := 0, slots := 0, locals := 81 })).room s m ([.ref (a 0), .int x] : List Value).toArray below meth c H locs 0 0 (MQ below (va_Ql (fun (r : Int64) (u : Unit) => r = spStep nc pe an up dn rw so mn x) (fun u t => va_P D vwCl (mW ka a 0 np nc pe an up dn rw so mn wd wv) t.heap) (mA a)) ([.ref (a 0), .int x] : List Value).toArray s 0 0 (mA a)) (F0 m 61 ls []) := by
              intro f2
              induction f2 with
              | zero => intro i h1 h2; exact absurd h2 (by omega)
              | succ f2 ih2 =>
                intro i hi hf2 ls hl
                refine lv_iload hx hb dM_stepped_61 (lv_at hl 0 rfl) ?_
                refine lv_aload_n hx hb dM_stepped_63 rfl (lv_at hl 6 rfl) ?_
                refine g_get (cl := vwCl) (ci := 3) (v := .ref (a 7)) hx hb hts inM hown hK (hP.nth 0 rfl) rfl 9 (by decide) (hts _ tb_309) rfl dM_stepped_64 ?_
                refine lv_iload_n hx hb dM_stepped_67 rfl (lv_at hl 5 rfl) ?_
                refine g_ialdv (v := nI (mn (x.toInt.toNat))) hx hb hK 4 (hP.nth 7 rfl) rfl (by omega) (by decide) (rfl) dM_stepped_68 ?_
                refine n_icmp_ge (tgt := 154) hx hb (by omega) (by omega) dM_stepped_69 (by decide) (fun hc6 => ?_) (fun hc6 => ?_)
                · obtain hi2 : i = mn x.toInt.toNat := by omega
                  subst hi2
                  refine lv_lload hx hb dM_stepped_154 (lv_at hl 1 rfl) ?_
                  refine lv_lload hx hb dM_stepped_156 (lv_at hl 2 rfl) ?_
                  refine n_lsub hx hb (by omega) dM_stepped_158 ?_
                  refine lv_lload hx hb dM_stepped_159 (lv_at hl 3 rfl) ?_
                  refine n_lcmp_le (tgt := 173) hx hb (by omega) (by omega) dM_stepped_161 dM_stepped_162 (by decide) (fun q5 => ?_) (fun q5 => ?_)
                  · refine lv_lload hx hb dM_stepped_173 (lv_at hl 3 rfl) ?_
                    refine lv_lstore (lv' := [(4, .long (lN (mxN (fun t => stp (qS so x.toInt.toNat) (qF pe rw x.toInt.toNat) (qF an rw x.toInt.toNat) t (mn x.toInt.toNat) - t) k))), (10, .int (nI (mn x.toInt.toNat))), (8, .long (lN (stp (qS so x.toInt.toNat) (qF pe rw x.toInt.toNat) (qF an rw x.toInt.toNat) k (mn x.toInt.toNat)))), (6, .long (lN k)), (2, .long (lN Q)), (1, .int (nI (x.toInt.toNat))), (0, .ref (a 0))]) hx hb dM_stepped_175 hl (by decide) rfl (fun ls hl => ?_)
                    refine lv_lload hx hb dM_stepped_177 (lv_at hl 3 rfl) ?_
                    refine lv_lconst (v := lN 1) hx hb dM_stepped_179 rfl ?_
                    refine n_ladd hx hb dM_stepped_180 ?_
                    refine lv_lstore (lv' := [(6, .long (lN (k + 1))), (4, .long (lN (mxN (fun t => stp (qS so x.toInt.toNat) (qF pe rw x.toInt.toNat) (qF an rw x.toInt.toNat) t (mn x.toInt.toNat) - t) k))), (10, .int (nI (mn x.toInt.toNat))), (8, .long (lN (stp (qS so x.toInt.toNat) (qF pe rw x.toInt.toNat) (qF an rw x.toInt.toNat) k (mn x.toInt.toNat)))), (2, .long (lN Q)), (1, .int (nI (x.toInt.toNat))), (0, .ref (a 0))]) hx hb dM_stepped_181 hl (by decide) rfl (fun ls hl => ?_)
                    refine lv_goto (tgt := 47) hx hb dM_stepped_183 (by decide) ?_
                    have e1 : mxN (fun t => stp (qS so x.toInt.toNat) (qF pe rw x.toInt.toNat) (qF an rw x.toInt.toNat) t (mn x.toInt.toNat) - t) (k + 1) = mxN (fun t => stp (qS so x.toInt.toNat) (qF pe rw x.toInt.toNat) (qF an rw x.toInt.toNat) t (mn x.toInt.toNat) - t) k := by show max (mxN (fun t => stp (qS so x.toInt.toNat) (qF pe rw x.toInt.toNat) (qF an rw x.toInt.toNat) t (mn x.toInt.toNat) - t) k) ((fun t => stp (qS so x.toInt.toNat) (qF pe rw x.toInt.toNat) (qF an rw x.toInt.toNat) t (mn x.toInt.toNat) - t) k) = _; omega
                    exact ih (k + 1) (by omega) (by omega) ls (by rw [e1]; exact lv_sub hl [0, 1, 4, 5, 6] rfl)
                  · refine lv_lload hx hb dM_stepped_165 (lv_at hl 1 rfl) ?_
                    refine lv_lload hx hb dM_stepped_167 (lv_at hl 2 rfl) ?_
                    refine n_lsub hx hb (by omega) dM_stepped_169 ?_
                    refine lv_goto (tgt := 175) hx hb dM_stepped_170 (by decide) ?_
                    refine lv_lstore (lv' := [(4, .long (lN ((stp (qS so x.toInt.toNat) (qF pe rw x.toInt.toNat) (qF an rw x.toInt.toNat) k (mn x.toInt.toNat)) - k))), (10, .int (nI (mn x.toInt.toNat))), (8, .long (lN (stp (qS so x.toInt.toNat) (qF pe rw x.toInt.toNat) (qF an rw x.toInt.toNat) k (mn x.toInt.toNat)))), (6, .long (lN k)), (2, .long (lN Q)), (1, .int (nI (x.toInt.toNat))), (0, .ref (a 0))]) hx hb dM_stepped_175 hl (by decide) rfl (fun ls hl => ?_)
                    refine lv_lload hx hb dM_stepped_177 (lv_at hl 3 rfl) ?_
                    refine lv_lconst (v := lN 1) hx hb dM_stepped_179 rfl ?_
                    refine n_ladd hx hb dM_stepped_180 ?_
                    refine lv_lstore (lv' := [(6, .long (lN (k + 1))), (4, .long (lN ((stp (qS so x.toInt.toNat) (qF pe rw x.toInt.toNat) (qF an rw x.toInt.toNat) k (mn x.toInt.toNat)) - k))), (10, .int (nI (mn x.toInt.toNat))), (8, .long (lN (stp (qS so x.toInt.toNat) (qF pe rw x.toInt.toNat) (qF an rw x.toInt.toNat) k (mn x.toInt.toNat)))), (2, .long (lN Q)), (1, .int (nI (x.toInt.toNat))), (0, .ref (a 0))]) hx hb dM_stepped_181 hl (by decide) rfl (fun ls hl => ?_)
                    refine lv_goto (tgt := 47) hx hb dM_stepped_183 (by decide) ?_
                    have e1 : mxN (fun t => stp (qS so x.toInt.toNat) (qF pe rw x.toInt.toNat) (qF an rw x.toInt.toNat) t (mn x.toInt.toNat) - t) (k + 1) = stp (qS so x.toInt.toNat) (qF pe rw x.toInt.toNat) (qF an rw x.toInt.toNat) k (mn x.toInt.toNat) - k := by show max (mxN (fun t => stp (qS so x.toInt.toNat) (qF pe rw x.toInt.toNat) (qF an rw x.toInt.toNat) t (mn x.toInt.toNat) - t) k) ((fun t => stp (qS so x.toInt.toNat) (qF pe rw x.toInt.toNat) (qF an rw x.toInt.toNat) t (mn x.toInt.toNat) - t) k) = _; omega
                    exact ih (k + 1) (by omega) (by omega) ls (by rw [e1]; exact lv_sub hl [0, 1, 4, 5, 6] rfl)
                · have hR := hO.row hc1 hc2 hc6
                  have hB := hbd i hc6
                  have hle := stp_le (sel := (qS so x.toInt.toNat)) (T := (qF pe rw x.toInt.toNat)) (R := (qF an rw x.toInt.toNat)) (b := k) (B := 20000) i (fun j hj => hbd j (by omega))
                  have hli : i * (2 * 20000) ≤ 12 * (2 * 20000) := Nat.mul_le_mul_right _ (by omega)
                  have hTe : (qF pe rw x.toInt.toNat) i = pe (rw ((12 * x.toInt.toNat) + i)) := rfl
                  refine lv_aload_n hx hb dM_stepped_72 rfl (lv_at hl 6 rfl) ?_
                  refine g_get (cl := vwCl) (ci := 3) (v := .ref (a 5)) hx hb hts inM hown hK (hP.nth 0 rfl) rfl 7 (by decide) (hts _ tb_307) rfl dM_stepped_73 ?_
                  refine lv_bipush (v := nI 12) hx hb dM_stepped_76 (by decide) ?_
                  refine lv_iload_n hx hb dM_stepped_78 rfl (lv_at hl 5 rfl) ?_
                  refine n_imul hx hb dM_stepped_79 ?_
                  refine lv_iload hx hb dM_stepped_80 (lv_at hl 0 rfl) ?_
                  refine n_iadd hx hb dM_stepped_82 ?_
                  refine g_ialdv (v := nI (rw ((12 * (x.toInt.toNat)) + i))) hx hb hK 4 (hP.nth 5 rfl) rfl (by omega) (by decide) (rfl) dM_stepped_83 ?_
                  refine lv_istore (lv' := [(11, .int (nI (rw ((12 * (x.toInt.toNat)) + i)))), (10, .int (nI i)), (8, .long (lN (stp (qS so x.toInt.toNat) (qF pe rw x.toInt.toNat) (qF an rw x.toInt.toNat) k i))), (6, .long (lN k)), (4, .long (lN (mxN (fun t => stp (qS so x.toInt.toNat) (qF pe rw x.toInt.toNat) (qF an rw x.toInt.toNat) t (mn x.toInt.toNat) - t) k))), (2, .long (lN Q)), (1, .int (nI (x.toInt.toNat))), (0, .ref (a 0))]) hx hb dM_stepped_84 hl (by decide) rfl (fun ls hl => ?_)
                  refine lv_aload_n hx hb dM_stepped_86 rfl (lv_at hl 7 rfl) ?_
                  refine g_get (cl := vwCl) (ci := 3) (v := .ref (a 6)) hx hb hts inM hown hK (hP.nth 0 rfl) rfl 8 (by decide) (hts _ tb_308) rfl dM_stepped_87 ?_
                  refine lv_bipush (v := nI 12) hx hb dM_stepped_90 (by decide) ?_
                  refine lv_iload_n hx hb dM_stepped_92 rfl (lv_at hl 6 rfl) ?_
                  refine n_imul hx hb dM_stepped_93 ?_
                  refine lv_iload hx hb dM_stepped_94 (lv_at hl 1 rfl) ?_
                  refine n_iadd hx hb dM_stepped_96 ?_
                  refine g_zaldv (v := bI (so ((12 * (x.toInt.toNat)) + i))) hx hb hK 2 (hP.nth 6 rfl) rfl (by omega) (by decide) (rfl) dM_stepped_97 ?_
                  refine b_if_eq (tgt := 106) hx hb dM_stepped_98 (by decide) (fun q7 => ?_) (fun q7 => ?_)
                  · have hTp := hB.2.2 (by show (!so (12 * x.toInt.toNat + i)) = true; rw [q7]; rfl)
                    refine lv_lload hx hb dM_stepped_106 (lv_at hl 2 rfl) ?_
                    refine lv_aload_n hx hb dM_stepped_108 rfl (lv_at hl 7 rfl) ?_
                    refine g_get (cl := vwCl) (ci := 3) (v := .ref (a 1)) hx hb hts inM hown hK (hP.nth 0 rfl) rfl 2 (by decide) (hts _ tb_302) rfl dM_stepped_109 ?_
                    refine lv_iload hx hb dM_stepped_112 (lv_at hl 0 rfl) ?_
                    refine g_laldv (v := lN (pe (rw ((12 * (x.toInt.toNat)) + i)))) hx hb hK 3 (hP.nth 1 rfl) rfl (by omega) (by decide) (rfl) dM_stepped_114 ?_
                    refine n_ladd hx hb dM_stepped_115 ?_
                    refine lv_lconst (v := lN 1) hx hb dM_stepped_116 rfl ?_
                    refine n_lsub hx hb (by omega) dM_stepped_117 ?_
                    refine lv_aload_n hx hb dM_stepped_118 rfl (lv_at hl 7 rfl) ?_
                    refine g_get (cl := vwCl) (ci := 3) (v := .ref (a 1)) hx hb hts inM hown hK (hP.nth 0 rfl) rfl 2 (by decide) (hts _ tb_302) rfl dM_stepped_119 ?_
                    refine lv_iload hx hb dM_stepped_122 (lv_at hl 0 rfl) ?_
                    refine g_laldv (v := lN (pe (rw ((12 * (x.toInt.toNat)) + i)))) hx hb hK 3 (hP.nth 1 rfl) rfl (by omega) (by decide) (rfl) dM_stepped_124 ?_
                    refine n_ldiv hx hb (by omega) (by omega) (by omega) dM_stepped_125 ?_
                    refine lv_aload_n hx hb dM_stepped_126 rfl (lv_at hl 7 rfl) ?_
                    refine g_get (cl := vwCl) (ci := 3) (v := .ref (a 1)) hx hb hts inM hown hK (hP.nth 0 rfl) rfl 2 (by decide) (hts _ tb_302) rfl dM_stepped_127 ?_
                    refine lv_iload hx hb dM_stepped_130 (lv_at hl 0 rfl) ?_
                    refine g_laldv (v := lN (pe (rw ((12 * (x.toInt.toNat)) + i)))) hx hb hK 3 (hP.nth 1 rfl) rfl (by omega) (by decide) (rfl) dM_stepped_132 ?_
                    refine n_lmul hx hb dM_stepped_133 ?_
                    refine lv_lstore (lv' := [(8, .long (lN (((((stp (qS so x.toInt.toNat) (qF pe rw x.toInt.toNat) (qF an rw x.toInt.toNat) k i) + (pe (rw ((12 * (x.toInt.toNat)) + i)))) - 1) / (pe (rw ((12 * (x.toInt.toNat)) + i)))) * (pe (rw ((12 * (x.toInt.toNat)) + i)))))), (11, .int (nI (rw ((12 * (x.toInt.toNat)) + i)))), (10, .int (nI i)), (6, .long (lN k)), (4, .long (lN (mxN (fun t => stp (qS so x.toInt.toNat) (qF pe rw x.toInt.toNat) (qF an rw x.toInt.toNat) t (mn x.toInt.toNat) - t) k))), (2, .long (lN Q)), (1, .int (nI (x.toInt.toNat))), (0, .ref (a 0))]) hx hb dM_stepped_134 hl (by decide) rfl (fun ls hl => ?_)
                    refine lv_lload hx hb dM_stepped_136 (lv_at hl 0 rfl) ?_
                    refine lv_aload_n hx hb dM_stepped_138 rfl (lv_at hl 7 rfl) ?_
                    refine g_get (cl := vwCl) (ci := 3) (v := .ref (a 2)) hx hb hts inM hown hK (hP.nth 0 rfl) rfl 3 (by decide) (hts _ tb_303) rfl dM_stepped_139 ?_
                    refine lv_iload hx hb dM_stepped_142 (lv_at hl 1 rfl) ?_
                    refine g_laldv (v := lN (an (rw ((12 * (x.toInt.toNat)) + i)))) hx hb hK 3 (hP.nth 2 rfl) rfl (by omega) (by decide) (rfl) dM_stepped_144 ?_
                    refine n_ladd hx hb dM_stepped_145 ?_
                    refine lv_lstore (lv' := [(8, .long (lN ((((((stp (qS so x.toInt.toNat) (qF pe rw x.toInt.toNat) (qF an rw x.toInt.toNat) k i) + (pe (rw ((12 * (x.toInt.toNat)) + i)))) - 1) / (pe (rw ((12 * (x.toInt.toNat)) + i)))) * (pe (rw ((12 * (x.toInt.toNat)) + i)))) + (an (rw ((12 * (x.toInt.toNat)) + i)))))), (11, .int (nI (rw ((12 * (x.toInt.toNat)) + i)))), (10, .int (nI i)), (6, .long (lN k)), (4, .long (lN (mxN (fun t => stp (qS so x.toInt.toNat) (qF pe rw x.toInt.toNat) (qF an rw x.toInt.toNat) t (mn x.toInt.toNat) - t) k))), (2, .long (lN Q)), (1, .int (nI (x.toInt.toNat))), (0, .ref (a 0))]) hx hb dM_stepped_146 hl (by decide) rfl (fun ls hl => ?_)
                    refine lv_iinc (v := nI (i + 1)) (lv' := [(10, .int (nI (i + 1))), (8, .long (lN ((((((stp (qS so x.toInt.toNat) (qF pe rw x.toInt.toNat) (qF an rw x.toInt.toNat) k i) + (pe (rw ((12 * (x.toInt.toNat)) + i)))) - 1) / (pe (rw ((12 * (x.toInt.toNat)) + i)))) * (pe (rw ((12 * (x.toInt.toNat)) + i)))) + (an (rw ((12 * (x.toInt.toNat)) + i)))))), (11, .int (nI (rw ((12 * (x.toInt.toNat)) + i)))), (6, .long (lN k)), (4, .long (lN (mxN (fun t => stp (qS so x.toInt.toNat) (qF pe rw x.toInt.toNat) (qF an rw x.toInt.toNat) t (mn x.toInt.toNat) - t) k))), (2, .long (lN Q)), (1, .int (nI (x.toInt.toNat))), (0, .ref (a 0))]) hx hb dM_stepped_148 hl (k := 2) rfl (nI_add i 1) (by decide) rfl (fun ls hl => ?_)
                    refine lv_goto (tgt := 61) hx hb dM_stepped_151 (by decide) ?_
                    have e1 : stp (qS so x.toInt.toNat) (qF pe rw x.toInt.toNat) (qF an rw x.toInt.toNat) k (i + 1) = (stp (qS so x.toInt.toNat) (qF pe rw x.toInt.toNat) (qF an rw x.toInt.toNat) k i + pe (rw ((12 * x.toInt.toNat) + i)) - 1) / pe (rw ((12 * x.toInt.toNat) + i)) * pe (rw ((12 * x.toInt.toNat) + i)) + an (rw ((12 * x.toInt.toNat) + i)) := by show (if _ then _ else _) + _ = _; rw [if_pos (by show (!so (12 * x.toInt.toNat + i)) = true; rw [q7]; rfl)]; rfl
                    exact ih2 (i + 1) (by omega) (by omega) ls (by rw [e1]; exact lv_sub hl [0, 1, 3, 4, 5, 6, 7] rfl)
                  · refine lv_lload hx hb dM_stepped_101 (lv_at hl 2 rfl) ?_
                    refine lv_goto (tgt := 134) hx hb dM_stepped_103 (by decide) ?_
                    refine lv_lstore (lv' := [(8, .long (lN (stp (qS so x.toInt.toNat) (qF pe rw x.toInt.toNat) (qF an rw x.toInt.toNat) k i))), (11, .int (nI (rw ((12 * (x.toInt.toNat)) + i)))), (10, .int (nI i)), (6, .long (lN k)), (4, .long (lN (mxN (fun t => stp (qS so x.toInt.toNat) (qF pe rw x.toInt.toNat) (qF an rw x.toInt.toNat) t (mn x.toInt.toNat) - t) k))), (2, .long (lN Q)), (1, .int (nI (x.toInt.toNat))), (0, .ref (a 0))]) hx hb dM_stepped_134 hl (by decide) rfl (fun ls hl => ?_)
                    refine lv_lload hx hb dM_stepped_136 (lv_at hl 0 rfl) ?_
                    refine lv_aload_n hx hb dM_stepped_138 rfl (lv_at hl 7 rfl) ?_
                    refine g_get (cl := vwCl) (ci := 3) (v := .ref (a 2)) hx hb hts inM hown hK (hP.nth 0 rfl) rfl 3 (by decide) (hts _ tb_303) rfl dM_stepped_139 ?_
                    refine lv_iload hx hb dM_stepped_142 (lv_at hl 1 rfl) ?_
                    refine g_laldv (v := lN (an (rw ((12 * (x.toInt.toNat)) + i)))) hx hb hK 3 (hP.nth 2 rfl) rfl (by omega) (by decide) (rfl) dM_stepped_144 ?_
                    refine n_ladd hx hb dM_stepped_145 ?_
                    refine lv_lstore (lv' := [(8, .long (lN ((stp (qS so x.toInt.toNat) (qF pe rw x.toInt.toNat) (qF an rw x.toInt.toNat) k i) + (an (rw ((12 * (x.toInt.toNat)) + i)))))), (11, .int (nI (rw ((12 * (x.toInt.toNat)) + i)))), (10, .int (nI i)), (6, .long (lN k)), (4, .long (lN (mxN (fun t => stp (qS so x.toInt.toNat) (qF pe rw x.toInt.toNat) (qF an rw x.toInt.toNat) t (mn x.toInt.toNat) - t) k))), (2, .long (lN Q)), (1, .int (nI (x.toInt.toNat))), (0, .ref (a 0))]) hx hb dM_stepped_146 hl (by decide) rfl (fun ls hl => ?_)
                    refine lv_iinc (v := nI (i + 1)) (lv' := [(10, .int (nI (i + 1))), (8, .long (lN ((stp (qS so x.toInt.toNat) (qF pe rw x.toInt.toNat) (qF an rw x.toInt.toNat) k i) + (an (rw ((12 * (x.toInt.toNat)) + i)))))), (11, .int (nI (rw ((12 * (x.toInt.toNat)) + i)))), (6, .long (lN k)), (4, .long (lN (mxN (fun t => stp (qS so x.toInt.toNat) (qF pe rw x.toInt.toNat) (qF an rw x.toInt.toNat) t (mn x.toInt.toNat) - t) k))), (2, .long (lN Q)), (1, .int (nI (x.toInt.toNat))), (0, .ref (a 0))]) hx hb dM_stepped_148 hl (k := 2) rfl (nI_add i 1) (by decide) rfl (fun ls hl => ?_)
                    refine lv_goto (tgt := 61) hx hb dM_stepped_151 (by decide) ?_
                    have e1 : stp (qS so x.toInt.toNat) (qF pe rw x.toInt.toNat) (qF an rw x.toInt.toNat) k (i + 1) = stp (qS so x.toInt.toNat) (qF pe rw x.toInt.toNat) (qF an rw x.toInt.toNat) k i + an (rw ((12 * x.toInt.toNat) + i)) := by show (if _ then _ else _) + _ = _; rw [if_neg (by show ¬ (!so (12 * x.toInt.toNat + i)) = true; rw [q7]; decide)]; rfl
                    exact ih2 (i + 1) (by omega) (by omega) ls (by rw [e1]; exact lv_sub hl [0, 1, 3, 4, 5, 6, 7] rfl)
            exact inner (mn x.toInt.toNat + 1) 0 (by omega) (by omega) ls (lv_sub hl [0, 1, 2, 3, 4, 5, 6] rfl)
      exact loop (Q + 1) 0 (by omega) (by omega) ls (lv_sub hl [0, 1, 2, 4, 3] rfl)
    · refine lv_aload_n hx hb dM_stepped_25 rfl (lv_at hl 0 rfl) ?_
      refine lv_iload_n hx hb dM_stepped_26 rfl (lv_at hl 1 rfl) ?_
      refine vp_callSl (va_Run.run (va_runV (As := [.int (nI (x.toInt.toNat))]) (rest := []) ⟨hx, hb, hml, hown, hts⟩ (m_reaction l D ka H a 0 np nc pe an up dn rw so mn wd wv x.toInt.toNat hP hO hc1 hc2) (cw_V 1 hts tb_380 rfl rfl tb_377 tb_2 tb_379 ts_23 (by decide +kernel) ⟨Nat.le_of_ble_eq_true rfl, Nat.le_of_ble_eq_true rfl⟩) (ro_V (ci := 3) hK hN (hP.nth 0 rfl) rfl) rfl rfl hl.1 rfl (lv_room (Nat.le_of_ble_eq_true rfl)) dM_stepped_27 ⟨Nat.zero_le _, Nat.zero_le _⟩)) (fun r er => ?_)
      subst er
      exact W.lret (v := lN (rea pe an up dn rw so mn x.toInt.toNat)) hx hb hr (fun t ht hW => ⟨⟨_, (), rfl, by rw [spStep, if_neg hno, if_neg (by rw [q2]; decide)], by show va_P D vwCl _ t.heap; rw [ht]; exact hP⟩, hS.F ht⟩) hS.2.2 dM_stepped_30
  · refine lv_ldc2 (v := (-1)) hx hb hown (hts _ tb_372) dM_stepped_13 ?_
    exact W.lret (v := (-1)) hx hb hr (fun t ht hW => ⟨⟨_, (), rfl, by rw [spStep, if_pos q1], by show va_P D vwCl _ t.heap; rw [ht]; exact hP⟩, hS.F ht⟩) hS.2.2 dM_stepped_16
set_option maxHeartbeats 4000000 in
set_option maxRecDepth 100000 in
theorem n_cycle (l : Launch) (D : va_G) (ka : Nat → ClassId) (H0 : Heap) (a : Nat → Nat) (tv np nc : Nat) (pe an up dn rw : Nat → Nat) (so : Nat → Bool) (mn : Nat → Nat) (wd : Nat → Bool) (wv : Nat → Int64) (x : Int32) (hM : va_P D vwCl (mW ka a tv np nc pe an up dn rw so mn wd wv) H0) (hO : mOk np nc pe an up dn rw so mn wd wv) (haI : ∀ i j, i < 10 → j < 10 → a i = a j → i = j)  : Met l yM_cycle (.code yM_cycle cM_cycle 3 (some .long) :: gT) ({ frames := 2, cells := 0, slots := 0, locals := 58 }) (ro_Pc D vwCl (tyL ka) H0 [.ref (a 0), .int x]) (va_Ql (fun (r : Int64) (u : Unit) => ((spEmp nc mn x = true ∨ lack pe rw mn x.toInt.toNat = false) → r = spCycle nc pe rw so mn x)) (fun u t => va_P D vwCl (mW ka a (if (!spEmp nc mn x && lack pe rw mn x.toInt.toNat) = true then 1 else 0) np nc pe an up dn rw so mn wd wv) t.heap) (mA a)) 0 0 (mA a) := by
  refine Met.ofW (cc := cM_cycle) (maxL := 3) (ret := (some .long)) (by decide) rfl ?_
  intro p e s m args below meth c s₁ B hml hv
  obtain ⟨rfl, hH, hK, hN⟩ := hv
  subst hH
  have hx := B.exec
  have hb := B.bytes
  have hr := B.returns
  have hts : ∀ w ∈ gT, w.before ([.ref (a 0), .int x] : List Value).toArray s = true := fun w h => atoms_spec (ws := (.code yM_cycle cM_cycle 3 (some .long) :: gT)) B.pre w (List.mem_cons_of_mem _ h)
  have hown : s.vm.findClass RM = some m.cls := findClass_of_methodNamed B.named
  have hlocks := B.notSynchronized
  have hl := lv_entry ([.ref (a 0), .int x]) (n := 3) (Nat.le_of_ble_eq_true rfl)
  rw [lg_entry_eq]
  generalize (lg_sl ([.ref (a 0), .int x]) ++ List.replicate (3 - (lg_sl ([.ref (a 0), .int x])).length) Slot.unset).toArray = ls at hl ⊢
  have hl : lv_has ls 3 [(0, .ref (a 0)), (1, .int x)] := hl
  have hP : va_P D vwCl (mW ka a tv np nc pe an up dn rw so mn wd wv) s.heap := hM
  have hD : va_D (mA a) (mW ka a tv np nc pe an up dn rw so mn wd wv) := mD haI
  have hS : va_S (mA a) s.heap s.heap [] := va_S.rf
  have hnp := hO.1
  have hnc := hO.2.1
  refine lv_aload_n hx hb dM_cycle_0 rfl (lv_at hl 0 rfl) ?_
  refine lv_iconst (v := nI 0) hx hb dM_cycle_1 (by decide) ?_
  refine va_put (D := D) (cl := vwCl) (ci := 3) (v := .int (nI 0)) (ty := .int) (C := RM) (T := TM) (N := 12) hx hb hts inM tyM tyM_ok nmM hown hK hP hD hS 0 rfl rfl 0 (by decide) (hts _ tb_300) (fun _ h9 => h9) rfl (by decide +kernel) rfl rfl (Nat.le_of_ble_eq_true rfl) dM_cycle_2 (fun H locs hP hD hS => ?_)
  have hP : va_P D vwCl (mW ka a 0 np nc pe an up dn rw so mn wd wv) H := hP
  have hD : va_D (mA a) (mW ka a 0 np nc pe an up dn rw so mn wd wv) := hD
  refine lv_aload_n hx hb dM_cycle_5 rfl (lv_at hl 0 rfl) ?_
  refine lv_iload_n hx hb dM_cycle_6 rfl (lv_at hl 1 rfl) ?_
  refine vp_callSi (va_Run.run (va_runV (As := [.int x]) (rest := []) ⟨hx, hb, hml, hown, hts⟩ (m_isEmpty l D ka H a 0 np nc pe an up dn rw so mn wd wv x hP hO) (cw_V 1 hts tb_371 rfl rfl tb_368 tb_2 tb_370 ts_21 (by decide +kernel) ⟨Nat.le_of_ble_eq_true rfl, Nat.le_of_ble_eq_true rfl⟩) (ro_V (ci := 3) hK hN (hP.nth 0 rfl) rfl) rfl rfl hl.1 rfl (lv_room (Nat.le_of_ble_eq_true rfl)) dM_cycle_7 ⟨Nat.zero_le _, Nat.zero_le _⟩)) (fun r er => ?_)
  subst er
  refine b_if_eq (tgt := 17) hx hb dM_cycle_10 (by decide) (fun q1 => ?_) (fun q1 => ?_)
  · obtain ⟨ex, hc1, hc2, hn0⟩ := spEmp_f q1
    rw [ex] at hl
    have hmn := (hO.2.2.2.1 x.toInt.toNat hc1 hc2).1
    refine lv_iconst (v := nI 0) hx hb dM_cycle_17 (by decide) ?_
    refine lv_istore_n (lv' := [(2, .int (nI 0)), (0, .ref (a 0)), (1, .int (nI (x.toInt.toNat)))]) hx hb dM_cycle_18 rfl hl (by decide) rfl (fun ls hl => ?_)
    skip
    have loop : ∀ (fu i : Nat), i ≤ mn x.toInt.toNat → mn x.toInt.toNat < i + fu → ∀ (H : Heap) (locs : List Loc), va_P D vwCl (mW ka a (if anyN (fun i => (qF pe rw x.toInt.toNat) i == 0) i = true then 1 else 0) np nc pe an up dn rw so mn wd wv) H → va_D (mA a) (mW ka a (if anyN (fun i => (qF pe rw x.toInt.toNat) i == 0) i = true then 1 else 0) np nc pe an up dn rw so mn wd wv) → va_S (mA a) s.heap H locs → ∀ ls : Array Slot, lv_has ls 3 [(2, .int (nI i)), (1, .int (nI (x.toInt.toNat))), (0, .ref (a 0))] → W p l e (headSpec (.code yM_cycle cM_cycle 3 (some .long) :: gT) ({ frames := 2, cells := 0, slots := 0, locals := 58 })).room s m ([.ref (a 0), .int x] : List Value).toArray below meth c H locs 0 0 (MQ below (va_Ql (fun (r : Int64) (u : Unit) => ((spEmp nc mn x = true ∨ lack pe rw mn x.toInt.toNat = false) → r = spCycle nc pe rw so mn x)) (fun u t => va_P D vwCl (mW ka a (if (!spEmp nc mn x && lack pe rw mn x.toInt.toNat) = true then 1 else 0) np nc pe an up dn rw so mn wd wv) t.heap) (mA a)) ([.ref (a 0), .int x] : List Value).toArray s 0 0 (mA a)) (F0 m 19 ls []) := by
      intro fu
      induction fu with
      | zero => intro i h1 h2; exact absurd h2 (by omega)
      | succ fu ih =>
        intro i hi hf H locs hP hD hS ls hl
        refine lv_iload_n hx hb dM_cycle_19 rfl (lv_at hl 0 rfl) ?_
        refine lv_aload_n hx hb dM_cycle_20 rfl (lv_at hl 2 rfl) ?_
        refine g_get (cl := vwCl) (ci := 3) (v := .ref (a 7)) hx hb hts inM hown hK (hP.nth 0 rfl) rfl 9 (by decide) (hts _ tb_309) rfl dM_cycle_21 ?_
        refine lv_iload_n hx hb dM_cycle_24 rfl (lv_at hl 1 rfl) ?_
        refine g_ialdv (v := nI (mn (x.toInt.toNat))) hx hb hK 4 (hP.nth 7 rfl) rfl (by omega) (by decide) (rfl) dM_cycle_25 ?_
        refine n_icmp_ge (tgt := 68) hx hb (by omega) (by omega) dM_cycle_26 (by decide) (fun hc => ?_) (fun hc => ?_)
        · obtain hi2 : i = mn x.toInt.toNat := by omega
          subst hi2
          by_cases hlk : anyN (fun i => (qF pe rw x.toInt.toNat) i == 0) (mn x.toInt.toNat) = true
          · rw [if_pos hlk] at hP hD
            have etv : (if (!spEmp nc mn x && lack pe rw mn x.toInt.toNat) = true then 1 else 0) = 1 := by rw [q1, lack, hlk]; rfl
            refine lv_aload_n hx hb dM_cycle_68 rfl (lv_at hl 2 rfl) ?_
            refine g_get (cl := vwCl) (ci := 3) (v := .int (nI 1)) hx hb hts inM hown hK (hP.nth 0 rfl) rfl 0 (by decide) (hts _ tb_300) rfl dM_cycle_69 ?_
            refine r_if_le (tgt := 79) hx hb dM_cycle_72 (by decide) (fun q6 => ?_) (fun q6 => ?_)
            · exact absurd q6 (by decide +kernel)
            · refine lv_lconst (v := lN 0) hx hb dM_cycle_75 rfl ?_
              refine lv_goto (tgt := 88) hx hb dM_cycle_76 (by decide) ?_
              rw [← etv] at hP
              exact W.lret (v := lN 0) hx hb hr (fun t ht hW => ⟨⟨_, (), rfl, fun h9 => absurd h9 (by rw [q1, lack, hlk]; decide), by show va_P D vwCl _ t.heap; rw [ht]; exact hP⟩, hS.F ht⟩) hS.2.2 dM_cycle_88
          · rw [if_neg hlk] at hP hD
            have etv : (if (!spEmp nc mn x && lack pe rw mn x.toInt.toNat) = true then 1 else 0) = 0 := by rw [q1, lack, show anyN (fun i => (qF pe rw x.toInt.toNat) i == 0) (mn x.toInt.toNat) = false by simpa using hlk]; rfl
            refine lv_aload_n hx hb dM_cycle_68 rfl (lv_at hl 2 rfl) ?_
            refine g_get (cl := vwCl) (ci := 3) (v := .int (nI 0)) hx hb hts inM hown hK (hP.nth 0 rfl) rfl 0 (by decide) (hts _ tb_300) rfl dM_cycle_69 ?_
            refine r_if_le (tgt := 79) hx hb dM_cycle_72 (by decide) (fun q6 => ?_) (fun q6 => ?_)
            · have hal : ∀ i, i < mn x.toInt.toNat → (qS so x.toInt.toNat i || true) = true → 0 < (qF pe rw x.toInt.toNat) i := fun i hi _ => Nat.pos_of_ne_zero (fun h9 => hlk (anyN_hit hi (by simpa using h9)))
              refine lv_aload_n hx hb dM_cycle_79 rfl (lv_at hl 2 rfl) ?_
              refine lv_iload_n hx hb dM_cycle_80 rfl (lv_at hl 1 rfl) ?_
              refine lv_iconst (v := nI 1) hx hb dM_cycle_81 (by decide) ?_
              have ebt : nI 1 = bI true := rfl
              rw [ebt]
              refine lv_ldc2 (v := lN 1000000000) hx hb hown (hts _ tb_411) dM_cycle_82 ?_
              refine vp_callSl (va_Run.run (va_runV (As := [.int (nI (x.toInt.toNat)), .int (bI true), .long (lN 1000000000)]) (rest := []) ⟨hx, hb, hml, hown, hts⟩ (m_common l D ka H a 0 np nc pe an up dn rw so mn wd wv x.toInt.toNat true 1000000000 hP hO hc1 hc2 (by omega) (by omega) hal) (cw_V 3 hts tb_415 rfl rfl tb_412 tb_2 tb_414 ts_26 (by decide +kernel) ⟨Nat.le_of_ble_eq_true rfl, Nat.le_of_ble_eq_true rfl⟩) (ro_V (ci := 3) hK hN (hP.nth 0 rfl) rfl) rfl rfl hl.1 rfl (lv_room (Nat.le_of_ble_eq_true rfl)) dM_cycle_85 ⟨Nat.zero_le _, Nat.zero_le _⟩)) (fun r er => ?_)
              subst er
              rw [← etv] at hP
              exact W.lret (v := lN (cyM 1000000000 (fun i => qS so x.toInt.toNat i || true) (qF pe rw x.toInt.toNat) (mn x.toInt.toNat))) hx hb hr (fun t ht hW => ⟨⟨_, (), rfl, fun _ => by rw [spCycle, if_neg (by rw [q1]; decide), cyc_M], by show va_P D vwCl _ t.heap; rw [ht]; exact hP⟩, hS.F ht⟩) hS.2.2 dM_cycle_88
            · exact absurd q6 (by decide +kernel)
        · have hR := hO.row hc1 hc2 hc
          have hTe : (qF pe rw x.toInt.toNat) i ≤ 20000 := hR.2.1
          have hT2 : pe (rw ((12 * x.toInt.toNat) + i)) ≤ 20000 := hR.2.1
          refine lv_aload_n hx hb dM_cycle_29 rfl (lv_at hl 2 rfl) ?_
          refine lv_aload_n hx hb dM_cycle_30 rfl (lv_at hl 2 rfl) ?_
          refine g_get (cl := vwCl) (ci := 3) (v := .ref (a 1)) hx hb hts inM hown hK (hP.nth 0 rfl) rfl 2 (by decide) (hts _ tb_302) rfl dM_cycle_31 ?_
          refine lv_aload_n hx hb dM_cycle_34 rfl (lv_at hl 2 rfl) ?_
          refine g_get (cl := vwCl) (ci := 3) (v := .ref (a 5)) hx hb hts inM hown hK (hP.nth 0 rfl) rfl 7 (by decide) (hts _ tb_307) rfl dM_cycle_35 ?_
          refine lv_bipush (v := nI 12) hx hb dM_cycle_38 (by decide) ?_
          refine lv_iload_n hx hb dM_cycle_40 rfl (lv_at hl 1 rfl) ?_
          refine n_imul hx hb dM_cycle_41 ?_
          refine lv_iload_n hx hb dM_cycle_42 rfl (lv_at hl 0 rfl) ?_
          refine n_iadd hx hb dM_cycle_43 ?_
          refine g_ialdv (v := nI (rw ((12 * (x.toInt.toNat)) + i))) hx hb hK 4 (hP.nth 5 rfl) rfl (by omega) (by decide) (rfl) dM_cycle_44 ?_
          refine g_laldv (v := lN (pe (rw ((12 * (x.toInt.toNat)) + i)))) hx hb hK 3 (hP.nth 1 rfl) rfl (by omega) (by decide) (rfl) dM_cycle_45 ?_
          refine lv_lconst (v := lN 0) hx hb dM_cycle_46 rfl ?_
          refine n_lcmp_ne (tgt := 55) hx hb (by omega) (by omega) dM_cycle_47 dM_cycle_48 (by decide) (fun q5 => ?_) (fun q5 => ?_)
          · refine lv_aload_n hx hb dM_cycle_55 rfl (lv_at hl 2 rfl) ?_
            refine g_get (cl := vwCl) (ci := 3) (v := .int (nI ((if anyN (fun i => (qF pe rw x.toInt.toNat) i == 0) i = true then 1 else 0)))) hx hb hts inM hown hK (hP.nth 0 rfl) rfl 0 (by decide) (hts _ tb_300) rfl dM_cycle_56 ?_
            refine va_put (D := D) (cl := vwCl) (ci := 3) (v := .int (nI ((if anyN (fun i => (qF pe rw x.toInt.toNat) i == 0) i = true then 1 else 0)))) (ty := .int) (C := RM) (T := TM) (N := 12) hx hb hts inM tyM tyM_ok nmM hown hK hP hD hS 0 rfl rfl 0 (by decide) (hts _ tb_300) (fun _ h9 => h9) rfl (by decide +kernel) rfl rfl (Nat.le_of_ble_eq_true rfl) dM_cycle_59 (fun H locs hP hD hS => ?_)
            have hP : va_P D vwCl (mW ka a (if anyN (fun i => (qF pe rw x.toInt.toNat) i == 0) i = true then 1 else 0) np nc pe an up dn rw so mn wd wv) H := hP
            have hD : va_D (mA a) (mW ka a (if anyN (fun i => (qF pe rw x.toInt.toNat) i == 0) i = true then 1 else 0) np nc pe an up dn rw so mn wd wv) := hD
            refine lv_iinc (v := nI (i + 1)) (lv' := [(2, .int (nI (i + 1))), (1, .int (nI (x.toInt.toNat))), (0, .ref (a 0))]) hx hb dM_cycle_62 hl (k := 0) rfl (nI_add i 1) (by decide) rfl (fun ls hl => ?_)
            refine lv_goto (tgt := 19) hx hb dM_cycle_65 (by decide) ?_
            have e1 : (if anyN (fun i => (qF pe rw x.toInt.toNat) i == 0) (i + 1) = true then 1 else 0) = (if anyN (fun i => (qF pe rw x.toInt.toNat) i == 0) i = true then 1 else 0) := by rw [anyN_skip (p := fun i => (qF pe rw x.toInt.toNat) i == 0) (by show (pe (rw (12 * x.toInt.toNat + i)) == 0) = false; exact beq_eq_false_iff_ne.mpr q5)]
            exact ih (i + 1) (by omega) (by omega) H locs (by rw [e1]; exact hP) (by rw [e1]; exact hD) hS ls (lv_sub hl [0, 1, 2] rfl)
          · refine lv_iconst (v := nI 1) hx hb dM_cycle_51 (by decide) ?_
            refine lv_goto (tgt := 59) hx hb dM_cycle_52 (by decide) ?_
            refine va_put (D := D) (cl := vwCl) (ci := 3) (v := .int (nI 1)) (ty := .int) (C := RM) (T := TM) (N := 12) hx hb hts inM tyM tyM_ok nmM hown hK hP hD hS 0 rfl rfl 0 (by decide) (hts _ tb_300) (fun _ h9 => h9) rfl (by decide +kernel) rfl rfl (Nat.le_of_ble_eq_true rfl) dM_cycle_59 (fun H locs hP hD hS => ?_)
            have hP : va_P D vwCl (mW ka a 1 np nc pe an up dn rw so mn wd wv) H := hP
            have hD : va_D (mA a) (mW ka a 1 np nc pe an up dn rw so mn wd wv) := hD
            refine lv_iinc (v := nI (i + 1)) (lv' := [(2, .int (nI (i + 1))), (1, .int (nI (x.toInt.toNat))), (0, .ref (a 0))]) hx hb dM_cycle_62 hl (k := 0) rfl (nI_add i 1) (by decide) rfl (fun ls hl => ?_)
            refine lv_goto (tgt := 19) hx hb dM_cycle_65 (by decide) ?_
            have e1 : (if anyN (fun i => (qF pe rw x.toInt.toNat) i == 0) (i + 1) = true then 1 else 0) = 1 := by rw [if_pos (anyN_hit (i := i) (by omega) (by show (pe (rw (12 * x.toInt.toNat + i)) == 0) = true; exact beq_iff_eq.mpr q5))]
            exact ih (i + 1) (by omega) (by omega) H locs (by rw [e1]; exact hP) (by rw [e1]; exact hD) hS ls (lv_sub hl [0, 1, 2] rfl)
    exact loop (mn x.toInt.toNat + 1) 0 (by omega) (by omega) H locs hP hD hS ls (lv_sub hl [0, 2, 1] rfl)
  · refine lv_ldc2 (v := (-1)) hx hb hown (hts _ tb_372) dM_cycle_13 ?_
    have etv : (if (!spEmp nc mn x && lack pe rw mn x.toInt.toNat) = true then 1 else 0) = 0 := by rw [q1]; rfl
    rw [← etv] at hP
    exact W.lret (v := (-1)) hx hb hr (fun t ht hW => ⟨⟨_, (), rfl, fun _ => by rw [spCycle, if_pos q1], by show va_P D vwCl _ t.heap; rw [ht]; exact hP⟩, hS.F ht⟩) hS.2.2 dM_cycle_16
end
section
set_option maxHeartbeats 4000000 in
set_option maxRecDepth 100000 in
theorem x_pieceNumbered (l : Launch) (D : va_G) (ka : Nat → ClassId) (H0 : Heap) (ad : Nat → Nat → Nat) (np nc : Nat) (pe an up dn rw : Nat → Nat) (so : Nat → Bool) (mn : Nat → Nat) (wd : Nat → Bool) (wv : Nat → Int64) (x : Int32) (hX : XInv D ka ad np nc pe an up dn rw so mn wd wv H0) (hO : mOk np nc pe an up dn rw so mn wd wv) : Met l yX2_pieceNumbered (.code yX2_pieceNumbered cX2_pieceNumbered 2 (some (.object "ChainSums$Piece")) :: gT) ({ frames := 0, cells := 0, slots := 0, locals := 0 }) (ro_Pc D vwCl (tyL ka) H0 [.ref (ad 0 0), .int x]) (va_Sq (fun r => r = (if cNo x np = true then none else some (ad 3 x.toInt.toNat)))) 0 0 (fun _ => False) := by
  refine Met.ofW (cc := cX2_pieceNumbered) (maxL := 2) (ret := (some (.object "ChainSums$Piece"))) (by decide) rfl ?_
  intro p e s m args below meth c s₁ B hml hv
  obtain ⟨rfl, hH, hK, hN⟩ := hv
  subst hH
  have hx := B.exec
  have hb := B.bytes
  have hr := B.returns
  have hts : ∀ w ∈ gT, w.before ([.ref (ad 0 0), .int x] : List Value).toArray s = true := fun w h => atoms_spec (ws := (.code yX2_pieceNumbered cX2_pieceNumbered 2 (some (.object "ChainSums$Piece")) :: gT)) B.pre w (List.mem_cons_of_mem _ h)
  have hown : s.vm.findClass RX2 = some m.cls := findClass_of_methodNamed B.named
  have hlocks := B.notSynchronized
  have hl := lv_entry ([.ref (ad 0 0), .int x]) (n := 2) (Nat.le_of_ble_eq_true rfl)
  rw [lg_entry_eq]
  generalize (lg_sl ([.ref (ad 0 0), .int x]) ++ List.replicate (2 - (lg_sl ([.ref (ad 0 0), .int x])).length) Slot.unset).toArray = ls at hl ⊢
  have hl : lv_has ls 2 [(0, .ref (ad 0 0)), (1, .int x)] := hl
  have hnp := hO.1
  have hnc := hO.2.1
  refine lv_iload_n hx hb dX2_pieceNumbered_0 rfl (lv_at hl 1 rfl) ?_
  refine lv_iconst (v := nI 1) hx hb dX2_pieceNumbered_1 (by decide) ?_
  refine r_icmp_lt (tgt := 13) hx hb dX2_pieceNumbered_2 (by decide) (fun hc0 => ?_) (fun hc0 => ?_)
  · refine lv_null hx hb dX2_pieceNumbered_13 ?_
    refine lv_goto (tgt := 25) hx hb dX2_pieceNumbered_14 (by decide) ?_
    exact W.aret hx hb hr (Or.inl ⟨_, rfl⟩) (va_rf_or (none)) (fun t ht hW => ⟨none, rfl, by rw [if_pos (cNo_t1 (by rw [nI_toInt (by omega)] at hc0; omega))], ht⟩) t_nil dX2_pieceNumbered_25
  · refine lv_iload_n hx hb dX2_pieceNumbered_5 rfl (lv_at hl 1 rfl) ?_
    refine lv_aload_n hx hb dX2_pieceNumbered_6 rfl (lv_at hl 0 rfl) ?_
    refine g_get (cl := vwCl) (ci := 2) (v := .int (nI np)) hx hb hts inX2 hown hK hX.o rfl 2 (by decide) (hts _ tb_24) rfl dX2_pieceNumbered_7 ?_
    refine r_icmp_le (tgt := 17) hx hb dX2_pieceNumbered_10 (by decide) (fun hc => ?_) (fun hc => ?_)
    · have hno : cNo x np = false := cNo_f (by rw [nI_toInt (by omega)] at hc0; omega) (by rw [nI_toInt (by omega)] at hc; omega)
      obtain ⟨ex, h1, h2⟩ := cNo_nI hno
      rw [ex] at hl
      refine lv_aload_n hx hb dX2_pieceNumbered_17 rfl (lv_at hl 0 rfl) ?_
      refine g_get (cl := vwCl) (ci := 2) (v := .ref (ad 1 0)) hx hb hts inX2 hown hK hX.o rfl 0 (by decide) (hts _ tb_22) rfl dX2_pieceNumbered_18 ?_
      refine lv_iload_n hx hb dX2_pieceNumbered_21 rfl (lv_at hl 1 rfl) ?_
      refine lv_iconst (v := nI 1) hx hb dX2_pieceNumbered_22 (by decide) ?_
      refine n_isub hx hb (by omega) dX2_pieceNumbered_23 ?_
      refine g_aldr hx hb hK 0 hX.pa rfl (by omega) (by decide) (if_pos (by omega)) dX2_pieceNumbered_24 ?_
      exact W.aret hx hb hr (Or.inl ⟨_, rfl⟩) (va_rf_or (some (ad 3 (x.toInt.toNat - 1 + 1)))) (fun t ht hW => ⟨some (ad 3 (x.toInt.toNat - 1 + 1)), rfl, by rw [hno, if_neg (by decide), Nat.sub_add_cancel h1], ht⟩) t_nil dX2_pieceNumbered_25
    · refine lv_null hx hb dX2_pieceNumbered_13 ?_
      refine lv_goto (tgt := 25) hx hb dX2_pieceNumbered_14 (by decide) ?_
      exact W.aret hx hb hr (Or.inl ⟨_, rfl⟩) (va_rf_or (none)) (fun t ht hW => ⟨none, rfl, by rw [if_pos (cNo_t2 (by rw [nI_toInt (by omega)] at hc; omega))], ht⟩) t_nil dX2_pieceNumbered_25
set_option maxHeartbeats 4000000 in
set_option maxRecDepth 100000 in
theorem x_chainNumbered (l : Launch) (D : va_G) (ka : Nat → ClassId) (H0 : Heap) (ad : Nat → Nat → Nat) (np nc : Nat) (pe an up dn rw : Nat → Nat) (so : Nat → Bool) (mn : Nat → Nat) (wd : Nat → Bool) (wv : Nat → Int64) (x : Int32) (hX : XInv D ka ad np nc pe an up dn rw so mn wd wv H0) (hO : mOk np nc pe an up dn rw so mn wd wv) : Met l yX2_chainNumbered (.code yX2_chainNumbered cX2_chainNumbered 2 (some (.object "ChainSums$Chain")) :: gT) ({ frames := 0, cells := 0, slots := 0, locals := 0 }) (ro_Pc D vwCl (tyL ka) H0 [.ref (ad 0 0), .int x]) (va_Sq (fun r => r = (if cNo x nc = true then none else some (ad 4 x.toInt.toNat)))) 0 0 (fun _ => False) := by
  refine Met.ofW (cc := cX2_chainNumbered) (maxL := 2) (ret := (some (.object "ChainSums$Chain"))) (by decide) rfl ?_
  intro p e s m args below meth c s₁ B hml hv
  obtain ⟨rfl, hH, hK, hN⟩ := hv
  subst hH
  have hx := B.exec
  have hb := B.bytes
  have hr := B.returns
  have hts : ∀ w ∈ gT, w.before ([.ref (ad 0 0), .int x] : List Value).toArray s = true := fun w h => atoms_spec (ws := (.code yX2_chainNumbered cX2_chainNumbered 2 (some (.object "ChainSums$Chain")) :: gT)) B.pre w (List.mem_cons_of_mem _ h)
  have hown : s.vm.findClass RX2 = some m.cls := findClass_of_methodNamed B.named
  have hlocks := B.notSynchronized
  have hl := lv_entry ([.ref (ad 0 0), .int x]) (n := 2) (Nat.le_of_ble_eq_true rfl)
  rw [lg_entry_eq]
  generalize (lg_sl ([.ref (ad 0 0), .int x]) ++ List.replicate (2 - (lg_sl ([.ref (ad 0 0), .int x])).length) Slot.unset).toArray = ls at hl ⊢
  have hl : lv_has ls 2 [(0, .ref (ad 0 0)), (1, .int x)] := hl
  have hnp := hO.1
  have hnc := hO.2.1
  refine lv_iload_n hx hb dX2_chainNumbered_0 rfl (lv_at hl 1 rfl) ?_
  refine lv_iconst (v := nI 1) hx hb dX2_chainNumbered_1 (by decide) ?_
  refine r_icmp_lt (tgt := 13) hx hb dX2_chainNumbered_2 (by decide) (fun hc0 => ?_) (fun hc0 => ?_)
  · refine lv_null hx hb dX2_chainNumbered_13 ?_
    refine lv_goto (tgt := 25) hx hb dX2_chainNumbered_14 (by decide) ?_
    exact W.aret hx hb hr (Or.inl ⟨_, rfl⟩) (va_rf_or (none)) (fun t ht hW => ⟨none, rfl, by rw [if_pos (cNo_t1 (by rw [nI_toInt (by omega)] at hc0; omega))], ht⟩) t_nil dX2_chainNumbered_25
  · refine lv_iload_n hx hb dX2_chainNumbered_5 rfl (lv_at hl 1 rfl) ?_
    refine lv_aload_n hx hb dX2_chainNumbered_6 rfl (lv_at hl 0 rfl) ?_
    refine g_get (cl := vwCl) (ci := 2) (v := .int (nI nc)) hx hb hts inX2 hown hK hX.o rfl 3 (by decide) (hts _ tb_25) rfl dX2_chainNumbered_7 ?_
    refine r_icmp_le (tgt := 17) hx hb dX2_chainNumbered_10 (by decide) (fun hc => ?_) (fun hc => ?_)
    · have hno : cNo x nc = false := cNo_f (by rw [nI_toInt (by omega)] at hc0; omega) (by rw [nI_toInt (by omega)] at hc; omega)
      obtain ⟨ex, h1, h2⟩ := cNo_nI hno
      rw [ex] at hl
      refine lv_aload_n hx hb dX2_chainNumbered_17 rfl (lv_at hl 0 rfl) ?_
      refine g_get (cl := vwCl) (ci := 2) (v := .ref (ad 2 0)) hx hb hts inX2 hown hK hX.o rfl 1 (by decide) (hts _ tb_23) rfl dX2_chainNumbered_18 ?_
      refine lv_iload_n hx hb dX2_chainNumbered_21 rfl (lv_at hl 1 rfl) ?_
      refine lv_iconst (v := nI 1) hx hb dX2_chainNumbered_22 (by decide) ?_
      refine n_isub hx hb (by omega) dX2_chainNumbered_23 ?_
      refine g_aldr hx hb hK 1 hX.ca rfl (by omega) (by decide) (if_pos (by omega)) dX2_chainNumbered_24 ?_
      exact W.aret hx hb hr (Or.inl ⟨_, rfl⟩) (va_rf_or (some (ad 4 (x.toInt.toNat - 1 + 1)))) (fun t ht hW => ⟨some (ad 4 (x.toInt.toNat - 1 + 1)), rfl, by rw [hno, if_neg (by decide), Nat.sub_add_cancel h1], ht⟩) t_nil dX2_chainNumbered_25
    · refine lv_null hx hb dX2_chainNumbered_13 ?_
      refine lv_goto (tgt := 25) hx hb dX2_chainNumbered_14 (by decide) ?_
      exact W.aret hx hb hr (Or.inl ⟨_, rfl⟩) (va_rf_or (none)) (fun t ht hW => ⟨none, rfl, by rw [if_pos (cNo_t2 (by rw [nI_toInt (by omega)] at hc; omega))], ht⟩) t_nil dX2_chainNumbered_25
set_option maxHeartbeats 4000000 in
set_option maxRecDepth 100000 in
theorem x_filledChain (l : Launch) (D : va_G) (ka : Nat → ClassId) (H0 : Heap) (ad : Nat → Nat → Nat) (np nc : Nat) (pe an up dn rw : Nat → Nat) (so : Nat → Bool) (mn : Nat → Nat) (wd : Nat → Bool) (wv : Nat → Int64) (x : Int32) (hX : XInv D ka ad np nc pe an up dn rw so mn wd wv H0) (hO : mOk np nc pe an up dn rw so mn wd wv) : Met l yX2_filledChain (.code yX2_filledChain cX2_filledChain 3 (some (.object "ChainSums$Chain")) :: gT) ({ frames := 1, cells := 0, slots := 0, locals := 21 }) (ro_Pc D vwCl (tyL ka) H0 [.ref (ad 0 0), .int x]) (va_Sq (fun r => r = (if spEmp nc mn x = true then none else some (ad 4 x.toInt.toNat)))) 0 0 (fun _ => False) := by
  refine Met.ofW (cc := cX2_filledChain) (maxL := 3) (ret := (some (.object "ChainSums$Chain"))) (by decide) rfl ?_
  intro p e s m args below meth c s₁ B hml hv
  obtain ⟨rfl, hH, hK, hN⟩ := hv
  subst hH
  have hx := B.exec
  have hb := B.bytes
  have hr := B.returns
  have hts : ∀ w ∈ gT, w.before ([.ref (ad 0 0), .int x] : List Value).toArray s = true := fun w h => atoms_spec (ws := (.code yX2_filledChain cX2_filledChain 3 (some (.object "ChainSums$Chain")) :: gT)) B.pre w (List.mem_cons_of_mem _ h)
  have hown : s.vm.findClass RX2 = some m.cls := findClass_of_methodNamed B.named
  have hlocks := B.notSynchronized
  have hl := lv_entry ([.ref (ad 0 0), .int x]) (n := 3) (Nat.le_of_ble_eq_true rfl)
  rw [lg_entry_eq]
  generalize (lg_sl ([.ref (ad 0 0), .int x]) ++ List.replicate (3 - (lg_sl ([.ref (ad 0 0), .int x])).length) Slot.unset).toArray = ls at hl ⊢
  have hl : lv_has ls 3 [(0, .ref (ad 0 0)), (1, .int x)] := hl
  have hnp := hO.1
  have hnc := hO.2.1
  refine lv_aload_n hx hb dX2_filledChain_0 rfl (lv_at hl 0 rfl) ?_
  refine lv_iload_n hx hb dX2_filledChain_1 rfl (lv_at hl 1 rfl) ?_
  refine va_csq (va_Run.run (va_runV (As := [.int x]) (rest := []) ⟨hx, hb, hml, hown, hts⟩ (x_chainNumbered l D ka s.heap ad np nc pe an up dn rw so mn wd wv x hX hO) (cw_V 1 hts tb_98 rfl rfl tb_95 tb_1 tb_97 ts_0 (by decide +kernel) ⟨Nat.le_of_ble_eq_true rfl, Nat.le_of_ble_eq_true rfl⟩) (ro_V (ci := 2) hK hN hX.o rfl) rfl rfl hl.1 rfl (lv_room (Nat.le_of_ble_eq_true rfl)) dX2_filledChain_2 ⟨Nat.zero_le _, Nat.zero_le _⟩)) (fun r er => ?_)
  subst er
  by_cases q1 : cNo x nc = true
  · rw [if_pos q1, show va_rf none = Value.null from rfl]
    refine lv_astore_nN (lv' := [(2, .null), (0, .ref (ad 0 0)), (1, .int x)]) hx hb dX2_filledChain_5 rfl hl (by decide) rfl (fun ls hl => ?_)
    refine lv_aload_nN hx hb dX2_filledChain_6 rfl (lv_at hl 0 rfl) ?_
    refine lv_ifnullN (tgt := 17) hx hb dX2_filledChain_7 (by decide) ?_
    refine lv_null hx hb dX2_filledChain_17 ?_
    refine lv_goto (tgt := 22) hx hb dX2_filledChain_18 (by decide) ?_
    exact W.aret hx hb hr (Or.inl ⟨_, rfl⟩) (va_rf_or (none)) (fun t ht hW => ⟨none, rfl, by rw [if_pos (by rw [spEmp, q1]; rfl)], ht⟩) t_nil dX2_filledChain_22
  · rw [if_neg q1, show va_rf (some (ad 4 x.toInt.toNat)) = Value.ref (ad 4 x.toInt.toNat) from rfl]
    have q2 : cNo x nc = false := by simpa using q1
    obtain ⟨ex, h1, h2⟩ := cNo_nI q2
    have hCh := hX.ch hO h1 h2
    have hmn := (hO.2.2.2.1 x.toInt.toNat h1 h2).1
    refine lv_astore_n (lv' := [(2, .ref (ad 4 x.toInt.toNat)), (0, .ref (ad 0 0)), (1, .int x)]) hx hb dX2_filledChain_5 rfl hl (by decide) rfl (fun ls hl => ?_)
    refine lv_aload_n hx hb dX2_filledChain_6 rfl (lv_at hl 0 rfl) ?_
    refine lv_ifnull hx hb dX2_filledChain_7 ?_
    refine lv_aload_n hx hb dX2_filledChain_10 rfl (lv_at hl 0 rfl) ?_
    refine g_getN (cl := vwCl) (ci := 0) (v := .int (nI (mn x.toInt.toNat))) hx hb hts inX0 hown hK hCh.1 rfl 2 (by decide) (va_Nw.use rfl (hN _ tn_78 rfl)) rfl dX2_filledChain_11 ?_
    refine n_if_ne (tgt := 21) hx hb (by omega) dX2_filledChain_14 (by decide) (fun q3 => ?_) (fun q3 => ?_)
    · refine lv_aload_n hx hb dX2_filledChain_21 rfl (lv_at hl 0 rfl) ?_
      exact W.aret hx hb hr (Or.inl ⟨_, rfl⟩) (va_rf_or (some (ad 4 x.toInt.toNat))) (fun t ht hW => ⟨some (ad 4 x.toInt.toNat), rfl, by rw [if_neg (by rw [spEmp, q2, show (mn x.toInt.toNat == 0) = false from beq_eq_false_iff_ne.mpr q3]; decide)], ht⟩) t_nil dX2_filledChain_22
    · refine lv_null hx hb dX2_filledChain_17 ?_
      refine lv_goto (tgt := 22) hx hb dX2_filledChain_18 (by decide) ?_
      exact W.aret hx hb hr (Or.inl ⟨_, rfl⟩) (va_rf_or (none)) (fun t ht hW => ⟨none, rfl, by rw [if_pos (by rw [spEmp, q2, show (mn x.toInt.toNat == 0) = true from beq_iff_eq.mpr q3]; rfl)], ht⟩) t_nil dX2_filledChain_22
set_option maxHeartbeats 4000000 in
set_option maxRecDepth 100000 in
theorem x_worst (l : Launch) (D : va_G) (ka : Nat → ClassId) (H0 : Heap) (ad : Nat → Nat → Nat) (np nc : Nat) (pe an up dn rw : Nat → Nat) (so : Nat → Bool) (mn : Nat → Nat) (wd : Nat → Bool) (wv : Nat → Int64) (x : Int32) (ag : Bool) (hX : XInv D ka ad np nc pe an up dn rw so mn wd wv H0) (hO : mOk np nc pe an up dn rw so mn wd wv) : Met l yX2_worst (.code yX2_worst cX2_worst 4 (some .long) :: gT) ({ frames := 5, cells := 0, slots := 0, locals := 112 }) (ro_Pc D vwCl (tyL ka) H0 [.ref (ad 0 0), .int x, .int (bI ag)]) (vp_Sl (fun r => r = spWorst nc pe an up dn rw so mn x ag)) 0 0 (fun _ => False) := by
  refine Met.ofW (cc := cX2_worst) (maxL := 4) (ret := (some .long)) (by decide) rfl ?_
  intro p e s m args below meth c s₁ B hml hv
  obtain ⟨rfl, hH, hK, hN⟩ := hv
  subst hH
  have hx := B.exec
  have hb := B.bytes
  have hr := B.returns
  have hts : ∀ w ∈ gT, w.before ([.ref (ad 0 0), .int x, .int (bI ag)] : List Value).toArray s = true := fun w h => atoms_spec (ws := (.code yX2_worst cX2_worst 4 (some .long) :: gT)) B.pre w (List.mem_cons_of_mem _ h)
  have hown : s.vm.findClass RX2 = some m.cls := findClass_of_methodNamed B.named
  have hlocks := B.notSynchronized
  have hl := lv_entry ([.ref (ad 0 0), .int x, .int (bI ag)]) (n := 4) (Nat.le_of_ble_eq_true rfl)
  rw [lg_entry_eq]
  generalize (lg_sl ([.ref (ad 0 0), .int x, .int (bI ag)]) ++ List.replicate (4 - (lg_sl ([.ref (ad 0 0), .int x, .int (bI ag)])).length) Slot.unset).toArray = ls at hl ⊢
  have hl : lv_has ls 4 [(0, .ref (ad 0 0)), (1, .int x), (2, .int (bI ag))] := hl
  have hnp := hO.1
  have hnc := hO.2.1
  refine lv_aload_n hx hb dX2_worst_0 rfl (lv_at hl 0 rfl) ?_
  refine lv_iload_n hx hb dX2_worst_1 rfl (lv_at hl 1 rfl) ?_
  refine va_csq (va_Run.run (va_runV (As := [.int x]) (rest := []) ⟨hx, hb, hml, hown, hts⟩ (x_filledChain l D ka s.heap ad np nc pe an up dn rw so mn wd wv x hX hO) (cw_V 1 hts tb_118 rfl rfl tb_115 tb_1 tb_117 ts_4 (by decide +kernel) ⟨Nat.le_of_ble_eq_true rfl, Nat.le_of_ble_eq_true rfl⟩) (ro_V (ci := 2) hK hN hX.o rfl) rfl rfl hl.1 rfl (lv_room (Nat.le_of_ble_eq_true rfl)) dX2_worst_2 ⟨Nat.zero_le _, Nat.zero_le _⟩)) (fun r er => ?_)
  subst er
  by_cases q1 : spEmp nc mn x = true
  · rw [if_pos q1, show va_rf none = Value.null from rfl]
    refine lv_astore_nN (lv' := [(3, .null), (0, .ref (ad 0 0)), (1, .int x), (2, .int (bI ag))]) hx hb dX2_worst_5 rfl hl (by decide) rfl (fun ls hl => ?_)
    refine lv_aload_nN hx hb dX2_worst_6 rfl (lv_at hl 0 rfl) ?_
    refine lv_ifnonnullN hx hb dX2_worst_7 ?_
    refine lv_ldc2 (v := (-1)) hx hb hown (hts _ tb_119) dX2_worst_10 ?_
    exact W.lret (v := (-1)) hx hb hr (fun t ht hW => ⟨_, rfl, by rw [spWorst, if_pos q1], ht⟩) t_nil dX2_worst_13
  · rw [if_neg q1, show va_rf (some (ad 4 x.toInt.toNat)) = Value.ref (ad 4 x.toInt.toNat) from rfl]
    have q2 : spEmp nc mn x = false := by simpa using q1
    obtain ⟨ex, h1, h2, hn0⟩ := spEmp_f q2
    have hCh := hX.ch hO h1 h2
    have hmn := (hO.2.2.2.1 x.toInt.toNat h1 h2).1
    refine lv_astore_n (lv' := [(3, .ref (ad 4 x.toInt.toNat)), (0, .ref (ad 0 0)), (1, .int x), (2, .int (bI ag))]) hx hb dX2_worst_5 rfl hl (by decide) rfl (fun ls hl => ?_)
    refine lv_aload_n hx hb dX2_worst_6 rfl (lv_at hl 0 rfl) ?_
    refine lv_ifnonnull (tgt := 14) hx hb dX2_worst_7 (by decide) ?_
    refine lv_iload_n hx hb dX2_worst_14 rfl (lv_at hl 3 rfl) ?_
    refine b_if_eq (tgt := 25) hx hb dX2_worst_15 (by decide) (fun q3 => ?_) (fun q3 => ?_)
    · refine lv_aload_n hx hb dX2_worst_25 rfl (lv_at hl 0 rfl) ?_
      refine vp_callSl (va_Run.run (va_runVN (As := []) (rest := []) ⟨hx, hb, hml, hown, hts⟩ (c_worstReaction l D ka s.heap (ad 4 x.toInt.toNat) (ad 5 x.toInt.toNat) (ad 6 x.toInt.toNat) (mn x.toInt.toNat) (wiN wd wv x.toInt.toNat) (fun k => ad 3 (rw (12 * x.toInt.toNat + k))) (qS so x.toInt.toNat) (qF pe rw x.toInt.toNat) (qF an rw x.toInt.toNat) (qF up rw x.toInt.toNat) (qF dn rw x.toInt.toNat) hCh) (cw_VN 0 hts tb_134 rfl rfl (hN _ tn_139 rfl) tb_4 tb_133 ts_7 (by decide +kernel) ⟨Nat.le_of_ble_eq_true rfl, Nat.le_of_ble_eq_true rfl⟩) (ro_V (ci := 0) hK hN hCh.1 rfl) rfl rfl hl.1 rfl (lv_room (Nat.le_of_ble_eq_true rfl)) dX2_worst_26 ⟨Nat.zero_le _, Nat.zero_le _⟩)) (fun r er => ?_)
      subst er
      exact W.lret (v := lN (rea pe an up dn rw so mn x.toInt.toNat)) hx hb hr (fun t ht hW => ⟨_, rfl, by rw [spWorst, if_neg q1, if_neg (by rw [q3]; decide)], ht⟩) t_nil dX2_worst_29
    · refine lv_aload_n hx hb dX2_worst_18 rfl (lv_at hl 0 rfl) ?_
      refine vp_callSl (va_Run.run (va_runVN (As := []) (rest := []) ⟨hx, hb, hml, hown, hts⟩ (c_worstAge l D ka s.heap (ad 4 x.toInt.toNat) (ad 5 x.toInt.toNat) (ad 6 x.toInt.toNat) (mn x.toInt.toNat) (wiN wd wv x.toInt.toNat) (fun k => ad 3 (rw (12 * x.toInt.toNat + k))) (qS so x.toInt.toNat) (qF pe rw x.toInt.toNat) (qF an rw x.toInt.toNat) (qF up rw x.toInt.toNat) (qF dn rw x.toInt.toNat) hCh hn0) (cw_VN 0 hts tb_123 rfl rfl (hN _ tn_120 rfl) tb_4 tb_122 ts_5 (by decide +kernel) ⟨Nat.le_of_ble_eq_true rfl, Nat.le_of_ble_eq_true rfl⟩) (ro_V (ci := 0) hK hN hCh.1 rfl) rfl rfl hl.1 rfl (lv_room (Nat.le_of_ble_eq_true rfl)) dX2_worst_19 ⟨Nat.zero_le _, Nat.zero_le _⟩)) (fun r er => ?_)
      subst er
      refine lv_goto (tgt := 29) hx hb dX2_worst_22 (by decide) ?_
      exact W.lret (v := lN (ageN pe an up dn rw so mn x.toInt.toNat)) hx hb hr (fun t ht hW => ⟨_, rfl, by rw [spWorst, if_neg q1, if_pos q3], ht⟩) t_nil dX2_worst_29
set_option maxHeartbeats 4000000 in
set_option maxRecDepth 100000 in
theorem x_best (l : Launch) (D : va_G) (ka : Nat → ClassId) (H0 : Heap) (ad : Nat → Nat → Nat) (np nc : Nat) (pe an up dn rw : Nat → Nat) (so : Nat → Bool) (mn : Nat → Nat) (wd : Nat → Bool) (wv : Nat → Int64) (x : Int32) (ag : Bool) (hX : XInv D ka ad np nc pe an up dn rw so mn wd wv H0) (hO : mOk np nc pe an up dn rw so mn wd wv) : Met l yX2_best (.code yX2_best cX2_best 4 (some .long) :: gT) ({ frames := 2, cells := 0, slots := 0, locals := 43 }) (ro_Pc D vwCl (tyL ka) H0 [.ref (ad 0 0), .int x, .int (bI ag)]) (vp_Sl (fun r => r = spBest nc an rw mn x ag)) 0 0 (fun _ => False) := by
  refine Met.ofW (cc := cX2_best) (maxL := 4) (ret := (some .long)) (by decide) rfl ?_
  intro p e s m args below meth c s₁ B hml hv
  obtain ⟨rfl, hH, hK, hN⟩ := hv
  subst hH
  have hx := B.exec
  have hb := B.bytes
  have hr := B.returns
  have hts : ∀ w ∈ gT, w.before ([.ref (ad 0 0), .int x, .int (bI ag)] : List Value).toArray s = true := fun w h => atoms_spec (ws := (.code yX2_best cX2_best 4 (some .long) :: gT)) B.pre w (List.mem_cons_of_mem _ h)
  have hown : s.vm.findClass RX2 = some m.cls := findClass_of_methodNamed B.named
  have hlocks := B.notSynchronized
  have hl := lv_entry ([.ref (ad 0 0), .int x, .int (bI ag)]) (n := 4) (Nat.le_of_ble_eq_true rfl)
  rw [lg_entry_eq]
  generalize (lg_sl ([.ref (ad 0 0), .int x, .int (bI ag)]) ++ List.replicate (4 - (lg_sl ([.ref (ad 0 0), .int x, .int (bI ag)])).length) Slot.unset).toArray = ls at hl ⊢
  have hl : lv_has ls 4 [(0, .ref (ad 0 0)), (1, .int x), (2, .int (bI ag))] := hl
  have hnp := hO.1
  have hnc := hO.2.1
  refine lv_aload_n hx hb dX2_best_0 rfl (lv_at hl 0 rfl) ?_
  refine lv_iload_n hx hb dX2_best_1 rfl (lv_at hl 1 rfl) ?_
  refine va_csq (va_Run.run (va_runV (As := [.int x]) (rest := []) ⟨hx, hb, hml, hown, hts⟩ (x_filledChain l D ka s.heap ad np nc pe an up dn rw so mn wd wv x hX hO) (cw_V 1 hts tb_118 rfl rfl tb_115 tb_1 tb_117 ts_4 (by decide +kernel) ⟨Nat.le_of_ble_eq_true rfl, Nat.le_of_ble_eq_true rfl⟩) (ro_V (ci := 2) hK hN hX.o rfl) rfl rfl hl.1 rfl (lv_room (Nat.le_of_ble_eq_true rfl)) dX2_best_2 ⟨Nat.zero_le _, Nat.zero_le _⟩)) (fun r er => ?_)
  subst er
  by_cases q1 : spEmp nc mn x = true
  · rw [if_pos q1, show va_rf none = Value.null from rfl]
    refine lv_astore_nN (lv' := [(3, .null), (0, .ref (ad 0 0)), (1, .int x), (2, .int (bI ag))]) hx hb dX2_best_5 rfl hl (by decide) rfl (fun ls hl => ?_)
    refine lv_aload_nN hx hb dX2_best_6 rfl (lv_at hl 0 rfl) ?_
    refine lv_ifnonnullN hx hb dX2_best_7 ?_
    refine lv_ldc2 (v := (-1)) hx hb hown (hts _ tb_119) dX2_best_10 ?_
    exact W.lret (v := (-1)) hx hb hr (fun t ht hW => ⟨_, rfl, by rw [spBest, if_pos q1], ht⟩) t_nil dX2_best_13
  · rw [if_neg q1, show va_rf (some (ad 4 x.toInt.toNat)) = Value.ref (ad 4 x.toInt.toNat) from rfl]
    have q2 : spEmp nc mn x = false := by simpa using q1
    obtain ⟨ex, h1, h2, hn0⟩ := spEmp_f q2
    have hCh := hX.ch hO h1 h2
    have hmn := (hO.2.2.2.1 x.toInt.toNat h1 h2).1
    refine lv_astore_n (lv' := [(3, .ref (ad 4 x.toInt.toNat)), (0, .ref (ad 0 0)), (1, .int x), (2, .int (bI ag))]) hx hb dX2_best_5 rfl hl (by decide) rfl (fun ls hl => ?_)
    refine lv_aload_n hx hb dX2_best_6 rfl (lv_at hl 0 rfl) ?_
    refine lv_ifnonnull (tgt := 14) hx hb dX2_best_7 (by decide) ?_
    refine lv_aload_n hx hb dX2_best_14 rfl (lv_at hl 0 rfl) ?_
    refine lv_iload_n hx hb dX2_best_15 rfl (lv_at hl 3 rfl) ?_
    refine b_if_eq (tgt := 23) hx hb dX2_best_16 (by decide) (fun q3 => ?_) (fun q3 => ?_)
    · refine lv_iconst (v := nI 0) hx hb dX2_best_23 (by decide) ?_
      refine vp_callSl (va_Run.run (va_runVN (As := [.int (nI 0)]) (rest := []) ⟨hx, hb, hml, hown, hts⟩ (c_answersFrom l D ka s.heap (ad 4 x.toInt.toNat) (ad 5 x.toInt.toNat) (ad 6 x.toInt.toNat) (mn x.toInt.toNat) (wiN wd wv x.toInt.toNat) (fun k => ad 3 (rw (12 * x.toInt.toNat + k))) (qS so x.toInt.toNat) (qF pe rw x.toInt.toNat) (qF an rw x.toInt.toNat) (qF up rw x.toInt.toNat) (qF dn rw x.toInt.toNat) 0 hCh (by omega)) (cw_VN 1 hts tb_147 rfl rfl (hN _ tn_144 rfl) tb_4 tb_146 ts_9 (by decide +kernel) ⟨Nat.le_of_ble_eq_true rfl, Nat.le_of_ble_eq_true rfl⟩) (ro_V (ci := 0) hK hN hCh.1 rfl) rfl rfl hl.1 rfl (lv_room (Nat.le_of_ble_eq_true rfl)) dX2_best_24 ⟨Nat.zero_le _, Nat.zero_le _⟩)) (fun r er => ?_)
      subst er
      exact W.lret (v := lN (sumN (qF an rw x.toInt.toNat) (mn x.toInt.toNat) - sumN (qF an rw x.toInt.toNat) 0)) hx hb hr (fun t ht hW => ⟨_, rfl, by rw [spBest, if_neg q1, if_neg (by rw [q3]; decide)], ht⟩) t_nil dX2_best_27
    · refine lv_iconst (v := nI 1) hx hb dX2_best_19 (by decide) ?_
      refine lv_goto (tgt := 24) hx hb dX2_best_20 (by decide) ?_
      refine vp_callSl (va_Run.run (va_runVN (As := [.int (nI 1)]) (rest := []) ⟨hx, hb, hml, hown, hts⟩ (c_answersFrom l D ka s.heap (ad 4 x.toInt.toNat) (ad 5 x.toInt.toNat) (ad 6 x.toInt.toNat) (mn x.toInt.toNat) (wiN wd wv x.toInt.toNat) (fun k => ad 3 (rw (12 * x.toInt.toNat + k))) (qS so x.toInt.toNat) (qF pe rw x.toInt.toNat) (qF an rw x.toInt.toNat) (qF up rw x.toInt.toNat) (qF dn rw x.toInt.toNat) 1 hCh (by omega)) (cw_VN 1 hts tb_147 rfl rfl (hN _ tn_144 rfl) tb_4 tb_146 ts_9 (by decide +kernel) ⟨Nat.le_of_ble_eq_true rfl, Nat.le_of_ble_eq_true rfl⟩) (ro_V (ci := 0) hK hN hCh.1 rfl) rfl rfl hl.1 rfl (lv_room (Nat.le_of_ble_eq_true rfl)) dX2_best_24 ⟨Nat.zero_le _, Nat.zero_le _⟩)) (fun r er => ?_)
      subst er
      exact W.lret (v := lN (sumN (qF an rw x.toInt.toNat) (mn x.toInt.toNat) - sumN (qF an rw x.toInt.toNat) 1)) hx hb hr (fun t ht hW => ⟨_, rfl, by rw [spBest, if_neg q1, if_pos q3], ht⟩) t_nil dX2_best_27
set_option maxHeartbeats 4000000 in
set_option maxRecDepth 100000 in
theorem x_plain (l : Launch) (D : va_G) (ka : Nat → ClassId) (H0 : Heap) (ad : Nat → Nat → Nat) (np nc : Nat) (pe an up dn rw : Nat → Nat) (so : Nat → Bool) (mn : Nat → Nat) (wd : Nat → Bool) (wv : Nat → Int64) (x : Int32) (hX : XInv D ka ad np nc pe an up dn rw so mn wd wv H0) (hO : mOk np nc pe an up dn rw so mn wd wv) : Met l yX2_plain (.code yX2_plain cX2_plain 3 (some .boolean) :: gT) ({ frames := 4, cells := 0, slots := 0, locals := 99 }) (ro_Pc D vwCl (tyL ka) H0 [.ref (ad 0 0), .int x]) (vp_Si (fun r => r = bI (spPlain nc pe up rw so mn x))) 0 0 (fun _ => False) := by
  refine Met.ofW (cc := cX2_plain) (maxL := 3) (ret := (some .boolean)) (by decide) rfl ?_
  intro p e s m args below meth c s₁ B hml hv
  obtain ⟨rfl, hH, hK, hN⟩ := hv
  subst hH
  have hx := B.exec
  have hb := B.bytes
  have hr := B.returns
  have hts : ∀ w ∈ gT, w.before ([.ref (ad 0 0), .int x] : List Value).toArray s = true := fun w h => atoms_spec (ws := (.code yX2_plain cX2_plain 3 (some .boolean) :: gT)) B.pre w (List.mem_cons_of_mem _ h)
  have hown : s.vm.findClass RX2 = some m.cls := findClass_of_methodNamed B.named
  have hlocks := B.notSynchronized
  have hl := lv_entry ([.ref (ad 0 0), .int x]) (n := 3) (Nat.le_of_ble_eq_true rfl)
  rw [lg_entry_eq]
  generalize (lg_sl ([.ref (ad 0 0), .int x]) ++ List.replicate (3 - (lg_sl ([.ref (ad 0 0), .int x])).length) Slot.unset).toArray = ls at hl ⊢
  have hl : lv_has ls 3 [(0, .ref (ad 0 0)), (1, .int x)] := hl
  have hnp := hO.1
  have hnc := hO.2.1
  refine lv_aload_n hx hb dX2_plain_0 rfl (lv_at hl 0 rfl) ?_
  refine lv_iload_n hx hb dX2_plain_1 rfl (lv_at hl 1 rfl) ?_
  refine va_csq (va_Run.run (va_runV (As := [.int x]) (rest := []) ⟨hx, hb, hml, hown, hts⟩ (x_filledChain l D ka s.heap ad np nc pe an up dn rw so mn wd wv x hX hO) (cw_V 1 hts tb_118 rfl rfl tb_115 tb_1 tb_117 ts_4 (by decide +kernel) ⟨Nat.le_of_ble_eq_true rfl, Nat.le_of_ble_eq_true rfl⟩) (ro_V (ci := 2) hK hN hX.o rfl) rfl rfl hl.1 rfl (lv_room (Nat.le_of_ble_eq_true rfl)) dX2_plain_2 ⟨Nat.zero_le _, Nat.zero_le _⟩)) (fun r er => ?_)
  subst er
  by_cases q1 : spEmp nc mn x = true
  · rw [if_pos q1, show va_rf none = Value.null from rfl]
    refine lv_astore_nN (lv' := [(2, .null), (0, .ref (ad 0 0)), (1, .int x)]) hx hb dX2_plain_5 rfl hl (by decide) rfl (fun ls hl => ?_)
    refine lv_aload_nN hx hb dX2_plain_6 rfl (lv_at hl 0 rfl) ?_
    refine lv_ifnullN (tgt := 21) hx hb dX2_plain_7 (by decide) ?_
    refine lv_iconst (v := nI 0) hx hb dX2_plain_21 (by decide) ?_
    exact W.zret (v := nI 0) (ty := .boolean) hx hb hr (by decide) (fun t ht hW => ⟨_, rfl, by rw [spPlain, q1]; rfl, ht⟩) t_nil dX2_plain_22
  · rw [if_neg q1, show va_rf (some (ad 4 x.toInt.toNat)) = Value.ref (ad 4 x.toInt.toNat) from rfl]
    have q2 : spEmp nc mn x = false := by simpa using q1
    obtain ⟨ex, h1, h2, hn0⟩ := spEmp_f q2
    have hCh := hX.ch hO h1 h2
    have hmn := (hO.2.2.2.1 x.toInt.toNat h1 h2).1
    refine lv_astore_n (lv' := [(2, .ref (ad 4 x.toInt.toNat)), (0, .ref (ad 0 0)), (1, .int x)]) hx hb dX2_plain_5 rfl hl (by decide) rfl (fun ls hl => ?_)
    refine lv_aload_n hx hb dX2_plain_6 rfl (lv_at hl 0 rfl) ?_
    refine lv_ifnull hx hb dX2_plain_7 ?_
    refine lv_aload_n hx hb dX2_plain_10 rfl (lv_at hl 0 rfl) ?_
    refine vp_callSi (va_Run.run (va_runVN (As := []) (rest := []) ⟨hx, hb, hml, hown, hts⟩ (c_canBeStepped l D ka s.heap (ad 4 x.toInt.toNat) (ad 5 x.toInt.toNat) (ad 6 x.toInt.toNat) (mn x.toInt.toNat) (wiN wd wv x.toInt.toNat) (fun k => ad 3 (rw (12 * x.toInt.toNat + k))) (qS so x.toInt.toNat) (qF pe rw x.toInt.toNat) (qF an rw x.toInt.toNat) (qF up rw x.toInt.toNat) (qF dn rw x.toInt.toNat) hCh) (cw_VN 0 hts tb_179 rfl rfl (hN _ tn_176 rfl) tb_4 tb_178 ts_12 (by decide +kernel) ⟨Nat.le_of_ble_eq_true rfl, Nat.le_of_ble_eq_true rfl⟩) (ro_V (ci := 0) hK hN hCh.1 rfl) rfl rfl hl.1 rfl (lv_room (Nat.le_of_ble_eq_true rfl)) dX2_plain_11 ⟨Nat.zero_le _, Nat.zero_le _⟩)) (fun r er => ?_)
    subst er
    refine b_if_eq (tgt := 21) hx hb dX2_plain_14 (by decide) (fun q3 => ?_) (fun q3 => ?_)
    · refine lv_iconst (v := nI 0) hx hb dX2_plain_21 (by decide) ?_
      exact W.zret (v := nI 0) (ty := .boolean) hx hb hr (by decide) (fun t ht hW => ⟨_, rfl, by rw [spPlain, q2, q3]; rfl, ht⟩) t_nil dX2_plain_22
    · refine lv_iconst (v := nI 1) hx hb dX2_plain_17 (by decide) ?_
      refine lv_goto (tgt := 22) hx hb dX2_plain_18 (by decide) ?_
      exact W.zret (v := nI 1) (ty := .boolean) hx hb hr (by decide) (fun t ht hW => ⟨_, rfl, by rw [spPlain, q2, q3]; rfl, ht⟩) t_nil dX2_plain_22
set_option maxHeartbeats 4000000 in
set_option maxRecDepth 100000 in
theorem x_stepped (l : Launch) (D : va_G) (ka : Nat → ClassId) (H0 : Heap) (ad : Nat → Nat → Nat) (np nc : Nat) (pe an up dn rw : Nat → Nat) (so : Nat → Bool) (mn : Nat → Nat) (wd : Nat → Bool) (wv : Nat → Int64) (x : Int32) (hX : XInv D ka ad np nc pe an up dn rw so mn wd wv H0) (hO : mOk np nc pe an up dn rw so mn wd wv) : Met l yX2_stepped (.code yX2_stepped cX2_stepped 3 (some .long) :: gT) ({ frames := 4, cells := 0, slots := 0, locals := 107 }) (ro_Pc D vwCl (tyL ka) H0 [.ref (ad 0 0), .int x]) (vp_Sl (fun r => r = spStep nc pe an up dn rw so mn x)) 0 0 (fun _ => False) := by
  refine Met.ofW (cc := cX2_stepped) (maxL := 3) (ret := (some .long)) (by decide) rfl ?_
  intro p e s m args below meth c s₁ B hml hv
  obtain ⟨rfl, hH, hK, hN⟩ := hv
  subst hH
  have hx := B.exec
  have hb := B.bytes
  have hr := B.returns
  have hts : ∀ w ∈ gT, w.before ([.ref (ad 0 0), .int x] : List Value).toArray s = true := fun w h => atoms_spec (ws := (.code yX2_stepped cX2_stepped 3 (some .long) :: gT)) B.pre w (List.mem_cons_of_mem _ h)
  have hown : s.vm.findClass RX2 = some m.cls := findClass_of_methodNamed B.named
  have hlocks := B.notSynchronized
  have hl := lv_entry ([.ref (ad 0 0), .int x]) (n := 3) (Nat.le_of_ble_eq_true rfl)
  rw [lg_entry_eq]
  generalize (lg_sl ([.ref (ad 0 0), .int x]) ++ List.replicate (3 - (lg_sl ([.ref (ad 0 0), .int x])).length) Slot.unset).toArray = ls at hl ⊢
  have hl : lv_has ls 3 [(0, .ref (ad 0 0)), (1, .int x)] := hl
  have hnp := hO.1
  have hnc := hO.2.1
  refine lv_aload_n hx hb dX2_stepped_0 rfl (lv_at hl 0 rfl) ?_
  refine lv_iload_n hx hb dX2_stepped_1 rfl (lv_at hl 1 rfl) ?_
  refine va_csq (va_Run.run (va_runV (As := [.int x]) (rest := []) ⟨hx, hb, hml, hown, hts⟩ (x_filledChain l D ka s.heap ad np nc pe an up dn rw so mn wd wv x hX hO) (cw_V 1 hts tb_118 rfl rfl tb_115 tb_1 tb_117 ts_4 (by decide +kernel) ⟨Nat.le_of_ble_eq_true rfl, Nat.le_of_ble_eq_true rfl⟩) (ro_V (ci := 2) hK hN hX.o rfl) rfl rfl hl.1 rfl (lv_room (Nat.le_of_ble_eq_true rfl)) dX2_stepped_2 ⟨Nat.zero_le _, Nat.zero_le _⟩)) (fun r er => ?_)
  subst er
  by_cases q1 : spEmp nc mn x = true
  · rw [if_pos q1, show va_rf none = Value.null from rfl]
    refine lv_astore_nN (lv' := [(2, .null), (0, .ref (ad 0 0)), (1, .int x)]) hx hb dX2_stepped_5 rfl hl (by decide) rfl (fun ls hl => ?_)
    refine lv_aload_nN hx hb dX2_stepped_6 rfl (lv_at hl 0 rfl) ?_
    refine lv_ifnonnullN hx hb dX2_stepped_7 ?_
    refine lv_ldc2 (v := (-1)) hx hb hown (hts _ tb_119) dX2_stepped_10 ?_
    exact W.lret (v := (-1)) hx hb hr (fun t ht hW => ⟨_, rfl, by rw [spStep, if_pos q1], ht⟩) t_nil dX2_stepped_13
  · rw [if_neg q1, show va_rf (some (ad 4 x.toInt.toNat)) = Value.ref (ad 4 x.toInt.toNat) from rfl]
    have q2 : spEmp nc mn x = false := by simpa using q1
    obtain ⟨ex, h1, h2, hn0⟩ := spEmp_f q2
    have hCh := hX.ch hO h1 h2
    have hmn := (hO.2.2.2.1 x.toInt.toNat h1 h2).1
    refine lv_astore_n (lv' := [(2, .ref (ad 4 x.toInt.toNat)), (0, .ref (ad 0 0)), (1, .int x)]) hx hb dX2_stepped_5 rfl hl (by decide) rfl (fun ls hl => ?_)
    refine lv_aload_n hx hb dX2_stepped_6 rfl (lv_at hl 0 rfl) ?_
    refine lv_ifnonnull (tgt := 14) hx hb dX2_stepped_7 (by decide) ?_
    refine lv_aload_n hx hb dX2_stepped_14 rfl (lv_at hl 0 rfl) ?_
    refine vp_callSi (va_Run.run (va_runVN (As := []) (rest := []) ⟨hx, hb, hml, hown, hts⟩ (c_canBeStepped l D ka s.heap (ad 4 x.toInt.toNat) (ad 5 x.toInt.toNat) (ad 6 x.toInt.toNat) (mn x.toInt.toNat) (wiN wd wv x.toInt.toNat) (fun k => ad 3 (rw (12 * x.toInt.toNat + k))) (qS so x.toInt.toNat) (qF pe rw x.toInt.toNat) (qF an rw x.toInt.toNat) (qF up rw x.toInt.toNat) (qF dn rw x.toInt.toNat) hCh) (cw_VN 0 hts tb_179 rfl rfl (hN _ tn_176 rfl) tb_4 tb_178 ts_12 (by decide +kernel) ⟨Nat.le_of_ble_eq_true rfl, Nat.le_of_ble_eq_true rfl⟩) (ro_V (ci := 0) hK hN hCh.1 rfl) rfl rfl hl.1 rfl (lv_room (Nat.le_of_ble_eq_true rfl)) dX2_stepped_15 ⟨Nat.zero_le _, Nat.zero_le _⟩)) (fun r er => ?_)
    subst er
    refine b_if_eq (tgt := 28) hx hb dX2_stepped_18 (by decide) (fun q3 => ?_) (fun q3 => ?_)
    · refine lv_aload_n hx hb dX2_stepped_28 rfl (lv_at hl 0 rfl) ?_
      refine vp_callSl (va_Run.run (va_runVN (As := []) (rest := []) ⟨hx, hb, hml, hown, hts⟩ (c_worstReaction l D ka s.heap (ad 4 x.toInt.toNat) (ad 5 x.toInt.toNat) (ad 6 x.toInt.toNat) (mn x.toInt.toNat) (wiN wd wv x.toInt.toNat) (fun k => ad 3 (rw (12 * x.toInt.toNat + k))) (qS so x.toInt.toNat) (qF pe rw x.toInt.toNat) (qF an rw x.toInt.toNat) (qF up rw x.toInt.toNat) (qF dn rw x.toInt.toNat) hCh) (cw_VN 0 hts tb_134 rfl rfl (hN _ tn_139 rfl) tb_4 tb_133 ts_7 (by decide +kernel) ⟨Nat.le_of_ble_eq_true rfl, Nat.le_of_ble_eq_true rfl⟩) (ro_V (ci := 0) hK hN hCh.1 rfl) rfl rfl hl.1 rfl (lv_room (Nat.le_of_ble_eq_true rfl)) dX2_stepped_29 ⟨Nat.zero_le _, Nat.zero_le _⟩)) (fun r er => ?_)
      subst er
      exact W.lret (v := lN (rea pe an up dn rw so mn x.toInt.toNat)) hx hb hr (fun t ht hW => ⟨_, rfl, by rw [spStep, if_neg q1, if_neg (by rw [q3]; decide)], ht⟩) t_nil dX2_stepped_32
    · have hcy := canN_cyc q3
      have hse := step_eq hO h1 h2 hn0 hcy
      refine lv_aload_n hx hb dX2_stepped_21 rfl (lv_at hl 0 rfl) ?_
      refine vp_callSl (va_Run.run (va_runVN (As := []) (rest := []) ⟨hx, hb, hml, hown, hts⟩ (c_longestByStepping l D ka s.heap (ad 4 x.toInt.toNat) (ad 5 x.toInt.toNat) (ad 6 x.toInt.toNat) (mn x.toInt.toNat) (wiN wd wv x.toInt.toNat) (fun k => ad 3 (rw (12 * x.toInt.toNat + k))) (qS so x.toInt.toNat) (qF pe rw x.toInt.toNat) (qF an rw x.toInt.toNat) (qF up rw x.toInt.toNat) (qF dn rw x.toInt.toNat) hCh hn0 hcy) (cw_VN 0 hts tb_202 rfl rfl (hN _ tn_199 rfl) tb_4 tb_201 ts_15 (by decide +kernel) ⟨Nat.le_of_ble_eq_true rfl, Nat.le_of_ble_eq_true rfl⟩) (ro_V (ci := 0) hK hN hCh.1 rfl) rfl rfl hl.1 rfl (lv_room (Nat.le_of_ble_eq_true rfl)) dX2_stepped_22 ⟨Nat.zero_le _, Nat.zero_le _⟩)) (fun r er => ?_)
      subst er
      refine lv_goto (tgt := 32) hx hb dX2_stepped_25 (by decide) ?_
      exact W.lret (v := lN (qF pe rw x.toInt.toNat 0 - 1 + mxN (fun k => stp (qS so x.toInt.toNat) (qF pe rw x.toInt.toNat) (qF an rw x.toInt.toNat) (k * qF pe rw x.toInt.toNat 0) (mn x.toInt.toNat) - k * qF pe rw x.toInt.toNat 0) (cyc (fun i => qS so x.toInt.toNat i || !true) (qF pe rw x.toInt.toNat) (mn x.toInt.toNat) / qF pe rw x.toInt.toNat 0))) hx hb hr (fun t ht hW => ⟨_, rfl, by rw [spStep, if_neg q1, if_pos q3, ← hse], ht⟩) t_nil dX2_stepped_32
set_option maxHeartbeats 4000000 in
set_option maxRecDepth 100000 in
theorem x_wishesKept (l : Launch) (D : va_G) (ka : Nat → ClassId) (H0 : Heap) (ad : Nat → Nat → Nat) (np nc : Nat) (pe an up dn rw : Nat → Nat) (so : Nat → Bool) (mn : Nat → Nat) (wd : Nat → Bool) (wv : Nat → Int64) (hX : XInv D ka ad np nc pe an up dn rw so mn wd wv H0) (hO : mOk np nc pe an up dn rw so mn wd wv) : Met l yX2_wishesKept (.code yX2_wishesKept cX2_wishesKept 3 (some .int) :: gT) ({ frames := 5, cells := 0, slots := 0, locals := 107 }) (ro_Pc D vwCl (tyL ka) H0 [.ref (ad 0 0)]) (vp_Si (fun r => r = nI (cntN (kept pe an up dn rw so mn wd wv) nc))) 0 0 (fun _ => False) := by
  refine Met.ofW (cc := cX2_wishesKept) (maxL := 3) (ret := (some .int)) (by decide) rfl ?_
  intro p e s m args below meth c s₁ B hml hv
  obtain ⟨rfl, hH, hK, hN⟩ := hv
  subst hH
  have hx := B.exec
  have hb := B.bytes
  have hr := B.returns
  have hts : ∀ w ∈ gT, w.before ([.ref (ad 0 0)] : List Value).toArray s = true := fun w h => atoms_spec (ws := (.code yX2_wishesKept cX2_wishesKept 3 (some .int) :: gT)) B.pre w (List.mem_cons_of_mem _ h)
  have hown : s.vm.findClass RX2 = some m.cls := findClass_of_methodNamed B.named
  have hlocks := B.notSynchronized
  have hl := lv_entry ([.ref (ad 0 0)]) (n := 3) (Nat.le_of_ble_eq_true rfl)
  rw [lg_entry_eq]
  generalize (lg_sl ([.ref (ad 0 0)]) ++ List.replicate (3 - (lg_sl ([.ref (ad 0 0)])).length) Slot.unset).toArray = ls at hl ⊢
  have hl : lv_has ls 3 [(0, .ref (ad 0 0))] := hl
  have hnp := hO.1
  have hnc := hO.2.1
  refine lv_iconst (v := nI 0) hx hb dX2_wishesKept_0 (by decide) ?_
  refine lv_istore_n (lv' := [(1, .int (nI 0)), (0, .ref (ad 0 0))]) hx hb dX2_wishesKept_1 rfl hl (by decide) rfl (fun ls hl => ?_)
  refine lv_iconst (v := nI 0) hx hb dX2_wishesKept_2 (by decide) ?_
  refine lv_istore_n (lv' := [(2, .int (nI 0)), (1, .int (nI 0)), (0, .ref (ad 0 0))]) hx hb dX2_wishesKept_3 rfl hl (by decide) rfl (fun ls hl => ?_)
  have loop : ∀ (fu i : Nat), i ≤ nc → nc < i + fu → ∀ ls : Array Slot, lv_has ls 3 [(2, .int (nI i)), (1, .int (nI (cntN (kept pe an up dn rw so mn wd wv) i))), (0, .ref (ad 0 0))] → W p l e (headSpec (.code yX2_wishesKept cX2_wishesKept 3 (some .int) :: gT) ({ frames := 5, cells := 0, slots := 0, locals := 107 })).room s m ([.ref (ad 0 0)] : List Value).toArray below meth c s.heap [] 0 0 (MQ below (vp_Si (fun r => r = nI (cntN (kept pe an up dn rw so mn wd wv) nc))) ([.ref (ad 0 0)] : List Value).toArray s 0 0 (fun _ => False)) (F0 m 4 ls []) := by
    intro fu
    induction fu with
    | zero => intro i h1 h2; exact absurd h2 (by omega)
    | succ fu ih =>
      intro i hi hf  ls hl
      refine lv_iload_n hx hb dX2_wishesKept_4 rfl (lv_at hl 0 rfl) ?_
      refine lv_aload_n hx hb dX2_wishesKept_5 rfl (lv_at hl 2 rfl) ?_
      refine g_get (cl := vwCl) (ci := 2) (v := .int (nI nc)) hx hb hts inX2 hown hK hX.o rfl 3 (by decide) (hts _ tb_25) rfl dX2_wishesKept_6 ?_
      refine n_icmp_ge (tgt := 33) hx hb (by omega) (by omega) dX2_wishesKept_9 (by decide) (fun hc => ?_) (fun hc => ?_)
      · refine lv_iload_n hx hb dX2_wishesKept_33 rfl (lv_at hl 1 rfl) ?_
        exact W.iret (v := nI (cntN (kept pe an up dn rw so mn wd wv) i)) hx hb hr (fun t ht hW => ⟨_, rfl, by rw [show i = nc by omega], ht⟩) t_nil dX2_wishesKept_34
      · have hCh := hX.ch hO (c := i + 1) (by omega) (by omega)
        have hkp := kp_kept hO (c := i + 1) (by omega) (by omega)
        refine lv_aload_n hx hb dX2_wishesKept_12 rfl (lv_at hl 2 rfl) ?_
        refine g_get (cl := vwCl) (ci := 2) (v := .ref (ad 2 0)) hx hb hts inX2 hown hK hX.o rfl 1 (by decide) (hts _ tb_23) rfl dX2_wishesKept_13 ?_
        refine lv_iload_n hx hb dX2_wishesKept_16 rfl (lv_at hl 0 rfl) ?_
        refine g_aldr hx hb hK 1 hX.ca rfl (by omega) (by decide) (if_pos (by omega)) dX2_wishesKept_17 ?_
        refine vp_callSi (va_Run.run (va_runVN (As := []) (rest := []) ⟨hx, hb, hml, hown, hts⟩ (c_keepsWish l D ka s.heap (ad 4 (i + 1)) (ad 5 (i + 1)) (ad 6 (i + 1)) (mn (i + 1)) (wiN wd wv (i + 1)) (fun k => ad 3 (rw (12 * (i + 1) + k))) (qS so (i + 1)) (qF pe rw (i + 1)) (qF an rw (i + 1)) (qF up rw (i + 1)) (qF dn rw (i + 1)) hCh) (cw_VN 0 hts tb_161 rfl rfl (hN _ tn_158 rfl) tb_4 tb_160 ts_10 (by decide +kernel) ⟨Nat.le_of_ble_eq_true rfl, Nat.le_of_ble_eq_true rfl⟩) (ro_V (ci := 0) hK hN hCh.1 rfl) rfl rfl hl.1 rfl (lv_room (Nat.le_of_ble_eq_true rfl)) dX2_wishesKept_18 ⟨Nat.zero_le _, Nat.zero_le _⟩)) (fun r er => ?_)
        subst er
        rw [hkp]
        refine b_if_eq (tgt := 27) hx hb dX2_wishesKept_21 (by decide) (fun q3 => ?_) (fun q3 => ?_)
        · refine lv_iinc (v := nI (i + 1)) (lv' := [(2, .int (nI (i + 1))), (1, .int (nI (cntN (kept pe an up dn rw so mn wd wv) i))), (0, .ref (ad 0 0))]) hx hb dX2_wishesKept_27 hl (k := 0) rfl (nI_add i 1) (by decide) rfl (fun ls hl => ?_)
          refine lv_goto (tgt := 4) hx hb dX2_wishesKept_30 (by decide) ?_
          have e1 : cntN (kept pe an up dn rw so mn wd wv) (i + 1) = cntN (kept pe an up dn rw so mn wd wv) i := by show (if _ then _ else _) = _; rw [if_neg (by rw [q3]; decide)]
          exact ih (i + 1) (by omega) (by omega) ls (by rw [e1]; exact lv_sub hl [0, 1, 2] rfl)
        · refine lv_iinc (v := nI ((cntN (kept pe an up dn rw so mn wd wv) i) + 1)) (lv' := [(1, .int (nI ((cntN (kept pe an up dn rw so mn wd wv) i) + 1))), (2, .int (nI i)), (0, .ref (ad 0 0))]) hx hb dX2_wishesKept_24 hl (k := 1) rfl (nI_add (cntN (kept pe an up dn rw so mn wd wv) i) 1) (by decide) rfl (fun ls hl => ?_)
          refine lv_iinc (v := nI (i + 1)) (lv' := [(2, .int (nI (i + 1))), (1, .int (nI ((cntN (kept pe an up dn rw so mn wd wv) i) + 1))), (0, .ref (ad 0 0))]) hx hb dX2_wishesKept_27 hl (k := 1) rfl (nI_add i 1) (by decide) rfl (fun ls hl => ?_)
          refine lv_goto (tgt := 4) hx hb dX2_wishesKept_30 (by decide) ?_
          have e1 : cntN (kept pe an up dn rw so mn wd wv) (i + 1) = cntN (kept pe an up dn rw so mn wd wv) i + 1 := by show (if _ then _ else _) = _; rw [if_pos q3]
          exact ih (i + 1) (by omega) (by omega) ls (by rw [e1]; exact lv_sub hl [0, 1, 2] rfl)
  exact loop (nc + 1) 0 (by omega) (by omega) ls (lv_sub hl [0, 1, 2] rfl)
set_option maxHeartbeats 4000000 in
set_option maxRecDepth 100000 in
theorem x_share (l : Launch) (D : va_G) (ka : Nat → ClassId) (H0 : Heap) (ad : Nat → Nat → Nat) (np nc : Nat) (pe an up dn rw : Nat → Nat) (so : Nat → Bool) (mn : Nat → Nat) (wd : Nat → Bool) (wv : Nat → Int64) (x ix : Int32) (hX : XInv D ka ad np nc pe an up dn rw so mn wd wv H0) (hO : mOk np nc pe an up dn rw so mn wd wv) : Met l yX2_share (.code yX2_share cX2_share 6 (some .int) :: gT) ({ frames := 6, cells := 0, slots := 0, locals := 129 }) (ro_Pc D vwCl (tyL ka) H0 [.ref (ad 0 0), .int x, .int ix]) (vp_Si (fun r => r = spShare nc pe an up dn rw so mn wd wv x ix)) 0 0 (fun _ => False) := by
  refine Met.ofW (cc := cX2_share) (maxL := 6) (ret := (some .int)) (by decide) rfl ?_
  intro p e s m args below meth c s₁ B hml hv
  obtain ⟨rfl, hH, hK, hN⟩ := hv
  subst hH
  have hx := B.exec
  have hb := B.bytes
  have hr := B.returns
  have hts : ∀ w ∈ gT, w.before ([.ref (ad 0 0), .int x, .int ix] : List Value).toArray s = true := fun w h => atoms_spec (ws := (.code yX2_share cX2_share 6 (some .int) :: gT)) B.pre w (List.mem_cons_of_mem _ h)
  have hown : s.vm.findClass RX2 = some m.cls := findClass_of_methodNamed B.named
  have hlocks := B.notSynchronized
  have hl := lv_entry ([.ref (ad 0 0), .int x, .int ix]) (n := 6) (Nat.le_of_ble_eq_true rfl)
  rw [lg_entry_eq]
  generalize (lg_sl ([.ref (ad 0 0), .int x, .int ix]) ++ List.replicate (6 - (lg_sl ([.ref (ad 0 0), .int x, .int ix])).length) Slot.unset).toArray = ls at hl ⊢
  have hl : lv_has ls 6 [(0, .ref (ad 0 0)), (1, .int x), (2, .int ix)] := hl
  have hnp := hO.1
  have hnc := hO.2.1
  have zm : ((-1 : Int32)).toInt = -1 := by decide +kernel
  refine lv_iload_n hx hb dX2_share_0 rfl (lv_at hl 2 rfl) ?_
  refine lv_iconst (v := (-1)) hx hb dX2_share_1 (by decide) ?_
  refine r_icmp_ne (tgt := 10) hx hb dX2_share_2 (by decide) (fun q0 => ?_) (fun q0 => ?_)
  · refine lv_aload_n hx hb dX2_share_10 rfl (lv_at hl 0 rfl) ?_
    refine lv_iload_n hx hb dX2_share_11 rfl (lv_at hl 1 rfl) ?_
    have hn1 : ¬ ix.toInt = -1 := by omega
    refine va_csq (va_Run.run (va_runV (As := [.int x]) (rest := []) ⟨hx, hb, hml, hown, hts⟩ (x_filledChain l D ka s.heap ad np nc pe an up dn rw so mn wd wv x hX hO) (cw_V 1 hts tb_118 rfl rfl tb_115 tb_1 tb_117 ts_4 (by decide +kernel) ⟨Nat.le_of_ble_eq_true rfl, Nat.le_of_ble_eq_true rfl⟩) (ro_V (ci := 2) hK hN hX.o rfl) rfl rfl hl.1 rfl (lv_room (Nat.le_of_ble_eq_true rfl)) dX2_share_12 ⟨Nat.zero_le _, Nat.zero_le _⟩)) (fun r er => ?_)
    subst er
    by_cases q1 : spEmp nc mn x = true
    · rw [if_pos q1, show va_rf none = Value.null from rfl]
      refine lv_astore_nN (lv' := [(3, .null), (0, .ref (ad 0 0)), (1, .int x), (2, .int ix)]) hx hb dX2_share_15 rfl hl (by decide) rfl (fun ls hl => ?_)
      refine lv_aload_nN hx hb dX2_share_16 rfl (lv_at hl 0 rfl) ?_
      have hq : cNo x nc = true ∨ mn x.toInt.toNat = 0 := by
        rw [spEmp, Bool.or_eq_true, beq_iff_eq] at q1; exact q1
      refine lv_ifnullN (tgt := 32) hx hb dX2_share_17 (by decide) ?_
      refine lv_iconst (v := (-1)) hx hb dX2_share_32 (by decide) ?_
      exact W.iret (v := (-1)) hx hb hr (fun t ht hW => ⟨_, rfl, by rw [spShare, if_neg hn1, if_pos (by rcases hq with h9 | h9; exact Or.inl h9; exact Or.inr (by omega))], ht⟩) t_nil dX2_share_33
    · rw [if_neg q1, show va_rf (some (ad 4 x.toInt.toNat)) = Value.ref (ad 4 x.toInt.toNat) from rfl]
      have q2 : spEmp nc mn x = false := by simpa using q1
      obtain ⟨ex, h1, h2, hn0⟩ := spEmp_f q2
      have hCh := hX.ch hO h1 h2
      have hmn := (hO.2.2.2.1 x.toInt.toNat h1 h2).1
      refine lv_astore_n (lv' := [(3, .ref (ad 4 x.toInt.toNat)), (0, .ref (ad 0 0)), (1, .int x), (2, .int ix)]) hx hb dX2_share_15 rfl hl (by decide) rfl (fun ls hl => ?_)
      refine lv_aload_n hx hb dX2_share_16 rfl (lv_at hl 0 rfl) ?_
      have q4 : cNo x nc = false := by rw [spEmp, Bool.or_eq_false_iff] at q2; exact q2.1
      refine lv_ifnull hx hb dX2_share_17 ?_
      refine lv_iload_n hx hb dX2_share_20 rfl (lv_at hl 3 rfl) ?_
      refine r_if_lt (tgt := 32) hx hb dX2_share_21 (by decide) (fun q5 => ?_) (fun q5 => ?_)
      · refine lv_iconst (v := (-1)) hx hb dX2_share_32 (by decide) ?_
        exact W.iret (v := (-1)) hx hb hr (fun t ht hW => ⟨_, rfl, by rw [spShare, if_neg hn1, if_pos (Or.inr (Or.inl (by omega)))], ht⟩) t_nil dX2_share_33
      · refine lv_iload_n hx hb dX2_share_24 rfl (lv_at hl 3 rfl) ?_
        refine lv_aload_n hx hb dX2_share_25 rfl (lv_at hl 0 rfl) ?_
        refine g_getN (cl := vwCl) (ci := 0) (v := .int (nI (mn x.toInt.toNat))) hx hb hts inX0 hown hK hCh.1 rfl 2 (by decide) (va_Nw.use rfl (hN _ tn_78 rfl)) rfl dX2_share_26 ?_
        have zmn : (nI (mn x.toInt.toNat)).toInt = (mn x.toInt.toNat : Int) := nI_toInt (by omega)
        refine r_icmp_lt (tgt := 34) hx hb dX2_share_29 (by decide) (fun q6 => ?_) (fun q6 => ?_)
        · refine lv_aload_n hx hb dX2_share_34 rfl (lv_at hl 0 rfl) ?_
          refine vp_callSl (va_Run.run (va_runVN (As := []) (rest := []) ⟨hx, hb, hml, hown, hts⟩ (c_worstReaction l D ka s.heap (ad 4 x.toInt.toNat) (ad 5 x.toInt.toNat) (ad 6 x.toInt.toNat) (mn x.toInt.toNat) (wiN wd wv x.toInt.toNat) (fun k => ad 3 (rw (12 * x.toInt.toNat + k))) (qS so x.toInt.toNat) (qF pe rw x.toInt.toNat) (qF an rw x.toInt.toNat) (qF up rw x.toInt.toNat) (qF dn rw x.toInt.toNat) hCh) (cw_VN 0 hts tb_134 rfl rfl (hN _ tn_139 rfl) tb_4 tb_133 ts_7 (by decide +kernel) ⟨Nat.le_of_ble_eq_true rfl, Nat.le_of_ble_eq_true rfl⟩) (ro_V (ci := 0) hK hN hCh.1 rfl) rfl rfl hl.1 rfl (lv_room (Nat.le_of_ble_eq_true rfl)) dX2_share_35 ⟨Nat.zero_le _, Nat.zero_le _⟩)) (fun r er => ?_)
          subst er
          have hrb := rea_le hO h1 h2
          refine lv_lstore (lv' := [(4, .long (lN (rea pe an up dn rw so mn x.toInt.toNat))), (3, .ref (ad 4 x.toInt.toNat)), (0, .ref (ad 0 0)), (1, .int x), (2, .int ix)]) hx hb dX2_share_38 hl (by decide) rfl (fun ls hl => ?_)
          refine lv_lload hx hb dX2_share_40 (lv_at hl 0 rfl) ?_
          refine lv_lconst (v := lN 0) hx hb dX2_share_42 rfl ?_
          refine n_lcmp_ne (tgt := 49) hx hb (by omega) (by omega) dX2_share_43 dX2_share_44 (by decide) (fun q7 => ?_) (fun q7 => ?_)
          · have hik : ix.toInt.toNat < mn x.toInt.toNat := by omega
            have eix : ix = nI ix.toInt.toNat := Int32.toInt_inj.mp (by rw [nI_toInt (by omega)]; omega)
            rw [eix] at hl
            have hbb := brN_le hO h1 h2 hik
            refine lv_aload_n hx hb dX2_share_49 rfl (lv_at hl 1 rfl) ?_
            refine lv_iload_n hx hb dX2_share_50 rfl (lv_at hl 4 rfl) ?_
            refine vp_callSl (va_Run.run (va_runVN (As := [.int (nI (ix.toInt.toNat))]) (rest := []) ⟨hx, hb, hml, hown, hts⟩ (c_broughtBy l D ka s.heap (ad 4 x.toInt.toNat) (ad 5 x.toInt.toNat) (ad 6 x.toInt.toNat) (mn x.toInt.toNat) (wiN wd wv x.toInt.toNat) (fun k => ad 3 (rw (12 * x.toInt.toNat + k))) (qS so x.toInt.toNat) (qF pe rw x.toInt.toNat) (qF an rw x.toInt.toNat) (qF up rw x.toInt.toNat) (qF dn rw x.toInt.toNat) ix.toInt.toNat hCh hik) (cw_VN 1 hts tb_138 rfl rfl (hN _ tn_170 rfl) tb_4 tb_137 ts_8 (by decide +kernel) ⟨Nat.le_of_ble_eq_true rfl, Nat.le_of_ble_eq_true rfl⟩) (ro_V (ci := 0) hK hN hCh.1 rfl) rfl rfl hl.1 rfl (lv_room (Nat.le_of_ble_eq_true rfl)) dX2_share_51 ⟨Nat.zero_le _, Nat.zero_le _⟩)) (fun r er => ?_)
            subst er
            refine lv_ldc2 (v := lN 1000) hx hb hown (hts _ tb_171) dX2_share_54 ?_
            refine n_lmul hx hb dX2_share_57 ?_
            refine lv_lload hx hb dX2_share_58 (lv_at hl 0 rfl) ?_
            refine n_ldiv hx hb (by omega) (by omega) (by omega) dX2_share_60 ?_
            refine n_l2i hx hb dX2_share_61 ?_
            exact W.iret (v := nI (((brN (qS so x.toInt.toNat) (qF pe rw x.toInt.toNat) (qF an rw x.toInt.toNat) (qF up rw x.toInt.toNat) (qF dn rw x.toInt.toNat) ix.toInt.toNat) * 1000) / (rea pe an up dn rw so mn x.toInt.toNat))) hx hb hr (fun t ht hW => ⟨_, rfl, by rw [spShare, if_neg hn1, if_neg (by rw [q4]; simp only [Bool.false_eq_true, false_or]; omega), Nat.mul_comm 1000], ht⟩) t_nil dX2_share_62
          · refine lv_iconst (v := (-1)) hx hb dX2_share_47 (by decide) ?_
            exact W.iret (v := (-1)) hx hb hr (fun t ht hW => ⟨_, rfl, by rw [spShare, if_neg hn1, if_pos (Or.inr (Or.inr (Or.inr (by omega))))], ht⟩) t_nil dX2_share_48
        · refine lv_iconst (v := (-1)) hx hb dX2_share_32 (by decide) ?_
          exact W.iret (v := (-1)) hx hb hr (fun t ht hW => ⟨_, rfl, by rw [spShare, if_neg hn1, if_pos (Or.inr (Or.inr (Or.inl (by omega))))], ht⟩) t_nil dX2_share_33
  · refine lv_aload_n hx hb dX2_share_5 rfl (lv_at hl 0 rfl) ?_
    refine vp_callSi (va_Run.run (va_runV (As := []) (rest := []) ⟨hx, hb, hml, hown, hts⟩ (x_wishesKept l D ka s.heap ad np nc pe an up dn rw so mn wd wv hX hO) (cw_V 0 hts tb_169 rfl rfl tb_166 tb_1 tb_168 ts_11 (by decide +kernel) ⟨Nat.le_of_ble_eq_true rfl, Nat.le_of_ble_eq_true rfl⟩) (ro_V (ci := 2) hK hN hX.o rfl) rfl rfl hl.1 rfl (lv_room (Nat.le_of_ble_eq_true rfl)) dX2_share_6 ⟨Nat.zero_le _, Nat.zero_le _⟩)) (fun r er => ?_)
    subst er
    exact W.iret (v := nI (cntN (kept pe an up dn rw so mn wd wv) nc)) hx hb hr (fun t ht hW => ⟨_, rfl, by rw [spShare, if_pos (by omega)], ht⟩) t_nil dX2_share_9
end
section
set_option maxHeartbeats 4000000 in
set_option maxRecDepth 100000 in
theorem k_PieceInit (l : Launch) (D : va_G) (ka : Nat → ClassId) (H0 : Heap) (q T R : Nat) (hq : va_at D vwCl (q, .inr (1, [.long 0, .long 0, .long 0, .long 0])) H0) : Met l yX1_init (.code yX1_init cX1_init 5 none :: gT) ({ frames := 1, cells := 0, slots := 0, locals := 12 }) (ro_Pc D vwCl (tyL ka) H0 [.ref q, .long (lN T), .long (lN R)]) (va_Qv (fun (u : Unit) => True) (fun (u : Unit) t => va_at D vwCl (q, pcE T R 0 1) t.heap) (fun z => z = q)) 0 0 (fun z => z = q) := by
  refine Met.ofW (cc := cX1_init) (maxL := 5) (ret := none) (by decide) rfl ?_
  intro p e s m args below meth c s₁ B hml hv
  obtain ⟨rfl, hH, hK, hN⟩ := hv
  subst hH
  have hx := B.exec
  have hb := B.bytes
  have hr := B.returns
  have hts : ∀ w ∈ gT, w.before ([.ref q, .long (lN T), .long (lN R)] : List Value).toArray s = true := fun w h => atoms_spec (ws := (.code yX1_init cX1_init 5 none :: gT)) B.pre w (List.mem_cons_of_mem _ h)
  have hown : s.vm.findClass RX1 = some m.cls := findClass_of_methodNamed B.named
  have hlocks := B.notSynchronized
  have hl := lv_entry ([.ref q, .long (lN T), .long (lN R)]) (n := 5) (Nat.le_of_ble_eq_true rfl)
  rw [lg_entry_eq]
  generalize (lg_sl ([.ref q, .long (lN T), .long (lN R)]) ++ List.replicate (5 - (lg_sl ([.ref q, .long (lN T), .long (lN R)])).length) Slot.unset).toArray = ls at hl ⊢
  have hin : meth.name = "<init>" := (name_of_methodNamed B.named B.method).1
  have hl : lv_has ls 5 [(0, .ref q), (1, .long (lN T)), (3, .long (lN R))] := hl
  have hP : va_P D vwCl [(q, .inr (1, [.long 0, .long 0, .long 0, .long 0]))] s.heap := va_one hq
  have hD : va_D (fun z => z = q) [(q, .inr (1, [.long 0, .long 0, .long 0, .long 0]))] := va_D_of (by simp) (by simp)
  have hS : va_S (fun z => z = q) s.heap s.heap [] := va_S.rf
  skip
  refine lv_aload_n hx hb dX1_init_0 rfl (lv_at hl 0 rfl) ?_
  refine W.objInit hx hb hown (hts _ tb_44) (hts _ tb_16) (hts _ tb_17) rfl (by rw [hml]; exact hl.1) rfl dX1_init_1 (Nat.le_of_ble_eq_true rfl) (Nat.le_of_ble_eq_true rfl) ?_
  refine W.eq (g2 := F0 m 4 ls []) rfl ?_
  refine lv_aload_n hx hb dX1_init_4 rfl (lv_at hl 0 rfl) ?_
  refine lv_lload_n hx hb dX1_init_5 rfl (lv_at hl 1 rfl) ?_
  refine va_putF (D := D) (cl := vwCl) (ci := 1) (v := .long (lN T)) (ty := .long) (C := RX1) (T := TX1) (N := 4) hx hb hts inX1 tyX1 tyX1_ok nmX1 hown hK hP hD hS 0 rfl rfl 0 (by decide) (hts _ tb_45) (fun _ h9 => h9) rfl hin rfl (by decide +kernel) rfl rfl (Nat.le_of_ble_eq_true rfl) dX1_init_6 (fun H locs hP hD hS => ?_)
  have hP : va_P D vwCl [(q, .inr (1, [.long (lN T), .long 0, .long 0, .long 0]))] H := hP
  have hD : va_D (fun z => z = q) [(q, .inr (1, [.long (lN T), .long 0, .long 0, .long 0]))] := hD
  refine lv_aload_n hx hb dX1_init_9 rfl (lv_at hl 0 rfl) ?_
  refine lv_lload_n hx hb dX1_init_10 rfl (lv_at hl 2 rfl) ?_
  refine va_putF (D := D) (cl := vwCl) (ci := 1) (v := .long (lN R)) (ty := .long) (C := RX1) (T := TX1) (N := 4) hx hb hts inX1 tyX1 tyX1_ok nmX1 hown hK hP hD hS 0 rfl rfl 1 (by decide) (hts _ tb_48) (fun _ h9 => h9) rfl hin rfl (by decide +kernel) rfl rfl (Nat.le_of_ble_eq_true rfl) dX1_init_11 (fun H locs hP hD hS => ?_)
  have hP : va_P D vwCl [(q, .inr (1, [.long (lN T), .long (lN R), .long 0, .long 0]))] H := hP
  have hD : va_D (fun z => z = q) [(q, .inr (1, [.long (lN T), .long (lN R), .long 0, .long 0]))] := hD
  refine lv_aload_n hx hb dX1_init_14 rfl (lv_at hl 0 rfl) ?_
  refine lv_lconst (v := lN 0) hx hb dX1_init_15 rfl ?_
  refine va_put (D := D) (cl := vwCl) (ci := 1) (v := .long (lN 0)) (ty := .long) (C := RX1) (T := TX1) (N := 4) hx hb hts inX1 tyX1 tyX1_ok nmX1 hown hK hP hD hS 0 rfl rfl 2 (by decide) (hts _ tb_50) (fun _ h9 => h9) rfl (by decide +kernel) rfl rfl (Nat.le_of_ble_eq_true rfl) dX1_init_16 (fun H locs hP hD hS => ?_)
  have hP : va_P D vwCl [(q, .inr (1, [.long (lN T), .long (lN R), .long (lN 0), .long 0]))] H := hP
  have hD : va_D (fun z => z = q) [(q, .inr (1, [.long (lN T), .long (lN R), .long (lN 0), .long 0]))] := hD
  refine lv_aload_n hx hb dX1_init_19 rfl (lv_at hl 0 rfl) ?_
  refine lv_lconst (v := lN 1) hx hb dX1_init_20 rfl ?_
  refine va_put (D := D) (cl := vwCl) (ci := 1) (v := .long (lN 1)) (ty := .long) (C := RX1) (T := TX1) (N := 4) hx hb hts inX1 tyX1 tyX1_ok nmX1 hown hK hP hD hS 0 rfl rfl 3 (by decide) (hts _ tb_53) (fun _ h9 => h9) rfl (by decide +kernel) rfl rfl (Nat.le_of_ble_eq_true rfl) dX1_init_21 (fun H locs hP hD hS => ?_)
  have hP : va_P D vwCl [(q, .inr (1, [.long (lN T), .long (lN R), .long (lN 0), .long (lN 1)]))] H := hP
  have hD : va_D (fun z => z = q) [(q, .inr (1, [.long (lN T), .long (lN R), .long (lN 0), .long (lN 1)]))] := hD
  exact W.vret hx hb hr (fun t ht hW => ⟨⟨(), rfl, trivial, by (try dsimp only); rw [ht]; exact hP.fst⟩, hS.F ht⟩) hS.2.2 dX1_init_24
set_option maxHeartbeats 4000000 in
set_option maxRecDepth 100000 in
theorem k_ChainInit (l : Launch) (D : va_G) (ka : Nat → ClassId) (H0 : Heap) (q : Nat) (hq : va_at D vwCl (q, .inr (0, [.null, .null, .int 0, .long 0])) H0) : Met l yX0_init (.code yX0_init cX0_init 1 none :: gT) ({ frames := 1, cells := 2, slots := 24, locals := 12 }) (ro_Pc D vwCl (tyL ka) H0 [.ref q]) (va_Qv (fun (u : Nat × Nat) => True) (fun (u : Nat × Nat) t => (va_at D vwCl (q, chE u.1 u.2 0 (-1)) t.heap ∧ va_at D vwCl (u.1, refE (ka 0) 12 (fun _ => none)) t.heap ∧ va_at D vwCl (u.2, intE (ka 2) 12 (fun _ => 0)) t.heap) ∧ H0.size ≤ u.1 ∧ H0.size ≤ u.2 ∧ u.1 ≠ u.2) (fun z => z = q ∨ H0.size ≤ z)) 2 24 (fun z => z = q ∨ H0.size ≤ z) := by
  refine Met.ofW (cc := cX0_init) (maxL := 1) (ret := none) (by decide) rfl ?_
  intro p e s m args below meth c s₁ B hml hv
  obtain ⟨rfl, hH, hK, hN⟩ := hv
  subst hH
  have hx := B.exec
  have hb := B.bytes
  have hr := B.returns
  have hts : ∀ w ∈ gT, w.before ([.ref q] : List Value).toArray s = true := fun w h => atoms_spec (ws := (.code yX0_init cX0_init 1 none :: gT)) B.pre w (List.mem_cons_of_mem _ h)
  have hown : s.vm.findClass RX0 = some m.cls := findClass_of_methodNamed B.named
  have hlocks := B.notSynchronized
  have hl := lv_entry ([.ref q]) (n := 1) (Nat.le_of_ble_eq_true rfl)
  rw [lg_entry_eq]
  generalize (lg_sl ([.ref q]) ++ List.replicate (1 - (lg_sl ([.ref q])).length) Slot.unset).toArray = ls at hl ⊢
  have hin : meth.name = "<init>" := (name_of_methodNamed B.named B.method).1
  have hl : lv_has ls 1 [(0, .ref q)] := hl
  have hP : va_P D vwCl [(q, .inr (0, [.null, .null, .int 0, .long 0]))] s.heap := va_one hq
  have hD : va_D (fun z => z = q ∨ s.heap.size ≤ z) [(q, .inr (0, [.null, .null, .int 0, .long 0]))] := va_D_of (by simp) (by simp)
  have hS : va_S (fun z => z = q ∨ s.heap.size ≤ z) s.heap s.heap [] := va_S.rf
  have hA : ∀ z9 : Nat, s.heap.size ≤ z9 → (fun z => z = q ∨ s.heap.size ≤ z) z9 := fun z9 h => by simp [h]
  refine lv_aload_n hx hb dX0_init_0 rfl (lv_at hl 0 rfl) ?_
  refine W.objInit hx hb hown (hts _ tb_72) (hts _ tb_16) (hts _ tb_17) rfl (by rw [hml]; exact hl.1) rfl dX0_init_1 (Nat.le_of_ble_eq_true rfl) (Nat.le_of_ble_eq_true rfl) ?_
  refine W.eq (g2 := F0 m 4 ls []) rfl ?_
  refine lv_aload_n hx hb dX0_init_4 rfl (lv_at hl 0 rfl) ?_
  refine lv_bipush (v := nI 12) hx hb dX0_init_5 (by decide) ?_
  refine va_newq (cl := vwCl) (N' := 12) (C := RX1) hx hb hown (hts _ tb_73) (hN _ tn_19 rfl) hK hP hD hS hA (nI_pos (by decide)) (nI_clamp (by decide)) (by decide) (Nat.le_of_ble_eq_true rfl) (Nat.le_of_ble_eq_true rfl) dX0_init_7 (fun q_1 cA H hK2 hP hD hS => ?_)
  obtain rfl : cA = ka 0 := ty_same hK2 hK (i := 5) (j := 0) rfl rfl
  have hP : va_P D vwCl [(q, .inr (0, [.null, .null, .int 0, .long 0])), (q_1, refE (ka 0) 12 (fun _ => none))] H := hP
  have hD : va_D (fun z => z = q ∨ s.heap.size ≤ z) [(q, .inr (0, [.null, .null, .int 0, .long 0])), (q_1, refE (ka 0) 12 (fun _ => none))] := hD
  refine va_putF (D := D) (cl := vwCl) (ci := 0) (v := .ref q_1) (ty := (.array (.object "ChainSums$Piece"))) (C := RX0) (T := TX0) (N := 4) hx hb hts inX0 tyX0 tyX0_ok nmX0 hown hK hP hD hS 0 rfl rfl 0 (by decide) (hts _ tb_75) (fun _ h9 => h9) rfl hin rfl (by decide +kernel) rfl rfl (Nat.le_of_ble_eq_true rfl) dX0_init_10 (fun H locs hP hD hS => ?_)
  have hP : va_P D vwCl [(q, .inr (0, [.ref q_1, .null, .int 0, .long 0])), (q_1, refE (ka 0) 12 (fun _ => none))] H := hP
  have hD : va_D (fun z => z = q ∨ s.heap.size ≤ z) [(q, .inr (0, [.ref q_1, .null, .int 0, .long 0])), (q_1, refE (ka 0) 12 (fun _ => none))] := hD
  refine lv_aload_n hx hb dX0_init_13 rfl (lv_at hl 0 rfl) ?_
  refine lv_bipush (v := nI 12) hx hb dX0_init_14 (by decide) ?_
  refine va_newa (cl := vwCl) (atype := .boolean) (N' := 12) (a0 := (12, .inl (fun _ => 0))) hx hb (hts _ tb_90) (ty := .boolean) rfl hK hP hD hS hA (fun _ => rfl) (nI_pos (by decide)) (nI_clamp (by decide)) (by decide) (Nat.le_of_ble_eq_true rfl) (Nat.le_of_ble_eq_true rfl) dX0_init_16 (fun q_2 cA H hK2 hP hD hS => ?_)
  obtain rfl : cA = ka 2 := ty_same hK2 hK (i := 5) (j := 2) rfl rfl
  have hP : va_P D vwCl [(q, .inr (0, [.ref q_1, .null, .int 0, .long 0])), (q_1, refE (ka 0) 12 (fun _ => none)), (q_2, intE (ka 2) 12 (fun _ => 0))] H := hP
  have hD : va_D (fun z => z = q ∨ s.heap.size ≤ z) [(q, .inr (0, [.ref q_1, .null, .int 0, .long 0])), (q_1, refE (ka 0) 12 (fun _ => none)), (q_2, intE (ka 2) 12 (fun _ => 0))] := hD
  refine va_putF (D := D) (cl := vwCl) (ci := 0) (v := .ref q_2) (ty := (.array .boolean)) (C := RX0) (T := TX0) (N := 4) hx hb hts inX0 tyX0 tyX0_ok nmX0 hown hK hP hD hS 0 rfl rfl 1 (by decide) (hts _ tb_76) (fun _ h9 => h9) rfl hin rfl (by decide +kernel) rfl rfl (Nat.le_of_ble_eq_true rfl) dX0_init_18 (fun H locs hP hD hS => ?_)
  have hP : va_P D vwCl [(q, .inr (0, [.ref q_1, .ref q_2, .int 0, .long 0])), (q_1, refE (ka 0) 12 (fun _ => none)), (q_2, intE (ka 2) 12 (fun _ => 0))] H := hP
  have hD : va_D (fun z => z = q ∨ s.heap.size ≤ z) [(q, .inr (0, [.ref q_1, .ref q_2, .int 0, .long 0])), (q_1, refE (ka 0) 12 (fun _ => none)), (q_2, intE (ka 2) 12 (fun _ => 0))] := hD
  refine lv_aload_n hx hb dX0_init_21 rfl (lv_at hl 0 rfl) ?_
  refine lv_iconst (v := nI 0) hx hb dX0_init_22 (by decide) ?_
  refine va_put (D := D) (cl := vwCl) (ci := 0) (v := .int (nI 0)) (ty := .int) (C := RX0) (T := TX0) (N := 4) hx hb hts inX0 tyX0 tyX0_ok nmX0 hown hK hP hD hS 0 rfl rfl 2 (by decide) (hts _ tb_77) (fun _ h9 => h9) rfl (by decide +kernel) rfl rfl (Nat.le_of_ble_eq_true rfl) dX0_init_23 (fun H locs hP hD hS => ?_)
  have hP : va_P D vwCl [(q, .inr (0, [.ref q_1, .ref q_2, .int (nI 0), .long 0])), (q_1, refE (ka 0) 12 (fun _ => none)), (q_2, intE (ka 2) 12 (fun _ => 0))] H := hP
  have hD : va_D (fun z => z = q ∨ s.heap.size ≤ z) [(q, .inr (0, [.ref q_1, .ref q_2, .int (nI 0), .long 0])), (q_1, refE (ka 0) 12 (fun _ => none)), (q_2, intE (ka 2) 12 (fun _ => 0))] := hD
  refine lv_aload_n hx hb dX0_init_26 rfl (lv_at hl 0 rfl) ?_
  refine lv_ldc2 (v := (-1)) hx hb hown (hts _ tb_74) dX0_init_27 ?_
  refine va_put (D := D) (cl := vwCl) (ci := 0) (v := .long ((-1))) (ty := .long) (C := RX0) (T := TX0) (N := 4) hx hb hts inX0 tyX0 tyX0_ok nmX0 hown hK hP hD hS 0 rfl rfl 3 (by decide) (hts _ tb_79) (fun _ h9 => h9) rfl (by decide +kernel) rfl rfl (Nat.le_of_ble_eq_true rfl) dX0_init_30 (fun H locs hP hD hS => ?_)
  have hP : va_P D vwCl [(q, .inr (0, [.ref q_1, .ref q_2, .int (nI 0), .long ((-1))])), (q_1, refE (ka 0) 12 (fun _ => none)), (q_2, intE (ka 2) 12 (fun _ => 0))] H := hP
  have hD : va_D (fun z => z = q ∨ s.heap.size ≤ z) [(q, .inr (0, [.ref q_1, .ref q_2, .int (nI 0), .long ((-1))])), (q_1, refE (ka 0) 12 (fun _ => none)), (q_2, intE (ka 2) 12 (fun _ => 0))] := hD
  have nqr : ¬ q = q_1 := fun e => absurd (hD.1 0 1 _ _ rfl rfl e) (by decide)
  have nqm : ¬ q = q_2 := fun e => absurd (hD.1 0 2 _ _ rfl rfl e) (by decide)
  have nrm : q_1 ≠ q_2 := fun e => absurd (hD.1 1 2 _ _ rfl rfl e) (by decide)
  have fr : s.heap.size ≤ q_1 := (hD.2 1 _ rfl).resolve_left (fun e => nqr e.symm)
  have fm : s.heap.size ≤ q_2 := (hD.2 2 _ rfl).resolve_left (fun e => nqm e.symm)
  have hw : (va_at D vwCl (q, chE q_1 q_2 0 (-1)) H ∧ va_at D vwCl (q_1, refE (ka 0) 12 (fun _ => none)) H ∧ va_at D vwCl (q_2, intE (ka 2) 12 (fun _ => 0)) H) ∧ s.heap.size ≤ q_1 ∧ s.heap.size ≤ q_2 ∧ q_1 ≠ q_2 := ⟨⟨hP.nth 0 rfl, hP.nth 1 rfl, hP.nth 2 rfl⟩, fr, fm, nrm⟩
  exact W.vret hx hb hr (fun t ht hW => ⟨⟨(q_1, q_2), rfl, trivial, by (try dsimp only); rw [ht]; exact hw⟩, hS.F ht⟩) hS.2.2 dX0_init_33
set_option maxHeartbeats 4000000 in
set_option maxRecDepth 100000 in
theorem k_XInit (l : Launch) (D : va_G) (ka : Nat → ClassId) (H0 : Heap) (q : Nat) (hq : va_at D vwCl (q, .inr (2, [.null, .null, .int 0, .int 0])) H0) : Met l yX2_init (.code yX2_init cX2_init 1 none :: gT) ({ frames := 1, cells := 2, slots := 50, locals := 12 }) (ro_Pc D vwCl (tyL ka) H0 [.ref q]) (va_Qv (fun (u : Nat × Nat) => True) (fun (u : Nat × Nat) t => (va_at D vwCl (q, .inr (2, [.ref u.1, .ref u.2, .int (nI 0), .int (nI 0)])) t.heap ∧ va_at D vwCl (u.1, refE (ka 0) 30 (fun _ => none)) t.heap ∧ va_at D vwCl (u.2, refE (ka 1) 20 (fun _ => none)) t.heap) ∧ H0.size ≤ u.1 ∧ H0.size ≤ u.2 ∧ u.1 ≠ u.2) (fun z => z = q ∨ H0.size ≤ z)) 2 50 (fun z => z = q ∨ H0.size ≤ z) := by
  refine Met.ofW (cc := cX2_init) (maxL := 1) (ret := none) (by decide) rfl ?_
  intro p e s m args below meth c s₁ B hml hv
  obtain ⟨rfl, hH, hK, hN⟩ := hv
  subst hH
  have hx := B.exec
  have hb := B.bytes
  have hr := B.returns
  have hts : ∀ w ∈ gT, w.before ([.ref q] : List Value).toArray s = true := fun w h => atoms_spec (ws := (.code yX2_init cX2_init 1 none :: gT)) B.pre w (List.mem_cons_of_mem _ h)
  have hown : s.vm.findClass RX2 = some m.cls := findClass_of_methodNamed B.named
  have hlocks := B.notSynchronized
  have hl := lv_entry ([.ref q]) (n := 1) (Nat.le_of_ble_eq_true rfl)
  rw [lg_entry_eq]
  generalize (lg_sl ([.ref q]) ++ List.replicate (1 - (lg_sl ([.ref q])).length) Slot.unset).toArray = ls at hl ⊢
  have hin : meth.name = "<init>" := (name_of_methodNamed B.named B.method).1
  have hl : lv_has ls 1 [(0, .ref q)] := hl
  have hP : va_P D vwCl [(q, .inr (2, [.null, .null, .int 0, .int 0]))] s.heap := va_one hq
  have hD : va_D (fun z => z = q ∨ s.heap.size ≤ z) [(q, .inr (2, [.null, .null, .int 0, .int 0]))] := va_D_of (by simp) (by simp)
  have hS : va_S (fun z => z = q ∨ s.heap.size ≤ z) s.heap s.heap [] := va_S.rf
  have hA : ∀ z9 : Nat, s.heap.size ≤ z9 → (fun z => z = q ∨ s.heap.size ≤ z) z9 := fun z9 h => by simp [h]
  refine lv_aload_n hx hb dX2_init_0 rfl (lv_at hl 0 rfl) ?_
  refine W.objInit hx hb hown (hts _ tb_15) (hts _ tb_16) (hts _ tb_17) rfl (by rw [hml]; exact hl.1) rfl dX2_init_1 (Nat.le_of_ble_eq_true rfl) (Nat.le_of_ble_eq_true rfl) ?_
  refine W.eq (g2 := F0 m 4 ls []) rfl ?_
  refine lv_aload_n hx hb dX2_init_4 rfl (lv_at hl 0 rfl) ?_
  refine lv_bipush (v := nI 30) hx hb dX2_init_5 (by decide) ?_
  refine va_newq (cl := vwCl) (N' := 30) (C := RX1) hx hb hown (hts _ tb_18) (hN _ tn_19 rfl) hK hP hD hS hA (nI_pos (by decide)) (nI_clamp (by decide)) (by decide) (Nat.le_of_ble_eq_true rfl) (Nat.le_of_ble_eq_true rfl) dX2_init_7 (fun q_1 cA H hK2 hP hD hS => ?_)
  obtain rfl : cA = ka 0 := ty_same hK2 hK (i := 5) (j := 0) rfl rfl
  have hP : va_P D vwCl [(q, .inr (2, [.null, .null, .int 0, .int 0])), (q_1, refE (ka 0) 30 (fun _ => none))] H := hP
  have hD : va_D (fun z => z = q ∨ s.heap.size ≤ z) [(q, .inr (2, [.null, .null, .int 0, .int 0])), (q_1, refE (ka 0) 30 (fun _ => none))] := hD
  refine va_putF (D := D) (cl := vwCl) (ci := 2) (v := .ref q_1) (ty := (.array (.object "ChainSums$Piece"))) (C := RX2) (T := TX2) (N := 4) hx hb hts inX2 tyX2 tyX2_ok nmX2 hown hK hP hD hS 0 rfl rfl 0 (by decide) (hts _ tb_22) (fun _ h9 => h9) rfl hin rfl (by decide +kernel) rfl rfl (Nat.le_of_ble_eq_true rfl) dX2_init_10 (fun H locs hP hD hS => ?_)
  have hP : va_P D vwCl [(q, .inr (2, [.ref q_1, .null, .int 0, .int 0])), (q_1, refE (ka 0) 30 (fun _ => none))] H := hP
  have hD : va_D (fun z => z = q ∨ s.heap.size ≤ z) [(q, .inr (2, [.ref q_1, .null, .int 0, .int 0])), (q_1, refE (ka 0) 30 (fun _ => none))] := hD
  refine lv_aload_n hx hb dX2_init_13 rfl (lv_at hl 0 rfl) ?_
  refine lv_bipush (v := nI 20) hx hb dX2_init_14 (by decide) ?_
  refine va_newq (cl := vwCl) (N' := 20) (C := RX0) hx hb hown (hts _ tb_20) (hN _ tn_21 rfl) hK hP hD hS hA (nI_pos (by decide)) (nI_clamp (by decide)) (by decide) (Nat.le_of_ble_eq_true rfl) (Nat.le_of_ble_eq_true rfl) dX2_init_16 (fun q_2 cA H hK2 hP hD hS => ?_)
  obtain rfl : cA = ka 1 := ty_same hK2 hK (i := 5) (j := 1) rfl rfl
  have hP : va_P D vwCl [(q, .inr (2, [.ref q_1, .null, .int 0, .int 0])), (q_1, refE (ka 0) 30 (fun _ => none)), (q_2, refE (ka 1) 20 (fun _ => none))] H := hP
  have hD : va_D (fun z => z = q ∨ s.heap.size ≤ z) [(q, .inr (2, [.ref q_1, .null, .int 0, .int 0])), (q_1, refE (ka 0) 30 (fun _ => none)), (q_2, refE (ka 1) 20 (fun _ => none))] := hD
  refine va_putF (D := D) (cl := vwCl) (ci := 2) (v := .ref q_2) (ty := (.array (.object "ChainSums$Chain"))) (C := RX2) (T := TX2) (N := 4) hx hb hts inX2 tyX2 tyX2_ok nmX2 hown hK hP hD hS 0 rfl rfl 1 (by decide) (hts _ tb_23) (fun _ h9 => h9) rfl hin rfl (by decide +kernel) rfl rfl (Nat.le_of_ble_eq_true rfl) dX2_init_19 (fun H locs hP hD hS => ?_)
  have hP : va_P D vwCl [(q, .inr (2, [.ref q_1, .ref q_2, .int 0, .int 0])), (q_1, refE (ka 0) 30 (fun _ => none)), (q_2, refE (ka 1) 20 (fun _ => none))] H := hP
  have hD : va_D (fun z => z = q ∨ s.heap.size ≤ z) [(q, .inr (2, [.ref q_1, .ref q_2, .int 0, .int 0])), (q_1, refE (ka 0) 30 (fun _ => none)), (q_2, refE (ka 1) 20 (fun _ => none))] := hD
  refine lv_aload_n hx hb dX2_init_22 rfl (lv_at hl 0 rfl) ?_
  refine lv_iconst (v := nI 0) hx hb dX2_init_23 (by decide) ?_
  refine va_put (D := D) (cl := vwCl) (ci := 2) (v := .int (nI 0)) (ty := .int) (C := RX2) (T := TX2) (N := 4) hx hb hts inX2 tyX2 tyX2_ok nmX2 hown hK hP hD hS 0 rfl rfl 2 (by decide) (hts _ tb_24) (fun _ h9 => h9) rfl (by decide +kernel) rfl rfl (Nat.le_of_ble_eq_true rfl) dX2_init_24 (fun H locs hP hD hS => ?_)
  have hP : va_P D vwCl [(q, .inr (2, [.ref q_1, .ref q_2, .int (nI 0), .int 0])), (q_1, refE (ka 0) 30 (fun _ => none)), (q_2, refE (ka 1) 20 (fun _ => none))] H := hP
  have hD : va_D (fun z => z = q ∨ s.heap.size ≤ z) [(q, .inr (2, [.ref q_1, .ref q_2, .int (nI 0), .int 0])), (q_1, refE (ka 0) 30 (fun _ => none)), (q_2, refE (ka 1) 20 (fun _ => none))] := hD
  refine lv_aload_n hx hb dX2_init_27 rfl (lv_at hl 0 rfl) ?_
  refine lv_iconst (v := nI 0) hx hb dX2_init_28 (by decide) ?_
  refine va_put (D := D) (cl := vwCl) (ci := 2) (v := .int (nI 0)) (ty := .int) (C := RX2) (T := TX2) (N := 4) hx hb hts inX2 tyX2 tyX2_ok nmX2 hown hK hP hD hS 0 rfl rfl 3 (by decide) (hts _ tb_25) (fun _ h9 => h9) rfl (by decide +kernel) rfl rfl (Nat.le_of_ble_eq_true rfl) dX2_init_29 (fun H locs hP hD hS => ?_)
  have hP : va_P D vwCl [(q, .inr (2, [.ref q_1, .ref q_2, .int (nI 0), .int (nI 0)])), (q_1, refE (ka 0) 30 (fun _ => none)), (q_2, refE (ka 1) 20 (fun _ => none))] H := hP
  have hD : va_D (fun z => z = q ∨ s.heap.size ≤ z) [(q, .inr (2, [.ref q_1, .ref q_2, .int (nI 0), .int (nI 0)])), (q_1, refE (ka 0) 30 (fun _ => none)), (q_2, refE (ka 1) 20 (fun _ => none))] := hD
  have nqr : ¬ q = q_1 := fun e => absurd (hD.1 0 1 _ _ rfl rfl e) (by decide)
  have nqm : ¬ q = q_2 := fun e => absurd (hD.1 0 2 _ _ rfl rfl e) (by decide)
  have nrm : q_1 ≠ q_2 := fun e => absurd (hD.1 1 2 _ _ rfl rfl e) (by decide)
  have fr : s.heap.size ≤ q_1 := (hD.2 1 _ rfl).resolve_left (fun e => nqr e.symm)
  have fm : s.heap.size ≤ q_2 := (hD.2 2 _ rfl).resolve_left (fun e => nqm e.symm)
  have hw : (va_at D vwCl (q, .inr (2, [.ref q_1, .ref q_2, .int (nI 0), .int (nI 0)])) H ∧ va_at D vwCl (q_1, refE (ka 0) 30 (fun _ => none)) H ∧ va_at D vwCl (q_2, refE (ka 1) 20 (fun _ => none)) H) ∧ s.heap.size ≤ q_1 ∧ s.heap.size ≤ q_2 ∧ q_1 ≠ q_2 := ⟨⟨hP.nth 0 rfl, hP.nth 1 rfl, hP.nth 2 rfl⟩, fr, fm, nrm⟩
  exact W.vret hx hb hr (fun t ht hW => ⟨⟨(q_1, q_2), rfl, trivial, by (try dsimp only); rw [ht]; exact hw⟩, hS.F ht⟩) hS.2.2 dX2_init_32
set_option maxHeartbeats 4000000 in
set_option maxRecDepth 100000 in
theorem k_MInit (l : Launch) (D : va_G) (ka : Nat → ClassId) (H0 : Heap) (q : Nat) (hq : va_at D vwCl (q, .inr (3, [.int 0, .int 0, .null, .null, .null, .null, .int 0, .null, .null, .null, .null, .null])) H0) : Met l yM_init (.code yM_init cM_init 1 none :: gT) ({ frames := 1, cells := 9, slots := 691, locals := 12 }) (ro_Pc D vwCl (tyL ka) H0 [.ref q]) (va_Qv (fun (u : Nat → Nat) => True) (fun (u : Nat → Nat) t => va_P D vwCl (mW ka u 0 0 0 z0 z0 z0 z0 z0 zF z0 zF (fun _ => 0)) t.heap ∧ u 0 = q ∧ (∀ i j, i < 10 → j < 10 → u i = u j → i = j) ∧ ∀ i, i < 10 → u i = q ∨ H0.size ≤ u i) (fun z => z = q ∨ H0.size ≤ z)) 9 691 (fun z => z = q ∨ H0.size ≤ z) := by
  refine Met.ofW (cc := cM_init) (maxL := 1) (ret := none) (by decide) rfl ?_
  intro p e s m args below meth c s₁ B hml hv
  obtain ⟨rfl, hH, hK, hN⟩ := hv
  subst hH
  have hx := B.exec
  have hb := B.bytes
  have hr := B.returns
  have hts : ∀ w ∈ gT, w.before ([.ref q] : List Value).toArray s = true := fun w h => atoms_spec (ws := (.code yM_init cM_init 1 none :: gT)) B.pre w (List.mem_cons_of_mem _ h)
  have hown : s.vm.findClass RM = some m.cls := findClass_of_methodNamed B.named
  have hlocks := B.notSynchronized
  have hl := lv_entry ([.ref q]) (n := 1) (Nat.le_of_ble_eq_true rfl)
  rw [lg_entry_eq]
  generalize (lg_sl ([.ref q]) ++ List.replicate (1 - (lg_sl ([.ref q])).length) Slot.unset).toArray = ls at hl ⊢
  have hin : meth.name = "<init>" := (name_of_methodNamed B.named B.method).1
  have hl : lv_has ls 1 [(0, .ref q)] := hl
  have hP : va_P D vwCl [(q, .inr (3, [.int 0, .int 0, .null, .null, .null, .null, .int 0, .null, .null, .null, .null, .null]))] s.heap := va_one hq
  have hD : va_D (fun z => z = q ∨ s.heap.size ≤ z) [(q, .inr (3, [.int 0, .int 0, .null, .null, .null, .null, .int 0, .null, .null, .null, .null, .null]))] := va_D_of (by simp) (by simp)
  have hS : va_S (fun z => z = q ∨ s.heap.size ≤ z) s.heap s.heap [] := va_S.rf
  have hA : ∀ z9 : Nat, s.heap.size ≤ z9 → (fun z => z = q ∨ s.heap.size ≤ z) z9 := fun z9 h => by simp [h]
  refine lv_aload_n hx hb dM_init_0 rfl (lv_at hl 0 rfl) ?_
  refine W.objInit hx hb hown (hts _ tb_299) (hts _ tb_16) (hts _ tb_17) rfl (by rw [hml]; exact hl.1) rfl dM_init_1 (Nat.le_of_ble_eq_true rfl) (Nat.le_of_ble_eq_true rfl) ?_
  refine W.eq (g2 := F0 m 4 ls []) rfl ?_
  refine lv_aload_n hx hb dM_init_4 rfl (lv_at hl 0 rfl) ?_
  refine lv_bipush (v := nI 31) hx hb dM_init_5 (by decide) ?_
  refine va_newa (cl := vwCl) (atype := .long) (N' := 31) (a0 := (31, .inr (.inl (fun _ => lN 0)))) hx hb (hts _ tb_337) (ty := .long) rfl hK hP hD hS hA (fun _ => rfl) (nI_pos (by decide)) (nI_clamp (by decide)) (by decide) (Nat.le_of_ble_eq_true rfl) (Nat.le_of_ble_eq_true rfl) dM_init_7 (fun q_1 cA H hK2 hP hD hS => ?_)
  obtain rfl : cA = ka 3 := ty_same hK2 hK (i := 5) (j := 3) rfl rfl
  have hP : va_P D vwCl [(q, .inr (3, [.int 0, .int 0, .null, .null, .null, .null, .int 0, .null, .null, .null, .null, .null])), (q_1, lonE (ka 3) 31 (fun _ => lN 0))] H := hP
  have hD : va_D (fun z => z = q ∨ s.heap.size ≤ z) [(q, .inr (3, [.int 0, .int 0, .null, .null, .null, .null, .int 0, .null, .null, .null, .null, .null])), (q_1, lonE (ka 3) 31 (fun _ => lN 0))] := hD
  refine va_putF (D := D) (cl := vwCl) (ci := 3) (v := .ref q_1) (ty := (.array .long)) (C := RM) (T := TM) (N := 12) hx hb hts inM tyM tyM_ok nmM hown hK hP hD hS 0 rfl rfl 2 (by decide) (hts _ tb_302) (fun _ h9 => h9) rfl hin rfl (by decide +kernel) rfl rfl (Nat.le_of_ble_eq_true rfl) dM_init_9 (fun H locs hP hD hS => ?_)
  have hP : va_P D vwCl [(q, .inr (3, [.int 0, .int 0, .ref q_1, .null, .null, .null, .int 0, .null, .null, .null, .null, .null])), (q_1, lonE (ka 3) 31 (fun _ => lN 0))] H := hP
  have hD : va_D (fun z => z = q ∨ s.heap.size ≤ z) [(q, .inr (3, [.int 0, .int 0, .ref q_1, .null, .null, .null, .int 0, .null, .null, .null, .null, .null])), (q_1, lonE (ka 3) 31 (fun _ => lN 0))] := hD
  refine lv_aload_n hx hb dM_init_12 rfl (lv_at hl 0 rfl) ?_
  refine lv_bipush (v := nI 31) hx hb dM_init_13 (by decide) ?_
  refine va_newa (cl := vwCl) (atype := .long) (N' := 31) (a0 := (31, .inr (.inl (fun _ => lN 0)))) hx hb (hts _ tb_337) (ty := .long) rfl hK hP hD hS hA (fun _ => rfl) (nI_pos (by decide)) (nI_clamp (by decide)) (by decide) (Nat.le_of_ble_eq_true rfl) (Nat.le_of_ble_eq_true rfl) dM_init_15 (fun q_2 cA H hK2 hP hD hS => ?_)
  obtain rfl : cA = ka 3 := ty_same hK2 hK (i := 5) (j := 3) rfl rfl
  have hP : va_P D vwCl [(q, .inr (3, [.int 0, .int 0, .ref q_1, .null, .null, .null, .int 0, .null, .null, .null, .null, .null])), (q_1, lonE (ka 3) 31 (fun _ => lN 0)), (q_2, lonE (ka 3) 31 (fun _ => lN 0))] H := hP
  have hD : va_D (fun z => z = q ∨ s.heap.size ≤ z) [(q, .inr (3, [.int 0, .int 0, .ref q_1, .null, .null, .null, .int 0, .null, .null, .null, .null, .null])), (q_1, lonE (ka 3) 31 (fun _ => lN 0)), (q_2, lonE (ka 3) 31 (fun _ => lN 0))] := hD
  refine va_putF (D := D) (cl := vwCl) (ci := 3) (v := .ref q_2) (ty := (.array .long)) (C := RM) (T := TM) (N := 12) hx hb hts inM tyM tyM_ok nmM hown hK hP hD hS 0 rfl rfl 3 (by decide) (hts _ tb_303) (fun _ h9 => h9) rfl hin rfl (by decide +kernel) rfl rfl (Nat.le_of_ble_eq_true rfl) dM_init_17 (fun H locs hP hD hS => ?_)
  have hP : va_P D vwCl [(q, .inr (3, [.int 0, .int 0, .ref q_1, .ref q_2, .null, .null, .int 0, .null, .null, .null, .null, .null])), (q_1, lonE (ka 3) 31 (fun _ => lN 0)), (q_2, lonE (ka 3) 31 (fun _ => lN 0))] H := hP
  have hD : va_D (fun z => z = q ∨ s.heap.size ≤ z) [(q, .inr (3, [.int 0, .int 0, .ref q_1, .ref q_2, .null, .null, .int 0, .null, .null, .null, .null, .null])), (q_1, lonE (ka 3) 31 (fun _ => lN 0)), (q_2, lonE (ka 3) 31 (fun _ => lN 0))] := hD
  refine lv_aload_n hx hb dM_init_20 rfl (lv_at hl 0 rfl) ?_
  refine lv_bipush (v := nI 31) hx hb dM_init_21 (by decide) ?_
  refine va_newa (cl := vwCl) (atype := .long) (N' := 31) (a0 := (31, .inr (.inl (fun _ => lN 0)))) hx hb (hts _ tb_337) (ty := .long) rfl hK hP hD hS hA (fun _ => rfl) (nI_pos (by decide)) (nI_clamp (by decide)) (by decide) (Nat.le_of_ble_eq_true rfl) (Nat.le_of_ble_eq_true rfl) dM_init_23 (fun q_3 cA H hK2 hP hD hS => ?_)
  obtain rfl : cA = ka 3 := ty_same hK2 hK (i := 5) (j := 3) rfl rfl
  have hP : va_P D vwCl [(q, .inr (3, [.int 0, .int 0, .ref q_1, .ref q_2, .null, .null, .int 0, .null, .null, .null, .null, .null])), (q_1, lonE (ka 3) 31 (fun _ => lN 0)), (q_2, lonE (ka 3) 31 (fun _ => lN 0)), (q_3, lonE (ka 3) 31 (fun _ => lN 0))] H := hP
  have hD : va_D (fun z => z = q ∨ s.heap.size ≤ z) [(q, .inr (3, [.int 0, .int 0, .ref q_1, .ref q_2, .null, .null, .int 0, .null, .null, .null, .null, .null])), (q_1, lonE (ka 3) 31 (fun _ => lN 0)), (q_2, lonE (ka 3) 31 (fun _ => lN 0)), (q_3, lonE (ka 3) 31 (fun _ => lN 0))] := hD
  refine va_putF (D := D) (cl := vwCl) (ci := 3) (v := .ref q_3) (ty := (.array .long)) (C := RM) (T := TM) (N := 12) hx hb hts inM tyM tyM_ok nmM hown hK hP hD hS 0 rfl rfl 4 (by decide) (hts _ tb_304) (fun _ h9 => h9) rfl hin rfl (by decide +kernel) rfl rfl (Nat.le_of_ble_eq_true rfl) dM_init_25 (fun H locs hP hD hS => ?_)
  have hP : va_P D vwCl [(q, .inr (3, [.int 0, .int 0, .ref q_1, .ref q_2, .ref q_3, .null, .int 0, .null, .null, .null, .null, .null])), (q_1, lonE (ka 3) 31 (fun _ => lN 0)), (q_2, lonE (ka 3) 31 (fun _ => lN 0)), (q_3, lonE (ka 3) 31 (fun _ => lN 0))] H := hP
  have hD : va_D (fun z => z = q ∨ s.heap.size ≤ z) [(q, .inr (3, [.int 0, .int 0, .ref q_1, .ref q_2, .ref q_3, .null, .int 0, .null, .null, .null, .null, .null])), (q_1, lonE (ka 3) 31 (fun _ => lN 0)), (q_2, lonE (ka 3) 31 (fun _ => lN 0)), (q_3, lonE (ka 3) 31 (fun _ => lN 0))] := hD
  refine lv_aload_n hx hb dM_init_28 rfl (lv_at hl 0 rfl) ?_
  refine lv_bipush (v := nI 31) hx hb dM_init_29 (by decide) ?_
  refine va_newa (cl := vwCl) (atype := .long) (N' := 31) (a0 := (31, .inr (.inl (fun _ => lN 0)))) hx hb (hts _ tb_337) (ty := .long) rfl hK hP hD hS hA (fun _ => rfl) (nI_pos (by decide)) (nI_clamp (by decide)) (by decide) (Nat.le_of_ble_eq_true rfl) (Nat.le_of_ble_eq_true rfl) dM_init_31 (fun q_4 cA H hK2 hP hD hS => ?_)
  obtain rfl : cA = ka 3 := ty_same hK2 hK (i := 5) (j := 3) rfl rfl
  have hP : va_P D vwCl [(q, .inr (3, [.int 0, .int 0, .ref q_1, .ref q_2, .ref q_3, .null, .int 0, .null, .null, .null, .null, .null])), (q_1, lonE (ka 3) 31 (fun _ => lN 0)), (q_2, lonE (ka 3) 31 (fun _ => lN 0)), (q_3, lonE (ka 3) 31 (fun _ => lN 0)), (q_4, lonE (ka 3) 31 (fun _ => lN 0))] H := hP
  have hD : va_D (fun z => z = q ∨ s.heap.size ≤ z) [(q, .inr (3, [.int 0, .int 0, .ref q_1, .ref q_2, .ref q_3, .null, .int 0, .null, .null, .null, .null, .null])), (q_1, lonE (ka 3) 31 (fun _ => lN 0)), (q_2, lonE (ka 3) 31 (fun _ => lN 0)), (q_3, lonE (ka 3) 31 (fun _ => lN 0)), (q_4, lonE (ka 3) 31 (fun _ => lN 0))] := hD
  refine va_putF (D := D) (cl := vwCl) (ci := 3) (v := .ref q_4) (ty := (.array .long)) (C := RM) (T := TM) (N := 12) hx hb hts inM tyM tyM_ok nmM hown hK hP hD hS 0 rfl rfl 5 (by decide) (hts _ tb_305) (fun _ h9 => h9) rfl hin rfl (by decide +kernel) rfl rfl (Nat.le_of_ble_eq_true rfl) dM_init_33 (fun H locs hP hD hS => ?_)
  have hP : va_P D vwCl [(q, .inr (3, [.int 0, .int 0, .ref q_1, .ref q_2, .ref q_3, .ref q_4, .int 0, .null, .null, .null, .null, .null])), (q_1, lonE (ka 3) 31 (fun _ => lN 0)), (q_2, lonE (ka 3) 31 (fun _ => lN 0)), (q_3, lonE (ka 3) 31 (fun _ => lN 0)), (q_4, lonE (ka 3) 31 (fun _ => lN 0))] H := hP
  have hD : va_D (fun z => z = q ∨ s.heap.size ≤ z) [(q, .inr (3, [.int 0, .int 0, .ref q_1, .ref q_2, .ref q_3, .ref q_4, .int 0, .null, .null, .null, .null, .null])), (q_1, lonE (ka 3) 31 (fun _ => lN 0)), (q_2, lonE (ka 3) 31 (fun _ => lN 0)), (q_3, lonE (ka 3) 31 (fun _ => lN 0)), (q_4, lonE (ka 3) 31 (fun _ => lN 0))] := hD
  refine lv_aload_n hx hb dM_init_36 rfl (lv_at hl 0 rfl) ?_
  refine lv_sipush (v := nI 252) hx hb dM_init_37 (by decide) ?_
  refine va_newa (cl := vwCl) (atype := .int) (N' := 252) (a0 := (252, .inl (fun _ => nI 0))) hx hb (hts _ tb_338) (ty := .int) rfl hK hP hD hS hA (fun _ => rfl) (nI_pos (by decide)) (nI_clamp (by decide)) (by decide) (Nat.le_of_ble_eq_true rfl) (Nat.le_of_ble_eq_true rfl) dM_init_40 (fun q_5 cA H hK2 hP hD hS => ?_)
  obtain rfl : cA = ka 4 := ty_same hK2 hK (i := 5) (j := 4) rfl rfl
  have hP : va_P D vwCl [(q, .inr (3, [.int 0, .int 0, .ref q_1, .ref q_2, .ref q_3, .ref q_4, .int 0, .null, .null, .null, .null, .null])), (q_1, lonE (ka 3) 31 (fun _ => lN 0)), (q_2, lonE (ka 3) 31 (fun _ => lN 0)), (q_3, lonE (ka 3) 31 (fun _ => lN 0)), (q_4, lonE (ka 3) 31 (fun _ => lN 0)), (q_5, intE (ka 4) 252 (fun _ => nI 0))] H := hP
  have hD : va_D (fun z => z = q ∨ s.heap.size ≤ z) [(q, .inr (3, [.int 0, .int 0, .ref q_1, .ref q_2, .ref q_3, .ref q_4, .int 0, .null, .null, .null, .null, .null])), (q_1, lonE (ka 3) 31 (fun _ => lN 0)), (q_2, lonE (ka 3) 31 (fun _ => lN 0)), (q_3, lonE (ka 3) 31 (fun _ => lN 0)), (q_4, lonE (ka 3) 31 (fun _ => lN 0)), (q_5, intE (ka 4) 252 (fun _ => nI 0))] := hD
  refine va_putF (D := D) (cl := vwCl) (ci := 3) (v := .ref q_5) (ty := (.array .int)) (C := RM) (T := TM) (N := 12) hx hb hts inM tyM tyM_ok nmM hown hK hP hD hS 0 rfl rfl 7 (by decide) (hts _ tb_307) (fun _ h9 => h9) rfl hin rfl (by decide +kernel) rfl rfl (Nat.le_of_ble_eq_true rfl) dM_init_42 (fun H locs hP hD hS => ?_)
  have hP : va_P D vwCl [(q, .inr (3, [.int 0, .int 0, .ref q_1, .ref q_2, .ref q_3, .ref q_4, .int 0, .ref q_5, .null, .null, .null, .null])), (q_1, lonE (ka 3) 31 (fun _ => lN 0)), (q_2, lonE (ka 3) 31 (fun _ => lN 0)), (q_3, lonE (ka 3) 31 (fun _ => lN 0)), (q_4, lonE (ka 3) 31 (fun _ => lN 0)), (q_5, intE (ka 4) 252 (fun _ => nI 0))] H := hP
  have hD : va_D (fun z => z = q ∨ s.heap.size ≤ z) [(q, .inr (3, [.int 0, .int 0, .ref q_1, .ref q_2, .ref q_3, .ref q_4, .int 0, .ref q_5, .null, .null, .null, .null])), (q_1, lonE (ka 3) 31 (fun _ => lN 0)), (q_2, lonE (ka 3) 31 (fun _ => lN 0)), (q_3, lonE (ka 3) 31 (fun _ => lN 0)), (q_4, lonE (ka 3) 31 (fun _ => lN 0)), (q_5, intE (ka 4) 252 (fun _ => nI 0))] := hD
  refine lv_aload_n hx hb dM_init_45 rfl (lv_at hl 0 rfl) ?_
  refine lv_sipush (v := nI 252) hx hb dM_init_46 (by decide) ?_
  refine va_newa (cl := vwCl) (atype := .boolean) (N' := 252) (a0 := (252, .inl (fun _ => 0))) hx hb (hts _ tb_90) (ty := .boolean) rfl hK hP hD hS hA (fun _ => rfl) (nI_pos (by decide)) (nI_clamp (by decide)) (by decide) (Nat.le_of_ble_eq_true rfl) (Nat.le_of_ble_eq_true rfl) dM_init_49 (fun q_6 cA H hK2 hP hD hS => ?_)
  obtain rfl : cA = ka 2 := ty_same hK2 hK (i := 5) (j := 2) rfl rfl
  have hP : va_P D vwCl [(q, .inr (3, [.int 0, .int 0, .ref q_1, .ref q_2, .ref q_3, .ref q_4, .int 0, .ref q_5, .null, .null, .null, .null])), (q_1, lonE (ka 3) 31 (fun _ => lN 0)), (q_2, lonE (ka 3) 31 (fun _ => lN 0)), (q_3, lonE (ka 3) 31 (fun _ => lN 0)), (q_4, lonE (ka 3) 31 (fun _ => lN 0)), (q_5, intE (ka 4) 252 (fun _ => nI 0)), (q_6, intE (ka 2) 252 (fun _ => 0))] H := hP
  have hD : va_D (fun z => z = q ∨ s.heap.size ≤ z) [(q, .inr (3, [.int 0, .int 0, .ref q_1, .ref q_2, .ref q_3, .ref q_4, .int 0, .ref q_5, .null, .null, .null, .null])), (q_1, lonE (ka 3) 31 (fun _ => lN 0)), (q_2, lonE (ka 3) 31 (fun _ => lN 0)), (q_3, lonE (ka 3) 31 (fun _ => lN 0)), (q_4, lonE (ka 3) 31 (fun _ => lN 0)), (q_5, intE (ka 4) 252 (fun _ => nI 0)), (q_6, intE (ka 2) 252 (fun _ => 0))] := hD
  refine va_putF (D := D) (cl := vwCl) (ci := 3) (v := .ref q_6) (ty := (.array .boolean)) (C := RM) (T := TM) (N := 12) hx hb hts inM tyM tyM_ok nmM hown hK hP hD hS 0 rfl rfl 8 (by decide) (hts _ tb_308) (fun _ h9 => h9) rfl hin rfl (by decide +kernel) rfl rfl (Nat.le_of_ble_eq_true rfl) dM_init_51 (fun H locs hP hD hS => ?_)
  have hP : va_P D vwCl [(q, .inr (3, [.int 0, .int 0, .ref q_1, .ref q_2, .ref q_3, .ref q_4, .int 0, .ref q_5, .ref q_6, .null, .null, .null])), (q_1, lonE (ka 3) 31 (fun _ => lN 0)), (q_2, lonE (ka 3) 31 (fun _ => lN 0)), (q_3, lonE (ka 3) 31 (fun _ => lN 0)), (q_4, lonE (ka 3) 31 (fun _ => lN 0)), (q_5, intE (ka 4) 252 (fun _ => nI 0)), (q_6, intE (ka 2) 252 (fun _ => 0))] H := hP
  have hD : va_D (fun z => z = q ∨ s.heap.size ≤ z) [(q, .inr (3, [.int 0, .int 0, .ref q_1, .ref q_2, .ref q_3, .ref q_4, .int 0, .ref q_5, .ref q_6, .null, .null, .null])), (q_1, lonE (ka 3) 31 (fun _ => lN 0)), (q_2, lonE (ka 3) 31 (fun _ => lN 0)), (q_3, lonE (ka 3) 31 (fun _ => lN 0)), (q_4, lonE (ka 3) 31 (fun _ => lN 0)), (q_5, intE (ka 4) 252 (fun _ => nI 0)), (q_6, intE (ka 2) 252 (fun _ => 0))] := hD
  refine lv_aload_n hx hb dM_init_54 rfl (lv_at hl 0 rfl) ?_
  refine lv_bipush (v := nI 21) hx hb dM_init_55 (by decide) ?_
  refine va_newa (cl := vwCl) (atype := .int) (N' := 21) (a0 := (21, .inl (fun _ => nI 0))) hx hb (hts _ tb_338) (ty := .int) rfl hK hP hD hS hA (fun _ => rfl) (nI_pos (by decide)) (nI_clamp (by decide)) (by decide) (Nat.le_of_ble_eq_true rfl) (Nat.le_of_ble_eq_true rfl) dM_init_57 (fun q_7 cA H hK2 hP hD hS => ?_)
  obtain rfl : cA = ka 4 := ty_same hK2 hK (i := 5) (j := 4) rfl rfl
  have hP : va_P D vwCl [(q, .inr (3, [.int 0, .int 0, .ref q_1, .ref q_2, .ref q_3, .ref q_4, .int 0, .ref q_5, .ref q_6, .null, .null, .null])), (q_1, lonE (ka 3) 31 (fun _ => lN 0)), (q_2, lonE (ka 3) 31 (fun _ => lN 0)), (q_3, lonE (ka 3) 31 (fun _ => lN 0)), (q_4, lonE (ka 3) 31 (fun _ => lN 0)), (q_5, intE (ka 4) 252 (fun _ => nI 0)), (q_6, intE (ka 2) 252 (fun _ => 0)), (q_7, intE (ka 4) 21 (fun _ => nI 0))] H := hP
  have hD : va_D (fun z => z = q ∨ s.heap.size ≤ z) [(q, .inr (3, [.int 0, .int 0, .ref q_1, .ref q_2, .ref q_3, .ref q_4, .int 0, .ref q_5, .ref q_6, .null, .null, .null])), (q_1, lonE (ka 3) 31 (fun _ => lN 0)), (q_2, lonE (ka 3) 31 (fun _ => lN 0)), (q_3, lonE (ka 3) 31 (fun _ => lN 0)), (q_4, lonE (ka 3) 31 (fun _ => lN 0)), (q_5, intE (ka 4) 252 (fun _ => nI 0)), (q_6, intE (ka 2) 252 (fun _ => 0)), (q_7, intE (ka 4) 21 (fun _ => nI 0))] := hD
  refine va_putF (D := D) (cl := vwCl) (ci := 3) (v := .ref q_7) (ty := (.array .int)) (C := RM) (T := TM) (N := 12) hx hb hts inM tyM tyM_ok nmM hown hK hP hD hS 0 rfl rfl 9 (by decide) (hts _ tb_309) (fun _ h9 => h9) rfl hin rfl (by decide +kernel) rfl rfl (Nat.le_of_ble_eq_true rfl) dM_init_59 (fun H locs hP hD hS => ?_)
  have hP : va_P D vwCl [(q, .inr (3, [.int 0, .int 0, .ref q_1, .ref q_2, .ref q_3, .ref q_4, .int 0, .ref q_5, .ref q_6, .ref q_7, .null, .null])), (q_1, lonE (ka 3) 31 (fun _ => lN 0)), (q_2, lonE (ka 3) 31 (fun _ => lN 0)), (q_3, lonE (ka 3) 31 (fun _ => lN 0)), (q_4, lonE (ka 3) 31 (fun _ => lN 0)), (q_5, intE (ka 4) 252 (fun _ => nI 0)), (q_6, intE (ka 2) 252 (fun _ => 0)), (q_7, intE (ka 4) 21 (fun _ => nI 0))] H := hP
  have hD : va_D (fun z => z = q ∨ s.heap.size ≤ z) [(q, .inr (3, [.int 0, .int 0, .ref q_1, .ref q_2, .ref q_3, .ref q_4, .int 0, .ref q_5, .ref q_6, .ref q_7, .null, .null])), (q_1, lonE (ka 3) 31 (fun _ => lN 0)), (q_2, lonE (ka 3) 31 (fun _ => lN 0)), (q_3, lonE (ka 3) 31 (fun _ => lN 0)), (q_4, lonE (ka 3) 31 (fun _ => lN 0)), (q_5, intE (ka 4) 252 (fun _ => nI 0)), (q_6, intE (ka 2) 252 (fun _ => 0)), (q_7, intE (ka 4) 21 (fun _ => nI 0))] := hD
  refine lv_aload_n hx hb dM_init_62 rfl (lv_at hl 0 rfl) ?_
  refine lv_bipush (v := nI 21) hx hb dM_init_63 (by decide) ?_
  refine va_newa (cl := vwCl) (atype := .boolean) (N' := 21) (a0 := (21, .inl (fun _ => 0))) hx hb (hts _ tb_90) (ty := .boolean) rfl hK hP hD hS hA (fun _ => rfl) (nI_pos (by decide)) (nI_clamp (by decide)) (by decide) (Nat.le_of_ble_eq_true rfl) (Nat.le_of_ble_eq_true rfl) dM_init_65 (fun q_8 cA H hK2 hP hD hS => ?_)
  obtain rfl : cA = ka 2 := ty_same hK2 hK (i := 5) (j := 2) rfl rfl
  have hP : va_P D vwCl [(q, .inr (3, [.int 0, .int 0, .ref q_1, .ref q_2, .ref q_3, .ref q_4, .int 0, .ref q_5, .ref q_6, .ref q_7, .null, .null])), (q_1, lonE (ka 3) 31 (fun _ => lN 0)), (q_2, lonE (ka 3) 31 (fun _ => lN 0)), (q_3, lonE (ka 3) 31 (fun _ => lN 0)), (q_4, lonE (ka 3) 31 (fun _ => lN 0)), (q_5, intE (ka 4) 252 (fun _ => nI 0)), (q_6, intE (ka 2) 252 (fun _ => 0)), (q_7, intE (ka 4) 21 (fun _ => nI 0)), (q_8, intE (ka 2) 21 (fun _ => 0))] H := hP
  have hD : va_D (fun z => z = q ∨ s.heap.size ≤ z) [(q, .inr (3, [.int 0, .int 0, .ref q_1, .ref q_2, .ref q_3, .ref q_4, .int 0, .ref q_5, .ref q_6, .ref q_7, .null, .null])), (q_1, lonE (ka 3) 31 (fun _ => lN 0)), (q_2, lonE (ka 3) 31 (fun _ => lN 0)), (q_3, lonE (ka 3) 31 (fun _ => lN 0)), (q_4, lonE (ka 3) 31 (fun _ => lN 0)), (q_5, intE (ka 4) 252 (fun _ => nI 0)), (q_6, intE (ka 2) 252 (fun _ => 0)), (q_7, intE (ka 4) 21 (fun _ => nI 0)), (q_8, intE (ka 2) 21 (fun _ => 0))] := hD
  refine va_putF (D := D) (cl := vwCl) (ci := 3) (v := .ref q_8) (ty := (.array .boolean)) (C := RM) (T := TM) (N := 12) hx hb hts inM tyM tyM_ok nmM hown hK hP hD hS 0 rfl rfl 10 (by decide) (hts _ tb_310) (fun _ h9 => h9) rfl hin rfl (by decide +kernel) rfl rfl (Nat.le_of_ble_eq_true rfl) dM_init_67 (fun H locs hP hD hS => ?_)
  have hP : va_P D vwCl [(q, .inr (3, [.int 0, .int 0, .ref q_1, .ref q_2, .ref q_3, .ref q_4, .int 0, .ref q_5, .ref q_6, .ref q_7, .ref q_8, .null])), (q_1, lonE (ka 3) 31 (fun _ => lN 0)), (q_2, lonE (ka 3) 31 (fun _ => lN 0)), (q_3, lonE (ka 3) 31 (fun _ => lN 0)), (q_4, lonE (ka 3) 31 (fun _ => lN 0)), (q_5, intE (ka 4) 252 (fun _ => nI 0)), (q_6, intE (ka 2) 252 (fun _ => 0)), (q_7, intE (ka 4) 21 (fun _ => nI 0)), (q_8, intE (ka 2) 21 (fun _ => 0))] H := hP
  have hD : va_D (fun z => z = q ∨ s.heap.size ≤ z) [(q, .inr (3, [.int 0, .int 0, .ref q_1, .ref q_2, .ref q_3, .ref q_4, .int 0, .ref q_5, .ref q_6, .ref q_7, .ref q_8, .null])), (q_1, lonE (ka 3) 31 (fun _ => lN 0)), (q_2, lonE (ka 3) 31 (fun _ => lN 0)), (q_3, lonE (ka 3) 31 (fun _ => lN 0)), (q_4, lonE (ka 3) 31 (fun _ => lN 0)), (q_5, intE (ka 4) 252 (fun _ => nI 0)), (q_6, intE (ka 2) 252 (fun _ => 0)), (q_7, intE (ka 4) 21 (fun _ => nI 0)), (q_8, intE (ka 2) 21 (fun _ => 0))] := hD
  refine lv_aload_n hx hb dM_init_70 rfl (lv_at hl 0 rfl) ?_
  refine lv_bipush (v := nI 21) hx hb dM_init_71 (by decide) ?_
  refine va_newa (cl := vwCl) (atype := .long) (N' := 21) (a0 := (21, .inr (.inl (fun _ => lN 0)))) hx hb (hts _ tb_337) (ty := .long) rfl hK hP hD hS hA (fun _ => rfl) (nI_pos (by decide)) (nI_clamp (by decide)) (by decide) (Nat.le_of_ble_eq_true rfl) (Nat.le_of_ble_eq_true rfl) dM_init_73 (fun q_9 cA H hK2 hP hD hS => ?_)
  obtain rfl : cA = ka 3 := ty_same hK2 hK (i := 5) (j := 3) rfl rfl
  have hP : va_P D vwCl [(q, .inr (3, [.int 0, .int 0, .ref q_1, .ref q_2, .ref q_3, .ref q_4, .int 0, .ref q_5, .ref q_6, .ref q_7, .ref q_8, .null])), (q_1, lonE (ka 3) 31 (fun _ => lN 0)), (q_2, lonE (ka 3) 31 (fun _ => lN 0)), (q_3, lonE (ka 3) 31 (fun _ => lN 0)), (q_4, lonE (ka 3) 31 (fun _ => lN 0)), (q_5, intE (ka 4) 252 (fun _ => nI 0)), (q_6, intE (ka 2) 252 (fun _ => 0)), (q_7, intE (ka 4) 21 (fun _ => nI 0)), (q_8, intE (ka 2) 21 (fun _ => 0)), (q_9, lonE (ka 3) 21 (fun _ => lN 0))] H := hP
  have hD : va_D (fun z => z = q ∨ s.heap.size ≤ z) [(q, .inr (3, [.int 0, .int 0, .ref q_1, .ref q_2, .ref q_3, .ref q_4, .int 0, .ref q_5, .ref q_6, .ref q_7, .ref q_8, .null])), (q_1, lonE (ka 3) 31 (fun _ => lN 0)), (q_2, lonE (ka 3) 31 (fun _ => lN 0)), (q_3, lonE (ka 3) 31 (fun _ => lN 0)), (q_4, lonE (ka 3) 31 (fun _ => lN 0)), (q_5, intE (ka 4) 252 (fun _ => nI 0)), (q_6, intE (ka 2) 252 (fun _ => 0)), (q_7, intE (ka 4) 21 (fun _ => nI 0)), (q_8, intE (ka 2) 21 (fun _ => 0)), (q_9, lonE (ka 3) 21 (fun _ => lN 0))] := hD
  refine va_putF (D := D) (cl := vwCl) (ci := 3) (v := .ref q_9) (ty := (.array .long)) (C := RM) (T := TM) (N := 12) hx hb hts inM tyM tyM_ok nmM hown hK hP hD hS 0 rfl rfl 11 (by decide) (hts _ tb_311) (fun _ h9 => h9) rfl hin rfl (by decide +kernel) rfl rfl (Nat.le_of_ble_eq_true rfl) dM_init_75 (fun H locs hP hD hS => ?_)
  have hP : va_P D vwCl [(q, .inr (3, [.int 0, .int 0, .ref q_1, .ref q_2, .ref q_3, .ref q_4, .int 0, .ref q_5, .ref q_6, .ref q_7, .ref q_8, .ref q_9])), (q_1, lonE (ka 3) 31 (fun _ => lN 0)), (q_2, lonE (ka 3) 31 (fun _ => lN 0)), (q_3, lonE (ka 3) 31 (fun _ => lN 0)), (q_4, lonE (ka 3) 31 (fun _ => lN 0)), (q_5, intE (ka 4) 252 (fun _ => nI 0)), (q_6, intE (ka 2) 252 (fun _ => 0)), (q_7, intE (ka 4) 21 (fun _ => nI 0)), (q_8, intE (ka 2) 21 (fun _ => 0)), (q_9, lonE (ka 3) 21 (fun _ => lN 0))] H := hP
  have hD : va_D (fun z => z = q ∨ s.heap.size ≤ z) [(q, .inr (3, [.int 0, .int 0, .ref q_1, .ref q_2, .ref q_3, .ref q_4, .int 0, .ref q_5, .ref q_6, .ref q_7, .ref q_8, .ref q_9])), (q_1, lonE (ka 3) 31 (fun _ => lN 0)), (q_2, lonE (ka 3) 31 (fun _ => lN 0)), (q_3, lonE (ka 3) 31 (fun _ => lN 0)), (q_4, lonE (ka 3) 31 (fun _ => lN 0)), (q_5, intE (ka 4) 252 (fun _ => nI 0)), (q_6, intE (ka 2) 252 (fun _ => 0)), (q_7, intE (ka 4) 21 (fun _ => nI 0)), (q_8, intE (ka 2) 21 (fun _ => 0)), (q_9, lonE (ka 3) 21 (fun _ => lN 0))] := hD
  have hP : va_P D vwCl (mW ka (fun i => [q, q_1, q_2, q_3, q_4, q_5, q_6, q_7, q_8, q_9].getD i 0) 0 0 0 z0 z0 z0 z0 z0 zF z0 zF (fun _ => 0)) H := hP
  have hD : va_D (fun z => z = q ∨ s.heap.size ≤ z) (mW ka (fun i => [q, q_1, q_2, q_3, q_4, q_5, q_6, q_7, q_8, q_9].getD i 0) 0 0 0 z0 z0 z0 z0 z0 zF z0 zF (fun _ => 0)) := hD
  generalize hu : (fun i => [q, q_1, q_2, q_3, q_4, q_5, q_6, q_7, q_8, q_9].getD i 0) = u at hP hD
  have hk : ∀ i, i < 10 → ∃ e : va_E, (mW ka u 0 0 0 z0 z0 z0 z0 z0 zF z0 zF (fun _ => 0))[i]? = some (u i, e) := fun i hi => by
    rcases (show i = 0 ∨ i = 1 ∨ i = 2 ∨ i = 3 ∨ i = 4 ∨ i = 5 ∨ i = 6 ∨ i = 7 ∨ i = 8 ∨ i = 9 by omega) with rfl | rfl | rfl | rfl | rfl | rfl | rfl | rfl | rfl | rfl <;> exact ⟨_, rfl⟩
  have hw : va_P D vwCl (mW ka u 0 0 0 z0 z0 z0 z0 z0 zF z0 zF (fun _ => 0)) H ∧ u 0 = q ∧ (∀ i j, i < 10 → j < 10 → u i = u j → i = j) ∧ ∀ i, i < 10 → u i = q ∨ s.heap.size ≤ u i := ⟨hP, by rw [← hu]; rfl, fun i j hi hj e => by
    obtain ⟨e1, h1⟩ := hk i hi; obtain ⟨e2, h2⟩ := hk j hj; exact hD.1 i j _ _ h1 h2 e, fun i hi => by
    obtain ⟨e1, h1⟩ := hk i hi; exact hD.2 i _ h1⟩
  exact W.vret hx hb hr (fun t ht hW => ⟨⟨u, rfl, trivial, by (try dsimp only); rw [ht]; exact hw⟩, hS.F ht⟩) hS.2.2 dM_init_78
set_option maxHeartbeats 4000000 in
set_option maxRecDepth 100000 in
theorem k_append (l : Launch) (D : va_G) (ka : Nat → ClassId) (H0 : Heap) (h rw sm n a T R U Dn : Nat) (wi : Int64) (f : Nat → Option Nat) (g : Nat → Int32) (sb : Bool) (h0 : va_at D vwCl (h, chE rw sm n wi) H0) (h1 : va_at D vwCl (rw, refE (ka 0) 12 f) H0) (h2 : va_at D vwCl (sm, intE (ka 2) 12 g) H0) (h3 : va_at D vwCl (a, pcE T R U Dn) H0) (n1 : h ≠ rw) (n2 : h ≠ sm) (n3 : h ≠ a) (n4 : rw ≠ sm) (n5 : rw ≠ a) (n6 : sm ≠ a) (hn : n < 12) : Met l yX0_append (.code yX0_append cX0_append 3 none :: gT) ({ frames := 0, cells := 0, slots := 0, locals := 0 }) (ro_Pc D vwCl (tyL ka) H0 [.ref h, .ref a, .int (bI sb)]) (va_Qv (fun (u : Unit) => True) (fun (u : Unit) t => va_at D vwCl (h, chE rw sm (n + 1) wi) t.heap ∧ va_at D vwCl (rw, refE (ka 0) 12 (va_up f n (some a))) t.heap ∧ va_at D vwCl (sm, intE (ka 2) 12 (upd g n (bI sb))) t.heap ∧ va_at D vwCl (a, pcE T R U Dn) t.heap) (fun z => z = h ∨ z = rw ∨ z = sm ∨ z = a)) 0 0 (fun z => z = h ∨ z = rw ∨ z = sm ∨ z = a) := by
  refine Met.ofW (cc := cX0_append) (maxL := 3) (ret := none) (by decide) rfl ?_
  intro p e s m args below meth c s₁ B hml hv
  obtain ⟨rfl, hH, hK, hN⟩ := hv
  subst hH
  have hx := B.exec
  have hb := B.bytes
  have hr := B.returns
  have hts : ∀ w ∈ gT, w.before ([.ref h, .ref a, .int (bI sb)] : List Value).toArray s = true := fun w h => atoms_spec (ws := (.code yX0_append cX0_append 3 none :: gT)) B.pre w (List.mem_cons_of_mem _ h)
  have hown : s.vm.findClass RX0 = some m.cls := findClass_of_methodNamed B.named
  have hlocks := B.notSynchronized
  have hl := lv_entry ([.ref h, .ref a, .int (bI sb)]) (n := 3) (Nat.le_of_ble_eq_true rfl)
  rw [lg_entry_eq]
  generalize (lg_sl ([.ref h, .ref a, .int (bI sb)]) ++ List.replicate (3 - (lg_sl ([.ref h, .ref a, .int (bI sb)])).length) Slot.unset).toArray = ls at hl ⊢
  have hl : lv_has ls 3 [(0, .ref h), (1, .ref a), (2, .int (bI sb))] := hl
  have hP : va_P D vwCl [(h, .inr (0, [.ref rw, .ref sm, .int (nI n), .long wi])), (rw, refE (ka 0) 12 f), (sm, intE (ka 2) 12 g), (a, .inr (1, [.long (lN T), .long (lN R), .long (lN U), .long (lN Dn)]))] s.heap := va_P_cons h0 (va_P_cons h1 (va_P_cons h2 (va_P_cons h3 va_P_nil)))
  have hD : va_D (fun z => z = h ∨ z = rw ∨ z = sm ∨ z = a) [(h, .inr (0, [.ref rw, .ref sm, .int (nI n), .long wi])), (rw, refE (ka 0) 12 f), (sm, intE (ka 2) 12 g), (a, .inr (1, [.long (lN T), .long (lN R), .long (lN U), .long (lN Dn)]))] := va_D_of (by simp [n1, n2, n3, n4, n5, n6]) (by simp)
  have hS : va_S (fun z => z = h ∨ z = rw ∨ z = sm ∨ z = a) s.heap s.heap [] := va_S.rf
  skip
  refine lv_aload_n hx hb dX0_append_0 rfl (lv_at hl 0 rfl) ?_
  refine g_get (cl := vwCl) (ci := 0) (v := .int (nI n)) hx hb hts inX0 hown hK (hP.nth 0 rfl) rfl 2 (by decide) (hts _ tb_77) rfl dX0_append_1 ?_
  refine lv_bipush (v := nI 12) hx hb dX0_append_4 (by decide) ?_
  refine n_icmp_ge (tgt := 39) hx hb (by omega) (by omega) dX0_append_6 (by decide) (fun hc => ?_) (fun hc => ?_)
  · exact absurd hc (by omega)
  · refine lv_aload_n hx hb dX0_append_9 rfl (lv_at hl 0 rfl) ?_
    refine g_get (cl := vwCl) (ci := 0) (v := .ref rw) hx hb hts inX0 hown hK (hP.nth 0 rfl) rfl 0 (by decide) (hts _ tb_75) rfl dX0_append_10 ?_
    refine lv_aload_n hx hb dX0_append_13 rfl (lv_at hl 0 rfl) ?_
    refine g_get (cl := vwCl) (ci := 0) (v := .int (nI n)) hx hb hts inX0 hown hK (hP.nth 0 rfl) rfl 2 (by decide) (hts _ tb_77) rfl dX0_append_14 ?_
    refine lv_aload_n hx hb dX0_append_17 rfl (lv_at hl 1 rfl) ?_
    refine g_astq (r := (RX1, TX1, 4)) (f2 := va_up f n (some a)) hx hb hK hP hD hS 1 0 3 1 rfl rfl rfl rfl hn (by decide) rfl dX0_append_18 (fun H locs hP hD hS => ?_)
    have hP : va_P D vwCl [(h, .inr (0, [.ref rw, .ref sm, .int (nI n), .long wi])), (rw, refE (ka 0) 12 (va_up f n (some a))), (sm, intE (ka 2) 12 g), (a, .inr (1, [.long (lN T), .long (lN R), .long (lN U), .long (lN Dn)]))] H := hP
    have hD : va_D (fun z => z = h ∨ z = rw ∨ z = sm ∨ z = a) [(h, .inr (0, [.ref rw, .ref sm, .int (nI n), .long wi])), (rw, refE (ka 0) 12 (va_up f n (some a))), (sm, intE (ka 2) 12 g), (a, .inr (1, [.long (lN T), .long (lN R), .long (lN U), .long (lN Dn)]))] := hD
    refine lv_aload_n hx hb dX0_append_19 rfl (lv_at hl 0 rfl) ?_
    refine g_get (cl := vwCl) (ci := 0) (v := .ref sm) hx hb hts inX0 hown hK (hP.nth 0 rfl) rfl 1 (by decide) (hts _ tb_76) rfl dX0_append_20 ?_
    refine lv_aload_n hx hb dX0_append_23 rfl (lv_at hl 0 rfl) ?_
    refine g_get (cl := vwCl) (ci := 0) (v := .int (nI n)) hx hb hts inX0 hown hK (hP.nth 0 rfl) rfl 2 (by decide) (hts _ tb_77) rfl dX0_append_24 ?_
    refine lv_iload_n hx hb dX0_append_27 rfl (lv_at hl 2 rfl) ?_
    refine g_zast (f2 := upd g n (bI sb)) hx hb hK hP hD hS 2 2 rfl rfl hn (by decide) (by rw [bI_nar]) dX0_append_28 (fun H locs hP hD hS => ?_)
    have hP : va_P D vwCl [(h, .inr (0, [.ref rw, .ref sm, .int (nI n), .long wi])), (rw, refE (ka 0) 12 (va_up f n (some a))), (sm, intE (ka 2) 12 (upd g n (bI sb))), (a, .inr (1, [.long (lN T), .long (lN R), .long (lN U), .long (lN Dn)]))] H := hP
    have hD : va_D (fun z => z = h ∨ z = rw ∨ z = sm ∨ z = a) [(h, .inr (0, [.ref rw, .ref sm, .int (nI n), .long wi])), (rw, refE (ka 0) 12 (va_up f n (some a))), (sm, intE (ka 2) 12 (upd g n (bI sb))), (a, .inr (1, [.long (lN T), .long (lN R), .long (lN U), .long (lN Dn)]))] := hD
    refine lv_aload_n hx hb dX0_append_29 rfl (lv_at hl 0 rfl) ?_
    refine lv_dup hx hb dX0_append_30 rfl ?_
    refine g_get (cl := vwCl) (ci := 0) (v := .int (nI n)) hx hb hts inX0 hown hK (hP.nth 0 rfl) rfl 2 (by decide) (hts _ tb_77) rfl dX0_append_31 ?_
    refine lv_iconst (v := nI 1) hx hb dX0_append_34 (by decide) ?_
    refine n_iadd hx hb dX0_append_35 ?_
    refine va_put (D := D) (cl := vwCl) (ci := 0) (v := .int (nI (n + 1))) (ty := .int) (C := RX0) (T := TX0) (N := 4) hx hb hts inX0 tyX0 tyX0_ok nmX0 hown hK hP hD hS 0 rfl rfl 2 (by decide) (hts _ tb_77) (fun _ h9 => h9) rfl (by decide +kernel) rfl rfl (Nat.le_of_ble_eq_true rfl) dX0_append_36 (fun H locs hP hD hS => ?_)
    have hP : va_P D vwCl [(h, .inr (0, [.ref rw, .ref sm, .int (nI (n + 1)), .long wi])), (rw, refE (ka 0) 12 (va_up f n (some a))), (sm, intE (ka 2) 12 (upd g n (bI sb))), (a, .inr (1, [.long (lN T), .long (lN R), .long (lN U), .long (lN Dn)]))] H := hP
    have hD : va_D (fun z => z = h ∨ z = rw ∨ z = sm ∨ z = a) [(h, .inr (0, [.ref rw, .ref sm, .int (nI (n + 1)), .long wi])), (rw, refE (ka 0) 12 (va_up f n (some a))), (sm, intE (ka 2) 12 (upd g n (bI sb))), (a, .inr (1, [.long (lN T), .long (lN R), .long (lN U), .long (lN Dn)]))] := hD
    have hw : va_at D vwCl (h, chE rw sm (n + 1) wi) H ∧ va_at D vwCl (rw, refE (ka 0) 12 (va_up f n (some a))) H ∧ va_at D vwCl (sm, intE (ka 2) 12 (upd g n (bI sb))) H ∧ va_at D vwCl (a, pcE T R U Dn) H := ⟨hP.nth 0 rfl, hP.nth 1 rfl, hP.nth 2 rfl, hP.nth 3 rfl⟩
    exact W.vret hx hb hr (fun t ht hW => ⟨⟨(), rfl, trivial, by (try dsimp only); rw [ht]; exact hw⟩, hS.F ht⟩) hS.2.2 dX0_append_39
end
section
set_option maxHeartbeats 4000000 in
set_option maxRecDepth 100000 in
theorem x_clock (l : Launch) (D : va_G) (ka : Nat → ClassId) (H0 : Heap) (ad : Nat → Nat → Nat) (np nc : Nat) (pe an up dn rw : Nat → Nat) (so : Nat → Bool) (mn : Nat → Nat) (wd : Nat → Bool) (wv : Nat → Int64) (x : Int32) (uu dd : Int64) (hX : XInv D ka ad np nc pe an up dn rw so mn wd wv H0) (hO : mOk np nc pe an up dn rw so mn wd wv) : Met l yX2_clock (.code yX2_clock cX2_clock 7 (some .int) :: gT) ({ frames := 2, cells := 0, slots := 0, locals := 43 }) (ro_Pc D vwCl (tyL ka) H0 [.ref (ad 0 0), .int x, .long uu, .long dd]) (va_Qi (fun (r : Int32) (u : MSt × (Nat → Nat → Nat)) => (u.1, r) = opClock np nc pe an up dn rw so mn wd wv x uu dd) (fun (u : MSt × (Nat → Nat → Nat)) t => XIs D ka u.2 u.1 t.heap ∧ xFr ad np nc H0.size u) (fun z => (1 ≤ x.toInt.toNat ∧ x.toInt.toNat ≤ np) ∧ z = ad 3 x.toInt.toNat)) 0 0 (fun z => (1 ≤ x.toInt.toNat ∧ x.toInt.toNat ≤ np) ∧ z = ad 3 x.toInt.toNat) := by
  refine Met.ofW (cc := cX2_clock) (maxL := 7) (ret := (some .int)) (by decide) rfl ?_
  intro p e s m args below meth c s₁ B hml hv
  obtain ⟨rfl, hH, hK, hN⟩ := hv
  subst hH
  have hx := B.exec
  have hb := B.bytes
  have hr := B.returns
  have hts : ∀ w ∈ gT, w.before ([.ref (ad 0 0), .int x, .long uu, .long dd] : List Value).toArray s = true := fun w h => atoms_spec (ws := (.code yX2_clock cX2_clock 7 (some .int) :: gT)) B.pre w (List.mem_cons_of_mem _ h)
  have hown : s.vm.findClass RX2 = some m.cls := findClass_of_methodNamed B.named
  have hlocks := B.notSynchronized
  have hl := lv_entry ([.ref (ad 0 0), .int x, .long uu, .long dd]) (n := 7) (Nat.le_of_ble_eq_true rfl)
  rw [lg_entry_eq]
  generalize (lg_sl ([.ref (ad 0 0), .int x, .long uu, .long dd]) ++ List.replicate (7 - (lg_sl ([.ref (ad 0 0), .int x, .long uu, .long dd])).length) Slot.unset).toArray = ls at hl ⊢
  have hl : lv_has ls 7 [(0, .ref (ad 0 0)), (1, .int x), (2, .long uu), (4, .long dd)] := hl
  have hnp := hO.1
  have hnc := hO.2.1
  have hS : va_S (fun z => (1 ≤ x.toInt.toNat ∧ x.toInt.toNat ≤ np) ∧ z = ad 3 x.toInt.toNat) s.heap s.heap [] := va_S.rf
  have z0 : (lN 0).toInt = 0 := by decide +kernel
  have z1 : (lN 1).toInt = 1 := by decide +kernel
  have zb : (lN 1000000).toInt = 1000000 := by decide +kernel
  refine lv_aload_n hx hb dX2_clock_0 rfl (lv_at hl 0 rfl) ?_
  refine lv_iload_n hx hb dX2_clock_1 rfl (lv_at hl 1 rfl) ?_
  refine va_csq (va_Run.run (va_runV (As := [.int x]) (rest := []) ⟨hx, hb, hml, hown, hts⟩ (x_pieceNumbered l D ka s.heap ad np nc pe an up dn rw so mn wd wv x hX hO) (cw_V 1 hts tb_102 rfl rfl tb_99 tb_1 tb_101 ts_1 (by decide +kernel) ⟨Nat.le_of_ble_eq_true rfl, Nat.le_of_ble_eq_true rfl⟩) (ro_V (ci := 2) hK hN hX.o rfl) rfl rfl hl.1 rfl (lv_room (Nat.le_of_ble_eq_true rfl)) dX2_clock_2 ⟨Nat.zero_le _, Nat.zero_le _⟩)) (fun r er => ?_)
  subst er
  by_cases q1 : cNo x np = true
  · rw [if_pos q1, show va_rf none = Value.null from rfl]
    refine lv_astoreN (lv' := [(6, .null), (0, .ref (ad 0 0)), (1, .int x), (2, .long uu), (4, .long dd)]) hx hb dX2_clock_5 hl (by decide) rfl (fun ls hl => ?_)
    refine lv_aloadN hx hb dX2_clock_7 (lv_at hl 0 rfl) ?_
    refine lv_ifnonnullN hx hb dX2_clock_9 ?_
    refine lv_iconst (v := (-1)) hx hb dX2_clock_12 (by decide) ?_
    exact W.iret (v := (-1)) hx hb hr (fun t ht hW => ⟨⟨_, (mkM np nc pe an up dn rw so mn wd wv, ad), rfl, by rw [opClock, if_pos q1], by (try dsimp only); rw [ht]; exact ⟨hX, xFr_same⟩⟩, hS.F ht⟩) hS.2.2 dX2_clock_13
  · rw [if_neg q1, show va_rf (some (ad 3 x.toInt.toNat)) = Value.ref (ad 3 x.toInt.toNat) from rfl]
    have q0 : cNo x np = false := by simpa using q1
    obtain ⟨ex, h1, h2⟩ := cNo_nI q0
    have hpb := hO.2.2.1 x.toInt.toNat h1 h2
    refine lv_astore (lv' := [(6, .ref (ad 3 x.toInt.toNat)), (0, .ref (ad 0 0)), (1, .int x), (2, .long uu), (4, .long dd)]) hx hb dX2_clock_5 hl (by decide) rfl (fun ls hl => ?_)
    refine lv_aload hx hb dX2_clock_7 (lv_at hl 0 rfl) ?_
    refine lv_ifnonnull (tgt := 14) hx hb dX2_clock_9 (by decide) ?_
    refine lv_lload hx hb dX2_clock_14 (lv_at hl 4 rfl) ?_
    refine lv_lconst (v := lN 1) hx hb dX2_clock_16 rfl ?_
    refine r_lcmp_lt (tgt := 43) hx hb dX2_clock_17 dX2_clock_18 (by decide) (fun q2 => ?_) (fun q2 => ?_)
    · refine lv_bipush (v := (-2)) hx hb dX2_clock_43 (by decide) ?_
      exact W.iret (v := (-2)) hx hb hr (fun t ht hW => ⟨⟨_, (mkM np nc pe an up dn rw so mn wd wv, ad), rfl, by rw [opClock, if_neg q1, if_pos (by omega)], by (try dsimp only); rw [ht]; exact ⟨hX, xFr_same⟩⟩, hS.F ht⟩) hS.2.2 dX2_clock_45
    · refine lv_lload hx hb dX2_clock_21 (lv_at hl 4 rfl) ?_
      refine lv_ldc2 (v := lN 1000000) hx hb hown (hts _ tb_152) dX2_clock_23 ?_
      refine r_lcmp_gt (tgt := 43) hx hb dX2_clock_26 dX2_clock_27 (by decide) (fun q3 => ?_) (fun q3 => ?_)
      · refine lv_bipush (v := (-2)) hx hb dX2_clock_43 (by decide) ?_
        exact W.iret (v := (-2)) hx hb hr (fun t ht hW => ⟨⟨_, (mkM np nc pe an up dn rw so mn wd wv, ad), rfl, by rw [opClock, if_neg q1, if_pos (by omega)], by (try dsimp only); rw [ht]; exact ⟨hX, xFr_same⟩⟩, hS.F ht⟩) hS.2.2 dX2_clock_45
      · refine lv_lload_n hx hb dX2_clock_30 rfl (lv_at hl 3 rfl) ?_
        refine lv_lconst (v := lN 0) hx hb dX2_clock_31 rfl ?_
        refine r_lcmp_lt (tgt := 43) hx hb dX2_clock_32 dX2_clock_33 (by decide) (fun q4 => ?_) (fun q4 => ?_)
        · refine lv_bipush (v := (-2)) hx hb dX2_clock_43 (by decide) ?_
          exact W.iret (v := (-2)) hx hb hr (fun t ht hW => ⟨⟨_, (mkM np nc pe an up dn rw so mn wd wv, ad), rfl, by rw [opClock, if_neg q1, if_pos (by omega)], by (try dsimp only); rw [ht]; exact ⟨hX, xFr_same⟩⟩, hS.F ht⟩) hS.2.2 dX2_clock_45
        · refine lv_lload_n hx hb dX2_clock_36 rfl (lv_at hl 3 rfl) ?_
          refine lv_lload hx hb dX2_clock_37 (lv_at hl 4 rfl) ?_
          refine r_lcmp_lt (tgt := 46) hx hb dX2_clock_39 dX2_clock_40 (by decide) (fun q5 => ?_) (fun q5 => ?_)
          · obtain ⟨ed, hd9⟩ := lon_of (x := dd) (n := 1000000) (by omega) (by omega)
            obtain ⟨eu2, hu9⟩ := lon_of (x := uu) (n := 1000000) (by omega) (by omega)
            rw [ed, eu2] at hl
            have hok : ¬ (dd.toInt < 1 ∨ 1000000 < dd.toInt ∨ uu.toInt < 0 ∨ dd.toInt ≤ uu.toInt) := by omega
            have hP : va_P D vwCl [(ad 3 x.toInt.toNat, .inr (1, [.long (lN (pe x.toInt.toNat)), .long (lN (an x.toInt.toNat)), .long (lN (up x.toInt.toNat)), .long (lN (dn x.toInt.toNat))]))] s.heap := va_one (hX.pc h1 h2)
            have hD : va_D (fun z => (1 ≤ x.toInt.toNat ∧ x.toInt.toNat ≤ np) ∧ z = ad 3 x.toInt.toNat) [(ad 3 x.toInt.toNat, .inr (1, [.long (lN (pe x.toInt.toNat)), .long (lN (an x.toInt.toNat)), .long (lN (up x.toInt.toNat)), .long (lN (dn x.toInt.toNat))]))] := va_D_of (by simp) (by intro q hq; rw [List.mem_singleton.mp hq]; exact ⟨⟨h1, h2⟩, rfl⟩)
            refine lv_aload hx hb dX2_clock_46 (lv_at hl 0 rfl) ?_
            refine lv_lload_n hx hb dX2_clock_48 rfl (lv_at hl 3 rfl) ?_
            refine va_putN (D := D) (cl := vwCl) (ci := 1) (v := .long (lN (uu.toInt.toNat))) (ty := .long) (C := RX1) (T := TX1) (N := 4) hx hb hts inX1 tyX1 tyX1_ok nmX1 hown hK hP hD hS 0 rfl rfl 2 (by decide) (va_Nw.use rfl (hN _ tn_51 rfl)) (fun _ h9 => h9) rfl (by decide +kernel) rfl rfl (Nat.le_of_ble_eq_true rfl) dX2_clock_49 (fun H locs hP hD hS => ?_)
            have hP : va_P D vwCl [(ad 3 x.toInt.toNat, .inr (1, [.long (lN (pe x.toInt.toNat)), .long (lN (an x.toInt.toNat)), .long (lN (uu.toInt.toNat)), .long (lN (dn x.toInt.toNat))]))] H := hP
            have hD : va_D (fun z => (1 ≤ x.toInt.toNat ∧ x.toInt.toNat ≤ np) ∧ z = ad 3 x.toInt.toNat) [(ad 3 x.toInt.toNat, .inr (1, [.long (lN (pe x.toInt.toNat)), .long (lN (an x.toInt.toNat)), .long (lN (uu.toInt.toNat)), .long (lN (dn x.toInt.toNat))]))] := hD
            refine lv_aload hx hb dX2_clock_52 (lv_at hl 0 rfl) ?_
            refine lv_lload hx hb dX2_clock_54 (lv_at hl 4 rfl) ?_
            refine va_putN (D := D) (cl := vwCl) (ci := 1) (v := .long (lN (dd.toInt.toNat))) (ty := .long) (C := RX1) (T := TX1) (N := 4) hx hb hts inX1 tyX1 tyX1_ok nmX1 hown hK hP hD hS 0 rfl rfl 3 (by decide) (va_Nw.use rfl (hN _ tn_54 rfl)) (fun _ h9 => h9) rfl (by decide +kernel) rfl rfl (Nat.le_of_ble_eq_true rfl) dX2_clock_56 (fun H locs hP hD hS => ?_)
            have hP : va_P D vwCl [(ad 3 x.toInt.toNat, .inr (1, [.long (lN (pe x.toInt.toNat)), .long (lN (an x.toInt.toNat)), .long (lN (uu.toInt.toNat)), .long (lN (dd.toInt.toNat))]))] H := hP
            have hD : va_D (fun z => (1 ≤ x.toInt.toNat ∧ x.toInt.toNat ≤ np) ∧ z = ad 3 x.toInt.toNat) [(ad 3 x.toInt.toNat, .inr (1, [.long (lN (pe x.toInt.toNat)), .long (lN (an x.toInt.toNat)), .long (lN (uu.toInt.toNat)), .long (lN (dd.toInt.toNat))]))] := hD
            refine lv_aload hx hb dX2_clock_59 (lv_at hl 0 rfl) ?_
            have hX2 := hX.clock (H1 := H) h1 h2 (fun q hq hn => hS.2.1 q hq (fun e => hn e.2)) hP.fst
            refine vp_callSl (va_Run.run (va_runVN (As := []) (rest := []) ⟨hx, hb, hml, hown, hts⟩ (c_longPeriod l D ka H (ad 3 x.toInt.toNat) (pe x.toInt.toNat) (an x.toInt.toNat) uu.toInt.toNat dd.toInt.toNat hP.fst hpb.1 (by omega) (by omega)) (cw_VN 0 hts tb_127 rfl rfl (hN _ tn_153 rfl) tb_3 tb_126 ts_6 (by decide +kernel) ⟨Nat.le_of_ble_eq_true rfl, Nat.le_of_ble_eq_true rfl⟩) (ro_V (ci := 1) hK hN (hP.nth 0 rfl) rfl) rfl rfl hl.1 rfl (lv_room (Nat.le_of_ble_eq_true rfl)) dX2_clock_61 ⟨Nat.zero_le _, Nat.zero_le _⟩)) (fun r er => ?_)
            subst er
            refine n_l2i hx hb dX2_clock_64 ?_
            exact W.iret (v := nI (lgP (pe x.toInt.toNat) uu.toInt.toNat dd.toInt.toNat)) hx hb hr (fun t ht hW => ⟨⟨_, (mkM np nc pe an (va_up up x.toInt.toNat uu.toInt.toNat) (va_up dn x.toInt.toNat dd.toInt.toNat) rw so mn wd wv, ad), rfl, by rw [opClock, if_neg q1, if_neg hok], by (try dsimp only); rw [ht]; exact ⟨hX2, xFr_same⟩⟩, hS.F ht⟩) hS.2.2 dX2_clock_65
          · refine lv_bipush (v := (-2)) hx hb dX2_clock_43 (by decide) ?_
            exact W.iret (v := (-2)) hx hb hr (fun t ht hW => ⟨⟨_, (mkM np nc pe an up dn rw so mn wd wv, ad), rfl, by rw [opClock, if_neg q1, if_pos (by omega)], by (try dsimp only); rw [ht]; exact ⟨hX, xFr_same⟩⟩, hS.F ht⟩) hS.2.2 dX2_clock_45
set_option maxHeartbeats 4000000 in
set_option maxRecDepth 100000 in
theorem x_wish (l : Launch) (D : va_G) (ka : Nat → ClassId) (H0 : Heap) (ad : Nat → Nat → Nat) (np nc : Nat) (pe an up dn rw : Nat → Nat) (so : Nat → Bool) (mn : Nat → Nat) (wd : Nat → Bool) (wv : Nat → Int64) (x : Int32) (mi : Int64) (hX : XInv D ka ad np nc pe an up dn rw so mn wd wv H0) (hO : mOk np nc pe an up dn rw so mn wd wv) : Met l yX2_wish (.code yX2_wish cX2_wish 5 (some .int) :: gT) ({ frames := 5, cells := 0, slots := 0, locals := 107 }) (ro_Pc D vwCl (tyL ka) H0 [.ref (ad 0 0), .int x, .long mi]) (va_Qi (fun (r : Int32) (u : MSt × (Nat → Nat → Nat)) => (u.1, r) = opWish np nc pe an up dn rw so mn wd wv x mi) (fun (u : MSt × (Nat → Nat → Nat)) t => XIs D ka u.2 u.1 t.heap ∧ xFr ad np nc H0.size u) (fun z => (1 ≤ x.toInt.toNat ∧ x.toInt.toNat ≤ nc) ∧ z = ad 4 x.toInt.toNat)) 0 0 (fun z => (1 ≤ x.toInt.toNat ∧ x.toInt.toNat ≤ nc) ∧ z = ad 4 x.toInt.toNat) := by
  refine Met.ofW (cc := cX2_wish) (maxL := 5) (ret := (some .int)) (by decide) rfl ?_
  intro p e s m args below meth c s₁ B hml hv
  obtain ⟨rfl, hH, hK, hN⟩ := hv
  subst hH
  have hx := B.exec
  have hb := B.bytes
  have hr := B.returns
  have hts : ∀ w ∈ gT, w.before ([.ref (ad 0 0), .int x, .long mi] : List Value).toArray s = true := fun w h => atoms_spec (ws := (.code yX2_wish cX2_wish 5 (some .int) :: gT)) B.pre w (List.mem_cons_of_mem _ h)
  have hown : s.vm.findClass RX2 = some m.cls := findClass_of_methodNamed B.named
  have hlocks := B.notSynchronized
  have hl := lv_entry ([.ref (ad 0 0), .int x, .long mi]) (n := 5) (Nat.le_of_ble_eq_true rfl)
  rw [lg_entry_eq]
  generalize (lg_sl ([.ref (ad 0 0), .int x, .long mi]) ++ List.replicate (5 - (lg_sl ([.ref (ad 0 0), .int x, .long mi])).length) Slot.unset).toArray = ls at hl ⊢
  have hl : lv_has ls 5 [(0, .ref (ad 0 0)), (1, .int x), (2, .long mi)] := hl
  have hnp := hO.1
  have hnc := hO.2.1
  have hS : va_S (fun z => (1 ≤ x.toInt.toNat ∧ x.toInt.toNat ≤ nc) ∧ z = ad 4 x.toInt.toNat) s.heap s.heap [] := va_S.rf
  have z0 : (lN 0).toInt = 0 := by decide +kernel
  have zm : ((-1 : Int64)).toInt = -1 := by decide +kernel
  refine lv_aload_n hx hb dX2_wish_0 rfl (lv_at hl 0 rfl) ?_
  refine lv_iload_n hx hb dX2_wish_1 rfl (lv_at hl 1 rfl) ?_
  refine va_csq (va_Run.run (va_runV (As := [.int x]) (rest := []) ⟨hx, hb, hml, hown, hts⟩ (x_filledChain l D ka s.heap ad np nc pe an up dn rw so mn wd wv x hX hO) (cw_V 1 hts tb_118 rfl rfl tb_115 tb_1 tb_117 ts_4 (by decide +kernel) ⟨Nat.le_of_ble_eq_true rfl, Nat.le_of_ble_eq_true rfl⟩) (ro_V (ci := 2) hK hN hX.o rfl) rfl rfl hl.1 rfl (lv_room (Nat.le_of_ble_eq_true rfl)) dX2_wish_2 ⟨Nat.zero_le _, Nat.zero_le _⟩)) (fun r er => ?_)
  subst er
  by_cases q1 : spEmp nc mn x = true
  · rw [if_pos q1, show va_rf none = Value.null from rfl]
    refine lv_astoreN (lv' := [(4, .null), (0, .ref (ad 0 0)), (1, .int x), (2, .long mi)]) hx hb dX2_wish_5 hl (by decide) rfl (fun ls hl => ?_)
    refine lv_aloadN hx hb dX2_wish_7 (lv_at hl 0 rfl) ?_
    refine lv_ifnonnullN hx hb dX2_wish_9 ?_
    refine lv_iconst (v := (-1)) hx hb dX2_wish_12 (by decide) ?_
    exact W.iret (v := (-1)) hx hb hr (fun t ht hW => ⟨⟨_, (mkM np nc pe an up dn rw so mn wd wv, ad), rfl, by rw [opWish, if_pos q1], by (try dsimp only); rw [ht]; exact ⟨hX, xFr_same⟩⟩, hS.F ht⟩) hS.2.2 dX2_wish_13
  · rw [if_neg q1, show va_rf (some (ad 4 x.toInt.toNat)) = Value.ref (ad 4 x.toInt.toNat) from rfl]
    have q2 : spEmp nc mn x = false := by simpa using q1
    obtain ⟨ex, h1, h2, hn0⟩ := spEmp_f q2
    have hCh := hX.ch hO h1 h2
    have hmn := (hO.2.2.2.1 x.toInt.toNat h1 h2).1
    refine lv_astore (lv' := [(4, .ref (ad 4 x.toInt.toNat)), (0, .ref (ad 0 0)), (1, .int x), (2, .long mi)]) hx hb dX2_wish_5 hl (by decide) rfl (fun ls hl => ?_)
    refine lv_aload hx hb dX2_wish_7 (lv_at hl 0 rfl) ?_
    refine lv_ifnonnull (tgt := 14) hx hb dX2_wish_9 (by decide) ?_
    refine lv_lload_n hx hb dX2_wish_14 rfl (lv_at hl 3 rfl) ?_
    refine lv_lconst (v := lN 0) hx hb dX2_wish_15 rfl ?_
    refine r_lcmp_ge (tgt := 23) hx hb dX2_wish_16 dX2_wish_17 (by decide) (fun q4 => ?_) (fun q4 => ?_)
    · have hP : va_P D vwCl [(ad 4 x.toInt.toNat, .inr (0, [.ref (ad 5 x.toInt.toNat), .ref (ad 6 x.toInt.toNat), .int (nI (mn x.toInt.toNat)), .long (wiN wd wv x.toInt.toNat)]))] s.heap := va_one hCh.1
      have hD : va_D (fun z => (1 ≤ x.toInt.toNat ∧ x.toInt.toNat ≤ nc) ∧ z = ad 4 x.toInt.toNat) [(ad 4 x.toInt.toNat, .inr (0, [.ref (ad 5 x.toInt.toNat), .ref (ad 6 x.toInt.toNat), .int (nI (mn x.toInt.toNat)), .long (wiN wd wv x.toInt.toNat)]))] := va_D_of (by simp) (by intro q hq; rw [List.mem_singleton.mp hq]; exact ⟨⟨h1, h2⟩, rfl⟩)
      refine lv_aload hx hb dX2_wish_23 (lv_at hl 0 rfl) ?_
      refine lv_lload_n hx hb dX2_wish_25 rfl (lv_at hl 3 rfl) ?_
      refine va_putN (D := D) (cl := vwCl) (ci := 0) (v := .long mi) (ty := .long) (C := RX0) (T := TX0) (N := 4) hx hb hts inX0 tyX0 tyX0_ok nmX0 hown hK hP hD hS 0 rfl rfl 3 (by decide) (va_Nw.use rfl (hN _ tn_80 rfl)) (fun _ h9 => h9) rfl (by decide +kernel) rfl rfl (Nat.le_of_ble_eq_true rfl) dX2_wish_26 (fun H locs hP hD hS => ?_)
      have hP : va_P D vwCl [(ad 4 x.toInt.toNat, .inr (0, [.ref (ad 5 x.toInt.toNat), .ref (ad 6 x.toInt.toNat), .int (nI (mn x.toInt.toNat)), .long mi]))] H := hP
      have hD : va_D (fun z => (1 ≤ x.toInt.toNat ∧ x.toInt.toNat ≤ nc) ∧ z = ad 4 x.toInt.toNat) [(ad 4 x.toInt.toNat, .inr (0, [.ref (ad 5 x.toInt.toNat), .ref (ad 6 x.toInt.toNat), .int (nI (mn x.toInt.toNat)), .long mi]))] := hD
      refine lv_aload hx hb dX2_wish_29 (lv_at hl 0 rfl) ?_
      have hX2 := hX.wish (H1 := H) h1 h2 (fun q hq hn => hS.2.1 q hq (fun e => hn e.2)) hP.fst
      have hO2 := mOk_wish (mi := mi) hO h2 (by omega)
      have hCh2 := hX2.ch hO2 h1 h2
      have ewi : wiN (va_up wd x.toInt.toNat true) (va_up wv x.toInt.toNat mi) x.toInt.toNat = mi := by unfold wiN; rw [va_up_self, va_up_self, if_pos rfl]
      rw [ewi] at hCh2
      refine vp_callSi (va_Run.run (va_runVN (As := []) (rest := []) ⟨hx, hb, hml, hown, hts⟩ (c_keepsWish l D ka H (ad 4 x.toInt.toNat) (ad 5 x.toInt.toNat) (ad 6 x.toInt.toNat) (mn x.toInt.toNat) mi (fun k => ad 3 (rw (12 * x.toInt.toNat + k))) (qS so x.toInt.toNat) (qF pe rw x.toInt.toNat) (qF an rw x.toInt.toNat) (qF up rw x.toInt.toNat) (qF dn rw x.toInt.toNat) hCh2) (cw_VN 0 hts tb_161 rfl rfl (hN _ tn_158 rfl) tb_4 tb_160 ts_10 (by decide +kernel) ⟨Nat.le_of_ble_eq_true rfl, Nat.le_of_ble_eq_true rfl⟩) (ro_V (ci := 0) hK hN (hP.nth 0 rfl) rfl) rfl rfl hl.1 rfl (lv_room (Nat.le_of_ble_eq_true rfl)) dX2_wish_31 ⟨Nat.zero_le _, Nat.zero_le _⟩)) (fun r er => ?_)
      subst er
      have ekp : kpN mi (rea pe an up dn rw so mn x.toInt.toNat) = decide ((lN (rea pe an up dn rw so mn x.toInt.toNat)).toInt ≤ mi.toInt) := by unfold kpN; rw [decide_eq_false (by omega : ¬ mi.toInt = (-1 : Int64).toInt)]; rfl
      rw [ekp]
      refine b_if_eq (tgt := 41) hx hb dX2_wish_34 (by decide) (fun q5 => ?_) (fun q5 => ?_)
      · refine lv_iconst (v := nI 0) hx hb dX2_wish_41 (by decide) ?_
        exact W.iret (v := nI 0) hx hb hr (fun t ht hW => ⟨⟨_, (mkM np nc pe an up dn rw so mn (va_up wd x.toInt.toNat true) (va_up wv x.toInt.toNat mi), ad), rfl, by rw [opWish, if_neg q1, if_neg (by omega), q5]; rfl, by (try dsimp only); rw [ht]; exact ⟨hX2, xFr_same⟩⟩, hS.F ht⟩) hS.2.2 dX2_wish_42
      · refine lv_iconst (v := nI 1) hx hb dX2_wish_37 (by decide) ?_
        refine lv_goto (tgt := 42) hx hb dX2_wish_38 (by decide) ?_
        exact W.iret (v := nI 1) hx hb hr (fun t ht hW => ⟨⟨_, (mkM np nc pe an up dn rw so mn (va_up wd x.toInt.toNat true) (va_up wv x.toInt.toNat mi), ad), rfl, by rw [opWish, if_neg q1, if_neg (by omega), q5]; rfl, by (try dsimp only); rw [ht]; exact ⟨hX2, xFr_same⟩⟩, hS.F ht⟩) hS.2.2 dX2_wish_42
    · refine lv_bipush (v := (-2)) hx hb dX2_wish_20 (by decide) ?_
      exact W.iret (v := (-2)) hx hb hr (fun t ht hW => ⟨⟨_, (mkM np nc pe an up dn rw so mn wd wv, ad), rfl, by rw [opWish, if_neg q1, if_pos (by omega)], by (try dsimp only); rw [ht]; exact ⟨hX, xFr_same⟩⟩, hS.F ht⟩) hS.2.2 dX2_wish_22
set_option maxHeartbeats 4000000 in
set_option maxRecDepth 100000 in
theorem x_add (l : Launch) (D : va_G) (ka : Nat → ClassId) (H0 : Heap) (ad : Nat → Nat → Nat) (np nc : Nat) (pe an up dn rw : Nat → Nat) (so : Nat → Bool) (mn : Nat → Nat) (wd : Nat → Bool) (wv : Nat → Int64) (x y : Int32) (tr : Bool) (hX : XInv D ka ad np nc pe an up dn rw so mn wd wv H0) (hO : mOk np nc pe an up dn rw so mn wd wv) : Met l yX2_add (.code yX2_add cX2_add 7 (some .int) :: gT) ({ frames := 1, cells := 0, slots := 0, locals := 22 }) (ro_Pc D vwCl (tyL ka) H0 [.ref (ad 0 0), .int x, .int y, .int (bI tr)]) (va_Qi (fun (r : Int32) (u : MSt × (Nat → Nat → Nat)) => (u.1, r) = opAdd np nc pe an up dn rw so mn wd wv x y tr) (fun (u : MSt × (Nat → Nat → Nat)) t => XIs D ka u.2 u.1 t.heap ∧ xFr ad np nc H0.size u) (fun z => ((1 ≤ x.toInt.toNat ∧ x.toInt.toNat ≤ nc) ∧ (1 ≤ y.toInt.toNat ∧ y.toInt.toNat ≤ np)) ∧ (z = ad 4 x.toInt.toNat ∨ z = ad 5 x.toInt.toNat ∨ z = ad 6 x.toInt.toNat ∨ z = ad 3 y.toInt.toNat))) 0 0 (fun z => ((1 ≤ x.toInt.toNat ∧ x.toInt.toNat ≤ nc) ∧ (1 ≤ y.toInt.toNat ∧ y.toInt.toNat ≤ np)) ∧ (z = ad 4 x.toInt.toNat ∨ z = ad 5 x.toInt.toNat ∨ z = ad 6 x.toInt.toNat ∨ z = ad 3 y.toInt.toNat)) := by
  refine Met.ofW (cc := cX2_add) (maxL := 7) (ret := (some .int)) (by decide) rfl ?_
  intro p e s m args below meth c s₁ B hml hv
  obtain ⟨rfl, hH, hK, hN⟩ := hv
  subst hH
  have hx := B.exec
  have hb := B.bytes
  have hr := B.returns
  have hts : ∀ w ∈ gT, w.before ([.ref (ad 0 0), .int x, .int y, .int (bI tr)] : List Value).toArray s = true := fun w h => atoms_spec (ws := (.code yX2_add cX2_add 7 (some .int) :: gT)) B.pre w (List.mem_cons_of_mem _ h)
  have hown : s.vm.findClass RX2 = some m.cls := findClass_of_methodNamed B.named
  have hlocks := B.notSynchronized
  have hl := lv_entry ([.ref (ad 0 0), .int x, .int y, .int (bI tr)]) (n := 7) (Nat.le_of_ble_eq_true rfl)
  rw [lg_entry_eq]
  generalize (lg_sl ([.ref (ad 0 0), .int x, .int y, .int (bI tr)]) ++ List.replicate (7 - (lg_sl ([.ref (ad 0 0), .int x, .int y, .int (bI tr)])).length) Slot.unset).toArray = ls at hl ⊢
  have hl : lv_has ls 7 [(0, .ref (ad 0 0)), (1, .int x), (2, .int y), (3, .int (bI tr))] := hl
  have hnp := hO.1
  have hnc := hO.2.1
  have hS : va_S (fun z => ((1 ≤ x.toInt.toNat ∧ x.toInt.toNat ≤ nc) ∧ (1 ≤ y.toInt.toNat ∧ y.toInt.toNat ≤ np)) ∧ (z = ad 4 x.toInt.toNat ∨ z = ad 5 x.toInt.toNat ∨ z = ad 6 x.toInt.toNat ∨ z = ad 3 y.toInt.toNat)) s.heap s.heap [] := va_S.rf
  refine lv_aload_n hx hb dX2_add_0 rfl (lv_at hl 0 rfl) ?_
  refine lv_iload_n hx hb dX2_add_1 rfl (lv_at hl 1 rfl) ?_
  refine va_csq (va_Run.run (va_runV (As := [.int x]) (rest := []) ⟨hx, hb, hml, hown, hts⟩ (x_chainNumbered l D ka s.heap ad np nc pe an up dn rw so mn wd wv x hX hO) (cw_V 1 hts tb_98 rfl rfl tb_95 tb_1 tb_97 ts_0 (by decide +kernel) ⟨Nat.le_of_ble_eq_true rfl, Nat.le_of_ble_eq_true rfl⟩) (ro_V (ci := 2) hK hN hX.o rfl) rfl rfl hl.1 rfl (lv_room (Nat.le_of_ble_eq_true rfl)) dX2_add_2 ⟨Nat.zero_le _, Nat.zero_le _⟩)) (fun r er => ?_)
  subst er
  by_cases q1 : cNo x nc = true
  · rw [if_pos q1, show va_rf none = Value.null from rfl]
    refine lv_astoreN (lv' := [(4, .null), (0, .ref (ad 0 0)), (1, .int x), (2, .int y), (3, .int (bI tr))]) hx hb dX2_add_5 hl (by decide) rfl (fun ls hl => ?_)
    refine lv_aload_n hx hb dX2_add_7 rfl (lv_at hl 1 rfl) ?_
    refine lv_iload_n hx hb dX2_add_8 rfl (lv_at hl 3 rfl) ?_
    refine va_csq (va_Run.run (va_runV (As := [.int y]) (rest := []) ⟨hx, hb, hml, hown, hts⟩ (x_pieceNumbered l D ka s.heap ad np nc pe an up dn rw so mn wd wv y hX hO) (cw_V 1 hts tb_102 rfl rfl tb_99 tb_1 tb_101 ts_1 (by decide +kernel) ⟨Nat.le_of_ble_eq_true rfl, Nat.le_of_ble_eq_true rfl⟩) (ro_V (ci := 2) hK hN hX.o rfl) rfl rfl hl.1 rfl (lv_room (Nat.le_of_ble_eq_true rfl)) dX2_add_9 ⟨Nat.zero_le _, Nat.zero_le _⟩)) (fun r er => ?_)
    subst er
    by_cases q2 : cNo y np = true
    · rw [if_pos q2, show va_rf none = Value.null from rfl]
      refine lv_astoreN (lv' := [(5, .null), (4, .null), (0, .ref (ad 0 0)), (1, .int x), (2, .int y), (3, .int (bI tr))]) hx hb dX2_add_12 hl (by decide) rfl (fun ls hl => ?_)
      refine lv_aloadN hx hb dX2_add_14 (lv_at hl 1 rfl) ?_
      refine lv_ifnullN (tgt := 24) hx hb dX2_add_16 (by decide) ?_
      refine lv_iconst (v := (-1)) hx hb dX2_add_24 (by decide) ?_
      exact W.iret (v := (-1)) hx hb hr (fun t ht hW => ⟨⟨_, (mkM np nc pe an up dn rw so mn wd wv, ad), rfl, by rw [opAdd, if_pos (by rw [q1]; rfl)], by (try dsimp only); rw [ht]; exact ⟨hX, xFr_same⟩⟩, hS.F ht⟩) hS.2.2 dX2_add_25
    · rw [if_neg q2, show va_rf (some (ad 3 y.toInt.toNat)) = Value.ref (ad 3 y.toInt.toNat) from rfl]
      refine lv_astore (lv' := [(5, .ref (ad 3 y.toInt.toNat)), (4, .null), (0, .ref (ad 0 0)), (1, .int x), (2, .int y), (3, .int (bI tr))]) hx hb dX2_add_12 hl (by decide) rfl (fun ls hl => ?_)
      refine lv_aloadN hx hb dX2_add_14 (lv_at hl 1 rfl) ?_
      refine lv_ifnullN (tgt := 24) hx hb dX2_add_16 (by decide) ?_
      refine lv_iconst (v := (-1)) hx hb dX2_add_24 (by decide) ?_
      exact W.iret (v := (-1)) hx hb hr (fun t ht hW => ⟨⟨_, (mkM np nc pe an up dn rw so mn wd wv, ad), rfl, by rw [opAdd, if_pos (by rw [q1]; rfl)], by (try dsimp only); rw [ht]; exact ⟨hX, xFr_same⟩⟩, hS.F ht⟩) hS.2.2 dX2_add_25
  · rw [if_neg q1, show va_rf (some (ad 4 x.toInt.toNat)) = Value.ref (ad 4 x.toInt.toNat) from rfl]
    refine lv_astore (lv' := [(4, .ref (ad 4 x.toInt.toNat)), (0, .ref (ad 0 0)), (1, .int x), (2, .int y), (3, .int (bI tr))]) hx hb dX2_add_5 hl (by decide) rfl (fun ls hl => ?_)
    refine lv_aload_n hx hb dX2_add_7 rfl (lv_at hl 1 rfl) ?_
    refine lv_iload_n hx hb dX2_add_8 rfl (lv_at hl 3 rfl) ?_
    refine va_csq (va_Run.run (va_runV (As := [.int y]) (rest := []) ⟨hx, hb, hml, hown, hts⟩ (x_pieceNumbered l D ka s.heap ad np nc pe an up dn rw so mn wd wv y hX hO) (cw_V 1 hts tb_102 rfl rfl tb_99 tb_1 tb_101 ts_1 (by decide +kernel) ⟨Nat.le_of_ble_eq_true rfl, Nat.le_of_ble_eq_true rfl⟩) (ro_V (ci := 2) hK hN hX.o rfl) rfl rfl hl.1 rfl (lv_room (Nat.le_of_ble_eq_true rfl)) dX2_add_9 ⟨Nat.zero_le _, Nat.zero_le _⟩)) (fun r er => ?_)
    subst er
    by_cases q2 : cNo y np = true
    · rw [if_pos q2, show va_rf none = Value.null from rfl]
      refine lv_astoreN (lv' := [(5, .null), (4, .ref (ad 4 x.toInt.toNat)), (0, .ref (ad 0 0)), (1, .int x), (2, .int y), (3, .int (bI tr))]) hx hb dX2_add_12 hl (by decide) rfl (fun ls hl => ?_)
      refine lv_aload hx hb dX2_add_14 (lv_at hl 1 rfl) ?_
      refine lv_ifnull hx hb dX2_add_16 ?_
      refine lv_aloadN hx hb dX2_add_19 (lv_at hl 0 rfl) ?_
      refine lv_ifnonnullN hx hb dX2_add_21 ?_
      refine lv_iconst (v := (-1)) hx hb dX2_add_24 (by decide) ?_
      exact W.iret (v := (-1)) hx hb hr (fun t ht hW => ⟨⟨_, (mkM np nc pe an up dn rw so mn wd wv, ad), rfl, by rw [opAdd, if_pos (by rw [q2, Bool.or_true])], by (try dsimp only); rw [ht]; exact ⟨hX, xFr_same⟩⟩, hS.F ht⟩) hS.2.2 dX2_add_25
    · rw [if_neg q2, show va_rf (some (ad 3 y.toInt.toNat)) = Value.ref (ad 3 y.toInt.toNat) from rfl]
      refine lv_astore (lv' := [(5, .ref (ad 3 y.toInt.toNat)), (4, .ref (ad 4 x.toInt.toNat)), (0, .ref (ad 0 0)), (1, .int x), (2, .int y), (3, .int (bI tr))]) hx hb dX2_add_12 hl (by decide) rfl (fun ls hl => ?_)
      refine lv_aload hx hb dX2_add_14 (lv_at hl 1 rfl) ?_
      have p1 : cNo x nc = false := by simpa using q1
      have p2 : cNo y np = false := by simpa using q2
      have hno : ¬ (cNo x nc || cNo y np) = true := by rw [p1, p2]; decide
      obtain ⟨ex, h1, h2⟩ := cNo_nI p1
      obtain ⟨ey, y1, y2⟩ := cNo_nI p2
      have hCh := hX.ch hO h1 h2
      have hmn := (hO.2.2.2.1 x.toInt.toNat h1 h2).1
      have hpb := hO.2.2.1 y.toInt.toNat y1 y2
      refine lv_ifnull hx hb dX2_add_16 ?_
      refine lv_aload hx hb dX2_add_19 (lv_at hl 0 rfl) ?_
      refine lv_ifnonnull (tgt := 26) hx hb dX2_add_21 (by decide) ?_
      refine lv_iload_n hx hb dX2_add_26 rfl (lv_at hl 5 rfl) ?_
      refine b_if_eq (tgt := 38) hx hb dX2_add_27 (by decide) (fun q3 => ?_) (fun q3 => ?_)
      · have hsm : (mn x.toInt.toNat == 0 || !tr) = true := by rw [q3]; exact Bool.or_true _
        refine lv_iconst (v := nI 1) hx hb dX2_add_38 (by decide) ?_
        refine lv_goto (tgt := 43) hx hb dX2_add_39 (by decide) ?_
        refine lv_istore (lv' := [(6, .int (nI 1)), (5, .ref (ad 3 y.toInt.toNat)), (4, .ref (ad 4 x.toInt.toNat)), (0, .ref (ad 0 0)), (1, .int x), (2, .int y), (3, .int (bI tr))]) hx hb dX2_add_43 hl (by decide) rfl (fun ls hl => ?_)
        have eb : nI 1 = bI true := rfl
        rw [eb] at hl
        refine lv_iload hx hb dX2_add_45 (lv_at hl 0 rfl) ?_
        refine b_if_eq (tgt := 63) hx hb dX2_add_47 (by decide) (fun hc7 => ?_) (fun hc7 => ?_)
        · exact Bool.noConfusion hc7
        · refine lv_aload hx hb dX2_add_50 (lv_at hl 1 rfl) ?_
          refine g_getN (cl := vwCl) (ci := 1) (v := .long (lN (pe y.toInt.toNat))) hx hb hts inX1 hown hK (hX.pc y1 y2) rfl 0 (by decide) (va_Nw.use rfl (hN _ tn_46 rfl)) rfl dX2_add_52 ?_
          refine lv_lconst (v := lN 0) hx hb dX2_add_55 rfl ?_
          refine n_lcmp_ne (tgt := 63) hx hb (by omega) (by omega) dX2_add_56 dX2_add_57 (by decide) (fun q6 => ?_) (fun q6 => ?_)
          · have hno3 : ¬ ((mn x.toInt.toNat == 0 || !tr) && pe y.toInt.toNat == 0) = true := by rw [hsm, show (pe y.toInt.toNat == 0) = false from beq_eq_false_iff_ne.mpr q6]; decide
            refine lv_aload hx hb dX2_add_63 (lv_at hl 2 rfl) ?_
            refine g_getN (cl := vwCl) (ci := 0) (v := .int (nI (mn x.toInt.toNat))) hx hb hts inX0 hown hK hCh.1 rfl 2 (by decide) (va_Nw.use rfl (hN _ tn_78 rfl)) rfl dX2_add_65 ?_
            refine lv_bipush (v := nI 12) hx hb dX2_add_68 (by decide) ?_
            refine n_icmp_lt (tgt := 76) hx hb (by omega) (by omega) dX2_add_70 (by decide) (fun q7 => ?_) (fun q7 => ?_)
            · have hlt : mn x.toInt.toNat < 12 := by omega
              have hhe := holds_eq hX hO h1 h2 y1 y2
              refine lv_aload hx hb dX2_add_76 (lv_at hl 2 rfl) ?_
              refine lv_aload hx hb dX2_add_78 (lv_at hl 1 rfl) ?_
              refine vp_callSi (va_Run.run (va_runVN (As := [.ref (ad 3 y.toInt.toNat)]) (rest := []) ⟨hx, hb, hml, hown, hts⟩ (c_holds l D ka s.heap (ad 4 x.toInt.toNat) (ad 5 x.toInt.toNat) (ad 6 x.toInt.toNat) (mn x.toInt.toNat) (wiN wd wv x.toInt.toNat) (fun k => ad 3 (rw (12 * x.toInt.toNat + k))) (qS so x.toInt.toNat) (qF pe rw x.toInt.toNat) (qF an rw x.toInt.toNat) (qF up rw x.toInt.toNat) (qF dn rw x.toInt.toNat) (ad 3 y.toInt.toNat) hCh) (cw_VN 1 hts tb_106 rfl rfl (hN _ tn_103 rfl) tb_4 tb_105 ts_2 (by decide +kernel) ⟨Nat.le_of_ble_eq_true rfl, Nat.le_of_ble_eq_true rfl⟩) (ro_V (ci := 0) hK hN hCh.1 rfl) rfl rfl hl.1 rfl (lv_room (Nat.le_of_ble_eq_true rfl)) dX2_add_80 ⟨Nat.zero_le _, Nat.zero_le _⟩)) (fun r er => ?_)
              subst er
              rw [hhe]
              refine b_if_eq (tgt := 88) hx hb dX2_add_83 (by decide) (fun q8 => ?_) (fun q8 => ?_)
              · refine lv_aload hx hb dX2_add_88 (lv_at hl 2 rfl) ?_
                refine lv_aload hx hb dX2_add_90 (lv_at hl 1 rfl) ?_
                refine lv_iload hx hb dX2_add_92 (lv_at hl 0 rfl) ?_
                have e45 : ad 4 x.toInt.toNat ≠ ad 5 x.toInt.toNat := fun e => absurd (hX.2 _ _ _ _ (vl_4 h1 h2) (vl_5 h1 h2) e).1 (by decide)
                have e46 : ad 4 x.toInt.toNat ≠ ad 6 x.toInt.toNat := fun e => absurd (hX.2 _ _ _ _ (vl_4 h1 h2) (vl_6 h1 h2) e).1 (by decide)
                have e56 : ad 5 x.toInt.toNat ≠ ad 6 x.toInt.toNat := fun e => absurd (hX.2 _ _ _ _ (vl_5 h1 h2) (vl_6 h1 h2) e).1 (by decide)
                have e43 : ad 4 x.toInt.toNat ≠ ad 3 y.toInt.toNat := fun e => absurd (hX.2 _ _ _ _ (vl_4 h1 h2) (vl_3 y1 y2) e).1 (by decide)
                have e53 : ad 5 x.toInt.toNat ≠ ad 3 y.toInt.toNat := fun e => absurd (hX.2 _ _ _ _ (vl_5 h1 h2) (vl_3 y1 y2) e).1 (by decide)
                have e63 : ad 6 x.toInt.toNat ≠ ad 3 y.toInt.toNat := fun e => absurd (hX.2 _ _ _ _ (vl_6 h1 h2) (vl_3 y1 y2) e).1 (by decide)
                refine va_callv (va_runVN (As := [.ref (ad 3 y.toInt.toNat), .int (bI true)]) (rest := []) ⟨hx, hb, hml, hown, hts⟩ (k_append l D ka s.heap (ad 4 x.toInt.toNat) (ad 5 x.toInt.toNat) (ad 6 x.toInt.toNat) (mn x.toInt.toNat) (ad 3 y.toInt.toNat) (pe y.toInt.toNat) (an y.toInt.toNat) (up y.toInt.toNat) (dn y.toInt.toNat) (wiN wd wv x.toInt.toNat) (fun j => if j < mn x.toInt.toNat then some (ad 3 (rw (12 * x.toInt.toNat + j))) else none) (fun j => if j < mn x.toInt.toNat then bI (!so (12 * x.toInt.toNat + j)) else 0) true hCh.1 hCh.2.1 hCh.2.2.1 (hX.pc y1 y2) e45 e46 e43 e56 e53 e63 hlt) (cw_VN 2 hts tb_110 rfl rfl (hN _ tn_107 rfl) tb_4 tb_109 ts_3 (by decide +kernel) ⟨Nat.le_of_ble_eq_true rfl, Nat.le_of_ble_eq_true rfl⟩) (ro_V (ci := 0) hK hN hCh.1 rfl) rfl rfl hl.1 rfl (lv_room (Nat.le_of_ble_eq_true rfl)) dX2_add_94 ⟨Nat.le_of_ble_eq_true rfl, Nat.le_of_ble_eq_true rfl⟩) hS (fun z _ h9 => ⟨⟨⟨h1, h2⟩, y1, y2⟩, h9⟩) (fun z h9 => ⟨⟨⟨h1, h2⟩, y1, y2⟩, h9⟩) (fun u t H1 locs ht hvm hw hB hz1 hk1 hS => ?_)
                (try dsimp only at hB)
                rw [ht] at hB
                have hX2 := hX.add (H1 := H1) (b := !(mn x.toInt.toNat == 0 || !tr)) h1 h2 y1 y2 hlt (fun j j1 j2 => (hO.2.2.2.1 j j1 j2).1) hk1 hB.1 hB.2.1 (by rw [Bool.not_not, hsm]; exact hB.2.2.1) hB.2.2.2
                refine lv_iconst (v := nI 1) hx hb dX2_add_97 (by decide) ?_
                exact W.iret (v := nI 1) hx hb hr (fun t ht hW => ⟨⟨_, (mkM np nc pe an up dn (va_up rw (12 * x.toInt.toNat + mn x.toInt.toNat) y.toInt.toNat) (va_up so (12 * x.toInt.toNat + mn x.toInt.toNat) (!(mn x.toInt.toNat == 0 || !tr))) (va_up mn x.toInt.toNat (mn x.toInt.toNat + 1)) wd wv, ad), rfl, by rw [opAdd, if_neg hno, if_neg hno3, if_neg (by omega), if_neg (by rw [q8]; decide)], by (try dsimp only); rw [ht]; exact ⟨hX2, xFr_same⟩⟩, hS.F ht⟩) hS.2.2 dX2_add_98
              · refine lv_iconst (v := nI 0) hx hb dX2_add_86 (by decide) ?_
                exact W.iret (v := nI 0) hx hb hr (fun t ht hW => ⟨⟨_, (mkM np nc pe an up dn rw so mn wd wv, ad), rfl, by rw [opAdd, if_neg hno, if_neg hno3, if_neg (by omega), if_pos q8], by (try dsimp only); rw [ht]; exact ⟨hX, xFr_same⟩⟩, hS.F ht⟩) hS.2.2 dX2_add_87
            · refine lv_bipush (v := (-4)) hx hb dX2_add_73 (by decide) ?_
              exact W.iret (v := (-4)) hx hb hr (fun t ht hW => ⟨⟨_, (mkM np nc pe an up dn rw so mn wd wv, ad), rfl, by rw [opAdd, if_neg hno, if_neg hno3, if_pos (by omega)], by (try dsimp only); rw [ht]; exact ⟨hX, xFr_same⟩⟩, hS.F ht⟩) hS.2.2 dX2_add_75
          · refine lv_bipush (v := (-3)) hx hb dX2_add_60 (by decide) ?_
            exact W.iret (v := (-3)) hx hb hr (fun t ht hW => ⟨⟨_, (mkM np nc pe an up dn rw so mn wd wv, ad), rfl, by rw [opAdd, if_neg hno, if_pos (by rw [hsm, show (pe y.toInt.toNat == 0) = true from beq_iff_eq.mpr q6]; rfl)], by (try dsimp only); rw [ht]; exact ⟨hX, xFr_same⟩⟩, hS.F ht⟩) hS.2.2 dX2_add_62
      · refine lv_aload hx hb dX2_add_30 (lv_at hl 1 rfl) ?_
        refine g_getN (cl := vwCl) (ci := 0) (v := .int (nI (mn x.toInt.toNat))) hx hb hts inX0 hown hK hCh.1 rfl 2 (by decide) (va_Nw.use rfl (hN _ tn_78 rfl)) rfl dX2_add_32 ?_
        refine n_if_ne (tgt := 42) hx hb (by omega) dX2_add_35 (by decide) (fun q4 => ?_) (fun q4 => ?_)
        · have hsm : (mn x.toInt.toNat == 0 || !tr) = false := by rw [show (mn x.toInt.toNat == 0) = false from beq_eq_false_iff_ne.mpr q4, q3]; rfl
          refine lv_iconst (v := nI 0) hx hb dX2_add_42 (by decide) ?_
          refine lv_istore (lv' := [(6, .int (nI 0)), (5, .ref (ad 3 y.toInt.toNat)), (4, .ref (ad 4 x.toInt.toNat)), (0, .ref (ad 0 0)), (1, .int x), (2, .int y), (3, .int (bI tr))]) hx hb dX2_add_43 hl (by decide) rfl (fun ls hl => ?_)
          have eb : nI 0 = bI false := rfl
          rw [eb] at hl
          refine lv_iload hx hb dX2_add_45 (lv_at hl 0 rfl) ?_
          refine b_if_eq (tgt := 63) hx hb dX2_add_47 (by decide) (fun hc7 => ?_) (fun hc7 => ?_)
          · have hno3 : ¬ ((mn x.toInt.toNat == 0 || !tr) && pe y.toInt.toNat == 0) = true := by rw [hsm]; simp
            refine lv_aload hx hb dX2_add_63 (lv_at hl 2 rfl) ?_
            refine g_getN (cl := vwCl) (ci := 0) (v := .int (nI (mn x.toInt.toNat))) hx hb hts inX0 hown hK hCh.1 rfl 2 (by decide) (va_Nw.use rfl (hN _ tn_78 rfl)) rfl dX2_add_65 ?_
            refine lv_bipush (v := nI 12) hx hb dX2_add_68 (by decide) ?_
            refine n_icmp_lt (tgt := 76) hx hb (by omega) (by omega) dX2_add_70 (by decide) (fun q7 => ?_) (fun q7 => ?_)
            · have hlt : mn x.toInt.toNat < 12 := by omega
              have hhe := holds_eq hX hO h1 h2 y1 y2
              refine lv_aload hx hb dX2_add_76 (lv_at hl 2 rfl) ?_
              refine lv_aload hx hb dX2_add_78 (lv_at hl 1 rfl) ?_
              refine vp_callSi (va_Run.run (va_runVN (As := [.ref (ad 3 y.toInt.toNat)]) (rest := []) ⟨hx, hb, hml, hown, hts⟩ (c_holds l D ka s.heap (ad 4 x.toInt.toNat) (ad 5 x.toInt.toNat) (ad 6 x.toInt.toNat) (mn x.toInt.toNat) (wiN wd wv x.toInt.toNat) (fun k => ad 3 (rw (12 * x.toInt.toNat + k))) (qS so x.toInt.toNat) (qF pe rw x.toInt.toNat) (qF an rw x.toInt.toNat) (qF up rw x.toInt.toNat) (qF dn rw x.toInt.toNat) (ad 3 y.toInt.toNat) hCh) (cw_VN 1 hts tb_106 rfl rfl (hN _ tn_103 rfl) tb_4 tb_105 ts_2 (by decide +kernel) ⟨Nat.le_of_ble_eq_true rfl, Nat.le_of_ble_eq_true rfl⟩) (ro_V (ci := 0) hK hN hCh.1 rfl) rfl rfl hl.1 rfl (lv_room (Nat.le_of_ble_eq_true rfl)) dX2_add_80 ⟨Nat.zero_le _, Nat.zero_le _⟩)) (fun r er => ?_)
              subst er
              rw [hhe]
              refine b_if_eq (tgt := 88) hx hb dX2_add_83 (by decide) (fun q8 => ?_) (fun q8 => ?_)
              · refine lv_aload hx hb dX2_add_88 (lv_at hl 2 rfl) ?_
                refine lv_aload hx hb dX2_add_90 (lv_at hl 1 rfl) ?_
                refine lv_iload hx hb dX2_add_92 (lv_at hl 0 rfl) ?_
                have e45 : ad 4 x.toInt.toNat ≠ ad 5 x.toInt.toNat := fun e => absurd (hX.2 _ _ _ _ (vl_4 h1 h2) (vl_5 h1 h2) e).1 (by decide)
                have e46 : ad 4 x.toInt.toNat ≠ ad 6 x.toInt.toNat := fun e => absurd (hX.2 _ _ _ _ (vl_4 h1 h2) (vl_6 h1 h2) e).1 (by decide)
                have e56 : ad 5 x.toInt.toNat ≠ ad 6 x.toInt.toNat := fun e => absurd (hX.2 _ _ _ _ (vl_5 h1 h2) (vl_6 h1 h2) e).1 (by decide)
                have e43 : ad 4 x.toInt.toNat ≠ ad 3 y.toInt.toNat := fun e => absurd (hX.2 _ _ _ _ (vl_4 h1 h2) (vl_3 y1 y2) e).1 (by decide)
                have e53 : ad 5 x.toInt.toNat ≠ ad 3 y.toInt.toNat := fun e => absurd (hX.2 _ _ _ _ (vl_5 h1 h2) (vl_3 y1 y2) e).1 (by decide)
                have e63 : ad 6 x.toInt.toNat ≠ ad 3 y.toInt.toNat := fun e => absurd (hX.2 _ _ _ _ (vl_6 h1 h2) (vl_3 y1 y2) e).1 (by decide)
                refine va_callv (va_runVN (As := [.ref (ad 3 y.toInt.toNat), .int (bI false)]) (rest := []) ⟨hx, hb, hml, hown, hts⟩ (k_append l D ka s.heap (ad 4 x.toInt.toNat) (ad 5 x.toInt.toNat) (ad 6 x.toInt.toNat) (mn x.toInt.toNat) (ad 3 y.toInt.toNat) (pe y.toInt.toNat) (an y.toInt.toNat) (up y.toInt.toNat) (dn y.toInt.toNat) (wiN wd wv x.toInt.toNat) (fun j => if j < mn x.toInt.toNat then some (ad 3 (rw (12 * x.toInt.toNat + j))) else none) (fun j => if j < mn x.toInt.toNat then bI (!so (12 * x.toInt.toNat + j)) else 0) false hCh.1 hCh.2.1 hCh.2.2.1 (hX.pc y1 y2) e45 e46 e43 e56 e53 e63 hlt) (cw_VN 2 hts tb_110 rfl rfl (hN _ tn_107 rfl) tb_4 tb_109 ts_3 (by decide +kernel) ⟨Nat.le_of_ble_eq_true rfl, Nat.le_of_ble_eq_true rfl⟩) (ro_V (ci := 0) hK hN hCh.1 rfl) rfl rfl hl.1 rfl (lv_room (Nat.le_of_ble_eq_true rfl)) dX2_add_94 ⟨Nat.le_of_ble_eq_true rfl, Nat.le_of_ble_eq_true rfl⟩) hS (fun z _ h9 => ⟨⟨⟨h1, h2⟩, y1, y2⟩, h9⟩) (fun z h9 => ⟨⟨⟨h1, h2⟩, y1, y2⟩, h9⟩) (fun u t H1 locs ht hvm hw hB hz1 hk1 hS => ?_)
                (try dsimp only at hB)
                rw [ht] at hB
                have hX2 := hX.add (H1 := H1) (b := !(mn x.toInt.toNat == 0 || !tr)) h1 h2 y1 y2 hlt (fun j j1 j2 => (hO.2.2.2.1 j j1 j2).1) hk1 hB.1 hB.2.1 (by rw [Bool.not_not, hsm]; exact hB.2.2.1) hB.2.2.2
                refine lv_iconst (v := nI 1) hx hb dX2_add_97 (by decide) ?_
                exact W.iret (v := nI 1) hx hb hr (fun t ht hW => ⟨⟨_, (mkM np nc pe an up dn (va_up rw (12 * x.toInt.toNat + mn x.toInt.toNat) y.toInt.toNat) (va_up so (12 * x.toInt.toNat + mn x.toInt.toNat) (!(mn x.toInt.toNat == 0 || !tr))) (va_up mn x.toInt.toNat (mn x.toInt.toNat + 1)) wd wv, ad), rfl, by rw [opAdd, if_neg hno, if_neg hno3, if_neg (by omega), if_neg (by rw [q8]; decide)], by (try dsimp only); rw [ht]; exact ⟨hX2, xFr_same⟩⟩, hS.F ht⟩) hS.2.2 dX2_add_98
              · refine lv_iconst (v := nI 0) hx hb dX2_add_86 (by decide) ?_
                exact W.iret (v := nI 0) hx hb hr (fun t ht hW => ⟨⟨_, (mkM np nc pe an up dn rw so mn wd wv, ad), rfl, by rw [opAdd, if_neg hno, if_neg hno3, if_neg (by omega), if_pos q8], by (try dsimp only); rw [ht]; exact ⟨hX, xFr_same⟩⟩, hS.F ht⟩) hS.2.2 dX2_add_87
            · refine lv_bipush (v := (-4)) hx hb dX2_add_73 (by decide) ?_
              exact W.iret (v := (-4)) hx hb hr (fun t ht hW => ⟨⟨_, (mkM np nc pe an up dn rw so mn wd wv, ad), rfl, by rw [opAdd, if_neg hno, if_neg hno3, if_pos (by omega)], by (try dsimp only); rw [ht]; exact ⟨hX, xFr_same⟩⟩, hS.F ht⟩) hS.2.2 dX2_add_75
          · exact Bool.noConfusion hc7
        · have hsm : (mn x.toInt.toNat == 0 || !tr) = true := by rw [show (mn x.toInt.toNat == 0) = true from beq_iff_eq.mpr q4]; rfl
          refine lv_iconst (v := nI 1) hx hb dX2_add_38 (by decide) ?_
          refine lv_goto (tgt := 43) hx hb dX2_add_39 (by decide) ?_
          refine lv_istore (lv' := [(6, .int (nI 1)), (5, .ref (ad 3 y.toInt.toNat)), (4, .ref (ad 4 x.toInt.toNat)), (0, .ref (ad 0 0)), (1, .int x), (2, .int y), (3, .int (bI tr))]) hx hb dX2_add_43 hl (by decide) rfl (fun ls hl => ?_)
          have eb : nI 1 = bI true := rfl
          rw [eb] at hl
          refine lv_iload hx hb dX2_add_45 (lv_at hl 0 rfl) ?_
          refine b_if_eq (tgt := 63) hx hb dX2_add_47 (by decide) (fun hc7 => ?_) (fun hc7 => ?_)
          · exact Bool.noConfusion hc7
          · refine lv_aload hx hb dX2_add_50 (lv_at hl 1 rfl) ?_
            refine g_getN (cl := vwCl) (ci := 1) (v := .long (lN (pe y.toInt.toNat))) hx hb hts inX1 hown hK (hX.pc y1 y2) rfl 0 (by decide) (va_Nw.use rfl (hN _ tn_46 rfl)) rfl dX2_add_52 ?_
            refine lv_lconst (v := lN 0) hx hb dX2_add_55 rfl ?_
            refine n_lcmp_ne (tgt := 63) hx hb (by omega) (by omega) dX2_add_56 dX2_add_57 (by decide) (fun q6 => ?_) (fun q6 => ?_)
            · have hno3 : ¬ ((mn x.toInt.toNat == 0 || !tr) && pe y.toInt.toNat == 0) = true := by rw [hsm, show (pe y.toInt.toNat == 0) = false from beq_eq_false_iff_ne.mpr q6]; decide
              refine lv_aload hx hb dX2_add_63 (lv_at hl 2 rfl) ?_
              refine g_getN (cl := vwCl) (ci := 0) (v := .int (nI (mn x.toInt.toNat))) hx hb hts inX0 hown hK hCh.1 rfl 2 (by decide) (va_Nw.use rfl (hN _ tn_78 rfl)) rfl dX2_add_65 ?_
              refine lv_bipush (v := nI 12) hx hb dX2_add_68 (by decide) ?_
              refine n_icmp_lt (tgt := 76) hx hb (by omega) (by omega) dX2_add_70 (by decide) (fun q7 => ?_) (fun q7 => ?_)
              · have hlt : mn x.toInt.toNat < 12 := by omega
                have hhe := holds_eq hX hO h1 h2 y1 y2
                refine lv_aload hx hb dX2_add_76 (lv_at hl 2 rfl) ?_
                refine lv_aload hx hb dX2_add_78 (lv_at hl 1 rfl) ?_
                refine vp_callSi (va_Run.run (va_runVN (As := [.ref (ad 3 y.toInt.toNat)]) (rest := []) ⟨hx, hb, hml, hown, hts⟩ (c_holds l D ka s.heap (ad 4 x.toInt.toNat) (ad 5 x.toInt.toNat) (ad 6 x.toInt.toNat) (mn x.toInt.toNat) (wiN wd wv x.toInt.toNat) (fun k => ad 3 (rw (12 * x.toInt.toNat + k))) (qS so x.toInt.toNat) (qF pe rw x.toInt.toNat) (qF an rw x.toInt.toNat) (qF up rw x.toInt.toNat) (qF dn rw x.toInt.toNat) (ad 3 y.toInt.toNat) hCh) (cw_VN 1 hts tb_106 rfl rfl (hN _ tn_103 rfl) tb_4 tb_105 ts_2 (by decide +kernel) ⟨Nat.le_of_ble_eq_true rfl, Nat.le_of_ble_eq_true rfl⟩) (ro_V (ci := 0) hK hN hCh.1 rfl) rfl rfl hl.1 rfl (lv_room (Nat.le_of_ble_eq_true rfl)) dX2_add_80 ⟨Nat.zero_le _, Nat.zero_le _⟩)) (fun r er => ?_)
                subst er
                rw [hhe]
                refine b_if_eq (tgt := 88) hx hb dX2_add_83 (by decide) (fun q8 => ?_) (fun q8 => ?_)
                · refine lv_aload hx hb dX2_add_88 (lv_at hl 2 rfl) ?_
                  refine lv_aload hx hb dX2_add_90 (lv_at hl 1 rfl) ?_
                  refine lv_iload hx hb dX2_add_92 (lv_at hl 0 rfl) ?_
                  have e45 : ad 4 x.toInt.toNat ≠ ad 5 x.toInt.toNat := fun e => absurd (hX.2 _ _ _ _ (vl_4 h1 h2) (vl_5 h1 h2) e).1 (by decide)
                  have e46 : ad 4 x.toInt.toNat ≠ ad 6 x.toInt.toNat := fun e => absurd (hX.2 _ _ _ _ (vl_4 h1 h2) (vl_6 h1 h2) e).1 (by decide)
                  have e56 : ad 5 x.toInt.toNat ≠ ad 6 x.toInt.toNat := fun e => absurd (hX.2 _ _ _ _ (vl_5 h1 h2) (vl_6 h1 h2) e).1 (by decide)
                  have e43 : ad 4 x.toInt.toNat ≠ ad 3 y.toInt.toNat := fun e => absurd (hX.2 _ _ _ _ (vl_4 h1 h2) (vl_3 y1 y2) e).1 (by decide)
                  have e53 : ad 5 x.toInt.toNat ≠ ad 3 y.toInt.toNat := fun e => absurd (hX.2 _ _ _ _ (vl_5 h1 h2) (vl_3 y1 y2) e).1 (by decide)
                  have e63 : ad 6 x.toInt.toNat ≠ ad 3 y.toInt.toNat := fun e => absurd (hX.2 _ _ _ _ (vl_6 h1 h2) (vl_3 y1 y2) e).1 (by decide)
                  refine va_callv (va_runVN (As := [.ref (ad 3 y.toInt.toNat), .int (bI true)]) (rest := []) ⟨hx, hb, hml, hown, hts⟩ (k_append l D ka s.heap (ad 4 x.toInt.toNat) (ad 5 x.toInt.toNat) (ad 6 x.toInt.toNat) (mn x.toInt.toNat) (ad 3 y.toInt.toNat) (pe y.toInt.toNat) (an y.toInt.toNat) (up y.toInt.toNat) (dn y.toInt.toNat) (wiN wd wv x.toInt.toNat) (fun j => if j < mn x.toInt.toNat then some (ad 3 (rw (12 * x.toInt.toNat + j))) else none) (fun j => if j < mn x.toInt.toNat then bI (!so (12 * x.toInt.toNat + j)) else 0) true hCh.1 hCh.2.1 hCh.2.2.1 (hX.pc y1 y2) e45 e46 e43 e56 e53 e63 hlt) (cw_VN 2 hts tb_110 rfl rfl (hN _ tn_107 rfl) tb_4 tb_109 ts_3 (by decide +kernel) ⟨Nat.le_of_ble_eq_true rfl, Nat.le_of_ble_eq_true rfl⟩) (ro_V (ci := 0) hK hN hCh.1 rfl) rfl rfl hl.1 rfl (lv_room (Nat.le_of_ble_eq_true rfl)) dX2_add_94 ⟨Nat.le_of_ble_eq_true rfl, Nat.le_of_ble_eq_true rfl⟩) hS (fun z _ h9 => ⟨⟨⟨h1, h2⟩, y1, y2⟩, h9⟩) (fun z h9 => ⟨⟨⟨h1, h2⟩, y1, y2⟩, h9⟩) (fun u t H1 locs ht hvm hw hB hz1 hk1 hS => ?_)
                  (try dsimp only at hB)
                  rw [ht] at hB
                  have hX2 := hX.add (H1 := H1) (b := !(mn x.toInt.toNat == 0 || !tr)) h1 h2 y1 y2 hlt (fun j j1 j2 => (hO.2.2.2.1 j j1 j2).1) hk1 hB.1 hB.2.1 (by rw [Bool.not_not, hsm]; exact hB.2.2.1) hB.2.2.2
                  refine lv_iconst (v := nI 1) hx hb dX2_add_97 (by decide) ?_
                  exact W.iret (v := nI 1) hx hb hr (fun t ht hW => ⟨⟨_, (mkM np nc pe an up dn (va_up rw (12 * x.toInt.toNat + mn x.toInt.toNat) y.toInt.toNat) (va_up so (12 * x.toInt.toNat + mn x.toInt.toNat) (!(mn x.toInt.toNat == 0 || !tr))) (va_up mn x.toInt.toNat (mn x.toInt.toNat + 1)) wd wv, ad), rfl, by rw [opAdd, if_neg hno, if_neg hno3, if_neg (by omega), if_neg (by rw [q8]; decide)], by (try dsimp only); rw [ht]; exact ⟨hX2, xFr_same⟩⟩, hS.F ht⟩) hS.2.2 dX2_add_98
                · refine lv_iconst (v := nI 0) hx hb dX2_add_86 (by decide) ?_
                  exact W.iret (v := nI 0) hx hb hr (fun t ht hW => ⟨⟨_, (mkM np nc pe an up dn rw so mn wd wv, ad), rfl, by rw [opAdd, if_neg hno, if_neg hno3, if_neg (by omega), if_pos q8], by (try dsimp only); rw [ht]; exact ⟨hX, xFr_same⟩⟩, hS.F ht⟩) hS.2.2 dX2_add_87
              · refine lv_bipush (v := (-4)) hx hb dX2_add_73 (by decide) ?_
                exact W.iret (v := (-4)) hx hb hr (fun t ht hW => ⟨⟨_, (mkM np nc pe an up dn rw so mn wd wv, ad), rfl, by rw [opAdd, if_neg hno, if_neg hno3, if_pos (by omega)], by (try dsimp only); rw [ht]; exact ⟨hX, xFr_same⟩⟩, hS.F ht⟩) hS.2.2 dX2_add_75
            · refine lv_bipush (v := (-3)) hx hb dX2_add_60 (by decide) ?_
              exact W.iret (v := (-3)) hx hb hr (fun t ht hW => ⟨⟨_, (mkM np nc pe an up dn rw so mn wd wv, ad), rfl, by rw [opAdd, if_neg hno, if_pos (by rw [hsm, show (pe y.toInt.toNat == 0) = true from beq_iff_eq.mpr q6]; rfl)], by (try dsimp only); rw [ht]; exact ⟨hX, xFr_same⟩⟩, hS.F ht⟩) hS.2.2 dX2_add_62
set_option maxHeartbeats 4000000 in
set_option maxRecDepth 100000 in
theorem x_piece (l : Launch) (D : va_G) (ka : Nat → ClassId) (H0 : Heap) (ad : Nat → Nat → Nat) (np nc : Nat) (pe an up dn rw : Nat → Nat) (so : Nat → Bool) (mn : Nat → Nat) (wd : Nat → Bool) (wv : Nat → Int64) (kd : Int32) (x y : Int64) (hX : XInv D ka ad np nc pe an up dn rw so mn wd wv H0) (hO : mOk np nc pe an up dn rw so mn wd wv) : Met l yX2_piece (.code yX2_piece cX2_piece 6 (some .int) :: gT) ({ frames := 2, cells := 1, slots := 4, locals := 36 }) (ro_Pc D vwCl (tyL ka) H0 [.ref (ad 0 0), .int kd, .long x, .long y]) (va_Qi (fun (r : Int32) (u : MSt × (Nat → Nat → Nat)) => (u.1, r) = opPiece np nc pe an up dn rw so mn wd wv kd x y) (fun (u : MSt × (Nat → Nat → Nat)) t => XIs D ka u.2 u.1 t.heap ∧ xFr ad np nc H0.size u) (fun z => (z = ad 0 0 ∨ z = ad 1 0) ∨ H0.size ≤ z)) 1 4 (fun z => (z = ad 0 0 ∨ z = ad 1 0) ∨ H0.size ≤ z) := by
  refine Met.ofW (cc := cX2_piece) (maxL := 6) (ret := (some .int)) (by decide) rfl ?_
  intro p e s m args below meth c s₁ B hml hv
  obtain ⟨rfl, hH, hK, hN⟩ := hv
  subst hH
  have hx := B.exec
  have hb := B.bytes
  have hr := B.returns
  have hts : ∀ w ∈ gT, w.before ([.ref (ad 0 0), .int kd, .long x, .long y] : List Value).toArray s = true := fun w h => atoms_spec (ws := (.code yX2_piece cX2_piece 6 (some .int) :: gT)) B.pre w (List.mem_cons_of_mem _ h)
  have hown : s.vm.findClass RX2 = some m.cls := findClass_of_methodNamed B.named
  have hlocks := B.notSynchronized
  have hl := lv_entry ([.ref (ad 0 0), .int kd, .long x, .long y]) (n := 6) (Nat.le_of_ble_eq_true rfl)
  rw [lg_entry_eq]
  generalize (lg_sl ([.ref (ad 0 0), .int kd, .long x, .long y]) ++ List.replicate (6 - (lg_sl ([.ref (ad 0 0), .int kd, .long x, .long y])).length) Slot.unset).toArray = ls at hl ⊢
  have hl : lv_has ls 6 [(0, .ref (ad 0 0)), (1, .int kd), (2, .long x), (4, .long y)] := hl
  have hnp := hO.1
  have hnc := hO.2.1
  have hS : va_S (fun z => (z = ad 0 0 ∨ z = ad 1 0) ∨ s.heap.size ≤ z) s.heap s.heap [] := va_S.rf
  have hA : ∀ z9 : Nat, s.heap.size ≤ z9 → (fun z => (z = ad 0 0 ∨ z = ad 1 0) ∨ s.heap.size ≤ z) z9 := fun z9 h => Or.inr h
  have z2 : (nI 2).toInt = 2 := by decide +kernel
  have z0 : (lN 0).toInt = 0 := by decide +kernel
  have zb : (lN 20000).toInt = 20000 := by decide +kernel
  refine lv_iload_n hx hb dX2_piece_0 rfl (lv_at hl 1 rfl) ?_
  refine r_if_lt (tgt := 9) hx hb dX2_piece_1 (by decide) (fun q1 => ?_) (fun q1 => ?_)
  · refine lv_bipush (v := (-2)) hx hb dX2_piece_9 (by decide) ?_
    refine W.widen (k := 1) (n := 4) (Nat.le_of_ble_eq_true rfl) (Nat.le_of_ble_eq_true rfl) ?_
    exact W.iret (v := (-2)) hx hb hr (fun t ht hW => ⟨⟨_, (mkM np nc pe an up dn rw so mn wd wv, ad), rfl, by rw [opPiece, if_pos (by omega)], by (try dsimp only); rw [ht]; exact ⟨hX, xFr_same⟩⟩, hS.F ht⟩) hS.2.2 dX2_piece_11
  · refine lv_iload_n hx hb dX2_piece_4 rfl (lv_at hl 1 rfl) ?_
    refine lv_iconst (v := nI 2) hx hb dX2_piece_5 (by decide) ?_
    refine r_icmp_le (tgt := 12) hx hb dX2_piece_6 (by decide) (fun q2 => ?_) (fun q2 => ?_)
    · refine lv_lload_n hx hb dX2_piece_12 rfl (lv_at hl 2 rfl) ?_
      refine lv_lconst (v := lN 0) hx hb dX2_piece_13 rfl ?_
      refine r_lcmp_lt (tgt := 42) hx hb dX2_piece_14 dX2_piece_15 (by decide) (fun q3 => ?_) (fun q3 => ?_)
      · refine lv_bipush (v := (-2)) hx hb dX2_piece_42 (by decide) ?_
        refine W.widen (k := 1) (n := 4) (Nat.le_of_ble_eq_true rfl) (Nat.le_of_ble_eq_true rfl) ?_
        exact W.iret (v := (-2)) hx hb hr (fun t ht hW => ⟨⟨_, (mkM np nc pe an up dn rw so mn wd wv, ad), rfl, by rw [opPiece, if_pos (by omega)], by (try dsimp only); rw [ht]; exact ⟨hX, xFr_same⟩⟩, hS.F ht⟩) hS.2.2 dX2_piece_44
      · refine lv_lload_n hx hb dX2_piece_18 rfl (lv_at hl 2 rfl) ?_
        refine lv_ldc2 (v := lN 20000) hx hb hown (hts _ tb_39) dX2_piece_19 ?_
        refine r_lcmp_gt (tgt := 42) hx hb dX2_piece_22 dX2_piece_23 (by decide) (fun q4 => ?_) (fun q4 => ?_)
        · refine lv_bipush (v := (-2)) hx hb dX2_piece_42 (by decide) ?_
          refine W.widen (k := 1) (n := 4) (Nat.le_of_ble_eq_true rfl) (Nat.le_of_ble_eq_true rfl) ?_
          exact W.iret (v := (-2)) hx hb hr (fun t ht hW => ⟨⟨_, (mkM np nc pe an up dn rw so mn wd wv, ad), rfl, by rw [opPiece, if_pos (by omega)], by (try dsimp only); rw [ht]; exact ⟨hX, xFr_same⟩⟩, hS.F ht⟩) hS.2.2 dX2_piece_44
        · refine lv_lload hx hb dX2_piece_26 (lv_at hl 3 rfl) ?_
          refine lv_lconst (v := lN 0) hx hb dX2_piece_28 rfl ?_
          refine r_lcmp_lt (tgt := 42) hx hb dX2_piece_29 dX2_piece_30 (by decide) (fun q5 => ?_) (fun q5 => ?_)
          · refine lv_bipush (v := (-2)) hx hb dX2_piece_42 (by decide) ?_
            refine W.widen (k := 1) (n := 4) (Nat.le_of_ble_eq_true rfl) (Nat.le_of_ble_eq_true rfl) ?_
            exact W.iret (v := (-2)) hx hb hr (fun t ht hW => ⟨⟨_, (mkM np nc pe an up dn rw so mn wd wv, ad), rfl, by rw [opPiece, if_pos (by omega)], by (try dsimp only); rw [ht]; exact ⟨hX, xFr_same⟩⟩, hS.F ht⟩) hS.2.2 dX2_piece_44
          · refine lv_lload hx hb dX2_piece_33 (lv_at hl 3 rfl) ?_
            refine lv_ldc2 (v := lN 20000) hx hb hown (hts _ tb_39) dX2_piece_35 ?_
            refine r_lcmp_le (tgt := 45) hx hb dX2_piece_38 dX2_piece_39 (by decide) (fun q6 => ?_) (fun q6 => ?_)
            · have hok : ¬ (kd.toInt < 0 ∨ 2 < kd.toInt ∨ x.toInt < 0 ∨ 20000 < x.toInt ∨ y.toInt < 0 ∨ 20000 < y.toInt) := by omega
              obtain ⟨ex, hx9⟩ := lon_of (x := x) (n := 20000) (by omega) (by omega)
              obtain ⟨ey, hy9⟩ := lon_of (x := y) (n := 20000) (by omega) (by omega)
              refine lv_aload_n hx hb dX2_piece_45 rfl (lv_at hl 0 rfl) ?_
              refine g_get (cl := vwCl) (ci := 2) (v := .int (nI np)) hx hb hts inX2 hown hK hX.o rfl 2 (by decide) (hts _ tb_24) rfl dX2_piece_46 ?_
              refine lv_bipush (v := nI 30) hx hb dX2_piece_49 (by decide) ?_
              refine n_icmp_lt (tgt := 57) hx hb (by omega) (by omega) dX2_piece_51 (by decide) (fun q7 => ?_) (fun q7 => ?_)
              · rw [ex, ey] at hl
                have hlt : np < 30 := by omega
                have e01 : ad 0 0 ≠ ad 1 0 := fun e => absurd (hX.2 _ _ _ _ vl_0 vl_1 e).1 (by decide)
                have hP : va_P D vwCl [(ad 0 0, .inr (2, [.ref (ad 1 0), .ref (ad 2 0), .int (nI np), .int (nI nc)])), (ad 1 0, refE (ka 0) 30 (fun j => if j < np then some (ad 3 (j + 1)) else none))] s.heap := va_P_cons hX.o (va_P_cons hX.pa va_P_nil)
                have hD : va_D (fun z => (z = ad 0 0 ∨ z = ad 1 0) ∨ s.heap.size ≤ z) [(ad 0 0, .inr (2, [.ref (ad 1 0), .ref (ad 2 0), .int (nI np), .int (nI nc)])), (ad 1 0, refE (ka 0) 30 (fun j => if j < np then some (ad 3 (j + 1)) else none))] := va_D_of (by simp [e01]) (by simp)
                refine lv_aload_n hx hb dX2_piece_57 rfl (lv_at hl 0 rfl) ?_
                refine g_get (cl := vwCl) (ci := 2) (v := .ref (ad 1 0)) hx hb hts inX2 hown hK (hP.nth 0 rfl) rfl 0 (by decide) (hts _ tb_22) rfl dX2_piece_58 ?_
                refine lv_aload_n hx hb dX2_piece_61 rfl (lv_at hl 0 rfl) ?_
                refine g_get (cl := vwCl) (ci := 2) (v := .int (nI np)) hx hb hts inX2 hown hK (hP.nth 0 rfl) rfl 2 (by decide) (hts _ tb_24) rfl dX2_piece_62 ?_
                refine va_new (cl := vwCl) (ci := 1) (fs := [.long 0, .long 0, .long 0, .long 0]) (C := RX1) (T := TX1) (N := 4) hx hb hts inX1 tyX1 tyX1_ok hown (hts _ tb_18) (hts _ tb_40) (hts _ tb_3) hK hP hD hS hA rfl (fun j hj => by rcases (show j = 0 ∨ j = 1 ∨ j = 2 ∨ j = 3 by omega) with rfl | rfl | rfl | rfl <;> rfl) (Nat.le_of_ble_eq_true rfl) (Nat.le_of_ble_eq_true rfl) dX2_piece_65 (fun q_1 H hP hD hS => ?_)
                have hP : va_P D vwCl [(ad 0 0, .inr (2, [.ref (ad 1 0), .ref (ad 2 0), .int (nI np), .int (nI nc)])), (ad 1 0, refE (ka 0) 30 (fun j => if j < np then some (ad 3 (j + 1)) else none)), (q_1, .inr (1, [.long 0, .long 0, .long 0, .long 0]))] H := hP
                have hD : va_D (fun z => (z = ad 0 0 ∨ z = ad 1 0) ∨ s.heap.size ≤ z) [(ad 0 0, .inr (2, [.ref (ad 1 0), .ref (ad 2 0), .int (nI np), .int (nI nc)])), (ad 1 0, refE (ka 0) 30 (fun j => if j < np then some (ad 3 (j + 1)) else none)), (q_1, .inr (1, [.long 0, .long 0, .long 0, .long 0]))] := hD
                refine lv_dup hx hb dX2_piece_68 rfl ?_
                refine lv_lload_n hx hb dX2_piece_69 rfl (lv_at hl 2 rfl) ?_
                refine lv_lload hx hb dX2_piece_70 (lv_at hl 3 rfl) ?_
                have hqA := hD.2 2 _ rfl
                refine va_callv (va_runIN (As := [.long (lN (x.toInt.toNat)), .long (lN (y.toInt.toNat))]) (rest := [.ref q_1, .int (nI np), .ref (ad 1 0)]) ⟨hx, hb, hml, hown, hts⟩ (k_PieceInit l D ka H q_1 x.toInt.toNat y.toInt.toNat (hP.nth 2 rfl)) (cw_IN 2 hts tb_43 rfl rfl (hN _ tn_41 rfl) tb_3 tb_42 rfl (by decide +kernel) ⟨Nat.le_of_ble_eq_true rfl, Nat.le_of_ble_eq_true rfl⟩) (ro_S hK hN) rfl rfl hl.1 rfl (lv_room (Nat.le_of_ble_eq_true rfl)) dX2_piece_72 ⟨Nat.le_of_ble_eq_true rfl, Nat.le_of_ble_eq_true rfl⟩) hS (fun z _ h9 => (show z = q_1 from h9) ▸ hqA) (fun z h9 => (show z = q_1 from h9) ▸ hqA) (fun u t H1 locs ht hvm hw hB hz1 hk1 hS => ?_)
                (try dsimp only at hB)
                rw [ht] at hB
                have hP := hP.upd hD (p := 2) rfl hB hk1
                have hD := hD.set (p := 2) (e := pcE x.toInt.toNat y.toInt.toNat 0 1) rfl
                generalize H1 = H at hP hS hB ⊢
                have hP : va_P D vwCl [(ad 0 0, .inr (2, [.ref (ad 1 0), .ref (ad 2 0), .int (nI np), .int (nI nc)])), (ad 1 0, refE (ka 0) 30 (fun j => if j < np then some (ad 3 (j + 1)) else none)), (q_1, .inr (1, [.long (lN (x.toInt.toNat)), .long (lN (y.toInt.toNat)), .long (lN 0), .long (lN 1)]))] H := hP
                have hD : va_D (fun z => (z = ad 0 0 ∨ z = ad 1 0) ∨ s.heap.size ≤ z) [(ad 0 0, .inr (2, [.ref (ad 1 0), .ref (ad 2 0), .int (nI np), .int (nI nc)])), (ad 1 0, refE (ka 0) 30 (fun j => if j < np then some (ad 3 (j + 1)) else none)), (q_1, .inr (1, [.long (lN (x.toInt.toNat)), .long (lN (y.toInt.toNat)), .long (lN 0), .long (lN 1)]))] := hD
                refine g_astq (r := (RX1, TX1, 4)) (f2 := va_up (fun j => if j < np then some (ad 3 (j + 1)) else none) np (some q_1)) hx hb hK hP hD hS 1 0 2 1 rfl rfl rfl rfl hlt (by decide) rfl dX2_piece_75 (fun H locs hP hD hS => ?_)
                have hP : va_P D vwCl [(ad 0 0, .inr (2, [.ref (ad 1 0), .ref (ad 2 0), .int (nI np), .int (nI nc)])), (ad 1 0, refE (ka 0) 30 (va_up (fun j => if j < np then some (ad 3 (j + 1)) else none) np (some q_1))), (q_1, .inr (1, [.long (lN (x.toInt.toNat)), .long (lN (y.toInt.toNat)), .long (lN 0), .long (lN 1)]))] H := hP
                have hD : va_D (fun z => (z = ad 0 0 ∨ z = ad 1 0) ∨ s.heap.size ≤ z) [(ad 0 0, .inr (2, [.ref (ad 1 0), .ref (ad 2 0), .int (nI np), .int (nI nc)])), (ad 1 0, refE (ka 0) 30 (va_up (fun j => if j < np then some (ad 3 (j + 1)) else none) np (some q_1))), (q_1, .inr (1, [.long (lN (x.toInt.toNat)), .long (lN (y.toInt.toNat)), .long (lN 0), .long (lN 1)]))] := hD
                refine lv_aload_n hx hb dX2_piece_76 rfl (lv_at hl 0 rfl) ?_
                refine lv_dup hx hb dX2_piece_77 rfl ?_
                refine g_get (cl := vwCl) (ci := 2) (v := .int (nI np)) hx hb hts inX2 hown hK (hP.nth 0 rfl) rfl 2 (by decide) (hts _ tb_24) rfl dX2_piece_78 ?_
                refine lv_iconst (v := nI 1) hx hb dX2_piece_81 (by decide) ?_
                refine n_iadd hx hb dX2_piece_82 ?_
                refine va_put (D := D) (cl := vwCl) (ci := 2) (v := .int (nI (np + 1))) (ty := .int) (C := RX2) (T := TX2) (N := 4) hx hb hts inX2 tyX2 tyX2_ok nmX2 hown hK hP hD hS 0 rfl rfl 2 (by decide) (hts _ tb_24) (fun _ h9 => h9) rfl (by decide +kernel) rfl rfl (Nat.le_of_ble_eq_true rfl) dX2_piece_83 (fun H locs hP hD hS => ?_)
                have hP : va_P D vwCl [(ad 0 0, .inr (2, [.ref (ad 1 0), .ref (ad 2 0), .int (nI (np + 1)), .int (nI nc)])), (ad 1 0, refE (ka 0) 30 (va_up (fun j => if j < np then some (ad 3 (j + 1)) else none) np (some q_1))), (q_1, .inr (1, [.long (lN (x.toInt.toNat)), .long (lN (y.toInt.toNat)), .long (lN 0), .long (lN 1)]))] H := hP
                have hD : va_D (fun z => (z = ad 0 0 ∨ z = ad 1 0) ∨ s.heap.size ≤ z) [(ad 0 0, .inr (2, [.ref (ad 1 0), .ref (ad 2 0), .int (nI (np + 1)), .int (nI nc)])), (ad 1 0, refE (ka 0) 30 (va_up (fun j => if j < np then some (ad 3 (j + 1)) else none) np (some q_1))), (q_1, .inr (1, [.long (lN (x.toInt.toNat)), .long (lN (y.toInt.toNat)), .long (lN 0), .long (lN 1)]))] := hD
                refine lv_aload_n hx hb dX2_piece_86 rfl (lv_at hl 0 rfl) ?_
                refine g_get (cl := vwCl) (ci := 2) (v := .int (nI (np + 1))) hx hb hts inX2 hown hK (hP.nth 0 rfl) rfl 2 (by decide) (hts _ tb_24) rfl dX2_piece_87 ?_
                have nq0 : ¬ ad 0 0 = q_1 := fun e => absurd (hD.1 0 2 _ _ rfl rfl e) (by decide)
                have nq1 : ¬ ad 1 0 = q_1 := fun e => absurd (hD.1 1 2 _ _ rfl rfl e) (by decide)
                have fq : s.heap.size ≤ q_1 := hqA.resolve_left (fun e => e.elim (fun e => nq0 e.symm) (fun e => nq1 e.symm))
                have hX2 := hX.piece (H1 := H) (T := x.toInt.toNat) (R := y.toInt.toNat) hO fq (fun z hz hn => hS.2.1 z hz (fun e => e.elim hn (fun h9 => absurd h9 (Nat.not_le.mpr hz)))) (hP.nth 0 rfl) (hP.nth 1 rfl) (hP.nth 2 rfl)
                exact W.iret (v := nI (np + 1)) hx hb hr (fun t ht hW => ⟨⟨_, (mkM (np + 1) nc (va_up pe (np + 1) x.toInt.toNat) (va_up an (np + 1) y.toInt.toNat) (va_up up (np + 1) 0) (va_up dn (np + 1) 1) rw so mn wd wv, ad1 ad 3 (np + 1) q_1), rfl, by rw [opPiece, if_neg hok, if_neg (by omega)], by (try dsimp only); rw [ht]; exact ⟨hX2, xFr_piece fq⟩⟩, hS.F ht⟩) hS.2.2 dX2_piece_90
              · refine lv_bipush (v := (-4)) hx hb dX2_piece_54 (by decide) ?_
                refine W.widen (k := 1) (n := 4) (Nat.le_of_ble_eq_true rfl) (Nat.le_of_ble_eq_true rfl) ?_
                exact W.iret (v := (-4)) hx hb hr (fun t ht hW => ⟨⟨_, (mkM np nc pe an up dn rw so mn wd wv, ad), rfl, by rw [opPiece, if_neg hok, if_pos (by omega)], by (try dsimp only); rw [ht]; exact ⟨hX, xFr_same⟩⟩, hS.F ht⟩) hS.2.2 dX2_piece_56
            · refine lv_bipush (v := (-2)) hx hb dX2_piece_42 (by decide) ?_
              refine W.widen (k := 1) (n := 4) (Nat.le_of_ble_eq_true rfl) (Nat.le_of_ble_eq_true rfl) ?_
              exact W.iret (v := (-2)) hx hb hr (fun t ht hW => ⟨⟨_, (mkM np nc pe an up dn rw so mn wd wv, ad), rfl, by rw [opPiece, if_pos (by omega)], by (try dsimp only); rw [ht]; exact ⟨hX, xFr_same⟩⟩, hS.F ht⟩) hS.2.2 dX2_piece_44
    · refine lv_bipush (v := (-2)) hx hb dX2_piece_9 (by decide) ?_
      refine W.widen (k := 1) (n := 4) (Nat.le_of_ble_eq_true rfl) (Nat.le_of_ble_eq_true rfl) ?_
      exact W.iret (v := (-2)) hx hb hr (fun t ht hW => ⟨⟨_, (mkM np nc pe an up dn rw so mn wd wv, ad), rfl, by rw [opPiece, if_pos (by omega)], by (try dsimp only); rw [ht]; exact ⟨hX, xFr_same⟩⟩, hS.F ht⟩) hS.2.2 dX2_piece_11
set_option maxHeartbeats 4000000 in
set_option maxRecDepth 100000 in
theorem x_chain (l : Launch) (D : va_G) (ka : Nat → ClassId) (H0 : Heap) (ad : Nat → Nat → Nat) (np nc : Nat) (pe an up dn rw : Nat → Nat) (so : Nat → Bool) (mn : Nat → Nat) (wd : Nat → Bool) (wv : Nat → Int64)  (hX : XInv D ka ad np nc pe an up dn rw so mn wd wv H0) (hO : mOk np nc pe an up dn rw so mn wd wv) : Met l yX2_chain (.code yX2_chain cX2_chain 1 (some .int) :: gT) ({ frames := 2, cells := 3, slots := 28, locals := 32 }) (ro_Pc D vwCl (tyL ka) H0 [.ref (ad 0 0)]) (va_Qi (fun (r : Int32) (u : MSt × (Nat → Nat → Nat)) => (u.1, r) = opChain np nc pe an up dn rw so mn wd wv) (fun (u : MSt × (Nat → Nat → Nat)) t => XIs D ka u.2 u.1 t.heap ∧ xFr ad np nc H0.size u) (fun z => (z = ad 0 0 ∨ z = ad 2 0) ∨ H0.size ≤ z)) 3 28 (fun z => (z = ad 0 0 ∨ z = ad 2 0) ∨ H0.size ≤ z) := by
  refine Met.ofW (cc := cX2_chain) (maxL := 1) (ret := (some .int)) (by decide) rfl ?_
  intro p e s m args below meth c s₁ B hml hv
  obtain ⟨rfl, hH, hK, hN⟩ := hv
  subst hH
  have hx := B.exec
  have hb := B.bytes
  have hr := B.returns
  have hts : ∀ w ∈ gT, w.before ([.ref (ad 0 0)] : List Value).toArray s = true := fun w h => atoms_spec (ws := (.code yX2_chain cX2_chain 1 (some .int) :: gT)) B.pre w (List.mem_cons_of_mem _ h)
  have hown : s.vm.findClass RX2 = some m.cls := findClass_of_methodNamed B.named
  have hlocks := B.notSynchronized
  have hl := lv_entry ([.ref (ad 0 0)]) (n := 1) (Nat.le_of_ble_eq_true rfl)
  rw [lg_entry_eq]
  generalize (lg_sl ([.ref (ad 0 0)]) ++ List.replicate (1 - (lg_sl ([.ref (ad 0 0)])).length) Slot.unset).toArray = ls at hl ⊢
  have hl : lv_has ls 1 [(0, .ref (ad 0 0))] := hl
  have hnp := hO.1
  have hnc := hO.2.1
  have hS : va_S (fun z => (z = ad 0 0 ∨ z = ad 2 0) ∨ s.heap.size ≤ z) s.heap s.heap [] := va_S.rf
  have hA : ∀ z9 : Nat, s.heap.size ≤ z9 → (fun z => (z = ad 0 0 ∨ z = ad 2 0) ∨ s.heap.size ≤ z) z9 := fun z9 h => Or.inr h
  refine lv_aload_n hx hb dX2_chain_0 rfl (lv_at hl 0 rfl) ?_
  refine g_get (cl := vwCl) (ci := 2) (v := .int (nI nc)) hx hb hts inX2 hown hK hX.o rfl 3 (by decide) (hts _ tb_25) rfl dX2_chain_1 ?_
  refine lv_bipush (v := nI 20) hx hb dX2_chain_4 (by decide) ?_
  refine n_icmp_lt (tgt := 12) hx hb (by omega) (by omega) dX2_chain_6 (by decide) (fun q7 => ?_) (fun q7 => ?_)
  · have hlt : nc < 20 := by omega
    have e02 : ad 0 0 ≠ ad 2 0 := fun e => absurd (hX.2 _ _ _ _ vl_0 vl_2 e).1 (by decide)
    have hP : va_P D vwCl [(ad 0 0, .inr (2, [.ref (ad 1 0), .ref (ad 2 0), .int (nI np), .int (nI nc)])), (ad 2 0, refE (ka 1) 20 (fun j => if j < nc then some (ad 4 (j + 1)) else none))] s.heap := va_P_cons hX.o (va_P_cons hX.ca va_P_nil)
    have hD : va_D (fun z => (z = ad 0 0 ∨ z = ad 2 0) ∨ s.heap.size ≤ z) [(ad 0 0, .inr (2, [.ref (ad 1 0), .ref (ad 2 0), .int (nI np), .int (nI nc)])), (ad 2 0, refE (ka 1) 20 (fun j => if j < nc then some (ad 4 (j + 1)) else none))] := va_D_of (by simp [e02]) (by simp)
    refine lv_aload_n hx hb dX2_chain_12 rfl (lv_at hl 0 rfl) ?_
    refine g_get (cl := vwCl) (ci := 2) (v := .ref (ad 2 0)) hx hb hts inX2 hown hK (hP.nth 0 rfl) rfl 1 (by decide) (hts _ tb_23) rfl dX2_chain_13 ?_
    refine lv_aload_n hx hb dX2_chain_16 rfl (lv_at hl 0 rfl) ?_
    refine g_get (cl := vwCl) (ci := 2) (v := .int (nI nc)) hx hb hts inX2 hown hK (hP.nth 0 rfl) rfl 3 (by decide) (hts _ tb_25) rfl dX2_chain_17 ?_
    refine va_new (cl := vwCl) (ci := 0) (fs := [.null, .null, .int 0, .long 0]) (C := RX0) (T := TX0) (N := 4) hx hb hts inX0 tyX0 tyX0_ok hown (hts _ tb_20) (hts _ tb_68) (hts _ tb_4) hK hP hD hS hA rfl (fun j hj => by rcases (show j = 0 ∨ j = 1 ∨ j = 2 ∨ j = 3 by omega) with rfl | rfl | rfl | rfl <;> rfl) (Nat.le_of_ble_eq_true rfl) (Nat.le_of_ble_eq_true rfl) dX2_chain_20 (fun q_1 H hP hD hS => ?_)
    have hP : va_P D vwCl [(ad 0 0, .inr (2, [.ref (ad 1 0), .ref (ad 2 0), .int (nI np), .int (nI nc)])), (ad 2 0, refE (ka 1) 20 (fun j => if j < nc then some (ad 4 (j + 1)) else none)), (q_1, .inr (0, [.null, .null, .int 0, .long 0]))] H := hP
    have hD : va_D (fun z => (z = ad 0 0 ∨ z = ad 2 0) ∨ s.heap.size ≤ z) [(ad 0 0, .inr (2, [.ref (ad 1 0), .ref (ad 2 0), .int (nI np), .int (nI nc)])), (ad 2 0, refE (ka 1) 20 (fun j => if j < nc then some (ad 4 (j + 1)) else none)), (q_1, .inr (0, [.null, .null, .int 0, .long 0]))] := hD
    refine lv_dup hx hb dX2_chain_23 rfl ?_
    have hqA := hD.2 2 _ rfl
    have hsz := hS.1
    have nq0 : ¬ ad 0 0 = q_1 := fun e => absurd (hD.1 0 2 _ _ rfl rfl e) (by decide)
    have nq2 : ¬ ad 2 0 = q_1 := fun e => absurd (hD.1 1 2 _ _ rfl rfl e) (by decide)
    have l0 := (hP.nth 0 rfl).lt
    have l1 := (hP.nth 1 rfl).lt
    have l2 := (hP.nth 2 rfl).lt
    (try dsimp only at l0 l1 l2)
    refine va_callv (va_runIN (As := []) (rest := [.ref q_1, .int (nI nc), .ref (ad 2 0)]) ⟨hx, hb, hml, hown, hts⟩ (k_ChainInit l D ka H q_1 (hP.nth 2 rfl)) (cw_IN 0 hts tb_71 rfl rfl (hN _ tn_69 rfl) tb_4 tb_70 rfl (by decide +kernel) ⟨Nat.le_of_ble_eq_true rfl, Nat.le_of_ble_eq_true rfl⟩) (ro_S hK hN) rfl rfl hl.1 rfl (lv_room (Nat.le_of_ble_eq_true rfl)) dX2_chain_24 ⟨Nat.le_of_ble_eq_true rfl, Nat.le_of_ble_eq_true rfl⟩) hS (fun z _ h9 => h9.elim (fun e => e ▸ hqA) (fun h8 => hA z (Nat.le_trans hsz h8))) (fun z h9 => h9.elim (fun e => e ▸ hqA) (fun h8 => hA z (Nat.le_trans hsz h8))) (fun u t H1 locs ht hvm hw hB hz1 hk1 hS => ?_)
    (try dsimp only at hB)
    rw [ht] at hB
    obtain ⟨r9, m9⟩ := u
    (try dsimp only at hB)
    obtain ⟨⟨b1, b2, b3⟩, fr, fm, nrm⟩ := hB
    have c0 := (hP.nth 0 rfl).kept (hk1 _ l0 (fun e => e.elim nq0 (fun h9 => absurd h9 (Nat.not_le.mpr l0))))
    have c1 := (hP.nth 1 rfl).kept (hk1 _ l1 (fun e => e.elim nq2 (fun h9 => absurd h9 (Nat.not_le.mpr l1))))
    have hP : va_P D vwCl [(ad 0 0, .inr (2, [.ref (ad 1 0), .ref (ad 2 0), .int (nI np), .int (nI nc)])), (ad 2 0, refE (ka 1) 20 (fun j => if j < nc then some (ad 4 (j + 1)) else none)), (q_1, .inr (0, [.ref r9, .ref m9, .int (nI 0), .long ((-1))])), (r9, refE (ka 0) 12 (fun _ => none)), (m9, intE (ka 2) 12 (fun _ => 0))] H1 := va_P_cons c0 (va_P_cons c1 (va_P_cons b1 (va_P_cons b2 (va_P_cons b3 va_P_nil))))
    have x1 : ad 0 0 ≠ r9 := by omega
    have x2 : ad 0 0 ≠ m9 := by omega
    have x3 : ad 2 0 ≠ r9 := by omega
    have x4 : ad 2 0 ≠ m9 := by omega
    have x5 : q_1 ≠ r9 := by omega
    have x6 : q_1 ≠ m9 := by omega
    have hD : va_D (fun z => (z = ad 0 0 ∨ z = ad 2 0) ∨ s.heap.size ≤ z) [(ad 0 0, .inr (2, [.ref (ad 1 0), .ref (ad 2 0), .int (nI np), .int (nI nc)])), (ad 2 0, refE (ka 1) 20 (fun j => if j < nc then some (ad 4 (j + 1)) else none)), (q_1, .inr (0, [.ref r9, .ref m9, .int (nI 0), .long ((-1))])), (r9, refE (ka 0) 12 (fun _ => none)), (m9, intE (ka 2) 12 (fun _ => 0))] := va_D_of (by simp [e02, nq0, nq2, x1, x2, x3, x4, x5, x6, nrm]) (by
      intro z hz; simp only [List.mem_cons, List.not_mem_nil, or_false] at hz
      rcases hz with rfl | rfl | rfl | rfl | rfl
      · exact Or.inl (Or.inl rfl)
      · exact Or.inl (Or.inr rfl)
      · exact hqA
      · exact hA _ (Nat.le_trans hsz fr)
      · exact hA _ (Nat.le_trans hsz fm))
    generalize H1 = H at hP hS ⊢
    refine g_astq (r := (RX0, TX0, 4)) (f2 := va_up (fun j => if j < nc then some (ad 4 (j + 1)) else none) nc (some q_1)) hx hb hK hP hD hS 1 1 2 0 rfl rfl rfl rfl hlt (by decide) rfl dX2_chain_27 (fun H locs hP hD hS => ?_)
    have hP : va_P D vwCl [(ad 0 0, .inr (2, [.ref (ad 1 0), .ref (ad 2 0), .int (nI np), .int (nI nc)])), (ad 2 0, refE (ka 1) 20 (va_up (fun j => if j < nc then some (ad 4 (j + 1)) else none) nc (some q_1))), (q_1, .inr (0, [.ref r9, .ref m9, .int (nI 0), .long ((-1))])), (r9, refE (ka 0) 12 (fun _ => none)), (m9, intE (ka 2) 12 (fun _ => 0))] H := hP
    have hD : va_D (fun z => (z = ad 0 0 ∨ z = ad 2 0) ∨ s.heap.size ≤ z) [(ad 0 0, .inr (2, [.ref (ad 1 0), .ref (ad 2 0), .int (nI np), .int (nI nc)])), (ad 2 0, refE (ka 1) 20 (va_up (fun j => if j < nc then some (ad 4 (j + 1)) else none) nc (some q_1))), (q_1, .inr (0, [.ref r9, .ref m9, .int (nI 0), .long ((-1))])), (r9, refE (ka 0) 12 (fun _ => none)), (m9, intE (ka 2) 12 (fun _ => 0))] := hD
    refine lv_aload_n hx hb dX2_chain_28 rfl (lv_at hl 0 rfl) ?_
    refine lv_dup hx hb dX2_chain_29 rfl ?_
    refine g_get (cl := vwCl) (ci := 2) (v := .int (nI nc)) hx hb hts inX2 hown hK (hP.nth 0 rfl) rfl 3 (by decide) (hts _ tb_25) rfl dX2_chain_30 ?_
    refine lv_iconst (v := nI 1) hx hb dX2_chain_33 (by decide) ?_
    refine n_iadd hx hb dX2_chain_34 ?_
    refine va_put (D := D) (cl := vwCl) (ci := 2) (v := .int (nI (nc + 1))) (ty := .int) (C := RX2) (T := TX2) (N := 4) hx hb hts inX2 tyX2 tyX2_ok nmX2 hown hK hP hD hS 0 rfl rfl 3 (by decide) (hts _ tb_25) (fun _ h9 => h9) rfl (by decide +kernel) rfl rfl (Nat.le_of_ble_eq_true rfl) dX2_chain_35 (fun H locs hP hD hS => ?_)
    have hP : va_P D vwCl [(ad 0 0, .inr (2, [.ref (ad 1 0), .ref (ad 2 0), .int (nI np), .int (nI (nc + 1))])), (ad 2 0, refE (ka 1) 20 (va_up (fun j => if j < nc then some (ad 4 (j + 1)) else none) nc (some q_1))), (q_1, .inr (0, [.ref r9, .ref m9, .int (nI 0), .long ((-1))])), (r9, refE (ka 0) 12 (fun _ => none)), (m9, intE (ka 2) 12 (fun _ => 0))] H := hP
    have hD : va_D (fun z => (z = ad 0 0 ∨ z = ad 2 0) ∨ s.heap.size ≤ z) [(ad 0 0, .inr (2, [.ref (ad 1 0), .ref (ad 2 0), .int (nI np), .int (nI (nc + 1))])), (ad 2 0, refE (ka 1) 20 (va_up (fun j => if j < nc then some (ad 4 (j + 1)) else none) nc (some q_1))), (q_1, .inr (0, [.ref r9, .ref m9, .int (nI 0), .long ((-1))])), (r9, refE (ka 0) 12 (fun _ => none)), (m9, intE (ka 2) 12 (fun _ => 0))] := hD
    refine lv_aload_n hx hb dX2_chain_38 rfl (lv_at hl 0 rfl) ?_
    refine g_get (cl := vwCl) (ci := 2) (v := .int (nI (nc + 1))) hx hb hts inX2 hown hK (hP.nth 0 rfl) rfl 3 (by decide) (hts _ tb_25) rfl dX2_chain_39 ?_
    have fq : s.heap.size ≤ q_1 := hqA.resolve_left (fun e => e.elim (fun e => nq0 e.symm) (fun e => nq2 e.symm))
    have hX2 := hX.chain (H1 := H) hO hlt fq (Nat.le_trans hsz fr) (Nat.le_trans hsz fm) x5 x6 nrm (fun z hz hn => hS.2.1 z hz (fun e => e.elim hn (fun h9 => absurd h9 (Nat.not_le.mpr hz)))) (hP.nth 0 rfl) (hP.nth 1 rfl) (hP.nth 2 rfl) (hP.nth 3 rfl) (hP.nth 4 rfl)
    exact W.iret (v := nI (nc + 1)) hx hb hr (fun t ht hW => ⟨⟨_, (mkM np (nc + 1) pe an up dn rw so mn wd wv, ad1 (ad1 (ad1 ad 4 (nc + 1) q_1) 5 (nc + 1) r9) 6 (nc + 1) m9), rfl, by rw [opChain, if_neg (by omega)], by (try dsimp only); rw [ht]; exact ⟨hX2, xFr_chain fq (Nat.le_trans hsz fr) (Nat.le_trans hsz fm)⟩⟩, hS.F ht⟩) hS.2.2 dX2_chain_42
  · refine lv_bipush (v := (-4)) hx hb dX2_chain_9 (by decide) ?_
    refine W.widen (k := 3) (n := 28) (Nat.le_of_ble_eq_true rfl) (Nat.le_of_ble_eq_true rfl) ?_
    exact W.iret (v := (-4)) hx hb hr (fun t ht hW => ⟨⟨_, (mkM np nc pe an up dn rw so mn wd wv, ad), rfl, by rw [opChain, if_pos (by omega)], by (try dsimp only); rw [ht]; exact ⟨hX, xFr_same⟩⟩, hS.F ht⟩) hS.2.2 dX2_chain_11
end
section
section VXA
def vx_T (XC : String → State → State → Prop) (st : State) (q : Addr) (t : State) (mc ms : Nat) (free : Addr → Prop) : Prop :=
  ∃ (E : String) (ce : Cell) (L : List Loc), XC E st t ∧ t.heap[q]? = some ce ∧ ce.vm = .none ∧ st.vm.findClass E = some ce.cls ∧ st.WarmedH t.vm ∧ st.sameButNew ({ t with vm := st.vm } : State) L mc ms ∧ ∀ z ∈ L, free z.base
def vx_Q (Qc : Array Value → State → Outcome → State → Prop) (XC : String → State → State → Prop) (mc ms : Nat) (free : Addr → Prop) : Array Value → State → Outcome → State → Prop := fun a st o t =>
  (Qc a st o t ∧ ∃ L, FrameEnd st o t L mc ms ∧ ∀ q ∈ L, free q.base) ∨ ∃ q, o = .threw q ∧ vx_T XC st q t mc ms free
def vx_Met (l : Launch) (y : MethodName) (ws : List Cond) (rm : Room) (Pc : Array Value → State → Prop) (Qc : Array Value → State → Outcome → State → Prop) (XC : String → State → State → Prop) (mc ms : Nat) (free : Addr → Prop) : Prop :=
  MetFree l y (headSpec ws rm) Pc (fun _ _ _ _ _ => True) (vx_Q Qc XC mc ms free)
def vx_Post (XC : String → State → State → Prop) (mc ms : Nat) (free : Addr → Prop) : Pt → Array Value → Addr → Pt → Prop := fun A a q B =>
  ∃ (g : JFrame) (mk : MethodId) (t : State) (L : List Loc) (E : String) (ce : Cell), B.U.heap = t.heap ∧ B.U.vm = t.vm ∧ XC E (A.U.calling g mk a) t ∧ t.heap[q]? = some ce ∧ ce.vm = .none ∧ A.U.vm.findClass E = some ce.cls ∧ B.locs = A.locs ++ L ∧ (∀ z ∈ L, free z.base) ∧ B.cells = A.cells + mc ∧ B.slots = A.slots + ms
def vx_Back (l : Launch) (R : Room) (p : Program) (e : Env) (below : List Frame) (s : State) (sargs : Array Value) (y : MethodName) (len W9 : Nat)
    (Pre : Pt → Array Value → Prop) (Post : Pt → Array Value → Option Value → Pt → Prop) (PostX : Pt → Array Value → Addr → Pt → Prop) : Prop :=
  ∀ (m : MethodId) (meth : Method) (c : Code) (A : Pt) (g : JFrame) (ig : Instr) (mk : MethodId) (a : Array Value),
    Stand p l e R s m sargs below meth c A.U A.locs A.cells A.slots → g.method = m → g.locals.size = c.maxLocals → decode c.code g.pc = .ok (ig, len) →
    2 * g.monitorRoom + (g.stack.map fun v => v.category).sum ≤ W9 → A.U.methodNamed? y = some mk → Pre A a →
    (∃ (v : Option Value) (B : Pt), Stand p l e R s m sargs below meth c B.U B.locs B.cells B.slots ∧ Post A a v B ∧
      Steps p.tables e below (doInvoke e (A.U.setTop g) [] mk a).1 (B.U.setTop { g with pc := g.pc + len, stack := v.toList ++ g.stack })) ∨
    (∃ (q : Addr) (B : Pt), Stand p l e R s m sargs below meth c B.U B.locs B.cells B.slots ∧ PostX A a q B ∧
      Steps p.tables e below (doInvoke e (A.U.setTop g) [] mk a).1 ((B.U.setTop g).pushFrame (.throwing q)))
section Payer
variable {l : Launch} {R : Room} {p : Program} {e : Env} {below : List Frame} {s : State} {sargs : Array Value} {y : MethodName} {len W9 : Nat}
theorem vx_back {ws : List Cond} {rm : Room} {Pc : Array Value → State → Prop} {Qc : Array Value → State → Outcome → State → Prop} {XC : String → State → State → Prop} {mc ms : Nat} {free : Addr → Prop} {bytes : ByteArray} {maxL : Nat} {ret : Option FieldType}
    (hM : vx_Met l y ws rm Pc Qc XC mc ms free) (hblind : FrameBlind Pc) (hrc : rm.cells = mc) (hrs : rm.slots = ms)
    (hframes : rm.frames + 1 ≤ R.frames) (hlocals : W9 + (maxL + 11) + rm.locals ≤ R.locals)
    (hws : ∀ w ∈ ws, ∀ a' U, s.WarmedH U.vm → w.before a' U = true) (hcode : Cond.code y bytes maxL ret ∈ ws) (hinit : ∀ a' U, s.WarmedH U.vm → (Cond.initialized y.cls).before a' U = true) :
    vx_Back l R p e below s sargs y len W9 (PreOf R mc ms Pc) (PostOf Qc mc ms free) (vx_Post XC mc ms free) := by
  intro m meth c A g ig mk a X hg hsize hdg hW hn hp
  have h1 : (headSpec ws rm).pre.before a A.U = true := atoms_intro fun w hw => hws w hw _ _ X.warmed
  have h2 : (Cond.code y bytes maxL ret).before a A.U = true := hws _ hcode _ _ X.warmed
  have h3 : (Cond.initialized y.cls).before a A.U = true := hinit _ _ X.warmed
  have h4 : A.cells + (headSpec ws rm).room.cells ≤ R.cells := by rw [show (headSpec ws rm).room.cells = mc from hrc]; exact hp.1
  have h5 : A.slots + (headSpec ws rm).room.slots ≤ R.slots := by rw [show (headSpec ws rm).room.slots = ms from hrs]; exact hp.2.1
  have hPc : Pc a (A.U.calling g mk a) := hblind _ _ _ _ hp.2.2
  obtain ⟨U, Ls, c0, s0⟩ := A
  dsimp only [Pt.U, Pt.locs, Pt.cells, Pt.slots] at h1 h2 h3 h4 h5 X hn hPc ⊢
  obtain ⟨methY, cY, hmY, hcY, -, hlY, -, -, -, -⟩ := Cond.code_spec hn h2
  obtain ⟨kY, hkY, -⟩ := className_of_methodNamed hn
  have hinitY : kY.init = .initialized := Cond.initialized_spec (findClass_of_methodNamed hn) hkY h3
  have h : At U g.method c below := by rw [hg]; exact X.here
  have hlocals9 : W9 + (maxL + 11) + (headSpec ws rm).room.locals ≤ R.locals := hlocals
  have happ : (headSpec ws rm).appliesLoose y e.platform (U.calling g mk a) = true :=
    Spec.appliesLoose_calling (g := g) h hdg hn hkY hinitY
      (X.room_calling (g := g) (R' := (headSpec ws rm).room) hsize hmY hcY hframes (by rw [hlY]; omega) h4 h5) h1
  obtain ⟨mid, hmid⟩ := h.above
  have hfr : (U.setTop g).frames = (.java g :: mid) ++ below := by rw [State.frames_setTop' g h.top, hmid]; rfl
  obtain ⟨o, s₂, hsteps, -, hend, hq⟩ := Steps.callFree hM p X.admits X.cas X.clock (acts := []) hfr happ hPc trivial
  have hq' : vx_Q Qc XC mc ms free a (U.calling g mk a) o s₂ := hq
  rw [State.frames_setTop' g h.top] at hend
  obtain ⟨g₀, hg0⟩ := Option.isSome_iff_exists.mp h.top
  obtain ⟨r, hr⟩ := State.topJava?_eq_some.mp hg0
  have hr' : (({ U with heap := s₂.heap, slotsUsed := s₂.slotsUsed } : State).setVm s₂.vm).frames = .java g₀ :: r := hr
  rcases hq' with ⟨hqc, L, hfe, hL⟩ | ⟨q, rfl, E, ce, L, hx, hce, hcv, hcl, hW₂, hsm, hL⟩
  · obtain ⟨⟨v, rfl⟩, hW₂, e2, q2, q3, q4, q5, q6⟩ := id hfe
    have e3 : s₂ = ({ (U.calling g mk a).setFrames s₂.frames with heap := s₂.heap, slotsUsed := s₂.slotsUsed } : State).setVm s₂.vm := by
      have : s₂ = ({ s₂ with vm := (U.calling g mk a).vm } : State).setVm s₂.vm := rfl
      rw [e2] at this
      exact this
    obtain ⟨c₂, i₂, len₂, hc₂, hd₂, hf₂⟩ := hend
    have hW' : U.WarmedH s₂.vm := hW₂
    have hcc : c₂ = c := by
      have h1 : s₂.code? g.method = U.code? g.method := by
        rw [State.code?_eq, State.code?_eq, hW'.alike.method?]
      exact Option.some.inj (hc₂.symm.trans (h1.trans h.code))
    subst hcc
    have hlen : len₂ = len := by rw [hdg] at hd₂; cases hd₂; rfl
    subst hlen
    have hs₂ : s₂ = (({ U with heap := s₂.heap, slotsUsed := s₂.slotsUsed } : State).setVm s₂.vm).setTop { g with pc := g.pc + len₂, stack := v.toList ++ g.stack } := by
      refine e3.trans ?_
      rw [hf₂, State.calling_eq h.top, State.setFrames_setFrames, State.setTop_of_frames _ hr', hr]
      rfl
    have hsame : U.sameButNew ({ U with heap := s₂.heap, slotsUsed := s₂.slotsUsed } : State) L mc ms := by
      refine ⟨?_, q2, q3, q4, q5, q6⟩
      obtain ⟨t, ht, -⟩ := State.frames_cons hr
      show ({ U with heap := s₂.heap, slotsUsed := s₂.slotsUsed } : State) = { U.setFrames U.frames with heap := s₂.heap, slotsUsed := s₂.slotsUsed }
      rw [State.setFrames_self ht]
    subst hg
    refine Or.inl ⟨v, ⟨(({ U with heap := s₂.heap, slotsUsed := s₂.slotsUsed } : State).setVm s₂.vm), Ls ++ L, c0 + mc, s0 + ms⟩,
      ⟨X.admits, X.cas, X.clock, X.frames, X.room, X.hears, X.method, X.code, (X.here.setHeapUsed s₂.heap s₂.slotsUsed).setVm hW'.alike, X.tail, State.WarmedH.trans X.warmed hW', X.limits, X.bytes, X.same.trans (hsame.setVm s.vm)⟩,
      ⟨g, mk, s₂, L, rfl, rfl, hqc, rfl, hL, rfl, rfl⟩, ?_⟩
    show Steps p.tables e below _ ((({ U with heap := s₂.heap, slotsUsed := s₂.slotsUsed } : State).setVm s₂.vm).setTop { g with pc := g.pc + len₂, stack := v.toList ++ g.stack })
    rw [← hs₂]
    exact hsteps
  · obtain ⟨e2, q2, q3, q4, q5, q6⟩ := id hsm
    have e3 : s₂ = ({ (U.calling g mk a).setFrames s₂.frames with heap := s₂.heap, slotsUsed := s₂.slotsUsed } : State).setVm s₂.vm := by
      have : s₂ = ({ s₂ with vm := (U.calling g mk a).vm } : State).setVm s₂.vm := rfl
      rw [e2] at this
      exact this
    have hf₂ : s₂.frames = .throwing q :: .java g :: U.frames.tail := hend
    have hW' : U.WarmedH s₂.vm := hW₂
    have hs₂ : s₂ = ((({ U with heap := s₂.heap, slotsUsed := s₂.slotsUsed } : State).setVm s₂.vm).setTop g).pushFrame (.throwing q) := by
      refine e3.trans ?_
      rw [hf₂, State.calling_eq h.top, State.setFrames_setFrames, State.pushFrame, State.frames_setTop _ hr', State.setTop_of_frames _ hr', State.setFrames_setFrames, hr]
      rfl
    have hsame : U.sameButNew ({ U with heap := s₂.heap, slotsUsed := s₂.slotsUsed } : State) L mc ms := by
      refine ⟨?_, q2, q3, q4, q5, q6⟩
      obtain ⟨t, ht, -⟩ := State.frames_cons hr
      show ({ U with heap := s₂.heap, slotsUsed := s₂.slotsUsed } : State) = { U.setFrames U.frames with heap := s₂.heap, slotsUsed := s₂.slotsUsed }
      rw [State.setFrames_self ht]
    subst hg
    refine Or.inr ⟨q, ⟨(({ U with heap := s₂.heap, slotsUsed := s₂.slotsUsed } : State).setVm s₂.vm), Ls ++ L, c0 + mc, s0 + ms⟩,
      ⟨X.admits, X.cas, X.clock, X.frames, X.room, X.hears, X.method, X.code, (X.here.setHeapUsed s₂.heap s₂.slotsUsed).setVm hW'.alike, X.tail, State.WarmedH.trans X.warmed hW', X.limits, X.bytes, X.same.trans (hsame.setVm s.vm)⟩,
      ⟨g, mk, s₂, L, E, ce, rfl, rfl, hx, hce, hcv, hcl, rfl, hL, rfl, rfl⟩, ?_⟩
    show Steps p.tables e below _ (((({ U with heap := s₂.heap, slotsUsed := s₂.slotsUsed } : State).setVm s₂.vm).setTop g).pushFrame (.throwing q))
    rw [← hs₂]
    exact hsteps
end Payer
section Calls
variable {p : Program} {l : Launch} {e : Env} {R : Room} {s : State} {m : MethodId} {args : Array Value} {below : List Frame} {meth : Method} {c : Code} {T : State} {locs : List Loc} {cells slots : Nat}
theorem vx_callV (X : Stand p l e R s m args below meth c T locs cells slots) (hexec : p.tables.exec = Jvm.exec) {own C : String} {index : Nat} {y : MethodName} {bytes : ByteArray} {maxL : Nat} {ret : Option FieldType}
    (hown : s.vm.findClass own = some m.cls) (hlink : (Cond.methodLink own index y).before args s = true) (hinst : (Cond.instanceMethod y).before args s = true) (hsel : (Cond.selects C y y).before args s = true)
    (hcode : (Cond.code y bytes maxL ret).before args s = true) (hy : y.cls ≠ "java/lang/invoke/MethodHandle" ∧ y.cls ≠ "java/lang/invoke/VarHandle")
    {W9 : Nat} {Pre : Pt → Array Value → Prop} {Post : Pt → Array Value → Option Value → Pt → Prop} {PostX : Pt → Array Value → Addr → Pt → Prop} (hK : vx_Back l R p e below s args y 3 W9 Pre Post PostX)
    {b : Addr} {cellB : Cell} (hcell : T.heap[b]? = some cellB) (hobj : cellB.vm.isStatics = false) (hcls : s.vm.findClass C = some cellB.cls)
    {g : JFrame} (hg : g.method = m) (hsize : g.locals.size = c.maxLocals) {argsL rest : List Value} (hlen : ∀ sig, parseMethodDescriptor y.desc = some sig → argsL.length = sig.parameters.length)
    (hstack : g.stack = argsL.reverse ++ .ref b :: rest) (hW : 2 * g.monitorRoom + (rest.map fun v => v.category).sum ≤ W9) (hdg : decode c.code g.pc = .ok (.invokevirtual index, 3))
    (hpre : ∀ vm₁, s.WarmedH vm₁ → Pre ⟨T.setVm vm₁, locs, cells, slots⟩ (Value.ref b :: argsL).toArray) :
    (∃ (v : Option Value) (vm₁ : Vm) (B : Pt), s.WarmedH vm₁ ∧ Stand p l e R s m args below meth c B.U B.locs B.cells B.slots ∧ Post ⟨T.setVm vm₁, locs, cells, slots⟩ (Value.ref b :: argsL).toArray v B ∧
      ∀ target, Steps p.tables e below (B.U.setTop { g with pc := g.pc + 3, stack := v.toList ++ rest }) target → Steps p.tables e below (T.setTop g) target) ∨
    (∃ (q : Addr) (vm₁ : Vm) (B : Pt), s.WarmedH vm₁ ∧ Stand p l e R s m args below meth c B.U B.locs B.cells B.slots ∧ PostX ⟨T.setVm vm₁, locs, cells, slots⟩ (Value.ref b :: argsL).toArray q B ∧
      Steps p.tables e below (T.setTop g) ((B.U.setTop { g with stack := rest }).pushFrame (.throwing q))) := by
  obtain ⟨mk, methM, hnamed, hmethM, hstM, habM⟩ := Cond.instanceMethod_spec hinst
  obtain ⟨methM', cM, hmethM', -, -, -, -, -, -, hsigM⟩ := Cond.code_spec hnamed hcode
  cases hmethM.symm.trans hmethM'
  obtain ⟨c2, r2, m2, q1, q2, q3, q4, kP, hkP, hkPi⟩ := Cond.selects_spec hsel
  cases hcls.symm.trans q1
  cases (State.methodFound?_of_named hnamed hy).symm.trans q2
  cases hnamed.symm.trans q3
  have hselP : selectMethod e.platform s.vm cellB.cls mk = .method mk := by rw [Launch.admits_selectMethod X.admits]; exact q4
  obtain ⟨vm₁, X₁, hstep₁⟩ := X.invokevirtual hexec hown hlink hnamed hmethM hstM hkP hkPi hy (a := b) (cell := cellB) hcell
    (fun z h => by rw [h] at hobj; cases hobj) hselP hmethM habM hkP hkPi (g := g) hg (argsL := argsL) (rest := rest) (hlen _ hsigM) hstack hdg
  rcases hK m meth c ⟨T.setVm vm₁, locs, cells, slots⟩ { g with stack := rest } (.invokevirtual index) mk (Value.ref b :: argsL).toArray X₁ hg hsize hdg hW (X₁.named hnamed) (hpre vm₁ X₁.warmed) with ⟨v, B, X', hpost, hsteps⟩ | ⟨q, B, X', hpost, hsteps⟩
  · exact Or.inl ⟨v, vm₁, B, X₁.warmed, X', hpost, fun target h => hstep₁ _ fun acts => by rw [doInvoke_state]; exact hsteps.trans h⟩
  · exact Or.inr ⟨q, vm₁, B, X₁.warmed, X', hpost, hstep₁ _ fun acts => by rw [doInvoke_state]; exact hsteps⟩
theorem vx_callS (X : Stand p l e R s m args below meth c T locs cells slots) (hexec : p.tables.exec = Jvm.exec) {own : String} {index : Nat} {y : MethodName} {bytes : ByteArray} {maxL : Nat} {ret : Option FieldType}
    (hown : s.vm.findClass own = some m.cls) (hlink : (Cond.methodLink own index y).before args s = true) (hstat : (Cond.static y).before args s = true) (hinit : (Cond.initialized y.cls).before args s = true)
    (hcode : (Cond.code y bytes maxL ret).before args s = true) (hy : y.cls ≠ "java/lang/invoke/MethodHandle" ∧ y.cls ≠ "java/lang/invoke/VarHandle")
    {W9 : Nat} {Pre : Pt → Array Value → Prop} {Post : Pt → Array Value → Option Value → Pt → Prop} {PostX : Pt → Array Value → Addr → Pt → Prop} (hK : vx_Back l R p e below s args y 3 W9 Pre Post PostX)
    {g : JFrame} (hg : g.method = m) (hsize : g.locals.size = c.maxLocals) {argsL rest : List Value} (hlen : ∀ sig, parseMethodDescriptor y.desc = some sig → argsL.length = sig.parameters.length)
    (hstack : g.stack = argsL.reverse ++ rest) (hW : 2 * g.monitorRoom + (rest.map fun v => v.category).sum ≤ W9) (hdg : decode c.code g.pc = .ok (.invokestatic index, 3))
    (hpre : ∀ vm₁, s.WarmedH vm₁ → Pre ⟨T.setVm vm₁, locs, cells, slots⟩ argsL.toArray) :
    (∃ (v : Option Value) (vm₁ : Vm) (B : Pt), s.WarmedH vm₁ ∧ Stand p l e R s m args below meth c B.U B.locs B.cells B.slots ∧ Post ⟨T.setVm vm₁, locs, cells, slots⟩ argsL.toArray v B ∧
      ∀ target, Steps p.tables e below (B.U.setTop { g with pc := g.pc + 3, stack := v.toList ++ rest }) target → Steps p.tables e below (T.setTop g) target) ∨
    (∃ (q : Addr) (vm₁ : Vm) (B : Pt), s.WarmedH vm₁ ∧ Stand p l e R s m args below meth c B.U B.locs B.cells B.slots ∧ PostX ⟨T.setVm vm₁, locs, cells, slots⟩ argsL.toArray q B ∧
      Steps p.tables e below (T.setTop g) ((B.U.setTop { g with stack := rest }).pushFrame (.throwing q))) := by
  obtain ⟨mk, hnamed⟩ := Cond.code_named hcode
  obtain ⟨methM, cM, hmethM, -, -, -, -, -, -, hsigM⟩ := Cond.code_spec hnamed hcode
  have hstatic : methM.isStatic = true := Cond.static_spec hnamed hmethM hstat
  obtain ⟨kP, hkP, -⟩ := className_of_methodNamed hnamed
  have hinitP : kP.init = .initialized := Cond.initialized_spec (findClass_of_methodNamed hnamed) hkP hinit
  obtain ⟨vm₁, X₁, hstep₁⟩ := X.invokestatic hexec hown hlink hnamed hmethM hstatic hkP hinitP hy (g := g) hg (argsL := argsL) (rest := rest) (hlen _ hsigM) hstack hdg
  rcases hK m meth c ⟨T.setVm vm₁, locs, cells, slots⟩ { g with stack := rest } (.invokestatic index) mk argsL.toArray X₁ hg hsize hdg hW (X₁.named hnamed) (hpre vm₁ X₁.warmed) with ⟨v, B, X', hpost, hsteps⟩ | ⟨q, B, X', hpost, hsteps⟩
  · exact Or.inl ⟨v, vm₁, B, X₁.warmed, X', hpost, fun target h => hstep₁ _ fun acts => by rw [doInvoke_state]; exact hsteps.trans h⟩
  · exact Or.inr ⟨q, vm₁, B, X₁.warmed, X', hpost, hstep₁ _ fun acts => by rw [doInvoke_state]; exact hsteps⟩
end Calls
theorem vx_cls {s : State} {T : State} {vm₁ : Vm} {E : String} {k : ClassId} (hW : s.WarmedH vm₁) (h : (T.setVm vm₁).vm.findClass E = some k) : s.vm.findClass E = some k := by
  have h1 : vm₁.findClass E = some k := h
  rw [hW.alike.findClass] at h1
  exact h1
def vx_W (p : Program) (l : Launch) (e : Env) (R : Room) (s : State) (m : MethodId) (args : Array Value) (below : List Frame) (meth : Method) (c : Code) (H : Heap) (locs : List Loc) (cells slots : Nat) (Q : State → Prop) (g : JFrame) (q : Addr) : Prop :=
  ∀ T : State, T.heap = H → Stand p l e R s m args below meth c T locs cells slots → ∃ t, Steps p.tables e below ((T.setTop g).pushFrame (.throwing q)) t ∧ Q t
def vx_Run (p : Program) (l : Launch) (e : Env) (R : Room) (s : State) (m : MethodId) (args : Array Value) (below : List Frame) (meth : Method) (c : Code) (H : Heap) (locs : List Loc) (cells slots mc ms : Nat) (g : JFrame) (rest : List Value) (Qa : State → Outcome → State → Prop) (XC : String → State → State → Prop) (free : Addr → Prop) : Prop :=
  ∀ T : State, T.heap = H → Stand p l e R s m args below meth c T locs cells slots →
    (∃ (v : Option Value) (st₀ t T' : State) (L : List Loc), st₀.heap = H ∧ Stand p l e R s m args below meth c T' (locs ++ L) (cells + mc) (slots + ms) ∧ (∀ q ∈ L, free q.base) ∧ T'.heap = t.heap ∧ T'.vm = t.vm ∧ Qa st₀ (.returned v) t ∧
      Goes p e below T g T' { g with pc := g.pc + 3, stack := v.toList ++ rest }) ∨
    (∃ (q : Addr) (st₀ t T' : State) (L : List Loc) (E : String) (ce : Cell), st₀.heap = H ∧ Stand p l e R s m args below meth c T' (locs ++ L) (cells + mc) (slots + ms) ∧ (∀ z ∈ L, free z.base) ∧ T'.heap = t.heap ∧ T'.vm = t.vm ∧ XC E st₀ t ∧ t.heap[q]? = some ce ∧ ce.vm = .none ∧ s.vm.findClass E = some ce.cls ∧
      Steps p.tables e below (T.setTop g) ((T'.setTop { g with stack := rest }).pushFrame (.throwing q)))
def vx_X {S : Type} (px : S → Prop) (B : String → S → State → Prop) (A : Nat → Prop) : String → State → State → Prop := fun E st t => ∃ u : S, px u ∧ B E u t ∧ va_F A st t
section Runs
variable {p : Program} {l : Launch} {e : Env} {R : Room} {s : State} {m : MethodId} {args : Array Value} {below : List Frame} {meth : Method} {c : Code} {H : Heap} {locs : List Loc} {cells slots : Nat}
variable {y : MethodName} {bytes cc : ByteArray} {maxL nL mc ms n index : Nat} {ret : Option FieldType} {ws : List Cond} {rm : Room} {Pc : Array Value → State → Prop} {Qc : Array Value → State → Outcome → State → Prop} {XC : String → State → State → Prop} {free : Addr → Prop} {Ts : List Cond} {own C : String} {b : Addr} {As rest : List Value} {g : JFrame}
theorem vx_callBack (cb : CallB R s args own index y bytes maxL ret ws rm mc ms n) (hM : vx_Met l y ws rm Pc Qc XC mc ms free) (hbl : FrameBlind Pc) : vx_Back l R p e below s args y 3 8 (PreOf R mc ms Pc) (PostOf Qc mc ms free) (vx_Post XC mc ms free) := by
  obtain ⟨hrc, hrs, hfr, hlo, hws, hcw, -, hini, -⟩ := cb
  exact vx_back (bytes := bytes) (maxL := maxL) (ret := ret) hM hbl hrc hrs hfr hlo hws hcw (fun a' U hW => word_at hW (Or.inl (by first | rfl | simp [Cond.onTables, Cond.keeps, Cond.steady])) hini)
theorem vx_runV (S : CallFix p m c cc nL s args Ts own) (hM : vx_Met l y ws rm Pc Qc XC mc ms free) (cw : CallW R s args own C index y bytes maxL ret ws rm mc ms n) (hp : PreV s H C b Pc As)
    (hg : g.method = m) (hn : As.length = n) (hsize : g.locals.size = nL) (hstack : g.stack = As.reverse ++ .ref b :: rest) (hW : 2 * g.monitorRoom + (rest.map fun v => v.category).sum ≤ 8) (hdg : decode cc g.pc = .ok (.invokevirtual index, 3)) (hf : cells + mc ≤ R.cells ∧ slots + ms ≤ R.slots) :
    vx_Run p l e R s m args below meth c H locs cells slots mc ms g rest (Qc (Value.ref b :: As).toArray) XC free := by
  have hK : vx_Back l R p e below s args y 3 8 (PreOf R mc ms Pc) (PostOf Qc mc ms free) (vx_Post XC mc ms free) := vx_callBack cw.1 hM hp.1
  obtain ⟨⟨-, -, -, -, -, -, hcode, -, hy, hlen, hl⟩, hin, hse⟩ := cw
  obtain ⟨hx, hb, hml, ho, -⟩ := S
  obtain ⟨-, ⟨cellB, hcB, hoB, hclB⟩, hPc⟩ := hp
  intro T hT X
  rcases vx_callV X hx (C := C) (bytes := bytes) (maxL := maxL) (ret := ret) ho hl hin hse hcode hy hK (by rw [hT]; exact hcB) hoB hclB hg (hsize.trans hml.symm) (argsL := As) (rest := rest) (fun sig h => hn.trans (hlen sig h)) hstack hW (by rw [hb]; exact hdg)
    (fun vm₁ hW₁ => ⟨hf.1, hf.2, hPc (T.setVm vm₁) hT hW₁⟩) with ⟨v, vm₁, ⟨U', l2, c2, s2⟩, hW₁, X', ⟨g', mk, t, L, e1, e2, hq, h1, hL, h2, h3⟩, st⟩ | ⟨q, vm₁, ⟨U', l2, c2, s2⟩, hW₁, X', ⟨g', mk, t, L, E, ce, e1, e2, hq, hce, hcv, hcl, h1, hL, h2, h3⟩, st⟩
  · dsimp only [Pt.U, Pt.locs, Pt.cells, Pt.slots] at X' e1 e2 h1 h2 h3 st
    subst h1; subst h2; subst h3
    exact Or.inl ⟨v, (T.setVm vm₁).calling g' mk (Value.ref b :: As).toArray, t, U', L, hT, X', hL, e1, e2, hq, st⟩
  · dsimp only [Pt.U, Pt.locs, Pt.cells, Pt.slots] at X' e1 e2 h1 h2 h3 st hcl
    subst h1; subst h2; subst h3
    exact Or.inr ⟨q, (T.setVm vm₁).calling g' mk (Value.ref b :: As).toArray, t, U', L, E, ce, hT, X', hL, e1, e2, hq, hce, hcv, vx_cls hW₁ hcl, st⟩
theorem vx_runS (S : CallFix p m c cc nL s args Ts own) (hM : vx_Met l y ws rm Pc Qc XC mc ms free) (cw : CallB R s args own index y bytes maxL ret ws rm mc ms n ∧ (Cond.static y).before args s = true) (hp : PreS s H Pc As)
    (hg : g.method = m) (hn : As.length = n) (hsize : g.locals.size = nL) (hstack : g.stack = As.reverse ++ rest) (hW : 2 * g.monitorRoom + (rest.map fun v => v.category).sum ≤ 8) (hdg : decode cc g.pc = .ok (.invokestatic index, 3)) (hf : cells + mc ≤ R.cells ∧ slots + ms ≤ R.slots) :
    vx_Run p l e R s m args below meth c H locs cells slots mc ms g rest (Qc As.toArray) XC free := by
  have hK : vx_Back l R p e below s args y 3 8 (PreOf R mc ms Pc) (PostOf Qc mc ms free) (vx_Post XC mc ms free) := vx_callBack cw.1 hM hp.1
  obtain ⟨⟨-, -, -, -, -, -, hcode, hini, hy, hlen, hl⟩, hstt⟩ := cw
  obtain ⟨hx, hb, hml, ho, -⟩ := S
  intro T hT X
  rcases vx_callS X hx (bytes := bytes) (maxL := maxL) (ret := ret) ho hl hstt hini hcode hy hK hg (hsize.trans hml.symm) (argsL := As) (rest := rest) (fun sig h => hn.trans (hlen sig h)) hstack hW (by rw [hb]; exact hdg)
    (fun vm₁ hW₁ => ⟨hf.1, hf.2, hp.2 (T.setVm vm₁) hT hW₁⟩) with ⟨v, vm₁, ⟨U', l2, c2, s2⟩, hW₁, X', ⟨g', mk, t, L, e1, e2, hq, h1, hL, h2, h3⟩, st⟩ | ⟨q, vm₁, ⟨U', l2, c2, s2⟩, hW₁, X', ⟨g', mk, t, L, E, ce, e1, e2, hq, hce, hcv, hcl, h1, hL, h2, h3⟩, st⟩
  · dsimp only [Pt.U, Pt.locs, Pt.cells, Pt.slots] at X' e1 e2 h1 h2 h3 st
    subst h1; subst h2; subst h3
    exact Or.inl ⟨v, (T.setVm vm₁).calling g' mk As.toArray, t, U', L, hT, X', hL, e1, e2, hq, st⟩
  · dsimp only [Pt.U, Pt.locs, Pt.cells, Pt.slots] at X' e1 e2 h1 h2 h3 st hcl
    subst h1; subst h2; subst h3
    exact Or.inr ⟨q, (T.setVm vm₁).calling g' mk As.toArray, t, U', L, E, ce, hT, X', hL, e1, e2, hq, hce, hcv, vx_cls hW₁ hcl, st⟩
end Runs
section Rows
variable {p : Program} {l : Launch} {e : Env} {R : Room} {s : State} {m : MethodId} {args : Array Value} {below : List Frame} {meth : Method} {c : Code} {H : Heap} {locs : List Loc} {cells slots : Nat} {Q : State → Prop}
variable {mc ms : Nat} {free : Addr → Prop} {A0 A1 : Nat → Prop} {H0 : Heap} {a : Array Value} {pc : Nat} {ls : Array Slot} {st0 rest : List Value}
theorem vx_keep {st₀ t T' : State} {L : List Loc} (h0 : st₀.heap = H) (e1 : T'.heap = t.heap) (hS : va_S A0 H0 H locs) (hA : ∀ q, q < H.size → A1 q → A0 q) (hf : ∀ q, free q → A0 q) (hL : ∀ q ∈ L, free q.base) (hF : va_F A1 st₀ t) :
    H.size ≤ T'.heap.size ∧ (∀ q : Nat, q < H.size → ¬ A1 q → T'.heap[q]? = H[q]?) ∧ va_S A0 H0 T'.heap (locs ++ L) := by
  obtain ⟨hz, hk⟩ := hF
  rw [h0] at hz hk
  exact ⟨by rw [e1]; exact hz, fun q h1 h2 => by rw [e1]; exact hk q h1 h2,
    ⟨Nat.le_trans hS.1 (by rw [e1]; exact hz), fun q h1 h2 => by rw [e1, hk q (Nat.lt_of_lt_of_le h1 hS.1) (fun z => h2 (hA q (Nat.lt_of_lt_of_le h1 hS.1) z))]; exact hS.2.1 q h1 h2, fun q hq => by
      rcases List.mem_append.mp hq with h | h
      · exact hS.2.2 q h
      · exact hf _ (hL q h)⟩⟩
theorem vx_calli {S SX : Type} {post : Int32 → S → Prop} {px : SX → Prop} {B : S → State → Prop} {BX : String → SX → State → Prop} {AX : Nat → Prop} (hr : vx_Run p l e R s m args below meth c H locs cells slots mc ms (F0 m pc ls st0) rest (va_Qi post B A1 a) (vx_X px BX AX) free) (hS : va_S A0 H0 H locs) (hA : ∀ q, q < H.size → A1 q → A0 q) (hf : ∀ q, free q → A0 q) (hAX : ∀ q, q < H.size → AX q → A0 q)
    (kx : ∀ (E : String) (ce : Cell) (q9 : Addr) (u : SX) (t : State) (H1 : Heap) (locs1 : List Loc), t.heap = H1 → s.vm.Alike t.vm → px u → BX E u t → H.size ≤ H1.size → (∀ q : Nat, q < H.size → ¬ AX q → H1[q]? = H[q]?) → va_S A0 H0 H1 locs1 → H1[q9]? = some ce → ce.vm = .none → s.vm.findClass E = some ce.cls → vx_W p l e R s m args below meth c H1 locs1 (cells + mc) (slots + ms) Q (F0 m pc ls rest) q9)
    (kk : ∀ (r : Int32) (u : S) (t : State) (H1 : Heap) (locs1 : List Loc), t.heap = H1 → s.vm.Alike t.vm → post r u → B u t → H.size ≤ H1.size → (∀ q : Nat, q < H.size → ¬ A1 q → H1[q]? = H[q]?) → va_S A0 H0 H1 locs1 → W p l e R s m args below meth c H1 locs1 (cells + mc) (slots + ms) Q (F0 m (pc + 3) ls (.int r :: rest))) : W p l e R s m args below meth c H locs cells slots Q (F0 m pc ls st0) := by
  intro T hT X
  rcases hr T hT X with ⟨v, st₀, t, T', L, h0, X', hL, e1, e2, ⟨⟨r, u, hv, hp, hb⟩, hF⟩, st⟩ | ⟨q, st₀, t, T', L, E, ce, h0, X', hL, e1, e2, ⟨u, hp, hb, hF⟩, hce, hcv, hcl, st⟩
  · cases hv
    obtain ⟨k1, k2, k3⟩ := vx_keep h0 e1 hS hA hf hL hF
    obtain ⟨t2, a1, b1⟩ := kk r u t T'.heap (locs ++ L) e1.symm (by rw [← e2]; exact X'.warmed.alike) hp hb k1 k2 k3 T' rfl X'
    exact ⟨t2, st t2 a1, b1⟩
  · obtain ⟨k1, k2, k3⟩ := vx_keep h0 e1 hS hAX hf hL hF
    obtain ⟨t2, a1, b1⟩ := kx E ce q u t T'.heap (locs ++ L) e1.symm (by rw [← e2]; exact X'.warmed.alike) hp hb k1 k2 k3 (by rw [e1]; exact hce) hcv hcl T' rfl X'
    exact ⟨t2, st.trans a1, b1⟩
theorem vx_calll {S SX : Type} {post : Int64 → S → Prop} {px : SX → Prop} {B : S → State → Prop} {BX : String → SX → State → Prop} {AX : Nat → Prop} (hr : vx_Run p l e R s m args below meth c H locs cells slots mc ms (F0 m pc ls st0) rest (va_Ql post B A1 a) (vx_X px BX AX) free) (hS : va_S A0 H0 H locs) (hA : ∀ q, q < H.size → A1 q → A0 q) (hf : ∀ q, free q → A0 q) (hAX : ∀ q, q < H.size → AX q → A0 q)
    (kx : ∀ (E : String) (ce : Cell) (q9 : Addr) (u : SX) (t : State) (H1 : Heap) (locs1 : List Loc), t.heap = H1 → s.vm.Alike t.vm → px u → BX E u t → H.size ≤ H1.size → (∀ q : Nat, q < H.size → ¬ AX q → H1[q]? = H[q]?) → va_S A0 H0 H1 locs1 → H1[q9]? = some ce → ce.vm = .none → s.vm.findClass E = some ce.cls → vx_W p l e R s m args below meth c H1 locs1 (cells + mc) (slots + ms) Q (F0 m pc ls rest) q9)
    (kk : ∀ (r : Int64) (u : S) (t : State) (H1 : Heap) (locs1 : List Loc), t.heap = H1 → s.vm.Alike t.vm → post r u → B u t → H.size ≤ H1.size → (∀ q : Nat, q < H.size → ¬ A1 q → H1[q]? = H[q]?) → va_S A0 H0 H1 locs1 → W p l e R s m args below meth c H1 locs1 (cells + mc) (slots + ms) Q (F0 m (pc + 3) ls (.long r :: rest))) : W p l e R s m args below meth c H locs cells slots Q (F0 m pc ls st0) := by
  intro T hT X
  rcases hr T hT X with ⟨v, st₀, t, T', L, h0, X', hL, e1, e2, ⟨⟨r, u, hv, hp, hb⟩, hF⟩, st⟩ | ⟨q, st₀, t, T', L, E, ce, h0, X', hL, e1, e2, ⟨u, hp, hb, hF⟩, hce, hcv, hcl, st⟩
  · cases hv
    obtain ⟨k1, k2, k3⟩ := vx_keep h0 e1 hS hA hf hL hF
    obtain ⟨t2, a1, b1⟩ := kk r u t T'.heap (locs ++ L) e1.symm (by rw [← e2]; exact X'.warmed.alike) hp hb k1 k2 k3 T' rfl X'
    exact ⟨t2, st t2 a1, b1⟩
  · obtain ⟨k1, k2, k3⟩ := vx_keep h0 e1 hS hAX hf hL hF
    obtain ⟨t2, a1, b1⟩ := kx E ce q u t T'.heap (locs ++ L) e1.symm (by rw [← e2]; exact X'.warmed.alike) hp hb k1 k2 k3 (by rw [e1]; exact hce) hcv hcl T' rfl X'
    exact ⟨t2, st.trans a1, b1⟩
theorem vx_callf {S SX : Type} {post : UInt32 → S → Prop} {px : SX → Prop} {B : S → State → Prop} {BX : String → SX → State → Prop} {AX : Nat → Prop} (hr : vx_Run p l e R s m args below meth c H locs cells slots mc ms (F0 m pc ls st0) rest (va_Qf post B A1 a) (vx_X px BX AX) free) (hS : va_S A0 H0 H locs) (hA : ∀ q, q < H.size → A1 q → A0 q) (hf : ∀ q, free q → A0 q) (hAX : ∀ q, q < H.size → AX q → A0 q)
    (kx : ∀ (E : String) (ce : Cell) (q9 : Addr) (u : SX) (t : State) (H1 : Heap) (locs1 : List Loc), t.heap = H1 → s.vm.Alike t.vm → px u → BX E u t → H.size ≤ H1.size → (∀ q : Nat, q < H.size → ¬ AX q → H1[q]? = H[q]?) → va_S A0 H0 H1 locs1 → H1[q9]? = some ce → ce.vm = .none → s.vm.findClass E = some ce.cls → vx_W p l e R s m args below meth c H1 locs1 (cells + mc) (slots + ms) Q (F0 m pc ls rest) q9)
    (kk : ∀ (r : UInt32) (u : S) (t : State) (H1 : Heap) (locs1 : List Loc), t.heap = H1 → s.vm.Alike t.vm → post r u → B u t → H.size ≤ H1.size → (∀ q : Nat, q < H.size → ¬ A1 q → H1[q]? = H[q]?) → va_S A0 H0 H1 locs1 → W p l e R s m args below meth c H1 locs1 (cells + mc) (slots + ms) Q (F0 m (pc + 3) ls (.float r :: rest))) : W p l e R s m args below meth c H locs cells slots Q (F0 m pc ls st0) := by
  intro T hT X
  rcases hr T hT X with ⟨v, st₀, t, T', L, h0, X', hL, e1, e2, ⟨⟨r, u, hv, hp, hb⟩, hF⟩, st⟩ | ⟨q, st₀, t, T', L, E, ce, h0, X', hL, e1, e2, ⟨u, hp, hb, hF⟩, hce, hcv, hcl, st⟩
  · cases hv
    obtain ⟨k1, k2, k3⟩ := vx_keep h0 e1 hS hA hf hL hF
    obtain ⟨t2, a1, b1⟩ := kk r u t T'.heap (locs ++ L) e1.symm (by rw [← e2]; exact X'.warmed.alike) hp hb k1 k2 k3 T' rfl X'
    exact ⟨t2, st t2 a1, b1⟩
  · obtain ⟨k1, k2, k3⟩ := vx_keep h0 e1 hS hAX hf hL hF
    obtain ⟨t2, a1, b1⟩ := kx E ce q u t T'.heap (locs ++ L) e1.symm (by rw [← e2]; exact X'.warmed.alike) hp hb k1 k2 k3 (by rw [e1]; exact hce) hcv hcl T' rfl X'
    exact ⟨t2, st.trans a1, b1⟩
theorem vx_calld {S SX : Type} {post : UInt64 → S → Prop} {px : SX → Prop} {B : S → State → Prop} {BX : String → SX → State → Prop} {AX : Nat → Prop} (hr : vx_Run p l e R s m args below meth c H locs cells slots mc ms (F0 m pc ls st0) rest (va_Qd post B A1 a) (vx_X px BX AX) free) (hS : va_S A0 H0 H locs) (hA : ∀ q, q < H.size → A1 q → A0 q) (hf : ∀ q, free q → A0 q) (hAX : ∀ q, q < H.size → AX q → A0 q)
    (kx : ∀ (E : String) (ce : Cell) (q9 : Addr) (u : SX) (t : State) (H1 : Heap) (locs1 : List Loc), t.heap = H1 → s.vm.Alike t.vm → px u → BX E u t → H.size ≤ H1.size → (∀ q : Nat, q < H.size → ¬ AX q → H1[q]? = H[q]?) → va_S A0 H0 H1 locs1 → H1[q9]? = some ce → ce.vm = .none → s.vm.findClass E = some ce.cls → vx_W p l e R s m args below meth c H1 locs1 (cells + mc) (slots + ms) Q (F0 m pc ls rest) q9)
    (kk : ∀ (r : UInt64) (u : S) (t : State) (H1 : Heap) (locs1 : List Loc), t.heap = H1 → s.vm.Alike t.vm → post r u → B u t → H.size ≤ H1.size → (∀ q : Nat, q < H.size → ¬ A1 q → H1[q]? = H[q]?) → va_S A0 H0 H1 locs1 → W p l e R s m args below meth c H1 locs1 (cells + mc) (slots + ms) Q (F0 m (pc + 3) ls (.double r :: rest))) : W p l e R s m args below meth c H locs cells slots Q (F0 m pc ls st0) := by
  intro T hT X
  rcases hr T hT X with ⟨v, st₀, t, T', L, h0, X', hL, e1, e2, ⟨⟨r, u, hv, hp, hb⟩, hF⟩, st⟩ | ⟨q, st₀, t, T', L, E, ce, h0, X', hL, e1, e2, ⟨u, hp, hb, hF⟩, hce, hcv, hcl, st⟩
  · cases hv
    obtain ⟨k1, k2, k3⟩ := vx_keep h0 e1 hS hA hf hL hF
    obtain ⟨t2, a1, b1⟩ := kk r u t T'.heap (locs ++ L) e1.symm (by rw [← e2]; exact X'.warmed.alike) hp hb k1 k2 k3 T' rfl X'
    exact ⟨t2, st t2 a1, b1⟩
  · obtain ⟨k1, k2, k3⟩ := vx_keep h0 e1 hS hAX hf hL hF
    obtain ⟨t2, a1, b1⟩ := kx E ce q u t T'.heap (locs ++ L) e1.symm (by rw [← e2]; exact X'.warmed.alike) hp hb k1 k2 k3 (by rw [e1]; exact hce) hcv hcl T' rfl X'
    exact ⟨t2, st.trans a1, b1⟩
theorem vx_callv {S SX : Type} {post : S → Prop} {px : SX → Prop} {B : S → State → Prop} {BX : String → SX → State → Prop} {AX : Nat → Prop} (hr : vx_Run p l e R s m args below meth c H locs cells slots mc ms (F0 m pc ls st0) rest (va_Qv post B A1 a) (vx_X px BX AX) free) (hS : va_S A0 H0 H locs) (hA : ∀ q, q < H.size → A1 q → A0 q) (hf : ∀ q, free q → A0 q) (hAX : ∀ q, q < H.size → AX q → A0 q)
    (kx : ∀ (E : String) (ce : Cell) (q9 : Addr) (u : SX) (t : State) (H1 : Heap) (locs1 : List Loc), t.heap = H1 → s.vm.Alike t.vm → px u → BX E u t → H.size ≤ H1.size → (∀ q : Nat, q < H.size → ¬ AX q → H1[q]? = H[q]?) → va_S A0 H0 H1 locs1 → H1[q9]? = some ce → ce.vm = .none → s.vm.findClass E = some ce.cls → vx_W p l e R s m args below meth c H1 locs1 (cells + mc) (slots + ms) Q (F0 m pc ls rest) q9)
    (kk : ∀ (u : S) (t : State) (H1 : Heap) (locs1 : List Loc), t.heap = H1 → s.vm.Alike t.vm → post u → B u t → H.size ≤ H1.size → (∀ q : Nat, q < H.size → ¬ A1 q → H1[q]? = H[q]?) → va_S A0 H0 H1 locs1 → W p l e R s m args below meth c H1 locs1 (cells + mc) (slots + ms) Q (F0 m (pc + 3) ls (rest))) : W p l e R s m args below meth c H locs cells slots Q (F0 m pc ls st0) := by
  intro T hT X
  rcases hr T hT X with ⟨v, st₀, t, T', L, h0, X', hL, e1, e2, ⟨⟨u, hv, hp, hb⟩, hF⟩, st⟩ | ⟨q, st₀, t, T', L, E, ce, h0, X', hL, e1, e2, ⟨u, hp, hb, hF⟩, hce, hcv, hcl, st⟩
  · cases hv
    obtain ⟨k1, k2, k3⟩ := vx_keep h0 e1 hS hA hf hL hF
    obtain ⟨t2, a1, b1⟩ := kk u t T'.heap (locs ++ L) e1.symm (by rw [← e2]; exact X'.warmed.alike) hp hb k1 k2 k3 T' rfl X'
    exact ⟨t2, st t2 a1, b1⟩
  · obtain ⟨k1, k2, k3⟩ := vx_keep h0 e1 hS hAX hf hL hF
    obtain ⟨t2, a1, b1⟩ := kx E ce q u t T'.heap (locs ++ L) e1.symm (by rw [← e2]; exact X'.warmed.alike) hp hb k1 k2 k3 (by rw [e1]; exact hce) hcv hcl T' rfl X'
    exact ⟨t2, st.trans a1, b1⟩
theorem vx_catch {own name : String} {E : String} {ce : Cell} {q : Addr} (hown : s.vm.findClass own = some m.cls) (pre : List ExceptionTableEntry) (x : ExceptionTableEntry) (suf : List ExceptionTableEntry) (hsplit : c.exceptionTable.toList = pre ++ x :: suf)
    (hpass : ∀ z ∈ pre, covers z pc = false ∨ (z.catchType ≠ 0 ∧ ∃ nm : String, (Cond.classLink own z.catchType nm).before args s = true ∧ va_Nc E nm s)) (hx : covers x pc = true) (h0 : x.catchType ≠ 0)
    (hlink : (Cond.classLink own x.catchType name).before args s = true) (hcast : (Cond.castable E name).before args s = true) (hcell : H[q]? = some ce) (hv : ce.vm = .none) (hcl : s.vm.findClass E = some ce.cls)
    (kk : W p l e R s m args below meth c H locs cells slots Q (F0 m x.handlerPc ls [.ref q])) : vx_W p l e R s m args below meth c H locs cells slots Q (F0 m pc ls rest) q := by
  intro T hT X
  have hpl : e.platform.magicAccessors = ({} : Platform).magicAccessors := by rw [X.admits.platform]
  obtain ⟨c3, c4, hc3, hc4, hasg⟩ := Cond.castable_spec hcast
  cases Option.some.inj (hc3.symm.trans hcl)
  obtain ⟨c5, hc5, hcl5⟩ := Cond.classLink_spec hown hlink e.platform hpl
  cases Option.some.inj (hc4.symm.trans hc5)
  obtain ⟨vm', X', st⟩ := X.thenCaughtThrough q (g := F0 m pc ls rest) rfl (Steps.refl _) (by rw [hT]; exact hcell) (by rw [hv]; rfl) (by obtain ⟨k9, h9, -⟩ := Vm.findClass_spec hcl; exact ⟨k9, h9⟩) pre x suf hsplit
    (fun z hz => by
      rcases hpass z hz with h | ⟨hz0, nm, hl1, hn1⟩
      · exact Or.inl h
      · obtain ⟨c6, hc6, hcl6⟩ := Cond.classLink_spec hown hl1 e.platform hpl
        obtain ⟨a8, b8, h1, h2, h3⟩ := hn1
        cases Option.some.inj (h1.symm.trans hcl)
        cases Option.some.inj (h2.symm.trans hc6)
        exact Or.inr ⟨hz0, _, hcl6, h3⟩) hx (Or.inr ⟨h0, c4, hcl5, hasg⟩)
  obtain ⟨t, a1, b1⟩ := kk (T.setVm vm') hT X'
  exact ⟨t, st.trans a1, b1⟩
end Rows
section Ends
variable {p : Program} {l : Launch} {e : Env} {R : Room} {s : State} {m : MethodId} {args : Array Value} {below : List Frame} {meth : Method} {c : Code} {H : Heap} {locs : List Loc} {cells slots : Nat} {Q : State → Prop}
variable {mc ms : Nat} {free : Addr → Prop} {A0 A1 : Nat → Prop} {H0 : Heap} {a : Array Value} {ls : Array Slot} {st0 rest : List Value}
variable {Qc : Array Value → State → Outcome → State → Prop} {XC : String → State → State → Prop}
def vx_MQ (below : List Frame) (Qc : Array Value → State → Outcome → State → Prop) (XC : String → State → State → Prop) (a : Array Value) (s : State) (mc ms : Nat) (free : Addr → Prop) : State → Prop := fun t =>
  ∃ o, t.status = .running ∧ Ended t below o ∧ vx_Q Qc XC mc ms free a s o t
theorem vx_ret {g : JFrame} {mc ms : Nat} (k : W p l e R s m args below meth c H locs cells slots (MQ below Qc args s mc ms free) g) : W p l e R s m args below meth c H locs cells slots (vx_MQ below Qc XC args s mc ms free) g := by
  intro T hT X
  obtain ⟨t, a1, o, b1, b2, b3, b4⟩ := k T hT X
  exact ⟨t, a1, o, b1, b2, Or.inl ⟨b3, b4⟩⟩
theorem vx_widen {g : JFrame} {q : Addr} {k n : Nat} (h1 : cells ≤ k) (h2 : slots ≤ n) (kk : vx_W p l e R s m args below meth c H locs k n Q g q) : vx_W p l e R s m args below meth c H locs cells slots Q g q := fun T hT X => kk T hT (stand_widen X h1 h2)
theorem vx_out {pc : Nat} {E : String} {ce : Cell} {q : Addr} {mc ms : Nat} (hout : ∀ x ∈ c.exceptionTable.toList, covers x pc = false) (hlocks : meth.locks = false) (hcell : H[q]? = some ce) (hv : ce.vm = .none) (hcl : s.vm.findClass E = some ce.cls)
    (hx : ∀ t : State, t.heap = H → s.vm.Alike t.vm → XC E s t) (hf : ∀ z ∈ locs, free z.base) (hc : cells ≤ mc) (hs : slots ≤ ms) :
    vx_W p l e R s m args below meth c H locs cells slots (vx_MQ below Qc XC args s mc ms free) (F0 m pc ls rest) q := by
  intro T hT X
  obtain ⟨st1, hrun, hend, hW, hsm⟩ := X.leaveThrown q (g := F0 m pc ls rest) rfl rfl rfl hout hlocks
  have hcell9 : (T.setFrames (.throwing q :: below)).heap[q]? = some ce := by
    show T.heap[q]? = some ce
    rw [hT]; exact hcell
  exact ⟨_, st1, .threw q, hrun, hend, Or.inr ⟨q, rfl, E, ce, locs, hx _ hT hW.alike, hcell9, hv, hcl, hW, hsm.mono hc hs, hf⟩⟩
theorem vx_frame {U : State} {k n : Nat} (h : s.sameButNew ({ U with vm := s.vm } : State) locs k n) : s.heap.size ≤ U.heap.size ∧ ∀ q : Nat, q < s.heap.size → (∀ z ∈ locs, z.base ≠ q) → U.heap[q]? = s.heap[q]? := by
  obtain ⟨-, h2, -, -, -, h6⟩ := h
  refine ⟨h2, fun q hq hz => ?_⟩
  obtain ⟨c9, e1, e2, e3, e4⟩ := h6 q _ (Array.getElem?_eq_getElem hq)
  have hs : c9.slots = (s.heap[q]).slots := Array.ext_getElem? fun i => e4 i fun hm => hz _ hm rfl
  have h9 : c9 = s.heap[q] := by
    rw [hs] at e2
    exact e2
  have e5 : U.heap[q]? = some c9 := e1
  rw [e5, h9, Array.getElem?_eq_getElem hq]
def vx_no (w : Cond) : Bool := decide (w ≠ .isRef (.static Bundle.tN "UNASSIGNED_STACK" Bundle.steD)) && decide (w ≠ .isRef (.static Bundle.tN "SUPPRESSED_SENTINEL" Bundle.listD)) && decide (w ≠ .laysStatic Bundle.tN "UNASSIGNED_STACK" Bundle.steD) && decide (w ≠ .laysStatic Bundle.tN "SUPPRESSED_SENTINEL" Bundle.listD)
def vx_at0 (own : String) (ic : Nat) (X : String) (names : List String) : List Cond := (Bundle.ownAtoms0 own ic X names).filter vx_no
def vx_atS (own : String) (ic : Nat) (X : String) (names : List String) : List Cond := (Bundle.ownAtoms own ic X names).filter vx_no
def vx_ot (w : Cond) : Bool := w.onTables || goodWord w
theorem vx_ot_at {args a' : Array Value} {s U : State} {w : Cond} (hW : s.WarmedH U.vm) (hvm : s.vm = U.vm) (hg : vx_ot w = true) (h : w.before args s = true) : w.before a' U = true := by
  simp only [vx_ot, Bool.or_eq_true] at hg
  rcases hg with hg | hg
  · exact va_tabs hg hvm h
  · exact word_at hW (good_of_word hg) h
theorem vx_hat {args : Array Value} {s : State} {L B : List Cond} (h1 : ∀ w ∈ L.filter goodWord, w.before args s = true) (h2 : ∀ w ∈ L.filter (fun w => !goodWord w), w ∈ B) (h3 : ∀ w ∈ B, w.before args s = true) : ∀ w ∈ L, w.before args s = true := by
  intro w hw
  by_cases g : goodWord w = true
  · exact h1 w (List.mem_filter.mpr ⟨hw, g⟩)
  · refine h3 w (h2 w (List.mem_filter.mpr ⟨hw, ?_⟩))
    show (!goodWord w) = true
    cases hgw : goodWord w
    · rfl
    · exact absurd hgw g
theorem vx_c {args : Array Value} {s : State} {w : Cond} {B : List Cond} (h : w.before args s = true) (t : ∀ w ∈ B, w.before args s = true) : ∀ w' ∈ w :: B, w'.before args s = true := fun w' h' => (List.mem_cons.mp h').elim (fun e => by rw [e]; exact h) (t w')
theorem vx_n {args : Array Value} {s : State} : ∀ w ∈ ([] : List Cond), w.before args s = true := fun _ h => nomatch h
theorem vx_own {args : Array Value} {s : State} {L : List Cond} (h1 : ∀ w ∈ L.filter vx_no, w.before args s = true)
    (hU : (Cond.isRef (.static Bundle.tN "UNASSIGNED_STACK" Bundle.steD)).before args s = true) (hN : (Cond.isRef (.static Bundle.tN "SUPPRESSED_SENTINEL" Bundle.listD)).before args s = true)
    (lU : (Cond.laysStatic Bundle.tN "UNASSIGNED_STACK" Bundle.steD).before args s = true) (lN : (Cond.laysStatic Bundle.tN "SUPPRESSED_SENTINEL" Bundle.listD).before args s = true) : ∀ w ∈ L, w.before args s = true := by
  intro w hw
  by_cases e1 : w = .isRef (.static Bundle.tN "UNASSIGNED_STACK" Bundle.steD)
  · rw [e1]; exact hU
  · by_cases e2 : w = .isRef (.static Bundle.tN "SUPPRESSED_SENTINEL" Bundle.listD)
    · rw [e2]; exact hN
    · by_cases e3 : w = .laysStatic Bundle.tN "UNASSIGNED_STACK" Bundle.steD
      · rw [e3]; exact lU
      · by_cases e4 : w = .laysStatic Bundle.tN "SUPPRESSED_SENTINEL" Bundle.listD
        · rw [e4]; exact lN
        · exact h1 w (List.mem_filter.mpr ⟨hw, by unfold vx_no; rw [decide_eq_true e1, decide_eq_true e2, decide_eq_true e3, decide_eq_true e4]; rfl⟩)
def vx_L (C n d : String) (A : Nat → Prop) (U : State) (H : Heap) : Prop := ∃ (c : ClassId) (k : Class) (i : Nat) (f : Field) (a : Nat) (cell : Cell), U.vm.findClass C = some c ∧ U.fieldFound? C n d = some (c, k, i, f) ∧ f.isStatic = true ∧ k.statics = some a ∧ H[a]? = some cell ∧ cell.vm.isStatics = true ∧ cell.cls = c ∧ f.slot < cell.slots.size ∧ k.staticTypes[f.slot]? = some f.type ∧ ¬ A a
theorem vx_L.moved {C n d : String} {A : Nat → Prop} {u U : State} {H : Heap} (hvm : u.vm.Alike U.vm) (h : vx_L C n d A u H) : vx_L C n d A U H := by
  obtain ⟨c, k, i, f, a, cell, h1, h2, h3, h4, h5, h6, h7, h8, h9, h10⟩ := h
  obtain ⟨k', hi', he⟩ := State.fieldFound?_setVm hvm h2
  exact ⟨c, k', i, f, a, cell, by rw [hvm.findClass]; exact h1, hi', h3, by rw [he]; exact h4, h5, h6, h7, h8, by rw [he]; exact h9, h10⟩
theorem vx_L.kept {C n d : String} {A : Nat → Prop} {U : State} {H H1 : Heap} (h : vx_L C n d A U H) (hq : ∀ a : Nat, a < H.size → ¬ A a → H1[a]? = H[a]?) : vx_L C n d A U H1 := by
  obtain ⟨c, k, i, f, a, cell, h1, h2, h3, h4, h5, h6, h7, h8, h9, h10⟩ := h
  exact ⟨c, k, i, f, a, cell, h1, h2, h3, h4, by rw [hq a (Array.getElem?_eq_some_iff.mp h5).1 h10]; exact h5, h6, h7, h8, h9, h10⟩
theorem vx_L.narrow {C n d : String} {A B : Nat → Prop} {U : State} {H : Heap} (h : vx_L C n d A U H) (hAB : ∀ q, B q → A q) : vx_L C n d B U H := by
  obtain ⟨c, k, i, f, a, cell, h1, h2, h3, h4, h5, h6, h7, h8, h9, h10⟩ := h
  exact ⟨c, k, i, f, a, cell, h1, h2, h3, h4, h5, h6, h7, h8, h9, fun z => h10 (hAB _ z)⟩
theorem vx_L.word {C n d : String} {A : Nat → Prop} {s : State} {args : Array Value} (h : vx_L C n d A s s.heap) : (Cond.laysStatic C n d).before args s = true := by
  obtain ⟨c, k, i, f, a, cell, h1, h2, h3, h4, h5, h6, h7, h8, h9, -⟩ := h
  show (Cond.laysStatic C n d).holds args s none s [] = true
  exact Cond.laysStatic_of h1 h2 h3 h4 h5 h6 h7 h8 h9
def vx_Zq (C n d : String) (A : Nat → Prop) (U : State) (H : Heap) : Prop := va_Zq C n d A U H ∧ vx_L C n d A U H
theorem vx_Zq.moved {C n d : String} {A : Nat → Prop} {u U : State} {H : Heap} (hvm : u.vm.Alike U.vm) (h : vx_Zq C n d A u H) : vx_Zq C n d A U H := ⟨va_Zq.moved hvm h.1, vx_L.moved hvm h.2⟩
theorem vx_Zq.kept {C n d : String} {A : Nat → Prop} {U : State} {H H1 : Heap} (h : vx_Zq C n d A U H) (hq : ∀ a : Nat, a < H.size → ¬ A a → H1[a]? = H[a]?) : vx_Zq C n d A U H1 := ⟨va_Zq.kept h.1 hq, vx_L.kept h.2 hq⟩
theorem vx_Zq.narrow {C n d : String} {A B : Nat → Prop} {U : State} {H : Heap} (h : vx_Zq C n d A U H) (hAB : ∀ q, B q → A q) : vx_Zq C n d B U H := ⟨va_Zq.narrow h.1 hAB, vx_L.narrow h.2 hAB⟩
theorem vx_Zqof {args : Array Value} {s : State} {C n d : String} {A : Nat → Prop} (hl : (Cond.laysStatic C n d).before args s = true) (hini : (Cond.initialized C).before args s = true) (h : (Cond.isRef (.static C n d)).before args s = true) (hA : ∀ a : Nat, a < s.heap.size → ¬ A a) : vx_Zq C n d A s s.heap := by
  refine ⟨va_Zqof hl hini h hA, ?_⟩
  obtain ⟨c, k, i, f, a, cell, h1, h2, h3, h4, h5, h6, h7, h8, h9⟩ := Cond.laysStatic_spec hl
  exact ⟨c, k, i, f, a, cell, h1, h2, h3, h4, h5, h6, h7, h8, h9, hA a (Array.getElem?_eq_some_iff.mp h5).1⟩
theorem vx_isRef {C n d : String} {v : Value} {A : Nat → Prop} {s : State} {args : Array Value} (h : va_Z C n d v A s s.heap) (hv : v.isRef = true) : (Cond.isRef (.static C n d)).before args s = true := by
  obtain ⟨cf, kf, fi, f, a, cell, h1, h2, h3, h4, h5, h6, h7, -⟩ := h
  have he : (Term.static C n d).eval args s none [] s = some v := by
    simp [Term.eval, State.fieldNamed?, h1, h2, h4, h5, h6, h7]
  simp only [Cond.before, Cond.holds, Cond.value, he]
  cases v <;> simp_all [Value.isRef]
theorem vx_isRefq {C n d : String} {A : Nat → Prop} {s : State} {args : Array Value} (h : va_Zq C n d A s s.heap) : (Cond.isRef (.static C n d)).before args s = true := by
  rcases h with h | ⟨t, h⟩
  · exact vx_isRef h rfl
  · exact vx_isRef h rfl
theorem vx_rebase {T : State} (X : Stand p l e R s m args below meth c T locs cells slots) {R' : Room} (hf : R'.frames ≤ R.frames) (hl : R'.locals ≤ R.locals) (hc : cells + R'.cells ≤ R.cells) (hs : slots + R'.slots ≤ R.slots) :
    Stand p l e R' ((T.setVm s.vm).setFrames (.invoking m args :: below)) m args below meth c T [] 0 0 := by
  have htop : (T.setVm s.vm).topJava?.isSome := X.here.top
  have hF : ((T.setVm s.vm).setFrames (.invoking m args :: below)).frames = .invoking m args :: below := State.frames_setFrames _ (State.cur_lt_of_top htop)
  obtain ⟨g₀, hg0⟩ := Option.isSome_iff_exists.mp htop
  obtain ⟨r, hr⟩ := State.topJava?_eq_some.mp hg0
  have hl9 : e.platform.stackLimits (T.setVm s.vm).me = e.platform.stackLimits s.me := X.limits
  have hb9 : (T.setVm s.vm).me.stackBytes = s.me.stackBytes := X.bytes
  refine ⟨X.admits, X.cas, X.clock, hF, ?_, X.hears, X.method, X.code, X.here, X.tail, X.warmed, ?_, ?_, ?_⟩
  · have h := X.room
    have hU : ((T.setVm s.vm).setFrames (.invoking m args :: below)).localsInUse = s.localsInUse := by
      rw [State.localsInUse_invoking hF (meth := meth) (c := c) X.method X.code, State.localsInUse_invoking X.frames X.method X.code]
    simp only [State.hasRoom, Bool.and_eq_true, decide_eq_true_eq] at h ⊢
    obtain ⟨⟨⟨⟨h1, h2, h3, h4, h5, h6⟩, h7⟩, h8⟩, h9⟩ := h
    rw [X.frames, List.length_cons] at h2 h3
    have q1 := X.heapSize
    have q2 := X.used
    simp only [hF, hU, List.length_cons, State.stackLimits_setFrames, State.stackBytes_setFrames, hl9, hb9]
    refine ⟨⟨⟨⟨by omega, by omega, by omega, by omega, by omega, h6⟩, ?_⟩, ?_⟩, X.book⟩
    · show T.heap.size + R'.cells ≤ e.platform.maxCells
      omega
    · show T.slotsUsed + R'.slots ≤ e.platform.maxSlots
      omega
  · rw [State.stackLimits_setFrames]; rfl
  · rw [State.stackBytes_setFrames]; rfl
  · refine ⟨?_, Nat.le_refl _, Nat.le_refl _, ?_, ?_, fun a c9 h9 => ⟨c9, h9, rfl, rfl, fun _ _ => rfl⟩⟩
    · obtain ⟨t, ht, -⟩ := State.frames_cons hr
      show T.setVm s.vm = { ((T.setVm s.vm).setFrames (.invoking m args :: below)).setFrames (T.setVm s.vm).frames with heap := T.heap, slotsUsed := T.slotsUsed }
      rw [State.setFrames_setFrames, State.setFrames_self ht]
      rfl
    · show T.slotsUsed = T.slotsUsed + ((T.heap.toList.drop T.heap.size).map (·.slots.size)).sum
      rw [List.drop_eq_nil_of_le (Nat.le_of_eq Array.length_toList)]
      rfl
    · show ((T.heap.toList.drop T.heap.size).map (·.slots.size)).sum ≤ 0
      rw [List.drop_eq_nil_of_le (Nat.le_of_eq Array.length_toList)]
      exact Nat.le_refl _
theorem vx_throw0 {cc : ByteArray} {pc : Nat} (hexec : p.tables.exec = Jvm.exec) (hb : c.code = cc) (hl : l.stackTraces = false) {own cls : String} {names : List String} {ik ic mc ms : Nat} {A : Nat → Prop}
    (hown : s.vm.findClass own = some m.cls) (hcls : Bundle.fit cls = true) (hnames : ∀ n ∈ names, Bundle.fit n = true)
    (hk : (Cond.classLink own ik cls).before args s = true) (hini : (Cond.initialized cls).before args s = true) (hat : ∀ w ∈ vx_at0 own ic cls names, w.before args s = true)
    (hgood : ∀ w ∈ Cond.classLink own ik cls :: Cond.initialized cls :: vx_at0 own ic cls names, vx_ot w = true)
    (hU : vx_Zq Bundle.tN "UNASSIGNED_STACK" Bundle.steD A s s.heap) (hN : vx_Zq Bundle.tN "SUPPRESSED_SENTINEL" Bundle.listD A s s.heap) (hS : va_S A s.heap H locs) (hsize : ls.size = c.maxLocals)
    (d0 : decode cc pc = .ok (.new ik, 3)) (d3 : decode cc (pc + 3) = .ok (.dup, 1)) (d4 : decode cc (pc + 4) = .ok (.invokespecial ic, 3)) (d7 : decode cc (pc + 7) = .ok (.athrow, 1))
    (hout : ∀ x ∈ c.exceptionTable.toList, covers x (pc + 7) = false)
    (hRframes : names.length + 3 < R.frames) (hRlocals : (rest.map fun v => v.category).sum + (13 * (names.length + 1) + 42) ≤ R.locals) (hRcells : cells + 1 ≤ R.cells) (hRslots : slots + 6 ≤ R.slots) (hlocks : meth.locks = false)
    (hx : ∀ t : State, s.vm.Alike t.vm → H.size ≤ t.heap.size → (∀ q : Nat, q < H.size → t.heap[q]? = H[q]?) → XC cls s t)
    (hf : ∀ z ∈ locs, free z.base) (hc : cells + 1 ≤ mc) (hs : slots + 6 ≤ ms) :
    W p l e R s m args below meth c H locs cells slots (vx_MQ below Qc XC args s mc ms free) (F0 m pc ls rest) := by
  intro T hT X
  have htr : e.platform.stackTraces = false := (show e.platform.stackTraces = l.stackTraces by rw [X.admits.platform]).trans hl
  have Y := vx_rebase X (R' := { frames := R.frames, locals := R.locals, cells := 1, slots := 6 }) (Nat.le_refl _) (Nat.le_refl _) hRcells hRslots
  obtain ⟨s', hA⟩ : ∃ z, z = (T.setVm s.vm).setFrames (.invoking m args :: below) := ⟨_, rfl⟩
  rw [← hA] at Y
  have hvm : s'.vm = s.vm := by rw [hA]; rfl
  have hhp : s'.heap = H := by rw [hA]; exact hT
  have hW0 : s.WarmedH s'.vm := by rw [hvm]; exact State.WarmedH.refl s
  have hat' : ∀ w ∈ vx_at0 own ic cls names, w.before args s' = true := fun w hw => vx_ot_at hW0 hvm.symm (hgood w (List.mem_cons_of_mem _ (List.mem_cons_of_mem _ hw))) (hat w hw)
  have hk' : (Cond.classLink own ik cls).before args s' = true := vx_ot_at hW0 hvm.symm (hgood _ List.mem_cons_self) hk
  have hini' : (Cond.initialized cls).before args s' = true := vx_ot_at hW0 hvm.symm (hgood _ (List.mem_cons_of_mem _ List.mem_cons_self)) hini
  have hU' : vx_Zq Bundle.tN "UNASSIGNED_STACK" Bundle.steD A s' s'.heap := by rw [hhp]; exact vx_Zq.moved hW0.alike (hU.kept hS.2.1)
  have hN' : vx_Zq Bundle.tN "SUPPRESSED_SENTINEL" Bundle.listD A s' s'.heap := by rw [hhp]; exact vx_Zq.moved hW0.alike (hN.kept hS.2.1)
  have h : ∀ w ∈ Bundle.ownAtoms0 own ic cls names, w.before args s' = true := vx_own hat' (vx_isRefq hU'.1) (vx_isRefq hN'.1) hU'.2.word hN'.2.word
  have hown' : s'.vm.findClass own = some m.cls := by rw [hvm]; exact hown
  have hins : (Cond.instantiable cls 6).before args s' = true := h _ (by simp [Bundle.ownAtoms0])
  obtain ⟨vm₁, cX, kX, hfX, hkX, -, -, X₁, st1⟩ := Y.newCold hexec (own := own) (C := cls) (index := ik) (n := 6) hown' hk' hins hini'
    (g := F0 m pc ls rest) rfl (by rw [hb]; exact d0) (Nat.le_refl _) (Nat.le_refl _)
  generalize hT1 : (T.setVm vm₁).pushCell { cls := cX, slots := kX.instanceTypes.map defaultValue, vm := .none } = T1 at X₁ st1
  have hcat : (Value.ref T.heap.size).category = 1 := rfl
  have hcellA : T1.heap[T.heap.size]? = some (freshCell cX kX) := by rw [← hT1]; exact State.heap_pushCell_size _ _
  have d3' : decode c.code (pc + 3) = .ok (.dup, 1) := by rw [hb]; exact d3
  obtain ⟨U, hsteps, hrun, hend, hW, hsame, ce, hce, hO⟩ := X₁.ctorThrow0 hexec htr (own := own) (cls := cls) (names := names) (ic := ic) hown' hcls hnames h (fun x hx => nomatch hx) hfX hkX hcellA (by rw [hhp, hT]; exact Nat.le_refl _)
    (g := { method := m, pc := pc + 4, locals := ls, stack := .ref T.heap.size :: .ref T.heap.size :: rest, locked := none }) rfl hsize rfl rfl (rest := rest) rfl
    (by rw [hb]; exact d4) (by rw [hb]; exact d7) hout hRframes (by simp only [List.map_cons, List.sum_cons, hcat]; omega) hlocks
  obtain ⟨f1, f2⟩ := vx_frame hsame
  rw [hhp] at f1 f2
  have hWs : s.WarmedH U.vm := State.WarmedH.trans hW0 hW
  have hcl : s.vm.findClass cls = some ce.cls := by
    have h9 := hO.cls
    rw [hvm] at h9
    exact h9
  have hall : s.sameButNew ({ U with vm := s.vm } : State) locs mc ms := by
    subst hA
    obtain ⟨e1, e2⟩ := hsame
    rw [State.setFrames_setFrames] at e1
    have h2 : (T.setVm s.vm).sameButNew ({ U with vm := s.vm } : State) [] (0 + 1) (0 + 6) := ⟨e1, e2⟩
    have h3 := X.same.trans h2
    rw [List.append_nil] at h3
    exact h3.mono hc hs
  refine ⟨U, ?_, .threw T.heap.size, hrun, hend, Or.inr ⟨T.heap.size, rfl, cls, ce, locs, hx U hWs.alike f1 (fun q hq => f2 q hq (fun z hz => nomatch hz)), hce, hO.vm, hcl, hWs, hall, hf⟩⟩
  refine st1 _ ?_
  show Steps p.tables e below (T1.setTop { method := m, pc := pc + 3, locals := ls, stack := .ref T.heap.size :: rest, locked := none }) _
  jvm_step X₁.here [X₁.here.top, hexec, d3', Value.category]
  exact hsteps
theorem vx_throwS {cc : ByteArray} {pc : Nat} (hexec : p.tables.exec = Jvm.exec) (hb : c.code = cc) (hl : l.stackTraces = false) {own cls text : String} {names : List String} {ik is ic mc ms sa : Nat} {A : Nat → Prop}
    (hown : s.vm.findClass own = some m.cls) (hcls : Bundle.fit cls = true) (hnames : ∀ n ∈ names, Bundle.fit n = true)
    (hk : (Cond.classLink own ik cls).before args s = true) (hini : (Cond.initialized cls).before args s = true) (hstr : vk_R own is text sa s) (hat : ∀ w ∈ vx_atS own ic cls names, w.before args s = true)
    (hgood : ∀ w ∈ Cond.classLink own ik cls :: Cond.initialized cls :: vx_atS own ic cls names, vx_ot w = true)
    (hU : vx_Zq Bundle.tN "UNASSIGNED_STACK" Bundle.steD A s s.heap) (hN : vx_Zq Bundle.tN "SUPPRESSED_SENTINEL" Bundle.listD A s s.heap) (hS : va_S A s.heap H locs) (hsize : ls.size = c.maxLocals)
    (d0 : decode cc pc = .ok (.new ik, 3)) (d3 : decode cc (pc + 3) = .ok (.dup, 1)) (d4 : decode cc (pc + 4) = .ok (.ldc is, 2)) (d6 : decode cc (pc + 6) = .ok (.invokespecial ic, 3)) (d9 : decode cc (pc + 9) = .ok (.athrow, 1))
    (hout : ∀ x ∈ c.exceptionTable.toList, covers x (pc + 9) = false)
    (hRframes : names.length + 3 < R.frames) (hRlocals : (rest.map fun v => v.category).sum + (13 * (names.length + 1) + 43) ≤ R.locals) (hRcells : cells + 1 ≤ R.cells) (hRslots : slots + 6 ≤ R.slots) (hlocks : meth.locks = false)
    (hx : ∀ t : State, s.vm.Alike t.vm → H.size ≤ t.heap.size → (∀ q : Nat, q < H.size → t.heap[q]? = H[q]?) → XC cls s t)
    (hf : ∀ z ∈ locs, free z.base) (hc : cells + 1 ≤ mc) (hs : slots + 6 ≤ ms) :
    W p l e R s m args below meth c H locs cells slots (vx_MQ below Qc XC args s mc ms free) (F0 m pc ls rest) := by
  intro T hT X
  have htr : e.platform.stackTraces = false := (show e.platform.stackTraces = l.stackTraces by rw [X.admits.platform]).trans hl
  have Y := vx_rebase X (R' := { frames := R.frames, locals := R.locals, cells := 1, slots := 6 }) (Nat.le_refl _) (Nat.le_refl _) hRcells hRslots
  obtain ⟨s', hA⟩ : ∃ z, z = (T.setVm s.vm).setFrames (.invoking m args :: below) := ⟨_, rfl⟩
  rw [← hA] at Y
  have hvm : s'.vm = s.vm := by rw [hA]; rfl
  have hhp : s'.heap = H := by rw [hA]; exact hT
  have hW0 : s.WarmedH s'.vm := by rw [hvm]; exact State.WarmedH.refl s
  have hat' : ∀ w ∈ vx_atS own ic cls names, w.before args s' = true := fun w hw => vx_ot_at hW0 hvm.symm (hgood w (List.mem_cons_of_mem _ (List.mem_cons_of_mem _ hw))) (hat w hw)
  have hk' : (Cond.classLink own ik cls).before args s' = true := vx_ot_at hW0 hvm.symm (hgood _ List.mem_cons_self) hk
  have hini' : (Cond.initialized cls).before args s' = true := vx_ot_at hW0 hvm.symm (hgood _ (List.mem_cons_of_mem _ List.mem_cons_self)) hini
  have hU' : vx_Zq Bundle.tN "UNASSIGNED_STACK" Bundle.steD A s' s'.heap := by rw [hhp]; exact vx_Zq.moved hW0.alike (hU.kept hS.2.1)
  have hN' : vx_Zq Bundle.tN "SUPPRESSED_SENTINEL" Bundle.listD A s' s'.heap := by rw [hhp]; exact vx_Zq.moved hW0.alike (hN.kept hS.2.1)
  have h : ∀ w ∈ Bundle.ownAtoms own ic cls names, w.before args s' = true := vx_own hat' (vx_isRefq hU'.1) (vx_isRefq hN'.1) hU'.2.word hN'.2.word
  have hown' : s'.vm.findClass own = some m.cls := by rw [hvm]; exact hown
  have hins : (Cond.instantiable cls 6).before args s' = true := h _ (by simp [Bundle.ownAtoms])
  obtain ⟨vm₁, cX, kX, hfX, hkX, -, -, X₁, st1⟩ := Y.newCold hexec (own := own) (C := cls) (index := ik) (n := 6) hown' hk' hins hini'
    (g := F0 m pc ls rest) rfl (by rw [hb]; exact d0) (Nat.le_refl _) (Nat.le_refl _)
  generalize hT1 : (T.setVm vm₁).pushCell { cls := cX, slots := kX.instanceTypes.map defaultValue, vm := .none } = T1 at X₁ st1
  have hcat : (Value.ref T.heap.size).category = 1 := rfl
  have hcellA : T1.heap[T.heap.size]? = some (freshCell cX kX) := by rw [← hT1]; exact State.heap_pushCell_size _ _
  have d3' : decode c.code (pc + 3) = .ok (.dup, 1) := by rw [hb]; exact d3
  have d4' : decode c.code (pc + 4) = .ok (.ldc is, 2) := by rw [hb]; exact d4
  have hstr' : vk_R own is text sa s' := vk_R.warm hW0 hstr
  obtain ⟨U, hsteps, hrun, hend, hW, hsame, ce, hce, hO⟩ := X₁.ctorThrowS hexec htr (own := own) (cls := cls) (names := names) (ic := ic) hown' hcls hnames h (fun x hx => nomatch hx) hfX hkX hcellA (by rw [hhp, hT]; exact Nat.le_refl _) (msg := .ref sa) rfl
    (g := { method := m, pc := pc + 6, locals := ls, stack := .ref sa :: .ref T.heap.size :: .ref T.heap.size :: rest, locked := none }) rfl hsize rfl rfl (rest := rest) rfl
    (by rw [hb]; exact d6) (by rw [hb]; exact d9) hout hRframes (by simp only [List.map_cons, List.sum_cons, hcat]; omega) hlocks
  obtain ⟨f1, f2⟩ := vx_frame hsame
  rw [hhp] at f1 f2
  have hWs : s.WarmedH U.vm := State.WarmedH.trans hW0 hW
  have hcl : s.vm.findClass cls = some ce.cls := by
    have h9 := hO.cls
    rw [hvm] at h9
    exact h9
  have hall : s.sameButNew ({ U with vm := s.vm } : State) locs mc ms := by
    subst hA
    obtain ⟨e1, e2⟩ := hsame
    rw [State.setFrames_setFrames] at e1
    have h2 : (T.setVm s.vm).sameButNew ({ U with vm := s.vm } : State) [] (0 + 1) (0 + 6) := ⟨e1, e2⟩
    have h3 := X.same.trans h2
    rw [List.append_nil] at h3
    exact h3.mono hc hs
  refine ⟨U, ?_, .threw T.heap.size, hrun, hend, Or.inr ⟨T.heap.size, rfl, cls, ce, locs, hx U hWs.alike f1 (fun q hq => f2 q hq (fun z hz => nomatch hz)), hce, hO.vm, hcl, hWs, hall, hf⟩⟩
  refine st1 _ ?_
  show Steps p.tables e below (T1.setTop { method := m, pc := pc + 3, locals := ls, stack := .ref T.heap.size :: rest, locked := none }) _
  jvm_step X₁.here [X₁.here.top, hexec, d3', Value.category]
  exact X₁.ldcString hexec (own := own) (text := text) (index := is) (a := sa) hown' hstr'.1 hstr'.2
    (g := { method := m, pc := pc + 4, locals := ls, stack := .ref T.heap.size :: .ref T.heap.size :: rest, locked := none }) rfl d4' _ hsteps
theorem vx_throwSW {cc : ByteArray} {pc : Nat} (hexec : p.tables.exec = Jvm.exec) (hb : c.code = cc) (hl : l.stackTraces = false) {own cls text : String} {names : List String} {ik is ic mc ms sa : Nat} {A : Nat → Prop}
    (hown : s.vm.findClass own = some m.cls) (hcls : Bundle.fit cls = true) (hnames : ∀ n ∈ names, Bundle.fit n = true)
    (hk : (Cond.classLink own ik cls).before args s = true) (hini : (Cond.initialized cls).before args s = true) (hstr : vk_R own is text sa s) (hat : ∀ w ∈ vx_atS own ic cls names, w.before args s = true)
    (hgood : ∀ w ∈ Cond.classLink own ik cls :: Cond.initialized cls :: vx_atS own ic cls names, vx_ot w = true)
    (hU : vx_Zq Bundle.tN "UNASSIGNED_STACK" Bundle.steD A s s.heap) (hN : vx_Zq Bundle.tN "SUPPRESSED_SENTINEL" Bundle.listD A s s.heap) (hS : va_S A s.heap H locs) (hsize : ls.size = c.maxLocals)
    (d0 : decode cc pc = .ok (.new ik, 3)) (d3 : decode cc (pc + 3) = .ok (.dup, 1)) (d4 : decode cc (pc + 4) = .ok (.ldc_w is, 3)) (d7 : decode cc (pc + 7) = .ok (.invokespecial ic, 3)) (d10 : decode cc (pc + 10) = .ok (.athrow, 1))
    (hout : ∀ x ∈ c.exceptionTable.toList, covers x (pc + 10) = false)
    (hRframes : names.length + 3 < R.frames) (hRlocals : (rest.map fun v => v.category).sum + (13 * (names.length + 1) + 43) ≤ R.locals) (hRcells : cells + 1 ≤ R.cells) (hRslots : slots + 6 ≤ R.slots) (hlocks : meth.locks = false)
    (hx : ∀ t : State, s.vm.Alike t.vm → H.size ≤ t.heap.size → (∀ q : Nat, q < H.size → t.heap[q]? = H[q]?) → XC cls s t)
    (hf : ∀ z ∈ locs, free z.base) (hc : cells + 1 ≤ mc) (hs : slots + 6 ≤ ms) :
    W p l e R s m args below meth c H locs cells slots (vx_MQ below Qc XC args s mc ms free) (F0 m pc ls rest) := by
  intro T hT X
  have htr : e.platform.stackTraces = false := (show e.platform.stackTraces = l.stackTraces by rw [X.admits.platform]).trans hl
  have Y := vx_rebase X (R' := { frames := R.frames, locals := R.locals, cells := 1, slots := 6 }) (Nat.le_refl _) (Nat.le_refl _) hRcells hRslots
  obtain ⟨s', hA⟩ : ∃ z, z = (T.setVm s.vm).setFrames (.invoking m args :: below) := ⟨_, rfl⟩
  rw [← hA] at Y
  have hvm : s'.vm = s.vm := by rw [hA]; rfl
  have hhp : s'.heap = H := by rw [hA]; exact hT
  have hW0 : s.WarmedH s'.vm := by rw [hvm]; exact State.WarmedH.refl s
  have hat' : ∀ w ∈ vx_atS own ic cls names, w.before args s' = true := fun w hw => vx_ot_at hW0 hvm.symm (hgood w (List.mem_cons_of_mem _ (List.mem_cons_of_mem _ hw))) (hat w hw)
  have hk' : (Cond.classLink own ik cls).before args s' = true := vx_ot_at hW0 hvm.symm (hgood _ List.mem_cons_self) hk
  have hini' : (Cond.initialized cls).before args s' = true := vx_ot_at hW0 hvm.symm (hgood _ (List.mem_cons_of_mem _ List.mem_cons_self)) hini
  have hU' : vx_Zq Bundle.tN "UNASSIGNED_STACK" Bundle.steD A s' s'.heap := by rw [hhp]; exact vx_Zq.moved hW0.alike (hU.kept hS.2.1)
  have hN' : vx_Zq Bundle.tN "SUPPRESSED_SENTINEL" Bundle.listD A s' s'.heap := by rw [hhp]; exact vx_Zq.moved hW0.alike (hN.kept hS.2.1)
  have h : ∀ w ∈ Bundle.ownAtoms own ic cls names, w.before args s' = true := vx_own hat' (vx_isRefq hU'.1) (vx_isRefq hN'.1) hU'.2.word hN'.2.word
  have hown' : s'.vm.findClass own = some m.cls := by rw [hvm]; exact hown
  have hins : (Cond.instantiable cls 6).before args s' = true := h _ (by simp [Bundle.ownAtoms])
  obtain ⟨vm₁, cX, kX, hfX, hkX, -, -, X₁, st1⟩ := Y.newCold hexec (own := own) (C := cls) (index := ik) (n := 6) hown' hk' hins hini'
    (g := F0 m pc ls rest) rfl (by rw [hb]; exact d0) (Nat.le_refl _) (Nat.le_refl _)
  generalize hT1 : (T.setVm vm₁).pushCell { cls := cX, slots := kX.instanceTypes.map defaultValue, vm := .none } = T1 at X₁ st1
  have hcat : (Value.ref T.heap.size).category = 1 := rfl
  have hcellA : T1.heap[T.heap.size]? = some (freshCell cX kX) := by rw [← hT1]; exact State.heap_pushCell_size _ _
  have d3' : decode c.code (pc + 3) = .ok (.dup, 1) := by rw [hb]; exact d3
  have d4' : decode c.code (pc + 4) = .ok (.ldc_w is, 3) := by rw [hb]; exact d4
  have hstr' : vk_R own is text sa s' := vk_R.warm hW0 hstr
  obtain ⟨U, hsteps, hrun, hend, hW, hsame, ce, hce, hO⟩ := X₁.ctorThrowS hexec htr (own := own) (cls := cls) (names := names) (ic := ic) hown' hcls hnames h (fun x hx => nomatch hx) hfX hkX hcellA (by rw [hhp, hT]; exact Nat.le_refl _) (msg := .ref sa) rfl
    (g := { method := m, pc := pc + 7, locals := ls, stack := .ref sa :: .ref T.heap.size :: .ref T.heap.size :: rest, locked := none }) rfl hsize rfl rfl (rest := rest) rfl
    (by rw [hb]; exact d7) (by rw [hb]; exact d10) hout hRframes (by simp only [List.map_cons, List.sum_cons, hcat]; omega) hlocks
  obtain ⟨f1, f2⟩ := vx_frame hsame
  rw [hhp] at f1 f2
  have hWs : s.WarmedH U.vm := State.WarmedH.trans hW0 hW
  have hcl : s.vm.findClass cls = some ce.cls := by
    have h9 := hO.cls
    rw [hvm] at h9
    exact h9
  have hall : s.sameButNew ({ U with vm := s.vm } : State) locs mc ms := by
    subst hA
    obtain ⟨e1, e2⟩ := hsame
    rw [State.setFrames_setFrames] at e1
    have h2 : (T.setVm s.vm).sameButNew ({ U with vm := s.vm } : State) [] (0 + 1) (0 + 6) := ⟨e1, e2⟩
    have h3 := X.same.trans h2
    rw [List.append_nil] at h3
    exact h3.mono hc hs
  refine ⟨U, ?_, .threw T.heap.size, hrun, hend, Or.inr ⟨T.heap.size, rfl, cls, ce, locs, hx U hWs.alike f1 (fun q hq => f2 q hq (fun z hz => nomatch hz)), hce, hO.vm, hcl, hWs, hall, hf⟩⟩
  refine st1 _ ?_
  show Steps p.tables e below (T1.setTop { method := m, pc := pc + 3, locals := ls, stack := .ref T.heap.size :: rest, locked := none }) _
  jvm_step X₁.here [X₁.here.top, hexec, d3', Value.category]
  exact X₁.ldcStringW hexec (own := own) (text := text) (index := is) (a := sa) hown' hstr'.1 hstr'.2
    (g := { method := m, pc := pc + 4, locals := ls, stack := .ref T.heap.size :: .ref T.heap.size :: rest, locked := none }) rfl d4' _ hsteps
end Ends
section Bodies
variable {l : Launch}
theorem vx_ofW {y : MethodName} {ws ws' : List Cond} {rm : Room} {Pc : Array Value → State → Prop} {Qc : Array Value → State → Outcome → State → Prop} {XC : String → State → State → Prop} {mc ms : Nat} {free : Addr → Prop} {cc : ByteArray} {maxL : Nat} {ret : Option FieldType}
    (hy : plainName y.cls = true) (hw : ws = Cond.code y cc maxL ret :: ws')
    (body : ∀ p e s m args below meth c s₁, BodyLoose p l y (headSpec ws rm) cc maxL ret e s m args below meth c s₁ → c.maxLocals = maxL → (∀ x ∈ c.exceptionTable.toList, False) → Pc args s →
      W p l e (headSpec ws rm).room s m args below meth c s.heap [] 0 0 (vx_MQ below Qc XC args s mc ms free) (entryFrame m args maxL)) : vx_Met l y ws rm Pc Qc XC mc ms free := by
  refine MetFree.of_bodyS (code := cc) (maxLocals := maxL) (ret := ret) hy ?_ ?_
  · intro args s m h hn
    obtain ⟨meth, c, h1, h2, h3, h4, h5, h6, -, -⟩ := Cond.code_spec hn (atoms_spec (ws := ws) h _ (by rw [hw]; exact List.mem_cons_self))
    exact ⟨meth, c, h1, h2, h3, h4, h5, h6⟩
  · intro p e s m args below meth c s₁ B hml hP _
    have hh0 : s₁.heap = s.heap := by rw [B.state]; rfl
    have ht : ∀ x ∈ c.exceptionTable.toList, False := by
      obtain ⟨meth9, c9, h1, h2, -, -, -, -, h7, -⟩ := Cond.code_spec B.named (atoms_spec (ws := ws) B.pre _ (by rw [hw]; exact List.mem_cons_self))
      cases Option.some.inj (h1.symm.trans B.method)
      cases Option.some.inj (h2.symm.trans (Stand.of_body B).code)
      intro x hx
      rw [Array.isEmpty_iff.mp h7] at hx
      cases hx
    obtain ⟨t, a1, o, b1, b2, b3⟩ := body p e s m args below meth c s₁ B hml ht hP s₁ hh0 (Stand.of_body B)
    exact ⟨t, o, a1, b1, b2, b3⟩
theorem vx_table {p : Program} {x y : MethodName} {S : Spec} {cc bytes : ByteArray} {maxL maxL' : Nat} {ret ret' : Option FieldType} {e : Env} {s s₁ : State} {m : MethodId} {args : Array Value} {below : List Frame} {meth : Method} {c : Code} {hh : List (Nat × Nat × Nat × Nat)}
    (B : BodyLoose p l y S cc maxL ret e s m args below meth c s₁) (h : (Cond.codeWith y bytes maxL' ret' hh).before args s = true) : c.exceptionTable.toList = tableOf hh := by
  obtain ⟨m9, meth9, c9, hn9, h1, h2, -, -, h6, -⟩ := Cond.codeWith_spec h
  cases Option.some.inj (hn9.symm.trans B.named)
  cases Option.some.inj (h1.symm.trans B.method)
  cases Option.some.inj (h2.symm.trans (Stand.of_body B).code)
  rw [← h6, table_eq]
end Bodies
end VXA
section VXS
variable {p : Program} {l : Launch} {e : Env} {R : Room} {s : State} {m : MethodId} {args : Array Value} {below : List Frame} {meth : Method} {c : Code} {T : State} {H : Heap} {locs : List Loc} {cells slots : Nat}
abbrev vx_CSW (R : Room) (s : State) (args : Array Value) (own : String) (index : Nat) (y : MethodName) (bytes : ByteArray) (maxL : Nat) (ret : Option FieldType) (hh : List (Nat × Nat × Nat × Nat)) (ws : List Cond) (rm : Room) (mc ms n : Nat) : Prop :=
  (rm.cells = mc ∧ rm.slots = ms ∧ rm.frames + 1 ≤ R.frames ∧ 8 + (maxL + 11) + rm.locals ≤ R.locals ∧ (∀ w ∈ ws, ∀ (a' : Array Value) (U : State), s.WarmedH U.vm → w.before a' U = true) ∧ Cond.codeWith y bytes maxL ret hh ∈ ws) ∧
  (Cond.codeWith y bytes maxL ret hh).before args s = true ∧ (Cond.initialized y.cls).before args s = true ∧ (y.cls ≠ "java/lang/invoke/MethodHandle" ∧ y.cls ≠ "java/lang/invoke/VarHandle") ∧
  (∀ sig, parseMethodDescriptor y.desc = some sig → n = sig.parameters.length) ∧ (Cond.methodLink own index y).before args s = true ∧ (Cond.static y).before args s = true
theorem vx_cwSW {own : String} {index maxL mc ms : Nat} {y : MethodName} {bytes : ByteArray} {ret : Option FieldType} {hh : List (Nat × Nat × Nat × Nat)} {Ts ws ws' : List Cond} {rm : Room} (n : Nat) (ht : ∀ w ∈ Ts, w.before args s = true) (hT : GoodIn Ts (va_wsS own index y ws)) (hw : ws = Cond.codeWith y bytes maxL ret hh :: ws') (hrc : rm.cells = mc) (hrs : rm.slots = ms)
    (hd : y.cls ≠ "java/lang/invoke/MethodHandle" ∧ y.cls ≠ "java/lang/invoke/VarHandle" ∧ (parseMethodDescriptor y.desc).map (fun d => d.parameters.length) = some n) (hR : rm.frames + 1 ≤ R.frames ∧ 8 + (maxL + 11) + rm.locals ≤ R.locals) :
    vx_CSW R s args own index y bytes maxL ret hh ws rm mc ms n := by
  have ok : ∀ w ∈ va_wsS own index y ws, w.before args s = true := fun w h => ht w (hT w h).1
  have hG : GoodIn Ts ws := fun w h => hT w (by unfold va_wsS; exact List.mem_append_right _ h)
  have hc : Cond.codeWith y bytes maxL ret hh ∈ ws := by rw [hw]; exact List.mem_cons_self
  refine ⟨⟨hrc, hrs, hR.1, hR.2, pay_in ht hG, hc⟩, ht _ (hG _ hc).1, ok _ (by simp [va_wsS]), ⟨hd.1, hd.2.1⟩, fun sig h => ?_, ok _ (by simp [va_wsS]), ok _ (by simp [va_wsS])⟩
  have h2 := hd.2.2
  rw [h] at h2
  exact (Option.some.inj h2).symm
theorem vx_callSW (X : Stand p l e R s m args below meth c T locs cells slots) (hexec : p.tables.exec = Jvm.exec) {own : String} {index : Nat} {y : MethodName} {bytes : ByteArray} {maxL : Nat} {ret : Option FieldType} {hh : List (Nat × Nat × Nat × Nat)}
    (hown : s.vm.findClass own = some m.cls) (hlink : (Cond.methodLink own index y).before args s = true) (hstat : (Cond.static y).before args s = true) (hinit : (Cond.initialized y.cls).before args s = true)
    (hcode : (Cond.codeWith y bytes maxL ret hh).before args s = true) (hy : y.cls ≠ "java/lang/invoke/MethodHandle" ∧ y.cls ≠ "java/lang/invoke/VarHandle")
    {W9 : Nat} {Pre : Pt → Array Value → Prop} {Post : Pt → Array Value → Option Value → Pt → Prop} (hK : Back l R p e below s args y 3 W9 Pre Post)
    {g : JFrame} (hg : g.method = m) (hsize : g.locals.size = c.maxLocals) {argsL rest : List Value} (hlen : ∀ sig, parseMethodDescriptor y.desc = some sig → argsL.length = sig.parameters.length)
    (hstack : g.stack = argsL.reverse ++ rest) (hW : 2 * g.monitorRoom + (rest.map fun v => v.category).sum ≤ W9) (hdg : decode c.code g.pc = .ok (.invokestatic index, 3))
    (hpre : ∀ vm₁, s.WarmedH vm₁ → Pre ⟨T.setVm vm₁, locs, cells, slots⟩ argsL.toArray) :
    ∃ (v : Option Value) (vm₁ : Vm) (B : Pt), s.WarmedH vm₁ ∧ Stand p l e R s m args below meth c B.U B.locs B.cells B.slots ∧ Post ⟨T.setVm vm₁, locs, cells, slots⟩ argsL.toArray v B ∧
      ∀ target, Steps p.tables e below (B.U.setTop { g with pc := g.pc + 3, stack := v.toList ++ rest }) target → Steps p.tables e below (T.setTop g) target := by
  obtain ⟨mk, methM, cM, hnamed, hmethM, -, -, -, -, -, -, hsigM⟩ := Cond.codeWith_spec hcode
  have hstatic : methM.isStatic = true := Cond.static_spec hnamed hmethM hstat
  obtain ⟨kP, hkP, -⟩ := className_of_methodNamed hnamed
  have hinitP : kP.init = .initialized := Cond.initialized_spec (findClass_of_methodNamed hnamed) hkP hinit
  obtain ⟨vm₁, X₁, hstep₁⟩ := X.invokestatic hexec hown hlink hnamed hmethM hstatic hkP hinitP hy (g := g) hg (argsL := argsL) (rest := rest) (hlen _ hsigM) hstack hdg
  obtain ⟨v, B, X', hpost, hsteps⟩ := hK m meth c ⟨T.setVm vm₁, locs, cells, slots⟩ { g with stack := rest } (.invokestatic index) mk argsL.toArray X₁ hg hsize hdg hW (X₁.named hnamed) (hpre vm₁ X₁.warmed)
  exact ⟨v, vm₁, B, X₁.warmed, X', hpost, fun target h => hstep₁ _ fun acts => by rw [doInvoke_state]; exact hsteps.trans h⟩
theorem vx_runSW {y : MethodName} {bytes cc : ByteArray} {maxL nL mc ms n index : Nat} {ret : Option FieldType} {hh : List (Nat × Nat × Nat × Nat)} {ws : List Cond} {rm : Room} {Pc : Array Value → State → Prop} {Qc : Array Value → State → Outcome → State → Prop} {free : Addr → Prop} {Ts : List Cond} {own : String} {As rest : List Value} {g : JFrame}
    (S : CallFix p m c cc nL s args Ts own) (hM : Met l y ws rm Pc Qc mc ms free) (cw : vx_CSW R s args own index y bytes maxL ret hh ws rm mc ms n) (hp : PreS s H Pc As)
    (hg : g.method = m) (hn : As.length = n) (hsize : g.locals.size = nL) (hstack : g.stack = As.reverse ++ rest) (hW : 2 * g.monitorRoom + (rest.map fun v => v.category).sum ≤ 8) (hdg : decode cc g.pc = .ok (.invokestatic index, 3)) (hf : cells + mc ≤ R.cells ∧ slots + ms ≤ R.slots) :
    va_Run p l e R s m args below meth c H locs cells slots mc ms g rest (Qc As.toArray) (free) := by
  obtain ⟨⟨hrc, hrs, hfr, hlo, hws, hcw⟩, hcode, hini, hy, hlen, hl, hstt⟩ := cw
  have hK : Back l R p e below s args y 3 8 (PreOf R mc ms Pc) (PostOf Qc mc ms free) := va_backW (hh := hh) (bytes := bytes) (maxL := maxL) (ret := ret) hM hp.1 hrc hrs hfr hlo hws hcw (fun a' U hW => word_at hW (Or.inl (by first | rfl | simp [Cond.onTables, Cond.keeps, Cond.steady])) hini)
  obtain ⟨hx, hb, hml, ho, -⟩ := S
  intro T hT X
  obtain ⟨v, vm₁, ⟨U', l2, c2, s2⟩, hW₁, X', ⟨g', mk, t, L, e1, e2, hq, h1, hL, h2, h3⟩, st⟩ := vx_callSW X hx (hh := hh) (bytes := bytes) (maxL := maxL) (ret := ret) ho hl hstt hini hcode hy hK hg (hsize.trans hml.symm) (argsL := As) (rest := rest) (fun sig h => hn.trans (hlen sig h)) hstack hW (by rw [hb]; exact hdg)
    (fun vm₁ hW₁ => ⟨hf.1, hf.2, hp.2 (T.setVm vm₁) hT hW₁⟩)
  dsimp only [Pt.U, Pt.locs, Pt.cells, Pt.slots] at X' e1 e2 h1 h2 h3 st
  subst h1; subst h2; subst h3
  exact ⟨v, (T.setVm vm₁).calling g' mk As.toArray, t, U', L, hT, X', hL, e1, e2, hq, st⟩
theorem vx_lt {D : va_G} {cl : List vw_C} {ws : va_W} {H1 : Heap} (h : va_P D cl ws H1) {k : Nat} {q : Nat × va_E} (hk : ws[k]? = some q) : q.1 < H1.size := (h k q hk).lt
end VXS
end
section
/-! what a throw of 'cycle' needs of the start -/
abbrev AE : String := "java/lang/ArithmeticException"
def thC : List Cond := vx_atS RX2 107 AE ["java/lang/RuntimeException", "java/lang/Exception"]
def okT (w : Cond) : Bool := goodWord w || (match w with
  | .castable _ _ => true
  | .declares _ => true
  | _ => false)
theorem nw_warm {s U : State} {w : Cond} (hW : s.WarmedH U.vm) (ok : okT w = true) (h : va_Nw w s) : va_Nw w U := by
  by_cases hg : goodWord w = true
  · exact word_at hW (good_of_word hg) h
  · cases w with
    | castable C T => exact va_Nw.warmC hW h
    | declares x => exact va_Nw.warmD hW h
    | _ => simp [okT, hg] at ok
theorem thC_ok : ∀ w ∈ thC, okT w = true := by decide +kernel
theorem thC_in : ∀ w ∈ thC, w ∈ lw_tbl := by decide +kernel
def thW (A : Nat → Prop) (H : Heap) (U : State) : Prop :=
  vx_Zq Bundle.tN "UNASSIGNED_STACK" Bundle.steD A U H ∧ vx_Zq Bundle.tN "SUPPRESSED_SENTINEL" Bundle.listD A U H ∧ (∃ sa, vk_R RX2 105 "a piece of the chain has no period" sa U) ∧ (∀ w ∈ thC, va_Nw w U) ∧
  va_Nw (.classLink RX2 103 AE) U ∧ va_Nw (.initialized AE) U ∧ va_Nw (.castable AE AE) U ∧ va_Nw (.classLink RL 13 AE) U
theorem thW.warm {A : Nat → Prop} {H : Heap} {s U : State} (hW : s.WarmedH U.vm) (h : thW A H s) : thW A H U := by
  obtain ⟨h1, h2, ⟨sa, h3⟩, h4, h5, h6, h7, h8⟩ := h
  exact ⟨vx_Zq.moved hW.alike h1, vx_Zq.moved hW.alike h2, ⟨sa, vk_R.warm hW h3⟩, fun w hw => nw_warm hW (thC_ok w hw) (h4 w hw), nw_warm hW (by decide +kernel) h5, nw_warm hW (by decide +kernel) h6, nw_warm hW (by decide +kernel) h7, nw_warm hW (by decide +kernel) h8⟩
theorem thW.kept {A : Nat → Prop} {H H1 : Heap} {U : State} (h : thW A H U) (hq : ∀ a : Nat, a < H.size → ¬ A a → H1[a]? = H[a]?) : thW A H1 U := ⟨h.1.kept hq, h.2.1.kept hq, h.2.2⟩
def th_Pc (A : Nat → Prop) (D : va_G) (cl : List vw_C) (tys : List (ClassId × FieldType)) (H0 : Heap) (av : List Value) : Array Value → State → Prop := va_Pc av (fun U => U.heap = H0 ∧ va_K D cl tys U ∧ nsW U ∧ thW A H0 U)
theorem th_blind {A : Nat → Prop} {D : va_G} {cl : List vw_C} {tys : List (ClassId × FieldType)} {H0 : Heap} {av : List Value} : FrameBlind (th_Pc A D cl tys H0 av) := fun a U g mk q => ⟨q.1, q.2.1, va_K.moved (u := U) (U := U.calling g mk a) (Vm.Alike.refl U.vm) q.2.2.1, nsW.warm (s := U) (U := U.calling g mk a) (State.WarmedH.refl U) q.2.2.2.1, thW.warm (s := U) (U := U.calling g mk a) (State.WarmedH.refl U) q.2.2.2.2⟩
theorem th_S {A : Nat → Prop} {D : va_G} {cl : List vw_C} {tys : List (ClassId × FieldType)} {s : State} {H : Heap} {av : List Value} (hK : va_K D cl tys s) (hN : nsW s) (hT : thW A H s) : PreS s H (th_Pc A D cl tys H av) av := ⟨th_blind, fun U hU hW => ⟨rfl, hU, va_K.moved hW.alike hK, nsW.warm hW hN, thW.warm hW hT⟩⟩
theorem th_V {A : Nat → Prop} {D : va_G} {cl : List vw_C} {tys : List (ClassId × FieldType)} {s : State} {H : Heap} {av : List Value} {b ci N : Nat} {C : String} {T : u_T} {fs : List Value} (hK : va_K D cl tys s) (hN : nsW s) (hT : thW A H s) (hP : va_at D cl (b, .inr (ci, fs)) H) (hc : cl[ci]? = some (C, T, N)) : PreV s H C b (th_Pc A D cl tys H (.ref b :: av)) av := ⟨th_blind, va_recv hK (va_one hP) hc (q0 := 0) rfl, fun U hU hW => ⟨rfl, hU, va_K.moved hW.alike hK, nsW.warm hW hN, thW.warm hW hT⟩⟩
theorem thC_ot : ∀ w ∈ Cond.classLink RX2 103 AE :: Cond.initialized AE :: thC, vx_ot w = true := by decide +kernel
theorem tL_7 : (.methodLink RL 7 yX2_cycle : Cond) ∈ gT := by decide +kernel
theorem tL_c : (.codeWith yL_cycle cL_cycle 4 (some .int) [(0, 8, 11, 13)] : Cond) ∈ gT := by decide +kernel
end
section
theorem dL_cycle_0 : decode cL_cycle 0 = .ok (.aload_n 2, 1) := by decide +kernel
theorem dL_cycle_1 : decode cL_cycle 1 = .ok (.iconst 0, 1) := by decide +kernel
theorem dL_cycle_2 : decode cL_cycle 2 = .ok (.aload_n 0, 1) := by decide +kernel
theorem dL_cycle_3 : decode cL_cycle 3 = .ok (.iload_n 1, 1) := by decide +kernel
theorem dL_cycle_4 : decode cL_cycle 4 = .ok (.invokevirtual 7, 3) := by decide +kernel
theorem dL_cycle_7 : decode cL_cycle 7 = .ok (.lastore, 1) := by decide +kernel
theorem dL_cycle_8 : decode cL_cycle 8 = .ok (.goto 6, 3) := by decide +kernel
theorem dL_cycle_11 : decode cL_cycle 11 = .ok (.astore_n 3, 1) := by decide +kernel
theorem dL_cycle_12 : decode cL_cycle 12 = .ok (.iconst 1, 1) := by decide +kernel
theorem dL_cycle_13 : decode cL_cycle 13 = .ok (.ireturn, 1) := by decide +kernel
theorem dL_cycle_14 : decode cL_cycle 14 = .ok (.iconst 0, 1) := by decide +kernel
theorem dL_cycle_15 : decode cL_cycle 15 = .ok (.ireturn, 1) := by decide +kernel
theorem dL_law_40 : decode cL_law 40 = .ok (.tableswitch 684 0 10 #[60, 173, 186, 251, 305, 359, 472, 541, 578, 633, 659], 60) := by decide +kernel
theorem dL_law_0 : decode cL_law 0 = .ok (.new 8, 3) := by decide +kernel
theorem dL_law_3 : decode cL_law 3 = .ok (.dup, 1) := by decide +kernel
theorem dL_law_4 : decode cL_law 4 = .ok (.invokespecial 15, 3) := by decide +kernel
theorem dL_law_7 : decode cL_law 7 = .ok (.astore_n 1, 1) := by decide +kernel
theorem dL_law_8 : decode cL_law 8 = .ok (.new 16, 3) := by decide +kernel
theorem dL_law_11 : decode cL_law 11 = .ok (.dup, 1) := by decide +kernel
theorem dL_law_12 : decode cL_law 12 = .ok (.invokespecial 18, 3) := by decide +kernel
theorem dL_law_15 : decode cL_law 15 = .ok (.astore_n 2, 1) := by decide +kernel
theorem dL_law_16 : decode cL_law 16 = .ok (.iconst 1, 1) := by decide +kernel
theorem dL_law_17 : decode cL_law 17 = .ok (.newarray .long, 2) := by decide +kernel
theorem dL_law_19 : decode cL_law 19 = .ok (.astore_n 3, 1) := by decide +kernel
theorem dL_law_20 : decode cL_law 20 = .ok (.iconst 0, 1) := by decide +kernel
theorem dL_law_21 : decode cL_law 21 = .ok (.istore 4, 2) := by decide +kernel
theorem dL_law_23 : decode cL_law 23 = .ok (.iload 4, 2) := by decide +kernel
theorem dL_law_25 : decode cL_law 25 = .ok (.aload_n 0, 1) := by decide +kernel
theorem dL_law_26 : decode cL_law 26 = .ok (.arraylength, 1) := by decide +kernel
theorem dL_law_27 : decode cL_law 27 = .ok (.bipush 6, 2) := by decide +kernel
theorem dL_law_29 : decode cL_law 29 = .ok (.isub, 1) := by decide +kernel
theorem dL_law_30 : decode cL_law 30 = .ok (.if_icmp .gt 700, 3) := by decide +kernel
theorem dL_law_33 : decode cL_law 33 = .ok (.aload_n 0, 1) := by decide +kernel
theorem dL_law_34 : decode cL_law 34 = .ok (.iload 4, 2) := by decide +kernel
theorem dL_law_36 : decode cL_law 36 = .ok (.iaload, 1) := by decide +kernel
theorem dL_law_37 : decode cL_law 37 = .ok (.bipush 15, 2) := by decide +kernel
theorem dL_law_39 : decode cL_law 39 = .ok (.iand, 1) := by decide +kernel
theorem dL_law_100 : decode cL_law 100 = .ok (.aload_n 1, 1) := by decide +kernel
theorem dL_law_101 : decode cL_law 101 = .ok (.aload_n 0, 1) := by decide +kernel
theorem dL_law_102 : decode cL_law 102 = .ok (.iload 4, 2) := by decide +kernel
theorem dL_law_104 : decode cL_law 104 = .ok (.iconst 1, 1) := by decide +kernel
theorem dL_law_105 : decode cL_law 105 = .ok (.iadd, 1) := by decide +kernel
theorem dL_law_106 : decode cL_law 106 = .ok (.iaload, 1) := by decide +kernel
theorem dL_law_107 : decode cL_law 107 = .ok (.aload_n 0, 1) := by decide +kernel
theorem dL_law_108 : decode cL_law 108 = .ok (.iload 4, 2) := by decide +kernel
theorem dL_law_110 : decode cL_law 110 = .ok (.iconst 2, 1) := by decide +kernel
theorem dL_law_111 : decode cL_law 111 = .ok (.iadd, 1) := by decide +kernel
theorem dL_law_112 : decode cL_law 112 = .ok (.iaload, 1) := by decide +kernel
theorem dL_law_113 : decode cL_law 113 = .ok (.i2l, 1) := by decide +kernel
theorem dL_law_114 : decode cL_law 114 = .ok (.bipush 32, 2) := by decide +kernel
theorem dL_law_116 : decode cL_law 116 = .ok (.lshl, 1) := by decide +kernel
theorem dL_law_117 : decode cL_law 117 = .ok (.aload_n 0, 1) := by decide +kernel
theorem dL_law_118 : decode cL_law 118 = .ok (.iload 4, 2) := by decide +kernel
theorem dL_law_120 : decode cL_law 120 = .ok (.iconst 3, 1) := by decide +kernel
theorem dL_law_121 : decode cL_law 121 = .ok (.iadd, 1) := by decide +kernel
theorem dL_law_122 : decode cL_law 122 = .ok (.iaload, 1) := by decide +kernel
theorem dL_law_123 : decode cL_law 123 = .ok (.i2l, 1) := by decide +kernel
theorem dL_law_124 : decode cL_law 124 = .ok (.ldc2_w 19, 3) := by decide +kernel
theorem dL_law_127 : decode cL_law 127 = .ok (.land, 1) := by decide +kernel
theorem dL_law_128 : decode cL_law 128 = .ok (.lor, 1) := by decide +kernel
theorem dL_law_129 : decode cL_law 129 = .ok (.aload_n 0, 1) := by decide +kernel
theorem dL_law_130 : decode cL_law 130 = .ok (.iload 4, 2) := by decide +kernel
theorem dL_law_132 : decode cL_law 132 = .ok (.iconst 4, 1) := by decide +kernel
theorem dL_law_133 : decode cL_law 133 = .ok (.iadd, 1) := by decide +kernel
theorem dL_law_134 : decode cL_law 134 = .ok (.iaload, 1) := by decide +kernel
theorem dL_law_135 : decode cL_law 135 = .ok (.i2l, 1) := by decide +kernel
theorem dL_law_136 : decode cL_law 136 = .ok (.bipush 32, 2) := by decide +kernel
theorem dL_law_138 : decode cL_law 138 = .ok (.lshl, 1) := by decide +kernel
theorem dL_law_139 : decode cL_law 139 = .ok (.aload_n 0, 1) := by decide +kernel
theorem dL_law_140 : decode cL_law 140 = .ok (.iload 4, 2) := by decide +kernel
theorem dL_law_142 : decode cL_law 142 = .ok (.iconst 5, 1) := by decide +kernel
theorem dL_law_143 : decode cL_law 143 = .ok (.iadd, 1) := by decide +kernel
theorem dL_law_144 : decode cL_law 144 = .ok (.iaload, 1) := by decide +kernel
theorem dL_law_145 : decode cL_law 145 = .ok (.i2l, 1) := by decide +kernel
theorem dL_law_146 : decode cL_law 146 = .ok (.ldc2_w 19, 3) := by decide +kernel
theorem dL_law_149 : decode cL_law 149 = .ok (.land, 1) := by decide +kernel
theorem dL_law_150 : decode cL_law 150 = .ok (.lor, 1) := by decide +kernel
theorem dL_law_151 : decode cL_law 151 = .ok (.invokevirtual 21, 3) := by decide +kernel
theorem dL_law_154 : decode cL_law 154 = .ok (.aload_n 2, 1) := by decide +kernel
theorem dL_law_155 : decode cL_law 155 = .ok (.aload_n 0, 1) := by decide +kernel
theorem dL_law_156 : decode cL_law 156 = .ok (.iload 4, 2) := by decide +kernel
theorem dL_law_158 : decode cL_law 158 = .ok (.iconst 1, 1) := by decide +kernel
theorem dL_law_159 : decode cL_law 159 = .ok (.iadd, 1) := by decide +kernel
theorem dL_law_160 : decode cL_law 160 = .ok (.iaload, 1) := by decide +kernel
theorem dL_law_161 : decode cL_law 161 = .ok (.aload_n 0, 1) := by decide +kernel
theorem dL_law_162 : decode cL_law 162 = .ok (.iload 4, 2) := by decide +kernel
theorem dL_law_164 : decode cL_law 164 = .ok (.iconst 2, 1) := by decide +kernel
theorem dL_law_165 : decode cL_law 165 = .ok (.iadd, 1) := by decide +kernel
theorem dL_law_166 : decode cL_law 166 = .ok (.iaload, 1) := by decide +kernel
theorem dL_law_167 : decode cL_law 167 = .ok (.i2l, 1) := by decide +kernel
theorem dL_law_168 : decode cL_law 168 = .ok (.bipush 32, 2) := by decide +kernel
theorem dL_law_170 : decode cL_law 170 = .ok (.lshl, 1) := by decide +kernel
theorem dL_law_171 : decode cL_law 171 = .ok (.aload_n 0, 1) := by decide +kernel
theorem dL_law_172 : decode cL_law 172 = .ok (.iload 4, 2) := by decide +kernel
theorem dL_law_174 : decode cL_law 174 = .ok (.iconst 3, 1) := by decide +kernel
theorem dL_law_175 : decode cL_law 175 = .ok (.iadd, 1) := by decide +kernel
theorem dL_law_176 : decode cL_law 176 = .ok (.iaload, 1) := by decide +kernel
theorem dL_law_177 : decode cL_law 177 = .ok (.i2l, 1) := by decide +kernel
theorem dL_law_178 : decode cL_law 178 = .ok (.ldc2_w 19, 3) := by decide +kernel
theorem dL_law_181 : decode cL_law 181 = .ok (.land, 1) := by decide +kernel
theorem dL_law_182 : decode cL_law 182 = .ok (.lor, 1) := by decide +kernel
theorem dL_law_183 : decode cL_law 183 = .ok (.aload_n 0, 1) := by decide +kernel
theorem dL_law_184 : decode cL_law 184 = .ok (.iload 4, 2) := by decide +kernel
theorem dL_law_186 : decode cL_law 186 = .ok (.iconst 4, 1) := by decide +kernel
theorem dL_law_187 : decode cL_law 187 = .ok (.iadd, 1) := by decide +kernel
theorem dL_law_188 : decode cL_law 188 = .ok (.iaload, 1) := by decide +kernel
theorem dL_law_189 : decode cL_law 189 = .ok (.i2l, 1) := by decide +kernel
theorem dL_law_190 : decode cL_law 190 = .ok (.bipush 32, 2) := by decide +kernel
theorem dL_law_192 : decode cL_law 192 = .ok (.lshl, 1) := by decide +kernel
theorem dL_law_193 : decode cL_law 193 = .ok (.aload_n 0, 1) := by decide +kernel
theorem dL_law_194 : decode cL_law 194 = .ok (.iload 4, 2) := by decide +kernel
theorem dL_law_196 : decode cL_law 196 = .ok (.iconst 5, 1) := by decide +kernel
theorem dL_law_197 : decode cL_law 197 = .ok (.iadd, 1) := by decide +kernel
theorem dL_law_198 : decode cL_law 198 = .ok (.iaload, 1) := by decide +kernel
theorem dL_law_199 : decode cL_law 199 = .ok (.i2l, 1) := by decide +kernel
theorem dL_law_200 : decode cL_law 200 = .ok (.ldc2_w 19, 3) := by decide +kernel
theorem dL_law_203 : decode cL_law 203 = .ok (.land, 1) := by decide +kernel
theorem dL_law_204 : decode cL_law 204 = .ok (.lor, 1) := by decide +kernel
theorem dL_law_205 : decode cL_law 205 = .ok (.invokevirtual 25, 3) := by decide +kernel
theorem dL_law_208 : decode cL_law 208 = .ok (.if_icmp .eq 516, 3) := by decide +kernel
theorem dL_law_211 : decode cL_law 211 = .ok (.iconst 0, 1) := by decide +kernel
theorem dL_law_212 : decode cL_law 212 = .ok (.ireturn, 1) := by decide +kernel
end
section
theorem dL_law_213 : decode cL_law 213 = .ok (.aload_n 1, 1) := by decide +kernel
theorem dL_law_214 : decode cL_law 214 = .ok (.invokevirtual 26, 3) := by decide +kernel
theorem dL_law_217 : decode cL_law 217 = .ok (.aload_n 2, 1) := by decide +kernel
theorem dL_law_218 : decode cL_law 218 = .ok (.invokevirtual 30, 3) := by decide +kernel
theorem dL_law_221 : decode cL_law 221 = .ok (.if_icmp .eq 503, 3) := by decide +kernel
theorem dL_law_224 : decode cL_law 224 = .ok (.iconst 0, 1) := by decide +kernel
theorem dL_law_225 : decode cL_law 225 = .ok (.ireturn, 1) := by decide +kernel
theorem dL_law_226 : decode cL_law 226 = .ok (.aload_n 1, 1) := by decide +kernel
theorem dL_law_227 : decode cL_law 227 = .ok (.aload_n 0, 1) := by decide +kernel
theorem dL_law_228 : decode cL_law 228 = .ok (.iload 4, 2) := by decide +kernel
theorem dL_law_230 : decode cL_law 230 = .ok (.iconst 1, 1) := by decide +kernel
theorem dL_law_231 : decode cL_law 231 = .ok (.iadd, 1) := by decide +kernel
theorem dL_law_232 : decode cL_law 232 = .ok (.iaload, 1) := by decide +kernel
theorem dL_law_233 : decode cL_law 233 = .ok (.aload_n 0, 1) := by decide +kernel
theorem dL_law_234 : decode cL_law 234 = .ok (.iload 4, 2) := by decide +kernel
theorem dL_law_236 : decode cL_law 236 = .ok (.iconst 2, 1) := by decide +kernel
theorem dL_law_237 : decode cL_law 237 = .ok (.iadd, 1) := by decide +kernel
theorem dL_law_238 : decode cL_law 238 = .ok (.iaload, 1) := by decide +kernel
theorem dL_law_239 : decode cL_law 239 = .ok (.aload_n 0, 1) := by decide +kernel
theorem dL_law_240 : decode cL_law 240 = .ok (.iload 4, 2) := by decide +kernel
theorem dL_law_242 : decode cL_law 242 = .ok (.iconst 3, 1) := by decide +kernel
theorem dL_law_243 : decode cL_law 243 = .ok (.iadd, 1) := by decide +kernel
theorem dL_law_244 : decode cL_law 244 = .ok (.iaload, 1) := by decide +kernel
theorem dL_law_245 : decode cL_law 245 = .ok (.ifCond .eq 7, 3) := by decide +kernel
theorem dL_law_248 : decode cL_law 248 = .ok (.iconst 1, 1) := by decide +kernel
theorem dL_law_249 : decode cL_law 249 = .ok (.goto 4, 3) := by decide +kernel
theorem dL_law_252 : decode cL_law 252 = .ok (.iconst 0, 1) := by decide +kernel
theorem dL_law_253 : decode cL_law 253 = .ok (.invokevirtual 31, 3) := by decide +kernel
theorem dL_law_256 : decode cL_law 256 = .ok (.aload_n 2, 1) := by decide +kernel
theorem dL_law_257 : decode cL_law 257 = .ok (.aload_n 0, 1) := by decide +kernel
theorem dL_law_258 : decode cL_law 258 = .ok (.iload 4, 2) := by decide +kernel
theorem dL_law_260 : decode cL_law 260 = .ok (.iconst 1, 1) := by decide +kernel
theorem dL_law_261 : decode cL_law 261 = .ok (.iadd, 1) := by decide +kernel
theorem dL_law_262 : decode cL_law 262 = .ok (.iaload, 1) := by decide +kernel
theorem dL_law_263 : decode cL_law 263 = .ok (.aload_n 0, 1) := by decide +kernel
theorem dL_law_264 : decode cL_law 264 = .ok (.iload 4, 2) := by decide +kernel
theorem dL_law_266 : decode cL_law 266 = .ok (.iconst 2, 1) := by decide +kernel
theorem dL_law_267 : decode cL_law 267 = .ok (.iadd, 1) := by decide +kernel
theorem dL_law_268 : decode cL_law 268 = .ok (.iaload, 1) := by decide +kernel
theorem dL_law_269 : decode cL_law 269 = .ok (.aload_n 0, 1) := by decide +kernel
theorem dL_law_270 : decode cL_law 270 = .ok (.iload 4, 2) := by decide +kernel
theorem dL_law_272 : decode cL_law 272 = .ok (.iconst 3, 1) := by decide +kernel
theorem dL_law_273 : decode cL_law 273 = .ok (.iadd, 1) := by decide +kernel
theorem dL_law_274 : decode cL_law 274 = .ok (.iaload, 1) := by decide +kernel
theorem dL_law_275 : decode cL_law 275 = .ok (.ifCond .eq 7, 3) := by decide +kernel
theorem dL_law_278 : decode cL_law 278 = .ok (.iconst 1, 1) := by decide +kernel
theorem dL_law_279 : decode cL_law 279 = .ok (.goto 4, 3) := by decide +kernel
theorem dL_law_282 : decode cL_law 282 = .ok (.iconst 0, 1) := by decide +kernel
theorem dL_law_283 : decode cL_law 283 = .ok (.invokevirtual 35, 3) := by decide +kernel
theorem dL_law_286 : decode cL_law 286 = .ok (.if_icmp .eq 438, 3) := by decide +kernel
theorem dL_law_289 : decode cL_law 289 = .ok (.iconst 0, 1) := by decide +kernel
theorem dL_law_290 : decode cL_law 290 = .ok (.ireturn, 1) := by decide +kernel
theorem dL_law_291 : decode cL_law 291 = .ok (.aload_n 1, 1) := by decide +kernel
theorem dL_law_292 : decode cL_law 292 = .ok (.aload_n 0, 1) := by decide +kernel
theorem dL_law_293 : decode cL_law 293 = .ok (.iload 4, 2) := by decide +kernel
theorem dL_law_295 : decode cL_law 295 = .ok (.iconst 1, 1) := by decide +kernel
theorem dL_law_296 : decode cL_law 296 = .ok (.iadd, 1) := by decide +kernel
theorem dL_law_297 : decode cL_law 297 = .ok (.iaload, 1) := by decide +kernel
theorem dL_law_298 : decode cL_law 298 = .ok (.aload_n 0, 1) := by decide +kernel
theorem dL_law_299 : decode cL_law 299 = .ok (.iload 4, 2) := by decide +kernel
theorem dL_law_301 : decode cL_law 301 = .ok (.iconst 2, 1) := by decide +kernel
theorem dL_law_302 : decode cL_law 302 = .ok (.iadd, 1) := by decide +kernel
theorem dL_law_303 : decode cL_law 303 = .ok (.iaload, 1) := by decide +kernel
theorem dL_law_304 : decode cL_law 304 = .ok (.ifCond .eq 7, 3) := by decide +kernel
theorem dL_law_307 : decode cL_law 307 = .ok (.iconst 1, 1) := by decide +kernel
theorem dL_law_308 : decode cL_law 308 = .ok (.goto 4, 3) := by decide +kernel
theorem dL_law_311 : decode cL_law 311 = .ok (.iconst 0, 1) := by decide +kernel
theorem dL_law_312 : decode cL_law 312 = .ok (.invokevirtual 36, 3) := by decide +kernel
theorem dL_law_315 : decode cL_law 315 = .ok (.aload_n 2, 1) := by decide +kernel
theorem dL_law_316 : decode cL_law 316 = .ok (.aload_n 0, 1) := by decide +kernel
theorem dL_law_317 : decode cL_law 317 = .ok (.iload 4, 2) := by decide +kernel
theorem dL_law_319 : decode cL_law 319 = .ok (.iconst 1, 1) := by decide +kernel
theorem dL_law_320 : decode cL_law 320 = .ok (.iadd, 1) := by decide +kernel
theorem dL_law_321 : decode cL_law 321 = .ok (.iaload, 1) := by decide +kernel
theorem dL_law_322 : decode cL_law 322 = .ok (.aload_n 0, 1) := by decide +kernel
theorem dL_law_323 : decode cL_law 323 = .ok (.iload 4, 2) := by decide +kernel
theorem dL_law_325 : decode cL_law 325 = .ok (.iconst 2, 1) := by decide +kernel
theorem dL_law_326 : decode cL_law 326 = .ok (.iadd, 1) := by decide +kernel
theorem dL_law_327 : decode cL_law 327 = .ok (.iaload, 1) := by decide +kernel
theorem dL_law_328 : decode cL_law 328 = .ok (.ifCond .eq 7, 3) := by decide +kernel
theorem dL_law_331 : decode cL_law 331 = .ok (.iconst 1, 1) := by decide +kernel
theorem dL_law_332 : decode cL_law 332 = .ok (.goto 4, 3) := by decide +kernel
theorem dL_law_335 : decode cL_law 335 = .ok (.iconst 0, 1) := by decide +kernel
theorem dL_law_336 : decode cL_law 336 = .ok (.invokevirtual 40, 3) := by decide +kernel
theorem dL_law_339 : decode cL_law 339 = .ok (.lcmp, 1) := by decide +kernel
theorem dL_law_340 : decode cL_law 340 = .ok (.ifCond .eq 384, 3) := by decide +kernel
theorem dL_law_343 : decode cL_law 343 = .ok (.iconst 0, 1) := by decide +kernel
theorem dL_law_344 : decode cL_law 344 = .ok (.ireturn, 1) := by decide +kernel
theorem dL_law_345 : decode cL_law 345 = .ok (.aload_n 1, 1) := by decide +kernel
theorem dL_law_346 : decode cL_law 346 = .ok (.aload_n 0, 1) := by decide +kernel
theorem dL_law_347 : decode cL_law 347 = .ok (.iload 4, 2) := by decide +kernel
theorem dL_law_349 : decode cL_law 349 = .ok (.iconst 1, 1) := by decide +kernel
theorem dL_law_350 : decode cL_law 350 = .ok (.iadd, 1) := by decide +kernel
theorem dL_law_351 : decode cL_law 351 = .ok (.iaload, 1) := by decide +kernel
theorem dL_law_352 : decode cL_law 352 = .ok (.aload_n 0, 1) := by decide +kernel
theorem dL_law_353 : decode cL_law 353 = .ok (.iload 4, 2) := by decide +kernel
theorem dL_law_355 : decode cL_law 355 = .ok (.iconst 2, 1) := by decide +kernel
theorem dL_law_356 : decode cL_law 356 = .ok (.iadd, 1) := by decide +kernel
theorem dL_law_357 : decode cL_law 357 = .ok (.iaload, 1) := by decide +kernel
theorem dL_law_358 : decode cL_law 358 = .ok (.ifCond .eq 7, 3) := by decide +kernel
theorem dL_law_361 : decode cL_law 361 = .ok (.iconst 1, 1) := by decide +kernel
theorem dL_law_362 : decode cL_law 362 = .ok (.goto 4, 3) := by decide +kernel
theorem dL_law_365 : decode cL_law 365 = .ok (.iconst 0, 1) := by decide +kernel
theorem dL_law_366 : decode cL_law 366 = .ok (.invokevirtual 41, 3) := by decide +kernel
theorem dL_law_369 : decode cL_law 369 = .ok (.aload_n 2, 1) := by decide +kernel
theorem dL_law_370 : decode cL_law 370 = .ok (.aload_n 0, 1) := by decide +kernel
theorem dL_law_371 : decode cL_law 371 = .ok (.iload 4, 2) := by decide +kernel
theorem dL_law_373 : decode cL_law 373 = .ok (.iconst 1, 1) := by decide +kernel
theorem dL_law_374 : decode cL_law 374 = .ok (.iadd, 1) := by decide +kernel
theorem dL_law_375 : decode cL_law 375 = .ok (.iaload, 1) := by decide +kernel
theorem dL_law_376 : decode cL_law 376 = .ok (.aload_n 0, 1) := by decide +kernel
theorem dL_law_377 : decode cL_law 377 = .ok (.iload 4, 2) := by decide +kernel
theorem dL_law_379 : decode cL_law 379 = .ok (.iconst 2, 1) := by decide +kernel
theorem dL_law_380 : decode cL_law 380 = .ok (.iadd, 1) := by decide +kernel
theorem dL_law_381 : decode cL_law 381 = .ok (.iaload, 1) := by decide +kernel
theorem dL_law_382 : decode cL_law 382 = .ok (.ifCond .eq 7, 3) := by decide +kernel
theorem dL_law_385 : decode cL_law 385 = .ok (.iconst 1, 1) := by decide +kernel
theorem dL_law_386 : decode cL_law 386 = .ok (.goto 4, 3) := by decide +kernel
theorem dL_law_389 : decode cL_law 389 = .ok (.iconst 0, 1) := by decide +kernel
theorem dL_law_390 : decode cL_law 390 = .ok (.invokevirtual 44, 3) := by decide +kernel
theorem dL_law_393 : decode cL_law 393 = .ok (.lcmp, 1) := by decide +kernel
theorem dL_law_394 : decode cL_law 394 = .ok (.ifCond .eq 330, 3) := by decide +kernel
end
section
theorem dL_law_397 : decode cL_law 397 = .ok (.iconst 0, 1) := by decide +kernel
theorem dL_law_398 : decode cL_law 398 = .ok (.ireturn, 1) := by decide +kernel
theorem dL_law_399 : decode cL_law 399 = .ok (.aload_n 1, 1) := by decide +kernel
theorem dL_law_400 : decode cL_law 400 = .ok (.aload_n 0, 1) := by decide +kernel
theorem dL_law_401 : decode cL_law 401 = .ok (.iload 4, 2) := by decide +kernel
theorem dL_law_403 : decode cL_law 403 = .ok (.iconst 1, 1) := by decide +kernel
theorem dL_law_404 : decode cL_law 404 = .ok (.iadd, 1) := by decide +kernel
theorem dL_law_405 : decode cL_law 405 = .ok (.iaload, 1) := by decide +kernel
theorem dL_law_406 : decode cL_law 406 = .ok (.aload_n 0, 1) := by decide +kernel
theorem dL_law_407 : decode cL_law 407 = .ok (.iload 4, 2) := by decide +kernel
theorem dL_law_409 : decode cL_law 409 = .ok (.iconst 2, 1) := by decide +kernel
theorem dL_law_410 : decode cL_law 410 = .ok (.iadd, 1) := by decide +kernel
theorem dL_law_411 : decode cL_law 411 = .ok (.iaload, 1) := by decide +kernel
theorem dL_law_412 : decode cL_law 412 = .ok (.i2l, 1) := by decide +kernel
theorem dL_law_413 : decode cL_law 413 = .ok (.bipush 32, 2) := by decide +kernel
theorem dL_law_415 : decode cL_law 415 = .ok (.lshl, 1) := by decide +kernel
theorem dL_law_416 : decode cL_law 416 = .ok (.aload_n 0, 1) := by decide +kernel
theorem dL_law_417 : decode cL_law 417 = .ok (.iload 4, 2) := by decide +kernel
theorem dL_law_419 : decode cL_law 419 = .ok (.iconst 3, 1) := by decide +kernel
theorem dL_law_420 : decode cL_law 420 = .ok (.iadd, 1) := by decide +kernel
theorem dL_law_421 : decode cL_law 421 = .ok (.iaload, 1) := by decide +kernel
theorem dL_law_422 : decode cL_law 422 = .ok (.i2l, 1) := by decide +kernel
theorem dL_law_423 : decode cL_law 423 = .ok (.ldc2_w 19, 3) := by decide +kernel
theorem dL_law_426 : decode cL_law 426 = .ok (.land, 1) := by decide +kernel
theorem dL_law_427 : decode cL_law 427 = .ok (.lor, 1) := by decide +kernel
theorem dL_law_428 : decode cL_law 428 = .ok (.aload_n 0, 1) := by decide +kernel
theorem dL_law_429 : decode cL_law 429 = .ok (.iload 4, 2) := by decide +kernel
theorem dL_law_431 : decode cL_law 431 = .ok (.iconst 4, 1) := by decide +kernel
theorem dL_law_432 : decode cL_law 432 = .ok (.iadd, 1) := by decide +kernel
theorem dL_law_433 : decode cL_law 433 = .ok (.iaload, 1) := by decide +kernel
theorem dL_law_434 : decode cL_law 434 = .ok (.i2l, 1) := by decide +kernel
theorem dL_law_435 : decode cL_law 435 = .ok (.bipush 32, 2) := by decide +kernel
theorem dL_law_437 : decode cL_law 437 = .ok (.lshl, 1) := by decide +kernel
theorem dL_law_438 : decode cL_law 438 = .ok (.aload_n 0, 1) := by decide +kernel
theorem dL_law_439 : decode cL_law 439 = .ok (.iload 4, 2) := by decide +kernel
theorem dL_law_441 : decode cL_law 441 = .ok (.iconst 5, 1) := by decide +kernel
theorem dL_law_442 : decode cL_law 442 = .ok (.iadd, 1) := by decide +kernel
theorem dL_law_443 : decode cL_law 443 = .ok (.iaload, 1) := by decide +kernel
theorem dL_law_444 : decode cL_law 444 = .ok (.i2l, 1) := by decide +kernel
theorem dL_law_445 : decode cL_law 445 = .ok (.ldc2_w 19, 3) := by decide +kernel
theorem dL_law_448 : decode cL_law 448 = .ok (.land, 1) := by decide +kernel
theorem dL_law_449 : decode cL_law 449 = .ok (.lor, 1) := by decide +kernel
theorem dL_law_450 : decode cL_law 450 = .ok (.invokevirtual 45, 3) := by decide +kernel
theorem dL_law_453 : decode cL_law 453 = .ok (.aload_n 2, 1) := by decide +kernel
theorem dL_law_454 : decode cL_law 454 = .ok (.aload_n 0, 1) := by decide +kernel
theorem dL_law_455 : decode cL_law 455 = .ok (.iload 4, 2) := by decide +kernel
theorem dL_law_457 : decode cL_law 457 = .ok (.iconst 1, 1) := by decide +kernel
theorem dL_law_458 : decode cL_law 458 = .ok (.iadd, 1) := by decide +kernel
theorem dL_law_459 : decode cL_law 459 = .ok (.iaload, 1) := by decide +kernel
theorem dL_law_460 : decode cL_law 460 = .ok (.aload_n 0, 1) := by decide +kernel
theorem dL_law_461 : decode cL_law 461 = .ok (.iload 4, 2) := by decide +kernel
theorem dL_law_463 : decode cL_law 463 = .ok (.iconst 2, 1) := by decide +kernel
theorem dL_law_464 : decode cL_law 464 = .ok (.iadd, 1) := by decide +kernel
theorem dL_law_465 : decode cL_law 465 = .ok (.iaload, 1) := by decide +kernel
theorem dL_law_466 : decode cL_law 466 = .ok (.i2l, 1) := by decide +kernel
theorem dL_law_467 : decode cL_law 467 = .ok (.bipush 32, 2) := by decide +kernel
theorem dL_law_469 : decode cL_law 469 = .ok (.lshl, 1) := by decide +kernel
theorem dL_law_470 : decode cL_law 470 = .ok (.aload_n 0, 1) := by decide +kernel
theorem dL_law_471 : decode cL_law 471 = .ok (.iload 4, 2) := by decide +kernel
theorem dL_law_473 : decode cL_law 473 = .ok (.iconst 3, 1) := by decide +kernel
theorem dL_law_474 : decode cL_law 474 = .ok (.iadd, 1) := by decide +kernel
theorem dL_law_475 : decode cL_law 475 = .ok (.iaload, 1) := by decide +kernel
theorem dL_law_476 : decode cL_law 476 = .ok (.i2l, 1) := by decide +kernel
theorem dL_law_477 : decode cL_law 477 = .ok (.ldc2_w 19, 3) := by decide +kernel
theorem dL_law_480 : decode cL_law 480 = .ok (.land, 1) := by decide +kernel
theorem dL_law_481 : decode cL_law 481 = .ok (.lor, 1) := by decide +kernel
theorem dL_law_482 : decode cL_law 482 = .ok (.aload_n 0, 1) := by decide +kernel
theorem dL_law_483 : decode cL_law 483 = .ok (.iload 4, 2) := by decide +kernel
theorem dL_law_485 : decode cL_law 485 = .ok (.iconst 4, 1) := by decide +kernel
theorem dL_law_486 : decode cL_law 486 = .ok (.iadd, 1) := by decide +kernel
theorem dL_law_487 : decode cL_law 487 = .ok (.iaload, 1) := by decide +kernel
theorem dL_law_488 : decode cL_law 488 = .ok (.i2l, 1) := by decide +kernel
theorem dL_law_489 : decode cL_law 489 = .ok (.bipush 32, 2) := by decide +kernel
theorem dL_law_491 : decode cL_law 491 = .ok (.lshl, 1) := by decide +kernel
theorem dL_law_492 : decode cL_law 492 = .ok (.aload_n 0, 1) := by decide +kernel
theorem dL_law_493 : decode cL_law 493 = .ok (.iload 4, 2) := by decide +kernel
theorem dL_law_495 : decode cL_law 495 = .ok (.iconst 5, 1) := by decide +kernel
theorem dL_law_496 : decode cL_law 496 = .ok (.iadd, 1) := by decide +kernel
theorem dL_law_497 : decode cL_law 497 = .ok (.iaload, 1) := by decide +kernel
theorem dL_law_498 : decode cL_law 498 = .ok (.i2l, 1) := by decide +kernel
theorem dL_law_499 : decode cL_law 499 = .ok (.ldc2_w 19, 3) := by decide +kernel
theorem dL_law_502 : decode cL_law 502 = .ok (.land, 1) := by decide +kernel
theorem dL_law_503 : decode cL_law 503 = .ok (.lor, 1) := by decide +kernel
theorem dL_law_504 : decode cL_law 504 = .ok (.invokevirtual 48, 3) := by decide +kernel
theorem dL_law_507 : decode cL_law 507 = .ok (.if_icmp .eq 217, 3) := by decide +kernel
theorem dL_law_510 : decode cL_law 510 = .ok (.iconst 0, 1) := by decide +kernel
theorem dL_law_511 : decode cL_law 511 = .ok (.ireturn, 1) := by decide +kernel
theorem dL_law_512 : decode cL_law 512 = .ok (.aload_n 1, 1) := by decide +kernel
theorem dL_law_513 : decode cL_law 513 = .ok (.aload_n 0, 1) := by decide +kernel
theorem dL_law_514 : decode cL_law 514 = .ok (.iload 4, 2) := by decide +kernel
theorem dL_law_516 : decode cL_law 516 = .ok (.iconst 1, 1) := by decide +kernel
theorem dL_law_517 : decode cL_law 517 = .ok (.iadd, 1) := by decide +kernel
theorem dL_law_518 : decode cL_law 518 = .ok (.iaload, 1) := by decide +kernel
theorem dL_law_519 : decode cL_law 519 = .ok (.aload_n 0, 1) := by decide +kernel
theorem dL_law_520 : decode cL_law 520 = .ok (.iload 4, 2) := by decide +kernel
theorem dL_law_522 : decode cL_law 522 = .ok (.iconst 2, 1) := by decide +kernel
theorem dL_law_523 : decode cL_law 523 = .ok (.iadd, 1) := by decide +kernel
theorem dL_law_524 : decode cL_law 524 = .ok (.iaload, 1) := by decide +kernel
theorem dL_law_525 : decode cL_law 525 = .ok (.i2l, 1) := by decide +kernel
theorem dL_law_526 : decode cL_law 526 = .ok (.bipush 32, 2) := by decide +kernel
theorem dL_law_528 : decode cL_law 528 = .ok (.lshl, 1) := by decide +kernel
theorem dL_law_529 : decode cL_law 529 = .ok (.aload_n 0, 1) := by decide +kernel
theorem dL_law_530 : decode cL_law 530 = .ok (.iload 4, 2) := by decide +kernel
theorem dL_law_532 : decode cL_law 532 = .ok (.iconst 3, 1) := by decide +kernel
theorem dL_law_533 : decode cL_law 533 = .ok (.iadd, 1) := by decide +kernel
theorem dL_law_534 : decode cL_law 534 = .ok (.iaload, 1) := by decide +kernel
theorem dL_law_535 : decode cL_law 535 = .ok (.i2l, 1) := by decide +kernel
theorem dL_law_536 : decode cL_law 536 = .ok (.ldc2_w 19, 3) := by decide +kernel
theorem dL_law_539 : decode cL_law 539 = .ok (.land, 1) := by decide +kernel
theorem dL_law_540 : decode cL_law 540 = .ok (.lor, 1) := by decide +kernel
theorem dL_law_541 : decode cL_law 541 = .ok (.invokevirtual 49, 3) := by decide +kernel
theorem dL_law_544 : decode cL_law 544 = .ok (.aload_n 2, 1) := by decide +kernel
theorem dL_law_545 : decode cL_law 545 = .ok (.aload_n 0, 1) := by decide +kernel
theorem dL_law_546 : decode cL_law 546 = .ok (.iload 4, 2) := by decide +kernel
theorem dL_law_548 : decode cL_law 548 = .ok (.iconst 1, 1) := by decide +kernel
theorem dL_law_549 : decode cL_law 549 = .ok (.iadd, 1) := by decide +kernel
theorem dL_law_550 : decode cL_law 550 = .ok (.iaload, 1) := by decide +kernel
theorem dL_law_551 : decode cL_law 551 = .ok (.aload_n 0, 1) := by decide +kernel
theorem dL_law_552 : decode cL_law 552 = .ok (.iload 4, 2) := by decide +kernel
theorem dL_law_554 : decode cL_law 554 = .ok (.iconst 2, 1) := by decide +kernel
theorem dL_law_555 : decode cL_law 555 = .ok (.iadd, 1) := by decide +kernel
theorem dL_law_556 : decode cL_law 556 = .ok (.iaload, 1) := by decide +kernel
end
section
theorem dL_law_557 : decode cL_law 557 = .ok (.i2l, 1) := by decide +kernel
theorem dL_law_558 : decode cL_law 558 = .ok (.bipush 32, 2) := by decide +kernel
theorem dL_law_560 : decode cL_law 560 = .ok (.lshl, 1) := by decide +kernel
theorem dL_law_561 : decode cL_law 561 = .ok (.aload_n 0, 1) := by decide +kernel
theorem dL_law_562 : decode cL_law 562 = .ok (.iload 4, 2) := by decide +kernel
theorem dL_law_564 : decode cL_law 564 = .ok (.iconst 3, 1) := by decide +kernel
theorem dL_law_565 : decode cL_law 565 = .ok (.iadd, 1) := by decide +kernel
theorem dL_law_566 : decode cL_law 566 = .ok (.iaload, 1) := by decide +kernel
theorem dL_law_567 : decode cL_law 567 = .ok (.i2l, 1) := by decide +kernel
theorem dL_law_568 : decode cL_law 568 = .ok (.ldc2_w 19, 3) := by decide +kernel
theorem dL_law_571 : decode cL_law 571 = .ok (.land, 1) := by decide +kernel
theorem dL_law_572 : decode cL_law 572 = .ok (.lor, 1) := by decide +kernel
theorem dL_law_573 : decode cL_law 573 = .ok (.invokevirtual 53, 3) := by decide +kernel
theorem dL_law_576 : decode cL_law 576 = .ok (.if_icmp .eq 148, 3) := by decide +kernel
theorem dL_law_579 : decode cL_law 579 = .ok (.iconst 0, 1) := by decide +kernel
theorem dL_law_580 : decode cL_law 580 = .ok (.ireturn, 1) := by decide +kernel
theorem dL_law_581 : decode cL_law 581 = .ok (.aload_n 1, 1) := by decide +kernel
theorem dL_law_582 : decode cL_law 582 = .ok (.aload_n 0, 1) := by decide +kernel
theorem dL_law_583 : decode cL_law 583 = .ok (.iload 4, 2) := by decide +kernel
theorem dL_law_585 : decode cL_law 585 = .ok (.iconst 1, 1) := by decide +kernel
theorem dL_law_586 : decode cL_law 586 = .ok (.iadd, 1) := by decide +kernel
theorem dL_law_587 : decode cL_law 587 = .ok (.iaload, 1) := by decide +kernel
theorem dL_law_588 : decode cL_law 588 = .ok (.aload_n 0, 1) := by decide +kernel
theorem dL_law_589 : decode cL_law 589 = .ok (.iload 4, 2) := by decide +kernel
theorem dL_law_591 : decode cL_law 591 = .ok (.iconst 2, 1) := by decide +kernel
theorem dL_law_592 : decode cL_law 592 = .ok (.iadd, 1) := by decide +kernel
theorem dL_law_593 : decode cL_law 593 = .ok (.iaload, 1) := by decide +kernel
theorem dL_law_594 : decode cL_law 594 = .ok (.invokevirtual 54, 3) := by decide +kernel
theorem dL_law_597 : decode cL_law 597 = .ok (.aload_n 2, 1) := by decide +kernel
theorem dL_law_598 : decode cL_law 598 = .ok (.aload_n 0, 1) := by decide +kernel
theorem dL_law_599 : decode cL_law 599 = .ok (.iload 4, 2) := by decide +kernel
theorem dL_law_601 : decode cL_law 601 = .ok (.iconst 1, 1) := by decide +kernel
theorem dL_law_602 : decode cL_law 602 = .ok (.iadd, 1) := by decide +kernel
theorem dL_law_603 : decode cL_law 603 = .ok (.iaload, 1) := by decide +kernel
theorem dL_law_604 : decode cL_law 604 = .ok (.aload_n 0, 1) := by decide +kernel
theorem dL_law_605 : decode cL_law 605 = .ok (.iload 4, 2) := by decide +kernel
theorem dL_law_607 : decode cL_law 607 = .ok (.iconst 2, 1) := by decide +kernel
theorem dL_law_608 : decode cL_law 608 = .ok (.iadd, 1) := by decide +kernel
theorem dL_law_609 : decode cL_law 609 = .ok (.iaload, 1) := by decide +kernel
theorem dL_law_610 : decode cL_law 610 = .ok (.invokevirtual 58, 3) := by decide +kernel
theorem dL_law_613 : decode cL_law 613 = .ok (.if_icmp .eq 111, 3) := by decide +kernel
theorem dL_law_616 : decode cL_law 616 = .ok (.iconst 0, 1) := by decide +kernel
theorem dL_law_617 : decode cL_law 617 = .ok (.ireturn, 1) := by decide +kernel
theorem dL_law_618 : decode cL_law 618 = .ok (.aload_n 1, 1) := by decide +kernel
theorem dL_law_619 : decode cL_law 619 = .ok (.aload_n 0, 1) := by decide +kernel
theorem dL_law_620 : decode cL_law 620 = .ok (.iload 4, 2) := by decide +kernel
theorem dL_law_622 : decode cL_law 622 = .ok (.iconst 1, 1) := by decide +kernel
theorem dL_law_623 : decode cL_law 623 = .ok (.iadd, 1) := by decide +kernel
theorem dL_law_624 : decode cL_law 624 = .ok (.iaload, 1) := by decide +kernel
theorem dL_law_625 : decode cL_law 625 = .ok (.aload_n 3, 1) := by decide +kernel
theorem dL_law_626 : decode cL_law 626 = .ok (.invokestatic 59, 3) := by decide +kernel
theorem dL_law_629 : decode cL_law 629 = .ok (.istore 5, 2) := by decide +kernel
theorem dL_law_631 : decode cL_law 631 = .ok (.aload_n 2, 1) := by decide +kernel
theorem dL_law_632 : decode cL_law 632 = .ok (.aload_n 0, 1) := by decide +kernel
theorem dL_law_633 : decode cL_law 633 = .ok (.iload 4, 2) := by decide +kernel
theorem dL_law_635 : decode cL_law 635 = .ok (.iconst 1, 1) := by decide +kernel
theorem dL_law_636 : decode cL_law 636 = .ok (.iadd, 1) := by decide +kernel
theorem dL_law_637 : decode cL_law 637 = .ok (.iaload, 1) := by decide +kernel
theorem dL_law_638 : decode cL_law 638 = .ok (.invokevirtual 64, 3) := by decide +kernel
theorem dL_law_641 : decode cL_law 641 = .ok (.lstore 6, 2) := by decide +kernel
theorem dL_law_643 : decode cL_law 643 = .ok (.aload_n 2, 1) := by decide +kernel
theorem dL_law_644 : decode cL_law 644 = .ok (.invokevirtual 65, 3) := by decide +kernel
theorem dL_law_647 : decode cL_law 647 = .ok (.iload 5, 2) := by decide +kernel
theorem dL_law_649 : decode cL_law 649 = .ok (.if_icmp .eq 5, 3) := by decide +kernel
theorem dL_law_652 : decode cL_law 652 = .ok (.iconst 0, 1) := by decide +kernel
theorem dL_law_653 : decode cL_law 653 = .ok (.ireturn, 1) := by decide +kernel
theorem dL_law_654 : decode cL_law 654 = .ok (.iload 5, 2) := by decide +kernel
theorem dL_law_656 : decode cL_law 656 = .ok (.ifCond .ne 14, 3) := by decide +kernel
theorem dL_law_659 : decode cL_law 659 = .ok (.aload_n 3, 1) := by decide +kernel
theorem dL_law_660 : decode cL_law 660 = .ok (.iconst 0, 1) := by decide +kernel
theorem dL_law_661 : decode cL_law 661 = .ok (.laload, 1) := by decide +kernel
theorem dL_law_662 : decode cL_law 662 = .ok (.lload 6, 2) := by decide +kernel
theorem dL_law_664 : decode cL_law 664 = .ok (.lcmp, 1) := by decide +kernel
theorem dL_law_665 : decode cL_law 665 = .ok (.ifCond .eq 5, 3) := by decide +kernel
theorem dL_law_668 : decode cL_law 668 = .ok (.iconst 0, 1) := by decide +kernel
theorem dL_law_669 : decode cL_law 669 = .ok (.ireturn, 1) := by decide +kernel
theorem dL_law_670 : decode cL_law 670 = .ok (.goto 54, 3) := by decide +kernel
theorem dL_law_673 : decode cL_law 673 = .ok (.aload_n 1, 1) := by decide +kernel
theorem dL_law_674 : decode cL_law 674 = .ok (.aload_n 0, 1) := by decide +kernel
theorem dL_law_675 : decode cL_law 675 = .ok (.iload 4, 2) := by decide +kernel
theorem dL_law_677 : decode cL_law 677 = .ok (.iconst 1, 1) := by decide +kernel
theorem dL_law_678 : decode cL_law 678 = .ok (.iadd, 1) := by decide +kernel
theorem dL_law_679 : decode cL_law 679 = .ok (.iaload, 1) := by decide +kernel
theorem dL_law_680 : decode cL_law 680 = .ok (.invokevirtual 68, 3) := by decide +kernel
theorem dL_law_683 : decode cL_law 683 = .ok (.aload_n 2, 1) := by decide +kernel
theorem dL_law_684 : decode cL_law 684 = .ok (.aload_n 0, 1) := by decide +kernel
theorem dL_law_685 : decode cL_law 685 = .ok (.iload 4, 2) := by decide +kernel
theorem dL_law_687 : decode cL_law 687 = .ok (.iconst 1, 1) := by decide +kernel
theorem dL_law_688 : decode cL_law 688 = .ok (.iadd, 1) := by decide +kernel
theorem dL_law_689 : decode cL_law 689 = .ok (.iaload, 1) := by decide +kernel
theorem dL_law_690 : decode cL_law 690 = .ok (.invokevirtual 71, 3) := by decide +kernel
theorem dL_law_693 : decode cL_law 693 = .ok (.lcmp, 1) := by decide +kernel
theorem dL_law_694 : decode cL_law 694 = .ok (.ifCond .eq 30, 3) := by decide +kernel
theorem dL_law_697 : decode cL_law 697 = .ok (.iconst 0, 1) := by decide +kernel
theorem dL_law_698 : decode cL_law 698 = .ok (.ireturn, 1) := by decide +kernel
theorem dL_law_699 : decode cL_law 699 = .ok (.aload_n 1, 1) := by decide +kernel
theorem dL_law_700 : decode cL_law 700 = .ok (.aload_n 0, 1) := by decide +kernel
theorem dL_law_701 : decode cL_law 701 = .ok (.iload 4, 2) := by decide +kernel
theorem dL_law_703 : decode cL_law 703 = .ok (.iconst 1, 1) := by decide +kernel
theorem dL_law_704 : decode cL_law 704 = .ok (.iadd, 1) := by decide +kernel
theorem dL_law_705 : decode cL_law 705 = .ok (.iaload, 1) := by decide +kernel
theorem dL_law_706 : decode cL_law 706 = .ok (.invokevirtual 72, 3) := by decide +kernel
theorem dL_law_709 : decode cL_law 709 = .ok (.aload_n 2, 1) := by decide +kernel
theorem dL_law_710 : decode cL_law 710 = .ok (.aload_n 0, 1) := by decide +kernel
theorem dL_law_711 : decode cL_law 711 = .ok (.iload 4, 2) := by decide +kernel
theorem dL_law_713 : decode cL_law 713 = .ok (.iconst 1, 1) := by decide +kernel
theorem dL_law_714 : decode cL_law 714 = .ok (.iadd, 1) := by decide +kernel
theorem dL_law_715 : decode cL_law 715 = .ok (.iaload, 1) := by decide +kernel
theorem dL_law_716 : decode cL_law 716 = .ok (.invokevirtual 76, 3) := by decide +kernel
theorem dL_law_719 : decode cL_law 719 = .ok (.if_icmp .eq 5, 3) := by decide +kernel
theorem dL_law_722 : decode cL_law 722 = .ok (.iconst 0, 1) := by decide +kernel
theorem dL_law_723 : decode cL_law 723 = .ok (.ireturn, 1) := by decide +kernel
theorem dL_law_724 : decode cL_law 724 = .ok (.iinc 4 6, 3) := by decide +kernel
theorem dL_law_727 : decode cL_law 727 = .ok (.goto (-704), 3) := by decide +kernel
theorem dL_law_730 : decode cL_law 730 = .ok (.iconst 1, 1) := by decide +kernel
theorem dL_law_731 : decode cL_law 731 = .ok (.ireturn, 1) := by decide +kernel
end
section
theorem thC_tab : ∀ w ∈ thC, w.onTables = true := by decide +kernel
set_option maxHeartbeats 4000000 in
set_option maxRecDepth 100000 in
theorem x_cycle (l : Launch) (D : va_G) (ka : Nat → ClassId) (H0 : Heap) (hl0 : l.stackTraces = false) (A : Nat → Prop) (ad : Nat → Nat → Nat) (np nc : Nat) (pe an up dn rw : Nat → Nat) (so : Nat → Bool) (mn : Nat → Nat) (wd : Nat → Bool) (wv : Nat → Int64) (x : Int32) (hX : XInv D ka ad np nc pe an up dn rw so mn wd wv H0) (hO : mOk np nc pe an up dn rw so mn wd wv) : vx_Met l yX2_cycle (.code yX2_cycle cX2_cycle 3 (some .long) :: gT) ({ frames := 6, cells := 1, slots := 6, locals := 90 }) (th_Pc A D vwCl (tyL ka) H0 [.ref (ad 0 0), .int x]) (va_Ql (fun (r : Int64) (u : Unit) => (spEmp nc mn x = true ∨ lack pe rw mn x.toInt.toNat = false) ∧ r = spCycle nc pe rw so mn x) (fun u t => True) (fun z => H0.size ≤ z)) (vx_X (fun (u : Unit) => True) (fun E u t => E = AE ∧ spEmp nc mn x = false ∧ lack pe rw mn x.toInt.toNat = true) (fun z => H0.size ≤ z)) 1 6 (fun z => H0.size ≤ z) := by
  refine vx_ofW (cc := cX2_cycle) (maxL := 3) (ret := (some .long)) (by decide) rfl ?_
  intro p e s m args below meth c s₁ B hml hex hv
  obtain ⟨rfl, hH, hK, hN, hT⟩ := hv
  subst hH
  have hx := B.exec
  have hb := B.bytes
  have hr := B.returns
  have hts : ∀ w ∈ gT, w.before ([.ref (ad 0 0), .int x] : List Value).toArray s = true := fun w h => atoms_spec (ws := (.code yX2_cycle cX2_cycle 3 (some .long) :: gT)) B.pre w (List.mem_cons_of_mem _ h)
  have hown : s.vm.findClass RX2 = some m.cls := findClass_of_methodNamed B.named
  have hlocks := B.notSynchronized
  have hl := lv_entry ([.ref (ad 0 0), .int x]) (n := 3) (Nat.le_of_ble_eq_true rfl)
  rw [lg_entry_eq]
  generalize (lg_sl ([.ref (ad 0 0), .int x]) ++ List.replicate (3 - (lg_sl ([.ref (ad 0 0), .int x])).length) Slot.unset).toArray = ls at hl ⊢
  have hl : lv_has ls 3 [(0, .ref (ad 0 0)), (1, .int x)] := hl
  have hnp := hO.1
  have hnc := hO.2.1
  refine lv_aload_n hx hb dX2_cycle_0 rfl (lv_at hl 0 rfl) ?_
  refine lv_iload_n hx hb dX2_cycle_1 rfl (lv_at hl 1 rfl) ?_
  refine va_csq (va_Run.run (va_runV (As := [.int x]) (rest := []) ⟨hx, hb, hml, hown, hts⟩ (x_filledChain l D ka s.heap ad np nc pe an up dn rw so mn wd wv x hX hO) (cw_V 1 hts tb_118 rfl rfl tb_115 tb_1 tb_117 ts_4 (by decide +kernel) ⟨Nat.le_of_ble_eq_true rfl, Nat.le_of_ble_eq_true rfl⟩) (ro_V (ci := 2) hK hN hX.o rfl) rfl rfl hl.1 rfl (lv_room (Nat.le_of_ble_eq_true rfl)) dX2_cycle_2 ⟨Nat.zero_le _, Nat.zero_le _⟩)) (fun r er => ?_)
  subst er
  by_cases q1 : spEmp nc mn x = true
  · rw [if_pos q1, show va_rf none = Value.null from rfl]
    refine lv_astore_nN (lv' := [(2, .null), (0, .ref (ad 0 0)), (1, .int x)]) hx hb dX2_cycle_5 rfl hl (by decide) rfl (fun ls hl => ?_)
    refine lv_aload_nN hx hb dX2_cycle_6 rfl (lv_at hl 0 rfl) ?_
    refine lv_ifnonnullN hx hb dX2_cycle_7 ?_
    refine lv_ldc2 (v := (-1)) hx hb hown (hts _ tb_119) dX2_cycle_10 ?_
    refine vx_ret ?_
    refine W.widen (k := 1) (n := 6) (Nat.le_of_ble_eq_true rfl) (Nat.le_of_ble_eq_true rfl) ?_
    exact W.lret (v := (-1)) hx hb hr (fun t ht hW => ⟨⟨_, (), rfl, ⟨Or.inl q1, by rw [spCycle, if_pos q1]⟩, trivial⟩, va_S.F (A := (fun z => s.heap.size ≤ z)) va_S.rf ht⟩) t_nil dX2_cycle_13
  · rw [if_neg q1, show va_rf (some (ad 4 x.toInt.toNat)) = Value.ref (ad 4 x.toInt.toNat) from rfl]
    have q2 : spEmp nc mn x = false := by simpa using q1
    obtain ⟨ex, h1, h2, hn0⟩ := spEmp_f q2
    have hCh := hX.ch hO h1 h2
    have hmn := (hO.2.2.2.1 x.toInt.toNat h1 h2).1
    refine lv_astore_n (lv' := [(2, .ref (ad 4 x.toInt.toNat)), (0, .ref (ad 0 0)), (1, .int x)]) hx hb dX2_cycle_5 rfl hl (by decide) rfl (fun ls hl => ?_)
    refine lv_aload_n hx hb dX2_cycle_6 rfl (lv_at hl 0 rfl) ?_
    refine lv_ifnonnull (tgt := 14) hx hb dX2_cycle_7 (by decide) ?_
    refine lv_aload_n hx hb dX2_cycle_14 rfl (lv_at hl 0 rfl) ?_
    refine vp_callSi (va_Run.run (va_runVN (As := []) (rest := []) ⟨hx, hb, hml, hown, hts⟩ (c_lacksPeriod l D ka s.heap (ad 4 x.toInt.toNat) (ad 5 x.toInt.toNat) (ad 6 x.toInt.toNat) (mn x.toInt.toNat) (wiN wd wv x.toInt.toNat) (fun k => ad 3 (rw (12 * x.toInt.toNat + k))) (qS so x.toInt.toNat) (qF pe rw x.toInt.toNat) (qF an rw x.toInt.toNat) (qF up rw x.toInt.toNat) (qF dn rw x.toInt.toNat) hCh) (cw_VN 0 hts tb_226 rfl rfl (hN _ tn_223 rfl) tb_4 tb_225 ts_17 (by decide +kernel) ⟨Nat.le_of_ble_eq_true rfl, Nat.le_of_ble_eq_true rfl⟩) (ro_V (ci := 0) hK hN hCh.1 rfl) rfl rfl hl.1 rfl (lv_room (Nat.le_of_ble_eq_true rfl)) dX2_cycle_15 ⟨Nat.zero_le _, Nat.zero_le _⟩)) (fun r er => ?_)
    subst er
    refine b_if_eq (tgt := 31) hx hb dX2_cycle_18 (by decide) (fun q3 => ?_) (fun q3 => ?_)
    · have hal : ∀ i, i < mn x.toInt.toNat → (qS so x.toInt.toNat i || !false) = true → 0 < qF pe rw x.toInt.toNat i := fun i hi _ => Nat.pos_of_ne_zero (fun h9 => Bool.noConfusion ((anyN_hit (p := fun i => qF pe rw x.toInt.toNat i == 0) hi (show (qF pe rw x.toInt.toNat i == 0) = true from beq_iff_eq.mpr h9)).symm.trans q3))
      refine lv_aload_n hx hb dX2_cycle_31 rfl (lv_at hl 0 rfl) ?_
      refine lv_iconst (v := nI 0) hx hb dX2_cycle_32 (by decide) ?_
      have ebf : nI 0 = bI false := rfl
      rw [ebf]
      refine vp_callSl (va_Run.run (va_runVN (As := [.int (bI false)]) (rest := []) ⟨hx, hb, hml, hown, hts⟩ (c_commonCycle l D ka s.heap (ad 4 x.toInt.toNat) (ad 5 x.toInt.toNat) (ad 6 x.toInt.toNat) (mn x.toInt.toNat) (wiN wd wv x.toInt.toNat) (fun k => ad 3 (rw (12 * x.toInt.toNat + k))) (qS so x.toInt.toNat) (qF pe rw x.toInt.toNat) (qF an rw x.toInt.toNat) (qF up rw x.toInt.toNat) (qF dn rw x.toInt.toNat) false hCh hal) (cw_VN 1 hts tb_187 rfl rfl (hN _ tn_293 rfl) tb_4 tb_186 ts_14 (by decide +kernel) ⟨Nat.le_of_ble_eq_true rfl, Nat.le_of_ble_eq_true rfl⟩) (ro_V (ci := 0) hK hN hCh.1 rfl) rfl rfl hl.1 rfl (lv_room (Nat.le_of_ble_eq_true rfl)) dX2_cycle_33 ⟨Nat.zero_le _, Nat.zero_le _⟩)) (fun r er => ?_)
      subst er
      refine vx_ret ?_
      refine W.widen (k := 1) (n := 6) (Nat.le_of_ble_eq_true rfl) (Nat.le_of_ble_eq_true rfl) ?_
      exact W.lret (v := lN (cyc (fun i => qS so x.toInt.toNat i || !false) (qF pe rw x.toInt.toNat) (mn x.toInt.toNat))) hx hb hr (fun t ht hW => ⟨⟨_, (), rfl, ⟨Or.inr q3, by rw [spCycle, if_neg q1]; rfl⟩, trivial⟩, va_S.F (A := (fun z => s.heap.size ≤ z)) va_S.rf ht⟩) t_nil dX2_cycle_36
    · obtain ⟨t1, t2, ⟨sa, t3⟩, t4, t5, t6, t7, t8⟩ := hT
      exact vx_throwS (A := A) (cls := AE) (names := ["java/lang/RuntimeException", "java/lang/Exception"]) (ik := 103) (is := 105) (ic := 107) (text := "a piece of the chain has no period") (sa := sa) hx hb hl0 hown (by decide +kernel) (by decide +kernel) (va_Nw.use rfl t5) (va_Nw.use rfl t6) t3 (fun w9 hw9 => va_tabs (thC_tab w9 hw9) rfl (t4 w9 hw9)) thC_ot t1 t2 va_S.rf (by rw [hml]; exact hl.1) dX2_cycle_21 dX2_cycle_24 dX2_cycle_25 dX2_cycle_27 dX2_cycle_30 (fun x9 h9 => (hex x9 h9).elim) (Nat.le_of_ble_eq_true rfl) (Nat.le_of_ble_eq_true rfl) (Nat.le_of_ble_eq_true rfl) (Nat.le_of_ble_eq_true rfl) hlocks (fun t h8 h9 h10 => ⟨(), trivial, ⟨rfl, q2, q3⟩, h9, fun q hq _ => h10 q hq⟩) t_nil (Nat.le_of_ble_eq_true rfl) (Nat.le_of_ble_eq_true rfl)
set_option maxHeartbeats 4000000 in
set_option maxRecDepth 100000 in
theorem l_cycle (l : Launch) (D : va_G) (ka : Nat → ClassId) (H0 : Heap) (hl0 : l.stackTraces = false) (A : Nat → Prop) (ad : Nat → Nat → Nat) (np nc : Nat) (pe an up dn rw : Nat → Nat) (so : Nat → Bool) (mn : Nat → Nat) (wd : Nat → Bool) (wv : Nat → Int64) (x : Int32) (o : Nat) (f : Nat → Int64) (hX : XInv D ka ad np nc pe an up dn rw so mn wd wv H0) (hO : mOk np nc pe an up dn rw so mn wd wv) (ho : va_at D vwCl (o, lonE (ka 3) 1 f) H0) : Met l yL_cycle (.codeWith yL_cycle cL_cycle 4 (some .int) [(0, 8, 11, 13)] :: gT) ({ frames := 7, cells := 1, slots := 6, locals := 112 }) (th_Pc A D vwCl (tyL ka) H0 [.ref (ad 0 0), .int x, .ref o]) (va_Qi (fun (r : Int32) (u : Nat → Int64) => r = (if (!spEmp nc mn x && lack pe rw mn x.toInt.toNat) = true then nI 1 else nI 0) ∧ ((!spEmp nc mn x && lack pe rw mn x.toInt.toNat) = false → u 0 = spCycle nc pe rw so mn x)) (fun u t => va_at D vwCl (o, lonE (ka 3) 1 u) t.heap) (fun z => z = o ∨ H0.size ≤ z)) 1 6 (fun z => z = o ∨ H0.size ≤ z) := by
  refine va_MetW (cc := cL_cycle) (maxL := 4) (ret := (some .int)) (hh := [(0, 8, 11, 13)]) (by decide) rfl ?_
  intro p e s m args below meth c s₁ B hml hv
  obtain ⟨rfl, hH, hK, hN, hT⟩ := hv
  subst hH
  have hx := B.exec
  have hb := B.bytes
  have hr := B.returns
  have hts : ∀ w ∈ gT, w.before ([.ref (ad 0 0), .int x, .ref o] : List Value).toArray s = true := fun w h => atoms_spec (ws := (.codeWith yL_cycle cL_cycle 4 (some .int) [(0, 8, 11, 13)] :: gT)) B.pre w (List.mem_cons_of_mem _ h)
  have hown : s.vm.findClass RL = some m.cls := findClass_of_methodNamed B.named
  have hlocks := B.notSynchronized
  have hl := lv_entry ([.ref (ad 0 0), .int x, .ref o]) (n := 4) (Nat.le_of_ble_eq_true rfl)
  rw [lg_entry_eq]
  generalize (lg_sl ([.ref (ad 0 0), .int x, .ref o]) ++ List.replicate (4 - (lg_sl ([.ref (ad 0 0), .int x, .ref o])).length) Slot.unset).toArray = ls at hl ⊢
  have htab := vx_table (x := yL_cycle) (hh := [(0, 8, 11, 13)]) (bytes := cL_cycle) (maxL' := 4) (ret' := some .int) B (atoms_spec (ws := (.codeWith yL_cycle cL_cycle 4 (some .int) [(0, 8, 11, 13)] :: gT)) B.pre _ List.mem_cons_self)
  have hl : lv_has ls 4 [(0, .ref (ad 0 0)), (1, .int x), (2, .ref o)] := hl
  have hP : va_P D vwCl [(o, lonE (ka 3) 1 f)] s.heap := va_one ho
  have hD : va_D (fun z => z = o ∨ s.heap.size ≤ z) [(o, lonE (ka 3) 1 f)] := va_D_of (by simp) (by simp)
  have hS : va_S (fun z => z = o ∨ s.heap.size ≤ z) s.heap s.heap [] := va_S.rf
  have hA : ∀ z9 : Nat, s.heap.size ≤ z9 → (fun z => z = o ∨ s.heap.size ≤ z) z9 := fun z9 h => Or.inr h
  have lo1 := ho.lt
  (try dsimp only at lo1)
  refine lv_aload_n hx hb dL_cycle_0 rfl (lv_at hl 2 rfl) ?_
  refine lv_iconst (v := nI 0) hx hb dL_cycle_1 (by decide) ?_
  refine lv_aload_n hx hb dL_cycle_2 rfl (lv_at hl 0 rfl) ?_
  refine lv_iload_n hx hb dL_cycle_3 rfl (lv_at hl 1 rfl) ?_
  refine vx_calll (vx_runV (As := [.int x]) (rest := [.int (nI 0), .ref o]) ⟨hx, hb, hml, hown, hts⟩ (x_cycle l D ka s.heap hl0 A ad np nc pe an up dn rw so mn wd wv x hX hO) (cw_V 1 hts tb_222 rfl rfl tb_219 tb_1 tb_220 tb_221 (by decide +kernel) ⟨Nat.le_of_ble_eq_true rfl, Nat.le_of_ble_eq_true rfl⟩) (th_V (ci := 2) hK hN hT hX.o rfl) rfl rfl hl.1 rfl (lv_room (Nat.le_of_ble_eq_true rfl)) dL_cycle_4 ⟨Nat.le_of_ble_eq_true rfl, Nat.le_of_ble_eq_true rfl⟩) hS (fun z _ h9 => hA z h9) (fun z h9 => hA z h9) (fun z _ h9 => hA z h9) (fun E ce q9 u t H1 locs ht hvm hp hB hz1 hk1 hS hce hcv hcl => ?_) (fun r u t H1 locs ht hvm hw hB hz1 hk1 hS => ?_)
  · obtain ⟨rfl, q1, q2⟩ := hB
    obtain ⟨t1, t2, t3, t4, t5, t6, t7, t8⟩ := hT
    have hP : va_P D vwCl [(o, lonE (ka 3) 1 f)] H1 := hP.kept (fun k q hk => hk1 q.1 (hP k q hk).lt (Nat.not_le.mpr (hP k q hk).lt))
    refine vx_catch (own := RL) (name := AE) (ce := ce) hown [] ⟨0, 8, 11, 13⟩ [] (by rw [htab]; rfl) (fun z hz => nomatch hz) (by decide) (by decide) (va_Nw.use rfl t8) (va_Nw.use rfl t7) hce hcv hcl ?_
    refine lv_astore_n (lv' := [(3, .ref q9), (0, .ref (ad 0 0)), (1, .int x), (2, .ref o)]) hx hb dL_cycle_11 rfl hl (by decide) rfl (fun ls hl => ?_)
    refine lv_iconst (v := nI 1) hx hb dL_cycle_12 (by decide) ?_
    exact W.iret (v := nI 1) hx hb hr (fun t ht hW => ⟨⟨_, f, rfl, ⟨by rw [if_pos (by rw [q1, q2]; rfl)], fun h9 => by rw [q1, q2] at h9; cases h9⟩, by show va_at D vwCl _ t.heap; rw [ht]; exact hP.fst⟩, hS.F ht⟩) hS.2.2 dL_cycle_13
  · obtain ⟨q1, rfl⟩ := hw
    have hth : (!spEmp nc mn x && lack pe rw mn x.toInt.toNat) = false := by rcases q1 with h9 | h9 <;> rw [h9] <;> simp
    have hP : va_P D vwCl [(o, lonE (ka 3) 1 f)] H1 := hP.kept (fun k q hk => hk1 q.1 (hP k q hk).lt (Nat.not_le.mpr (hP k q hk).lt))
    refine g_last hx hb hK hP hD hS 0 3 rfl rfl (by decide) (by decide) rfl dL_cycle_7 (fun H locs hP hD hS => ?_)
    have hP : va_P D vwCl [(o, lonE (ka 3) 1 (vp_updL f 0 (spCycle nc pe rw so mn x)))] H := hP
    refine lv_goto (tgt := 14) hx hb dL_cycle_8 (by decide) ?_
    refine lv_iconst (v := nI 0) hx hb dL_cycle_14 (by decide) ?_
    exact W.iret (v := nI 0) hx hb hr (fun t ht hW => ⟨⟨_, vp_updL f 0 (spCycle nc pe rw so mn x), rfl, ⟨by rw [hth]; rfl, fun _ => pk_uLs⟩, by show va_at D vwCl _ t.heap; rw [ht]; exact hP.fst⟩, hS.F ht⟩) hS.2.2 dL_cycle_15
end
section
/-! THE CLAIM OUT OF ONE WALK OF THE LAW'S BODY. Your part is whole_start (and what it stands on); all else here is the same for every law, but numbers. -/
def R_law : String := "ChainSumsLaw"
def lw_P (b : Addr) (xs : List Int32) (args : Array Value) (s : State) : Prop := args = #[.ref b] ∧ s.IntsAt b xs ∧ xs.length ≤ 3072 ∧ (Jvm.Cond.and given_1 narrow_1).before args s = true
def lw_Q (_ : Array Value) (s : State) (o : Outcome) (t : State) : Prop := o = .returned (some (.int 1)) ∧ Framed s o t [] 610041 7265980
def lw_Z (below : List Frame) (a : Array Value) (s : State) : State → Prop := fun t => ∃ o, t.status = .running ∧ Ended t below o ∧ lw_Q a s o t
/-- the law's own end, with 1 on the stack, nothing written that was there before, its room as the claim has it -/
theorem lw_ret {p : Program} {l : Launch} {e : Env} {s : State} {m : MethodId} {below : List Frame} {meth : Method} {c : Code} {b : Nat} (hx : p.tables.exec = Jvm.exec) (hb : c.code = code) (hr : meth.sig.returnType = ret) (hlocks : meth.locks = false) {pc : Nat} {H : Heap} {ls : Array Slot} (hdg : decode code pc = .ok (.ireturn, 1)) : W p l e room_1 s m #[Value.ref b] below meth c H [] 610041 7265980 (lw_Z below #[Value.ref b] s) (F0 m pc ls [.int 1]) := by
  intro T hT X
  obtain ⟨fs, hret, hrun, hended, hW, hframe⟩ := X.leave (v := some (.int 1)) (hlocks := hlocks) (fun h => by rw [hr] at h; cases h)
  have hmeth' : T.vm.method? m = some meth := X.method'
  refine ⟨T.setFrames fs, ?_, .returned (some (.int 1)), hrun, hended, rfl, ⟨_, rfl⟩, hW, hframe⟩
  jvm_step X.here [X.here.top, hx, hb, hdg, hmeth', hr, ret, narrow_b1]
  (try refine ⟨rfl, ?_⟩); (try refine ⟨rfl, ?_⟩)
  first | (intro acts; rw [hret _ acts rfl rfl rfl]) | rw [hret _ _ rfl rfl rfl]
  exact Steps.refl _
/-- what holds at the law's entry: the machine, the code, the tables' words (any of lw_tbl by 'hts w (by decide +kernel)'), the script of L ints xs at the cell b, what the Statement gives of the start (any of its parts by flat_of_before) -/
def lw_At (p : Program) (s : State) (m : MethodId) (meth : Method) (c : Code) (b L : Nat) (xs : Nat → Int32) : Prop :=
  p.tables.exec = Jvm.exec ∧ c.code = code ∧ meth.sig.returnType = ret ∧ c.maxLocals = 8 ∧ s.vm.findClass R_law = some m.cls ∧ (∀ w ∈ lw_tbl, w.before #[Value.ref b] s = true) ∧ va_X b L xs s s.heap ∧ b < s.heap.size ∧ meth.locks = false ∧ (Jvm.Cond.and given_1 narrow_1).before #[Value.ref b] s = true
end
section
/-! between the turns: the class's state and the reference's are one -/
abbrev lA (s : State) : Nat → Prop := fun q => s.heap.size ≤ q
def LInv (sz : Nat) (D : va_G) (ka : Nat → ClassId) (ad : Nat → Nat → Nat) (a : Nat → Nat) (tv o : Nat) (f : Nat → Int64) (u : MSt) (H : Heap) : Prop :=
  XIs D ka ad u H ∧ va_P D vwCl (mWs ka a tv u) H ∧ mOks u ∧ (∀ i j, i < 10 → j < 10 → a i = a j → i = j) ∧ va_at D vwCl (o, lonE (ka 3) 1 f) H ∧
  (∀ k i, vl u.1.1 u.1.2 k i → sz ≤ ad k i) ∧ (∀ i, i < 10 → sz ≤ a i) ∧ sz ≤ o ∧ (∀ k i j, vl u.1.1 u.1.2 k i → j < 10 → ad k i ≠ a j) ∧ (∀ k i, vl u.1.1 u.1.2 k i → ad k i ≠ o) ∧ (∀ j, j < 10 → a j ≠ o)
theorem mW_a {ka : Nat → ClassId} {a : Nat → Nat} {tv : Nat} {u : MSt} (k : Nat) (q : Nat × va_E) (hk : (mWs ka a tv u)[k]? = some q) : k < 10 ∧ q.1 = a k := by
  have hl : k < 10 := (List.getElem?_eq_some_iff.mp hk).1
  refine ⟨hl, ?_⟩
  match k, hk with
  | 0, hk => cases hk; rfl
  | 1, hk => cases hk; rfl
  | 2, hk => cases hk; rfl
  | 3, hk => cases hk; rfl
  | 4, hk => cases hk; rfl
  | 5, hk => cases hk; rfl
  | 6, hk => cases hk; rfl
  | 7, hk => cases hk; rfl
  | 8, hk => cases hk; rfl
  | 9, hk => cases hk; rfl
  | k + 10, hk => omega
/-- after a call of the class: the reference's cells and the law's are as they were -/
theorem LInv.mid {sz : Nat} {D : va_G} {ka : Nat → ClassId} {ad ad2 : Nat → Nat → Nat} {a : Nat → Nat} {tv o : Nat} {f : Nat → Int64} {u u2 : MSt} {H H1 : Heap} {A1 : Nat → Prop} (h : LInv sz D ka ad a tv o f u H) (hsz : sz ≤ H.size)
    (hA1 : ∀ q, q < H.size → A1 q → ∃ k i, vl u.1.1 u.1.2 k i ∧ q = ad k i) (hk1 : ∀ q : Nat, q < H.size → ¬ A1 q → H1[q]? = H[q]?) (hF : xFr ad u.1.1 u.1.2 H.size (u2, ad2)) :
    va_P D vwCl (mWs ka a tv u) H1 ∧ va_at D vwCl (o, lonE (ka 3) 1 f) H1 ∧ (∀ k i, vl u2.1.1 u2.1.2 k i → sz ≤ ad2 k i) ∧ (∀ k i j, vl u2.1.1 u2.1.2 k i → j < 10 → ad2 k i ≠ a j) ∧ (∀ k i, vl u2.1.1 u2.1.2 k i → ad2 k i ≠ o) := by
  obtain ⟨h1, h2, h3, h4, h5, h6, h7, h8, h9, h10, h11⟩ := h
  have ha : ∀ j, j < 10 → a j < H.size := fun j hj => by
    obtain ⟨e, he⟩ : ∃ e : va_E, (mWs ka a tv u)[j]? = some (a j, e) := by
      rcases (show j = 0 ∨ j = 1 ∨ j = 2 ∨ j = 3 ∨ j = 4 ∨ j = 5 ∨ j = 6 ∨ j = 7 ∨ j = 8 ∨ j = 9 by omega) with rfl | rfl | rfl | rfl | rfl | rfl | rfl | rfl | rfl | rfl <;> exact ⟨_, rfl⟩
    exact (h2 j _ he).lt
  have ho : o < H.size := h5.lt
  refine ⟨h2.kept (fun k q hk => ?_), h5.kept (hk1 _ ho (fun e => ?_)), fun k i hv => ?_, fun k i j hv hj e => ?_, fun k i hv e => ?_⟩
  · obtain ⟨k10, hq⟩ := mW_a k q hk
    rw [hq]
    refine hk1 _ (ha k k10) (fun e => ?_)
    obtain ⟨k', i', hv, hq'⟩ := hA1 _ (ha k k10) e
    exact h9 k' i' k hv k10 hq'.symm
  · obtain ⟨k', i', hv, hq'⟩ := hA1 _ ho e
    exact h10 k' i' hv hq'.symm
  · rcases hF.2 k i hv with ⟨k', i', hv', e⟩ | e
    · show sz ≤ ad2 k i
      rw [show ad2 k i = ad k' i' from e]; exact h6 k' i' hv'
    · exact Nat.le_trans hsz e
  · rcases hF.2 k i hv with ⟨k', i', hv', e'⟩ | e'
    · exact h9 k' i' j hv' hj ((show ad2 k i = ad k' i' from e') ▸ e)
    · have := ha j hj
      have e' : H.size ≤ ad2 k i := e'
      omega
  · rcases hF.2 k i hv with ⟨k', i', hv', e'⟩ | e'
    · exact h10 k' i' hv' ((show ad2 k i = ad k' i' from e') ▸ e)
    · have e' : H.size ≤ ad2 k i := e'
      omega
/-- after a call of the reference: the class's cells and the law's are as they were -/
theorem LInv.fin {sz : Nat} {D : va_G} {ka : Nat → ClassId} {ad : Nat → Nat → Nat} {a : Nat → Nat} {tv o : Nat} {f : Nat → Int64} {u : MSt} {H H1 : Heap} (hX : XIs D ka ad u H) (hM : va_P D vwCl (mWs ka a tv u) H1) (hO : mOks u) (h4 : ∀ i j, i < 10 → j < 10 → a i = a j → i = j) (h5 : va_at D vwCl (o, lonE (ka 3) 1 f) H)
    (h6 : ∀ k i, vl u.1.1 u.1.2 k i → sz ≤ ad k i) (h7 : ∀ i, i < 10 → sz ≤ a i) (h8 : sz ≤ o) (h9 : ∀ k i j, vl u.1.1 u.1.2 k i → j < 10 → ad k i ≠ a j) (h10 : ∀ k i, vl u.1.1 u.1.2 k i → ad k i ≠ o) (h11 : ∀ j, j < 10 → a j ≠ o)
    (hk : ∀ q : Nat, q < H.size → ¬ mA a q → H1[q]? = H[q]?) : LInv sz D ka ad a tv o f u H1 := by
  refine ⟨⟨fun k i hv => (hX.1 k i hv).kept (hk _ (hX.1 k i hv).lt (fun ⟨j, hj, e⟩ => h9 k i j hv hj e.symm)), hX.2⟩, hM, hO, h4, h5.kept (hk _ h5.lt (fun ⟨j, hj, e⟩ => h11 j hj e)), h6, h7, h8, h9, h10, h11⟩
section SL
variable {p : Program} {l : Launch} {e : Env} {R : Room} {s : State} {m : MethodId} {args : Array Value} {below : List Frame} {meth : Method} {c : Code} {H : Heap} {locs : List Loc} {cells slots : Nat} {Q : State → Prop}
variable {cc : ByteArray} {pc : Nat} {ls : Array Slot} {rest : List Value} {A : Nat → Prop} {H0 : Heap}
theorem g_sld (hx : p.tables.exec = Jvm.exec) (hb : c.code = cc) {b L : Nat} {xs : Nat → Int32} (hX : va_X b L xs s H0) (hbl : b < H0.size) (hbA : ¬ A b) (hS : va_S A H0 H locs) {k : Nat} (hk : k < L) (hL : L < 2 ^ 31) (hdg : decode cc pc = .ok (.iaload, 1)) (kk : W p l e R s m args below meth c H locs cells slots Q (F0 m (pc + 1) ls (.int (xs k) :: rest))) : W p l e R s m args below meth c H locs cells slots Q (F0 m pc ls (.int (nI k) :: .ref b :: rest)) := va_sld hx hb hX hbl hbA hS (vp_in_nI hk hL) hdg (by rw [nI_clamp (by omega)]; exact kk)
end SL
/-- what a turn of the law owes: the same between the next -/
def LK (p : Program) (l : Launch) (e : Env) (s : State) (m : MethodId) (below : List Frame) (meth : Method) (c : Code) (b : Nat) (D : va_G) (ka : Nat → ClassId) (a : Nat → Nat) (o j : Nat) : Prop :=
  ∀ (u : MSt) (ad : Nat → Nat → Nat) (tv : Nat) (f : Nat → Int64) (H : Heap) (locs : List Loc) (ls : Array Slot), LInv s.heap.size D ka ad a tv o f u H → va_S (lA s) s.heap H locs → lv_has ls 8 [(0, .ref b), (1, .ref (ad 0 0)), (2, .ref (a 0)), (3, .ref o), (4, .int (nI (6 * j)))] →
    W p l e room_1 s m #[Value.ref b] below meth c H locs (14 + 3 * (j + 1)) (758 + 28 * (j + 1)) (lw_Z below #[Value.ref b] s) (F0 m 724 ls [])
end
section
theorem zz_end : True := trivial
end
