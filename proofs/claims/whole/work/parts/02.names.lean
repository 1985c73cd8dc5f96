def RL : String := "ChainSumsLaw"
def RX0 : String := "ChainSums$Chain"
def TX0 : u_T := fun k => match k with
  | 0 => ("ChainSums$Chain", "row", "[LChainSums$Piece;", true)
  | 1 => ("ChainSums$Chain", "sampling", "[Z", true)
  | 2 => ("ChainSums$Chain", "count", "I", false)
  | _ => ("ChainSums$Chain", "wished", "J", false)
def tyX0 : Nat → FieldType := fun k => match k with
  | 0 => .array (.object "ChainSums$Piece")
  | 1 => .array .boolean
  | 2 => .int
  | _ => .long
theorem nmX0 : ∀ a, a < 4 → ∀ b, b < 4 → a ≠ b → (TX0 a).2.1 ≠ (TX0 b).2.1 := by decide +kernel
theorem tyX0_ok : ∀ k, k < 4 → parseFieldDescriptor (TX0 k).2.2.1 = some (tyX0 k) := by decide +kernel
def RX1 : String := "ChainSums$Piece"
def TX1 : u_T := fun k => match k with
  | 0 => ("ChainSums$Piece", "period", "J", true)
  | 1 => ("ChainSums$Piece", "answer", "J", true)
  | 2 => ("ChainSums$Piece", "up", "J", false)
  | _ => ("ChainSums$Piece", "down", "J", false)
def tyX1 : Nat → FieldType := fun k => match k with
  | 0 => .long
  | 1 => .long
  | 2 => .long
  | _ => .long
theorem nmX1 : ∀ a, a < 4 → ∀ b, b < 4 → a ≠ b → (TX1 a).2.1 ≠ (TX1 b).2.1 := by decide +kernel
theorem tyX1_ok : ∀ k, k < 4 → parseFieldDescriptor (TX1 k).2.2.1 = some (tyX1 k) := by decide +kernel
def RX2 : String := "ChainSums"
def TX2 : u_T := fun k => match k with
  | 0 => ("ChainSums", "pieces", "[LChainSums$Piece;", true)
  | 1 => ("ChainSums", "chains", "[LChainSums$Chain;", true)
  | 2 => ("ChainSums", "pieceCount", "I", false)
  | _ => ("ChainSums", "chainCount", "I", false)
def tyX2 : Nat → FieldType := fun k => match k with
  | 0 => .array (.object "ChainSums$Piece")
  | 1 => .array (.object "ChainSums$Chain")
  | 2 => .int
  | _ => .int
theorem nmX2 : ∀ a, a < 4 → ∀ b, b < 4 → a ≠ b → (TX2 a).2.1 ≠ (TX2 b).2.1 := by decide +kernel
theorem tyX2_ok : ∀ k, k < 4 → parseFieldDescriptor (TX2 k).2.2.1 = some (tyX2 k) := by decide +kernel
def RM : String := "ChainSumsModel"
def TM : u_T := fun k => match k with
  | 0 => ("ChainSumsModel", "thrown", "I", false)
  | 1 => ("ChainSumsModel", "pieces", "I", false)
  | 2 => ("ChainSumsModel", "periods", "[J", true)
  | 3 => ("ChainSumsModel", "answers", "[J", true)
  | 4 => ("ChainSumsModel", "ups", "[J", true)
  | 5 => ("ChainSumsModel", "downs", "[J", true)
  | 6 => ("ChainSumsModel", "chains", "I", false)
  | 7 => ("ChainSumsModel", "rows", "[I", true)
  | 8 => ("ChainSumsModel", "setOff", "[Z", true)
  | 9 => ("ChainSumsModel", "many", "[I", true)
  | 10 => ("ChainSumsModel", "wished", "[Z", true)
  | _ => ("ChainSumsModel", "wishes", "[J", true)
def tyM : Nat → FieldType := fun k => match k with
  | 0 => .int
  | 1 => .int
  | 2 => .array .long
  | 3 => .array .long
  | 4 => .array .long
  | 5 => .array .long
  | 6 => .int
  | 7 => .array .int
  | 8 => .array .boolean
  | 9 => .array .int
  | 10 => .array .boolean
  | _ => .array .long
theorem nmM : ∀ a, a < 12 → ∀ b, b < 12 → a ≠ b → (TM a).2.1 ≠ (TM b).2.1 := by decide +kernel
theorem tyM_ok : ∀ k, k < 12 → parseFieldDescriptor (TM k).2.2.1 = some (tyM k) := by decide +kernel
abbrev vwCl : List vw_C := [(RX0, TX0, 4), (RX1, TX1, 4), (RX2, TX2, 4), (RM, TM, 12)]
abbrev cX2_init : ByteArray := prog_1_method_1_code
def yX2_init : MethodName := ⟨RX2, "<init>", "()V"⟩
abbrev cX2_piece : ByteArray := prog_1_method_2_code
def yX2_piece : MethodName := ⟨RX2, "piece", "(IJJ)I"⟩
abbrev cX2_chain : ByteArray := prog_1_method_3_code
def yX2_chain : MethodName := ⟨RX2, "chain", "()I"⟩
abbrev cX2_add : ByteArray := prog_1_method_4_code
def yX2_add : MethodName := ⟨RX2, "add", "(IIZ)I"⟩
abbrev cX2_worst : ByteArray := prog_1_method_5_code
def yX2_worst : MethodName := ⟨RX2, "worst", "(IZ)J"⟩
abbrev cX2_best : ByteArray := prog_1_method_6_code
def yX2_best : MethodName := ⟨RX2, "best", "(IZ)J"⟩
abbrev cX2_clock : ByteArray := prog_1_method_7_code
def yX2_clock : MethodName := ⟨RX2, "clock", "(IJJ)I"⟩
abbrev cX2_wish : ByteArray := prog_1_method_8_code
def yX2_wish : MethodName := ⟨RX2, "wish", "(IJ)I"⟩
abbrev cX2_share : ByteArray := prog_1_method_9_code
def yX2_share : MethodName := ⟨RX2, "share", "(II)I"⟩
abbrev cX2_cycle : ByteArray := prog_1_method_10_code
def yX2_cycle : MethodName := ⟨RX2, "cycle", "(I)J"⟩
abbrev cX2_stepped : ByteArray := prog_1_method_11_code
def yX2_stepped : MethodName := ⟨RX2, "stepped", "(I)J"⟩
abbrev cX2_plain : ByteArray := prog_1_method_12_code
def yX2_plain : MethodName := ⟨RX2, "plain", "(I)Z"⟩
abbrev cX2_pieceNumbered : ByteArray := prog_1_method_13_code
def yX2_pieceNumbered : MethodName := ⟨RX2, "pieceNumbered", "(I)LChainSums$Piece;"⟩
abbrev cX2_chainNumbered : ByteArray := prog_1_method_14_code
def yX2_chainNumbered : MethodName := ⟨RX2, "chainNumbered", "(I)LChainSums$Chain;"⟩
abbrev cX2_filledChain : ByteArray := prog_1_method_15_code
def yX2_filledChain : MethodName := ⟨RX2, "filledChain", "(I)LChainSums$Chain;"⟩
abbrev cX2_wishesKept : ByteArray := prog_1_method_16_code
def yX2_wishesKept : MethodName := ⟨RX2, "wishesKept", "()I"⟩
abbrev cX2_unitsUpwards : ByteArray := prog_1_method_17_code
def yX2_unitsUpwards : MethodName := ⟨RX2, "unitsUpwards", "(JJ)J"⟩
abbrev cX2_greatestCommonDivisor : ByteArray := prog_1_method_18_code
def yX2_greatestCommonDivisor : MethodName := ⟨RX2, "greatestCommonDivisor", "(JJ)J"⟩
abbrev cX2_leastCommonMultiple : ByteArray := prog_1_method_19_code
def yX2_leastCommonMultiple : MethodName := ⟨RX2, "leastCommonMultiple", "(JJ)J"⟩
abbrev cM_init : ByteArray := prog_5_method_1_code
def yM_init : MethodName := ⟨RM, "<init>", "()V"⟩
abbrev cM_thrown : ByteArray := prog_5_method_2_code
def yM_thrown : MethodName := ⟨RM, "thrown", "()I"⟩
abbrev cM_piece : ByteArray := prog_5_method_3_code
def yM_piece : MethodName := ⟨RM, "piece", "(IJJ)I"⟩
abbrev cM_chain : ByteArray := prog_5_method_4_code
def yM_chain : MethodName := ⟨RM, "chain", "()I"⟩
abbrev cM_noChain : ByteArray := prog_5_method_5_code
def yM_noChain : MethodName := ⟨RM, "noChain", "(I)Z"⟩
abbrev cM_isEmpty : ByteArray := prog_5_method_6_code
def yM_isEmpty : MethodName := ⟨RM, "isEmpty", "(I)Z"⟩
abbrev cM_noPiece : ByteArray := prog_5_method_7_code
def yM_noPiece : MethodName := ⟨RM, "noPiece", "(I)Z"⟩
abbrev cM_add : ByteArray := prog_5_method_8_code
def yM_add : MethodName := ⟨RM, "add", "(IIZ)I"⟩
abbrev cM_longPeriod : ByteArray := prog_5_method_9_code
def yM_longPeriod : MethodName := ⟨RM, "longPeriod", "(I)J"⟩
abbrev cM_brings : ByteArray := prog_5_method_10_code
def yM_brings : MethodName := ⟨RM, "brings", "(II)J"⟩
abbrev cM_reaction : ByteArray := prog_5_method_11_code
def yM_reaction : MethodName := ⟨RM, "reaction", "(I)J"⟩
abbrev cM_age : ByteArray := prog_5_method_12_code
def yM_age : MethodName := ⟨RM, "age", "(I)J"⟩
abbrev cM_worst : ByteArray := prog_5_method_13_code
def yM_worst : MethodName := ⟨RM, "worst", "(IZ)J"⟩
abbrev cM_best : ByteArray := prog_5_method_14_code
def yM_best : MethodName := ⟨RM, "best", "(IZ)J"⟩
abbrev cM_clock : ByteArray := prog_5_method_15_code
def yM_clock : MethodName := ⟨RM, "clock", "(IJJ)I"⟩
abbrev cM_wish : ByteArray := prog_5_method_16_code
def yM_wish : MethodName := ⟨RM, "wish", "(IJ)I"⟩
abbrev cM_share : ByteArray := prog_5_method_17_code
def yM_share : MethodName := ⟨RM, "share", "(II)I"⟩
abbrev cM_divisor : ByteArray := prog_5_method_18_code
def yM_divisor : MethodName := ⟨RM, "divisor", "(JJ)J"⟩
abbrev cM_cycle : ByteArray := prog_5_method_19_code
def yM_cycle : MethodName := ⟨RM, "cycle", "(I)J"⟩
abbrev cM_common : ByteArray := prog_5_method_20_code
def yM_common : MethodName := ⟨RM, "common", "(IZJ)J"⟩
abbrev cM_isPlain : ByteArray := prog_5_method_21_code
def yM_isPlain : MethodName := ⟨RM, "isPlain", "(I)Z"⟩
abbrev cM_stepped : ByteArray := prog_5_method_22_code
def yM_stepped : MethodName := ⟨RM, "stepped", "(I)J"⟩
abbrev cM_plain : ByteArray := prog_5_method_23_code
def yM_plain : MethodName := ⟨RM, "plain", "(I)Z"⟩
abbrev cX0_init : ByteArray := prog_2_method_1_code
def yX0_init : MethodName := ⟨RX0, "<init>", "()V"⟩
abbrev cX0_holds : ByteArray := prog_2_method_2_code
def yX0_holds : MethodName := ⟨RX0, "holds", "(LChainSums$Piece;)Z"⟩
abbrev cX0_append : ByteArray := prog_2_method_3_code
def yX0_append : MethodName := ⟨RX0, "append", "(LChainSums$Piece;Z)V"⟩
abbrev cX0_broughtBy : ByteArray := prog_2_method_4_code
def yX0_broughtBy : MethodName := ⟨RX0, "broughtBy", "(I)J"⟩
abbrev cX0_worstReaction : ByteArray := prog_2_method_5_code
def yX0_worstReaction : MethodName := ⟨RX0, "worstReaction", "()J"⟩
abbrev cX0_worstAge : ByteArray := prog_2_method_6_code
def yX0_worstAge : MethodName := ⟨RX0, "worstAge", "()J"⟩
abbrev cX0_answersFrom : ByteArray := prog_2_method_7_code
def yX0_answersFrom : MethodName := ⟨RX0, "answersFrom", "(I)J"⟩
abbrev cX0_keepsWish : ByteArray := prog_2_method_8_code
def yX0_keepsWish : MethodName := ⟨RX0, "keepsWish", "()Z"⟩
abbrev cX0_lacksPeriod : ByteArray := prog_2_method_9_code
def yX0_lacksPeriod : MethodName := ⟨RX0, "lacksPeriod", "()Z"⟩
abbrev cX0_commonCycle : ByteArray := prog_2_method_10_code
def yX0_commonCycle : MethodName := ⟨RX0, "commonCycle", "(Z)J"⟩
abbrev cX0_clocksAreRight : ByteArray := prog_2_method_11_code
def yX0_clocksAreRight : MethodName := ⟨RX0, "clocksAreRight", "()Z"⟩
abbrev cX0_canBeStepped : ByteArray := prog_2_method_12_code
def yX0_canBeStepped : MethodName := ⟨RX0, "canBeStepped", "()Z"⟩
abbrev cX0_longestByStepping : ByteArray := prog_2_method_13_code
def yX0_longestByStepping : MethodName := ⟨RX0, "longestByStepping", "()J"⟩
abbrev cX0_timeFromBegin : ByteArray := prog_2_method_14_code
def yX0_timeFromBegin : MethodName := ⟨RX0, "timeFromBegin", "(J)J"⟩
abbrev cX1_init : ByteArray := prog_3_method_1_code
def yX1_init : MethodName := ⟨RX1, "<init>", "(JJ)V"⟩
abbrev cX1_longPeriod : ByteArray := prog_3_method_2_code
def yX1_longPeriod : MethodName := ⟨RX1, "longPeriod", "()J"⟩
abbrev cL_cycle : ByteArray := method_3_code
def yL_cycle : MethodName := ⟨RL, "cycle", "(LChainSums;I[J)I"⟩
abbrev cL_law : ByteArray := code
def yL_law : MethodName := ⟨RL, "law", "([I)Z"⟩
/-- the words of the tables that are good everywhere -/
def gT : List Cond := lw_tbl.filter goodWord
theorem gt_t {j : Nat} {w : Cond} (h : tables_1[j]? = some w) (hg : goodWord w = true) : w ∈ gT := List.mem_filter.mpr ⟨List.mem_append_right _ (List.mem_of_getElem? h), hg⟩
theorem gt_s {j : Nat} {w : Cond} (h : (k2_sels lw_privs)[j]? = some w) (hg : goodWord w = true) : w ∈ gT := List.mem_filter.mpr ⟨List.mem_append_left _ (List.mem_of_getElem? h), hg⟩
def isN : Cond → Bool
  | .fieldLinkNest _ _ _ _ _ _ => true
  | .methodLinkNest _ _ _ _ => true
  | .arrayOver (.object _) => true
  | _ => false
/-- words on nest mates and arrays of objects, which ride by laws of their own -/
def nsW (U : State) : Prop := ∀ w ∈ tables_1, isN w = true → va_Nw w U
theorem nsW.warm {s U : State} (hW : s.WarmedH U.vm) (h : nsW s) : nsW U := by
  intro w hw hn
  have h1 := h w hw hn
  cases w with
  | fieldLinkNest a i b n d h => exact va_Nw.warmF hW h1
  | methodLinkNest a i x h => exact va_Nw.warmM hW h1
  | arrayOver t =>
    cases t with
    | object C => exact va_AO.moved hW.alike h1
    | _ => cases hn
  | _ => cases hn
theorem nsW.of {s : State} {args : Array Value} (h : ∀ w ∈ lw_tbl, w.before args s = true) : nsW s := by
  intro w hw hn
  have h1 := h w (List.mem_append_right _ hw)
  cases w with
  | fieldLinkNest a i b n d h => exact va_Nw.of rfl h1
  | methodLinkNest a i x h => exact va_Nw.of rfl h1
  | arrayOver t =>
    cases t with
    | object C => exact h1
    | _ => cases hn
  | _ => cases hn
theorem tb_0 : (.initialized RL : Cond) ∈ gT := gt_t (j := 0) (by decide +kernel) (by decide +kernel)
theorem tb_1 : (.initialized RX2 : Cond) ∈ gT := gt_t (j := 1) (by decide +kernel) (by decide +kernel)
theorem tb_2 : (.initialized RM : Cond) ∈ gT := gt_t (j := 2) (by decide +kernel) (by decide +kernel)
theorem tb_3 : (.initialized RX1 : Cond) ∈ gT := gt_t (j := 3) (by decide +kernel) (by decide +kernel)
theorem tb_4 : (.initialized RX0 : Cond) ∈ gT := gt_t (j := 4) (by decide +kernel) (by decide +kernel)
theorem tb_9 : (.initialized "java/lang/Math" : Cond) ∈ gT := gt_t (j := 9) (by decide +kernel) (by decide +kernel)
theorem tb_10 : (.classLink RL 8 RX2 : Cond) ∈ gT := gt_t (j := 10) (by decide +kernel) (by decide +kernel)
theorem tb_11 : (.instantiable RX2 4 : Cond) ∈ gT := gt_t (j := 11) (by decide +kernel) (by decide +kernel)
theorem tb_12 : (.methodLink RL 15 yX2_init : Cond) ∈ gT := gt_t (j := 12) (by decide +kernel) (by decide +kernel)
theorem tb_13 : (.instanceMethod yX2_init : Cond) ∈ gT := gt_t (j := 13) (by decide +kernel) (by decide +kernel)
theorem tb_14 : (.code yX2_init prog_1_method_1_code 1 none : Cond) ∈ gT := gt_t (j := 14) (by decide +kernel) (by decide +kernel)
theorem tb_15 : (.methodLink RX2 1 objectInit : Cond) ∈ gT := gt_t (j := 15) (by decide +kernel) (by decide +kernel)
theorem tb_16 : (.instanceMethod objectInit : Cond) ∈ gT := gt_t (j := 16) (by decide +kernel) (by decide +kernel)
theorem tb_17 : (.code objectInit ⟨#[0xb1]⟩ 1 none : Cond) ∈ gT := gt_t (j := 17) (by decide +kernel) (by decide +kernel)
theorem tb_18 : (.classLink RX2 9 RX1 : Cond) ∈ gT := gt_t (j := 18) (by decide +kernel) (by decide +kernel)
theorem tn_19 : (.arrayOver (.object "ChainSums$Piece") : Cond) ∈ tables_1 := List.mem_of_getElem? (i := 19) (by decide +kernel)
theorem tb_20 : (.classLink RX2 15 RX0 : Cond) ∈ gT := gt_t (j := 20) (by decide +kernel) (by decide +kernel)
theorem tn_21 : (.arrayOver (.object "ChainSums$Chain") : Cond) ∈ tables_1 := List.mem_of_getElem? (i := 21) (by decide +kernel)
theorem tb_22 : (.fieldLink RX2 11 "ChainSums" "pieces" "[LChainSums$Piece;" : Cond) ∈ gT := gt_t (j := 22) (by decide +kernel) (by decide +kernel)
theorem tb_23 : (.fieldLink RX2 17 "ChainSums" "chains" "[LChainSums$Chain;" : Cond) ∈ gT := gt_t (j := 23) (by decide +kernel) (by decide +kernel)
theorem tb_24 : (.fieldLink RX2 21 "ChainSums" "pieceCount" "I" : Cond) ∈ gT := gt_t (j := 24) (by decide +kernel) (by decide +kernel)
theorem tb_25 : (.fieldLink RX2 25 "ChainSums" "chainCount" "I" : Cond) ∈ gT := gt_t (j := 25) (by decide +kernel) (by decide +kernel)
theorem tb_35 : (.methodLink RL 21 yX2_piece : Cond) ∈ gT := gt_t (j := 35) (by decide +kernel) (by decide +kernel)
theorem tb_36 : (.instanceMethod yX2_piece : Cond) ∈ gT := gt_t (j := 36) (by decide +kernel) (by decide +kernel)
theorem tb_37 : (.selects RX2 yX2_piece yX2_piece : Cond) ∈ gT := gt_t (j := 37) (by decide +kernel) (by decide +kernel)
theorem tb_38 : (.code yX2_piece prog_1_method_2_code 6 (some .int) : Cond) ∈ gT := gt_t (j := 38) (by decide +kernel) (by decide +kernel)
theorem tb_39 : (.constantLong RX2 28 (lN 20000) : Cond) ∈ gT := gt_t (j := 39) (by decide +kernel) (by decide +kernel)
theorem tb_40 : (.instantiable RX1 4 : Cond) ∈ gT := gt_t (j := 40) (by decide +kernel) (by decide +kernel)
theorem tn_41 : (.methodLinkNest RX2 30 yX1_init "ChainSums" : Cond) ∈ tables_1 := List.mem_of_getElem? (i := 41) (by decide +kernel)
theorem tb_42 : (.instanceMethod yX1_init : Cond) ∈ gT := gt_t (j := 42) (by decide +kernel) (by decide +kernel)
theorem tb_43 : (.code yX1_init prog_3_method_1_code 5 none : Cond) ∈ gT := gt_t (j := 43) (by decide +kernel) (by decide +kernel)
theorem tb_44 : (.methodLink RX1 1 objectInit : Cond) ∈ gT := gt_t (j := 44) (by decide +kernel) (by decide +kernel)
theorem tb_45 : (.fieldLink RX1 7 "ChainSums$Piece" "period" "J" : Cond) ∈ gT := gt_t (j := 45) (by decide +kernel) (by decide +kernel)
theorem tn_46 : (.fieldLinkNest RX2 45 "ChainSums$Piece" "period" "J" "ChainSums" : Cond) ∈ tables_1 := List.mem_of_getElem? (i := 46) (by decide +kernel)
theorem tn_47 : (.fieldLinkNest RX0 45 "ChainSums$Piece" "period" "J" "ChainSums" : Cond) ∈ tables_1 := List.mem_of_getElem? (i := 47) (by decide +kernel)
theorem tb_48 : (.fieldLink RX1 13 "ChainSums$Piece" "answer" "J" : Cond) ∈ gT := gt_t (j := 48) (by decide +kernel) (by decide +kernel)
theorem tn_49 : (.fieldLinkNest RX0 35 "ChainSums$Piece" "answer" "J" "ChainSums" : Cond) ∈ tables_1 := List.mem_of_getElem? (i := 49) (by decide +kernel)
theorem tb_50 : (.fieldLink RX1 16 "ChainSums$Piece" "up" "J" : Cond) ∈ gT := gt_t (j := 50) (by decide +kernel) (by decide +kernel)
theorem tn_51 : (.fieldLinkNest RX2 75 "ChainSums$Piece" "up" "J" "ChainSums" : Cond) ∈ tables_1 := List.mem_of_getElem? (i := 51) (by decide +kernel)
theorem tn_52 : (.fieldLinkNest RX0 59 "ChainSums$Piece" "up" "J" "ChainSums" : Cond) ∈ tables_1 := List.mem_of_getElem? (i := 52) (by decide +kernel)
theorem tb_53 : (.fieldLink RX1 19 "ChainSums$Piece" "down" "J" : Cond) ∈ gT := gt_t (j := 53) (by decide +kernel) (by decide +kernel)
theorem tn_54 : (.fieldLinkNest RX2 78 "ChainSums$Piece" "down" "J" "ChainSums" : Cond) ∈ tables_1 := List.mem_of_getElem? (i := 54) (by decide +kernel)
theorem tb_64 : (.methodLink RL 26 yX2_chain : Cond) ∈ gT := gt_t (j := 64) (by decide +kernel) (by decide +kernel)
theorem tb_65 : (.instanceMethod yX2_chain : Cond) ∈ gT := gt_t (j := 65) (by decide +kernel) (by decide +kernel)
theorem tb_66 : (.selects RX2 yX2_chain yX2_chain : Cond) ∈ gT := gt_t (j := 66) (by decide +kernel) (by decide +kernel)
theorem tb_67 : (.code yX2_chain prog_1_method_3_code 1 (some .int) : Cond) ∈ gT := gt_t (j := 67) (by decide +kernel) (by decide +kernel)
theorem tb_68 : (.instantiable RX0 4 : Cond) ∈ gT := gt_t (j := 68) (by decide +kernel) (by decide +kernel)
theorem tn_69 : (.methodLinkNest RX2 33 yX0_init "ChainSums" : Cond) ∈ tables_1 := List.mem_of_getElem? (i := 69) (by decide +kernel)
theorem tb_70 : (.instanceMethod yX0_init : Cond) ∈ gT := gt_t (j := 70) (by decide +kernel) (by decide +kernel)
theorem tb_71 : (.code yX0_init prog_2_method_1_code 1 none : Cond) ∈ gT := gt_t (j := 71) (by decide +kernel) (by decide +kernel)
theorem tb_72 : (.methodLink RX0 3 objectInit : Cond) ∈ gT := gt_t (j := 72) (by decide +kernel) (by decide +kernel)
theorem tb_73 : (.classLink RX0 9 RX1 : Cond) ∈ gT := gt_t (j := 73) (by decide +kernel) (by decide +kernel)
theorem tb_74 : (.constantLong RX0 25 (-1) : Cond) ∈ gT := gt_t (j := 74) (by decide +kernel) (by decide +kernel)
theorem tb_75 : (.fieldLink RX0 11 "ChainSums$Chain" "row" "[LChainSums$Piece;" : Cond) ∈ gT := gt_t (j := 75) (by decide +kernel) (by decide +kernel)
theorem tb_76 : (.fieldLink RX0 17 "ChainSums$Chain" "sampling" "[Z" : Cond) ∈ gT := gt_t (j := 76) (by decide +kernel) (by decide +kernel)
theorem tb_77 : (.fieldLink RX0 21 "ChainSums$Chain" "count" "I" : Cond) ∈ gT := gt_t (j := 77) (by decide +kernel) (by decide +kernel)
theorem tn_78 : (.fieldLinkNest RX2 42 "ChainSums$Chain" "count" "I" "ChainSums" : Cond) ∈ tables_1 := List.mem_of_getElem? (i := 78) (by decide +kernel)
theorem tb_79 : (.fieldLink RX0 27 "ChainSums$Chain" "wished" "J" : Cond) ∈ gT := gt_t (j := 79) (by decide +kernel) (by decide +kernel)
theorem tn_80 : (.fieldLinkNest RX2 84 "ChainSums$Chain" "wished" "J" "ChainSums" : Cond) ∈ tables_1 := List.mem_of_getElem? (i := 80) (by decide +kernel)
theorem tb_90 : (.arrayClass .boolean : Cond) ∈ gT := gt_t (j := 90) (by decide +kernel) (by decide +kernel)
theorem tb_91 : (.methodLink RL 31 yX2_add : Cond) ∈ gT := gt_t (j := 91) (by decide +kernel) (by decide +kernel)
theorem tb_92 : (.instanceMethod yX2_add : Cond) ∈ gT := gt_t (j := 92) (by decide +kernel) (by decide +kernel)
theorem tb_93 : (.selects RX2 yX2_add yX2_add : Cond) ∈ gT := gt_t (j := 93) (by decide +kernel) (by decide +kernel)
theorem tb_94 : (.code yX2_add prog_1_method_4_code 7 (some .int) : Cond) ∈ gT := gt_t (j := 94) (by decide +kernel) (by decide +kernel)
theorem tb_95 : (.methodLink RX2 34 yX2_chainNumbered : Cond) ∈ gT := gt_t (j := 95) (by decide +kernel) (by decide +kernel)
theorem tb_97 : (.instanceMethod yX2_chainNumbered : Cond) ∈ gT := gt_t (j := 97) (by decide +kernel) (by decide +kernel)
theorem tb_98 : (.code yX2_chainNumbered prog_1_method_14_code 2 (some (.object "ChainSums$Chain")) : Cond) ∈ gT := gt_t (j := 98) (by decide +kernel) (by decide +kernel)
theorem tb_99 : (.methodLink RX2 38 yX2_pieceNumbered : Cond) ∈ gT := gt_t (j := 99) (by decide +kernel) (by decide +kernel)
theorem tb_101 : (.instanceMethod yX2_pieceNumbered : Cond) ∈ gT := gt_t (j := 101) (by decide +kernel) (by decide +kernel)
theorem tb_102 : (.code yX2_pieceNumbered prog_1_method_13_code 2 (some (.object "ChainSums$Piece")) : Cond) ∈ gT := gt_t (j := 102) (by decide +kernel) (by decide +kernel)
theorem tn_103 : (.methodLinkNest RX2 49 yX0_holds "ChainSums" : Cond) ∈ tables_1 := List.mem_of_getElem? (i := 103) (by decide +kernel)
theorem tb_105 : (.instanceMethod yX0_holds : Cond) ∈ gT := gt_t (j := 105) (by decide +kernel) (by decide +kernel)
theorem tb_106 : (.code yX0_holds prog_2_method_2_code 3 (some .boolean) : Cond) ∈ gT := gt_t (j := 106) (by decide +kernel) (by decide +kernel)
theorem tn_107 : (.methodLinkNest RX2 53 yX0_append "ChainSums" : Cond) ∈ tables_1 := List.mem_of_getElem? (i := 107) (by decide +kernel)
theorem tb_109 : (.instanceMethod yX0_append : Cond) ∈ gT := gt_t (j := 109) (by decide +kernel) (by decide +kernel)
theorem tb_110 : (.code yX0_append prog_2_method_3_code 3 none : Cond) ∈ gT := gt_t (j := 110) (by decide +kernel) (by decide +kernel)
theorem tb_111 : (.methodLink RL 36 yX2_worst : Cond) ∈ gT := gt_t (j := 111) (by decide +kernel) (by decide +kernel)
theorem tb_112 : (.instanceMethod yX2_worst : Cond) ∈ gT := gt_t (j := 112) (by decide +kernel) (by decide +kernel)
theorem tb_113 : (.selects RX2 yX2_worst yX2_worst : Cond) ∈ gT := gt_t (j := 113) (by decide +kernel) (by decide +kernel)
theorem tb_114 : (.code yX2_worst prog_1_method_5_code 4 (some .long) : Cond) ∈ gT := gt_t (j := 114) (by decide +kernel) (by decide +kernel)
theorem tb_115 : (.methodLink RX2 57 yX2_filledChain : Cond) ∈ gT := gt_t (j := 115) (by decide +kernel) (by decide +kernel)
theorem tb_117 : (.instanceMethod yX2_filledChain : Cond) ∈ gT := gt_t (j := 117) (by decide +kernel) (by decide +kernel)
theorem tb_118 : (.code yX2_filledChain prog_1_method_15_code 3 (some (.object "ChainSums$Chain")) : Cond) ∈ gT := gt_t (j := 118) (by decide +kernel) (by decide +kernel)
theorem tb_119 : (.constantLong RX2 60 (-1) : Cond) ∈ gT := gt_t (j := 119) (by decide +kernel) (by decide +kernel)
theorem tn_120 : (.methodLinkNest RX2 62 yX0_worstAge "ChainSums" : Cond) ∈ tables_1 := List.mem_of_getElem? (i := 120) (by decide +kernel)
theorem tb_122 : (.instanceMethod yX0_worstAge : Cond) ∈ gT := gt_t (j := 122) (by decide +kernel) (by decide +kernel)
theorem tb_123 : (.code yX0_worstAge prog_2_method_6_code 6 (some .long) : Cond) ∈ gT := gt_t (j := 123) (by decide +kernel) (by decide +kernel)
theorem tn_124 : (.methodLinkNest RX0 31 yX1_longPeriod "ChainSums" : Cond) ∈ tables_1 := List.mem_of_getElem? (i := 124) (by decide +kernel)
theorem tb_126 : (.instanceMethod yX1_longPeriod : Cond) ∈ gT := gt_t (j := 126) (by decide +kernel) (by decide +kernel)
theorem tb_127 : (.code yX1_longPeriod prog_3_method_2_code 1 (some .long) : Cond) ∈ gT := gt_t (j := 127) (by decide +kernel) (by decide +kernel)
theorem tn_128 : (.methodLinkNest RX1 22 yX2_unitsUpwards "ChainSums" : Cond) ∈ tables_1 := List.mem_of_getElem? (i := 128) (by decide +kernel)
theorem tb_129 : (.static yX2_unitsUpwards : Cond) ∈ gT := gt_t (j := 129) (by decide +kernel) (by decide +kernel)
theorem tb_130 : (.code yX2_unitsUpwards prog_1_method_17_code 4 (some .long) : Cond) ∈ gT := gt_t (j := 130) (by decide +kernel) (by decide +kernel)
theorem tb_131 : (.methodLink RX0 42 yX0_worstReaction : Cond) ∈ gT := gt_t (j := 131) (by decide +kernel) (by decide +kernel)
theorem tb_133 : (.instanceMethod yX0_worstReaction : Cond) ∈ gT := gt_t (j := 133) (by decide +kernel) (by decide +kernel)
theorem tb_134 : (.code yX0_worstReaction prog_2_method_5_code 4 (some .long) : Cond) ∈ gT := gt_t (j := 134) (by decide +kernel) (by decide +kernel)
theorem tb_135 : (.methodLink RX0 38 yX0_broughtBy : Cond) ∈ gT := gt_t (j := 135) (by decide +kernel) (by decide +kernel)
theorem tb_137 : (.instanceMethod yX0_broughtBy : Cond) ∈ gT := gt_t (j := 137) (by decide +kernel) (by decide +kernel)
theorem tb_138 : (.code yX0_broughtBy prog_2_method_4_code 2 (some .long) : Cond) ∈ gT := gt_t (j := 138) (by decide +kernel) (by decide +kernel)
theorem tn_139 : (.methodLinkNest RX2 66 yX0_worstReaction "ChainSums" : Cond) ∈ tables_1 := List.mem_of_getElem? (i := 139) (by decide +kernel)
theorem tb_140 : (.methodLink RL 41 yX2_best : Cond) ∈ gT := gt_t (j := 140) (by decide +kernel) (by decide +kernel)
theorem tb_141 : (.instanceMethod yX2_best : Cond) ∈ gT := gt_t (j := 141) (by decide +kernel) (by decide +kernel)
theorem tb_142 : (.selects RX2 yX2_best yX2_best : Cond) ∈ gT := gt_t (j := 142) (by decide +kernel) (by decide +kernel)
theorem tb_143 : (.code yX2_best prog_1_method_6_code 4 (some .long) : Cond) ∈ gT := gt_t (j := 143) (by decide +kernel) (by decide +kernel)
theorem tn_144 : (.methodLinkNest RX2 69 yX0_answersFrom "ChainSums" : Cond) ∈ tables_1 := List.mem_of_getElem? (i := 144) (by decide +kernel)
theorem tb_146 : (.instanceMethod yX0_answersFrom : Cond) ∈ gT := gt_t (j := 146) (by decide +kernel) (by decide +kernel)
theorem tb_147 : (.code yX0_answersFrom prog_2_method_7_code 5 (some .long) : Cond) ∈ gT := gt_t (j := 147) (by decide +kernel) (by decide +kernel)
theorem tb_148 : (.methodLink RL 45 yX2_clock : Cond) ∈ gT := gt_t (j := 148) (by decide +kernel) (by decide +kernel)
theorem tb_149 : (.instanceMethod yX2_clock : Cond) ∈ gT := gt_t (j := 149) (by decide +kernel) (by decide +kernel)
theorem tb_150 : (.selects RX2 yX2_clock yX2_clock : Cond) ∈ gT := gt_t (j := 150) (by decide +kernel) (by decide +kernel)
theorem tb_151 : (.code yX2_clock prog_1_method_7_code 7 (some .int) : Cond) ∈ gT := gt_t (j := 151) (by decide +kernel) (by decide +kernel)
theorem tb_152 : (.constantLong RX2 73 (lN 1000000) : Cond) ∈ gT := gt_t (j := 152) (by decide +kernel) (by decide +kernel)
theorem tn_153 : (.methodLinkNest RX2 81 yX1_longPeriod "ChainSums" : Cond) ∈ tables_1 := List.mem_of_getElem? (i := 153) (by decide +kernel)
theorem tb_154 : (.methodLink RL 49 yX2_wish : Cond) ∈ gT := gt_t (j := 154) (by decide +kernel) (by decide +kernel)
theorem tb_155 : (.instanceMethod yX2_wish : Cond) ∈ gT := gt_t (j := 155) (by decide +kernel) (by decide +kernel)
theorem tb_156 : (.selects RX2 yX2_wish yX2_wish : Cond) ∈ gT := gt_t (j := 156) (by decide +kernel) (by decide +kernel)
theorem tb_157 : (.code yX2_wish prog_1_method_8_code 5 (some .int) : Cond) ∈ gT := gt_t (j := 157) (by decide +kernel) (by decide +kernel)
theorem tn_158 : (.methodLinkNest RX2 87 yX0_keepsWish "ChainSums" : Cond) ∈ tables_1 := List.mem_of_getElem? (i := 158) (by decide +kernel)
theorem tb_160 : (.instanceMethod yX0_keepsWish : Cond) ∈ gT := gt_t (j := 160) (by decide +kernel) (by decide +kernel)
theorem tb_161 : (.code yX0_keepsWish prog_2_method_8_code 1 (some .boolean) : Cond) ∈ gT := gt_t (j := 161) (by decide +kernel) (by decide +kernel)
theorem tb_162 : (.methodLink RL 54 yX2_share : Cond) ∈ gT := gt_t (j := 162) (by decide +kernel) (by decide +kernel)
theorem tb_163 : (.instanceMethod yX2_share : Cond) ∈ gT := gt_t (j := 163) (by decide +kernel) (by decide +kernel)
theorem tb_164 : (.selects RX2 yX2_share yX2_share : Cond) ∈ gT := gt_t (j := 164) (by decide +kernel) (by decide +kernel)
theorem tb_165 : (.code yX2_share prog_1_method_9_code 6 (some .int) : Cond) ∈ gT := gt_t (j := 165) (by decide +kernel) (by decide +kernel)
theorem tb_166 : (.methodLink RX2 91 yX2_wishesKept : Cond) ∈ gT := gt_t (j := 166) (by decide +kernel) (by decide +kernel)
theorem tb_168 : (.instanceMethod yX2_wishesKept : Cond) ∈ gT := gt_t (j := 168) (by decide +kernel) (by decide +kernel)
theorem tb_169 : (.code yX2_wishesKept prog_1_method_16_code 3 (some .int) : Cond) ∈ gT := gt_t (j := 169) (by decide +kernel) (by decide +kernel)
theorem tn_170 : (.methodLinkNest RX2 95 yX0_broughtBy "ChainSums" : Cond) ∈ tables_1 := List.mem_of_getElem? (i := 170) (by decide +kernel)
theorem tb_171 : (.constantLong RX2 98 (lN 1000) : Cond) ∈ gT := gt_t (j := 171) (by decide +kernel) (by decide +kernel)
theorem tb_172 : (.methodLink RL 68 yX2_stepped : Cond) ∈ gT := gt_t (j := 172) (by decide +kernel) (by decide +kernel)
theorem tb_173 : (.instanceMethod yX2_stepped : Cond) ∈ gT := gt_t (j := 173) (by decide +kernel) (by decide +kernel)
theorem tb_174 : (.selects RX2 yX2_stepped yX2_stepped : Cond) ∈ gT := gt_t (j := 174) (by decide +kernel) (by decide +kernel)
theorem tb_175 : (.code yX2_stepped prog_1_method_11_code 3 (some .long) : Cond) ∈ gT := gt_t (j := 175) (by decide +kernel) (by decide +kernel)
theorem tn_176 : (.methodLinkNest RX2 114 yX0_canBeStepped "ChainSums" : Cond) ∈ tables_1 := List.mem_of_getElem? (i := 176) (by decide +kernel)
theorem tb_178 : (.instanceMethod yX0_canBeStepped : Cond) ∈ gT := gt_t (j := 178) (by decide +kernel) (by decide +kernel)
theorem tb_179 : (.code yX0_canBeStepped prog_2_method_12_code 1 (some .boolean) : Cond) ∈ gT := gt_t (j := 179) (by decide +kernel) (by decide +kernel)
theorem tb_180 : (.methodLink RX0 62 yX0_clocksAreRight : Cond) ∈ gT := gt_t (j := 180) (by decide +kernel) (by decide +kernel)
theorem tb_182 : (.instanceMethod yX0_clocksAreRight : Cond) ∈ gT := gt_t (j := 182) (by decide +kernel) (by decide +kernel)
theorem tb_183 : (.code yX0_clocksAreRight prog_2_method_11_code 2 (some .boolean) : Cond) ∈ gT := gt_t (j := 183) (by decide +kernel) (by decide +kernel)
theorem tb_184 : (.methodLink RX0 66 yX0_commonCycle : Cond) ∈ gT := gt_t (j := 184) (by decide +kernel) (by decide +kernel)
theorem tb_186 : (.instanceMethod yX0_commonCycle : Cond) ∈ gT := gt_t (j := 186) (by decide +kernel) (by decide +kernel)
theorem tb_187 : (.code yX0_commonCycle prog_2_method_10_code 5 (some .long) : Cond) ∈ gT := gt_t (j := 187) (by decide +kernel) (by decide +kernel)
theorem tb_188 : (.constantLong RX0 48 (lN 1000000000) : Cond) ∈ gT := gt_t (j := 188) (by decide +kernel) (by decide +kernel)
theorem tn_189 : (.methodLinkNest RX0 50 yX2_leastCommonMultiple "ChainSums" : Cond) ∈ tables_1 := List.mem_of_getElem? (i := 189) (by decide +kernel)
theorem tb_190 : (.static yX2_leastCommonMultiple : Cond) ∈ gT := gt_t (j := 190) (by decide +kernel) (by decide +kernel)
theorem tb_191 : (.code yX2_leastCommonMultiple prog_1_method_19_code 6 (some .long) : Cond) ∈ gT := gt_t (j := 191) (by decide +kernel) (by decide +kernel)
theorem tb_192 : (.methodLink RX2 120 yX2_greatestCommonDivisor : Cond) ∈ gT := gt_t (j := 192) (by decide +kernel) (by decide +kernel)
theorem tb_193 : (.static yX2_greatestCommonDivisor : Cond) ∈ gT := gt_t (j := 193) (by decide +kernel) (by decide +kernel)
theorem tb_194 : (.code yX2_greatestCommonDivisor prog_1_method_18_code 11 (some .long) : Cond) ∈ gT := gt_t (j := 194) (by decide +kernel) (by decide +kernel)
theorem tb_195 : (.methodLink RX0 54 Lib.MathLoose.min_long.x : Cond) ∈ gT := gt_t (j := 195) (by decide +kernel) (by decide +kernel)
theorem tb_196 : (.static Lib.MathLoose.min_long.x : Cond) ∈ gT := gt_t (j := 196) (by decide +kernel) (by decide +kernel)
theorem tb_197 : (.code Lib.MathLoose.min_long.x Lib.MathLoose.min_long.code 4 (some .long) : Cond) ∈ gT := gt_t (j := 197) (by decide +kernel) (by decide +kernel)
theorem tb_198 : (.constantLong RX0 70 (lN 20000) : Cond) ∈ gT := gt_t (j := 198) (by decide +kernel) (by decide +kernel)
theorem tn_199 : (.methodLinkNest RX2 117 yX0_longestByStepping "ChainSums" : Cond) ∈ tables_1 := List.mem_of_getElem? (i := 199) (by decide +kernel)
theorem tb_201 : (.instanceMethod yX0_longestByStepping : Cond) ∈ gT := gt_t (j := 201) (by decide +kernel) (by decide +kernel)
theorem tb_202 : (.code yX0_longestByStepping prog_2_method_13_code 9 (some .long) : Cond) ∈ gT := gt_t (j := 202) (by decide +kernel) (by decide +kernel)
theorem tb_203 : (.methodLink RX0 72 yX0_timeFromBegin : Cond) ∈ gT := gt_t (j := 203) (by decide +kernel) (by decide +kernel)
theorem tb_205 : (.instanceMethod yX0_timeFromBegin : Cond) ∈ gT := gt_t (j := 205) (by decide +kernel) (by decide +kernel)
theorem tb_206 : (.code yX0_timeFromBegin prog_2_method_14_code 6 (some .long) : Cond) ∈ gT := gt_t (j := 206) (by decide +kernel) (by decide +kernel)
theorem tn_207 : (.methodLinkNest RX0 79 yX2_unitsUpwards "ChainSums" : Cond) ∈ tables_1 := List.mem_of_getElem? (i := 207) (by decide +kernel)
theorem tb_208 : (.methodLink RX0 76 Lib.MathLoose.max_long.x : Cond) ∈ gT := gt_t (j := 208) (by decide +kernel) (by decide +kernel)
theorem tb_209 : (.static Lib.MathLoose.max_long.x : Cond) ∈ gT := gt_t (j := 209) (by decide +kernel) (by decide +kernel)
theorem tb_210 : (.code Lib.MathLoose.max_long.x Lib.MathLoose.max_long.code 4 (some .long) : Cond) ∈ gT := gt_t (j := 210) (by decide +kernel) (by decide +kernel)
theorem tb_211 : (.methodLink RL 72 yX2_plain : Cond) ∈ gT := gt_t (j := 211) (by decide +kernel) (by decide +kernel)
theorem tb_212 : (.instanceMethod yX2_plain : Cond) ∈ gT := gt_t (j := 212) (by decide +kernel) (by decide +kernel)
theorem tb_213 : (.selects RX2 yX2_plain yX2_plain : Cond) ∈ gT := gt_t (j := 213) (by decide +kernel) (by decide +kernel)
theorem tb_214 : (.code yX2_plain prog_1_method_12_code 3 (some .boolean) : Cond) ∈ gT := gt_t (j := 214) (by decide +kernel) (by decide +kernel)
theorem tb_215 : (.methodLink RL 59 yL_cycle : Cond) ∈ gT := gt_t (j := 215) (by decide +kernel) (by decide +kernel)
theorem tb_216 : (.static yL_cycle : Cond) ∈ gT := gt_t (j := 216) (by decide +kernel) (by decide +kernel)
theorem tb_219 : (.methodLink RL 7 yX2_cycle : Cond) ∈ gT := gt_t (j := 219) (by decide +kernel) (by decide +kernel)
theorem tb_220 : (.instanceMethod yX2_cycle : Cond) ∈ gT := gt_t (j := 220) (by decide +kernel) (by decide +kernel)
theorem tb_221 : (.selects RX2 yX2_cycle yX2_cycle : Cond) ∈ gT := gt_t (j := 221) (by decide +kernel) (by decide +kernel)
theorem tb_222 : (.code yX2_cycle prog_1_method_10_code 3 (some .long) : Cond) ∈ gT := gt_t (j := 222) (by decide +kernel) (by decide +kernel)
theorem tn_223 : (.methodLinkNest RX2 100 yX0_lacksPeriod "ChainSums" : Cond) ∈ tables_1 := List.mem_of_getElem? (i := 223) (by decide +kernel)
theorem tb_225 : (.instanceMethod yX0_lacksPeriod : Cond) ∈ gT := gt_t (j := 225) (by decide +kernel) (by decide +kernel)
theorem tb_226 : (.code yX0_lacksPeriod prog_2_method_9_code 2 (some .boolean) : Cond) ∈ gT := gt_t (j := 226) (by decide +kernel) (by decide +kernel)
theorem tn_293 : (.methodLinkNest RX2 110 yX0_commonCycle "ChainSums" : Cond) ∈ tables_1 := List.mem_of_getElem? (i := 293) (by decide +kernel)
theorem tb_294 : (.classLink RL 16 RM : Cond) ∈ gT := gt_t (j := 294) (by decide +kernel) (by decide +kernel)
theorem tb_295 : (.instantiable RM 12 : Cond) ∈ gT := gt_t (j := 295) (by decide +kernel) (by decide +kernel)
theorem tb_296 : (.methodLink RL 18 yM_init : Cond) ∈ gT := gt_t (j := 296) (by decide +kernel) (by decide +kernel)
theorem tb_297 : (.instanceMethod yM_init : Cond) ∈ gT := gt_t (j := 297) (by decide +kernel) (by decide +kernel)
theorem tb_298 : (.code yM_init prog_5_method_1_code 1 none : Cond) ∈ gT := gt_t (j := 298) (by decide +kernel) (by decide +kernel)
theorem tb_299 : (.methodLink RM 1 objectInit : Cond) ∈ gT := gt_t (j := 299) (by decide +kernel) (by decide +kernel)
theorem tb_300 : (.fieldLink RM 39 "ChainSumsModel" "thrown" "I" : Cond) ∈ gT := gt_t (j := 300) (by decide +kernel) (by decide +kernel)
theorem tb_301 : (.fieldLink RM 45 "ChainSumsModel" "pieces" "I" : Cond) ∈ gT := gt_t (j := 301) (by decide +kernel) (by decide +kernel)
theorem tb_302 : (.fieldLink RM 7 "ChainSumsModel" "periods" "[J" : Cond) ∈ gT := gt_t (j := 302) (by decide +kernel) (by decide +kernel)
theorem tb_303 : (.fieldLink RM 13 "ChainSumsModel" "answers" "[J" : Cond) ∈ gT := gt_t (j := 303) (by decide +kernel) (by decide +kernel)
theorem tb_304 : (.fieldLink RM 16 "ChainSumsModel" "ups" "[J" : Cond) ∈ gT := gt_t (j := 304) (by decide +kernel) (by decide +kernel)
theorem tb_305 : (.fieldLink RM 19 "ChainSumsModel" "downs" "[J" : Cond) ∈ gT := gt_t (j := 305) (by decide +kernel) (by decide +kernel)
theorem tb_306 : (.fieldLink RM 48 "ChainSumsModel" "chains" "I" : Cond) ∈ gT := gt_t (j := 306) (by decide +kernel) (by decide +kernel)
theorem tb_307 : (.fieldLink RM 22 "ChainSumsModel" "rows" "[I" : Cond) ∈ gT := gt_t (j := 307) (by decide +kernel) (by decide +kernel)
theorem tb_308 : (.fieldLink RM 26 "ChainSumsModel" "setOff" "[Z" : Cond) ∈ gT := gt_t (j := 308) (by decide +kernel) (by decide +kernel)
theorem tb_309 : (.fieldLink RM 30 "ChainSumsModel" "many" "[I" : Cond) ∈ gT := gt_t (j := 309) (by decide +kernel) (by decide +kernel)
theorem tb_310 : (.fieldLink RM 33 "ChainSumsModel" "wished" "[Z" : Cond) ∈ gT := gt_t (j := 310) (by decide +kernel) (by decide +kernel)
theorem tb_311 : (.fieldLink RM 36 "ChainSumsModel" "wishes" "[J" : Cond) ∈ gT := gt_t (j := 311) (by decide +kernel) (by decide +kernel)
theorem tb_337 : (.arrayClass .long : Cond) ∈ gT := gt_t (j := 337) (by decide +kernel) (by decide +kernel)
theorem tb_338 : (.arrayClass .int : Cond) ∈ gT := gt_t (j := 338) (by decide +kernel) (by decide +kernel)
theorem tb_339 : (.methodLink RL 65 yM_thrown : Cond) ∈ gT := gt_t (j := 339) (by decide +kernel) (by decide +kernel)
theorem tb_340 : (.instanceMethod yM_thrown : Cond) ∈ gT := gt_t (j := 340) (by decide +kernel) (by decide +kernel)
theorem tb_341 : (.selects RM yM_thrown yM_thrown : Cond) ∈ gT := gt_t (j := 341) (by decide +kernel) (by decide +kernel)
theorem tb_342 : (.code yM_thrown prog_5_method_2_code 1 (some .int) : Cond) ∈ gT := gt_t (j := 342) (by decide +kernel) (by decide +kernel)
theorem tb_343 : (.methodLink RL 25 yM_piece : Cond) ∈ gT := gt_t (j := 343) (by decide +kernel) (by decide +kernel)
theorem tb_344 : (.instanceMethod yM_piece : Cond) ∈ gT := gt_t (j := 344) (by decide +kernel) (by decide +kernel)
theorem tb_345 : (.selects RM yM_piece yM_piece : Cond) ∈ gT := gt_t (j := 345) (by decide +kernel) (by decide +kernel)
theorem tb_346 : (.code yM_piece prog_5_method_3_code 6 (some .int) : Cond) ∈ gT := gt_t (j := 346) (by decide +kernel) (by decide +kernel)
theorem tb_347 : (.constantLong RM 43 (lN 20000) : Cond) ∈ gT := gt_t (j := 347) (by decide +kernel) (by decide +kernel)
theorem tb_348 : (.methodLink RL 30 yM_chain : Cond) ∈ gT := gt_t (j := 348) (by decide +kernel) (by decide +kernel)
theorem tb_349 : (.instanceMethod yM_chain : Cond) ∈ gT := gt_t (j := 349) (by decide +kernel) (by decide +kernel)
theorem tb_350 : (.selects RM yM_chain yM_chain : Cond) ∈ gT := gt_t (j := 350) (by decide +kernel) (by decide +kernel)
theorem tb_351 : (.code yM_chain prog_5_method_4_code 1 (some .int) : Cond) ∈ gT := gt_t (j := 351) (by decide +kernel) (by decide +kernel)
theorem tb_352 : (.methodLink RL 35 yM_add : Cond) ∈ gT := gt_t (j := 352) (by decide +kernel) (by decide +kernel)
theorem tb_353 : (.instanceMethod yM_add : Cond) ∈ gT := gt_t (j := 353) (by decide +kernel) (by decide +kernel)
theorem tb_354 : (.selects RM yM_add yM_add : Cond) ∈ gT := gt_t (j := 354) (by decide +kernel) (by decide +kernel)
theorem tb_355 : (.code yM_add prog_5_method_8_code 6 (some .int) : Cond) ∈ gT := gt_t (j := 355) (by decide +kernel) (by decide +kernel)
theorem tb_356 : (.methodLink RM 51 yM_noChain : Cond) ∈ gT := gt_t (j := 356) (by decide +kernel) (by decide +kernel)
theorem tb_358 : (.instanceMethod yM_noChain : Cond) ∈ gT := gt_t (j := 358) (by decide +kernel) (by decide +kernel)
theorem tb_359 : (.code yM_noChain prog_5_method_5_code 2 (some .boolean) : Cond) ∈ gT := gt_t (j := 359) (by decide +kernel) (by decide +kernel)
theorem tb_360 : (.methodLink RM 55 yM_noPiece : Cond) ∈ gT := gt_t (j := 360) (by decide +kernel) (by decide +kernel)
theorem tb_362 : (.instanceMethod yM_noPiece : Cond) ∈ gT := gt_t (j := 362) (by decide +kernel) (by decide +kernel)
theorem tb_363 : (.code yM_noPiece prog_5_method_7_code 2 (some .boolean) : Cond) ∈ gT := gt_t (j := 363) (by decide +kernel) (by decide +kernel)
theorem tb_364 : (.methodLink RL 40 yM_worst : Cond) ∈ gT := gt_t (j := 364) (by decide +kernel) (by decide +kernel)
theorem tb_365 : (.instanceMethod yM_worst : Cond) ∈ gT := gt_t (j := 365) (by decide +kernel) (by decide +kernel)
theorem tb_366 : (.selects RM yM_worst yM_worst : Cond) ∈ gT := gt_t (j := 366) (by decide +kernel) (by decide +kernel)
theorem tb_367 : (.code yM_worst prog_5_method_13_code 3 (some .long) : Cond) ∈ gT := gt_t (j := 367) (by decide +kernel) (by decide +kernel)
theorem tb_368 : (.methodLink RM 69 yM_isEmpty : Cond) ∈ gT := gt_t (j := 368) (by decide +kernel) (by decide +kernel)
theorem tb_370 : (.instanceMethod yM_isEmpty : Cond) ∈ gT := gt_t (j := 370) (by decide +kernel) (by decide +kernel)
theorem tb_371 : (.code yM_isEmpty prog_5_method_6_code 2 (some .boolean) : Cond) ∈ gT := gt_t (j := 371) (by decide +kernel) (by decide +kernel)
theorem tb_372 : (.constantLong RM 72 (-1) : Cond) ∈ gT := gt_t (j := 372) (by decide +kernel) (by decide +kernel)
theorem tb_373 : (.methodLink RM 74 yM_age : Cond) ∈ gT := gt_t (j := 373) (by decide +kernel) (by decide +kernel)
theorem tb_375 : (.instanceMethod yM_age : Cond) ∈ gT := gt_t (j := 375) (by decide +kernel) (by decide +kernel)
theorem tb_376 : (.code yM_age prog_5_method_12_code 4 (some .long) : Cond) ∈ gT := gt_t (j := 376) (by decide +kernel) (by decide +kernel)
theorem tb_377 : (.methodLink RM 66 yM_reaction : Cond) ∈ gT := gt_t (j := 377) (by decide +kernel) (by decide +kernel)
theorem tb_379 : (.instanceMethod yM_reaction : Cond) ∈ gT := gt_t (j := 379) (by decide +kernel) (by decide +kernel)
theorem tb_380 : (.code yM_reaction prog_5_method_11_code 5 (some .long) : Cond) ∈ gT := gt_t (j := 380) (by decide +kernel) (by decide +kernel)
theorem tb_381 : (.methodLink RM 62 yM_brings : Cond) ∈ gT := gt_t (j := 381) (by decide +kernel) (by decide +kernel)
theorem tb_383 : (.instanceMethod yM_brings : Cond) ∈ gT := gt_t (j := 383) (by decide +kernel) (by decide +kernel)
theorem tb_384 : (.code yM_brings prog_5_method_10_code 4 (some .long) : Cond) ∈ gT := gt_t (j := 384) (by decide +kernel) (by decide +kernel)
theorem tb_385 : (.methodLink RM 58 yM_longPeriod : Cond) ∈ gT := gt_t (j := 385) (by decide +kernel) (by decide +kernel)
theorem tb_387 : (.instanceMethod yM_longPeriod : Cond) ∈ gT := gt_t (j := 387) (by decide +kernel) (by decide +kernel)
theorem tb_388 : (.code yM_longPeriod prog_5_method_9_code 2 (some .long) : Cond) ∈ gT := gt_t (j := 388) (by decide +kernel) (by decide +kernel)
theorem tb_389 : (.methodLink RL 44 yM_best : Cond) ∈ gT := gt_t (j := 389) (by decide +kernel) (by decide +kernel)
theorem tb_390 : (.instanceMethod yM_best : Cond) ∈ gT := gt_t (j := 390) (by decide +kernel) (by decide +kernel)
theorem tb_391 : (.selects RM yM_best yM_best : Cond) ∈ gT := gt_t (j := 391) (by decide +kernel) (by decide +kernel)
theorem tb_392 : (.code yM_best prog_5_method_14_code 6 (some .long) : Cond) ∈ gT := gt_t (j := 392) (by decide +kernel) (by decide +kernel)
theorem tb_393 : (.methodLink RL 48 yM_clock : Cond) ∈ gT := gt_t (j := 393) (by decide +kernel) (by decide +kernel)
theorem tb_394 : (.instanceMethod yM_clock : Cond) ∈ gT := gt_t (j := 394) (by decide +kernel) (by decide +kernel)
theorem tb_395 : (.selects RM yM_clock yM_clock : Cond) ∈ gT := gt_t (j := 395) (by decide +kernel) (by decide +kernel)
theorem tb_396 : (.code yM_clock prog_5_method_15_code 6 (some .int) : Cond) ∈ gT := gt_t (j := 396) (by decide +kernel) (by decide +kernel)
theorem tb_397 : (.constantLong RM 77 (lN 1000000) : Cond) ∈ gT := gt_t (j := 397) (by decide +kernel) (by decide +kernel)
theorem tb_398 : (.methodLink RL 53 yM_wish : Cond) ∈ gT := gt_t (j := 398) (by decide +kernel) (by decide +kernel)
theorem tb_399 : (.instanceMethod yM_wish : Cond) ∈ gT := gt_t (j := 399) (by decide +kernel) (by decide +kernel)
theorem tb_400 : (.selects RM yM_wish yM_wish : Cond) ∈ gT := gt_t (j := 400) (by decide +kernel) (by decide +kernel)
theorem tb_401 : (.code yM_wish prog_5_method_16_code 4 (some .int) : Cond) ∈ gT := gt_t (j := 401) (by decide +kernel) (by decide +kernel)
theorem tb_402 : (.methodLink RL 58 yM_share : Cond) ∈ gT := gt_t (j := 402) (by decide +kernel) (by decide +kernel)
theorem tb_403 : (.instanceMethod yM_share : Cond) ∈ gT := gt_t (j := 403) (by decide +kernel) (by decide +kernel)
theorem tb_404 : (.selects RM yM_share yM_share : Cond) ∈ gT := gt_t (j := 404) (by decide +kernel) (by decide +kernel)
theorem tb_405 : (.code yM_share prog_5_method_17_code 5 (some .int) : Cond) ∈ gT := gt_t (j := 405) (by decide +kernel) (by decide +kernel)
theorem tb_406 : (.constantLong RM 79 (lN 1000) : Cond) ∈ gT := gt_t (j := 406) (by decide +kernel) (by decide +kernel)
theorem tb_407 : (.methodLink RL 64 yM_cycle : Cond) ∈ gT := gt_t (j := 407) (by decide +kernel) (by decide +kernel)
theorem tb_408 : (.instanceMethod yM_cycle : Cond) ∈ gT := gt_t (j := 408) (by decide +kernel) (by decide +kernel)
theorem tb_409 : (.selects RM yM_cycle yM_cycle : Cond) ∈ gT := gt_t (j := 409) (by decide +kernel) (by decide +kernel)
theorem tb_410 : (.code yM_cycle prog_5_method_19_code 3 (some .long) : Cond) ∈ gT := gt_t (j := 410) (by decide +kernel) (by decide +kernel)
theorem tb_411 : (.constantLong RM 81 (lN 1000000000) : Cond) ∈ gT := gt_t (j := 411) (by decide +kernel) (by decide +kernel)
theorem tb_412 : (.methodLink RM 83 yM_common : Cond) ∈ gT := gt_t (j := 412) (by decide +kernel) (by decide +kernel)
theorem tb_414 : (.instanceMethod yM_common : Cond) ∈ gT := gt_t (j := 414) (by decide +kernel) (by decide +kernel)
theorem tb_415 : (.code yM_common prog_5_method_20_code 10 (some .long) : Cond) ∈ gT := gt_t (j := 415) (by decide +kernel) (by decide +kernel)
theorem tb_416 : (.methodLink RM 87 yM_divisor : Cond) ∈ gT := gt_t (j := 416) (by decide +kernel) (by decide +kernel)
theorem tb_417 : (.static yM_divisor : Cond) ∈ gT := gt_t (j := 417) (by decide +kernel) (by decide +kernel)
theorem tb_418 : (.code yM_divisor prog_5_method_18_code 10 (some .long) : Cond) ∈ gT := gt_t (j := 418) (by decide +kernel) (by decide +kernel)
theorem tb_419 : (.methodLink RL 71 yM_stepped : Cond) ∈ gT := gt_t (j := 419) (by decide +kernel) (by decide +kernel)
theorem tb_420 : (.instanceMethod yM_stepped : Cond) ∈ gT := gt_t (j := 420) (by decide +kernel) (by decide +kernel)
theorem tb_421 : (.selects RM yM_stepped yM_stepped : Cond) ∈ gT := gt_t (j := 421) (by decide +kernel) (by decide +kernel)
theorem tb_422 : (.code yM_stepped prog_5_method_22_code 12 (some .long) : Cond) ∈ gT := gt_t (j := 422) (by decide +kernel) (by decide +kernel)
theorem tb_423 : (.methodLink RM 93 yM_isPlain : Cond) ∈ gT := gt_t (j := 423) (by decide +kernel) (by decide +kernel)
theorem tb_425 : (.instanceMethod yM_isPlain : Cond) ∈ gT := gt_t (j := 425) (by decide +kernel) (by decide +kernel)
theorem tb_426 : (.code yM_isPlain prog_5_method_21_code 4 (some .boolean) : Cond) ∈ gT := gt_t (j := 426) (by decide +kernel) (by decide +kernel)
theorem tb_427 : (.constantLong RM 91 (lN 20001) : Cond) ∈ gT := gt_t (j := 427) (by decide +kernel) (by decide +kernel)
theorem tb_428 : (.methodLink RL 76 yM_plain : Cond) ∈ gT := gt_t (j := 428) (by decide +kernel) (by decide +kernel)
theorem tb_429 : (.instanceMethod yM_plain : Cond) ∈ gT := gt_t (j := 429) (by decide +kernel) (by decide +kernel)
theorem tb_430 : (.selects RM yM_plain yM_plain : Cond) ∈ gT := gt_t (j := 430) (by decide +kernel) (by decide +kernel)
theorem tb_431 : (.code yM_plain prog_5_method_23_code 2 (some .boolean) : Cond) ∈ gT := gt_t (j := 431) (by decide +kernel) (by decide +kernel)
theorem tb_432 : (.constantLong RL 19 (lN 4294967295) : Cond) ∈ gT := gt_t (j := 432) (by decide +kernel) (by decide +kernel)
theorem ts_0 : (.selects RX2 yX2_chainNumbered yX2_chainNumbered : Cond) ∈ gT := gt_s (j := 0) (by decide +kernel) (by decide +kernel)
theorem ts_1 : (.selects RX2 yX2_pieceNumbered yX2_pieceNumbered : Cond) ∈ gT := gt_s (j := 1) (by decide +kernel) (by decide +kernel)
theorem ts_2 : (.selects RX0 yX0_holds yX0_holds : Cond) ∈ gT := gt_s (j := 2) (by decide +kernel) (by decide +kernel)
theorem ts_3 : (.selects RX0 yX0_append yX0_append : Cond) ∈ gT := gt_s (j := 3) (by decide +kernel) (by decide +kernel)
theorem ts_4 : (.selects RX2 yX2_filledChain yX2_filledChain : Cond) ∈ gT := gt_s (j := 4) (by decide +kernel) (by decide +kernel)
theorem ts_5 : (.selects RX0 yX0_worstAge yX0_worstAge : Cond) ∈ gT := gt_s (j := 5) (by decide +kernel) (by decide +kernel)
theorem ts_6 : (.selects RX1 yX1_longPeriod yX1_longPeriod : Cond) ∈ gT := gt_s (j := 6) (by decide +kernel) (by decide +kernel)
theorem ts_7 : (.selects RX0 yX0_worstReaction yX0_worstReaction : Cond) ∈ gT := gt_s (j := 7) (by decide +kernel) (by decide +kernel)
theorem ts_8 : (.selects RX0 yX0_broughtBy yX0_broughtBy : Cond) ∈ gT := gt_s (j := 8) (by decide +kernel) (by decide +kernel)
theorem ts_9 : (.selects RX0 yX0_answersFrom yX0_answersFrom : Cond) ∈ gT := gt_s (j := 9) (by decide +kernel) (by decide +kernel)
theorem ts_10 : (.selects RX0 yX0_keepsWish yX0_keepsWish : Cond) ∈ gT := gt_s (j := 10) (by decide +kernel) (by decide +kernel)
theorem ts_11 : (.selects RX2 yX2_wishesKept yX2_wishesKept : Cond) ∈ gT := gt_s (j := 11) (by decide +kernel) (by decide +kernel)
theorem ts_12 : (.selects RX0 yX0_canBeStepped yX0_canBeStepped : Cond) ∈ gT := gt_s (j := 12) (by decide +kernel) (by decide +kernel)
theorem ts_13 : (.selects RX0 yX0_clocksAreRight yX0_clocksAreRight : Cond) ∈ gT := gt_s (j := 13) (by decide +kernel) (by decide +kernel)
theorem ts_14 : (.selects RX0 yX0_commonCycle yX0_commonCycle : Cond) ∈ gT := gt_s (j := 14) (by decide +kernel) (by decide +kernel)
theorem ts_15 : (.selects RX0 yX0_longestByStepping yX0_longestByStepping : Cond) ∈ gT := gt_s (j := 15) (by decide +kernel) (by decide +kernel)
theorem ts_16 : (.selects RX0 yX0_timeFromBegin yX0_timeFromBegin : Cond) ∈ gT := gt_s (j := 16) (by decide +kernel) (by decide +kernel)
theorem ts_17 : (.selects RX0 yX0_lacksPeriod yX0_lacksPeriod : Cond) ∈ gT := gt_s (j := 17) (by decide +kernel) (by decide +kernel)
theorem ts_19 : (.selects RM yM_noChain yM_noChain : Cond) ∈ gT := gt_s (j := 19) (by decide +kernel) (by decide +kernel)
theorem ts_20 : (.selects RM yM_noPiece yM_noPiece : Cond) ∈ gT := gt_s (j := 20) (by decide +kernel) (by decide +kernel)
theorem ts_21 : (.selects RM yM_isEmpty yM_isEmpty : Cond) ∈ gT := gt_s (j := 21) (by decide +kernel) (by decide +kernel)
theorem ts_22 : (.selects RM yM_age yM_age : Cond) ∈ gT := gt_s (j := 22) (by decide +kernel) (by decide +kernel)
theorem ts_23 : (.selects RM yM_reaction yM_reaction : Cond) ∈ gT := gt_s (j := 23) (by decide +kernel) (by decide +kernel)
theorem ts_24 : (.selects RM yM_brings yM_brings : Cond) ∈ gT := gt_s (j := 24) (by decide +kernel) (by decide +kernel)
theorem ts_25 : (.selects RM yM_longPeriod yM_longPeriod : Cond) ∈ gT := gt_s (j := 25) (by decide +kernel) (by decide +kernel)
theorem ts_26 : (.selects RM yM_common yM_common : Cond) ∈ gT := gt_s (j := 26) (by decide +kernel) (by decide +kernel)
theorem ts_27 : (.selects RM yM_isPlain yM_isPlain : Cond) ∈ gT := gt_s (j := 27) (by decide +kernel) (by decide +kernel)
theorem inX0 : ∀ w ∈ u_ws RX0 TX0 4, w ∈ gT := by decide +kernel
theorem inX1 : ∀ w ∈ u_ws RX1 TX1 4, w ∈ gT := by decide +kernel
theorem inX2 : ∀ w ∈ u_ws RX2 TX2 4, w ∈ gT := by decide +kernel
theorem inM : ∀ w ∈ u_ws RM TM 12, w ∈ gT := by decide +kernel
theorem gG {y : MethodName} {b : ByteArray} {n : Nat} {r : Option FieldType} (hc : Cond.code y b n r ∈ gT) : GoodIn gT (Cond.code y b n r :: gT) := by
  have h : ∀ w ∈ gT, w ∈ gT ∧ ((w.onTables && w.keeps) = true ∨ ∃ ty, w = .arrayClass ty) := fun w hw => ⟨hw, good_of_word (List.mem_filter.mp hw).2⟩
  intro w hw
  rcases List.mem_cons.mp hw with rfl | hw
  · exact h _ hc
  · exact h w hw
section CW
variable {R : Room} {s : State} {args : Array Value} {own C host : String} {index maxL mc ms : Nat} {y : MethodName} {b : ByteArray} {ret : Option FieldType} {rm : Room}
theorem cw_B (n : Nat) (hts : ∀ w ∈ gT, w.before args s = true) (hc : Cond.code y b maxL ret ∈ gT) (hrc : rm.cells = mc) (hrs : rm.slots = ms) (hl : Cond.methodLink own index y ∈ gT) (hini : Cond.initialized y.cls ∈ gT) (hd : y.cls ≠ "java/lang/invoke/MethodHandle" ∧ y.cls ≠ "java/lang/invoke/VarHandle" ∧ (parseMethodDescriptor y.desc).map (fun d => d.parameters.length) = some n) (hR : rm.frames + 1 ≤ R.frames ∧ 8 + (maxL + 11) + rm.locals ≤ R.locals) : CallB R s args own index y b maxL ret (Cond.code y b maxL ret :: gT) rm mc ms n := callB_of n hts (gG hc) rfl hrc hrs (hts _ hini) (hts _ hl) hd hR
theorem cw_V (n : Nat) (hts : ∀ w ∈ gT, w.before args s = true) (hc : Cond.code y b maxL ret ∈ gT) (hrc : rm.cells = mc) (hrs : rm.slots = ms) (hl : Cond.methodLink own index y ∈ gT) (hini : Cond.initialized y.cls ∈ gT) (hi : Cond.instanceMethod y ∈ gT) (hs : Cond.selects C y y ∈ gT) (hd : y.cls ≠ "java/lang/invoke/MethodHandle" ∧ y.cls ≠ "java/lang/invoke/VarHandle" ∧ (parseMethodDescriptor y.desc).map (fun d => d.parameters.length) = some n) (hR : rm.frames + 1 ≤ R.frames ∧ 8 + (maxL + 11) + rm.locals ≤ R.locals) : CallW R s args own C index y b maxL ret (Cond.code y b maxL ret :: gT) rm mc ms n := ⟨cw_B n hts hc hrc hrs hl hini hd hR, hts _ hi, hts _ hs⟩
theorem cw_S (n : Nat) (hts : ∀ w ∈ gT, w.before args s = true) (hc : Cond.code y b maxL ret ∈ gT) (hrc : rm.cells = mc) (hrs : rm.slots = ms) (hl : Cond.methodLink own index y ∈ gT) (hini : Cond.initialized y.cls ∈ gT) (hi : Cond.static y ∈ gT) (hd : y.cls ≠ "java/lang/invoke/MethodHandle" ∧ y.cls ≠ "java/lang/invoke/VarHandle" ∧ (parseMethodDescriptor y.desc).map (fun d => d.parameters.length) = some n) (hR : rm.frames + 1 ≤ R.frames ∧ 8 + (maxL + 11) + rm.locals ≤ R.locals) : CallB R s args own index y b maxL ret (Cond.code y b maxL ret :: gT) rm mc ms n ∧ (Cond.static y).before args s = true := ⟨cw_B n hts hc hrc hrs hl hini hd hR, hts _ hi⟩
theorem cw_I (n : Nat) (hts : ∀ w ∈ gT, w.before args s = true) (hc : Cond.code y b maxL none ∈ gT) (hrc : rm.cells = mc) (hrs : rm.slots = ms) (hl : Cond.methodLink own index y ∈ gT) (hini : Cond.initialized y.cls ∈ gT) (hi : Cond.instanceMethod y ∈ gT) (hy : y.name = "<init>") (hd : y.cls ≠ "java/lang/invoke/MethodHandle" ∧ y.cls ≠ "java/lang/invoke/VarHandle" ∧ (parseMethodDescriptor y.desc).map (fun d => d.parameters.length) = some n) (hR : rm.frames + 1 ≤ R.frames ∧ 8 + (maxL + 11) + rm.locals ≤ R.locals) : CallB R s args own index y b maxL none (Cond.code y b maxL none :: gT) rm mc ms n ∧ y.name = "<init>" ∧ (Cond.instanceMethod y).before args s = true := ⟨cw_B n hts hc hrc hrs hl hini hd hR, hy, hts _ hi⟩
theorem cw_N (n : Nat) (hts : ∀ w ∈ gT, w.before args s = true) (hc : Cond.code y b maxL ret ∈ gT) (hrc : rm.cells = mc) (hrs : rm.slots = ms) (hl : va_Nw (.methodLinkNest own index y host) s) (hini : Cond.initialized y.cls ∈ gT) (hd : y.cls ≠ "java/lang/invoke/MethodHandle" ∧ y.cls ≠ "java/lang/invoke/VarHandle" ∧ (parseMethodDescriptor y.desc).map (fun d => d.parameters.length) = some n) (hR : rm.frames + 1 ≤ R.frames ∧ 8 + (maxL + 11) + rm.locals ≤ R.locals) : va_CN R s args own index y host b maxL ret (Cond.code y b maxL ret :: gT) rm mc ms n := va_cnB n hts (gG hc) rfl hrc hrs hl (hts _ hini) hd hR
theorem cw_VN (n : Nat) (hts : ∀ w ∈ gT, w.before args s = true) (hc : Cond.code y b maxL ret ∈ gT) (hrc : rm.cells = mc) (hrs : rm.slots = ms) (hl : va_Nw (.methodLinkNest own index y host) s) (hini : Cond.initialized y.cls ∈ gT) (hi : Cond.instanceMethod y ∈ gT) (hs : Cond.selects C y y ∈ gT) (hd : y.cls ≠ "java/lang/invoke/MethodHandle" ∧ y.cls ≠ "java/lang/invoke/VarHandle" ∧ (parseMethodDescriptor y.desc).map (fun d => d.parameters.length) = some n) (hR : rm.frames + 1 ≤ R.frames ∧ 8 + (maxL + 11) + rm.locals ≤ R.locals) : va_CN R s args own index y host b maxL ret (Cond.code y b maxL ret :: gT) rm mc ms n ∧ (Cond.instanceMethod y).before args s = true ∧ (Cond.selects C y y).before args s = true := ⟨cw_N n hts hc hrc hrs hl hini hd hR, hts _ hi, hts _ hs⟩
theorem cw_SN (n : Nat) (hts : ∀ w ∈ gT, w.before args s = true) (hc : Cond.code y b maxL ret ∈ gT) (hrc : rm.cells = mc) (hrs : rm.slots = ms) (hl : va_Nw (.methodLinkNest own index y host) s) (hini : Cond.initialized y.cls ∈ gT) (hi : Cond.static y ∈ gT) (hd : y.cls ≠ "java/lang/invoke/MethodHandle" ∧ y.cls ≠ "java/lang/invoke/VarHandle" ∧ (parseMethodDescriptor y.desc).map (fun d => d.parameters.length) = some n) (hR : rm.frames + 1 ≤ R.frames ∧ 8 + (maxL + 11) + rm.locals ≤ R.locals) : va_CN R s args own index y host b maxL ret (Cond.code y b maxL ret :: gT) rm mc ms n ∧ (Cond.static y).before args s = true ∧ True := ⟨cw_N n hts hc hrc hrs hl hini hd hR, hts _ hi, trivial⟩
theorem cw_IN (n : Nat) (hts : ∀ w ∈ gT, w.before args s = true) (hc : Cond.code y b maxL none ∈ gT) (hrc : rm.cells = mc) (hrs : rm.slots = ms) (hl : va_Nw (.methodLinkNest own index y host) s) (hini : Cond.initialized y.cls ∈ gT) (hi : Cond.instanceMethod y ∈ gT) (hy : y.name = "<init>") (hd : y.cls ≠ "java/lang/invoke/MethodHandle" ∧ y.cls ≠ "java/lang/invoke/VarHandle" ∧ (parseMethodDescriptor y.desc).map (fun d => d.parameters.length) = some n) (hR : rm.frames + 1 ≤ R.frames ∧ 8 + (maxL + 11) + rm.locals ≤ R.locals) : va_CN R s args own index y host b maxL none (Cond.code y b maxL none :: gT) rm mc ms n ∧ y.name = "<init>" ∧ (Cond.instanceMethod y).before args s = true := ⟨cw_N n hts hc hrc hrs hl hini hd hR, hy, hts _ hi⟩
end CW
