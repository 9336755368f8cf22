/-! ===== BEGIN printed: names, fields, word lists, decode rows ===== -/
def RX0 : String := "Sequencepoint$Function"
def TX0 : u_T := fun k => match k with
  | 0 => ("Sequencepoint$Function", "index", "I", false)
  | 1 => ("Sequencepoint$Function", "result", "I", true)
  | 2 => ("Sequencepoint$Function", "first", "LSequencepoint$Variable;", true)
  | _ => ("Sequencepoint$Function", "second", "LSequencepoint$Variable;", true)
def tyX0 : Nat → FieldType := fun k => match k with
  | 0 => .int
  | 1 => .int
  | 2 => .object "Sequencepoint$Variable"
  | _ => .object "Sequencepoint$Variable"
abbrev wsX00 : List Cond := u_ws RX0 TX0 4
theorem nmX0 : ∀ a, a < 4 → ∀ b, b < 4 → a ≠ b → (TX0 a).2.1 ≠ (TX0 b).2.1 := by decide +kernel
theorem tyX0_ok : ∀ k, k < 4 → parseFieldDescriptor (TX0 k).2.2.1 = some (tyX0 k) := by decide +kernel
abbrev cX0_init : ByteArray := prog_2_method_1_code
def yX0_init : MethodName := ⟨RX0, "<init>", "(ILSequencepoint$Variable;LSequencepoint$Variable;)V"⟩
def RX1 : String := "Sequencepoint$Machine"
def TX1 : u_T := fun k => match k with
  | 0 => ("Sequencepoint$Machine", "memory", "LSequencepoint$Memory;", true)
  | 1 => ("Sequencepoint$Machine", "rows", "[I", true)
  | 2 => ("Sequencepoint$Machine", "bodies", "[LSequencepoint$Statement;", false)
  | 3 => ("Sequencepoint$Machine", "outcome", "LSequencepoint$Outcome;", false)
  | 4 => ("Sequencepoint$Machine", "order", "I", false)
  | 5 => ("Sequencepoint$Machine", "depth", "I", false)
  | 6 => ("Sequencepoint$Machine", "isReturning", "Z", false)
  | _ => ("Sequencepoint$Machine", "returned", "J", false)
def tyX1 : Nat → FieldType := fun k => match k with
  | 0 => .object "Sequencepoint$Memory"
  | 1 => .array .int
  | 2 => .array (.object "Sequencepoint$Statement")
  | 3 => .object "Sequencepoint$Outcome"
  | 4 => .int
  | 5 => .int
  | 6 => .boolean
  | _ => .long
abbrev wsX10 : List Cond := u_ws RX1 TX1 8
theorem nmX1 : ∀ a, a < 8 → ∀ b, b < 8 → a ≠ b → (TX1 a).2.1 ≠ (TX1 b).2.1 := by decide +kernel
theorem tyX1_ok : ∀ k, k < 8 → parseFieldDescriptor (TX1 k).2.2.1 = some (tyX1 k) := by decide +kernel
abbrev cX1_init : ByteArray := prog_3_method_1_code
def yX1_init : MethodName := ⟨RX1, "<init>", "()V"⟩
abbrev cX1_perform : ByteArray := prog_3_method_2_code
def yX1_perform : MethodName := ⟨RX1, "perform", "(LSequencepoint$Program;[LSequencepoint$Statement;ILSequencepoint$Outcome;)V"⟩
abbrev cX1_bodyOf : ByteArray := prog_3_method_3_code
def yX1_bodyOf : MethodName := ⟨RX1, "bodyOf", "(I)LSequencepoint$Statement;"⟩
abbrev cX1_isOver : ByteArray := prog_3_method_4_code
def yX1_isOver : MethodName := ⟨RX1, "isOver", "()Z"⟩
abbrev cX1_takeStep : ByteArray := prog_3_method_5_code
def yX1_takeStep : MethodName := ⟨RX1, "takeStep", "()Z"⟩
abbrev cX1_fail : ByteArray := prog_3_method_6_code
def yX1_fail : MethodName := ⟨RX1, "fail", "(CLSequencepoint$Node;)J"⟩
abbrev cX1_execute : ByteArray := prog_3_method_7_code
def yX1_execute : MethodName := ⟨RX1, "execute", "(LSequencepoint$Statement;)V"⟩
abbrev cX1_evaluate : ByteArray := prog_3_method_8_code
def yX1_evaluate : MethodName := ⟨RX1, "evaluate", "(LSequencepoint$Node;)J"⟩
abbrev cX1_enter : ByteArray := prog_3_method_9_code
def yX1_enter : MethodName := ⟨RX1, "enter", "(LSequencepoint$Node;JJ)J"⟩
abbrev cX1_isSecondAhead : ByteArray := prog_3_method_10_code
def yX1_isSecondAhead : MethodName := ⟨RX1, "isSecondAhead", "()Z"⟩
abbrev cX1_reckon : ByteArray := prog_3_method_11_code
def yX1_reckon : MethodName := ⟨RX1, "reckon", "(LSequencepoint$Node;JJ)J"⟩
abbrev cX1_finish : ByteArray := prog_3_method_12_code
def yX1_finish : MethodName := ⟨RX1, "finish", "(LSequencepoint$Node;JJ)J"⟩
abbrev cX1_finishName : ByteArray := prog_3_method_13_code
def yX1_finishName : MethodName := ⟨RX1, "finishName", "(LSequencepoint$Node;J)J"⟩
abbrev cX1_finishBinary : ByteArray := prog_3_method_14_code
def yX1_finishBinary : MethodName := ⟨RX1, "finishBinary", "(LSequencepoint$Node;JJ)J"⟩
abbrev cX1_finishAtPlace : ByteArray := prog_3_method_15_code
def yX1_finishAtPlace : MethodName := ⟨RX1, "finishAtPlace", "(LSequencepoint$Node;JJI)J"⟩
abbrev cX1_changed : ByteArray := prog_3_method_16_code
def yX1_changed : MethodName := ⟨RX1, "changed", "(LSequencepoint$Node;JJ)J"⟩
abbrev cX1_converted : ByteArray := prog_3_method_17_code
def yX1_converted : MethodName := ⟨RX1, "converted", "(JI)J"⟩
abbrev cX1_move : ByteArray := prog_3_method_18_code
def yX1_move : MethodName := ⟨RX1, "move", "(LSequencepoint$Node;JJ)J"⟩
abbrev cX1_read : ByteArray := prog_3_method_19_code
def yX1_read : MethodName := ⟨RX1, "read", "(LSequencepoint$Node;J)J"⟩
abbrev cX1_write : ByteArray := prog_3_method_20_code
def yX1_write : MethodName := ⟨RX1, "write", "(LSequencepoint$Node;JJ)J"⟩
abbrev cX1_openRow : ByteArray := prog_3_method_21_code
def yX1_openRow : MethodName := ⟨RX1, "openRow", "(I)V"⟩
abbrev cX1_slotOf : ByteArray := prog_3_method_22_code
def yX1_slotOf : MethodName := ⟨RX1, "slotOf", "(LSequencepoint$Variable;)I"⟩
abbrev cX1_pointerTo : ByteArray := prog_3_method_23_code
def yX1_pointerTo : MethodName := ⟨RX1, "pointerTo", "(LSequencepoint$Variable;)J"⟩
abbrev cX1_bring : ByteArray := prog_3_method_24_code
def yX1_bring : MethodName := ⟨RX1, "bring", "(LSequencepoint$Variable;)V"⟩
abbrev cX1_bringWith : ByteArray := prog_3_method_25_code
def yX1_bringWith : MethodName := ⟨RX1, "bringWith", "(LSequencepoint$Variable;J)V"⟩
abbrev cX1_print : ByteArray := prog_3_method_26_code
def yX1_print : MethodName := ⟨RX1, "print", "(J)V"⟩
def RX2 : String := "Sequencepoint$Memory"
def TX2 : u_T := fun k => match k with
  | 0 => ("Sequencepoint$Memory", "firstCell", "[I", true)
  | 1 => ("Sequencepoint$Memory", "lastCell", "[I", true)
  | 2 => ("Sequencepoint$Memory", "isAlive", "[Z", true)
  | 3 => ("Sequencepoint$Memory", "owner", "[I", true)
  | 4 => ("Sequencepoint$Memory", "values", "[J", true)
  | 5 => ("Sequencepoint$Memory", "isDetermined", "[Z", true)
  | 6 => ("Sequencepoint$Memory", "loggedCell", "[I", true)
  | 7 => ("Sequencepoint$Memory", "loggedWrite", "[Z", true)
  | 8 => ("Sequencepoint$Memory", "lifeCount", "I", false)
  | 9 => ("Sequencepoint$Memory", "cellCount", "I", false)
  | _ => ("Sequencepoint$Memory", "logCount", "I", false)
def tyX2 : Nat → FieldType := fun k => match k with
  | 0 => .array .int
  | 1 => .array .int
  | 2 => .array .boolean
  | 3 => .array .int
  | 4 => .array .long
  | 5 => .array .boolean
  | 6 => .array .int
  | 7 => .array .boolean
  | 8 => .int
  | 9 => .int
  | _ => .int
abbrev wsX20 : List Cond := u_ws RX2 TX2 11
theorem nmX2 : ∀ a, a < 11 → ∀ b, b < 11 → a ≠ b → (TX2 a).2.1 ≠ (TX2 b).2.1 := by decide +kernel
theorem tyX2_ok : ∀ k, k < 11 → parseFieldDescriptor (TX2 k).2.2.1 = some (tyX2 k) := by decide +kernel
abbrev cX2_init : ByteArray := prog_4_method_1_code
def yX2_init : MethodName := ⟨RX2, "<init>", "()V"⟩
abbrev cX2_clear : ByteArray := prog_4_method_2_code
def yX2_clear : MethodName := ⟨RX2, "clear", "()V"⟩
abbrev cX2_lives : ByteArray := prog_4_method_3_code
def yX2_lives : MethodName := ⟨RX2, "lives", "()I"⟩
abbrev cX2_bear : ByteArray := prog_4_method_4_code
def yX2_bear : MethodName := ⟨RX2, "bear", "(I)I"⟩
abbrev cX2_end : ByteArray := prog_4_method_5_code
def yX2_end : MethodName := ⟨RX2, "end", "(I)V"⟩
abbrev cX2_endSince : ByteArray := prog_4_method_6_code
def yX2_endSince : MethodName := ⟨RX2, "endSince", "(I)V"⟩
abbrev cX2_isCell : ByteArray := prog_4_method_7_code
def yX2_isCell : MethodName := ⟨RX2, "isCell", "(J)Z"⟩
abbrev cX2_pointerTo : ByteArray := prog_4_method_8_code
def yX2_pointerTo : MethodName := ⟨RX2, "pointerTo", "(I)J"⟩
abbrev cX2_lifeOf : ByteArray := prog_4_method_9_code
def yX2_lifeOf : MethodName := ⟨RX2, "lifeOf", "(J)I"⟩
abbrev cX2_isLiving : ByteArray := prog_4_method_10_code
def yX2_isLiving : MethodName := ⟨RX2, "isLiving", "(J)Z"⟩
abbrev cX2_faultOfUsing : ByteArray := prog_4_method_11_code
def yX2_faultOfUsing : MethodName := ⟨RX2, "faultOfUsing", "(JZ)C"⟩
abbrev cX2_faultOfMoving : ByteArray := prog_4_method_12_code
def yX2_faultOfMoving : MethodName := ⟨RX2, "faultOfMoving", "(JJ)C"⟩
abbrev cX2_read : ByteArray := prog_4_method_13_code
def yX2_read : MethodName := ⟨RX2, "read", "(J)J"⟩
abbrev cX2_write : ByteArray := prog_4_method_14_code
def yX2_write : MethodName := ⟨RX2, "write", "(JJ)V"⟩
abbrev cX2_log : ByteArray := prog_4_method_15_code
def yX2_log : MethodName := ⟨RX2, "log", "(IZ)V"⟩
abbrev cX2_logged : ByteArray := prog_4_method_16_code
def yX2_logged : MethodName := ⟨RX2, "logged", "()I"⟩
abbrev cX2_forgetSince : ByteArray := prog_4_method_17_code
def yX2_forgetSince : MethodName := ⟨RX2, "forgetSince", "(I)V"⟩
abbrev cX2_isClash : ByteArray := prog_4_method_18_code
def yX2_isClash : MethodName := ⟨RX2, "isClash", "(II)Z"⟩
abbrev cX2_isWrittenSince : ByteArray := prog_4_method_19_code
def yX2_isWrittenSince : MethodName := ⟨RX2, "isWrittenSince", "(IJ)Z"⟩
def RX3 : String := "Sequencepoint$Node"
def TX3 : u_T := fun k => match k with
  | 0 => ("Sequencepoint$Node", "index", "I", false)
  | 1 => ("Sequencepoint$Node", "shape", "I", false)
  | 2 => ("Sequencepoint$Node", "kind", "C", false)
  | 3 => ("Sequencepoint$Node", "type", "I", false)
  | 4 => ("Sequencepoint$Node", "value", "J", false)
  | 5 => ("Sequencepoint$Node", "variable", "LSequencepoint$Variable;", false)
  | 6 => ("Sequencepoint$Node", "function", "LSequencepoint$Function;", false)
  | 7 => ("Sequencepoint$Node", "first", "LSequencepoint$Node;", false)
  | 8 => ("Sequencepoint$Node", "second", "LSequencepoint$Node;", false)
  | 9 => ("Sequencepoint$Node", "third", "LSequencepoint$Node;", false)
  | 10 => ("Sequencepoint$Node", "depth", "I", false)
  | 11 => ("Sequencepoint$Node", "size", "I", false)
  | 12 => ("Sequencepoint$Node", "hasCall", "Z", false)
  | _ => ("Sequencepoint$Node", "isPart", "Z", false)
def tyX3 : Nat → FieldType := fun k => match k with
  | 0 => .int
  | 1 => .int
  | 2 => .char
  | 3 => .int
  | 4 => .long
  | 5 => .object "Sequencepoint$Variable"
  | 6 => .object "Sequencepoint$Function"
  | 7 => .object "Sequencepoint$Node"
  | 8 => .object "Sequencepoint$Node"
  | 9 => .object "Sequencepoint$Node"
  | 10 => .int
  | 11 => .int
  | 12 => .boolean
  | _ => .boolean
abbrev wsX30 : List Cond := u_ws RX3 TX3 14
theorem nmX3 : ∀ a, a < 14 → ∀ b, b < 14 → a ≠ b → (TX3 a).2.1 ≠ (TX3 b).2.1 := by decide +kernel
theorem tyX3_ok : ∀ k, k < 14 → parseFieldDescriptor (TX3 k).2.2.1 = some (tyX3 k) := by decide +kernel
abbrev cX3_init : ByteArray := prog_5_method_1_code
def yX3_init : MethodName := ⟨RX3, "<init>", "(ICI)V"⟩
abbrev cX3_copyFrom : ByteArray := prog_5_method_2_code
def yX3_copyFrom : MethodName := ⟨RX3, "copyFrom", "(LSequencepoint$Node;)V"⟩
abbrev cX3_setParts : ByteArray := prog_5_method_3_code
def yX3_setParts : MethodName := ⟨RX3, "setParts", "(LSequencepoint$Node;LSequencepoint$Node;LSequencepoint$Node;)V"⟩
abbrev cX3_depthOf : ByteArray := prog_5_method_4_code
def yX3_depthOf : MethodName := ⟨RX3, "depthOf", "(LSequencepoint$Node;)I"⟩
abbrev cX3_sizeOf : ByteArray := prog_5_method_5_code
def yX3_sizeOf : MethodName := ⟨RX3, "sizeOf", "(LSequencepoint$Node;)I"⟩
abbrev cX3_isCalling : ByteArray := prog_5_method_6_code
def yX3_isCalling : MethodName := ⟨RX3, "isCalling", "(LSequencepoint$Node;)Z"⟩
abbrev cX3_isTold : ByteArray := prog_5_method_7_code
def yX3_isTold : MethodName := ⟨RX3, "isTold", "(LSequencepoint$Node;)Z"⟩
abbrev cX3_isPlace : ByteArray := prog_5_method_8_code
def yX3_isPlace : MethodName := ⟨RX3, "isPlace", "()Z"⟩
abbrev cX3_takesPlace : ByteArray := prog_5_method_9_code
def yX3_takesPlace : MethodName := ⟨RX3, "takesPlace", "()Z"⟩
abbrev cX3_isUnsequenced : ByteArray := prog_5_method_10_code
def yX3_isUnsequenced : MethodName := ⟨RX3, "isUnsequenced", "()Z"⟩
abbrev cX3_isChosen : ByteArray := prog_5_method_11_code
def yX3_isChosen : MethodName := ⟨RX3, "isChosen", "()Z"⟩
abbrev cX3_firstToEvaluate : ByteArray := prog_5_method_12_code
def yX3_firstToEvaluate : MethodName := ⟨RX3, "firstToEvaluate", "()LSequencepoint$Node;"⟩
abbrev cX3_secondToEvaluate : ByteArray := prog_5_method_13_code
def yX3_secondToEvaluate : MethodName := ⟨RX3, "secondToEvaluate", "(J)LSequencepoint$Node;"⟩
abbrev cX3_decides : ByteArray := prog_5_method_14_code
def yX3_decides : MethodName := ⟨RX3, "decides", "(J)Z"⟩
abbrev cX3_isReckoned : ByteArray := prog_5_method_15_code
def yX3_isReckoned : MethodName := ⟨RX3, "isReckoned", "()Z"⟩
abbrev cX3_isShift : ByteArray := prog_5_method_16_code
def yX3_isShift : MethodName := ⟨RX3, "isShift", "()Z"⟩
abbrev cX3_operandType : ByteArray := prog_5_method_17_code
def yX3_operandType : MethodName := ⟨RX3, "operandType", "()I"⟩
abbrev cX3_faultOf : ByteArray := prog_5_method_18_code
def yX3_faultOf : MethodName := ⟨RX3, "faultOf", "(JJ)C"⟩
abbrev cX3_resultOf : ByteArray := prog_5_method_19_code
def yX3_resultOf : MethodName := ⟨RX3, "resultOf", "(JJ)J"⟩
def RX4 : String := "Sequencepoint$Numbers"
def TX4 : u_T := fun k => match k with
  | _ => ("", "", "", false)
def tyX4 : Nat → FieldType := fun k => match k with
  | _ => .int
abbrev wsX40 : List Cond := u_ws RX4 TX4 0
theorem nmX4 : ∀ a, a < 0 → ∀ b, b < 0 → a ≠ b → (TX4 a).2.1 ≠ (TX4 b).2.1 := by decide +kernel
theorem tyX4_ok : ∀ k, k < 0 → parseFieldDescriptor (TX4 k).2.2.1 = some (tyX4 k) := by decide +kernel
abbrev cX4_isNumber : ByteArray := prog_6_method_2_code
def yX4_isNumber : MethodName := ⟨RX4, "isNumber", "(I)Z"⟩
abbrev cX4_isType : ByteArray := prog_6_method_3_code
def yX4_isType : MethodName := ⟨RX4, "isType", "(I)Z"⟩
abbrev cX4_has : ByteArray := prog_6_method_4_code
def yX4_has : MethodName := ⟨RX4, "has", "(IJ)Z"⟩
abbrev cX4_convert : ByteArray := prog_6_method_5_code
def yX4_convert : MethodName := ⟨RX4, "convert", "(JI)J"⟩
abbrev cX4_promoted : ByteArray := prog_6_method_6_code
def yX4_promoted : MethodName := ⟨RX4, "promoted", "(I)I"⟩
abbrev cX4_common : ByteArray := prog_6_method_7_code
def yX4_common : MethodName := ⟨RX4, "common", "(II)I"⟩
abbrev cX4_faultOf : ByteArray := prog_6_method_8_code
def yX4_faultOf : MethodName := ⟨RX4, "faultOf", "(CIJJ)C"⟩
abbrev cX4_resultOf : ByteArray := prog_6_method_9_code
def yX4_resultOf : MethodName := ⟨RX4, "resultOf", "(CIJJ)J"⟩
abbrev cX4_rawOf : ByteArray := prog_6_method_10_code
def yX4_rawOf : MethodName := ⟨RX4, "rawOf", "(CJJ)J"⟩
def RX5 : String := "Sequencepoint$Optimiser"
def TX5 : u_T := fun k => match k with
  | 0 => ("Sequencepoint$Optimiser", "bodies", "[LSequencepoint$Statement;", true)
  | 1 => ("Sequencepoint$Optimiser", "stepCount", "I", false)
  | 2 => ("Sequencepoint$Optimiser", "size", "I", false)
  | 3 => ("Sequencepoint$Optimiser", "nodes", "[LSequencepoint$Node;", true)
  | 4 => ("Sequencepoint$Optimiser", "statements", "[LSequencepoint$Statement;", true)
  | 5 => ("Sequencepoint$Optimiser", "became", "[LSequencepoint$Node;", true)
  | 6 => ("Sequencepoint$Optimiser", "statementBecame", "[LSequencepoint$Statement;", true)
  | 7 => ("Sequencepoint$Optimiser", "isUsed", "[Z", true)
  | _ => ("Sequencepoint$Optimiser", "isStatementUsed", "[Z", true)
def tyX5 : Nat → FieldType := fun k => match k with
  | 0 => .array (.object "Sequencepoint$Statement")
  | 1 => .int
  | 2 => .int
  | 3 => .array (.object "Sequencepoint$Node")
  | 4 => .array (.object "Sequencepoint$Statement")
  | 5 => .array (.object "Sequencepoint$Node")
  | 6 => .array (.object "Sequencepoint$Statement")
  | 7 => .array .boolean
  | _ => .array .boolean
abbrev wsX50 : List Cond := u_ws RX5 TX5 9
theorem nmX5 : ∀ a, a < 9 → ∀ b, b < 9 → a ≠ b → (TX5 a).2.1 ≠ (TX5 b).2.1 := by decide +kernel
theorem tyX5_ok : ∀ k, k < 9 → parseFieldDescriptor (TX5 k).2.2.1 = some (tyX5 k) := by decide +kernel
abbrev cX5_init : ByteArray := prog_7_method_1_code
def yX5_init : MethodName := ⟨RX5, "<init>", "()V"⟩
abbrev cX5_improve : ByteArray := prog_7_method_2_code
def yX5_improve : MethodName := ⟨RX5, "improve", "(LSequencepoint$Program;)V"⟩
abbrev cX5_markUsed : ByteArray := prog_7_method_3_code
def yX5_markUsed : MethodName := ⟨RX5, "markUsed", "(LSequencepoint$Program;)V"⟩
abbrev cX5_use : ByteArray := prog_7_method_4_code
def yX5_use : MethodName := ⟨RX5, "use", "(LSequencepoint$Node;)V"⟩
abbrev cX5_useStatement : ByteArray := prog_7_method_5_code
def yX5_useStatement : MethodName := ⟨RX5, "useStatement", "(LSequencepoint$Statement;)V"⟩
abbrev cX5_copyOf : ByteArray := prog_7_method_6_code
def yX5_copyOf : MethodName := ⟨RX5, "copyOf", "(LSequencepoint$Node;LSequencepoint$Node;)LSequencepoint$Node;"⟩
abbrev cX5_copyOfStatement : ByteArray := prog_7_method_7_code
def yX5_copyOfStatement : MethodName := ⟨RX5, "copyOfStatement", "(LSequencepoint$Statement;LSequencepoint$Statement;)LSequencepoint$Statement;"⟩
abbrev cX5_folded : ByteArray := prog_7_method_8_code
def yX5_folded : MethodName := ⟨RX5, "folded", "(LSequencepoint$Node;)LSequencepoint$Node;"⟩
abbrev cX5_shortened : ByteArray := prog_7_method_9_code
def yX5_shortened : MethodName := ⟨RX5, "shortened", "(LSequencepoint$Statement;)LSequencepoint$Statement;"⟩
abbrev cX5_reduce : ByteArray := prog_7_method_10_code
def yX5_reduce : MethodName := ⟨RX5, "reduce", "(LSequencepoint$Node;)LSequencepoint$Node;"⟩
abbrev cX5_tell : ByteArray := prog_7_method_11_code
def yX5_tell : MethodName := ⟨RX5, "tell", "(LSequencepoint$Node;J)LSequencepoint$Node;"⟩
abbrev cX5_take : ByteArray := prog_7_method_12_code
def yX5_take : MethodName := ⟨RX5, "take", "(LSequencepoint$Node;LSequencepoint$Node;)LSequencepoint$Node;"⟩
abbrev cX5_reduceStatement : ByteArray := prog_7_method_13_code
def yX5_reduceStatement : MethodName := ⟨RX5, "reduceStatement", "(LSequencepoint$Statement;)LSequencepoint$Statement;"⟩
abbrev cX5_shorten : ByteArray := prog_7_method_14_code
def yX5_shorten : MethodName := ⟨RX5, "shorten", "(LSequencepoint$Statement;)LSequencepoint$Statement;"⟩
def RX6 : String := "Sequencepoint$Outcome"
def TX6 : u_T := fun k => match k with
  | 0 => ("Sequencepoint$Outcome", "ending", "C", false)
  | 1 => ("Sequencepoint$Outcome", "kind", "C", false)
  | 2 => ("Sequencepoint$Outcome", "node", "I", false)
  | 3 => ("Sequencepoint$Outcome", "stepCount", "I", false)
  | 4 => ("Sequencepoint$Outcome", "choiceCount", "I", false)
  | 5 => ("Sequencepoint$Outcome", "length", "I", false)
  | _ => ("Sequencepoint$Outcome", "text", "[C", true)
def tyX6 : Nat → FieldType := fun k => match k with
  | 0 => .char
  | 1 => .char
  | 2 => .int
  | 3 => .int
  | 4 => .int
  | 5 => .int
  | _ => .array .char
abbrev wsX60 : List Cond := u_ws RX6 TX6 7
theorem nmX6 : ∀ a, a < 7 → ∀ b, b < 7 → a ≠ b → (TX6 a).2.1 ≠ (TX6 b).2.1 := by decide +kernel
theorem tyX6_ok : ∀ k, k < 7 → parseFieldDescriptor (TX6 k).2.2.1 = some (tyX6 k) := by decide +kernel
abbrev cX6_init : ByteArray := prog_8_method_1_code
def yX6_init : MethodName := ⟨RX6, "<init>", "()V"⟩
abbrev cX6_clear : ByteArray := prog_8_method_2_code
def yX6_clear : MethodName := ⟨RX6, "clear", "()V"⟩
abbrev cX6_copyFrom : ByteArray := prog_8_method_3_code
def yX6_copyFrom : MethodName := ⟨RX6, "copyFrom", "(LSequencepoint$Outcome;)V"⟩
abbrev cX6_print : ByteArray := prog_8_method_4_code
def yX6_print : MethodName := ⟨RX6, "print", "(C)V"⟩
abbrev cX6_isSameBehaviour : ByteArray := prog_8_method_5_code
def yX6_isSameBehaviour : MethodName := ⟨RX6, "isSameBehaviour", "(LSequencepoint$Outcome;)Z"⟩
def RX7 : String := "Sequencepoint$Program"
def TX7 : u_T := fun k => match k with
  | 0 => ("Sequencepoint$Program", "variables", "[LSequencepoint$Variable;", true)
  | 1 => ("Sequencepoint$Program", "functions", "[LSequencepoint$Function;", true)
  | 2 => ("Sequencepoint$Program", "bodies", "[LSequencepoint$Statement;", true)
  | 3 => ("Sequencepoint$Program", "nodes", "[LSequencepoint$Node;", true)
  | 4 => ("Sequencepoint$Program", "statements", "[LSequencepoint$Statement;", true)
  | 5 => ("Sequencepoint$Program", "variableCount", "I", false)
  | 6 => ("Sequencepoint$Program", "functionCount", "I", false)
  | 7 => ("Sequencepoint$Program", "nodeCount", "I", false)
  | _ => ("Sequencepoint$Program", "statementCount", "I", false)
def tyX7 : Nat → FieldType := fun k => match k with
  | 0 => .array (.object "Sequencepoint$Variable")
  | 1 => .array (.object "Sequencepoint$Function")
  | 2 => .array (.object "Sequencepoint$Statement")
  | 3 => .array (.object "Sequencepoint$Node")
  | 4 => .array (.object "Sequencepoint$Statement")
  | 5 => .int
  | 6 => .int
  | 7 => .int
  | _ => .int
abbrev wsX70 : List Cond := u_ws RX7 TX7 9
theorem nmX7 : ∀ a, a < 9 → ∀ b, b < 9 → a ≠ b → (TX7 a).2.1 ≠ (TX7 b).2.1 := by decide +kernel
theorem tyX7_ok : ∀ k, k < 9 → parseFieldDescriptor (TX7 k).2.2.1 = some (tyX7 k) := by decide +kernel
abbrev cX7_init : ByteArray := prog_9_method_1_code
def yX7_init : MethodName := ⟨RX7, "<init>", "()V"⟩
abbrev cX7_variableAt : ByteArray := prog_9_method_2_code
def yX7_variableAt : MethodName := ⟨RX7, "variableAt", "(I)LSequencepoint$Variable;"⟩
abbrev cX7_functionAt : ByteArray := prog_9_method_3_code
def yX7_functionAt : MethodName := ⟨RX7, "functionAt", "(I)LSequencepoint$Function;"⟩
abbrev cX7_nodeAt : ByteArray := prog_9_method_4_code
def yX7_nodeAt : MethodName := ⟨RX7, "nodeAt", "(I)LSequencepoint$Node;"⟩
abbrev cX7_statementAt : ByteArray := prog_9_method_5_code
def yX7_statementAt : MethodName := ⟨RX7, "statementAt", "(I)LSequencepoint$Statement;"⟩
abbrev cX7_keepVariable : ByteArray := prog_9_method_6_code
def yX7_keepVariable : MethodName := ⟨RX7, "keepVariable", "(LSequencepoint$Variable;)I"⟩
abbrev cX7_keepFunction : ByteArray := prog_9_method_7_code
def yX7_keepFunction : MethodName := ⟨RX7, "keepFunction", "(LSequencepoint$Function;)I"⟩
abbrev cX7_keepNode : ByteArray := prog_9_method_8_code
def yX7_keepNode : MethodName := ⟨RX7, "keepNode", "(LSequencepoint$Node;LSequencepoint$Node;LSequencepoint$Node;LSequencepoint$Node;)I"⟩
abbrev cX7_keepStatement : ByteArray := prog_9_method_9_code
def yX7_keepStatement : MethodName := ⟨RX7, "keepStatement", "(LSequencepoint$Statement;LSequencepoint$Statement;LSequencepoint$Statement;)I"⟩
abbrev cX7_take : ByteArray := prog_9_method_10_code
def yX7_take : MethodName := ⟨RX7, "take", "(LSequencepoint$Node;)V"⟩
abbrev cX7_takeStatement : ByteArray := prog_9_method_11_code
def yX7_takeStatement : MethodName := ⟨RX7, "takeStatement", "(LSequencepoint$Statement;)V"⟩
abbrev cX7_canJoin : ByteArray := prog_9_method_12_code
def yX7_canJoin : MethodName := ⟨RX7, "canJoin", "(LSequencepoint$Node;LSequencepoint$Node;LSequencepoint$Node;)Z"⟩
abbrev cX7_canJoinStatements : ByteArray := prog_9_method_13_code
def yX7_canJoinStatements : MethodName := ⟨RX7, "canJoinStatements", "(LSequencepoint$Node;LSequencepoint$Statement;LSequencepoint$Statement;)Z"⟩
abbrev cX7_isFree : ByteArray := prog_9_method_14_code
def yX7_isFree : MethodName := ⟨RX7, "isFree", "(LSequencepoint$Node;)Z"⟩
abbrev cX7_isFreeStatement : ByteArray := prog_9_method_15_code
def yX7_isFreeStatement : MethodName := ⟨RX7, "isFreeStatement", "(LSequencepoint$Statement;)Z"⟩
abbrev cX7_putBody : ByteArray := prog_9_method_16_code
def yX7_putBody : MethodName := ⟨RX7, "putBody", "(LSequencepoint$Function;LSequencepoint$Statement;)V"⟩
abbrev cX7_bodyCount : ByteArray := prog_9_method_17_code
def yX7_bodyCount : MethodName := ⟨RX7, "bodyCount", "()I"⟩
abbrev cX7_canStart : ByteArray := prog_9_method_18_code
def yX7_canStart : MethodName := ⟨RX7, "canStart", "()Z"⟩
def RX8 : String := "Sequencepoint$Statement"
def TX8 : u_T := fun k => match k with
  | 0 => ("Sequencepoint$Statement", "index", "I", false)
  | 1 => ("Sequencepoint$Statement", "kind", "C", false)
  | 2 => ("Sequencepoint$Statement", "node", "LSequencepoint$Node;", false)
  | 3 => ("Sequencepoint$Statement", "variable", "LSequencepoint$Variable;", false)
  | 4 => ("Sequencepoint$Statement", "first", "LSequencepoint$Statement;", false)
  | 5 => ("Sequencepoint$Statement", "second", "LSequencepoint$Statement;", false)
  | 6 => ("Sequencepoint$Statement", "depth", "I", false)
  | 7 => ("Sequencepoint$Statement", "size", "I", false)
  | _ => ("Sequencepoint$Statement", "isPart", "Z", false)
def tyX8 : Nat → FieldType := fun k => match k with
  | 0 => .int
  | 1 => .char
  | 2 => .object "Sequencepoint$Node"
  | 3 => .object "Sequencepoint$Variable"
  | 4 => .object "Sequencepoint$Statement"
  | 5 => .object "Sequencepoint$Statement"
  | 6 => .int
  | 7 => .int
  | _ => .boolean
abbrev wsX80 : List Cond := u_ws RX8 TX8 9
theorem nmX8 : ∀ a, a < 9 → ∀ b, b < 9 → a ≠ b → (TX8 a).2.1 ≠ (TX8 b).2.1 := by decide +kernel
theorem tyX8_ok : ∀ k, k < 9 → parseFieldDescriptor (TX8 k).2.2.1 = some (tyX8 k) := by decide +kernel
abbrev cX8_init : ByteArray := prog_10_method_1_code
def yX8_init : MethodName := ⟨RX8, "<init>", "(CLSequencepoint$Node;LSequencepoint$Variable;)V"⟩
abbrev cX8_setParts : ByteArray := prog_10_method_2_code
def yX8_setParts : MethodName := ⟨RX8, "setParts", "(LSequencepoint$Statement;LSequencepoint$Statement;)V"⟩
abbrev cX8_depthOf : ByteArray := prog_10_method_3_code
def yX8_depthOf : MethodName := ⟨RX8, "depthOf", "(LSequencepoint$Statement;)I"⟩
abbrev cX8_sizeOf : ByteArray := prog_10_method_4_code
def yX8_sizeOf : MethodName := ⟨RX8, "sizeOf", "(LSequencepoint$Statement;)I"⟩
def RX9 : String := "Sequencepoint$Typing"
def TX9 : u_T := fun k => match k with
  | _ => ("", "", "", false)
def tyX9 : Nat → FieldType := fun k => match k with
  | _ => .int
abbrev wsX90 : List Cond := u_ws RX9 TX9 0
theorem nmX9 : ∀ a, a < 0 → ∀ b, b < 0 → a ≠ b → (TX9 a).2.1 ≠ (TX9 b).2.1 := by decide +kernel
theorem tyX9_ok : ∀ k, k < 0 → parseFieldDescriptor (TX9 k).2.2.1 = some (tyX9 k) := by decide +kernel
abbrev cX9_ofUnary : ByteArray := prog_11_method_2_code
def yX9_ofUnary : MethodName := ⟨RX9, "ofUnary", "(CLSequencepoint$Node;)I"⟩
abbrev cX9_ofBinary : ByteArray := prog_11_method_3_code
def yX9_ofBinary : MethodName := ⟨RX9, "ofBinary", "(CII)I"⟩
abbrev cX9_ofChoice : ByteArray := prog_11_method_4_code
def yX9_ofChoice : MethodName := ⟨RX9, "ofChoice", "(II)I"⟩
abbrev cX9_canAssign : ByteArray := prog_11_method_5_code
def yX9_canAssign : MethodName := ⟨RX9, "canAssign", "(CLSequencepoint$Node;I)Z"⟩
def RX10 : String := "Sequencepoint$Variable"
def TX10 : u_T := fun k => match k with
  | 0 => ("Sequencepoint$Variable", "index", "I", false)
  | 1 => ("Sequencepoint$Variable", "type", "I", true)
  | 2 => ("Sequencepoint$Variable", "length", "I", true)
  | _ => ("Sequencepoint$Variable", "isGlobal", "Z", true)
def tyX10 : Nat → FieldType := fun k => match k with
  | 0 => .int
  | 1 => .int
  | 2 => .int
  | _ => .boolean
abbrev wsX100 : List Cond := u_ws RX10 TX10 4
theorem nmX10 : ∀ a, a < 4 → ∀ b, b < 4 → a ≠ b → (TX10 a).2.1 ≠ (TX10 b).2.1 := by decide +kernel
theorem tyX10_ok : ∀ k, k < 4 → parseFieldDescriptor (TX10 k).2.2.1 = some (tyX10 k) := by decide +kernel
abbrev cX10_init : ByteArray := prog_12_method_1_code
def yX10_init : MethodName := ⟨RX10, "<init>", "(IIZ)V"⟩
abbrev cX10_isArray : ByteArray := prog_12_method_2_code
def yX10_isArray : MethodName := ⟨RX10, "isArray", "()Z"⟩
abbrev cX10_parts : ByteArray := prog_12_method_3_code
def yX10_parts : MethodName := ⟨RX10, "parts", "()I"⟩
def RX11 : String := "Sequencepoint"
def TX11 : u_T := fun k => match k with
  | 0 => ("Sequencepoint", "program", "LSequencepoint$Program;", true)
  | 1 => ("Sequencepoint", "optimiser", "LSequencepoint$Optimiser;", true)
  | 2 => ("Sequencepoint", "machine", "LSequencepoint$Machine;", true)
  | 3 => ("Sequencepoint", "last", "LSequencepoint$Outcome;", true)
  | 4 => ("Sequencepoint", "tried", "LSequencepoint$Outcome;", true)
  | 5 => ("Sequencepoint", "outcomes", "[LSequencepoint$Outcome;", true)
  | _ => ("Sequencepoint", "stepsOfAll", "J", false)
def tyX11 : Nat → FieldType := fun k => match k with
  | 0 => .object "Sequencepoint$Program"
  | 1 => .object "Sequencepoint$Optimiser"
  | 2 => .object "Sequencepoint$Machine"
  | 3 => .object "Sequencepoint$Outcome"
  | 4 => .object "Sequencepoint$Outcome"
  | 5 => .array (.object "Sequencepoint$Outcome")
  | _ => .long
abbrev wsX110 : List Cond := u_ws RX11 TX11 7
theorem nmX11 : ∀ a, a < 7 → ∀ b, b < 7 → a ≠ b → (TX11 a).2.1 ≠ (TX11 b).2.1 := by decide +kernel
theorem tyX11_ok : ∀ k, k < 7 → parseFieldDescriptor (TX11 k).2.2.1 = some (tyX11 k) := by decide +kernel
abbrev cX11_init : ByteArray := prog_1_method_1_code
def yX11_init : MethodName := ⟨RX11, "<init>", "()V"⟩
abbrev cX11_addVariable : ByteArray := prog_1_method_2_code
def yX11_addVariable : MethodName := ⟨RX11, "addVariable", "(IIZ)I"⟩
abbrev cX11_addFunction : ByteArray := prog_1_method_3_code
def yX11_addFunction : MethodName := ⟨RX11, "addFunction", "(III)I"⟩
abbrev cX11_canBeParameter : ByteArray := prog_1_method_4_code
def yX11_canBeParameter : MethodName := ⟨RX11, "canBeParameter", "(LSequencepoint$Variable;)Z"⟩
abbrev cX11_setBody : ByteArray := prog_1_method_5_code
def yX11_setBody : MethodName := ⟨RX11, "setBody", "(II)I"⟩
abbrev cX11_number : ByteArray := prog_1_method_6_code
def yX11_number : MethodName := ⟨RX11, "number", "(II)I"⟩
abbrev cX11_name : ByteArray := prog_1_method_7_code
def yX11_name : MethodName := ⟨RX11, "name", "(I)I"⟩
abbrev cX11_unary : ByteArray := prog_1_method_8_code
def yX11_unary : MethodName := ⟨RX11, "unary", "(CI)I"⟩
abbrev cX11_cast : ByteArray := prog_1_method_9_code
def yX11_cast : MethodName := ⟨RX11, "cast", "(II)I"⟩
abbrev cX11_binary : ByteArray := prog_1_method_10_code
def yX11_binary : MethodName := ⟨RX11, "binary", "(CII)I"⟩
abbrev cX11_choose : ByteArray := prog_1_method_11_code
def yX11_choose : MethodName := ⟨RX11, "choose", "(III)I"⟩
abbrev cX11_assign : ByteArray := prog_1_method_12_code
def yX11_assign : MethodName := ⟨RX11, "assign", "(CII)I"⟩
abbrev cX11_refuseNodesBeyondLimit : ByteArray := prog_1_method_14_code
def yX11_refuseNodesBeyondLimit : MethodName := ⟨RX11, "refuseNodesBeyondLimit", "()V"⟩
abbrev cX11_typeOf : ByteArray := prog_1_method_15_code
def yX11_typeOf : MethodName := ⟨RX11, "typeOf", "(I)I"⟩
abbrev cX11_simple : ByteArray := prog_1_method_16_code
def yX11_simple : MethodName := ⟨RX11, "simple", "(CI)I"⟩
abbrev cX11_then : ByteArray := prog_1_method_20_code
def yX11_then : MethodName := ⟨RX11, "then", "(II)I"⟩
abbrev cX11_addWhole : ByteArray := prog_1_method_22_code
def yX11_addWhole : MethodName := ⟨RX11, "addWhole", "(CLSequencepoint$Node;LSequencepoint$Statement;LSequencepoint$Statement;)I"⟩
abbrev cX11_refuseStatementsBeyondLimit : ByteArray := prog_1_method_23_code
def yX11_refuseStatementsBeyondLimit : MethodName := ⟨RX11, "refuseStatementsBeyondLimit", "()V"⟩
abbrev cX11_run : ByteArray := prog_1_method_24_code
def yX11_run : MethodName := ⟨RX11, "run", "(I)C"⟩
abbrev cX11_refuseProgramWithoutStart : ByteArray := prog_1_method_26_code
def yX11_refuseProgramWithoutStart : MethodName := ⟨RX11, "refuseProgramWithoutStart", "()V"⟩
abbrev cX11_refuseNegativeOrder : ByteArray := prog_1_method_27_code
def yX11_refuseNegativeOrder : MethodName := ⟨RX11, "refuseNegativeOrder", "(I)V"⟩
abbrev cX11_kindOf : ByteArray := prog_1_method_28_code
def yX11_kindOf : MethodName := ⟨RX11, "kindOf", "()C"⟩
abbrev cX11_placeOf : ByteArray := prog_1_method_29_code
def yX11_placeOf : MethodName := ⟨RX11, "placeOf", "()I"⟩
abbrev cX11_refuseRunWithMeaning : ByteArray := prog_1_method_30_code
def yX11_refuseRunWithMeaning : MethodName := ⟨RX11, "refuseRunWithMeaning", "()V"⟩
abbrev cX11_steps : ByteArray := prog_1_method_31_code
def yX11_steps : MethodName := ⟨RX11, "steps", "()I"⟩
abbrev cX11_choices : ByteArray := prog_1_method_32_code
def yX11_choices : MethodName := ⟨RX11, "choices", "()I"⟩
abbrev cX11_printed : ByteArray := prog_1_method_33_code
def yX11_printed : MethodName := ⟨RX11, "printed", "()I"⟩
abbrev cX11_printedAt : ByteArray := prog_1_method_34_code
def yX11_printedAt : MethodName := ⟨RX11, "printedAt", "(I)C"⟩
abbrev cX11_behaviours : ByteArray := prog_1_method_35_code
def yX11_behaviours : MethodName := ⟨RX11, "behaviours", "()I"⟩
abbrev cX11_undefinedOrders : ByteArray := prog_1_method_36_code
def yX11_undefinedOrders : MethodName := ⟨RX11, "undefinedOrders", "()I"⟩
abbrev cX11_isAsIf : ByteArray := prog_1_method_39_code
def yX11_isAsIf : MethodName := ⟨RX11, "isAsIf", "()Z"⟩
abbrev cX11_allSteps : ByteArray := prog_1_method_41_code
def yX11_allSteps : MethodName := ⟨RX11, "allSteps", "()J"⟩
abbrev cX11_gatherOutcomes : ByteArray := prog_1_method_42_code
def yX11_gatherOutcomes : MethodName := ⟨RX11, "gatherOutcomes", "()I"⟩
abbrev cX11_isAmongFirst : ByteArray := prog_1_method_43_code
def yX11_isAmongFirst : MethodName := ⟨RX11, "isAmongFirst", "(ILSequencepoint$Outcome;)Z"⟩
def RX12 : String := "SequencepointLaw$Fault"
def TX12 : u_T := fun k => match k with
  | 0 => ("java/lang/Throwable", "cause", "Ljava/lang/Throwable;", false)
  | 1 => ("java/lang/Throwable", "stackTrace", "[Ljava/lang/StackTraceElement;", false)
  | 2 => ("java/lang/Throwable", "suppressedExceptions", "Ljava/util/List;", false)
  | 3 => ("java/lang/Throwable", "detailMessage", "Ljava/lang/String;", false)
  | 4 => ("java/lang/Throwable", "backtrace", "Ljava/lang/Object;", false)
  | 5 => ("java/lang/Throwable", "depth", "I", false)
  | 6 => ("SequencepointLaw$Fault", "kind", "I", true)
  | _ => ("SequencepointLaw$Fault", "node", "I", true)
def tyX12 : Nat → FieldType := fun k => match k with
  | 0 => .object "java/lang/Throwable"
  | 1 => .array (.object "java/lang/StackTraceElement")
  | 2 => .object "java/util/List"
  | 3 => .object "java/lang/String"
  | 4 => .object "java/lang/Object"
  | 5 => .int
  | 6 => .int
  | _ => .int
abbrev wsX120 : List Cond := u_ws RX12 TX12 8
theorem nmX12 : ∀ a, a < 8 → ∀ b, b < 8 → a ≠ b → (TX12 a).2.1 ≠ (TX12 b).2.1 := by decide +kernel
theorem tyX12_ok : ∀ k, k < 8 → parseFieldDescriptor (TX12 k).2.2.1 = some (tyX12 k) := by decide +kernel
abbrev cX12_init : ByteArray := prog_14_method_1_code
def yX12_init : MethodName := ⟨RX12, "<init>", "(II)V"⟩
def RX13 : String := "SequencepointModel$End"
def TX13 : u_T := fun k => match k with
  | _ => ("", "", "", false)
def tyX13 : Nat → FieldType := fun k => match k with
  | _ => .int
abbrev wsX130 : List Cond := u_ws RX13 TX13 0
theorem nmX13 : ∀ a, a < 0 → ∀ b, b < 0 → a ≠ b → (TX13 a).2.1 ≠ (TX13 b).2.1 := by decide +kernel
theorem tyX13_ok : ∀ k, k < 0 → parseFieldDescriptor (TX13 k).2.2.1 = some (tyX13 k) := by decide +kernel
def RX14 : String := "SequencepointModel$Frame"
def TX14 : u_T := fun k => match k with
  | _ => ("", "", "", false)
def tyX14 : Nat → FieldType := fun k => match k with
  | _ => .int
abbrev wsX140 : List Cond := u_ws RX14 TX14 0
theorem nmX14 : ∀ a, a < 0 → ∀ b, b < 0 → a ≠ b → (TX14 a).2.1 ≠ (TX14 b).2.1 := by decide +kernel
theorem tyX14_ok : ∀ k, k < 0 → parseFieldDescriptor (TX14 k).2.2.1 = some (tyX14 k) := by decide +kernel
def RX15 : String := "SequencepointModel$Node"
def TX15 : u_T := fun k => match k with
  | _ => ("", "", "", false)
def tyX15 : Nat → FieldType := fun k => match k with
  | _ => .int
abbrev wsX150 : List Cond := u_ws RX15 TX15 0
theorem nmX15 : ∀ a, a < 0 → ∀ b, b < 0 → a ≠ b → (TX15 a).2.1 ≠ (TX15 b).2.1 := by decide +kernel
theorem tyX15_ok : ∀ k, k < 0 → parseFieldDescriptor (TX15 k).2.2.1 = some (tyX15 k) := by decide +kernel
def RX16 : String := "SequencepointModel$Run"
def TX16 : u_T := fun k => match k with
  | _ => ("", "", "", false)
def tyX16 : Nat → FieldType := fun k => match k with
  | _ => .int
abbrev wsX160 : List Cond := u_ws RX16 TX16 0
theorem nmX16 : ∀ a, a < 0 → ∀ b, b < 0 → a ≠ b → (TX16 a).2.1 ≠ (TX16 b).2.1 := by decide +kernel
theorem tyX16_ok : ∀ k, k < 0 → parseFieldDescriptor (TX16 k).2.2.1 = some (tyX16 k) := by decide +kernel
def RX17 : String := "SequencepointModel$Statement"
def TX17 : u_T := fun k => match k with
  | _ => ("", "", "", false)
def tyX17 : Nat → FieldType := fun k => match k with
  | _ => .int
abbrev wsX170 : List Cond := u_ws RX17 TX17 0
theorem nmX17 : ∀ a, a < 0 → ∀ b, b < 0 → a ≠ b → (TX17 a).2.1 ≠ (TX17 b).2.1 := by decide +kernel
theorem tyX17_ok : ∀ k, k < 0 → parseFieldDescriptor (TX17 k).2.2.1 = some (tyX17 k) := by decide +kernel
def RX18 : String := "SequencepointModel$Thing"
def TX18 : u_T := fun k => match k with
  | _ => ("", "", "", false)
def tyX18 : Nat → FieldType := fun k => match k with
  | _ => .int
abbrev wsX180 : List Cond := u_ws RX18 TX18 0
theorem nmX18 : ∀ a, a < 0 → ∀ b, b < 0 → a ≠ b → (TX18 a).2.1 ≠ (TX18 b).2.1 := by decide +kernel
theorem tyX18_ok : ∀ k, k < 0 → parseFieldDescriptor (TX18 k).2.2.1 = some (tyX18 k) := by decide +kernel
def RX19 : String := "SequencepointModel"
def TX19 : u_T := fun k => match k with
  | _ => ("", "", "", false)
def tyX19 : Nat → FieldType := fun k => match k with
  | _ => .int
abbrev wsX190 : List Cond := u_ws RX19 TX19 0
theorem nmX19 : ∀ a, a < 0 → ∀ b, b < 0 → a ≠ b → (TX19 a).2.1 ≠ (TX19 b).2.1 := by decide +kernel
theorem tyX19_ok : ∀ k, k < 0 → parseFieldDescriptor (TX19 k).2.2.1 = some (tyX19 k) := by decide +kernel
def RJx145de : String := "java/io/Serializable"
def TJx145de : u_T := fun k => match k with
  | _ => ("", "", "", false)
def tyJx145de : Nat → FieldType := fun k => match k with
  | _ => .int
theorem nmJx145de : ∀ a, a < 0 → ∀ b, b < 0 → a ≠ b → (TJx145de a).2.1 ≠ (TJx145de b).2.1 := by decide +kernel
theorem tyJx145de_ok : ∀ k, k < 0 → parseFieldDescriptor (TJx145de k).2.2.1 = some (tyJx145de k) := by decide +kernel
def RJ5 : String := "java/lang/AbstractStringBuilder"
def TJ5 : u_T := fun k => match k with
  | _ => ("", "", "", false)
def tyJ5 : Nat → FieldType := fun k => match k with
  | _ => .int
abbrev wsJ50 : List Cond := u_ws RJ5 TJ5 0
theorem nmJ5 : ∀ a, a < 0 → ∀ b, b < 0 → a ≠ b → (TJ5 a).2.1 ≠ (TJ5 b).2.1 := by decide +kernel
theorem tyJ5_ok : ∀ k, k < 0 → parseFieldDescriptor (TJ5 k).2.2.1 = some (tyJ5 k) := by decide +kernel
abbrev cJ5_init_d00df : ByteArray := prog_23_method_2_code
def yJ5_init_d00df : MethodName := ⟨RJ5, "<init>", "(I)V"⟩
abbrev cJ5_length_8abf5 : ByteArray := prog_23_method_6_code
def yJ5_length_8abf5 : MethodName := ⟨RJ5, "length", "()I"⟩
abbrev cJ5_ensureCapacityInternal_d00df : ByteArray := prog_23_method_9_code
def yJ5_ensureCapacityInternal_d00df : MethodName := ⟨RJ5, "ensureCapacityInternal", "(I)V"⟩
abbrev cJ5_newCapacity_0f7a4 : ByteArray := prog_23_method_10_code
def yJ5_newCapacity_0f7a4 : MethodName := ⟨RJ5, "newCapacity", "(I)I"⟩
abbrev cJ5_inflate_da8c8 : ByteArray := prog_23_method_11_code
def yJ5_inflate_da8c8 : MethodName := ⟨RJ5, "inflate", "()V"⟩
abbrev cJ5_charAt_5068e : ByteArray := prog_23_method_14_code
def yJ5_charAt_5068e : MethodName := ⟨RJ5, "charAt", "(I)C"⟩
abbrev cJ5_append_3fe6f : ByteArray := prog_23_method_31_code
def yJ5_append_3fe6f : MethodName := ⟨RJ5, "append", "(C)Ljava/lang/AbstractStringBuilder;"⟩
abbrev cJ5_append_66267 : ByteArray := prog_23_method_33_code
def yJ5_append_66267 : MethodName := ⟨RJ5, "append", "(J)Ljava/lang/AbstractStringBuilder;"⟩
abbrev cJ5_isLatin1_aae02 : ByteArray := prog_23_method_68_code
def yJ5_isLatin1_aae02 : MethodName := ⟨RJ5, "isLatin1", "()Z"⟩
def RJx2cfe8 : String := "java/lang/Appendable"
def TJx2cfe8 : u_T := fun k => match k with
  | _ => ("", "", "", false)
def tyJx2cfe8 : Nat → FieldType := fun k => match k with
  | _ => .int
theorem nmJx2cfe8 : ∀ a, a < 0 → ∀ b, b < 0 → a ≠ b → (TJx2cfe8 a).2.1 ≠ (TJx2cfe8 b).2.1 := by decide +kernel
theorem tyJx2cfe8_ok : ∀ k, k < 0 → parseFieldDescriptor (TJx2cfe8 k).2.2.1 = some (tyJx2cfe8 k) := by decide +kernel
def RJx9f9b0 : String := "java/lang/CharSequence"
def TJx9f9b0 : u_T := fun k => match k with
  | _ => ("", "", "", false)
def tyJx9f9b0 : Nat → FieldType := fun k => match k with
  | _ => .int
theorem nmJx9f9b0 : ∀ a, a < 0 → ∀ b, b < 0 → a ≠ b → (TJx9f9b0 a).2.1 ≠ (TJx9f9b0 b).2.1 := by decide +kernel
theorem tyJx9f9b0_ok : ∀ k, k < 0 → parseFieldDescriptor (TJx9f9b0 k).2.2.1 = some (tyJx9f9b0 k) := by decide +kernel
def RJ11 : String := "java/lang/Character"
def TJ11 : u_T := fun k => match k with
  | _ => ("", "", "", false)
def tyJ11 : Nat → FieldType := fun k => match k with
  | _ => .int
abbrev wsJ110 : List Cond := u_ws RJ11 TJ11 0
theorem nmJ11 : ∀ a, a < 0 → ∀ b, b < 0 → a ≠ b → (TJ11 a).2.1 ≠ (TJ11 b).2.1 := by decide +kernel
theorem tyJ11_ok : ∀ k, k < 0 → parseFieldDescriptor (TJ11 k).2.2.1 = some (tyJ11 k) := by decide +kernel
abbrev cJ11_isValidCodePoint_9a6ad : ByteArray := prog_26_method_11_code
def yJ11_isValidCodePoint_9a6ad : MethodName := ⟨RJ11, "isValidCodePoint", "(I)Z"⟩
abbrev cJ11_highSurrogate_5068e : ByteArray := prog_26_method_28_code
def yJ11_highSurrogate_5068e : MethodName := ⟨RJ11, "highSurrogate", "(I)C"⟩
abbrev cJ11_lowSurrogate_5068e : ByteArray := prog_26_method_29_code
def yJ11_lowSurrogate_5068e : MethodName := ⟨RJ11, "lowSurrogate", "(I)C"⟩
def RJx8e188 : String := "java/lang/Cloneable"
def TJx8e188 : u_T := fun k => match k with
  | _ => ("", "", "", false)
def tyJx8e188 : Nat → FieldType := fun k => match k with
  | _ => .int
theorem nmJx8e188 : ∀ a, a < 0 → ∀ b, b < 0 → a ≠ b → (TJx8e188 a).2.1 ≠ (TJx8e188 b).2.1 := by decide +kernel
theorem tyJx8e188_ok : ∀ k, k < 0 → parseFieldDescriptor (TJx8e188 k).2.2.1 = some (tyJx8e188 k) := by decide +kernel
def RJxb160c : String := "java/lang/Comparable"
def TJxb160c : u_T := fun k => match k with
  | _ => ("", "", "", false)
def tyJxb160c : Nat → FieldType := fun k => match k with
  | _ => .int
theorem nmJxb160c : ∀ a, a < 0 → ∀ b, b < 0 → a ≠ b → (TJxb160c a).2.1 ≠ (TJxb160c b).2.1 := by decide +kernel
theorem tyJxb160c_ok : ∀ k, k < 0 → parseFieldDescriptor (TJxb160c k).2.2.1 = some (tyJxb160c k) := by decide +kernel
def RJ6 : String := "java/lang/Integer"
def TJ6 : u_T := fun k => match k with
  | _ => ("", "", "", false)
def tyJ6 : Nat → FieldType := fun k => match k with
  | _ => .int
abbrev wsJ60 : List Cond := u_ws RJ6 TJ6 0
theorem nmJ6 : ∀ a, a < 0 → ∀ b, b < 0 → a ≠ b → (TJ6 a).2.1 ≠ (TJ6 b).2.1 := by decide +kernel
theorem tyJ6_ok : ∀ k, k < 0 → parseFieldDescriptor (TJ6 k).2.2.1 = some (tyJ6 k) := by decide +kernel
def RJ13 : String := "java/lang/Long"
def TJ13 : u_T := fun k => match k with
  | _ => ("", "", "", false)
def tyJ13 : Nat → FieldType := fun k => match k with
  | _ => .int
abbrev wsJ130 : List Cond := u_ws RJ13 TJ13 0
theorem nmJ13 : ∀ a, a < 0 → ∀ b, b < 0 → a ≠ b → (TJ13 a).2.1 ≠ (TJ13 b).2.1 := by decide +kernel
theorem tyJ13_ok : ∀ k, k < 0 → parseFieldDescriptor (TJ13 k).2.2.1 = some (tyJ13 k) := by decide +kernel
abbrev cJ13_getChars_11360 : ByteArray := prog_34_method_14_code
def yJ13_getChars_11360 : MethodName := ⟨RJ13, "getChars", "(JI[B)I"⟩
abbrev cJ13_stringSize_95d88 : ByteArray := prog_34_method_15_code
def yJ13_stringSize_95d88 : MethodName := ⟨RJ13, "stringSize", "(J)I"⟩
def RJ9 : String := "java/lang/Math"
def TJ9 : u_T := fun k => match k with
  | _ => ("", "", "", false)
def tyJ9 : Nat → FieldType := fun k => match k with
  | _ => .int
abbrev wsJ90 : List Cond := u_ws RJ9 TJ9 0
theorem nmJ9 : ∀ a, a < 0 → ∀ b, b < 0 → a ≠ b → (TJ9 a).2.1 ≠ (TJ9 b).2.1 := by decide +kernel
theorem tyJ9_ok : ∀ k, k < 0 → parseFieldDescriptor (TJ9 k).2.2.1 = some (tyJ9 k) := by decide +kernel
abbrev cJ9_floorDiv_f86c9 : ByteArray := prog_35_method_49_code
def yJ9_floorDiv_f86c9 : MethodName := ⟨RJ9, "floorDiv", "(JJ)J"⟩
abbrev cJ9_abs_067f4 : ByteArray := prog_35_method_61_code
def yJ9_abs_067f4 : MethodName := ⟨RJ9, "abs", "(J)J"⟩
abbrev cJ9_max_7cf53 : ByteArray := prog_35_method_65_code
def yJ9_max_7cf53 : MethodName := ⟨RJ9, "max", "(II)I"⟩
abbrev cJ9_min_7cf53 : ByteArray := prog_35_method_69_code
def yJ9_min_7cf53 : MethodName := ⟨RJ9, "min", "(II)I"⟩
def RJxd2413 : String := "java/lang/Number"
def TJxd2413 : u_T := fun k => match k with
  | _ => ("", "", "", false)
def tyJxd2413 : Nat → FieldType := fun k => match k with
  | _ => .int
theorem nmJxd2413 : ∀ a, a < 0 → ∀ b, b < 0 → a ≠ b → (TJxd2413 a).2.1 ≠ (TJxd2413 b).2.1 := by decide +kernel
theorem tyJxd2413_ok : ∀ k, k < 0 → parseFieldDescriptor (TJxd2413 k).2.2.1 = some (tyJxd2413 k) := by decide +kernel
def RJ0 : String := "java/lang/String"
def TJ0 : u_T := fun k => match k with
  | _ => ("", "", "", false)
def tyJ0 : Nat → FieldType := fun k => match k with
  | _ => .int
abbrev wsJ00 : List Cond := u_ws RJ0 TJ0 0
theorem nmJ0 : ∀ a, a < 0 → ∀ b, b < 0 → a ≠ b → (TJ0 a).2.1 ≠ (TJ0 b).2.1 := by decide +kernel
theorem tyJ0_ok : ∀ k, k < 0 → parseFieldDescriptor (TJ0 k).2.2.1 = some (tyJ0 k) := by decide +kernel
abbrev cJ0_length_8abf5 : ByteArray := prog_38_method_54_code
def yJ0_length_8abf5 : MethodName := ⟨RJ0, "length", "()I"⟩
abbrev cJ0_charAt_5068e : ByteArray := prog_38_method_56_code
def yJ0_charAt_5068e : MethodName := ⟨RJ0, "charAt", "(I)C"⟩
abbrev cJ0_indexOf_0f7a4 : ByteArray := prog_38_method_79_code
def yJ0_indexOf_0f7a4 : MethodName := ⟨RJ0, "indexOf", "(I)I"⟩
abbrev cJ0_indexOf_7cf53 : ByteArray := prog_38_method_80_code
def yJ0_indexOf_7cf53 : MethodName := ⟨RJ0, "indexOf", "(II)I"⟩
abbrev cJ0_coder_7d493 : ByteArray := prog_38_method_152_code
def yJ0_coder_7d493 : MethodName := ⟨RJ0, "coder", "()B"⟩
abbrev cJ0_isLatin1_aae02 : ByteArray := prog_38_method_154_code
def yJ0_isLatin1_aae02 : MethodName := ⟨RJ0, "isLatin1", "()Z"⟩
abbrev cJ0_checkIndex_df160 : ByteArray := prog_38_method_155_code
def yJ0_checkIndex_df160 : MethodName := ⟨RJ0, "checkIndex", "(II)V"⟩
abbrev cJ0_checkBoundsOffCount_cabcc : ByteArray := prog_38_method_157_code
def yJ0_checkBoundsOffCount_cabcc : MethodName := ⟨RJ0, "checkBoundsOffCount", "(III)I"⟩
abbrev cJ0_checkBoundsBeginEnd_23922 : ByteArray := prog_38_method_158_code
def yJ0_checkBoundsBeginEnd_23922 : MethodName := ⟨RJ0, "checkBoundsBeginEnd", "(III)V"⟩
def RJ4 : String := "java/lang/StringBuilder"
def TJ4 : u_T := fun k => match k with
  | 0 => ("java/lang/AbstractStringBuilder", "value", "[B", false)
  | 1 => ("java/lang/AbstractStringBuilder", "coder", "B", false)
  | 2 => ("java/lang/AbstractStringBuilder", "maybeLatin1", "Z", false)
  | _ => ("java/lang/AbstractStringBuilder", "count", "I", false)
def tyJ4 : Nat → FieldType := fun k => match k with
  | 0 => .array .byte
  | 1 => .byte
  | 2 => .boolean
  | _ => .int
abbrev wsJ40 : List Cond := u_ws RJ4 TJ4 4
theorem nmJ4 : ∀ a, a < 4 → ∀ b, b < 4 → a ≠ b → (TJ4 a).2.1 ≠ (TJ4 b).2.1 := by decide +kernel
theorem tyJ4_ok : ∀ k, k < 4 → parseFieldDescriptor (TJ4 k).2.2.1 = some (tyJ4 k) := by decide +kernel
abbrev cJ4_init_da8c8 : ByteArray := prog_39_method_1_code
def yJ4_init_da8c8 : MethodName := ⟨RJ4, "<init>", "()V"⟩
abbrev cJ4_append_cf468 : ByteArray := prog_39_method_14_code
def yJ4_append_cf468 : MethodName := ⟨RJ4, "append", "(C)Ljava/lang/StringBuilder;"⟩
abbrev cJ4_append_f7089 : ByteArray := prog_39_method_16_code
def yJ4_append_f7089 : MethodName := ⟨RJ4, "append", "(J)Ljava/lang/StringBuilder;"⟩
abbrev cJ4_charAt_5068e : ByteArray := prog_39_method_88_code
def yJ4_charAt_5068e : MethodName := ⟨RJ4, "charAt", "(I)C"⟩
abbrev cJ4_length_8abf5 : ByteArray := prog_39_method_93_code
def yJ4_length_8abf5 : MethodName := ⟨RJ4, "length", "()I"⟩
def RJ1 : String := "java/lang/StringLatin1"
def TJ1 : u_T := fun k => match k with
  | _ => ("", "", "", false)
def tyJ1 : Nat → FieldType := fun k => match k with
  | _ => .int
abbrev wsJ10 : List Cond := u_ws RJ1 TJ1 0
theorem nmJ1 : ∀ a, a < 0 → ∀ b, b < 0 → a ≠ b → (TJ1 a).2.1 ≠ (TJ1 b).2.1 := by decide +kernel
theorem tyJ1_ok : ∀ k, k < 0 → parseFieldDescriptor (TJ1 k).2.2.1 = some (tyJ1 k) := by decide +kernel
abbrev cJ1_charAt_3b067 : ByteArray := prog_40_method_2_code
def yJ1_charAt_3b067 : MethodName := ⟨RJ1, "charAt", "([BI)C"⟩
abbrev cJ1_canEncode_fc78d : ByteArray := prog_40_method_3_code
def yJ1_canEncode_fc78d : MethodName := ⟨RJ1, "canEncode", "(C)Z"⟩
abbrev cJ1_canEncode_9a6ad : ByteArray := prog_40_method_4_code
def yJ1_canEncode_9a6ad : MethodName := ⟨RJ1, "canEncode", "(I)Z"⟩
abbrev cJ1_indexOf_4cfef : ByteArray := prog_40_method_22_code
def yJ1_indexOf_4cfef : MethodName := ⟨RJ1, "indexOf", "([BIII)I"⟩
abbrev cJ1_indexOfChar_4cfef : ByteArray := prog_40_method_23_code
def yJ1_indexOfChar_4cfef : MethodName := ⟨RJ1, "indexOfChar", "([BIII)I"⟩
abbrev cJ1_inflate_0e8fd : ByteArray := prog_40_method_50_code
def yJ1_inflate_0e8fd : MethodName := ⟨RJ1, "inflate", "([BI[BII)V"⟩
def RJ2 : String := "java/lang/StringUTF16"
def TJ2 : u_T := fun k => match k with
  | _ => ("", "", "", false)
def tyJ2 : Nat → FieldType := fun k => match k with
  | _ => .int
abbrev wsJ20 : List Cond := u_ws RJ2 TJ2 0
theorem nmJ2 : ∀ a, a < 0 → ∀ b, b < 0 → a ≠ b → (TJ2 a).2.1 ≠ (TJ2 b).2.1 := by decide +kernel
theorem tyJ2_ok : ∀ k, k < 0 → parseFieldDescriptor (TJ2 k).2.2.1 = some (tyJ2 k) := by decide +kernel
abbrev cJ2_newBytesFor_77867 : ByteArray := prog_41_method_2_code
def yJ2_newBytesFor_77867 : MethodName := ⟨RJ2, "newBytesFor", "(I)[B"⟩
abbrev cJ2_newBytesLength_0f7a4 : ByteArray := prog_41_method_3_code
def yJ2_newBytesLength_0f7a4 : MethodName := ⟨RJ2, "newBytesLength", "(I)I"⟩
abbrev cJ2_putChar_b72d1 : ByteArray := prog_41_method_4_code
def yJ2_putChar_b72d1 : MethodName := ⟨RJ2, "putChar", "([BII)V"⟩
abbrev cJ2_getChar_3b067 : ByteArray := prog_41_method_5_code
def yJ2_getChar_3b067 : MethodName := ⟨RJ2, "getChar", "([BI)C"⟩
abbrev cJ2_length_9d52b : ByteArray := prog_41_method_6_code
def yJ2_length_9d52b : MethodName := ⟨RJ2, "length", "([B)I"⟩
abbrev cJ2_indexOf_4cfef : ByteArray := prog_41_method_40_code
def yJ2_indexOf_4cfef : MethodName := ⟨RJ2, "indexOf", "([BIII)I"⟩
abbrev cJ2_indexOfChar_4cfef : ByteArray := prog_41_method_47_code
def yJ2_indexOfChar_4cfef : MethodName := ⟨RJ2, "indexOfChar", "([BIII)I"⟩
abbrev cJ2_indexOfCharUnsafe_4cfef : ByteArray := prog_41_method_48_code
def yJ2_indexOfCharUnsafe_4cfef : MethodName := ⟨RJ2, "indexOfCharUnsafe", "([BIII)I"⟩
abbrev cJ2_indexOfSupplementary_4cfef : ByteArray := prog_41_method_49_code
def yJ2_indexOfSupplementary_4cfef : MethodName := ⟨RJ2, "indexOfSupplementary", "([BIII)I"⟩
abbrev cJ2_putCharSB_b72d1 : ByteArray := prog_41_method_71_code
def yJ2_putCharSB_b72d1 : MethodName := ⟨RJ2, "putCharSB", "([BII)V"⟩
abbrev cJ2_getChars_1ba55 : ByteArray := prog_41_method_78_code
def yJ2_getChars_1ba55 : MethodName := ⟨RJ2, "getChars", "(JII[B)I"⟩
abbrev cJ2_charAt_3b067 : ByteArray := prog_41_method_83_code
def yJ2_charAt_3b067 : MethodName := ⟨RJ2, "charAt", "([BI)C"⟩
abbrev cJ2_inflate_0e8fd : ByteArray := prog_41_method_86_code
def yJ2_inflate_0e8fd : MethodName := ⟨RJ2, "inflate", "([BI[BII)V"⟩
abbrev cJ2_getChars_11360 : ByteArray := prog_41_method_90_code
def yJ2_getChars_11360 : MethodName := ⟨RJ2, "getChars", "(JI[B)I"⟩
abbrev cJ2_checkIndex_2214a : ByteArray := prog_41_method_91_code
def yJ2_checkIndex_2214a : MethodName := ⟨RJ2, "checkIndex", "(I[B)V"⟩
abbrev cJ2_checkBoundsBeginEnd_d044e : ByteArray := prog_41_method_93_code
def yJ2_checkBoundsBeginEnd_d044e : MethodName := ⟨RJ2, "checkBoundsBeginEnd", "(II[B)V"⟩
abbrev cJ2_checkBoundsOffCount_d044e : ByteArray := prog_41_method_94_code
def yJ2_checkBoundsOffCount_d044e : MethodName := ⟨RJ2, "checkBoundsOffCount", "(II[B)V"⟩
def RJ10 : String := "java/lang/System"
def TJ10 : u_T := fun k => match k with
  | _ => ("", "", "", false)
def tyJ10 : Nat → FieldType := fun k => match k with
  | _ => .int
abbrev wsJ100 : List Cond := u_ws RJ10 TJ10 0
theorem nmJ10 : ∀ a, a < 0 → ∀ b, b < 0 → a ≠ b → (TJ10 a).2.1 ≠ (TJ10 b).2.1 := by decide +kernel
theorem tyJ10_ok : ∀ k, k < 0 → parseFieldDescriptor (TJ10 k).2.2.1 = some (tyJ10 k) := by decide +kernel
def RJxfd54e : String := "java/lang/constant/Constable"
def TJxfd54e : u_T := fun k => match k with
  | _ => ("", "", "", false)
def tyJxfd54e : Nat → FieldType := fun k => match k with
  | _ => .int
theorem nmJxfd54e : ∀ a, a < 0 → ∀ b, b < 0 → a ≠ b → (TJxfd54e a).2.1 ≠ (TJxfd54e b).2.1 := by decide +kernel
theorem tyJxfd54e_ok : ∀ k, k < 0 → parseFieldDescriptor (TJxfd54e k).2.2.1 = some (tyJxfd54e k) := by decide +kernel
def RJx3cf43 : String := "java/lang/constant/ConstantDesc"
def TJx3cf43 : u_T := fun k => match k with
  | _ => ("", "", "", false)
def tyJx3cf43 : Nat → FieldType := fun k => match k with
  | _ => .int
theorem nmJx3cf43 : ∀ a, a < 0 → ∀ b, b < 0 → a ≠ b → (TJx3cf43 a).2.1 ≠ (TJx3cf43 b).2.1 := by decide +kernel
theorem tyJx3cf43_ok : ∀ k, k < 0 → parseFieldDescriptor (TJx3cf43 k).2.2.1 = some (tyJx3cf43 k) := by decide +kernel
def RJ7 : String := "java/util/Arrays"
def TJ7 : u_T := fun k => match k with
  | _ => ("", "", "", false)
def tyJ7 : Nat → FieldType := fun k => match k with
  | _ => .int
abbrev wsJ70 : List Cond := u_ws RJ7 TJ7 0
theorem nmJ7 : ∀ a, a < 0 → ∀ b, b < 0 → a ≠ b → (TJ7 a).2.1 ≠ (TJ7 b).2.1 := by decide +kernel
theorem tyJ7_ok : ∀ k, k < 0 → parseFieldDescriptor (TJ7 k).2.2.1 = some (tyJ7 k) := by decide +kernel
abbrev cJ7_copyOf_9075b : ByteArray := prog_47_method_121_code
def yJ7_copyOf_9075b : MethodName := ⟨RJ7, "copyOf", "([BI)[B"⟩
def RJ8 : String := "jdk/internal/util/ArraysSupport"
def TJ8 : u_T := fun k => match k with
  | _ => ("", "", "", false)
def tyJ8 : Nat → FieldType := fun k => match k with
  | _ => .int
abbrev wsJ80 : List Cond := u_ws RJ8 TJ8 0
theorem nmJ8 : ∀ a, a < 0 → ∀ b, b < 0 → a ≠ b → (TJ8 a).2.1 ≠ (TJ8 b).2.1 := by decide +kernel
theorem tyJ8_ok : ∀ k, k < 0 → parseFieldDescriptor (TJ8 k).2.2.1 = some (tyJ8 k) := by decide +kernel
abbrev cJ8_newLength_cabcc : ByteArray := prog_49_method_27_code
def yJ8_newLength_cabcc : MethodName := ⟨RJ8, "newLength", "(III)I"⟩
abbrev cJ8_hugeLength_7cf53 : ByteArray := prog_49_method_28_code
def yJ8_hugeLength_7cf53 : MethodName := ⟨RJ8, "hugeLength", "(II)I"⟩
def RJ3 : String := "jdk/internal/util/Preconditions"
def TJ3 : u_T := fun k => match k with
  | _ => ("", "", "", false)
def tyJ3 : Nat → FieldType := fun k => match k with
  | _ => .int
abbrev wsJ30 : List Cond := u_ws RJ3 TJ3 0
theorem nmJ3 : ∀ a, a < 0 → ∀ b, b < 0 → a ≠ b → (TJ3 a).2.1 ≠ (TJ3 b).2.1 := by decide +kernel
theorem tyJ3_ok : ∀ k, k < 0 → parseFieldDescriptor (TJ3 k).2.2.1 = some (tyJ3 k) := by decide +kernel
abbrev cJ3_checkIndex_8e157 : ByteArray := prog_50_method_11_code
def yJ3_checkIndex_8e157 : MethodName := ⟨RJ3, "checkIndex", "(IILjava/util/function/BiFunction;)I"⟩
abbrev cJ3_checkFromToIndex_8c36e : ByteArray := prog_50_method_12_code
def yJ3_checkFromToIndex_8c36e : MethodName := ⟨RJ3, "checkFromToIndex", "(IIILjava/util/function/BiFunction;)I"⟩
abbrev cJ3_checkFromIndexSize_8c36e : ByteArray := prog_50_method_13_code
def yJ3_checkFromIndexSize_8c36e : MethodName := ⟨RJ3, "checkFromIndexSize", "(IIILjava/util/function/BiFunction;)I"⟩
def RL : String := "SequencepointLaw"
abbrev cL_cell : ByteArray := method_2_code
def yL_cell : MethodName := ⟨RL, "cell", "([II)I"⟩
abbrev cL_addVariable : ByteArray := method_3_code
def yL_addVariable : MethodName := ⟨RL, "addVariable", "(LSequencepoint;IIZ)I"⟩
abbrev cL_addFunction : ByteArray := method_4_code
def yL_addFunction : MethodName := ⟨RL, "addFunction", "(LSequencepoint;III)I"⟩
abbrev cL_setBody : ByteArray := method_5_code
def yL_setBody : MethodName := ⟨RL, "setBody", "(LSequencepoint;II)I"⟩
abbrev cL_number : ByteArray := method_6_code
def yL_number : MethodName := ⟨RL, "number", "(LSequencepoint;II)I"⟩
abbrev cL_name : ByteArray := method_7_code
def yL_name : MethodName := ⟨RL, "name", "(LSequencepoint;I)I"⟩
abbrev cL_unary : ByteArray := method_8_code
def yL_unary : MethodName := ⟨RL, "unary", "(LSequencepoint;CI)I"⟩
abbrev cL_cast : ByteArray := method_9_code
def yL_cast : MethodName := ⟨RL, "cast", "(LSequencepoint;II)I"⟩
abbrev cL_binary : ByteArray := method_10_code
def yL_binary : MethodName := ⟨RL, "binary", "(LSequencepoint;CII)I"⟩
abbrev cL_choose : ByteArray := method_11_code
def yL_choose : MethodName := ⟨RL, "choose", "(LSequencepoint;III)I"⟩
abbrev cL_assign : ByteArray := method_12_code
def yL_assign : MethodName := ⟨RL, "assign", "(LSequencepoint;CII)I"⟩
abbrev cL_typeOf : ByteArray := method_13_code
def yL_typeOf : MethodName := ⟨RL, "typeOf", "(LSequencepoint;I)I"⟩
abbrev cL_simple : ByteArray := method_14_code
def yL_simple : MethodName := ⟨RL, "simple", "(LSequencepoint;CI)I"⟩
abbrev cL_then : ByteArray := method_15_code
def yL_then : MethodName := ⟨RL, "then", "(LSequencepoint;II)I"⟩
abbrev cL_run : ByteArray := method_16_code
def yL_run : MethodName := ⟨RL, "run", "(LSequencepoint;I)I"⟩
abbrev cL_kindOf : ByteArray := method_17_code
def yL_kindOf : MethodName := ⟨RL, "kindOf", "(LSequencepoint;)I"⟩
abbrev cL_placeOf : ByteArray := method_18_code
def yL_placeOf : MethodName := ⟨RL, "placeOf", "(LSequencepoint;)I"⟩
abbrev cL_printedAt : ByteArray := method_19_code
def yL_printedAt : MethodName := ⟨RL, "printedAt", "(LSequencepoint;I)I"⟩
abbrev cL_behaviours : ByteArray := method_20_code
def yL_behaviours : MethodName := ⟨RL, "behaviours", "(LSequencepoint;)I"⟩
abbrev cL_undefinedOrders : ByteArray := method_21_code
def yL_undefinedOrders : MethodName := ⟨RL, "undefinedOrders", "(LSequencepoint;)I"⟩
abbrev cL_isAsIf : ByteArray := method_22_code
def yL_isAsIf : MethodName := ⟨RL, "isAsIf", "(LSequencepoint;)I"⟩
abbrev cL_in : ByteArray := method_23_code
def yL_in : MethodName := ⟨RL, "in", "([III)I"⟩
abbrev cL_bits : ByteArray := method_24_code
def yL_bits : MethodName := ⟨RL, "bits", "(I)I"⟩
abbrev cL_isSigned : ByteArray := method_25_code
def yL_isSigned : MethodName := ⟨RL, "isSigned", "(I)Z"⟩
abbrev cL_least : ByteArray := method_26_code
def yL_least : MethodName := ⟨RL, "least", "(I)J"⟩
abbrev cL_most : ByteArray := method_27_code
def yL_most : MethodName := ⟨RL, "most", "(I)J"⟩
abbrev cL_brought : ByteArray := method_28_code
def yL_brought : MethodName := ⟨RL, "brought", "(IJ)J"⟩
abbrev cL_promoted : ByteArray := method_29_code
def yL_promoted : MethodName := ⟨RL, "promoted", "(I)I"⟩
abbrev cL_common : ByteArray := method_30_code
def yL_common : MethodName := ⟨RL, "common", "(II)I"⟩
abbrev cL_isPrinted : ByteArray := method_31_code
def yL_isPrinted : MethodName := ⟨RL, "isPrinted", "(LSequencepoint;[J)Z"⟩
abbrev cL_shown : ByteArray := method_32_code
def yL_shown : MethodName := ⟨RL, "shown", "(LSequencepoint;I)I"⟩
abbrev cL_put : ByteArray := method_33_code
def yL_put : MethodName := ⟨RL, "put", "(LSequencepoint;III)I"⟩
abbrev cL_kept : ByteArray := method_34_code
def yL_kept : MethodName := ⟨RL, "kept", "([IIIIIIII)V"⟩
abbrev cL_edge : ByteArray := method_35_code
def yL_edge : MethodName := ⟨RL, "edge", "([III)I"⟩
abbrev cL_built : ByteArray := method_36_code
def yL_built : MethodName := ⟨RL, "built", "(LSequencepoint;[I[III)I"⟩
abbrev cL_fitted : ByteArray := method_37_code
def yL_fitted : MethodName := ⟨RL, "fitted", "(IJII)J"⟩
abbrev cL_value : ByteArray := method_38_code
def yL_value : MethodName := ⟨RL, "value", "([II[J)J"⟩
abbrev cL_law : ByteArray := code
def yL_law : MethodName := ⟨RL, "law", "([I)Z"⟩
def wsL_law0_r1 : List Cond := [Cond.classLink RL 10 RX11, Cond.instantiable RX11 7, Cond.initialized RX11, Cond.constant RL 17 (-900001), Cond.arrayClass .int, Cond.arrayClass .long, Cond.constant RL 20 (-900002), Cond.methodLink RL 217 yX11_init, Cond.instanceMethod yX11_init, Cond.code yX11_init cX11_init 2 none, Cond.methodLink RX11 1 objectInit, Cond.instanceMethod objectInit, Cond.code objectInit ⟨#[0xb1]⟩ 1 none, Cond.classLink RX11 7 RX7, Cond.instantiable RX7 9, Cond.initialized RX7, Cond.fieldLink RX11 10 "Sequencepoint" "program" "LSequencepoint$Program;", Cond.classLink RX11 16 RX5, Cond.instantiable RX5 9, Cond.initialized RX5, Cond.fieldLink RX11 19 "Sequencepoint" "optimiser" "LSequencepoint$Optimiser;", Cond.classLink RX11 23 RX1, Cond.instantiable RX1 8, Cond.initialized RX1]
def wsL_law0_r2 : List Cond := [Cond.fieldLink RX11 26 "Sequencepoint" "machine" "LSequencepoint$Machine;", Cond.classLink RX11 30 RX6, Cond.instantiable RX6 7, Cond.initialized RX6, Cond.fieldLink RX11 33 "Sequencepoint" "last" "LSequencepoint$Outcome;", Cond.fieldLink RX11 37 "Sequencepoint" "tried" "LSequencepoint$Outcome;", Cond.fieldLink RX11 40 "Sequencepoint" "outcomes" "[LSequencepoint$Outcome;", Cond.instanceMethod yX7_init, Cond.code yX7_init cX7_init 1 none, Cond.methodLink RX7 3 objectInit, Cond.classLink RX7 9 RX10, Cond.fieldLink RX7 11 "Sequencepoint$Program" "variables" "[LSequencepoint$Variable;", Cond.classLink RX7 17 RX0, Cond.fieldLink RX7 19 "Sequencepoint$Program" "functions" "[LSequencepoint$Function;", Cond.classLink RX7 23 RX8, Cond.fieldLink RX7 25 "Sequencepoint$Program" "bodies" "[LSequencepoint$Statement;", Cond.classLink RX7 29 RX3, Cond.fieldLink RX7 31 "Sequencepoint$Program" "nodes" "[LSequencepoint$Node;", Cond.fieldLink RX7 35 "Sequencepoint$Program" "statements" "[LSequencepoint$Statement;", Cond.methodLink RX11 18 yX5_init, Cond.instanceMethod yX5_init, Cond.code yX5_init cX5_init 2 none, Cond.methodLink RX5 3 objectInit, Cond.classLink RX5 9 RX8]
def wsL_law0_r3 : List Cond := [Cond.fieldLink RX5 11 "Sequencepoint$Optimiser" "bodies" "[LSequencepoint$Statement;", Cond.classLink RX5 17 RX3, Cond.fieldLink RX5 19 "Sequencepoint$Optimiser" "nodes" "[LSequencepoint$Node;", Cond.fieldLink RX5 23 "Sequencepoint$Optimiser" "statements" "[LSequencepoint$Statement;", Cond.fieldLink RX5 26 "Sequencepoint$Optimiser" "became" "[LSequencepoint$Node;", Cond.fieldLink RX5 29 "Sequencepoint$Optimiser" "statementBecame" "[LSequencepoint$Statement;", Cond.arrayClass .boolean, Cond.fieldLink RX5 32 "Sequencepoint$Optimiser" "isUsed" "[Z", Cond.fieldLink RX5 36 "Sequencepoint$Optimiser" "isStatementUsed" "[Z", Cond.instantiable RX3 14, Cond.initialized RX3, Cond.instantiable RX8 9, Cond.initialized RX8, Cond.methodLink RX5 39 yX3_init, Cond.instanceMethod yX3_init, Cond.code yX3_init cX3_init 4 none, Cond.methodLink RX3 3 objectInit, Cond.fieldLink RX3 9 "Sequencepoint$Node" "shape" "I", Cond.fieldLink RX3 15 "Sequencepoint$Node" "kind" "C", Cond.fieldLink RX3 19 "Sequencepoint$Node" "type" "I", Cond.methodLink RX5 42 yX8_init, Cond.instanceMethod yX8_init, Cond.code yX8_init cX8_init 4 none, Cond.methodLink RX8 1 objectInit]
def wsL_law0_r4 : List Cond := [Cond.fieldLink RX8 7 "Sequencepoint$Statement" "kind" "C", Cond.fieldLink RX8 13 "Sequencepoint$Statement" "node" "LSequencepoint$Node;", Cond.fieldLink RX8 17 "Sequencepoint$Statement" "variable" "LSequencepoint$Variable;", Cond.instanceMethod yX1_init, Cond.code yX1_init cX1_init 1 none, Cond.methodLink RX1 3 objectInit, Cond.classLink RX1 9 RX2, Cond.instantiable RX2 11, Cond.initialized RX2, Cond.fieldLink RX1 12 "Sequencepoint$Machine" "memory" "LSequencepoint$Memory;", Cond.fieldLink RX1 18 "Sequencepoint$Machine" "rows" "[I", Cond.instanceMethod yX2_init, Cond.code yX2_init cX2_init 1 none, Cond.methodLink RX2 5 objectInit, Cond.fieldLink RX2 11 "Sequencepoint$Memory" "firstCell" "[I", Cond.fieldLink RX2 15 "Sequencepoint$Memory" "lastCell" "[I", Cond.fieldLink RX2 18 "Sequencepoint$Memory" "isAlive" "[Z", Cond.fieldLink RX2 22 "Sequencepoint$Memory" "owner" "[I", Cond.fieldLink RX2 25 "Sequencepoint$Memory" "values" "[J", Cond.fieldLink RX2 29 "Sequencepoint$Memory" "isDetermined" "[Z", Cond.fieldLink RX2 32 "Sequencepoint$Memory" "loggedCell" "[I", Cond.fieldLink RX2 35 "Sequencepoint$Memory" "loggedWrite" "[Z", Cond.instanceMethod yX6_init, Cond.code yX6_init cX6_init 1 none]
def wsL_law0_r5 : List Cond := [Cond.methodLink RX6 3 objectInit, Cond.fieldLink RX6 9 "Sequencepoint$Outcome" "ending" "C", Cond.fieldLink RX6 15 "Sequencepoint$Outcome" "kind" "C", Cond.arrayClass .char, Cond.fieldLink RX6 18 "Sequencepoint$Outcome" "text" "[C", Cond.methodLink RL 218 yL_run, Cond.static yL_run, Cond.initialized RL, Cond.codeWith yL_run cL_run 3 (some .int) [(0, 5, 6, 18), (0, 5, 10, 15)], Cond.classLink RL 18 "java/lang/IllegalStateException", Cond.methodLink RL 68 yX11_run, Cond.instanceMethod yX11_run, Cond.selects RX11 yX11_run yX11_run, Cond.code yX11_run cX11_run 2 (some .char), Cond.fieldLink RX11 288 "Sequencepoint$Program" "bodies" "[LSequencepoint$Statement;", Cond.fieldLink RX11 296 "Sequencepoint" "stepsOfAll" "J", Cond.fieldLink RX11 299 "Sequencepoint$Outcome" "stepCount" "I", Cond.fieldLink RX11 302 "Sequencepoint$Outcome" "ending" "C", Cond.methodLink RX11 281 yX11_refuseProgramWithoutStart, Cond.instanceMethod yX11_refuseProgramWithoutStart, Cond.selects RX11 yX11_refuseProgramWithoutStart yX11_refuseProgramWithoutStart, Cond.code yX11_refuseProgramWithoutStart cX11_refuseProgramWithoutStart 1 none, Cond.classLink RX11 66 "java/lang/IllegalStateException", Cond.initialized "java/lang/IllegalStateException"]
def wsL_law0_r6 : List Cond := [Cond.methodLink RX11 311 yX7_canStart, Cond.instanceMethod yX7_canStart, Cond.selects RX7 yX7_canStart yX7_canStart, Cond.code yX7_canStart cX7_canStart 2 (some .boolean), Cond.fieldLink RX7 106 "Sequencepoint$Function" "first" "LSequencepoint$Variable;", Cond.methodLink RX7 102 yX7_functionAt, Cond.instanceMethod yX7_functionAt, Cond.selects RX7 yX7_functionAt yX7_functionAt, Cond.code yX7_functionAt cX7_functionAt 2 (some (.object "Sequencepoint$Function")), Cond.fieldLink RX7 42 "Sequencepoint$Program" "functionCount" "I", Cond.methodLink RX11 284 yX11_refuseNegativeOrder, Cond.static yX11_refuseNegativeOrder, Cond.code yX11_refuseNegativeOrder cX11_refuseNegativeOrder 1 none, Cond.classLink RX11 50 "java/lang/IllegalArgumentException", Cond.initialized "java/lang/IllegalArgumentException", Cond.methodLink RX11 292 yX1_perform, Cond.instanceMethod yX1_perform, Cond.selects RX1 yX1_perform yX1_perform, Cond.code yX1_perform cX1_perform 7 none, Cond.fieldLink RX1 22 "Sequencepoint$Machine" "bodies" "[LSequencepoint$Statement;", Cond.fieldLink RX1 26 "Sequencepoint$Machine" "order" "I", Cond.fieldLink RX1 30 "Sequencepoint$Machine" "outcome" "LSequencepoint$Outcome;", Cond.fieldLink RX1 40 "Sequencepoint$Machine" "isReturning" "Z", Cond.fieldLink RX1 54 "Sequencepoint$Variable" "isGlobal" "Z"]
def wsL_law0_r7 : List Cond := [Cond.fieldLink RX1 75 "Sequencepoint$Outcome" "ending" "C", Cond.methodLink RX1 34 yX6_clear, Cond.instanceMethod yX6_clear, Cond.selects RX6 yX6_clear yX6_clear, Cond.code yX6_clear cX6_clear 1 none, Cond.fieldLink RX6 22 "Sequencepoint$Outcome" "node" "I", Cond.fieldLink RX6 26 "Sequencepoint$Outcome" "stepCount" "I", Cond.fieldLink RX6 29 "Sequencepoint$Outcome" "choiceCount" "I", Cond.fieldLink RX6 32 "Sequencepoint$Outcome" "length" "I", Cond.methodLink RX1 39 yX2_clear, Cond.instanceMethod yX2_clear, Cond.selects RX2 yX2_clear yX2_clear, Cond.code yX2_clear cX2_clear 1 none, Cond.fieldLink RX2 38 "Sequencepoint$Memory" "lifeCount" "I", Cond.fieldLink RX2 42 "Sequencepoint$Memory" "cellCount" "I", Cond.fieldLink RX2 45 "Sequencepoint$Memory" "logCount" "I", Cond.methodLink RX1 44 yX1_openRow, Cond.instanceMethod yX1_openRow, Cond.selects RX1 yX1_openRow yX1_openRow, Cond.code yX1_openRow cX1_openRow 4 none, Cond.fieldLink RX1 185 "Sequencepoint$Machine" "depth" "I", Cond.methodLink RX1 48 yX7_variableAt, Cond.instanceMethod yX7_variableAt, Cond.selects RX7 yX7_variableAt yX7_variableAt]
def wsL_law0_r8 : List Cond := [Cond.code yX7_variableAt cX7_variableAt 2 (some (.object "Sequencepoint$Variable")), Cond.fieldLink RX7 38 "Sequencepoint$Program" "variableCount" "I", Cond.methodLink RX1 59 yX1_bring, Cond.instanceMethod yX1_bring, Cond.selects RX1 yX1_bring yX1_bring, Cond.code yX1_bring cX1_bring 3 none, Cond.methodLink RX1 305 yX1_slotOf, Cond.instanceMethod yX1_slotOf, Cond.selects RX1 yX1_slotOf yX1_slotOf, Cond.code yX1_slotOf cX1_slotOf 3 (some .int), Cond.fieldLink RX1 304 "Sequencepoint$Variable" "index" "I", Cond.methodLink RX1 312 yX2_end, Cond.instanceMethod yX2_end, Cond.selects RX2 yX2_end yX2_end, Cond.code yX2_end cX2_end 2 none, Cond.methodLink RX1 315 yX10_parts, Cond.instanceMethod yX10_parts, Cond.selects RX10 yX10_parts yX10_parts, Cond.initialized RX10, Cond.code yX10_parts cX10_parts 1 (some .int), Cond.fieldLink RX10 13 "Sequencepoint$Variable" "length" "I", Cond.methodLink RX1 318 yX2_bear, Cond.instanceMethod yX2_bear, Cond.selects RX2 yX2_bear yX2_bear]
def wsL_law0_r9 : List Cond := [Cond.code yX2_bear cX2_bear 3 (some .int), Cond.methodLink RX1 63 yX1_bodyOf, Cond.instanceMethod yX1_bodyOf, Cond.selects RX1 yX1_bodyOf yX1_bodyOf, Cond.code yX1_bodyOf cX1_bodyOf 2 (some (.object "Sequencepoint$Statement")), Cond.methodLink RX1 67 yX1_execute, Cond.instanceMethod yX1_execute, Cond.selects RX1 yX1_execute yX1_execute, Cond.code yX1_execute cX1_execute 3 none, Cond.fieldLink RX1 96 "Sequencepoint$Statement" "kind" "C", Cond.fieldLink RX1 99 "Sequencepoint$Statement" "node" "LSequencepoint$Node;", Cond.fieldLink RX1 110 "Sequencepoint$Statement" "variable" "LSequencepoint$Variable;", Cond.fieldLink RX1 114 "Sequencepoint$Statement" "first" "LSequencepoint$Statement;", Cond.fieldLink RX1 118 "Sequencepoint$Statement" "second" "LSequencepoint$Statement;", Cond.fieldLink RX1 128 "Sequencepoint$Machine" "returned" "J", Cond.methodLink RX1 93 yX1_takeStep, Cond.instanceMethod yX1_takeStep, Cond.selects RX1 yX1_takeStep yX1_takeStep, Cond.code yX1_takeStep cX1_takeStep 1 (some .boolean), Cond.fieldLink RX1 79 "Sequencepoint$Outcome" "stepCount" "I", Cond.methodLink RX1 71 yX1_isOver, Cond.instanceMethod yX1_isOver, Cond.selects RX1 yX1_isOver yX1_isOver, Cond.code yX1_isOver cX1_isOver 1 (some .boolean)]
def wsL_law0_r10 : List Cond := [Cond.methodLink RX1 102 yX1_evaluate, Cond.instanceMethod yX1_evaluate, Cond.selects RX1 yX1_evaluate yX1_evaluate, Cond.methodLink RX1 106 yX1_print, Cond.instanceMethod yX1_print, Cond.selects RX1 yX1_print yX1_print, Cond.code yX1_print cX1_print 9 none, Cond.methodLink RX1 326 Lib.MathLoose.abs_long.x, Cond.static Lib.MathLoose.abs_long.x, Cond.initialized "java/lang/Math", Cond.code Lib.MathLoose.abs_long.x Lib.MathLoose.abs_long.code 2 (some .long), Cond.constantLong RX1 331 (1000000000), Cond.constantLong RX1 333 (10), Cond.methodLink RX1 323 yX6_print, Cond.instanceMethod yX6_print, Cond.selects RX6 yX6_print yX6_print, Cond.code yX6_print cX6_print 2 none, Cond.methodLink RX1 121 yX2_lives, Cond.instanceMethod yX2_lives, Cond.selects RX2 yX2_lives yX2_lives, Cond.code yX2_lives cX2_lives 1 (some .int), Cond.methodLink RX1 125 yX2_endSince, Cond.instanceMethod yX2_endSince, Cond.selects RX2 yX2_endSince yX2_endSince]
def wsL_law0_r11 : List Cond := [Cond.code yX2_endSince cX2_endSince 3 none, Cond.methodLink RX2 48 Lib.Math.max.name, Cond.static Lib.Math.max.name, Cond.code Lib.Math.max.name Lib.Math.max.code 2 (some .int), Cond.code yX1_enter cX1_enter 9 (some .long), Cond.fieldLink RX1 188 "Sequencepoint$Node" "function" "LSequencepoint$Function;", Cond.fieldLink RX1 192 "Sequencepoint$Function" "first" "LSequencepoint$Variable;", Cond.fieldLink RX1 200 "Sequencepoint$Function" "second" "LSequencepoint$Variable;", Cond.fieldLink RX1 202 "Sequencepoint$Function" "index" "I", Cond.fieldLink RX1 206 "Sequencepoint$Function" "result" "I", Cond.methodLink RX1 132 yX2_logged, Cond.instanceMethod yX2_logged, Cond.selects RX2 yX2_logged yX2_logged, Cond.code yX2_logged cX2_logged 1 (some .int), Cond.methodLink RX1 196 yX1_bringWith, Cond.instanceMethod yX1_bringWith, Cond.selects RX1 yX1_bringWith yX1_bringWith, Cond.code yX1_bringWith cX1_bringWith 4 none, Cond.fieldLink RX1 322 "Sequencepoint$Variable" "type" "I", Cond.methodLink RX1 230 yX1_pointerTo, Cond.instanceMethod yX1_pointerTo, Cond.selects RX1 yX1_pointerTo yX1_pointerTo, Cond.code yX1_pointerTo cX1_pointerTo 3 (some .long), Cond.methodLink RX1 309 yX2_pointerTo]
def wsL_law0_r12 : List Cond := [Cond.instanceMethod yX2_pointerTo, Cond.selects RX2 yX2_pointerTo yX2_pointerTo, Cond.code yX2_pointerTo cX2_pointerTo 2 (some .long), Cond.methodLink RX1 247 yX1_converted, Cond.static yX1_converted, Cond.code yX1_converted cX1_converted 3 (some .long), Cond.methodLink RX1 277 yX4_isNumber, Cond.static yX4_isNumber, Cond.initialized RX4, Cond.code yX4_isNumber cX4_isNumber 1 (some .boolean), Cond.methodLink RX1 209 yX4_convert, Cond.static yX4_convert, Cond.code yX4_convert cX4_convert 4 (some .long), Cond.methodLink RX1 301 yX2_write, Cond.instanceMethod yX2_write, Cond.selects RX2 yX2_write yX2_write, Cond.code yX2_write cX2_write 5 none, Cond.methodLink RX2 58 yX2_isCell, Cond.instanceMethod yX2_isCell, Cond.selects RX2 yX2_isCell yX2_isCell, Cond.code yX2_isCell cX2_isCell 3 (some .boolean), Cond.methodLink RX2 62 yX2_log, Cond.instanceMethod yX2_log, Cond.selects RX2 yX2_log yX2_log]
def wsL_law0_r13 : List Cond := [Cond.code yX2_log cX2_log 3 none, Cond.methodLink RX1 203 yX2_forgetSince, Cond.instanceMethod yX2_forgetSince, Cond.selects RX2 yX2_forgetSince yX2_forgetSince, Cond.code yX2_forgetSince cX2_forgetSince 2 none, Cond.methodLink RX2 66 Lib.Math.min.name, Cond.static Lib.Math.min.name, Cond.code Lib.Math.min.name Lib.Math.min.code 2 (some .int), Cond.methodLink RX1 158 yX1_fail, Cond.instanceMethod yX1_fail, Cond.selects RX1 yX1_fail yX1_fail, Cond.code yX1_fail cX1_fail 3 (some .long), Cond.fieldLink RX1 82 "Sequencepoint$Outcome" "kind" "C", Cond.fieldLink RX1 85 "Sequencepoint$Node" "index" "I", Cond.fieldLink RX1 90 "Sequencepoint$Outcome" "node" "I", Cond.code yX1_evaluate cX1_evaluate 8 (some .long), Cond.fieldLink RX1 141 "Sequencepoint$Node" "second" "LSequencepoint$Node;", Cond.fieldLink RX1 162 "Sequencepoint$Node" "shape" "I", Cond.methodLink RX1 135 yX3_isChosen, Cond.instanceMethod yX3_isChosen, Cond.selects RX3 yX3_isChosen yX3_isChosen, Cond.code yX3_isChosen cX3_isChosen 1 (some .boolean), Cond.fieldLink RX3 37 "Sequencepoint$Node" "first" "LSequencepoint$Node;", Cond.fieldLink RX3 41 "Sequencepoint$Node" "second" "LSequencepoint$Node;"]
def wsL_law0_r14 : List Cond := [Cond.methodLink RX3 90 yX3_isUnsequenced, Cond.instanceMethod yX3_isUnsequenced, Cond.selects RX3 yX3_isUnsequenced yX3_isUnsequenced, Cond.code yX3_isUnsequenced cX3_isUnsequenced 1 (some .boolean), Cond.methodLink RX3 82 yJ0_indexOf_0f7a4, Cond.instanceMethod yJ0_indexOf_0f7a4, Cond.selects RJ0 yJ0_indexOf_0f7a4 yJ0_indexOf_0f7a4, Cond.initialized RJ0, Cond.code yJ0_indexOf_0f7a4 cJ0_indexOf_0f7a4 2 (some .int), Cond.methodLink RJ0 633 yJ0_indexOf_7cf53, Cond.instanceMethod yJ0_indexOf_7cf53, Cond.selects RJ0 yJ0_indexOf_7cf53 yJ0_indexOf_7cf53, Cond.code yJ0_indexOf_7cf53 cJ0_indexOf_7cf53 3 (some .int), Cond.fieldLink RJ0 9 "java/lang/String" "value" "[B", Cond.methodLink RJ0 492 yJ0_isLatin1_aae02, Cond.instanceMethod yJ0_isLatin1_aae02, Cond.selects RJ0 yJ0_isLatin1_aae02 yJ0_isLatin1_aae02, Cond.code yJ0_isLatin1_aae02 cJ0_isLatin1_aae02 1 (some .boolean), Cond.fieldLink RJ0 38 "java/lang/String" "COMPACT_STRINGS" "Z", Cond.fieldLink RJ0 15 "java/lang/String" "coder" "B", Cond.methodLink RJ0 505 yJ0_length_8abf5, Cond.instanceMethod yJ0_length_8abf5, Cond.selects RJ0 yJ0_length_8abf5 yJ0_length_8abf5, Cond.code yJ0_length_8abf5 cJ0_length_8abf5 1 (some .int)]
def wsL_law0_r15 : List Cond := [Cond.methodLink RJ0 335 yJ0_coder_7d493, Cond.instanceMethod yJ0_coder_7d493, Cond.selects RJ0 yJ0_coder_7d493 yJ0_coder_7d493, Cond.code yJ0_coder_7d493 cJ0_coder_7d493 1 (some .byte), Cond.methodLink RJ0 637 yJ1_indexOf_4cfef, Cond.static yJ1_indexOf_4cfef, Cond.initialized RJ1, Cond.code yJ1_indexOf_4cfef cJ1_indexOf_4cfef 4 (some .int), Cond.methodLink RJ1 92 Lib.Math.max.name, Cond.methodLink RJ1 38 Lib.Math.min.name, Cond.methodLink RJ1 88 yJ1_canEncode_9a6ad, Cond.static yJ1_canEncode_9a6ad, Cond.code yJ1_canEncode_9a6ad cJ1_canEncode_9a6ad 1 (some .boolean), Cond.methodLink RJ1 95 yJ1_indexOfChar_4cfef, Cond.static yJ1_indexOfChar_4cfef, Cond.code yJ1_indexOfChar_4cfef cJ1_indexOfChar_4cfef 6 (some .int), Cond.methodLink RJ0 640 yJ2_indexOf_4cfef, Cond.static yJ2_indexOf_4cfef, Cond.initialized RJ2, Cond.code yJ2_indexOf_4cfef cJ2_indexOf_4cfef 4 (some .int), Cond.methodLink RJ2 224 Lib.Math.max.name, Cond.methodLink RJ2 183 Lib.Math.min.name, Cond.constant RJ2 227 (65536), Cond.methodLink RJ2 228 yJ2_indexOfChar_4cfef]
def wsL_law0_r16 : List Cond := [Cond.static yJ2_indexOfChar_4cfef, Cond.code yJ2_indexOfChar_4cfef cJ2_indexOfChar_4cfef 4 (some .int), Cond.methodLink RJ2 96 yJ2_checkBoundsBeginEnd_d044e, Cond.static yJ2_checkBoundsBeginEnd_d044e, Cond.code yJ2_checkBoundsBeginEnd_d044e cJ2_checkBoundsBeginEnd_d044e 3 none, Cond.methodLink RJ2 48 yJ2_length_9d52b, Cond.static yJ2_length_9d52b, Cond.code yJ2_length_9d52b cJ2_length_9d52b 1 (some .int), Cond.methodLink RJ2 241 yJ0_checkBoundsBeginEnd_23922, Cond.static yJ0_checkBoundsBeginEnd_23922, Cond.code yJ0_checkBoundsBeginEnd_23922 cJ0_checkBoundsBeginEnd_23922 3 none, Cond.fieldLink RJ0 1053 "jdk/internal/util/Preconditions" "SIOOBE_FORMATTER" "Ljava/util/function/BiFunction;", Cond.methodLink RJ0 1062 yJ3_checkFromToIndex_8c36e, Cond.static yJ3_checkFromToIndex_8c36e, Cond.initialized RJ3, Cond.code yJ3_checkFromToIndex_8c36e cJ3_checkFromToIndex_8c36e 4 (some .int), Cond.methodLink RJ2 244 yJ2_indexOfCharUnsafe_4cfef, Cond.static yJ2_indexOfCharUnsafe_4cfef, Cond.code yJ2_indexOfCharUnsafe_4cfef cJ2_indexOfCharUnsafe_4cfef 5 (some .int), Cond.methodLink RJ2 71 yJ2_getChar_3b067, Cond.static yJ2_getChar_3b067, Cond.code yJ2_getChar_3b067 cJ2_getChar_3b067 2 (some .char), Cond.fieldLink RJ2 44 "java/lang/StringUTF16" "$assertionsDisabled" "Z", Cond.fieldLink RJ2 59 "java/lang/StringUTF16" "HI_BYTE_SHIFT" "I"]
def wsL_law0_r17 : List Cond := [Cond.fieldLink RJ2 63 "java/lang/StringUTF16" "LO_BYTE_SHIFT" "I", Cond.methodLink RJ2 232 yJ2_indexOfSupplementary_4cfef, Cond.static yJ2_indexOfSupplementary_4cfef, Cond.code yJ2_indexOfSupplementary_4cfef cJ2_indexOfSupplementary_4cfef 7 (some .int), Cond.methodLink RJ2 164 yJ11_isValidCodePoint_9a6ad, Cond.static yJ11_isValidCodePoint_9a6ad, Cond.initialized RJ11, Cond.code yJ11_isValidCodePoint_9a6ad cJ11_isValidCodePoint_9a6ad 2 (some .boolean), Cond.methodLink RJ2 157 yJ11_highSurrogate_5068e, Cond.static yJ11_highSurrogate_5068e, Cond.code yJ11_highSurrogate_5068e cJ11_highSurrogate_5068e 1 (some .char), Cond.constant RJ11 110 (55232), Cond.methodLink RJ2 161 yJ11_lowSurrogate_5068e, Cond.static yJ11_lowSurrogate_5068e, Cond.code yJ11_lowSurrogate_5068e cJ11_lowSurrogate_5068e 1 (some .char), Cond.constant RJ11 76 (56320), Cond.methodLink RX3 66 yX3_isCalling, Cond.static yX3_isCalling, Cond.code yX3_isCalling cX3_isCalling 1 (some .boolean), Cond.fieldLink RX3 70 "Sequencepoint$Node" "hasCall" "Z", Cond.methodLink RX1 138 yX1_isSecondAhead, Cond.instanceMethod yX1_isSecondAhead, Cond.selects RX1 yX1_isSecondAhead yX1_isSecondAhead, Cond.code yX1_isSecondAhead cX1_isSecondAhead 2 (some .boolean)]
def wsL_law0_r18 : List Cond := [Cond.fieldLink RX1 215 "Sequencepoint$Outcome" "choiceCount" "I", Cond.methodLink RX1 143 yX3_firstToEvaluate, Cond.instanceMethod yX3_firstToEvaluate, Cond.selects RX3 yX3_firstToEvaluate yX3_firstToEvaluate, Cond.code yX3_firstToEvaluate cX3_firstToEvaluate 1 (some (.object "Sequencepoint$Node")), Cond.methodLink RX3 93 yX3_takesPlace, Cond.instanceMethod yX3_takesPlace, Cond.selects RX3 yX3_takesPlace yX3_takesPlace, Cond.code yX3_takesPlace cX3_takesPlace 1 (some .boolean), Cond.methodLink RX1 147 yX3_secondToEvaluate, Cond.instanceMethod yX3_secondToEvaluate, Cond.selects RX3 yX3_secondToEvaluate yX3_secondToEvaluate, Cond.code yX3_secondToEvaluate cX3_secondToEvaluate 3 (some (.object "Sequencepoint$Node")), Cond.fieldLink RX3 44 "Sequencepoint$Node" "third" "LSequencepoint$Node;", Cond.methodLink RX3 96 yX3_decides, Cond.instanceMethod yX3_decides, Cond.selects RX3 yX3_decides yX3_decides, Cond.code yX3_decides cX3_decides 3 (some .boolean), Cond.methodLink RX1 151 yX3_isUnsequenced, Cond.methodLink RX1 154 yX2_isClash, Cond.instanceMethod yX2_isClash, Cond.selects RX2 yX2_isClash yX2_isClash, Cond.code yX2_isClash cX2_isClash 5 (some .boolean), Cond.methodLink RX1 165 yX1_enter]
def wsL_law0_r19 : List Cond := [Cond.instanceMethod yX1_enter, Cond.selects RX1 yX1_enter yX1_enter, Cond.methodLink RX1 169 yX3_takesPlace, Cond.methodLink RX1 172 yX1_finishAtPlace, Cond.instanceMethod yX1_finishAtPlace, Cond.selects RX1 yX1_finishAtPlace yX1_finishAtPlace, Cond.code yX1_finishAtPlace cX1_finishAtPlace 17 (some .long), Cond.fieldLink RX1 265 "Sequencepoint$Node" "first" "LSequencepoint$Node;", Cond.fieldLink RX1 229 "Sequencepoint$Node" "variable" "LSequencepoint$Variable;", Cond.fieldLink RX1 257 "Sequencepoint$Node" "kind" "C", Cond.fieldLink RX1 244 "Sequencepoint$Node" "type" "I", Cond.methodLink RX1 253 yX2_isLiving, Cond.instanceMethod yX2_isLiving, Cond.selects RX2 yX2_isLiving yX2_isLiving, Cond.code yX2_isLiving cX2_isLiving 4 (some .boolean), Cond.methodLink RX2 54 yX2_lifeOf, Cond.instanceMethod yX2_lifeOf, Cond.selects RX2 yX2_lifeOf yX2_lifeOf, Cond.code yX2_lifeOf cX2_lifeOf 3 (some .int), Cond.methodLink RX1 267 yX2_isWrittenSince, Cond.instanceMethod yX2_isWrittenSince, Cond.selects RX2 yX2_isWrittenSince yX2_isWrittenSince, Cond.code yX2_isWrittenSince cX2_isWrittenSince 5 (some .boolean), Cond.methodLink RX1 271 yX1_write]
def wsL_law0_r20 : List Cond := [Cond.instanceMethod yX1_write, Cond.selects RX1 yX1_write yX1_write, Cond.code yX1_write cX1_write 7 (some .long), Cond.methodLink RX1 294 yX2_faultOfUsing, Cond.instanceMethod yX2_faultOfUsing, Cond.selects RX2 yX2_faultOfUsing yX2_faultOfUsing, Cond.code yX2_faultOfUsing cX2_faultOfUsing 6 (some .char), Cond.methodLink RX1 238 yX1_read, Cond.instanceMethod yX1_read, Cond.selects RX1 yX1_read yX1_read, Cond.code yX1_read cX1_read 5 (some .long), Cond.methodLink RX1 298 yX2_read, Cond.instanceMethod yX2_read, Cond.selects RX2 yX2_read yX2_read, Cond.code yX2_read cX2_read 3 (some .long), Cond.methodLink RX1 274 yX1_changed, Cond.instanceMethod yX1_changed, Cond.selects RX1 yX1_changed yX1_changed, Cond.code yX1_changed cX1_changed 13 (some .long), Cond.methodLink RX1 262 yX1_move, Cond.instanceMethod yX1_move, Cond.selects RX1 yX1_move yX1_move, Cond.code yX1_move cX1_move 7 (some .long), Cond.methodLink RX1 291 yX2_faultOfMoving]
def wsL_law0_r21 : List Cond := [Cond.instanceMethod yX2_faultOfMoving, Cond.selects RX2 yX2_faultOfMoving yX2_faultOfMoving, Cond.code yX2_faultOfMoving cX2_faultOfMoving 8 (some .char), Cond.methodLink RX1 281 yX4_common, Cond.static yX4_common, Cond.code yX4_common cX4_common 2 (some .int), Cond.methodLink RX4 19 Lib.Math.max.name, Cond.methodLink RX1 285 yX4_faultOf, Cond.static yX4_faultOf, Cond.code yX4_faultOf cX4_faultOf 9 (some .char), Cond.methodLink RX4 25 yX4_rawOf, Cond.static yX4_rawOf, Cond.code yX4_rawOf cX4_rawOf 5 (some .long), Cond.methodLink RX4 15 yX4_convert, Cond.methodLink RX1 288 yX4_resultOf, Cond.static yX4_resultOf, Cond.code yX4_resultOf cX4_resultOf 8 (some .long), Cond.methodLink RX1 176 yX3_isReckoned, Cond.instanceMethod yX3_isReckoned, Cond.selects RX3 yX3_isReckoned yX3_isReckoned, Cond.code yX3_isReckoned cX3_isReckoned 1 (some .boolean), Cond.methodLink RX3 100 yX4_isNumber, Cond.methodLink RX1 179 yX1_reckon, Cond.instanceMethod yX1_reckon]
def wsL_law0_r22 : List Cond := [Cond.selects RX1 yX1_reckon yX1_reckon, Cond.code yX1_reckon cX1_reckon 7 (some .long), Cond.methodLink RX1 218 yX3_faultOf, Cond.instanceMethod yX3_faultOf, Cond.selects RX3 yX3_faultOf yX3_faultOf, Cond.code yX3_faultOf cX3_faultOf 6 (some .char), Cond.methodLink RX3 115 yX4_faultOf, Cond.methodLink RX3 119 yX3_operandType, Cond.instanceMethod yX3_operandType, Cond.selects RX3 yX3_operandType yX3_operandType, Cond.code yX3_operandType cX3_operandType 1 (some .int), Cond.methodLink RX3 106 yX3_isShift, Cond.instanceMethod yX3_isShift, Cond.selects RX3 yX3_isShift yX3_isShift, Cond.code yX3_isShift cX3_isShift 1 (some .boolean), Cond.methodLink RX3 109 yX4_promoted, Cond.static yX4_promoted, Cond.code yX4_promoted cX4_promoted 1 (some .int), Cond.methodLink RX3 112 yX4_common, Cond.methodLink RX3 123 yX4_convert, Cond.methodLink RX1 222 yX3_resultOf, Cond.instanceMethod yX3_resultOf, Cond.selects RX3 yX3_resultOf yX3_resultOf, Cond.code yX3_resultOf cX3_resultOf 6 (some .long)]
def wsL_law0_r23 : List Cond := [Cond.constantLong RX3 127 (-1), Cond.methodLink RX3 129 yX4_resultOf, Cond.methodLink RX1 182 yX1_finish, Cond.instanceMethod yX1_finish, Cond.selects RX1 yX1_finish yX1_finish, Cond.code yX1_finish cX1_finish 6 (some .long), Cond.fieldLink RX1 226 "Sequencepoint$Node" "value" "J", Cond.methodLink RX1 234 yX1_finishName, Cond.instanceMethod yX1_finishName, Cond.selects RX1 yX1_finishName yX1_finishName, Cond.code yX1_finishName cX1_finishName 4 (some .long), Cond.methodLink RX1 250 yX3_isPlace, Cond.instanceMethod yX3_isPlace, Cond.selects RX3 yX3_isPlace yX3_isPlace, Cond.code yX3_isPlace cX3_isPlace 1 (some .boolean), Cond.fieldLink RX3 29 "Sequencepoint$Node" "variable" "LSequencepoint$Variable;", Cond.methodLink RX3 74 yX10_isArray, Cond.instanceMethod yX10_isArray, Cond.selects RX10 yX10_isArray yX10_isArray, Cond.code yX10_isArray cX10_isArray 1 (some .boolean), Cond.methodLink RX1 241 yX1_finishBinary, Cond.instanceMethod yX1_finishBinary, Cond.selects RX1 yX1_finishBinary yX1_finishBinary, Cond.code yX1_finishBinary cX1_finishBinary 6 (some .long)]
def wsL_law0_r24 : List Cond := [Cond.methodLink RX1 258 yX2_lifeOf, Cond.methodLink RL 167 yL_typeOf, Cond.static yL_typeOf, Cond.codeWith yL_typeOf cL_typeOf 3 (some .int) [(0, 5, 6, 25)], Cond.classLink RL 25 "java/lang/IndexOutOfBoundsException", Cond.methodLink RL 59 yX11_typeOf, Cond.instanceMethod yX11_typeOf, Cond.selects RX11 yX11_typeOf yX11_typeOf, Cond.code yX11_typeOf cX11_typeOf 3 (some .int), Cond.classLink RX11 86 "java/lang/IndexOutOfBoundsException", Cond.initialized "java/lang/IndexOutOfBoundsException", Cond.fieldLink RX11 206 "Sequencepoint$Node" "type" "I", Cond.methodLink RX11 186 yX7_nodeAt, Cond.instanceMethod yX7_nodeAt, Cond.selects RX7 yX7_nodeAt yX7_nodeAt, Cond.code yX7_nodeAt cX7_nodeAt 2 (some (.object "Sequencepoint$Node")), Cond.fieldLink RX7 45 "Sequencepoint$Program" "nodeCount" "I", Cond.methodLink RL 129 yL_printedAt, Cond.static yL_printedAt, Cond.codeWith yL_printedAt cL_printedAt 3 (some .int) [(0, 5, 6, 25)], Cond.methodLink RL 82 yX11_printedAt, Cond.instanceMethod yX11_printedAt, Cond.selects RX11 yX11_printedAt yX11_printedAt, Cond.code yX11_printedAt cX11_printedAt 2 (some .char)]
def wsL_law0_r25 : List Cond := [Cond.fieldLink RX11 335 "Sequencepoint$Outcome" "length" "I", Cond.fieldLink RX11 340 "Sequencepoint$Outcome" "text" "[C", Cond.methodLink RL 220 yL_kindOf, Cond.static yL_kindOf, Cond.codeWith yL_kindOf cL_kindOf 2 (some .int) [(0, 4, 5, 76)], Cond.classLink RL 76 "java/util/NoSuchElementException", Cond.methodLink RL 72 yX11_kindOf, Cond.instanceMethod yX11_kindOf, Cond.selects RX11 yX11_kindOf yX11_kindOf, Cond.code yX11_kindOf cX11_kindOf 1 (some .char), Cond.fieldLink RX11 321 "Sequencepoint$Outcome" "kind" "C", Cond.methodLink RX11 318 yX11_refuseRunWithMeaning, Cond.instanceMethod yX11_refuseRunWithMeaning, Cond.selects RX11 yX11_refuseRunWithMeaning yX11_refuseRunWithMeaning, Cond.code yX11_refuseRunWithMeaning cX11_refuseRunWithMeaning 1 none, Cond.classLink RX11 327 "java/util/NoSuchElementException", Cond.initialized "java/util/NoSuchElementException", Cond.methodLink RL 223 yL_addVariable, Cond.static yL_addVariable, Cond.codeWith yL_addVariable cL_addVariable 5 (some .int) [(0, 7, 8, 15), (0, 7, 13, 18)], Cond.classLink RL 15 "java/lang/IllegalArgumentException", Cond.methodLink RL 9 yX11_addVariable, Cond.instanceMethod yX11_addVariable, Cond.selects RX11 yX11_addVariable yX11_addVariable]
def wsL_law0_r26 : List Cond := [Cond.code yX11_addVariable cX11_addVariable 4 (some .int), Cond.fieldLink RX11 62 "Sequencepoint$Program" "variableCount" "I", Cond.classLink RX11 71 RX10, Cond.instantiable RX10 4, Cond.methodLink RX11 44 yX4_isType, Cond.static yX4_isType, Cond.code yX4_isType cX4_isType 1 (some .boolean), Cond.methodLink RX4 9 yX4_isNumber, Cond.methodLink RX11 57 yX4_isNumber, Cond.methodLink RX11 73 yX10_init, Cond.instanceMethod yX10_init, Cond.code yX10_init cX10_init 4 none, Cond.methodLink RX10 1 objectInit, Cond.fieldLink RX10 7 "Sequencepoint$Variable" "type" "I", Cond.fieldLink RX10 16 "Sequencepoint$Variable" "isGlobal" "Z", Cond.methodLink RX11 76 yX7_keepVariable, Cond.instanceMethod yX7_keepVariable, Cond.selects RX7 yX7_keepVariable yX7_keepVariable, Cond.code yX7_keepVariable cX7_keepVariable 2 (some .int), Cond.fieldLink RX7 51 "Sequencepoint$Variable" "index" "I", Cond.methodLink RL 226 yL_addFunction, Cond.static yL_addFunction, Cond.codeWith yL_addFunction cL_addFunction 5 (some .int) [(0, 7, 8, 15), (0, 7, 13, 25), (0, 7, 18, 27), (0, 7, 23, 18)], Cond.constant RL 29 (-900003)]
def wsL_law0_r27 : List Cond := [Cond.constant RL 30 (-900004), Cond.methodLink RL 21 yX11_addFunction, Cond.instanceMethod yX11_addFunction, Cond.selects RX11 yX11_addFunction yX11_addFunction, Cond.code yX11_addFunction cX11_addFunction 6 (some .int), Cond.classLink RX11 95 "java/lang/UnsupportedOperationException", Cond.initialized "java/lang/UnsupportedOperationException", Cond.fieldLink RX11 100 "Sequencepoint$Program" "functionCount" "I", Cond.classLink RX11 105 RX0, Cond.instantiable RX0 4, Cond.initialized RX0, Cond.methodLink RX11 82 yX7_variableAt, Cond.methodLink RX11 91 yX11_canBeParameter, Cond.static yX11_canBeParameter, Cond.code yX11_canBeParameter cX11_canBeParameter 1 (some .boolean), Cond.fieldLink RX11 114 "Sequencepoint$Variable" "isGlobal" "Z", Cond.methodLink RX11 118 yX10_isArray, Cond.methodLink RX11 107 yX0_init, Cond.instanceMethod yX0_init, Cond.code yX0_init cX0_init 4 none, Cond.methodLink RX0 1 objectInit, Cond.fieldLink RX0 7 "Sequencepoint$Function" "result" "I", Cond.fieldLink RX0 13 "Sequencepoint$Function" "first" "LSequencepoint$Variable;", Cond.fieldLink RX0 17 "Sequencepoint$Function" "second" "LSequencepoint$Variable;"]
def wsL_law0_r28 : List Cond := [Cond.methodLink RX11 110 yX7_keepFunction, Cond.instanceMethod yX7_keepFunction, Cond.selects RX7 yX7_keepFunction yX7_keepFunction, Cond.code yX7_keepFunction cX7_keepFunction 2 (some .int), Cond.fieldLink RX7 54 "Sequencepoint$Function" "index" "I", Cond.methodLink RL 143 yL_number, Cond.static yL_number, Cond.codeWith yL_number cL_number 4 (some .int) [(0, 6, 7, 15), (0, 6, 11, 18)], Cond.methodLink RL 35 yX11_number, Cond.instanceMethod yX11_number, Cond.selects RX11 yX11_number yX11_number, Cond.code yX11_number cX11_number 4 (some .int), Cond.classLink RX11 156 RX3, Cond.fieldLink RX11 161 "Sequencepoint$Node" "value" "J", Cond.methodLink RX11 147 yX4_has, Cond.static yX4_has, Cond.code yX4_has cX4_has 3 (some .boolean), Cond.methodLink RX11 153 yX11_refuseNodesBeyondLimit, Cond.instanceMethod yX11_refuseNodesBeyondLimit, Cond.selects RX11 yX11_refuseNodesBeyondLimit yX11_refuseNodesBeyondLimit, Cond.code yX11_refuseNodesBeyondLimit cX11_refuseNodesBeyondLimit 1 none, Cond.fieldLink RX11 242 "Sequencepoint$Program" "nodeCount" "I", Cond.methodLink RX11 158 yX3_init, Cond.methodLink RX11 165 yX7_keepNode]
def wsL_law0_r29 : List Cond := [Cond.instanceMethod yX7_keepNode, Cond.selects RX7 yX7_keepNode yX7_keepNode, Cond.code yX7_keepNode cX7_keepNode 5 (some .int), Cond.fieldLink RX7 63 "Sequencepoint$Node" "index" "I", Cond.methodLink RX7 55 yX3_setParts, Cond.instanceMethod yX3_setParts, Cond.selects RX3 yX3_setParts yX3_setParts, Cond.code yX3_setParts cX3_setParts 4 none, Cond.methodLink RX3 51 Lib.Math.max.name, Cond.fieldLink RX3 57 "Sequencepoint$Node" "depth" "I", Cond.fieldLink RX3 63 "Sequencepoint$Node" "size" "I", Cond.methodLink RX3 47 yX3_depthOf, Cond.static yX3_depthOf, Cond.code yX3_depthOf cX3_depthOf 1 (some .int), Cond.methodLink RX3 60 yX3_sizeOf, Cond.static yX3_sizeOf, Cond.code yX3_sizeOf cX3_sizeOf 1 (some .int), Cond.methodLink RX7 59 yX7_take, Cond.static yX7_take, Cond.code yX7_take cX7_take 1 none, Cond.fieldLink RX7 76 "Sequencepoint$Node" "isPart" "Z", Cond.methodLink RL 141 yL_name, Cond.static yL_name, Cond.codeWith yL_name cL_name 3 (some .int) [(0, 5, 6, 25), (0, 5, 10, 18)]]
def wsL_law0_r30 : List Cond := [Cond.methodLink RL 38 yX11_name, Cond.instanceMethod yX11_name, Cond.selects RX11 yX11_name yX11_name, Cond.code yX11_name cX11_name 4 (some .int), Cond.fieldLink RX11 169 "Sequencepoint$Variable" "type" "I", Cond.fieldLink RX11 172 "Sequencepoint$Node" "variable" "LSequencepoint$Variable;", Cond.methodLink RL 160 yL_edge, Cond.static yL_edge, Cond.code yL_edge cL_edge 10 (some .int), Cond.constantLong RL 158 (2147483647), Cond.methodLink RL 149 yL_in, Cond.static yL_in, Cond.code yL_in cL_in 3 (some .int), Cond.constant RL 101 (2147483647), Cond.methodLink RL 95 yL_cell, Cond.static yL_cell, Cond.code yL_cell cL_cell 3 (some .int), Cond.constant RL 7 (69069), Cond.constant RL 8 (1103515245), Cond.methodLink RL 153 yL_least, Cond.static yL_least, Cond.code yL_least cL_least 1 (some .long), Cond.methodLink RL 102 yL_isSigned, Cond.static yL_isSigned]
def wsL_law0_r31 : List Cond := [Cond.code yL_isSigned cL_isSigned 1 (some .boolean), Cond.methodLink RL 106 yL_bits, Cond.static yL_bits, Cond.code yL_bits cL_bits 1 (some .int), Cond.methodLink RL 109 yL_most, Cond.static yL_most, Cond.code yL_most cL_most 1 (some .long), Cond.methodLink RL 228 yL_put, Cond.static yL_put, Cond.code yL_put cL_put 5 (some .int), Cond.methodLink RL 146 yL_assign, Cond.static yL_assign, Cond.codeWith yL_assign cL_assign 5 (some .int) [(0, 7, 8, 15), (0, 7, 13, 25), (0, 7, 18, 27), (0, 7, 23, 18)], Cond.methodLink RL 56 yX11_assign, Cond.instanceMethod yX11_assign, Cond.selects RX11 yX11_assign yX11_assign, Cond.code yX11_assign cX11_assign 6 (some .int), Cond.methodLink RX11 178 yJ0_indexOf_0f7a4, Cond.methodLink RX11 219 yX9_canAssign, Cond.static yX9_canAssign, Cond.initialized RX9, Cond.code yX9_canAssign cX9_canAssign 4 (some .boolean), Cond.fieldLink RX9 9 "Sequencepoint$Node" "type" "I", Cond.methodLink RX9 25 yX3_isPlace]
def wsL_law0_r32 : List Cond := [Cond.methodLink RX9 15 yX4_isNumber, Cond.methodLink RX11 198 yX7_canJoin, Cond.static yX7_canJoin, Cond.code yX7_canJoin cX7_canJoin 5 (some .boolean), Cond.methodLink RX7 85 Lib.Math.max.name, Cond.methodLink RX7 81 yX3_depthOf, Cond.methodLink RX7 91 yX7_isFree, Cond.static yX7_isFree, Cond.code yX7_isFree cX7_isFree 1 (some .boolean), Cond.methodLink RL 138 yL_simple, Cond.static yL_simple, Cond.codeWith yL_simple cL_simple 4 (some .int) [(0, 6, 7, 15), (0, 6, 11, 25), (0, 6, 15, 27), (0, 6, 19, 18)], Cond.methodLink RL 62 yX11_simple, Cond.instanceMethod yX11_simple, Cond.selects RX11 yX11_simple yX11_simple, Cond.code yX11_simple cX11_simple 4 (some .int), Cond.fieldLink RX11 249 "Sequencepoint$Node" "isPart" "Z", Cond.classLink RX11 133 RX8, Cond.methodLink RX11 252 yX11_refuseStatementsBeyondLimit, Cond.instanceMethod yX11_refuseStatementsBeyondLimit, Cond.selects RX11 yX11_refuseStatementsBeyondLimit yX11_refuseStatementsBeyondLimit, Cond.code yX11_refuseStatementsBeyondLimit cX11_refuseStatementsBeyondLimit 1 none, Cond.fieldLink RX11 276 "Sequencepoint$Program" "statementCount" "I", Cond.methodLink RX11 255 yX8_init]
def wsL_law0_r33 : List Cond := [Cond.methodLink RX11 258 yX7_keepStatement, Cond.instanceMethod yX7_keepStatement, Cond.selects RX7 yX7_keepStatement yX7_keepStatement, Cond.code yX7_keepStatement cX7_keepStatement 4 (some .int), Cond.fieldLink RX7 48 "Sequencepoint$Program" "statementCount" "I", Cond.fieldLink RX7 67 "Sequencepoint$Statement" "node" "LSequencepoint$Node;", Cond.fieldLink RX7 75 "Sequencepoint$Statement" "index" "I", Cond.methodLink RX7 64 yX8_setParts, Cond.instanceMethod yX8_setParts, Cond.selects RX8 yX8_setParts yX8_setParts, Cond.code yX8_setParts cX8_setParts 3 none, Cond.fieldLink RX8 21 "Sequencepoint$Statement" "first" "LSequencepoint$Statement;", Cond.fieldLink RX8 25 "Sequencepoint$Statement" "second" "LSequencepoint$Statement;", Cond.methodLink RX8 32 Lib.Math.max.name, Cond.fieldLink RX8 38 "Sequencepoint$Statement" "depth" "I", Cond.fieldLink RX8 50 "Sequencepoint$Statement" "size" "I", Cond.methodLink RX8 28 yX8_depthOf, Cond.static yX8_depthOf, Cond.code yX8_depthOf cX8_depthOf 1 (some .int), Cond.methodLink RX8 42 yX3_sizeOf, Cond.methodLink RX8 48 yX8_sizeOf, Cond.static yX8_sizeOf, Cond.code yX8_sizeOf cX8_sizeOf 1 (some .int), Cond.methodLink RX7 71 yX7_takeStatement]
def wsL_law0_r34 : List Cond := [Cond.static yX7_takeStatement, Cond.code yX7_takeStatement cX7_takeStatement 1 none, Cond.fieldLink RX7 80 "Sequencepoint$Statement" "isPart" "Z", Cond.methodLink RL 231 yL_then, Cond.static yL_then, Cond.codeWith yL_then cL_then 4 (some .int) [(0, 6, 7, 25), (0, 6, 11, 27), (0, 6, 15, 18)], Cond.methodLink RL 65 yX11_then, Cond.instanceMethod yX11_then, Cond.selects RX11 yX11_then yX11_then, Cond.code yX11_then cX11_then 5 (some .int), Cond.methodLink RX11 126 yX7_statementAt, Cond.instanceMethod yX7_statementAt, Cond.selects RX7 yX7_statementAt yX7_statementAt, Cond.code yX7_statementAt cX7_statementAt 2 (some (.object "Sequencepoint$Statement")), Cond.methodLink RX11 266 yX11_addWhole, Cond.instanceMethod yX11_addWhole, Cond.selects RX11 yX11_addWhole yX11_addWhole, Cond.code yX11_addWhole cX11_addWhole 5 (some .int), Cond.methodLink RX11 272 yX7_canJoinStatements, Cond.static yX7_canJoinStatements, Cond.code yX7_canJoinStatements cX7_canJoinStatements 6 (some .boolean), Cond.methodLink RX7 95 yX7_isFreeStatement, Cond.static yX7_isFreeStatement, Cond.code yX7_isFreeStatement cX7_isFreeStatement 1 (some .boolean)]
def wsL_law0_r35 : List Cond := [Cond.methodLink RX7 99 yX8_depthOf, Cond.methodLink RL 169 yL_built, Cond.static yL_built, Cond.code yL_built cL_built 14 (some .int), Cond.methodLink RL 163 yL_kept, Cond.static yL_kept, Cond.code yL_kept cL_kept 10 none, Cond.methodLink RL 175 yJ0_charAt_5068e, Cond.instanceMethod yJ0_charAt_5068e, Cond.selects RJ0 yJ0_charAt_5068e yJ0_charAt_5068e, Cond.code yJ0_charAt_5068e cJ0_charAt_5068e 2 (some .char), Cond.methodLink RJ0 495 yJ1_charAt_3b067, Cond.static yJ1_charAt_3b067, Cond.code yJ1_charAt_3b067 cJ1_charAt_3b067 2 (some .char), Cond.methodLink RJ1 9 yJ0_checkIndex_df160, Cond.static yJ0_checkIndex_df160, Cond.code yJ0_checkIndex_df160 cJ0_checkIndex_df160 2 none, Cond.methodLink RJ0 1059 yJ3_checkIndex_8e157, Cond.static yJ3_checkIndex_8e157, Cond.code yJ3_checkIndex_8e157 cJ3_checkIndex_8e157 3 (some .int), Cond.methodLink RJ0 498 yJ2_charAt_3b067, Cond.static yJ2_charAt_3b067, Cond.code yJ2_charAt_3b067 cJ2_charAt_3b067 2 (some .char), Cond.methodLink RJ2 67 yJ2_checkIndex_2214a]
def wsL_law0_r36 : List Cond := [Cond.static yJ2_checkIndex_2214a, Cond.code yJ2_checkIndex_2214a cJ2_checkIndex_2214a 2 none, Cond.methodLink RJ2 414 yJ0_checkIndex_df160, Cond.methodLink RL 178 yL_unary, Cond.static yL_unary, Cond.codeWith yL_unary cL_unary 4 (some .int) [(0, 6, 7, 15), (0, 6, 11, 25), (0, 6, 15, 27), (0, 6, 19, 18)], Cond.methodLink RL 42 yX11_unary, Cond.instanceMethod yX11_unary, Cond.selects RX11 yX11_unary yX11_unary, Cond.code yX11_unary cX11_unary 5 (some .int), Cond.methodLink RX11 192 yX9_ofUnary, Cond.static yX9_ofUnary, Cond.code yX9_ofUnary cX9_ofUnary 3 (some .int), Cond.methodLink RX9 21 yX4_promoted, Cond.methodLink RL 113 yL_promoted, Cond.static yL_promoted, Cond.code yL_promoted cL_promoted 1 (some .int), Cond.methodLink RL 180 yL_cast, Cond.static yL_cast, Cond.codeWith yL_cast cL_cast 4 (some .int) [(0, 6, 7, 15), (0, 6, 11, 25), (0, 6, 15, 27), (0, 6, 19, 18)], Cond.methodLink RL 46 yX11_cast, Cond.instanceMethod yX11_cast, Cond.selects RX11 yX11_cast yX11_cast, Cond.code yX11_cast cX11_cast 4 (some .int)]
def wsL_law0_r37 : List Cond := [Cond.methodLink RL 182 yL_common, Cond.static yL_common, Cond.code yL_common cL_common 4 (some .int), Cond.methodLink RL 185 yL_choose, Cond.static yL_choose, Cond.codeWith yL_choose cL_choose 5 (some .int) [(0, 7, 8, 25), (0, 7, 13, 27), (0, 7, 18, 18)], Cond.methodLink RL 53 yX11_choose, Cond.instanceMethod yX11_choose, Cond.selects RX11 yX11_choose yX11_choose, Cond.code yX11_choose cX11_choose 8 (some .int), Cond.methodLink RX11 213 yX9_ofChoice, Cond.static yX9_ofChoice, Cond.code yX9_ofChoice cX9_ofChoice 2 (some .int), Cond.methodLink RX9 29 yX4_common, Cond.methodLink RL 190 yL_binary, Cond.static yL_binary, Cond.codeWith yL_binary cL_binary 5 (some .int) [(0, 7, 8, 15), (0, 7, 13, 25), (0, 7, 18, 27), (0, 7, 23, 18)], Cond.methodLink RL 49 yX11_binary, Cond.instanceMethod yX11_binary, Cond.selects RX11 yX11_binary yX11_binary, Cond.code yX11_binary cX11_binary 7 (some .int), Cond.methodLink RX11 209 yX9_ofBinary, Cond.static yX9_ofBinary, Cond.code yX9_ofBinary cX9_ofBinary 5 (some .int)]
def wsL_law0_r38 : List Cond := [Cond.methodLink RL 233 yL_shown, Cond.static yL_shown, Cond.code yL_shown cL_shown 2 (some .int), Cond.methodLink RL 236 yL_setBody, Cond.static yL_setBody, Cond.codeWith yL_setBody cL_setBody 4 (some .int) [(0, 6, 7, 25), (0, 6, 11, 27)], Cond.methodLink RL 31 yX11_setBody, Cond.instanceMethod yX11_setBody, Cond.selects RX11 yX11_setBody yX11_setBody, Cond.code yX11_setBody cX11_setBody 5 (some .int), Cond.fieldLink RX11 132 "Sequencepoint$Statement" "isPart" "Z", Cond.methodLink RX11 122 yX7_functionAt, Cond.methodLink RX11 139 yX7_putBody, Cond.instanceMethod yX7_putBody, Cond.selects RX7 yX7_putBody yX7_putBody, Cond.code yX7_putBody cX7_putBody 4 none, Cond.methodLink RX11 143 yX7_bodyCount, Cond.instanceMethod yX7_bodyCount, Cond.selects RX7 yX7_bodyCount yX7_bodyCount, Cond.code yX7_bodyCount cX7_bodyCount 3 (some .int), Cond.methodLink RL 201 yL_value, Cond.static yL_value, Cond.code yL_value cL_value 17 (some .long), Cond.constantLong RL 205 (-1)]
def wsL_law0_r39 : List Cond := [Cond.classLink RL 192 RX12, Cond.instantiable RX12 8, Cond.initialized RX12, Cond.methodLink RL 197 yL_brought, Cond.static yL_brought, Cond.code yL_brought cL_brought 7 (some .long), Cond.methodLink RL 207 yL_fitted, Cond.static yL_fitted, Cond.code yL_fitted cL_fitted 5 (some .long), Cond.methodLink RL 211 yJ9_floorDiv_f86c9, Cond.static yJ9_floorDiv_f86c9, Cond.initialized RJ9, Cond.code yJ9_floorDiv_f86c9 cJ9_floorDiv_f86c9 6 (some .long), Cond.methodLink RL 238 yL_isPrinted, Cond.static yL_isPrinted, Cond.code yL_isPrinted cL_isPrinted 10 (some .boolean), Cond.classLink RL 116 RJ4, Cond.instantiable RJ4 4, Cond.initialized RJ4, Cond.methodLink RL 118 yJ4_init_da8c8, Cond.instanceMethod yJ4_init_da8c8, Cond.code yJ4_init_da8c8 cJ4_init_da8c8 1 none, Cond.methodLink RJ4 1 yJ5_init_d00df, Cond.instanceMethod yJ5_init_d00df]
def wsL_law0_r40 : List Cond := [Cond.initialized RJ5, Cond.code yJ5_init_d00df cJ5_init_d00df 2 none, Cond.methodLink RJ5 3 objectInit, Cond.fieldLink RJ5 18 "java/lang/String" "COMPACT_STRINGS" "Z", Cond.arrayClass .byte, Cond.fieldLink RJ5 15 "java/lang/AbstractStringBuilder" "value" "[B", Cond.fieldLink RJ5 22 "java/lang/AbstractStringBuilder" "coder" "B", Cond.methodLink RJ5 26 yJ2_newBytesFor_77867, Cond.static yJ2_newBytesFor_77867, Cond.code yJ2_newBytesFor_77867 cJ2_newBytesFor_77867 1 (some (.array .byte)), Cond.methodLink RJ2 11 yJ2_newBytesLength_0f7a4, Cond.static yJ2_newBytesLength_0f7a4, Cond.code yJ2_newBytesLength_0f7a4 cJ2_newBytesLength_0f7a4 1 (some .int), Cond.constant RJ2 20 (1073741823), Cond.methodLink RL 119 yJ4_append_f7089, Cond.instanceMethod yJ4_append_f7089, Cond.selects RJ4 yJ4_append_f7089 yJ4_append_f7089, Cond.code yJ4_append_f7089 cJ4_append_f7089 3 (some (.object "java/lang/StringBuilder")), Cond.methodLink RJ4 56 yJ5_append_66267, Cond.sameMethod "java/lang/AbstractStringBuilder" "java/lang/AbstractStringBuilder" "append" "(J)Ljava/lang/AbstractStringBuilder;", Cond.superclass RJ4 RJ5, Cond.instanceMethod yJ5_append_66267, Cond.code yJ5_append_66267 cJ5_append_66267 5 (some (.object "java/lang/AbstractStringBuilder")), Cond.fieldLink RJ5 79 "java/lang/AbstractStringBuilder" "count" "I"]
def wsL_law0_r41 : List Cond := [Cond.methodLink RJ5 254 yJ13_stringSize_95d88, Cond.static yJ13_stringSize_95d88, Cond.initialized RJ13, Cond.code yJ13_stringSize_95d88 cJ13_stringSize_95d88 6 (some .int), Cond.constantLong RJ13 140 (-10), Cond.constantLong RJ13 53 (10), Cond.methodLink RJ5 100 ⟨"java/lang/AbstractStringBuilder", "ensureCapacityInternal", "(I)V"⟩, Cond.sameMethod "java/lang/AbstractStringBuilder" "java/lang/AbstractStringBuilder" "ensureCapacityInternal" "(I)V", Cond.selects RJ4 ⟨"java/lang/AbstractStringBuilder", "ensureCapacityInternal", "(I)V"⟩ yJ5_ensureCapacityInternal_d00df, Cond.instanceMethod yJ5_ensureCapacityInternal_d00df, Cond.code yJ5_ensureCapacityInternal_d00df cJ5_ensureCapacityInternal_d00df 3 none, Cond.methodLink RJ5 104 ⟨"java/lang/AbstractStringBuilder", "newCapacity", "(I)I"⟩, Cond.sameMethod "java/lang/AbstractStringBuilder" "java/lang/AbstractStringBuilder" "newCapacity" "(I)I", Cond.selects RJ4 ⟨"java/lang/AbstractStringBuilder", "newCapacity", "(I)I"⟩ yJ5_newCapacity_0f7a4, Cond.instanceMethod yJ5_newCapacity_0f7a4, Cond.code yJ5_newCapacity_0f7a4 cJ5_newCapacity_0f7a4 6 (some .int), Cond.constant RJ5 39 (2147483647), Cond.methodLink RJ5 114 yJ8_newLength_cabcc, Cond.static yJ8_newLength_cabcc, Cond.initialized RJ8, Cond.code yJ8_newLength_cabcc cJ8_newLength_cabcc 4 (some .int), Cond.methodLink RJ8 194 Lib.Math.max.name, Cond.constant RJ8 200 (2147483639), Cond.methodLink RJ8 201 yJ8_hugeLength_7cf53]
def wsL_law0_r42 : List Cond := [Cond.static yJ8_hugeLength_7cf53, Cond.code yJ8_hugeLength_7cf53 cJ8_hugeLength_7cf53 3 (some .int), Cond.methodLink RJ5 108 yJ7_copyOf_9075b, Cond.static yJ7_copyOf_9075b, Cond.initialized RJ7, Cond.code yJ7_copyOf_9075b cJ7_copyOf_9075b 3 (some (.array .byte)), Cond.methodLink RJ7 310 ⟨"[B", "clone", "()Ljava/lang/Object;"⟩, Cond.sameMethod "[B" "java/lang/Object" "clone" "()Ljava/lang/Object;", Cond.native ⟨"java/lang/Object", "clone", "()Ljava/lang/Object;"⟩, Cond.instanceMethod ⟨"java/lang/Object", "clone", "()Ljava/lang/Object;"⟩, Cond.selects "[B" ⟨"[B", "clone", "()Ljava/lang/Object;"⟩ ⟨"java/lang/Object", "clone", "()Ljava/lang/Object;"⟩, Cond.classLink RJ7 311 "[B", Cond.methodLink RJ7 304 Lib.Math.min.name, Cond.methodLink RJ7 150 arraycopyName, Cond.native arraycopyName, Cond.static arraycopyName, Cond.initialized "java/lang/System", Cond.methodLink RJ5 83 ⟨"java/lang/AbstractStringBuilder", "isLatin1", "()Z"⟩, Cond.sameMethod "java/lang/AbstractStringBuilder" "java/lang/AbstractStringBuilder" "isLatin1" "()Z", Cond.selects RJ4 ⟨"java/lang/AbstractStringBuilder", "isLatin1", "()Z"⟩ yJ5_isLatin1_aae02, Cond.instanceMethod yJ5_isLatin1_aae02, Cond.code yJ5_isLatin1_aae02 cJ5_isLatin1_aae02 1 (some .boolean), Cond.methodLink RJ5 259 yJ13_getChars_11360, Cond.static yJ13_getChars_11360]
def wsL_law0_r43 : List Cond := [Cond.code yJ13_getChars_11360 cJ13_getChars_11360 11 (some .int), Cond.constantLong RJ13 129 (-2147483648), Cond.constantLong RJ13 131 (100), Cond.fieldLink RJ13 133 "java/lang/Integer" "DigitOnes" "[B", Cond.fieldLink RJ13 137 "java/lang/Integer" "DigitTens" "[B", Cond.methodLink RJ5 262 yJ2_getChars_1ba55, Cond.static yJ2_getChars_1ba55, Cond.code yJ2_getChars_1ba55 cJ2_getChars_1ba55 6 (some .int), Cond.methodLink RJ2 396 yJ2_getChars_11360, Cond.static yJ2_getChars_11360, Cond.code yJ2_getChars_11360 cJ2_getChars_11360 11 (some .int), Cond.constantLong RJ2 410 (-2147483648), Cond.constantLong RJ2 412 (100), Cond.fieldLink RJ2 403 "java/lang/Integer" "DigitOnes" "[B", Cond.fieldLink RJ2 407 "java/lang/Integer" "DigitTens" "[B", Cond.methodLink RJ2 111 yJ2_putChar_b72d1, Cond.static yJ2_putChar_b72d1, Cond.code yJ2_putChar_b72d1 cJ2_putChar_b72d1 3 none, Cond.methodLink RL 123 yJ4_append_cf468, Cond.instanceMethod yJ4_append_cf468, Cond.selects RJ4 yJ4_append_cf468 yJ4_append_cf468, Cond.code yJ4_append_cf468 cJ4_append_cf468 2 (some (.object "java/lang/StringBuilder")), Cond.methodLink RJ4 50 yJ5_append_3fe6f, Cond.sameMethod "java/lang/AbstractStringBuilder" "java/lang/AbstractStringBuilder" "append" "(C)Ljava/lang/AbstractStringBuilder;"]
def wsL_law0_r44 : List Cond := [Cond.instanceMethod yJ5_append_3fe6f, Cond.code yJ5_append_3fe6f cJ5_append_3fe6f 2 (some (.object "java/lang/AbstractStringBuilder")), Cond.methodLink RJ5 191 yJ1_canEncode_fc78d, Cond.static yJ1_canEncode_fc78d, Cond.code yJ1_canEncode_fc78d cJ1_canEncode_fc78d 1 (some .boolean), Cond.methodLink RJ5 195 ⟨"java/lang/AbstractStringBuilder", "inflate", "()V"⟩, Cond.sameMethod "java/lang/AbstractStringBuilder" "java/lang/AbstractStringBuilder" "inflate" "()V", Cond.selects RJ4 ⟨"java/lang/AbstractStringBuilder", "inflate", "()V"⟩ yJ5_inflate_da8c8, Cond.instanceMethod yJ5_inflate_da8c8, Cond.code yJ5_inflate_da8c8 cJ5_inflate_da8c8 2 none, Cond.methodLink RJ5 125 yJ1_inflate_0e8fd, Cond.static yJ1_inflate_0e8fd, Cond.code yJ1_inflate_0e8fd cJ1_inflate_0e8fd 5 none, Cond.methodLink RJ1 240 yJ2_inflate_0e8fd, Cond.static yJ2_inflate_0e8fd, Cond.code yJ2_inflate_0e8fd cJ2_inflate_0e8fd 6 none, Cond.methodLink RJ2 173 yJ2_checkBoundsOffCount_d044e, Cond.static yJ2_checkBoundsOffCount_d044e, Cond.code yJ2_checkBoundsOffCount_d044e cJ2_checkBoundsOffCount_d044e 3 none, Cond.methodLink RJ2 419 yJ0_checkBoundsOffCount_cabcc, Cond.static yJ0_checkBoundsOffCount_cabcc, Cond.code yJ0_checkBoundsOffCount_cabcc cJ0_checkBoundsOffCount_cabcc 3 (some .int), Cond.methodLink RJ0 1065 yJ3_checkFromIndexSize_8c36e, Cond.static yJ3_checkFromIndexSize_8c36e]
def wsL_law0_r45 : List Cond := [Cond.code yJ3_checkFromIndexSize_8c36e cJ3_checkFromIndexSize_8c36e 4 (some .int), Cond.methodLink RJ5 197 yJ2_putCharSB_b72d1, Cond.static yJ2_putCharSB_b72d1, Cond.code yJ2_putCharSB_b72d1 cJ2_putCharSB_b72d1 3 none, Cond.methodLink RL 126 yJ4_length_8abf5, Cond.instanceMethod yJ4_length_8abf5, Cond.selects RJ4 yJ4_length_8abf5 yJ4_length_8abf5, Cond.code yJ4_length_8abf5 cJ4_length_8abf5 1 (some .int), Cond.methodLink RJ4 343 yJ5_length_8abf5, Cond.sameMethod "java/lang/AbstractStringBuilder" "java/lang/AbstractStringBuilder" "length" "()I", Cond.instanceMethod yJ5_length_8abf5, Cond.code yJ5_length_8abf5 cJ5_length_8abf5 1 (some .int), Cond.methodLink RL 132 yJ4_charAt_5068e, Cond.instanceMethod yJ4_charAt_5068e, Cond.selects RJ4 yJ4_charAt_5068e yJ4_charAt_5068e, Cond.code yJ4_charAt_5068e cJ4_charAt_5068e 2 (some .char), Cond.methodLink RJ4 329 yJ5_charAt_5068e, Cond.sameMethod "java/lang/AbstractStringBuilder" "java/lang/AbstractStringBuilder" "charAt" "(I)C", Cond.instanceMethod yJ5_charAt_5068e, Cond.code yJ5_charAt_5068e cJ5_charAt_5068e 5 (some .char), Cond.methodLink RJ5 138 Lib.Math.min.name, Cond.methodLink RJ5 144 yJ0_checkIndex_df160, Cond.methodLink RJ5 148 yJ2_getChar_3b067, Cond.methodLink RL 135 yX11_printed]
def wsL_law0_r46 : List Cond := [Cond.instanceMethod yX11_printed, Cond.selects RX11 yX11_printed yX11_printed, Cond.code yX11_printed cX11_printed 1 (some .int), Cond.methodLink RL 246 yL_placeOf, Cond.static yL_placeOf, Cond.codeWith yL_placeOf cL_placeOf 2 (some .int) [(0, 4, 5, 76)], Cond.methodLink RL 78 yX11_placeOf, Cond.instanceMethod yX11_placeOf, Cond.selects RX11 yX11_placeOf yX11_placeOf, Cond.code yX11_placeOf cX11_placeOf 1 (some .int), Cond.fieldLink RX11 324 "Sequencepoint$Outcome" "node" "I", Cond.methodLink RL 251 yX11_choices, Cond.instanceMethod yX11_choices, Cond.selects RX11 yX11_choices yX11_choices, Cond.code yX11_choices cX11_choices 1 (some .int), Cond.fieldLink RX11 332 "Sequencepoint$Outcome" "choiceCount" "I", Cond.methodLink RL 254 yL_behaviours, Cond.static yL_behaviours, Cond.codeWith yL_behaviours cL_behaviours 2 (some .int) [(0, 4, 5, 18)], Cond.methodLink RL 85 yX11_behaviours, Cond.instanceMethod yX11_behaviours, Cond.selects RX11 yX11_behaviours yX11_behaviours, Cond.code yX11_behaviours cX11_behaviours 3 (some .int), Cond.methodLink RX11 344 yX11_gatherOutcomes]
def wsL_law0_r47 : List Cond := [Cond.instanceMethod yX11_gatherOutcomes, Cond.selects RX11 yX11_gatherOutcomes yX11_gatherOutcomes, Cond.code yX11_gatherOutcomes cX11_gatherOutcomes 3 (some .int), Cond.methodLink RX11 356 yX6_copyFrom, Cond.instanceMethod yX6_copyFrom, Cond.selects RX6 yX6_copyFrom yX6_copyFrom, Cond.code yX6_copyFrom cX6_copyFrom 3 none, Cond.methodLink RX11 347 yX11_isAmongFirst, Cond.instanceMethod yX11_isAmongFirst, Cond.selects RX11 yX11_isAmongFirst yX11_isAmongFirst, Cond.code yX11_isAmongFirst cX11_isAmongFirst 4 (some .boolean), Cond.methodLink RX11 360 yX6_isSameBehaviour, Cond.instanceMethod yX6_isSameBehaviour, Cond.selects RX6 yX6_isSameBehaviour yX6_isSameBehaviour, Cond.code yX6_isSameBehaviour cX6_isSameBehaviour 3 (some .boolean), Cond.methodLink RL 256 yL_undefinedOrders, Cond.static yL_undefinedOrders, Cond.codeWith yL_undefinedOrders cL_undefinedOrders 2 (some .int) [(0, 4, 5, 18)], Cond.methodLink RL 88 yX11_undefinedOrders, Cond.instanceMethod yX11_undefinedOrders, Cond.selects RX11 yX11_undefinedOrders yX11_undefinedOrders, Cond.code yX11_undefinedOrders cX11_undefinedOrders 1 (some .int), Cond.methodLink RL 258 yL_isAsIf, Cond.static yL_isAsIf]
def wsL_law0_r48 : List Cond := [Cond.codeWith yL_isAsIf cL_isAsIf 2 (some .int) [(0, 12, 13, 18)], Cond.methodLink RL 91 yX11_isAsIf, Cond.instanceMethod yX11_isAsIf, Cond.selects RX11 yX11_isAsIf yX11_isAsIf, Cond.code yX11_isAsIf cX11_isAsIf 2 (some .boolean), Cond.fieldLink RX11 310 "Sequencepoint$Optimiser" "bodies" "[LSequencepoint$Statement;", Cond.methodLink RX11 306 yX5_improve, Cond.instanceMethod yX5_improve, Cond.selects RX5 yX5_improve yX5_improve, Cond.code yX5_improve cX5_improve 3 none, Cond.fieldLink RX5 45 "Sequencepoint$Optimiser" "stepCount" "I", Cond.fieldLink RX5 49 "Sequencepoint$Optimiser" "size" "I", Cond.fieldLink RX5 56 "Sequencepoint$Program" "nodeCount" "I", Cond.fieldLink RX5 73 "Sequencepoint$Program" "statementCount" "I", Cond.fieldLink RX5 88 "Sequencepoint$Program" "bodies" "[LSequencepoint$Statement;", Cond.methodLink RX5 52 yX5_markUsed, Cond.instanceMethod yX5_markUsed, Cond.selects RX5 yX5_markUsed yX5_markUsed, Cond.code yX5_markUsed cX5_markUsed 4 none, Cond.fieldLink RX5 100 "Sequencepoint$Statement" "node" "LSequencepoint$Node;", Cond.fieldLink RX5 108 "Sequencepoint$Statement" "first" "LSequencepoint$Statement;", Cond.fieldLink RX5 112 "Sequencepoint$Statement" "second" "LSequencepoint$Statement;", Cond.fieldLink RX5 115 "Sequencepoint$Node" "first" "LSequencepoint$Node;", Cond.fieldLink RX5 117 "Sequencepoint$Node" "second" "LSequencepoint$Node;"]
def wsL_law0_r49 : List Cond := [Cond.fieldLink RX5 119 "Sequencepoint$Node" "third" "LSequencepoint$Node;", Cond.methodLink RX5 96 yX5_useStatement, Cond.instanceMethod yX5_useStatement, Cond.selects RX5 yX5_useStatement yX5_useStatement, Cond.code yX5_useStatement cX5_useStatement 2 none, Cond.fieldLink RX5 125 "Sequencepoint$Statement" "index" "I", Cond.methodLink RX5 76 yX7_statementAt, Cond.methodLink RX5 104 yX5_use, Cond.instanceMethod yX5_use, Cond.selects RX5 yX5_use yX5_use, Cond.code yX5_use cX5_use 2 none, Cond.fieldLink RX5 122 "Sequencepoint$Node" "index" "I", Cond.methodLink RX5 61 yX7_nodeAt, Cond.methodLink RX5 65 yX5_copyOf, Cond.instanceMethod yX5_copyOf, Cond.selects RX5 yX5_copyOf yX5_copyOf, Cond.code yX5_copyOf cX5_copyOf 3 (some (.object "Sequencepoint$Node")), Cond.methodLink RX5 126 yX3_copyFrom, Cond.instanceMethod yX3_copyFrom, Cond.selects RX3 yX3_copyFrom yX3_copyFrom, Cond.code yX3_copyFrom cX3_copyFrom 2 none, Cond.fieldLink RX3 22 "Sequencepoint$Node" "index" "I", Cond.fieldLink RX3 25 "Sequencepoint$Node" "value" "J", Cond.fieldLink RX3 33 "Sequencepoint$Node" "function" "LSequencepoint$Function;"]
def wsL_law0_r50 : List Cond := [Cond.methodLink RX5 129 yX5_folded, Cond.instanceMethod yX5_folded, Cond.selects RX5 yX5_folded yX5_folded, Cond.code yX5_folded cX5_folded 2 (some (.object "Sequencepoint$Node")), Cond.methodLink RX5 132 yX3_setParts, Cond.methodLink RX5 69 yX5_reduce, Cond.instanceMethod yX5_reduce, Cond.selects RX5 yX5_reduce yX5_reduce, Cond.code yX5_reduce cX5_reduce 6 (some (.object "Sequencepoint$Node")), Cond.fieldLink RX5 151 "Sequencepoint$Node" "value" "J", Cond.fieldLink RX5 155 "Sequencepoint$Node" "shape" "I", Cond.fieldLink RX5 161 "Sequencepoint$Node" "kind" "C", Cond.methodLink RX5 147 yX3_isTold, Cond.static yX3_isTold, Cond.code yX3_isTold cX3_isTold 1 (some .boolean), Cond.methodLink RX5 158 yX5_take, Cond.instanceMethod yX5_take, Cond.selects RX5 yX5_take yX5_take, Cond.code yX5_take cX5_take 3 (some (.object "Sequencepoint$Node")), Cond.fieldLink RX5 182 "Sequencepoint$Node" "type" "I", Cond.methodLink RX5 185 yX4_isNumber, Cond.methodLink RX5 191 yX4_convert, Cond.methodLink RX5 166 yX5_tell, Cond.instanceMethod yX5_tell]
def wsL_law0_r51 : List Cond := [Cond.selects RX5 yX5_tell yX5_tell, Cond.code yX5_tell cX5_tell 4 (some (.object "Sequencepoint$Node")), Cond.methodLink RX5 162 yX3_decides, Cond.methodLink RX5 170 yX3_isReckoned, Cond.methodLink RX5 174 yX3_faultOf, Cond.methodLink RX5 178 yX3_resultOf, Cond.methodLink RX5 80 yX5_copyOfStatement, Cond.instanceMethod yX5_copyOfStatement, Cond.selects RX5 yX5_copyOfStatement yX5_copyOfStatement, Cond.code yX5_copyOfStatement cX5_copyOfStatement 3 (some (.object "Sequencepoint$Statement")), Cond.fieldLink RX5 136 "Sequencepoint$Statement" "kind" "C", Cond.fieldLink RX5 140 "Sequencepoint$Statement" "variable" "LSequencepoint$Variable;", Cond.methodLink RX5 89 yX5_shortened, Cond.instanceMethod yX5_shortened, Cond.selects RX5 yX5_shortened yX5_shortened, Cond.code yX5_shortened cX5_shortened 3 (some (.object "Sequencepoint$Statement")), Cond.methodLink RX5 144 yX8_setParts, Cond.methodLink RX5 84 yX5_reduceStatement, Cond.instanceMethod yX5_reduceStatement, Cond.selects RX5 yX5_reduceStatement yX5_reduceStatement, Cond.code yX5_reduceStatement cX5_reduceStatement 4 (some (.object "Sequencepoint$Statement")), Cond.methodLink RX5 195 yX5_shorten, Cond.instanceMethod yX5_shorten, Cond.selects RX5 yX5_shorten yX5_shorten]
def wsL_law0_r52 : List Cond := [Cond.code yX5_shorten cX5_shorten 2 (some (.object "Sequencepoint$Statement")), Cond.methodLink RX5 92 yX8_sizeOf, Cond.methodLink RL 260 yX11_allSteps, Cond.instanceMethod yX11_allSteps, Cond.selects RX11 yX11_allSteps yX11_allSteps, Cond.code yX11_allSteps cX11_allSteps 1 (some .long), Cond.methodLink RL 264 yX11_steps, Cond.instanceMethod yX11_steps, Cond.selects RX11 yX11_steps yX11_steps, Cond.code yX11_steps cX11_steps 1 (some .int)]
def wsL_law0 : List Cond := (wsL_law0_r1 ++ (wsL_law0_r2 ++ (wsL_law0_r3 ++ (wsL_law0_r4 ++ (wsL_law0_r5 ++ (wsL_law0_r6 ++ (wsL_law0_r7 ++ (wsL_law0_r8 ++ (wsL_law0_r9 ++ (wsL_law0_r10 ++ (wsL_law0_r11 ++ (wsL_law0_r12 ++ (wsL_law0_r13 ++ (wsL_law0_r14 ++ (wsL_law0_r15 ++ (wsL_law0_r16 ++ (wsL_law0_r17 ++ (wsL_law0_r18 ++ (wsL_law0_r19 ++ (wsL_law0_r20 ++ (wsL_law0_r21 ++ (wsL_law0_r22 ++ (wsL_law0_r23 ++ (wsL_law0_r24 ++ (wsL_law0_r25 ++ (wsL_law0_r26 ++ (wsL_law0_r27 ++ (wsL_law0_r28 ++ (wsL_law0_r29 ++ (wsL_law0_r30 ++ (wsL_law0_r31 ++ (wsL_law0_r32 ++ (wsL_law0_r33 ++ (wsL_law0_r34 ++ (wsL_law0_r35 ++ (wsL_law0_r36 ++ (wsL_law0_r37 ++ (wsL_law0_r38 ++ (wsL_law0_r39 ++ (wsL_law0_r40 ++ (wsL_law0_r41 ++ (wsL_law0_r42 ++ (wsL_law0_r43 ++ (wsL_law0_r44 ++ (wsL_law0_r45 ++ (wsL_law0_r46 ++ (wsL_law0_r47 ++ (wsL_law0_r48 ++ (wsL_law0_r49 ++ (wsL_law0_r50 ++ (wsL_law0_r51 ++ wsL_law0_r52))))))))))))))))))))))))))))))))))))))))))))))))))) ++ wsX110 ++ wsX120 ++ wsX70 ++ wsX50 ++ wsX10 ++ wsX60 ++ wsX30 ++ wsX80 ++ wsX20 ++ wsX00 ++ wsX100 ++ wsJ40 ++ ([] : List Cond)
def wsL_law : List Cond := wsL_law0 ++ (vx_atS RX11 70 "java/lang/IllegalStateException" ["java/lang/RuntimeException", "java/lang/Exception"]).filter goodWord ++ (vx_atS RX11 54 "java/lang/IllegalArgumentException" ["java/lang/RuntimeException", "java/lang/Exception"]).filter goodWord ++ (vx_atS RX11 90 "java/lang/IndexOutOfBoundsException" ["java/lang/RuntimeException", "java/lang/Exception"]).filter goodWord ++ (vx_atS RX11 331 "java/util/NoSuchElementException" ["java/lang/RuntimeException", "java/lang/Exception"]).filter goodWord ++ (vx_atS RX11 99 "java/lang/UnsupportedOperationException" ["java/lang/RuntimeException", "java/lang/Exception"]).filter goodWord
abbrev vwCl : List vw_C := [(RJ4, TJ4, 4), (RX0, TX0, 4), (RX1, TX1, 8), (RX2, TX2, 11), (RX3, TX3, 14), (RX5, TX5, 9), (RX6, TX6, 7), (RX7, TX7, 9), (RX8, TX8, 9), (RX10, TX10, 4), (RX11, TX11, 7), (RX12, TX12, 8)]
