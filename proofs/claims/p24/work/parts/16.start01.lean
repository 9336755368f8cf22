set_option maxRecDepth 16384 in
theorem od1.code57 : (Jvm.Cond.code (⟨"java/lang/Math", "min", "(II)I"⟩ : Jvm.MethodName) prog_36_method_69_code 2 (some .int)).before args0 about = true :=
  su_hand_word (m := ⟨14, 2⟩) (by decide +kernel) rfl (by decide +kernel) (by decide +kernel)
set_option maxRecDepth 16384 in
theorem od1.code58 : (Jvm.Cond.code (⟨"java/lang/StringLatin1", "indexOfChar", "([BIII)I"⟩ : Jvm.MethodName) prog_41_method_23_code 6 (some .int)).before args0 about = true :=
  su_hand_word (m := ⟨16, 3⟩) (by decide +kernel) rfl (by decide +kernel) (by decide +kernel)
set_option maxRecDepth 16384 in
theorem od1.code59 : (Jvm.Cond.code (⟨"java/lang/StringUTF16", "indexOf", "([BIII)I"⟩ : Jvm.MethodName) prog_42_method_40_code 4 (some .int)).before args0 about = true :=
  su_hand_word (m := ⟨17, 5⟩) (by decide +kernel) rfl (by decide +kernel) (by decide +kernel)
set_option maxRecDepth 16384 in
theorem od1.code60 : (Jvm.Cond.code (⟨"java/lang/StringUTF16", "indexOfChar", "([BIII)I"⟩ : Jvm.MethodName) prog_42_method_47_code 4 (some .int)).before args0 about = true :=
  su_hand_word (m := ⟨17, 6⟩) (by decide +kernel) rfl (by decide +kernel) (by decide +kernel)
set_option maxRecDepth 16384 in
theorem od1.code61 : (Jvm.Cond.code (⟨"java/lang/StringUTF16", "checkBoundsBeginEnd", "(II[B)V"⟩ : Jvm.MethodName) prog_42_method_93_code 3 none).before args0 about = true :=
  su_hand_word (m := ⟨17, 14⟩) (by decide +kernel) rfl (by decide +kernel) (by decide +kernel)
set_option maxRecDepth 16384 in
theorem od1.code62 : (Jvm.Cond.code (⟨"java/lang/StringUTF16", "length", "([B)I"⟩ : Jvm.MethodName) prog_42_method_6_code 1 (some .int)).before args0 about = true :=
  su_hand_word (m := ⟨17, 4⟩) (by decide +kernel) rfl (by decide +kernel) (by decide +kernel)
set_option maxRecDepth 16384 in
theorem od1.code63 : (Jvm.Cond.code (⟨"java/lang/String", "checkBoundsBeginEnd", "(III)V"⟩ : Jvm.MethodName) prog_39_method_158_code 3 none).before args0 about = true :=
  su_hand_word (m := ⟨40, 7⟩) (by decide +kernel) rfl (by decide +kernel) (by decide +kernel)
set_option maxRecDepth 16384 in
theorem od1.code64 : (Jvm.Cond.code (⟨"jdk/internal/util/Preconditions", "checkFromToIndex", "(IIILjava/util/function/BiFunction;)I"⟩ : Jvm.MethodName) prog_61_method_12_code 4 (some .int)).before args0 about = true :=
  su_hand_word (m := ⟨18, 1⟩) (by decide +kernel) rfl (by decide +kernel) (by decide +kernel)
set_option maxRecDepth 16384 in
theorem od1.code65 : (Jvm.Cond.code (⟨"java/lang/StringUTF16", "indexOfCharUnsafe", "([BIII)I"⟩ : Jvm.MethodName) prog_42_method_48_code 5 (some .int)).before args0 about = true :=
  su_hand_word (m := ⟨17, 7⟩) (by decide +kernel) rfl (by decide +kernel) (by decide +kernel)
set_option maxRecDepth 16384 in
theorem od1.code66 : (Jvm.Cond.code (⟨"java/lang/StringUTF16", "getChar", "([BI)C"⟩ : Jvm.MethodName) prog_42_method_5_code 2 (some .char)).before args0 about = true :=
  su_hand_word (m := ⟨17, 3⟩) (by decide +kernel) rfl (by decide +kernel) (by decide +kernel)
set_option maxRecDepth 16384 in
theorem od1.code67 : (Jvm.Cond.code (⟨"java/lang/StringUTF16", "indexOfSupplementary", "([BIII)I"⟩ : Jvm.MethodName) prog_42_method_49_code 7 (some .int)).before args0 about = true :=
  su_hand_word (m := ⟨17, 8⟩) (by decide +kernel) rfl (by decide +kernel) (by decide +kernel)
set_option maxRecDepth 16384 in
theorem od1.code68 : (Jvm.Cond.code (⟨"java/lang/Character", "isValidCodePoint", "(I)Z"⟩ : Jvm.MethodName) prog_25_method_11_code 2 (some .boolean)).before args0 about = true :=
  su_hand_word (m := ⟨41, 0⟩) (by decide +kernel) rfl (by decide +kernel) (by decide +kernel)
set_option maxRecDepth 16384 in
theorem od1.code69 : (Jvm.Cond.code (⟨"java/lang/Character", "highSurrogate", "(I)C"⟩ : Jvm.MethodName) prog_25_method_28_code 1 (some .char)).before args0 about = true :=
  su_hand_word (m := ⟨41, 1⟩) (by decide +kernel) rfl (by decide +kernel) (by decide +kernel)
set_option maxRecDepth 16384 in
theorem od1.code70 : (Jvm.Cond.code (⟨"java/lang/Character", "lowSurrogate", "(I)C"⟩ : Jvm.MethodName) prog_25_method_29_code 1 (some .char)).before args0 about = true :=
  su_hand_word (m := ⟨41, 2⟩) (by decide +kernel) rfl (by decide +kernel) (by decide +kernel)
set_option maxRecDepth 16384 in
theorem od1.code71 : (Jvm.Cond.code (⟨"Sequencepoint$Program", "nodeAt", "(I)LSequencepoint$Node;"⟩ : Jvm.MethodName) prog_9_method_4_code 2 (some (.object "Sequencepoint$Node"))).before args0 about = true :=
  su_hand_word (m := ⟨3, 3⟩) (by decide +kernel) rfl (by decide +kernel) (by decide +kernel)
set_option maxRecDepth 16384 in
theorem od1.code72 : (Jvm.Cond.code (⟨"Sequencepoint$Typing", "ofUnary", "(CLSequencepoint$Node;)I"⟩ : Jvm.MethodName) prog_11_method_2_code 3 (some .int)).before args0 about = true :=
  su_hand_word (m := ⟨19, 0⟩) (by decide +kernel) rfl (by decide +kernel) (by decide +kernel)
set_option maxRecDepth 16384 in
theorem od1.code73 : (Jvm.Cond.code (⟨"Sequencepoint$Numbers", "promoted", "(I)I"⟩ : Jvm.MethodName) prog_6_method_6_code 1 (some .int)).before args0 about = true :=
  su_hand_word (m := ⟨11, 4⟩) (by decide +kernel) rfl (by decide +kernel) (by decide +kernel)
set_option maxRecDepth 16384 in
theorem od1.code74 : (Jvm.Cond.code (⟨"Sequencepoint$Node", "isPlace", "()Z"⟩ : Jvm.MethodName) prog_5_method_8_code 1 (some .boolean)).before args0 about = true :=
  su_hand_word (m := ⟨5, 7⟩) (by decide +kernel) rfl (by decide +kernel) (by decide +kernel)
set_option maxRecDepth 16384 in
theorem od1.code75 : (Jvm.Cond.code (⟨"Sequencepoint$Program", "canJoin", "(LSequencepoint$Node;LSequencepoint$Node;LSequencepoint$Node;)Z"⟩ : Jvm.MethodName) prog_9_method_12_code 5 (some .boolean)).before args0 about = true :=
  su_hand_word (m := ⟨3, 11⟩) (by decide +kernel) rfl (by decide +kernel) (by decide +kernel)
set_option maxRecDepth 16384 in
theorem od1.code76 : (Jvm.Cond.code (⟨"Sequencepoint$Program", "isFree", "(LSequencepoint$Node;)Z"⟩ : Jvm.MethodName) prog_9_method_14_code 1 (some .boolean)).before args0 about = true :=
  su_hand_word (m := ⟨3, 13⟩) (by decide +kernel) rfl (by decide +kernel) (by decide +kernel)
set_option maxRecDepth 16384 in
theorem od1.code77 : (Jvm.Cond.code (⟨"Sequencepoint", "cast", "(II)I"⟩ : Jvm.MethodName) prog_1_method_9_code 4 (some .int)).before args0 about = true :=
  su_hand_word (m := ⟨2, 8⟩) (by decide +kernel) rfl (by decide +kernel) (by decide +kernel)
set_option maxRecDepth 16384 in
theorem od1.code78 : (Jvm.Cond.code (⟨"Sequencepoint", "binary", "(CII)I"⟩ : Jvm.MethodName) prog_1_method_10_code 7 (some .int)).before args0 about = true :=
  su_hand_word (m := ⟨2, 9⟩) (by decide +kernel) rfl (by decide +kernel) (by decide +kernel)
set_option maxRecDepth 16384 in
theorem od1.code79 : (Jvm.Cond.code (⟨"Sequencepoint$Typing", "ofBinary", "(CII)I"⟩ : Jvm.MethodName) prog_11_method_3_code 5 (some .int)).before args0 about = true :=
  su_hand_word (m := ⟨19, 1⟩) (by decide +kernel) rfl (by decide +kernel) (by decide +kernel)
set_option maxRecDepth 16384 in
theorem od1.code80 : (Jvm.Cond.code (⟨"Sequencepoint$Numbers", "common", "(II)I"⟩ : Jvm.MethodName) prog_6_method_7_code 2 (some .int)).before args0 about = true :=
  su_hand_word (m := ⟨11, 5⟩) (by decide +kernel) rfl (by decide +kernel) (by decide +kernel)
set_option maxRecDepth 16384 in
theorem od1.code81 : (Jvm.Cond.code (⟨"Sequencepoint", "choose", "(III)I"⟩ : Jvm.MethodName) prog_1_method_11_code 8 (some .int)).before args0 about = true :=
  su_hand_word (m := ⟨2, 10⟩) (by decide +kernel) rfl (by decide +kernel) (by decide +kernel)
set_option maxRecDepth 16384 in
theorem od1.code82 : (Jvm.Cond.code (⟨"Sequencepoint$Typing", "ofChoice", "(II)I"⟩ : Jvm.MethodName) prog_11_method_4_code 2 (some .int)).before args0 about = true :=
  su_hand_word (m := ⟨19, 2⟩) (by decide +kernel) rfl (by decide +kernel) (by decide +kernel)
set_option maxRecDepth 16384 in
theorem od1.code83 : (Jvm.Cond.code (⟨"Sequencepoint", "assign", "(CII)I"⟩ : Jvm.MethodName) prog_1_method_12_code 6 (some .int)).before args0 about = true :=
  su_hand_word (m := ⟨2, 11⟩) (by decide +kernel) rfl (by decide +kernel) (by decide +kernel)
set_option maxRecDepth 16384 in
theorem od1.code84 : (Jvm.Cond.code (⟨"Sequencepoint$Typing", "canAssign", "(CLSequencepoint$Node;I)Z"⟩ : Jvm.MethodName) prog_11_method_5_code 4 (some .boolean)).before args0 about = true :=
  su_hand_word (m := ⟨19, 3⟩) (by decide +kernel) rfl (by decide +kernel) (by decide +kernel)
set_option maxRecDepth 16384 in
theorem od1.code85 : (Jvm.Cond.code (⟨"Sequencepoint", "call", "(III)I"⟩ : Jvm.MethodName) prog_1_method_13_code 9 (some .int)).before args0 about = true :=
  su_hand_word (m := ⟨2, 12⟩) (by decide +kernel) rfl (by decide +kernel) (by decide +kernel)
set_option maxRecDepth 16384 in
theorem od1.code86 : (Jvm.Cond.code (⟨"Sequencepoint$Typing", "canPass", "(LSequencepoint$Variable;LSequencepoint$Node;)Z"⟩ : Jvm.MethodName) prog_11_method_6_code 2 (some .boolean)).before args0 about = true :=
  su_hand_word (m := ⟨19, 4⟩) (by decide +kernel) rfl (by decide +kernel) (by decide +kernel)
set_option maxRecDepth 16384 in
theorem od1.code87 : (Jvm.Cond.code (⟨"Sequencepoint", "typeOf", "(I)I"⟩ : Jvm.MethodName) prog_1_method_15_code 3 (some .int)).before args0 about = true :=
  su_hand_word (m := ⟨2, 14⟩) (by decide +kernel) rfl (by decide +kernel) (by decide +kernel)
set_option maxRecDepth 16384 in
theorem od1.code88 : (Jvm.Cond.code (⟨"Sequencepoint", "simple", "(CI)I"⟩ : Jvm.MethodName) prog_1_method_16_code 4 (some .int)).before args0 about = true :=
  su_hand_word (m := ⟨2, 15⟩) (by decide +kernel) rfl (by decide +kernel) (by decide +kernel)
set_option maxRecDepth 16384 in
theorem od1.code89 : (Jvm.Cond.code (⟨"Sequencepoint", "refuseStatementsBeyondLimit", "()V"⟩ : Jvm.MethodName) prog_1_method_23_code 1 none).before args0 about = true :=
  su_hand_word (m := ⟨2, 22⟩) (by decide +kernel) rfl (by decide +kernel) (by decide +kernel)
set_option maxRecDepth 16384 in
theorem od1.code90 : (Jvm.Cond.code (⟨"Sequencepoint$Program", "keepStatement", "(LSequencepoint$Statement;LSequencepoint$Statement;LSequencepoint$Statement;)I"⟩ : Jvm.MethodName) prog_9_method_9_code 4 (some .int)).before args0 about = true :=
  su_hand_word (m := ⟨3, 8⟩) (by decide +kernel) rfl (by decide +kernel) (by decide +kernel)
set_option maxRecDepth 16384 in
theorem od1.code91 : (Jvm.Cond.code (⟨"Sequencepoint$Statement", "setParts", "(LSequencepoint$Statement;LSequencepoint$Statement;)V"⟩ : Jvm.MethodName) prog_10_method_2_code 3 none).before args0 about = true :=
  su_hand_word (m := ⟨6, 1⟩) (by decide +kernel) rfl (by decide +kernel) (by decide +kernel)
set_option maxRecDepth 16384 in
theorem od1.code92 : (Jvm.Cond.code (⟨"Sequencepoint$Statement", "depthOf", "(LSequencepoint$Statement;)I"⟩ : Jvm.MethodName) prog_10_method_3_code 1 (some .int)).before args0 about = true :=
  su_hand_word (m := ⟨6, 2⟩) (by decide +kernel) rfl (by decide +kernel) (by decide +kernel)
set_option maxRecDepth 16384 in
theorem od1.code93 : (Jvm.Cond.code (⟨"Sequencepoint$Statement", "sizeOf", "(LSequencepoint$Statement;)I"⟩ : Jvm.MethodName) prog_10_method_4_code 1 (some .int)).before args0 about = true :=
  su_hand_word (m := ⟨6, 3⟩) (by decide +kernel) rfl (by decide +kernel) (by decide +kernel)
set_option maxRecDepth 16384 in
theorem od1.code94 : (Jvm.Cond.code (⟨"Sequencepoint$Program", "takeStatement", "(LSequencepoint$Statement;)V"⟩ : Jvm.MethodName) prog_9_method_11_code 1 none).before args0 about = true :=
  su_hand_word (m := ⟨3, 10⟩) (by decide +kernel) rfl (by decide +kernel) (by decide +kernel)
set_option maxRecDepth 16384 in
theorem od1.code95 : (Jvm.Cond.code (⟨"Sequencepoint", "declare", "(I)I"⟩ : Jvm.MethodName) prog_1_method_17_code 3 (some .int)).before args0 about = true :=
  su_hand_word (m := ⟨2, 16⟩) (by decide +kernel) rfl (by decide +kernel) (by decide +kernel)
set_option maxRecDepth 16384 in
theorem od1.code96 : (Jvm.Cond.code (⟨"Sequencepoint", "branch", "(III)I"⟩ : Jvm.MethodName) prog_1_method_18_code 7 (some .int)).before args0 about = true :=
  su_hand_word (m := ⟨2, 17⟩) (by decide +kernel) rfl (by decide +kernel) (by decide +kernel)
set_option maxRecDepth 16384 in
theorem od1.code97 : (Jvm.Cond.code (⟨"Sequencepoint", "addWhole", "(CLSequencepoint$Node;LSequencepoint$Statement;LSequencepoint$Statement;)I"⟩ : Jvm.MethodName) prog_1_method_22_code 5 (some .int)).before args0 about = true :=
  su_hand_word (m := ⟨2, 21⟩) (by decide +kernel) rfl (by decide +kernel) (by decide +kernel)
set_option maxRecDepth 16384 in
theorem od1.code98 : (Jvm.Cond.code (⟨"Sequencepoint$Program", "canJoinStatements", "(LSequencepoint$Node;LSequencepoint$Statement;LSequencepoint$Statement;)Z"⟩ : Jvm.MethodName) prog_9_method_13_code 6 (some .boolean)).before args0 about = true :=
  su_hand_word (m := ⟨3, 12⟩) (by decide +kernel) rfl (by decide +kernel) (by decide +kernel)
set_option maxRecDepth 16384 in
theorem od1.code99 : (Jvm.Cond.code (⟨"Sequencepoint$Program", "isFreeStatement", "(LSequencepoint$Statement;)Z"⟩ : Jvm.MethodName) prog_9_method_15_code 1 (some .boolean)).before args0 about = true :=
  su_hand_word (m := ⟨3, 14⟩) (by decide +kernel) rfl (by decide +kernel) (by decide +kernel)
set_option maxRecDepth 16384 in
theorem od1.codes_are_4 : tables_1_4.filter su_isCode = [Jvm.Cond.code (⟨"java/lang/String", "indexOf", "(I)I"⟩ : Jvm.MethodName) prog_39_method_79_code 2 (some .int),
    Jvm.Cond.code (⟨"java/lang/String", "indexOf", "(II)I"⟩ : Jvm.MethodName) prog_39_method_80_code 3 (some .int),
    Jvm.Cond.code (⟨"java/lang/String", "isLatin1", "()Z"⟩ : Jvm.MethodName) prog_39_method_154_code 1 (some .boolean),
    Jvm.Cond.code (⟨"java/lang/String", "length", "()I"⟩ : Jvm.MethodName) prog_39_method_54_code 1 (some .int),
    Jvm.Cond.code (⟨"java/lang/String", "coder", "()B"⟩ : Jvm.MethodName) prog_39_method_152_code 1 (some .byte),
    Jvm.Cond.code (⟨"java/lang/StringLatin1", "indexOf", "([BIII)I"⟩ : Jvm.MethodName) prog_41_method_22_code 4 (some .int),
    Jvm.Cond.code (⟨"java/lang/StringLatin1", "canEncode", "(I)Z"⟩ : Jvm.MethodName) prog_41_method_4_code 1 (some .boolean),
    Jvm.Cond.code (⟨"java/lang/Math", "min", "(II)I"⟩ : Jvm.MethodName) prog_36_method_69_code 2 (some .int),
    Jvm.Cond.code (⟨"java/lang/StringLatin1", "indexOfChar", "([BIII)I"⟩ : Jvm.MethodName) prog_41_method_23_code 6 (some .int),
    Jvm.Cond.code (⟨"java/lang/StringUTF16", "indexOf", "([BIII)I"⟩ : Jvm.MethodName) prog_42_method_40_code 4 (some .int),
    Jvm.Cond.code (⟨"java/lang/StringUTF16", "indexOfChar", "([BIII)I"⟩ : Jvm.MethodName) prog_42_method_47_code 4 (some .int),
    Jvm.Cond.code (⟨"java/lang/StringUTF16", "checkBoundsBeginEnd", "(II[B)V"⟩ : Jvm.MethodName) prog_42_method_93_code 3 none,
    Jvm.Cond.code (⟨"java/lang/StringUTF16", "length", "([B)I"⟩ : Jvm.MethodName) prog_42_method_6_code 1 (some .int),
    Jvm.Cond.code (⟨"java/lang/String", "checkBoundsBeginEnd", "(III)V"⟩ : Jvm.MethodName) prog_39_method_158_code 3 none,
    Jvm.Cond.code (⟨"jdk/internal/util/Preconditions", "checkFromToIndex", "(IIILjava/util/function/BiFunction;)I"⟩ : Jvm.MethodName) prog_61_method_12_code 4 (some .int),
    Jvm.Cond.code (⟨"java/lang/StringUTF16", "indexOfCharUnsafe", "([BIII)I"⟩ : Jvm.MethodName) prog_42_method_48_code 5 (some .int),
    Jvm.Cond.code (⟨"java/lang/StringUTF16", "getChar", "([BI)C"⟩ : Jvm.MethodName) prog_42_method_5_code 2 (some .char),
    Jvm.Cond.code (⟨"java/lang/StringUTF16", "indexOfSupplementary", "([BIII)I"⟩ : Jvm.MethodName) prog_42_method_49_code 7 (some .int),
    Jvm.Cond.code (⟨"java/lang/Character", "isValidCodePoint", "(I)Z"⟩ : Jvm.MethodName) prog_25_method_11_code 2 (some .boolean),
    Jvm.Cond.code (⟨"java/lang/Character", "highSurrogate", "(I)C"⟩ : Jvm.MethodName) prog_25_method_28_code 1 (some .char),
    Jvm.Cond.code (⟨"java/lang/Character", "lowSurrogate", "(I)C"⟩ : Jvm.MethodName) prog_25_method_29_code 1 (some .char),
    Jvm.Cond.code (⟨"Sequencepoint$Program", "nodeAt", "(I)LSequencepoint$Node;"⟩ : Jvm.MethodName) prog_9_method_4_code 2 (some (.object "Sequencepoint$Node")),
    Jvm.Cond.code (⟨"Sequencepoint$Typing", "ofUnary", "(CLSequencepoint$Node;)I"⟩ : Jvm.MethodName) prog_11_method_2_code 3 (some .int),
    Jvm.Cond.code (⟨"Sequencepoint$Numbers", "promoted", "(I)I"⟩ : Jvm.MethodName) prog_6_method_6_code 1 (some .int),
    Jvm.Cond.code (⟨"Sequencepoint$Node", "isPlace", "()Z"⟩ : Jvm.MethodName) prog_5_method_8_code 1 (some .boolean),
    Jvm.Cond.code (⟨"Sequencepoint$Program", "canJoin", "(LSequencepoint$Node;LSequencepoint$Node;LSequencepoint$Node;)Z"⟩ : Jvm.MethodName) prog_9_method_12_code 5 (some .boolean),
    Jvm.Cond.code (⟨"Sequencepoint$Program", "isFree", "(LSequencepoint$Node;)Z"⟩ : Jvm.MethodName) prog_9_method_14_code 1 (some .boolean),
    Jvm.Cond.code (⟨"Sequencepoint", "cast", "(II)I"⟩ : Jvm.MethodName) prog_1_method_9_code 4 (some .int),
    Jvm.Cond.code (⟨"Sequencepoint", "binary", "(CII)I"⟩ : Jvm.MethodName) prog_1_method_10_code 7 (some .int),
    Jvm.Cond.code (⟨"Sequencepoint$Typing", "ofBinary", "(CII)I"⟩ : Jvm.MethodName) prog_11_method_3_code 5 (some .int),
    Jvm.Cond.code (⟨"Sequencepoint$Numbers", "common", "(II)I"⟩ : Jvm.MethodName) prog_6_method_7_code 2 (some .int),
    Jvm.Cond.code (⟨"Sequencepoint", "choose", "(III)I"⟩ : Jvm.MethodName) prog_1_method_11_code 8 (some .int),
    Jvm.Cond.code (⟨"Sequencepoint$Typing", "ofChoice", "(II)I"⟩ : Jvm.MethodName) prog_11_method_4_code 2 (some .int),
    Jvm.Cond.code (⟨"Sequencepoint", "assign", "(CII)I"⟩ : Jvm.MethodName) prog_1_method_12_code 6 (some .int),
    Jvm.Cond.code (⟨"Sequencepoint$Typing", "canAssign", "(CLSequencepoint$Node;I)Z"⟩ : Jvm.MethodName) prog_11_method_5_code 4 (some .boolean),
    Jvm.Cond.code (⟨"Sequencepoint", "call", "(III)I"⟩ : Jvm.MethodName) prog_1_method_13_code 9 (some .int),
    Jvm.Cond.code (⟨"Sequencepoint$Typing", "canPass", "(LSequencepoint$Variable;LSequencepoint$Node;)Z"⟩ : Jvm.MethodName) prog_11_method_6_code 2 (some .boolean),
    Jvm.Cond.code (⟨"Sequencepoint", "typeOf", "(I)I"⟩ : Jvm.MethodName) prog_1_method_15_code 3 (some .int),
    Jvm.Cond.code (⟨"Sequencepoint", "simple", "(CI)I"⟩ : Jvm.MethodName) prog_1_method_16_code 4 (some .int),
    Jvm.Cond.code (⟨"Sequencepoint", "refuseStatementsBeyondLimit", "()V"⟩ : Jvm.MethodName) prog_1_method_23_code 1 none,
    Jvm.Cond.code (⟨"Sequencepoint$Program", "keepStatement", "(LSequencepoint$Statement;LSequencepoint$Statement;LSequencepoint$Statement;)I"⟩ : Jvm.MethodName) prog_9_method_9_code 4 (some .int),
    Jvm.Cond.code (⟨"Sequencepoint$Statement", "setParts", "(LSequencepoint$Statement;LSequencepoint$Statement;)V"⟩ : Jvm.MethodName) prog_10_method_2_code 3 none,
    Jvm.Cond.code (⟨"Sequencepoint$Statement", "depthOf", "(LSequencepoint$Statement;)I"⟩ : Jvm.MethodName) prog_10_method_3_code 1 (some .int),
    Jvm.Cond.code (⟨"Sequencepoint$Statement", "sizeOf", "(LSequencepoint$Statement;)I"⟩ : Jvm.MethodName) prog_10_method_4_code 1 (some .int),
    Jvm.Cond.code (⟨"Sequencepoint$Program", "takeStatement", "(LSequencepoint$Statement;)V"⟩ : Jvm.MethodName) prog_9_method_11_code 1 none,
    Jvm.Cond.code (⟨"Sequencepoint", "declare", "(I)I"⟩ : Jvm.MethodName) prog_1_method_17_code 3 (some .int),
    Jvm.Cond.code (⟨"Sequencepoint", "branch", "(III)I"⟩ : Jvm.MethodName) prog_1_method_18_code 7 (some .int),
    Jvm.Cond.code (⟨"Sequencepoint", "addWhole", "(CLSequencepoint$Node;LSequencepoint$Statement;LSequencepoint$Statement;)I"⟩ : Jvm.MethodName) prog_1_method_22_code 5 (some .int),
    Jvm.Cond.code (⟨"Sequencepoint$Program", "canJoinStatements", "(LSequencepoint$Node;LSequencepoint$Statement;LSequencepoint$Statement;)Z"⟩ : Jvm.MethodName) prog_9_method_13_code 6 (some .boolean),
    Jvm.Cond.code (⟨"Sequencepoint$Program", "isFreeStatement", "(LSequencepoint$Statement;)Z"⟩ : Jvm.MethodName) prog_9_method_15_code 1 (some .boolean)] := by
  first
  | rfl
  | simp only [tables_1_4, List.filter, su_isCode]
set_option maxRecDepth 16384 in
theorem od1.codes_hold_4 : ∀ c ∈ tables_1_4.filter su_isCode, c.before args0 about = true := by
  rw [codes_are_4]
  exact List.forall_mem_cons.mpr ⟨code50, List.forall_mem_cons.mpr ⟨code51, List.forall_mem_cons.mpr ⟨code52, List.forall_mem_cons.mpr ⟨code53, List.forall_mem_cons.mpr ⟨code54, List.forall_mem_cons.mpr ⟨code55, List.forall_mem_cons.mpr ⟨code56, List.forall_mem_cons.mpr ⟨code57, List.forall_mem_cons.mpr ⟨code58, List.forall_mem_cons.mpr ⟨code59, List.forall_mem_cons.mpr ⟨code60, List.forall_mem_cons.mpr ⟨code61, List.forall_mem_cons.mpr ⟨code62, List.forall_mem_cons.mpr ⟨code63, List.forall_mem_cons.mpr ⟨code64, List.forall_mem_cons.mpr ⟨code65, List.forall_mem_cons.mpr ⟨code66, List.forall_mem_cons.mpr ⟨code67, List.forall_mem_cons.mpr ⟨code68, List.forall_mem_cons.mpr ⟨code69, List.forall_mem_cons.mpr ⟨code70, List.forall_mem_cons.mpr ⟨code71, List.forall_mem_cons.mpr ⟨code72, List.forall_mem_cons.mpr ⟨code73, List.forall_mem_cons.mpr ⟨code74, List.forall_mem_cons.mpr ⟨code75, List.forall_mem_cons.mpr ⟨code76, List.forall_mem_cons.mpr ⟨code77, List.forall_mem_cons.mpr ⟨code78, List.forall_mem_cons.mpr ⟨code79, List.forall_mem_cons.mpr ⟨code80, List.forall_mem_cons.mpr ⟨code81, List.forall_mem_cons.mpr ⟨code82, List.forall_mem_cons.mpr ⟨code83, List.forall_mem_cons.mpr ⟨code84, List.forall_mem_cons.mpr ⟨code85, List.forall_mem_cons.mpr ⟨code86, List.forall_mem_cons.mpr ⟨code87, List.forall_mem_cons.mpr ⟨code88, List.forall_mem_cons.mpr ⟨code89, List.forall_mem_cons.mpr ⟨code90, List.forall_mem_cons.mpr ⟨code91, List.forall_mem_cons.mpr ⟨code92, List.forall_mem_cons.mpr ⟨code93, List.forall_mem_cons.mpr ⟨code94, List.forall_mem_cons.mpr ⟨code95, List.forall_mem_cons.mpr ⟨code96, List.forall_mem_cons.mpr ⟨code97, List.forall_mem_cons.mpr ⟨code98, List.forall_mem_cons.mpr ⟨code99, List.forall_mem_nil _⟩⟩⟩⟩⟩⟩⟩⟩⟩⟩⟩⟩⟩⟩⟩⟩⟩⟩⟩⟩⟩⟩⟩⟩⟩⟩⟩⟩⟩⟩⟩⟩⟩⟩⟩⟩⟩⟩⟩⟩⟩⟩⟩⟩⟩⟩⟩⟩⟩⟩
set_option maxRecDepth 16384 in
theorem od1.others_4_0 : (tables_1_4.take 12).all (fun c => su_isCode c || c.before args0 about) = true := by decide +kernel
set_option maxRecDepth 16384 in
theorem od1.others_4_1 : ((tables_1_4.drop 12).take 17).all (fun c => su_isCode c || c.before args0 about) = true := by decide +kernel
set_option maxRecDepth 16384 in
theorem od1.others_4_2 : (((tables_1_4.drop 12).drop 17).take 21).all (fun c => su_isCode c || c.before args0 about) = true := by decide +kernel
set_option maxRecDepth 16384 in
theorem od1.others_4_3 : ((((tables_1_4.drop 12).drop 17).drop 21).take 20).all (fun c => su_isCode c || c.before args0 about) = true := by decide +kernel
set_option maxRecDepth 16384 in
theorem od1.others_4_4 : (((((tables_1_4.drop 12).drop 17).drop 21).drop 20).take 40).all (fun c => su_isCode c || c.before args0 about) = true := by decide +kernel
set_option maxRecDepth 16384 in
theorem od1.others_4_5 : ((((((tables_1_4.drop 12).drop 17).drop 21).drop 20).drop 40).take 40).all (fun c => su_isCode c || c.before args0 about) = true := by decide +kernel
set_option maxRecDepth 16384 in
theorem od1.others_4_6 : (((((((tables_1_4.drop 12).drop 17).drop 21).drop 20).drop 40).drop 40).take 40).all (fun c => su_isCode c || c.before args0 about) = true := by decide +kernel
set_option maxRecDepth 16384 in
theorem od1.others_4_7 : ((((((((tables_1_4.drop 12).drop 17).drop 21).drop 20).drop 40).drop 40).drop 40).take 40).all (fun c => su_isCode c || c.before args0 about) = true := by decide +kernel
set_option maxRecDepth 16384 in
theorem od1.others_4_8 : ((((((((tables_1_4.drop 12).drop 17).drop 21).drop 20).drop 40).drop 40).drop 40).drop 40).all (fun c => su_isCode c || c.before args0 about) = true := by decide +kernel
set_option maxRecDepth 16384 in
theorem od1.others_hold_4 : tables_1_4.all (fun c => su_isCode c || c.before args0 about) = true := su_all_split _ 12 tables_1_4 others_4_0 (su_all_split _ 17 (tables_1_4.drop 12) others_4_1 (su_all_split _ 21 ((tables_1_4.drop 12).drop 17) others_4_2 (su_all_split _ 20 (((tables_1_4.drop 12).drop 17).drop 21) others_4_3 (su_all_split _ 40 ((((tables_1_4.drop 12).drop 17).drop 21).drop 20) others_4_4 (su_all_split _ 40 (((((tables_1_4.drop 12).drop 17).drop 21).drop 20).drop 40) others_4_5 (su_all_split _ 40 ((((((tables_1_4.drop 12).drop 17).drop 21).drop 20).drop 40).drop 40) others_4_6 (su_all_split _ 40 (((((((tables_1_4.drop 12).drop 17).drop 21).drop 20).drop 40).drop 40).drop 40) others_4_7 others_4_8)))))))
set_option maxRecDepth 16384 in
theorem od1.words_4 : ∀ c ∈ tables_1_4, c.before args0 about = true := fun c h => su_words others_hold_4 codes_hold_4 c h
set_option maxRecDepth 16384 in
theorem od1.code100 : (Jvm.Cond.code (⟨"Sequencepoint", "repeat", "(II)I"⟩ : Jvm.MethodName) prog_1_method_19_code 5 (some .int)).before args0 about = true :=
  su_hand_word (m := ⟨2, 18⟩) (by decide +kernel) rfl (by decide +kernel) (by decide +kernel)
set_option maxRecDepth 16384 in
theorem od1.code101 : (Jvm.Cond.code (⟨"Sequencepoint", "then", "(II)I"⟩ : Jvm.MethodName) prog_1_method_20_code 5 (some .int)).before args0 about = true :=
  su_hand_word (m := ⟨2, 19⟩) (by decide +kernel) rfl (by decide +kernel) (by decide +kernel)
set_option maxRecDepth 16384 in
theorem od1.code102 : (Jvm.Cond.code (⟨"Sequencepoint", "block", "(I)I"⟩ : Jvm.MethodName) prog_1_method_21_code 3 (some .int)).before args0 about = true :=
  su_hand_word (m := ⟨2, 20⟩) (by decide +kernel) rfl (by decide +kernel) (by decide +kernel)
set_option maxRecDepth 16384 in
theorem od1.code103 : (Jvm.Cond.code (⟨"Sequencepoint", "run", "(I)C"⟩ : Jvm.MethodName) prog_1_method_24_code 2 (some .char)).before args0 about = true :=
  su_hand_word (m := ⟨2, 23⟩) (by decide +kernel) rfl (by decide +kernel) (by decide +kernel)
set_option maxRecDepth 16384 in
theorem od1.code104 : (Jvm.Cond.code (⟨"Sequencepoint", "refuseProgramWithoutStart", "()V"⟩ : Jvm.MethodName) prog_1_method_26_code 1 none).before args0 about = true :=
  su_hand_word (m := ⟨2, 25⟩) (by decide +kernel) rfl (by decide +kernel) (by decide +kernel)
set_option maxRecDepth 16384 in
theorem od1.code105 : (Jvm.Cond.code (⟨"Sequencepoint$Program", "canStart", "()Z"⟩ : Jvm.MethodName) prog_9_method_18_code 2 (some .boolean)).before args0 about = true :=
  su_hand_word (m := ⟨3, 17⟩) (by decide +kernel) rfl (by decide +kernel) (by decide +kernel)
set_option maxRecDepth 16384 in
theorem od1.code106 : (Jvm.Cond.code (⟨"Sequencepoint", "refuseNegativeOrder", "(I)V"⟩ : Jvm.MethodName) prog_1_method_27_code 1 none).before args0 about = true :=
  su_hand_word (m := ⟨2, 26⟩) (by decide +kernel) rfl (by decide +kernel) (by decide +kernel)
set_option maxRecDepth 16384 in
theorem od1.code107 : (Jvm.Cond.code (⟨"Sequencepoint$Machine", "perform", "(LSequencepoint$Program;[LSequencepoint$Statement;ILSequencepoint$Outcome;)V"⟩ : Jvm.MethodName) prog_3_method_2_code 7 none).before args0 about = true :=
  su_hand_word (m := ⟨7, 1⟩) (by decide +kernel) rfl (by decide +kernel) (by decide +kernel)
set_option maxRecDepth 16384 in
theorem od1.code108 : (Jvm.Cond.code (⟨"Sequencepoint$Outcome", "clear", "()V"⟩ : Jvm.MethodName) prog_8_method_2_code 1 none).before args0 about = true :=
  su_hand_word (m := ⟨9, 1⟩) (by decide +kernel) rfl (by decide +kernel) (by decide +kernel)
set_option maxRecDepth 16384 in
theorem od1.code109 : (Jvm.Cond.code (⟨"Sequencepoint$Memory", "clear", "()V"⟩ : Jvm.MethodName) prog_4_method_2_code 1 none).before args0 about = true :=
  su_hand_word (m := ⟨8, 1⟩) (by decide +kernel) rfl (by decide +kernel) (by decide +kernel)
set_option maxRecDepth 16384 in
theorem od1.code110 : (Jvm.Cond.code (⟨"Sequencepoint$Machine", "openRow", "(I)V"⟩ : Jvm.MethodName) prog_3_method_21_code 4 none).before args0 about = true :=
  su_hand_word (m := ⟨7, 20⟩) (by decide +kernel) rfl (by decide +kernel) (by decide +kernel)
set_option maxRecDepth 16384 in
theorem od1.code111 : (Jvm.Cond.code (⟨"Sequencepoint$Machine", "bring", "(LSequencepoint$Variable;)V"⟩ : Jvm.MethodName) prog_3_method_24_code 3 none).before args0 about = true :=
  su_hand_word (m := ⟨7, 23⟩) (by decide +kernel) rfl (by decide +kernel) (by decide +kernel)
set_option maxRecDepth 16384 in
theorem od1.code112 : (Jvm.Cond.code (⟨"Sequencepoint$Machine", "slotOf", "(LSequencepoint$Variable;)I"⟩ : Jvm.MethodName) prog_3_method_22_code 3 (some .int)).before args0 about = true :=
  su_hand_word (m := ⟨7, 21⟩) (by decide +kernel) rfl (by decide +kernel) (by decide +kernel)
set_option maxRecDepth 16384 in
theorem od1.code113 : (Jvm.Cond.code (⟨"Sequencepoint$Memory", "end", "(I)V"⟩ : Jvm.MethodName) prog_4_method_5_code 2 none).before args0 about = true :=
  su_hand_word (m := ⟨8, 4⟩) (by decide +kernel) rfl (by decide +kernel) (by decide +kernel)
set_option maxRecDepth 16384 in
theorem od1.code114 : (Jvm.Cond.code (⟨"Sequencepoint$Variable", "parts", "()I"⟩ : Jvm.MethodName) prog_12_method_3_code 1 (some .int)).before args0 about = true :=
  su_hand_word (m := ⟨12, 2⟩) (by decide +kernel) rfl (by decide +kernel) (by decide +kernel)
set_option maxRecDepth 16384 in
theorem od1.code115 : (Jvm.Cond.code (⟨"Sequencepoint$Memory", "bear", "(I)I"⟩ : Jvm.MethodName) prog_4_method_4_code 3 (some .int)).before args0 about = true :=
  su_hand_word (m := ⟨8, 3⟩) (by decide +kernel) rfl (by decide +kernel) (by decide +kernel)
set_option maxRecDepth 16384 in
theorem od1.code116 : (Jvm.Cond.code (⟨"Sequencepoint$Machine", "bodyOf", "(I)LSequencepoint$Statement;"⟩ : Jvm.MethodName) prog_3_method_3_code 2 (some (.object "Sequencepoint$Statement"))).before args0 about = true :=
  su_hand_word (m := ⟨7, 2⟩) (by decide +kernel) rfl (by decide +kernel) (by decide +kernel)
set_option maxRecDepth 16384 in
theorem od1.code117 : (Jvm.Cond.code (⟨"Sequencepoint$Machine", "execute", "(LSequencepoint$Statement;)V"⟩ : Jvm.MethodName) prog_3_method_7_code 3 none).before args0 about = true :=
  su_hand_word (m := ⟨7, 6⟩) (by decide +kernel) rfl (by decide +kernel) (by decide +kernel)
set_option maxRecDepth 16384 in
theorem od1.code118 : (Jvm.Cond.code (⟨"Sequencepoint$Machine", "takeStep", "()Z"⟩ : Jvm.MethodName) prog_3_method_5_code 1 (some .boolean)).before args0 about = true :=
  su_hand_word (m := ⟨7, 4⟩) (by decide +kernel) rfl (by decide +kernel) (by decide +kernel)
set_option maxRecDepth 16384 in
theorem od1.code119 : (Jvm.Cond.code (⟨"Sequencepoint$Machine", "isOver", "()Z"⟩ : Jvm.MethodName) prog_3_method_4_code 1 (some .boolean)).before args0 about = true :=
  su_hand_word (m := ⟨7, 3⟩) (by decide +kernel) rfl (by decide +kernel) (by decide +kernel)
set_option maxRecDepth 16384 in
theorem od1.code120 : (Jvm.Cond.code (⟨"Sequencepoint$Machine", "evaluate", "(LSequencepoint$Node;)J"⟩ : Jvm.MethodName) prog_3_method_8_code 8 (some .long)).before args0 about = true :=
  su_hand_word (m := ⟨7, 7⟩) (by decide +kernel) rfl (by decide +kernel) (by decide +kernel)
set_option maxRecDepth 16384 in
theorem od1.code121 : (Jvm.Cond.code (⟨"Sequencepoint$Memory", "logged", "()I"⟩ : Jvm.MethodName) prog_4_method_16_code 1 (some .int)).before args0 about = true :=
  su_hand_word (m := ⟨8, 15⟩) (by decide +kernel) rfl (by decide +kernel) (by decide +kernel)
set_option maxRecDepth 16384 in
theorem od1.code122 : (Jvm.Cond.code (⟨"Sequencepoint$Node", "isChosen", "()Z"⟩ : Jvm.MethodName) prog_5_method_11_code 1 (some .boolean)).before args0 about = true :=
  su_hand_word (m := ⟨5, 10⟩) (by decide +kernel) rfl (by decide +kernel) (by decide +kernel)
set_option maxRecDepth 16384 in
theorem od1.code123 : (Jvm.Cond.code (⟨"Sequencepoint$Node", "isUnsequenced", "()Z"⟩ : Jvm.MethodName) prog_5_method_10_code 1 (some .boolean)).before args0 about = true :=
  su_hand_word (m := ⟨5, 9⟩) (by decide +kernel) rfl (by decide +kernel) (by decide +kernel)
set_option maxRecDepth 16384 in
theorem od1.code124 : (Jvm.Cond.code (⟨"Sequencepoint$Machine", "isSecondAhead", "()Z"⟩ : Jvm.MethodName) prog_3_method_10_code 2 (some .boolean)).before args0 about = true :=
  su_hand_word (m := ⟨7, 9⟩) (by decide +kernel) rfl (by decide +kernel) (by decide +kernel)
set_option maxRecDepth 16384 in
theorem od1.code125 : (Jvm.Cond.code (⟨"Sequencepoint$Node", "firstToEvaluate", "()LSequencepoint$Node;"⟩ : Jvm.MethodName) prog_5_method_12_code 1 (some (.object "Sequencepoint$Node"))).before args0 about = true :=
  su_hand_word (m := ⟨5, 11⟩) (by decide +kernel) rfl (by decide +kernel) (by decide +kernel)
set_option maxRecDepth 16384 in
theorem od1.code126 : (Jvm.Cond.code (⟨"Sequencepoint$Node", "takesPlace", "()Z"⟩ : Jvm.MethodName) prog_5_method_9_code 1 (some .boolean)).before args0 about = true :=
  su_hand_word (m := ⟨5, 8⟩) (by decide +kernel) rfl (by decide +kernel) (by decide +kernel)
set_option maxRecDepth 16384 in
theorem od1.code127 : (Jvm.Cond.code (⟨"Sequencepoint$Node", "secondToEvaluate", "(J)LSequencepoint$Node;"⟩ : Jvm.MethodName) prog_5_method_13_code 3 (some (.object "Sequencepoint$Node"))).before args0 about = true :=
  su_hand_word (m := ⟨5, 12⟩) (by decide +kernel) rfl (by decide +kernel) (by decide +kernel)
set_option maxRecDepth 16384 in
theorem od1.code128 : (Jvm.Cond.code (⟨"Sequencepoint$Node", "decides", "(J)Z"⟩ : Jvm.MethodName) prog_5_method_14_code 3 (some .boolean)).before args0 about = true :=
  su_hand_word (m := ⟨5, 13⟩) (by decide +kernel) rfl (by decide +kernel) (by decide +kernel)
set_option maxRecDepth 16384 in
theorem od1.code129 : (Jvm.Cond.code (⟨"Sequencepoint$Memory", "isClash", "(II)Z"⟩ : Jvm.MethodName) prog_4_method_18_code 5 (some .boolean)).before args0 about = true :=
  su_hand_word (m := ⟨8, 17⟩) (by decide +kernel) rfl (by decide +kernel) (by decide +kernel)
set_option maxRecDepth 16384 in
theorem od1.code130 : (Jvm.Cond.code (⟨"Sequencepoint$Machine", "fail", "(CLSequencepoint$Node;)J"⟩ : Jvm.MethodName) prog_3_method_6_code 3 (some .long)).before args0 about = true :=
  su_hand_word (m := ⟨7, 5⟩) (by decide +kernel) rfl (by decide +kernel) (by decide +kernel)
