theorem od1.code118 : (Jvm.Cond.code (⟨"Sequencepoint$Machine", "takeStep", "()Z"⟩ : Jvm.MethodName) prog_3_method_5_code 1 (some .boolean)).before args0 about = true := od1.code_of (by decide +kernel) start1.code118
theorem od1.code119 : (Jvm.Cond.code (⟨"Sequencepoint$Machine", "isOver", "()Z"⟩ : Jvm.MethodName) prog_3_method_4_code 1 (some .boolean)).before args0 about = true := od1.code_of (by decide +kernel) start1.code119
theorem od1.code120 : (Jvm.Cond.code (⟨"Sequencepoint$Machine", "evaluate", "(LSequencepoint$Node;)J"⟩ : Jvm.MethodName) prog_3_method_8_code 8 (some .long)).before args0 about = true := od1.code_of (by decide +kernel) start1.code120
theorem od1.code121 : (Jvm.Cond.code (⟨"Sequencepoint$Memory", "logged", "()I"⟩ : Jvm.MethodName) prog_4_method_16_code 1 (some .int)).before args0 about = true := od1.code_of (by decide +kernel) start1.code121
theorem od1.code122 : (Jvm.Cond.code (⟨"Sequencepoint$Node", "isChosen", "()Z"⟩ : Jvm.MethodName) prog_5_method_11_code 1 (some .boolean)).before args0 about = true := od1.code_of (by decide +kernel) start1.code122
theorem od1.code123 : (Jvm.Cond.code (⟨"Sequencepoint$Node", "isUnsequenced", "()Z"⟩ : Jvm.MethodName) prog_5_method_10_code 1 (some .boolean)).before args0 about = true := od1.code_of (by decide +kernel) start1.code123
theorem od1.code124 : (Jvm.Cond.code (⟨"Sequencepoint$Machine", "isSecondAhead", "()Z"⟩ : Jvm.MethodName) prog_3_method_10_code 2 (some .boolean)).before args0 about = true := od1.code_of (by decide +kernel) start1.code124
theorem od1.code125 : (Jvm.Cond.code (⟨"Sequencepoint$Node", "firstToEvaluate", "()LSequencepoint$Node;"⟩ : Jvm.MethodName) prog_5_method_12_code 1 (some (.object "Sequencepoint$Node"))).before args0 about = true := od1.code_of (by decide +kernel) start1.code125
theorem od1.code126 : (Jvm.Cond.code (⟨"Sequencepoint$Node", "takesPlace", "()Z"⟩ : Jvm.MethodName) prog_5_method_9_code 1 (some .boolean)).before args0 about = true := od1.code_of (by decide +kernel) start1.code126
theorem od1.code127 : (Jvm.Cond.code (⟨"Sequencepoint$Node", "secondToEvaluate", "(J)LSequencepoint$Node;"⟩ : Jvm.MethodName) prog_5_method_13_code 3 (some (.object "Sequencepoint$Node"))).before args0 about = true := od1.code_of (by decide +kernel) start1.code127
theorem od1.code128 : (Jvm.Cond.code (⟨"Sequencepoint$Node", "decides", "(J)Z"⟩ : Jvm.MethodName) prog_5_method_14_code 3 (some .boolean)).before args0 about = true := od1.code_of (by decide +kernel) start1.code128
theorem od1.code129 : (Jvm.Cond.code (⟨"Sequencepoint$Memory", "isClash", "(II)Z"⟩ : Jvm.MethodName) prog_4_method_18_code 5 (some .boolean)).before args0 about = true := od1.code_of (by decide +kernel) start1.code129
theorem od1.code130 : (Jvm.Cond.code (⟨"Sequencepoint$Machine", "fail", "(CLSequencepoint$Node;)J"⟩ : Jvm.MethodName) prog_3_method_6_code 3 (some .long)).before args0 about = true := od1.code_of (by decide +kernel) start1.code130
theorem od1.code131 : (Jvm.Cond.code (⟨"Sequencepoint$Machine", "enter", "(LSequencepoint$Node;JJ)J"⟩ : Jvm.MethodName) prog_3_method_9_code 9 (some .long)).before args0 about = true := od1.code_of (by decide +kernel) start1.code131
theorem od1.code132 : (Jvm.Cond.code (⟨"Sequencepoint$Memory", "lives", "()I"⟩ : Jvm.MethodName) prog_4_method_3_code 1 (some .int)).before args0 about = true := od1.code_of (by decide +kernel) start1.code132
theorem od1.code133 : (Jvm.Cond.code (⟨"Sequencepoint$Machine", "bringWith", "(LSequencepoint$Variable;J)V"⟩ : Jvm.MethodName) prog_3_method_25_code 4 none).before args0 about = true := od1.code_of (by decide +kernel) start1.code133
theorem od1.code134 : (Jvm.Cond.code (⟨"Sequencepoint$Machine", "pointerTo", "(LSequencepoint$Variable;)J"⟩ : Jvm.MethodName) prog_3_method_23_code 3 (some .long)).before args0 about = true := od1.code_of (by decide +kernel) start1.code134
theorem od1.code135 : (Jvm.Cond.code (⟨"Sequencepoint$Memory", "pointerTo", "(I)J"⟩ : Jvm.MethodName) prog_4_method_8_code 2 (some .long)).before args0 about = true := od1.code_of (by decide +kernel) start1.code135
theorem od1.code136 : (Jvm.Cond.code (⟨"Sequencepoint$Machine", "converted", "(JI)J"⟩ : Jvm.MethodName) prog_3_method_17_code 3 (some .long)).before args0 about = true := od1.code_of (by decide +kernel) start1.code136
theorem od1.code137 : (Jvm.Cond.code (⟨"Sequencepoint$Memory", "write", "(JJ)V"⟩ : Jvm.MethodName) prog_4_method_14_code 5 none).before args0 about = true := od1.code_of (by decide +kernel) start1.code137
theorem od1.code138 : (Jvm.Cond.code (⟨"Sequencepoint$Memory", "isCell", "(J)Z"⟩ : Jvm.MethodName) prog_4_method_7_code 3 (some .boolean)).before args0 about = true := od1.code_of (by decide +kernel) start1.code138
theorem od1.code139 : (Jvm.Cond.code (⟨"Sequencepoint$Memory", "log", "(IZ)V"⟩ : Jvm.MethodName) prog_4_method_15_code 3 none).before args0 about = true := od1.code_of (by decide +kernel) start1.code139
theorem od1.code140 : (Jvm.Cond.code (⟨"Sequencepoint$Memory", "endSince", "(I)V"⟩ : Jvm.MethodName) prog_4_method_6_code 3 none).before args0 about = true := od1.code_of (by decide +kernel) start1.code140
theorem od1.code141 : (Jvm.Cond.code (⟨"Sequencepoint$Memory", "forgetSince", "(I)V"⟩ : Jvm.MethodName) prog_4_method_17_code 2 none).before args0 about = true := od1.code_of (by decide +kernel) start1.code141
theorem od1.code142 : (Jvm.Cond.code (⟨"Sequencepoint$Machine", "finishAtPlace", "(LSequencepoint$Node;JJI)J"⟩ : Jvm.MethodName) prog_3_method_15_code 17 (some .long)).before args0 about = true := od1.code_of (by decide +kernel) start1.code142
theorem od1.code143 : (Jvm.Cond.code (⟨"Sequencepoint$Memory", "isLiving", "(J)Z"⟩ : Jvm.MethodName) prog_4_method_10_code 4 (some .boolean)).before args0 about = true := od1.code_of (by decide +kernel) start1.code143
theorem od1.code144 : (Jvm.Cond.code (⟨"Sequencepoint$Memory", "lifeOf", "(J)I"⟩ : Jvm.MethodName) prog_4_method_9_code 3 (some .int)).before args0 about = true := od1.code_of (by decide +kernel) start1.code144
theorem od1.code145 : (Jvm.Cond.code (⟨"Sequencepoint$Memory", "isWrittenSince", "(IJ)Z"⟩ : Jvm.MethodName) prog_4_method_19_code 5 (some .boolean)).before args0 about = true := od1.code_of (by decide +kernel) start1.code145
theorem od1.code146 : (Jvm.Cond.code (⟨"Sequencepoint$Machine", "write", "(LSequencepoint$Node;JJ)J"⟩ : Jvm.MethodName) prog_3_method_20_code 7 (some .long)).before args0 about = true := od1.code_of (by decide +kernel) start1.code146
theorem od1.code147 : (Jvm.Cond.code (⟨"Sequencepoint$Memory", "faultOfUsing", "(JZ)C"⟩ : Jvm.MethodName) prog_4_method_11_code 6 (some .char)).before args0 about = true := od1.code_of (by decide +kernel) start1.code147
theorem od1.code148 : (Jvm.Cond.code (⟨"Sequencepoint$Machine", "read", "(LSequencepoint$Node;J)J"⟩ : Jvm.MethodName) prog_3_method_19_code 5 (some .long)).before args0 about = true := od1.code_of (by decide +kernel) start1.code148
theorem od1.code149 : (Jvm.Cond.code (⟨"Sequencepoint$Memory", "read", "(J)J"⟩ : Jvm.MethodName) prog_4_method_13_code 3 (some .long)).before args0 about = true := od1.code_of (by decide +kernel) start1.code149
theorem od1.code150 : (Jvm.Cond.code (⟨"Sequencepoint$Machine", "changed", "(LSequencepoint$Node;JJ)J"⟩ : Jvm.MethodName) prog_3_method_16_code 13 (some .long)).before args0 about = true := od1.code_of (by decide +kernel) start1.code150
theorem od1.code151 : (Jvm.Cond.code (⟨"Sequencepoint$Machine", "move", "(LSequencepoint$Node;JJ)J"⟩ : Jvm.MethodName) prog_3_method_18_code 7 (some .long)).before args0 about = true := od1.code_of (by decide +kernel) start1.code151
theorem od1.code152 : (Jvm.Cond.code (⟨"Sequencepoint$Memory", "faultOfMoving", "(JJ)C"⟩ : Jvm.MethodName) prog_4_method_12_code 8 (some .char)).before args0 about = true := od1.code_of (by decide +kernel) start1.code152
theorem od1.code153 : (Jvm.Cond.code (⟨"Sequencepoint$Numbers", "faultOf", "(CIJJ)C"⟩ : Jvm.MethodName) prog_6_method_8_code 9 (some .char)).before args0 about = true := od1.code_of (by decide +kernel) start1.code153
theorem od1.code154 : (Jvm.Cond.code (⟨"Sequencepoint$Numbers", "rawOf", "(CJJ)J"⟩ : Jvm.MethodName) prog_6_method_10_code 5 (some .long)).before args0 about = true := od1.code_of (by decide +kernel) start1.code154
theorem od1.code155 : (Jvm.Cond.code (⟨"Sequencepoint$Numbers", "resultOf", "(CIJJ)J"⟩ : Jvm.MethodName) prog_6_method_9_code 8 (some .long)).before args0 about = true := od1.code_of (by decide +kernel) start1.code155
set_option maxRecDepth 16384 in
theorem od1.codes_are_5 : tables_1_5.filter su_isCode = [Jvm.Cond.code (⟨"Sequencepoint", "repeat", "(II)I"⟩ : Jvm.MethodName) prog_1_method_19_code 5 (some .int),
    Jvm.Cond.code (⟨"Sequencepoint", "then", "(II)I"⟩ : Jvm.MethodName) prog_1_method_20_code 5 (some .int),
    Jvm.Cond.code (⟨"Sequencepoint", "block", "(I)I"⟩ : Jvm.MethodName) prog_1_method_21_code 3 (some .int),
    Jvm.Cond.code (⟨"Sequencepoint", "run", "(I)C"⟩ : Jvm.MethodName) prog_1_method_24_code 2 (some .char),
    Jvm.Cond.code (⟨"Sequencepoint", "refuseProgramWithoutStart", "()V"⟩ : Jvm.MethodName) prog_1_method_26_code 1 none,
    Jvm.Cond.code (⟨"Sequencepoint$Program", "canStart", "()Z"⟩ : Jvm.MethodName) prog_9_method_18_code 2 (some .boolean),
    Jvm.Cond.code (⟨"Sequencepoint", "refuseNegativeOrder", "(I)V"⟩ : Jvm.MethodName) prog_1_method_27_code 1 none,
    Jvm.Cond.code (⟨"Sequencepoint$Machine", "perform", "(LSequencepoint$Program;[LSequencepoint$Statement;ILSequencepoint$Outcome;)V"⟩ : Jvm.MethodName) prog_3_method_2_code 7 none,
    Jvm.Cond.code (⟨"Sequencepoint$Outcome", "clear", "()V"⟩ : Jvm.MethodName) prog_8_method_2_code 1 none,
    Jvm.Cond.code (⟨"Sequencepoint$Memory", "clear", "()V"⟩ : Jvm.MethodName) prog_4_method_2_code 1 none,
    Jvm.Cond.code (⟨"Sequencepoint$Machine", "openRow", "(I)V"⟩ : Jvm.MethodName) prog_3_method_21_code 4 none,
    Jvm.Cond.code (⟨"Sequencepoint$Machine", "bring", "(LSequencepoint$Variable;)V"⟩ : Jvm.MethodName) prog_3_method_24_code 3 none,
    Jvm.Cond.code (⟨"Sequencepoint$Machine", "slotOf", "(LSequencepoint$Variable;)I"⟩ : Jvm.MethodName) prog_3_method_22_code 3 (some .int),
    Jvm.Cond.code (⟨"Sequencepoint$Memory", "end", "(I)V"⟩ : Jvm.MethodName) prog_4_method_5_code 2 none,
    Jvm.Cond.code (⟨"Sequencepoint$Variable", "parts", "()I"⟩ : Jvm.MethodName) prog_12_method_3_code 1 (some .int),
    Jvm.Cond.code (⟨"Sequencepoint$Memory", "bear", "(I)I"⟩ : Jvm.MethodName) prog_4_method_4_code 3 (some .int),
    Jvm.Cond.code (⟨"Sequencepoint$Machine", "bodyOf", "(I)LSequencepoint$Statement;"⟩ : Jvm.MethodName) prog_3_method_3_code 2 (some (.object "Sequencepoint$Statement")),
    Jvm.Cond.code (⟨"Sequencepoint$Machine", "execute", "(LSequencepoint$Statement;)V"⟩ : Jvm.MethodName) prog_3_method_7_code 3 none,
    Jvm.Cond.code (⟨"Sequencepoint$Machine", "takeStep", "()Z"⟩ : Jvm.MethodName) prog_3_method_5_code 1 (some .boolean),
    Jvm.Cond.code (⟨"Sequencepoint$Machine", "isOver", "()Z"⟩ : Jvm.MethodName) prog_3_method_4_code 1 (some .boolean),
    Jvm.Cond.code (⟨"Sequencepoint$Machine", "evaluate", "(LSequencepoint$Node;)J"⟩ : Jvm.MethodName) prog_3_method_8_code 8 (some .long),
    Jvm.Cond.code (⟨"Sequencepoint$Memory", "logged", "()I"⟩ : Jvm.MethodName) prog_4_method_16_code 1 (some .int),
    Jvm.Cond.code (⟨"Sequencepoint$Node", "isChosen", "()Z"⟩ : Jvm.MethodName) prog_5_method_11_code 1 (some .boolean),
    Jvm.Cond.code (⟨"Sequencepoint$Node", "isUnsequenced", "()Z"⟩ : Jvm.MethodName) prog_5_method_10_code 1 (some .boolean),
    Jvm.Cond.code (⟨"Sequencepoint$Machine", "isSecondAhead", "()Z"⟩ : Jvm.MethodName) prog_3_method_10_code 2 (some .boolean),
    Jvm.Cond.code (⟨"Sequencepoint$Node", "firstToEvaluate", "()LSequencepoint$Node;"⟩ : Jvm.MethodName) prog_5_method_12_code 1 (some (.object "Sequencepoint$Node")),
    Jvm.Cond.code (⟨"Sequencepoint$Node", "takesPlace", "()Z"⟩ : Jvm.MethodName) prog_5_method_9_code 1 (some .boolean),
    Jvm.Cond.code (⟨"Sequencepoint$Node", "secondToEvaluate", "(J)LSequencepoint$Node;"⟩ : Jvm.MethodName) prog_5_method_13_code 3 (some (.object "Sequencepoint$Node")),
    Jvm.Cond.code (⟨"Sequencepoint$Node", "decides", "(J)Z"⟩ : Jvm.MethodName) prog_5_method_14_code 3 (some .boolean),
    Jvm.Cond.code (⟨"Sequencepoint$Memory", "isClash", "(II)Z"⟩ : Jvm.MethodName) prog_4_method_18_code 5 (some .boolean),
    Jvm.Cond.code (⟨"Sequencepoint$Machine", "fail", "(CLSequencepoint$Node;)J"⟩ : Jvm.MethodName) prog_3_method_6_code 3 (some .long),
    Jvm.Cond.code (⟨"Sequencepoint$Machine", "enter", "(LSequencepoint$Node;JJ)J"⟩ : Jvm.MethodName) prog_3_method_9_code 9 (some .long),
    Jvm.Cond.code (⟨"Sequencepoint$Memory", "lives", "()I"⟩ : Jvm.MethodName) prog_4_method_3_code 1 (some .int),
    Jvm.Cond.code (⟨"Sequencepoint$Machine", "bringWith", "(LSequencepoint$Variable;J)V"⟩ : Jvm.MethodName) prog_3_method_25_code 4 none,
    Jvm.Cond.code (⟨"Sequencepoint$Machine", "pointerTo", "(LSequencepoint$Variable;)J"⟩ : Jvm.MethodName) prog_3_method_23_code 3 (some .long),
    Jvm.Cond.code (⟨"Sequencepoint$Memory", "pointerTo", "(I)J"⟩ : Jvm.MethodName) prog_4_method_8_code 2 (some .long),
    Jvm.Cond.code (⟨"Sequencepoint$Machine", "converted", "(JI)J"⟩ : Jvm.MethodName) prog_3_method_17_code 3 (some .long),
    Jvm.Cond.code (⟨"Sequencepoint$Memory", "write", "(JJ)V"⟩ : Jvm.MethodName) prog_4_method_14_code 5 none,
    Jvm.Cond.code (⟨"Sequencepoint$Memory", "isCell", "(J)Z"⟩ : Jvm.MethodName) prog_4_method_7_code 3 (some .boolean),
    Jvm.Cond.code (⟨"Sequencepoint$Memory", "log", "(IZ)V"⟩ : Jvm.MethodName) prog_4_method_15_code 3 none,
    Jvm.Cond.code (⟨"Sequencepoint$Memory", "endSince", "(I)V"⟩ : Jvm.MethodName) prog_4_method_6_code 3 none,
    Jvm.Cond.code (⟨"Sequencepoint$Memory", "forgetSince", "(I)V"⟩ : Jvm.MethodName) prog_4_method_17_code 2 none,
    Jvm.Cond.code (⟨"Sequencepoint$Machine", "finishAtPlace", "(LSequencepoint$Node;JJI)J"⟩ : Jvm.MethodName) prog_3_method_15_code 17 (some .long),
    Jvm.Cond.code (⟨"Sequencepoint$Memory", "isLiving", "(J)Z"⟩ : Jvm.MethodName) prog_4_method_10_code 4 (some .boolean),
    Jvm.Cond.code (⟨"Sequencepoint$Memory", "lifeOf", "(J)I"⟩ : Jvm.MethodName) prog_4_method_9_code 3 (some .int),
    Jvm.Cond.code (⟨"Sequencepoint$Memory", "isWrittenSince", "(IJ)Z"⟩ : Jvm.MethodName) prog_4_method_19_code 5 (some .boolean),
    Jvm.Cond.code (⟨"Sequencepoint$Machine", "write", "(LSequencepoint$Node;JJ)J"⟩ : Jvm.MethodName) prog_3_method_20_code 7 (some .long),
    Jvm.Cond.code (⟨"Sequencepoint$Memory", "faultOfUsing", "(JZ)C"⟩ : Jvm.MethodName) prog_4_method_11_code 6 (some .char),
    Jvm.Cond.code (⟨"Sequencepoint$Machine", "read", "(LSequencepoint$Node;J)J"⟩ : Jvm.MethodName) prog_3_method_19_code 5 (some .long),
    Jvm.Cond.code (⟨"Sequencepoint$Memory", "read", "(J)J"⟩ : Jvm.MethodName) prog_4_method_13_code 3 (some .long),
    Jvm.Cond.code (⟨"Sequencepoint$Machine", "changed", "(LSequencepoint$Node;JJ)J"⟩ : Jvm.MethodName) prog_3_method_16_code 13 (some .long),
    Jvm.Cond.code (⟨"Sequencepoint$Machine", "move", "(LSequencepoint$Node;JJ)J"⟩ : Jvm.MethodName) prog_3_method_18_code 7 (some .long),
    Jvm.Cond.code (⟨"Sequencepoint$Memory", "faultOfMoving", "(JJ)C"⟩ : Jvm.MethodName) prog_4_method_12_code 8 (some .char),
    Jvm.Cond.code (⟨"Sequencepoint$Numbers", "faultOf", "(CIJJ)C"⟩ : Jvm.MethodName) prog_6_method_8_code 9 (some .char),
    Jvm.Cond.code (⟨"Sequencepoint$Numbers", "rawOf", "(CJJ)J"⟩ : Jvm.MethodName) prog_6_method_10_code 5 (some .long),
    Jvm.Cond.code (⟨"Sequencepoint$Numbers", "resultOf", "(CIJJ)J"⟩ : Jvm.MethodName) prog_6_method_9_code 8 (some .long)] := by
  first
  | rfl
  | simp only [tables_1_5, List.filter, su_isCode]
set_option maxRecDepth 16384 in
theorem od1.codes_hold_5 : ∀ c ∈ tables_1_5.filter su_isCode, c.before args0 about = true := by
  rw [codes_are_5]
  exact List.forall_mem_cons.mpr ⟨code100, List.forall_mem_cons.mpr ⟨code101, List.forall_mem_cons.mpr ⟨code102, List.forall_mem_cons.mpr ⟨code103, List.forall_mem_cons.mpr ⟨code104, List.forall_mem_cons.mpr ⟨code105, List.forall_mem_cons.mpr ⟨code106, List.forall_mem_cons.mpr ⟨code107, List.forall_mem_cons.mpr ⟨code108, List.forall_mem_cons.mpr ⟨code109, List.forall_mem_cons.mpr ⟨code110, List.forall_mem_cons.mpr ⟨code111, List.forall_mem_cons.mpr ⟨code112, List.forall_mem_cons.mpr ⟨code113, List.forall_mem_cons.mpr ⟨code114, List.forall_mem_cons.mpr ⟨code115, List.forall_mem_cons.mpr ⟨code116, List.forall_mem_cons.mpr ⟨code117, List.forall_mem_cons.mpr ⟨code118, List.forall_mem_cons.mpr ⟨code119, List.forall_mem_cons.mpr ⟨code120, List.forall_mem_cons.mpr ⟨code121, List.forall_mem_cons.mpr ⟨code122, List.forall_mem_cons.mpr ⟨code123, List.forall_mem_cons.mpr ⟨code124, List.forall_mem_cons.mpr ⟨code125, List.forall_mem_cons.mpr ⟨code126, List.forall_mem_cons.mpr ⟨code127, List.forall_mem_cons.mpr ⟨code128, List.forall_mem_cons.mpr ⟨code129, List.forall_mem_cons.mpr ⟨code130, List.forall_mem_cons.mpr ⟨code131, List.forall_mem_cons.mpr ⟨code132, List.forall_mem_cons.mpr ⟨code133, List.forall_mem_cons.mpr ⟨code134, List.forall_mem_cons.mpr ⟨code135, List.forall_mem_cons.mpr ⟨code136, List.forall_mem_cons.mpr ⟨code137, List.forall_mem_cons.mpr ⟨code138, List.forall_mem_cons.mpr ⟨code139, List.forall_mem_cons.mpr ⟨code140, List.forall_mem_cons.mpr ⟨code141, List.forall_mem_cons.mpr ⟨code142, List.forall_mem_cons.mpr ⟨code143, List.forall_mem_cons.mpr ⟨code144, List.forall_mem_cons.mpr ⟨code145, List.forall_mem_cons.mpr ⟨code146, List.forall_mem_cons.mpr ⟨code147, List.forall_mem_cons.mpr ⟨code148, List.forall_mem_cons.mpr ⟨code149, List.forall_mem_cons.mpr ⟨code150, List.forall_mem_cons.mpr ⟨code151, List.forall_mem_cons.mpr ⟨code152, List.forall_mem_cons.mpr ⟨code153, List.forall_mem_cons.mpr ⟨code154, List.forall_mem_cons.mpr ⟨code155, List.forall_mem_nil _⟩⟩⟩⟩⟩⟩⟩⟩⟩⟩⟩⟩⟩⟩⟩⟩⟩⟩⟩⟩⟩⟩⟩⟩⟩⟩⟩⟩⟩⟩⟩⟩⟩⟩⟩⟩⟩⟩⟩⟩⟩⟩⟩⟩⟩⟩⟩⟩⟩⟩⟩⟩⟩⟩⟩⟩
set_option maxRecDepth 100000 in
theorem od1.others_5_0 : (tables_1_5.take 120).all od1.chk = true := by decide +kernel
set_option maxRecDepth 100000 in
theorem od1.others_5_1 : (tables_1_5.drop 120).all od1.chk = true := by decide +kernel
theorem od1.others_hold_5 : tables_1_5.all (fun c => su_isCode c || c.before args0 about) = true := od1.from_chk start1.words_5 (od1.su_all_split _ 120 tables_1_5 od1.others_5_0 od1.others_5_1)
set_option maxRecDepth 16384 in
theorem od1.words_5 : ∀ c ∈ tables_1_5, c.before args0 about = true := fun c h => su_words others_hold_5 codes_hold_5 c h
theorem od1.code156 : (Jvm.Cond.code (⟨"Sequencepoint$Node", "isReckoned", "()Z"⟩ : Jvm.MethodName) prog_5_method_15_code 1 (some .boolean)).before args0 about = true := od1.code_of (by decide +kernel) start1.code156
theorem od1.code157 : (Jvm.Cond.code (⟨"Sequencepoint$Machine", "reckon", "(LSequencepoint$Node;JJ)J"⟩ : Jvm.MethodName) prog_3_method_11_code 7 (some .long)).before args0 about = true := od1.code_of (by decide +kernel) start1.code157
theorem od1.code158 : (Jvm.Cond.code (⟨"Sequencepoint$Node", "faultOf", "(JJ)C"⟩ : Jvm.MethodName) prog_5_method_18_code 6 (some .char)).before args0 about = true := od1.code_of (by decide +kernel) start1.code158
theorem od1.code159 : (Jvm.Cond.code (⟨"Sequencepoint$Node", "operandType", "()I"⟩ : Jvm.MethodName) prog_5_method_17_code 1 (some .int)).before args0 about = true := od1.code_of (by decide +kernel) start1.code159
theorem od1.code160 : (Jvm.Cond.code (⟨"Sequencepoint$Node", "isShift", "()Z"⟩ : Jvm.MethodName) prog_5_method_16_code 1 (some .boolean)).before args0 about = true := od1.code_of (by decide +kernel) start1.code160
theorem od1.code161 : (Jvm.Cond.code (⟨"Sequencepoint$Node", "resultOf", "(JJ)J"⟩ : Jvm.MethodName) prog_5_method_19_code 6 (some .long)).before args0 about = true := od1.code_of (by decide +kernel) start1.code161
theorem od1.code162 : (Jvm.Cond.code (⟨"Sequencepoint$Machine", "finish", "(LSequencepoint$Node;JJ)J"⟩ : Jvm.MethodName) prog_3_method_12_code 6 (some .long)).before args0 about = true := od1.code_of (by decide +kernel) start1.code162
theorem od1.code163 : (Jvm.Cond.code (⟨"Sequencepoint$Machine", "finishName", "(LSequencepoint$Node;J)J"⟩ : Jvm.MethodName) prog_3_method_13_code 4 (some .long)).before args0 about = true := od1.code_of (by decide +kernel) start1.code163
theorem od1.code164 : (Jvm.Cond.code (⟨"Sequencepoint$Machine", "finishBinary", "(LSequencepoint$Node;JJ)J"⟩ : Jvm.MethodName) prog_3_method_14_code 6 (some .long)).before args0 about = true := od1.code_of (by decide +kernel) start1.code164
theorem od1.code165 : (Jvm.Cond.code (⟨"Sequencepoint$Machine", "print", "(J)V"⟩ : Jvm.MethodName) prog_3_method_26_code 9 none).before args0 about = true := od1.code_of (by decide +kernel) start1.code165
theorem od1.code166 : (Jvm.Cond.code (⟨"Sequencepoint$Outcome", "print", "(C)V"⟩ : Jvm.MethodName) prog_8_method_4_code 2 none).before args0 about = true := od1.code_of (by decide +kernel) start1.code166
theorem od1.code167 : (Jvm.Cond.code (⟨"java/lang/Math", "abs", "(J)J"⟩ : Jvm.MethodName) prog_36_method_61_code 2 (some .long)).before args0 about = true := od1.code_of (by decide +kernel) start1.code167
theorem od1.code168 : (Jvm.Cond.code (⟨"Sequencepoint", "runOptimised", "(I)C"⟩ : Jvm.MethodName) prog_1_method_25_code 2 (some .char)).before args0 about = true := od1.code_of (by decide +kernel) start1.code168
theorem od1.code169 : (Jvm.Cond.code (⟨"Sequencepoint$Optimiser", "improve", "(LSequencepoint$Program;)V"⟩ : Jvm.MethodName) prog_7_method_2_code 3 none).before args0 about = true := od1.code_of (by decide +kernel) start1.code169
theorem od1.code170 : (Jvm.Cond.code (⟨"Sequencepoint$Optimiser", "markUsed", "(LSequencepoint$Program;)V"⟩ : Jvm.MethodName) prog_7_method_3_code 4 none).before args0 about = true := od1.code_of (by decide +kernel) start1.code170
theorem od1.code171 : (Jvm.Cond.code (⟨"Sequencepoint$Optimiser", "useStatement", "(LSequencepoint$Statement;)V"⟩ : Jvm.MethodName) prog_7_method_5_code 2 none).before args0 about = true := od1.code_of (by decide +kernel) start1.code171
theorem od1.code172 : (Jvm.Cond.code (⟨"Sequencepoint$Optimiser", "use", "(LSequencepoint$Node;)V"⟩ : Jvm.MethodName) prog_7_method_4_code 2 none).before args0 about = true := od1.code_of (by decide +kernel) start1.code172
theorem od1.code173 : (Jvm.Cond.code (⟨"Sequencepoint$Optimiser", "copyOf", "(LSequencepoint$Node;LSequencepoint$Node;)LSequencepoint$Node;"⟩ : Jvm.MethodName) prog_7_method_6_code 3 (some (.object "Sequencepoint$Node"))).before args0 about = true := od1.code_of (by decide +kernel) start1.code173
theorem od1.code174 : (Jvm.Cond.code (⟨"Sequencepoint$Node", "copyFrom", "(LSequencepoint$Node;)V"⟩ : Jvm.MethodName) prog_5_method_2_code 2 none).before args0 about = true := od1.code_of (by decide +kernel) start1.code174
theorem od1.code175 : (Jvm.Cond.code (⟨"Sequencepoint$Optimiser", "folded", "(LSequencepoint$Node;)LSequencepoint$Node;"⟩ : Jvm.MethodName) prog_7_method_8_code 2 (some (.object "Sequencepoint$Node"))).before args0 about = true := od1.code_of (by decide +kernel) start1.code175
theorem od1.code176 : (Jvm.Cond.code (⟨"Sequencepoint$Optimiser", "reduce", "(LSequencepoint$Node;)LSequencepoint$Node;"⟩ : Jvm.MethodName) prog_7_method_10_code 6 (some (.object "Sequencepoint$Node"))).before args0 about = true := od1.code_of (by decide +kernel) start1.code176
theorem od1.code177 : (Jvm.Cond.code (⟨"Sequencepoint$Node", "isTold", "(LSequencepoint$Node;)Z"⟩ : Jvm.MethodName) prog_5_method_7_code 1 (some .boolean)).before args0 about = true := od1.code_of (by decide +kernel) start1.code177
theorem od1.code178 : (Jvm.Cond.code (⟨"Sequencepoint$Optimiser", "take", "(LSequencepoint$Node;LSequencepoint$Node;)LSequencepoint$Node;"⟩ : Jvm.MethodName) prog_7_method_12_code 3 (some (.object "Sequencepoint$Node"))).before args0 about = true := od1.code_of (by decide +kernel) start1.code178
theorem od1.code179 : (Jvm.Cond.code (⟨"Sequencepoint$Optimiser", "tell", "(LSequencepoint$Node;J)LSequencepoint$Node;"⟩ : Jvm.MethodName) prog_7_method_11_code 4 (some (.object "Sequencepoint$Node"))).before args0 about = true := od1.code_of (by decide +kernel) start1.code179
theorem od1.code180 : (Jvm.Cond.code (⟨"Sequencepoint$Optimiser", "copyOfStatement", "(LSequencepoint$Statement;LSequencepoint$Statement;)LSequencepoint$Statement;"⟩ : Jvm.MethodName) prog_7_method_7_code 3 (some (.object "Sequencepoint$Statement"))).before args0 about = true := od1.code_of (by decide +kernel) start1.code180
theorem od1.code181 : (Jvm.Cond.code (⟨"Sequencepoint$Optimiser", "shortened", "(LSequencepoint$Statement;)LSequencepoint$Statement;"⟩ : Jvm.MethodName) prog_7_method_9_code 3 (some (.object "Sequencepoint$Statement"))).before args0 about = true := od1.code_of (by decide +kernel) start1.code181
theorem od1.code182 : (Jvm.Cond.code (⟨"Sequencepoint$Optimiser", "reduceStatement", "(LSequencepoint$Statement;)LSequencepoint$Statement;"⟩ : Jvm.MethodName) prog_7_method_13_code 4 (some (.object "Sequencepoint$Statement"))).before args0 about = true := od1.code_of (by decide +kernel) start1.code182
theorem od1.code183 : (Jvm.Cond.code (⟨"Sequencepoint$Optimiser", "shorten", "(LSequencepoint$Statement;)LSequencepoint$Statement;"⟩ : Jvm.MethodName) prog_7_method_14_code 2 (some (.object "Sequencepoint$Statement"))).before args0 about = true := od1.code_of (by decide +kernel) start1.code183
theorem od1.code184 : (Jvm.Cond.code (⟨"Sequencepoint", "kindOf", "()C"⟩ : Jvm.MethodName) prog_1_method_28_code 1 (some .char)).before args0 about = true := od1.code_of (by decide +kernel) start1.code184
theorem od1.code185 : (Jvm.Cond.code (⟨"Sequencepoint", "refuseRunWithMeaning", "()V"⟩ : Jvm.MethodName) prog_1_method_30_code 1 none).before args0 about = true := od1.code_of (by decide +kernel) start1.code185
theorem od1.code186 : (Jvm.Cond.code (⟨"java/util/NoSuchElementException", "<init>", "(Ljava/lang/String;)V"⟩ : Jvm.MethodName) prog_56_method_4_code 2 none).before args0 about = true := od1.code_of (by decide +kernel) start1.code186
theorem od1.code187 : (Jvm.Cond.code (⟨"Sequencepoint", "placeOf", "()I"⟩ : Jvm.MethodName) prog_1_method_29_code 1 (some .int)).before args0 about = true := od1.code_of (by decide +kernel) start1.code187
theorem od1.code188 : (Jvm.Cond.code (⟨"Sequencepoint", "printedAt", "(I)C"⟩ : Jvm.MethodName) prog_1_method_34_code 2 (some .char)).before args0 about = true := od1.code_of (by decide +kernel) start1.code188
theorem od1.code189 : (Jvm.Cond.code (⟨"Sequencepoint", "behaviours", "()I"⟩ : Jvm.MethodName) prog_1_method_35_code 3 (some .int)).before args0 about = true := od1.code_of (by decide +kernel) start1.code189
theorem od1.code190 : (Jvm.Cond.code (⟨"Sequencepoint", "gatherOutcomes", "()I"⟩ : Jvm.MethodName) prog_1_method_42_code 3 (some .int)).before args0 about = true := od1.code_of (by decide +kernel) start1.code190
theorem od1.code191 : (Jvm.Cond.code (⟨"Sequencepoint$Outcome", "copyFrom", "(LSequencepoint$Outcome;)V"⟩ : Jvm.MethodName) prog_8_method_3_code 3 none).before args0 about = true := od1.code_of (by decide +kernel) start1.code191
theorem od1.code192 : (Jvm.Cond.code (⟨"Sequencepoint", "isAmongFirst", "(ILSequencepoint$Outcome;)Z"⟩ : Jvm.MethodName) prog_1_method_43_code 4 (some .boolean)).before args0 about = true := od1.code_of (by decide +kernel) start1.code192
theorem od1.code193 : (Jvm.Cond.code (⟨"Sequencepoint$Outcome", "isSameBehaviour", "(LSequencepoint$Outcome;)Z"⟩ : Jvm.MethodName) prog_8_method_5_code 3 (some .boolean)).before args0 about = true := od1.code_of (by decide +kernel) start1.code193
theorem od1.code194 : (Jvm.Cond.code (⟨"Sequencepoint", "undefinedOrders", "()I"⟩ : Jvm.MethodName) prog_1_method_36_code 1 (some .int)).before args0 about = true := od1.code_of (by decide +kernel) start1.code194
theorem od1.code195 : (Jvm.Cond.code (⟨"Sequencepoint", "optimised", "()I"⟩ : Jvm.MethodName) prog_1_method_37_code 1 (some .int)).before args0 about = true := od1.code_of (by decide +kernel) start1.code195
theorem od1.code196 : (Jvm.Cond.code (⟨"Sequencepoint", "optimisedSize", "()I"⟩ : Jvm.MethodName) prog_1_method_38_code 1 (some .int)).before args0 about = true := od1.code_of (by decide +kernel) start1.code196
theorem od1.code197 : (Jvm.Cond.code (⟨"Sequencepoint", "isAsIf", "()Z"⟩ : Jvm.MethodName) prog_1_method_39_code 2 (some .boolean)).before args0 about = true := od1.code_of (by decide +kernel) start1.code197
theorem od1.code198 : (Jvm.Cond.code (⟨"Sequencepoint", "definedShare", "()F"⟩ : Jvm.MethodName) prog_1_method_40_code 1 (some .float)).before args0 about = true := od1.code_of (by decide +kernel) start1.code198
set_option maxRecDepth 16384 in
theorem od1.codes_are_6 : tables_1_6.filter su_isCode = [Jvm.Cond.code (⟨"Sequencepoint$Node", "isReckoned", "()Z"⟩ : Jvm.MethodName) prog_5_method_15_code 1 (some .boolean),
    Jvm.Cond.code (⟨"Sequencepoint$Machine", "reckon", "(LSequencepoint$Node;JJ)J"⟩ : Jvm.MethodName) prog_3_method_11_code 7 (some .long),
    Jvm.Cond.code (⟨"Sequencepoint$Node", "faultOf", "(JJ)C"⟩ : Jvm.MethodName) prog_5_method_18_code 6 (some .char),
    Jvm.Cond.code (⟨"Sequencepoint$Node", "operandType", "()I"⟩ : Jvm.MethodName) prog_5_method_17_code 1 (some .int),
    Jvm.Cond.code (⟨"Sequencepoint$Node", "isShift", "()Z"⟩ : Jvm.MethodName) prog_5_method_16_code 1 (some .boolean),
    Jvm.Cond.code (⟨"Sequencepoint$Node", "resultOf", "(JJ)J"⟩ : Jvm.MethodName) prog_5_method_19_code 6 (some .long),
    Jvm.Cond.code (⟨"Sequencepoint$Machine", "finish", "(LSequencepoint$Node;JJ)J"⟩ : Jvm.MethodName) prog_3_method_12_code 6 (some .long),
    Jvm.Cond.code (⟨"Sequencepoint$Machine", "finishName", "(LSequencepoint$Node;J)J"⟩ : Jvm.MethodName) prog_3_method_13_code 4 (some .long),
    Jvm.Cond.code (⟨"Sequencepoint$Machine", "finishBinary", "(LSequencepoint$Node;JJ)J"⟩ : Jvm.MethodName) prog_3_method_14_code 6 (some .long),
    Jvm.Cond.code (⟨"Sequencepoint$Machine", "print", "(J)V"⟩ : Jvm.MethodName) prog_3_method_26_code 9 none,
    Jvm.Cond.code (⟨"Sequencepoint$Outcome", "print", "(C)V"⟩ : Jvm.MethodName) prog_8_method_4_code 2 none,
    Jvm.Cond.code (⟨"java/lang/Math", "abs", "(J)J"⟩ : Jvm.MethodName) prog_36_method_61_code 2 (some .long),
    Jvm.Cond.code (⟨"Sequencepoint", "runOptimised", "(I)C"⟩ : Jvm.MethodName) prog_1_method_25_code 2 (some .char),
    Jvm.Cond.code (⟨"Sequencepoint$Optimiser", "improve", "(LSequencepoint$Program;)V"⟩ : Jvm.MethodName) prog_7_method_2_code 3 none,
    Jvm.Cond.code (⟨"Sequencepoint$Optimiser", "markUsed", "(LSequencepoint$Program;)V"⟩ : Jvm.MethodName) prog_7_method_3_code 4 none,
    Jvm.Cond.code (⟨"Sequencepoint$Optimiser", "useStatement", "(LSequencepoint$Statement;)V"⟩ : Jvm.MethodName) prog_7_method_5_code 2 none,
    Jvm.Cond.code (⟨"Sequencepoint$Optimiser", "use", "(LSequencepoint$Node;)V"⟩ : Jvm.MethodName) prog_7_method_4_code 2 none,
    Jvm.Cond.code (⟨"Sequencepoint$Optimiser", "copyOf", "(LSequencepoint$Node;LSequencepoint$Node;)LSequencepoint$Node;"⟩ : Jvm.MethodName) prog_7_method_6_code 3 (some (.object "Sequencepoint$Node")),
    Jvm.Cond.code (⟨"Sequencepoint$Node", "copyFrom", "(LSequencepoint$Node;)V"⟩ : Jvm.MethodName) prog_5_method_2_code 2 none,
    Jvm.Cond.code (⟨"Sequencepoint$Optimiser", "folded", "(LSequencepoint$Node;)LSequencepoint$Node;"⟩ : Jvm.MethodName) prog_7_method_8_code 2 (some (.object "Sequencepoint$Node")),
    Jvm.Cond.code (⟨"Sequencepoint$Optimiser", "reduce", "(LSequencepoint$Node;)LSequencepoint$Node;"⟩ : Jvm.MethodName) prog_7_method_10_code 6 (some (.object "Sequencepoint$Node")),
    Jvm.Cond.code (⟨"Sequencepoint$Node", "isTold", "(LSequencepoint$Node;)Z"⟩ : Jvm.MethodName) prog_5_method_7_code 1 (some .boolean),
    Jvm.Cond.code (⟨"Sequencepoint$Optimiser", "take", "(LSequencepoint$Node;LSequencepoint$Node;)LSequencepoint$Node;"⟩ : Jvm.MethodName) prog_7_method_12_code 3 (some (.object "Sequencepoint$Node")),
    Jvm.Cond.code (⟨"Sequencepoint$Optimiser", "tell", "(LSequencepoint$Node;J)LSequencepoint$Node;"⟩ : Jvm.MethodName) prog_7_method_11_code 4 (some (.object "Sequencepoint$Node")),
    Jvm.Cond.code (⟨"Sequencepoint$Optimiser", "copyOfStatement", "(LSequencepoint$Statement;LSequencepoint$Statement;)LSequencepoint$Statement;"⟩ : Jvm.MethodName) prog_7_method_7_code 3 (some (.object "Sequencepoint$Statement")),
    Jvm.Cond.code (⟨"Sequencepoint$Optimiser", "shortened", "(LSequencepoint$Statement;)LSequencepoint$Statement;"⟩ : Jvm.MethodName) prog_7_method_9_code 3 (some (.object "Sequencepoint$Statement")),
    Jvm.Cond.code (⟨"Sequencepoint$Optimiser", "reduceStatement", "(LSequencepoint$Statement;)LSequencepoint$Statement;"⟩ : Jvm.MethodName) prog_7_method_13_code 4 (some (.object "Sequencepoint$Statement")),
    Jvm.Cond.code (⟨"Sequencepoint$Optimiser", "shorten", "(LSequencepoint$Statement;)LSequencepoint$Statement;"⟩ : Jvm.MethodName) prog_7_method_14_code 2 (some (.object "Sequencepoint$Statement")),
    Jvm.Cond.code (⟨"Sequencepoint", "kindOf", "()C"⟩ : Jvm.MethodName) prog_1_method_28_code 1 (some .char),
    Jvm.Cond.code (⟨"Sequencepoint", "refuseRunWithMeaning", "()V"⟩ : Jvm.MethodName) prog_1_method_30_code 1 none,
    Jvm.Cond.code (⟨"java/util/NoSuchElementException", "<init>", "(Ljava/lang/String;)V"⟩ : Jvm.MethodName) prog_56_method_4_code 2 none,
    Jvm.Cond.code (⟨"Sequencepoint", "placeOf", "()I"⟩ : Jvm.MethodName) prog_1_method_29_code 1 (some .int),
    Jvm.Cond.code (⟨"Sequencepoint", "printedAt", "(I)C"⟩ : Jvm.MethodName) prog_1_method_34_code 2 (some .char),
    Jvm.Cond.code (⟨"Sequencepoint", "behaviours", "()I"⟩ : Jvm.MethodName) prog_1_method_35_code 3 (some .int),
    Jvm.Cond.code (⟨"Sequencepoint", "gatherOutcomes", "()I"⟩ : Jvm.MethodName) prog_1_method_42_code 3 (some .int),
    Jvm.Cond.code (⟨"Sequencepoint$Outcome", "copyFrom", "(LSequencepoint$Outcome;)V"⟩ : Jvm.MethodName) prog_8_method_3_code 3 none,
    Jvm.Cond.code (⟨"Sequencepoint", "isAmongFirst", "(ILSequencepoint$Outcome;)Z"⟩ : Jvm.MethodName) prog_1_method_43_code 4 (some .boolean),
    Jvm.Cond.code (⟨"Sequencepoint$Outcome", "isSameBehaviour", "(LSequencepoint$Outcome;)Z"⟩ : Jvm.MethodName) prog_8_method_5_code 3 (some .boolean),
    Jvm.Cond.code (⟨"Sequencepoint", "undefinedOrders", "()I"⟩ : Jvm.MethodName) prog_1_method_36_code 1 (some .int),
    Jvm.Cond.code (⟨"Sequencepoint", "optimised", "()I"⟩ : Jvm.MethodName) prog_1_method_37_code 1 (some .int),
    Jvm.Cond.code (⟨"Sequencepoint", "optimisedSize", "()I"⟩ : Jvm.MethodName) prog_1_method_38_code 1 (some .int),
    Jvm.Cond.code (⟨"Sequencepoint", "isAsIf", "()Z"⟩ : Jvm.MethodName) prog_1_method_39_code 2 (some .boolean),
    Jvm.Cond.code (⟨"Sequencepoint", "definedShare", "()F"⟩ : Jvm.MethodName) prog_1_method_40_code 1 (some .float)] := by
  first
  | rfl
  | simp only [tables_1_6, List.filter, su_isCode]
set_option maxRecDepth 16384 in
theorem od1.codes_hold_6 : ∀ c ∈ tables_1_6.filter su_isCode, c.before args0 about = true := by
  rw [codes_are_6]
  exact List.forall_mem_cons.mpr ⟨code156, List.forall_mem_cons.mpr ⟨code157, List.forall_mem_cons.mpr ⟨code158, List.forall_mem_cons.mpr ⟨code159, List.forall_mem_cons.mpr ⟨code160, List.forall_mem_cons.mpr ⟨code161, List.forall_mem_cons.mpr ⟨code162, List.forall_mem_cons.mpr ⟨code163, List.forall_mem_cons.mpr ⟨code164, List.forall_mem_cons.mpr ⟨code165, List.forall_mem_cons.mpr ⟨code166, List.forall_mem_cons.mpr ⟨code167, List.forall_mem_cons.mpr ⟨code168, List.forall_mem_cons.mpr ⟨code169, List.forall_mem_cons.mpr ⟨code170, List.forall_mem_cons.mpr ⟨code171, List.forall_mem_cons.mpr ⟨code172, List.forall_mem_cons.mpr ⟨code173, List.forall_mem_cons.mpr ⟨code174, List.forall_mem_cons.mpr ⟨code175, List.forall_mem_cons.mpr ⟨code176, List.forall_mem_cons.mpr ⟨code177, List.forall_mem_cons.mpr ⟨code178, List.forall_mem_cons.mpr ⟨code179, List.forall_mem_cons.mpr ⟨code180, List.forall_mem_cons.mpr ⟨code181, List.forall_mem_cons.mpr ⟨code182, List.forall_mem_cons.mpr ⟨code183, List.forall_mem_cons.mpr ⟨code184, List.forall_mem_cons.mpr ⟨code185, List.forall_mem_cons.mpr ⟨code186, List.forall_mem_cons.mpr ⟨code187, List.forall_mem_cons.mpr ⟨code188, List.forall_mem_cons.mpr ⟨code189, List.forall_mem_cons.mpr ⟨code190, List.forall_mem_cons.mpr ⟨code191, List.forall_mem_cons.mpr ⟨code192, List.forall_mem_cons.mpr ⟨code193, List.forall_mem_cons.mpr ⟨code194, List.forall_mem_cons.mpr ⟨code195, List.forall_mem_cons.mpr ⟨code196, List.forall_mem_cons.mpr ⟨code197, List.forall_mem_cons.mpr ⟨code198, List.forall_mem_nil _⟩⟩⟩⟩⟩⟩⟩⟩⟩⟩⟩⟩⟩⟩⟩⟩⟩⟩⟩⟩⟩⟩⟩⟩⟩⟩⟩⟩⟩⟩⟩⟩⟩⟩⟩⟩⟩⟩⟩⟩⟩⟩⟩
set_option maxRecDepth 100000 in
theorem od1.others_6_0 : (tables_1_6.take 120).all od1.chk = true := by decide +kernel
set_option maxRecDepth 100000 in
theorem od1.others_6_1 : (tables_1_6.drop 120).all od1.chk = true := by decide +kernel
theorem od1.others_hold_6 : tables_1_6.all (fun c => su_isCode c || c.before args0 about) = true := od1.from_chk start1.words_6 (od1.su_all_split _ 120 tables_1_6 od1.others_6_0 od1.others_6_1)
set_option maxRecDepth 16384 in
theorem od1.words_6 : ∀ c ∈ tables_1_6, c.before args0 about = true := fun c h => su_words others_hold_6 codes_hold_6 c h
theorem od1.code199 : (Jvm.Cond.code (⟨"SequencepointModel", "<init>", "()V"⟩ : Jvm.MethodName) prog_14_method_1_code 1 none).before args0 about = true := od1.code_of (by decide +kernel) start1.code199
theorem od1.code200 : (Jvm.Cond.code (⟨"SequencepointModel", "thrown", "()I"⟩ : Jvm.MethodName) prog_14_method_2_code 1 (some .int)).before args0 about = true := od1.code_of (by decide +kernel) start1.code200
theorem od1.code201 : (Jvm.Cond.code (⟨"SequencepointModel", "addVariable", "(IIZ)I"⟩ : Jvm.MethodName) prog_14_method_14_code 4 (some .int)).before args0 about = true := od1.code_of (by decide +kernel) start1.code201
theorem od1.code202 : (Jvm.Cond.code (⟨"SequencepointModel", "isType", "(I)Z"⟩ : Jvm.MethodName) prog_14_method_7_code 1 (some .boolean)).before args0 about = true := od1.code_of (by decide +kernel) start1.code202
theorem od1.code203 : (Jvm.Cond.code (⟨"SequencepointModel", "isNumber", "(I)Z"⟩ : Jvm.MethodName) prog_14_method_5_code 1 (some .boolean)).before args0 about = true := od1.code_of (by decide +kernel) start1.code203
theorem od1.code204 : (Jvm.Cond.code (⟨"SequencepointModel", "isIn", "(III)Z"⟩ : Jvm.MethodName) prog_14_method_3_code 3 (some .boolean)).before args0 about = true := od1.code_of (by decide +kernel) start1.code204
theorem od1.code205 : (Jvm.Cond.code (⟨"SequencepointModel", "isPointer", "(I)Z"⟩ : Jvm.MethodName) prog_14_method_6_code 1 (some .boolean)).before args0 about = true := od1.code_of (by decide +kernel) start1.code205
theorem od1.code206 : (Jvm.Cond.code (⟨"SequencepointModel", "isThrown", "(ZI)Z"⟩ : Jvm.MethodName) prog_14_method_4_code 3 (some .boolean)).before args0 about = true := od1.code_of (by decide +kernel) start1.code206
theorem od1.code207 : (Jvm.Cond.code (⟨"SequencepointModel", "addFunction", "(III)I"⟩ : Jvm.MethodName) prog_14_method_16_code 4 (some .int)).before args0 about = true := od1.code_of (by decide +kernel) start1.code207
theorem od1.code208 : (Jvm.Cond.code (⟨"SequencepointModel", "isNoParameter", "(I)Z"⟩ : Jvm.MethodName) prog_14_method_15_code 2 (some .boolean)).before args0 about = true := od1.code_of (by decide +kernel) start1.code208
theorem od1.code209 : (Jvm.Cond.code (⟨"SequencepointModel", "setBody", "(II)I"⟩ : Jvm.MethodName) prog_14_method_17_code 9 (some .int)).before args0 about = true := od1.code_of (by decide +kernel) start1.code209
theorem od1.code210 : (Jvm.Cond.code (⟨"SequencepointModel", "number", "(II)I"⟩ : Jvm.MethodName) prog_14_method_19_code 4 (some .int)).before args0 about = true := od1.code_of (by decide +kernel) start1.code210
theorem od1.code211 : (Jvm.Cond.code (⟨"SequencepointModel", "holds", "(IJ)Z"⟩ : Jvm.MethodName) prog_14_method_10_code 5 (some .boolean)).before args0 about = true := od1.code_of (by decide +kernel) start1.code211
theorem od1.code212 : (Jvm.Cond.code (⟨"SequencepointModel", "bits", "(I)I"⟩ : Jvm.MethodName) prog_14_method_9_code 1 (some .int)).before args0 about = true := od1.code_of (by decide +kernel) start1.code212
theorem od1.code213 : (Jvm.Cond.code (⟨"SequencepointModel", "isSigned", "(I)Z"⟩ : Jvm.MethodName) prog_14_method_8_code 1 (some .boolean)).before args0 about = true := od1.code_of (by decide +kernel) start1.code213
theorem od1.code214 : (Jvm.Cond.code (⟨"SequencepointModel$Node", "<init>", "(ICI[LSequencepointModel$Node;)V"⟩ : Jvm.MethodName) prog_17_method_1_code 9 none).before args0 about = true := od1.code_of (by decide +kernel) start1.code214
theorem od1.code215 : (Jvm.Cond.code (⟨"SequencepointModel", "added", "(LSequencepointModel$Node;)I"⟩ : Jvm.MethodName) prog_14_method_18_code 6 (some .int)).before args0 about = true := od1.code_of (by decide +kernel) start1.code215
theorem od1.code216 : (Jvm.Cond.code (⟨"SequencepointModel", "name", "(I)I"⟩ : Jvm.MethodName) prog_14_method_20_code 4 (some .int)).before args0 about = true := od1.code_of (by decide +kernel) start1.code216
theorem od1.code217 : (Jvm.Cond.code (⟨"SequencepointModel", "unary", "(CI)I"⟩ : Jvm.MethodName) prog_14_method_24_code 6 (some .int)).before args0 about = true := od1.code_of (by decide +kernel) start1.code217
theorem od1.code218 : (Jvm.Cond.code (⟨"SequencepointModel", "isOneOf", "(Ljava/lang/CharSequence;C)Z"⟩ : Jvm.MethodName) prog_14_method_23_code 4 (some .boolean)).before args0 about = true := od1.code_of (by decide +kernel) start1.code218
theorem od1.code219 : (Jvm.Cond.code (⟨"java/lang/StringBuilder", "length", "()I"⟩ : Jvm.MethodName) prog_40_method_93_code 1 (some .int)).before args0 about = true := od1.code_of (by decide +kernel) start1.code219
theorem od1.code220 : (Jvm.Cond.code (⟨"java/lang/AbstractStringBuilder", "length", "()I"⟩ : Jvm.MethodName) prog_22_method_6_code 1 (some .int)).before args0 about = true := od1.code_of (by decide +kernel) start1.code220
theorem od1.code221 : (Jvm.Cond.code (⟨"java/lang/StringBuilder", "charAt", "(I)C"⟩ : Jvm.MethodName) prog_40_method_88_code 2 (some .char)).before args0 about = true := od1.code_of (by decide +kernel) start1.code221
theorem od1.code222 : (Jvm.Cond.code (⟨"java/lang/AbstractStringBuilder", "charAt", "(I)C"⟩ : Jvm.MethodName) prog_22_method_14_code 5 (some .char)).before args0 about = true := od1.code_of (by decide +kernel) start1.code222
set_option maxRecDepth 16384 in
theorem od1.code223 : (Jvm.Cond.code (⟨"java/lang/String", "checkIndex", "(II)V"⟩ : Jvm.MethodName) prog_39_method_155_code 2 none).before args0 about = true :=
  su_hand_word (m := ⟨40, 5⟩) (by decide +kernel) rfl (by decide +kernel) (by decide +kernel)
theorem od1.code224 : (Jvm.Cond.code (⟨"jdk/internal/util/Preconditions", "checkIndex", "(IILjava/util/function/BiFunction;)I"⟩ : Jvm.MethodName) prog_61_method_11_code 3 (some .int)).before args0 about = true := od1.code_of (by decide +kernel) start1.code224
theorem od1.code225 : (Jvm.Cond.code (⟨"SequencepointModel", "isNoNode", "(I)Z"⟩ : Jvm.MethodName) prog_14_method_21_code 2 (some .boolean)).before args0 about = true := od1.code_of (by decide +kernel) start1.code225
theorem od1.code226 : (Jvm.Cond.code (⟨"SequencepointModel$Node", "isPlace", "()Z"⟩ : Jvm.MethodName) prog_17_method_2_code 1 (some .boolean)).before args0 about = true := od1.code_of (by decide +kernel) start1.code226
theorem od1.code227 : (Jvm.Cond.code (⟨"SequencepointModel", "areFree", "([LSequencepointModel$Node;)Z"⟩ : Jvm.MethodName) prog_14_method_22_code 5 (some .boolean)).before args0 about = true := od1.code_of (by decide +kernel) start1.code227
theorem od1.code228 : (Jvm.Cond.code (⟨"SequencepointModel", "promoted", "(I)I"⟩ : Jvm.MethodName) prog_14_method_12_code 1 (some .int)).before args0 about = true := od1.code_of (by decide +kernel) start1.code228
theorem od1.code229 : (Jvm.Cond.code (⟨"SequencepointModel", "cast", "(II)I"⟩ : Jvm.MethodName) prog_14_method_25_code 3 (some .int)).before args0 about = true := od1.code_of (by decide +kernel) start1.code229
theorem od1.code230 : (Jvm.Cond.code (⟨"SequencepointModel", "binary", "(CII)I"⟩ : Jvm.MethodName) prog_14_method_27_code 5 (some .int)).before args0 about = true := od1.code_of (by decide +kernel) start1.code230
theorem od1.code231 : (Jvm.Cond.code (⟨"SequencepointModel", "fitting", "(CII)I"⟩ : Jvm.MethodName) prog_14_method_26_code 4 (some .int)).before args0 about = true := od1.code_of (by decide +kernel) start1.code231
set_option maxRecDepth 16384 in
theorem od1.codes_are_7 : tables_1_7.filter su_isCode = [Jvm.Cond.code (⟨"SequencepointModel", "<init>", "()V"⟩ : Jvm.MethodName) prog_14_method_1_code 1 none,
    Jvm.Cond.code (⟨"SequencepointModel", "thrown", "()I"⟩ : Jvm.MethodName) prog_14_method_2_code 1 (some .int),
    Jvm.Cond.code (⟨"SequencepointModel", "addVariable", "(IIZ)I"⟩ : Jvm.MethodName) prog_14_method_14_code 4 (some .int),
    Jvm.Cond.code (⟨"SequencepointModel", "isType", "(I)Z"⟩ : Jvm.MethodName) prog_14_method_7_code 1 (some .boolean),
    Jvm.Cond.code (⟨"SequencepointModel", "isNumber", "(I)Z"⟩ : Jvm.MethodName) prog_14_method_5_code 1 (some .boolean),
    Jvm.Cond.code (⟨"SequencepointModel", "isIn", "(III)Z"⟩ : Jvm.MethodName) prog_14_method_3_code 3 (some .boolean),
    Jvm.Cond.code (⟨"SequencepointModel", "isPointer", "(I)Z"⟩ : Jvm.MethodName) prog_14_method_6_code 1 (some .boolean),
    Jvm.Cond.code (⟨"SequencepointModel", "isThrown", "(ZI)Z"⟩ : Jvm.MethodName) prog_14_method_4_code 3 (some .boolean),
    Jvm.Cond.code (⟨"SequencepointModel", "addFunction", "(III)I"⟩ : Jvm.MethodName) prog_14_method_16_code 4 (some .int),
    Jvm.Cond.code (⟨"SequencepointModel", "isNoParameter", "(I)Z"⟩ : Jvm.MethodName) prog_14_method_15_code 2 (some .boolean),
    Jvm.Cond.code (⟨"SequencepointModel", "setBody", "(II)I"⟩ : Jvm.MethodName) prog_14_method_17_code 9 (some .int),
    Jvm.Cond.code (⟨"SequencepointModel", "number", "(II)I"⟩ : Jvm.MethodName) prog_14_method_19_code 4 (some .int),
    Jvm.Cond.code (⟨"SequencepointModel", "holds", "(IJ)Z"⟩ : Jvm.MethodName) prog_14_method_10_code 5 (some .boolean),
    Jvm.Cond.code (⟨"SequencepointModel", "bits", "(I)I"⟩ : Jvm.MethodName) prog_14_method_9_code 1 (some .int),
    Jvm.Cond.code (⟨"SequencepointModel", "isSigned", "(I)Z"⟩ : Jvm.MethodName) prog_14_method_8_code 1 (some .boolean),
    Jvm.Cond.code (⟨"SequencepointModel$Node", "<init>", "(ICI[LSequencepointModel$Node;)V"⟩ : Jvm.MethodName) prog_17_method_1_code 9 none,
    Jvm.Cond.code (⟨"SequencepointModel", "added", "(LSequencepointModel$Node;)I"⟩ : Jvm.MethodName) prog_14_method_18_code 6 (some .int),
    Jvm.Cond.code (⟨"SequencepointModel", "name", "(I)I"⟩ : Jvm.MethodName) prog_14_method_20_code 4 (some .int),
    Jvm.Cond.code (⟨"SequencepointModel", "unary", "(CI)I"⟩ : Jvm.MethodName) prog_14_method_24_code 6 (some .int),
    Jvm.Cond.code (⟨"SequencepointModel", "isOneOf", "(Ljava/lang/CharSequence;C)Z"⟩ : Jvm.MethodName) prog_14_method_23_code 4 (some .boolean),
    Jvm.Cond.code (⟨"java/lang/StringBuilder", "length", "()I"⟩ : Jvm.MethodName) prog_40_method_93_code 1 (some .int),
    Jvm.Cond.code (⟨"java/lang/AbstractStringBuilder", "length", "()I"⟩ : Jvm.MethodName) prog_22_method_6_code 1 (some .int),
    Jvm.Cond.code (⟨"java/lang/StringBuilder", "charAt", "(I)C"⟩ : Jvm.MethodName) prog_40_method_88_code 2 (some .char),
    Jvm.Cond.code (⟨"java/lang/AbstractStringBuilder", "charAt", "(I)C"⟩ : Jvm.MethodName) prog_22_method_14_code 5 (some .char),
    Jvm.Cond.code (⟨"java/lang/String", "checkIndex", "(II)V"⟩ : Jvm.MethodName) prog_39_method_155_code 2 none,
    Jvm.Cond.code (⟨"jdk/internal/util/Preconditions", "checkIndex", "(IILjava/util/function/BiFunction;)I"⟩ : Jvm.MethodName) prog_61_method_11_code 3 (some .int),
    Jvm.Cond.code (⟨"SequencepointModel", "isNoNode", "(I)Z"⟩ : Jvm.MethodName) prog_14_method_21_code 2 (some .boolean),
    Jvm.Cond.code (⟨"SequencepointModel$Node", "isPlace", "()Z"⟩ : Jvm.MethodName) prog_17_method_2_code 1 (some .boolean),
    Jvm.Cond.code (⟨"SequencepointModel", "areFree", "([LSequencepointModel$Node;)Z"⟩ : Jvm.MethodName) prog_14_method_22_code 5 (some .boolean),
    Jvm.Cond.code (⟨"SequencepointModel", "promoted", "(I)I"⟩ : Jvm.MethodName) prog_14_method_12_code 1 (some .int),
    Jvm.Cond.code (⟨"SequencepointModel", "cast", "(II)I"⟩ : Jvm.MethodName) prog_14_method_25_code 3 (some .int),
    Jvm.Cond.code (⟨"SequencepointModel", "binary", "(CII)I"⟩ : Jvm.MethodName) prog_14_method_27_code 5 (some .int),
    Jvm.Cond.code (⟨"SequencepointModel", "fitting", "(CII)I"⟩ : Jvm.MethodName) prog_14_method_26_code 4 (some .int)] := by
  first
  | rfl
  | simp only [tables_1_7, List.filter, su_isCode]
set_option maxRecDepth 16384 in
theorem od1.codes_hold_7 : ∀ c ∈ tables_1_7.filter su_isCode, c.before args0 about = true := by
  rw [codes_are_7]
  exact List.forall_mem_cons.mpr ⟨code199, List.forall_mem_cons.mpr ⟨code200, List.forall_mem_cons.mpr ⟨code201, List.forall_mem_cons.mpr ⟨code202, List.forall_mem_cons.mpr ⟨code203, List.forall_mem_cons.mpr ⟨code204, List.forall_mem_cons.mpr ⟨code205, List.forall_mem_cons.mpr ⟨code206, List.forall_mem_cons.mpr ⟨code207, List.forall_mem_cons.mpr ⟨code208, List.forall_mem_cons.mpr ⟨code209, List.forall_mem_cons.mpr ⟨code210, List.forall_mem_cons.mpr ⟨code211, List.forall_mem_cons.mpr ⟨code212, List.forall_mem_cons.mpr ⟨code213, List.forall_mem_cons.mpr ⟨code214, List.forall_mem_cons.mpr ⟨code215, List.forall_mem_cons.mpr ⟨code216, List.forall_mem_cons.mpr ⟨code217, List.forall_mem_cons.mpr ⟨code218, List.forall_mem_cons.mpr ⟨code219, List.forall_mem_cons.mpr ⟨code220, List.forall_mem_cons.mpr ⟨code221, List.forall_mem_cons.mpr ⟨code222, List.forall_mem_cons.mpr ⟨code223, List.forall_mem_cons.mpr ⟨code224, List.forall_mem_cons.mpr ⟨code225, List.forall_mem_cons.mpr ⟨code226, List.forall_mem_cons.mpr ⟨code227, List.forall_mem_cons.mpr ⟨code228, List.forall_mem_cons.mpr ⟨code229, List.forall_mem_cons.mpr ⟨code230, List.forall_mem_cons.mpr ⟨code231, List.forall_mem_nil _⟩⟩⟩⟩⟩⟩⟩⟩⟩⟩⟩⟩⟩⟩⟩⟩⟩⟩⟩⟩⟩⟩⟩⟩⟩⟩⟩⟩⟩⟩⟩⟩⟩
set_option maxRecDepth 100000 in
theorem od1.others_7_0 : (tables_1_7.take 120).all od1.chk = true := by decide +kernel
set_option maxRecDepth 100000 in
theorem od1.others_7_1 : ((tables_1_7.drop 120).take 120).all od1.chk = true := by decide +kernel
set_option maxRecDepth 100000 in
theorem od1.others_7_2 : ((tables_1_7.drop 120).drop 120).all od1.chk = true := by decide +kernel
theorem od1.others_hold_7 : tables_1_7.all (fun c => su_isCode c || c.before args0 about) = true := od1.from_chk start1.words_7 (od1.su_all_split _ 120 tables_1_7 od1.others_7_0 (od1.su_all_split _ 120 (tables_1_7.drop 120) od1.others_7_1 od1.others_7_2))
set_option maxRecDepth 16384 in
theorem od1.words_7 : ∀ c ∈ tables_1_7, c.before args0 about = true := fun c h => su_words others_hold_7 codes_hold_7 c h
theorem od1.code232 : (Jvm.Cond.code (⟨"SequencepointModel", "common", "(II)I"⟩ : Jvm.MethodName) prog_14_method_13_code 4 (some .int)).before args0 about = true := od1.code_of (by decide +kernel) start1.code232
theorem od1.code233 : (Jvm.Cond.code (⟨"SequencepointModel", "choose", "(III)I"⟩ : Jvm.MethodName) prog_14_method_28_code 7 (some .int)).before args0 about = true := od1.code_of (by decide +kernel) start1.code233
theorem od1.code234 : (Jvm.Cond.code (⟨"SequencepointModel", "assign", "(CII)I"⟩ : Jvm.MethodName) prog_14_method_29_code 7 (some .int)).before args0 about = true := od1.code_of (by decide +kernel) start1.code234
theorem od1.code235 : (Jvm.Cond.code (⟨"SequencepointModel", "call", "(III)I"⟩ : Jvm.MethodName) prog_14_method_31_code 8 (some .int)).before args0 about = true := od1.code_of (by decide +kernel) start1.code235
theorem od1.code236 : (Jvm.Cond.code (⟨"SequencepointModel", "fitsParameter", "(II)Z"⟩ : Jvm.MethodName) prog_14_method_30_code 3 (some .boolean)).before args0 about = true := od1.code_of (by decide +kernel) start1.code236
theorem od1.code237 : (Jvm.Cond.code (⟨"SequencepointModel", "typeOf", "(I)I"⟩ : Jvm.MethodName) prog_14_method_32_code 2 (some .int)).before args0 about = true := od1.code_of (by decide +kernel) start1.code237
