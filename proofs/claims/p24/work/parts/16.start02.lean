set_option maxRecDepth 16384 in
theorem od1.code131 : (Jvm.Cond.code (⟨"Sequencepoint$Machine", "enter", "(LSequencepoint$Node;JJ)J"⟩ : Jvm.MethodName) prog_3_method_9_code 9 (some .long)).before args0 about = true :=
  su_hand_word (m := ⟨7, 8⟩) (by decide +kernel) rfl (by decide +kernel) (by decide +kernel)
set_option maxRecDepth 16384 in
theorem od1.code132 : (Jvm.Cond.code (⟨"Sequencepoint$Memory", "lives", "()I"⟩ : Jvm.MethodName) prog_4_method_3_code 1 (some .int)).before args0 about = true :=
  su_hand_word (m := ⟨8, 2⟩) (by decide +kernel) rfl (by decide +kernel) (by decide +kernel)
set_option maxRecDepth 16384 in
theorem od1.code133 : (Jvm.Cond.code (⟨"Sequencepoint$Machine", "bringWith", "(LSequencepoint$Variable;J)V"⟩ : Jvm.MethodName) prog_3_method_25_code 4 none).before args0 about = true :=
  su_hand_word (m := ⟨7, 24⟩) (by decide +kernel) rfl (by decide +kernel) (by decide +kernel)
set_option maxRecDepth 16384 in
theorem od1.code134 : (Jvm.Cond.code (⟨"Sequencepoint$Machine", "pointerTo", "(LSequencepoint$Variable;)J"⟩ : Jvm.MethodName) prog_3_method_23_code 3 (some .long)).before args0 about = true :=
  su_hand_word (m := ⟨7, 22⟩) (by decide +kernel) rfl (by decide +kernel) (by decide +kernel)
set_option maxRecDepth 16384 in
theorem od1.code135 : (Jvm.Cond.code (⟨"Sequencepoint$Memory", "pointerTo", "(I)J"⟩ : Jvm.MethodName) prog_4_method_8_code 2 (some .long)).before args0 about = true :=
  su_hand_word (m := ⟨8, 7⟩) (by decide +kernel) rfl (by decide +kernel) (by decide +kernel)
set_option maxRecDepth 16384 in
theorem od1.code136 : (Jvm.Cond.code (⟨"Sequencepoint$Machine", "converted", "(JI)J"⟩ : Jvm.MethodName) prog_3_method_17_code 3 (some .long)).before args0 about = true :=
  su_hand_word (m := ⟨7, 16⟩) (by decide +kernel) rfl (by decide +kernel) (by decide +kernel)
set_option maxRecDepth 16384 in
theorem od1.code137 : (Jvm.Cond.code (⟨"Sequencepoint$Memory", "write", "(JJ)V"⟩ : Jvm.MethodName) prog_4_method_14_code 5 none).before args0 about = true :=
  su_hand_word (m := ⟨8, 13⟩) (by decide +kernel) rfl (by decide +kernel) (by decide +kernel)
set_option maxRecDepth 16384 in
theorem od1.code138 : (Jvm.Cond.code (⟨"Sequencepoint$Memory", "isCell", "(J)Z"⟩ : Jvm.MethodName) prog_4_method_7_code 3 (some .boolean)).before args0 about = true :=
  su_hand_word (m := ⟨8, 6⟩) (by decide +kernel) rfl (by decide +kernel) (by decide +kernel)
set_option maxRecDepth 16384 in
theorem od1.code139 : (Jvm.Cond.code (⟨"Sequencepoint$Memory", "log", "(IZ)V"⟩ : Jvm.MethodName) prog_4_method_15_code 3 none).before args0 about = true :=
  su_hand_word (m := ⟨8, 14⟩) (by decide +kernel) rfl (by decide +kernel) (by decide +kernel)
set_option maxRecDepth 16384 in
theorem od1.code140 : (Jvm.Cond.code (⟨"Sequencepoint$Memory", "endSince", "(I)V"⟩ : Jvm.MethodName) prog_4_method_6_code 3 none).before args0 about = true :=
  su_hand_word (m := ⟨8, 5⟩) (by decide +kernel) rfl (by decide +kernel) (by decide +kernel)
set_option maxRecDepth 16384 in
theorem od1.code141 : (Jvm.Cond.code (⟨"Sequencepoint$Memory", "forgetSince", "(I)V"⟩ : Jvm.MethodName) prog_4_method_17_code 2 none).before args0 about = true :=
  su_hand_word (m := ⟨8, 16⟩) (by decide +kernel) rfl (by decide +kernel) (by decide +kernel)
set_option maxRecDepth 16384 in
theorem od1.code142 : (Jvm.Cond.code (⟨"Sequencepoint$Machine", "finishAtPlace", "(LSequencepoint$Node;JJI)J"⟩ : Jvm.MethodName) prog_3_method_15_code 17 (some .long)).before args0 about = true :=
  su_hand_word (m := ⟨7, 14⟩) (by decide +kernel) rfl (by decide +kernel) (by decide +kernel)
set_option maxRecDepth 16384 in
theorem od1.code143 : (Jvm.Cond.code (⟨"Sequencepoint$Memory", "isLiving", "(J)Z"⟩ : Jvm.MethodName) prog_4_method_10_code 4 (some .boolean)).before args0 about = true :=
  su_hand_word (m := ⟨8, 9⟩) (by decide +kernel) rfl (by decide +kernel) (by decide +kernel)
set_option maxRecDepth 16384 in
theorem od1.code144 : (Jvm.Cond.code (⟨"Sequencepoint$Memory", "lifeOf", "(J)I"⟩ : Jvm.MethodName) prog_4_method_9_code 3 (some .int)).before args0 about = true :=
  su_hand_word (m := ⟨8, 8⟩) (by decide +kernel) rfl (by decide +kernel) (by decide +kernel)
set_option maxRecDepth 16384 in
theorem od1.code145 : (Jvm.Cond.code (⟨"Sequencepoint$Memory", "isWrittenSince", "(IJ)Z"⟩ : Jvm.MethodName) prog_4_method_19_code 5 (some .boolean)).before args0 about = true :=
  su_hand_word (m := ⟨8, 18⟩) (by decide +kernel) rfl (by decide +kernel) (by decide +kernel)
set_option maxRecDepth 16384 in
theorem od1.code146 : (Jvm.Cond.code (⟨"Sequencepoint$Machine", "write", "(LSequencepoint$Node;JJ)J"⟩ : Jvm.MethodName) prog_3_method_20_code 7 (some .long)).before args0 about = true :=
  su_hand_word (m := ⟨7, 19⟩) (by decide +kernel) rfl (by decide +kernel) (by decide +kernel)
set_option maxRecDepth 16384 in
theorem od1.code147 : (Jvm.Cond.code (⟨"Sequencepoint$Memory", "faultOfUsing", "(JZ)C"⟩ : Jvm.MethodName) prog_4_method_11_code 6 (some .char)).before args0 about = true :=
  su_hand_word (m := ⟨8, 10⟩) (by decide +kernel) rfl (by decide +kernel) (by decide +kernel)
set_option maxRecDepth 16384 in
theorem od1.code148 : (Jvm.Cond.code (⟨"Sequencepoint$Machine", "read", "(LSequencepoint$Node;J)J"⟩ : Jvm.MethodName) prog_3_method_19_code 5 (some .long)).before args0 about = true :=
  su_hand_word (m := ⟨7, 18⟩) (by decide +kernel) rfl (by decide +kernel) (by decide +kernel)
set_option maxRecDepth 16384 in
theorem od1.code149 : (Jvm.Cond.code (⟨"Sequencepoint$Memory", "read", "(J)J"⟩ : Jvm.MethodName) prog_4_method_13_code 3 (some .long)).before args0 about = true :=
  su_hand_word (m := ⟨8, 12⟩) (by decide +kernel) rfl (by decide +kernel) (by decide +kernel)
set_option maxRecDepth 16384 in
theorem od1.code150 : (Jvm.Cond.code (⟨"Sequencepoint$Machine", "changed", "(LSequencepoint$Node;JJ)J"⟩ : Jvm.MethodName) prog_3_method_16_code 13 (some .long)).before args0 about = true :=
  su_hand_word (m := ⟨7, 15⟩) (by decide +kernel) rfl (by decide +kernel) (by decide +kernel)
set_option maxRecDepth 16384 in
theorem od1.code151 : (Jvm.Cond.code (⟨"Sequencepoint$Machine", "move", "(LSequencepoint$Node;JJ)J"⟩ : Jvm.MethodName) prog_3_method_18_code 7 (some .long)).before args0 about = true :=
  su_hand_word (m := ⟨7, 17⟩) (by decide +kernel) rfl (by decide +kernel) (by decide +kernel)
set_option maxRecDepth 16384 in
theorem od1.code152 : (Jvm.Cond.code (⟨"Sequencepoint$Memory", "faultOfMoving", "(JJ)C"⟩ : Jvm.MethodName) prog_4_method_12_code 8 (some .char)).before args0 about = true :=
  su_hand_word (m := ⟨8, 11⟩) (by decide +kernel) rfl (by decide +kernel) (by decide +kernel)
set_option maxRecDepth 16384 in
theorem od1.code153 : (Jvm.Cond.code (⟨"Sequencepoint$Numbers", "faultOf", "(CIJJ)C"⟩ : Jvm.MethodName) prog_6_method_8_code 9 (some .char)).before args0 about = true :=
  su_hand_word (m := ⟨11, 6⟩) (by decide +kernel) rfl (by decide +kernel) (by decide +kernel)
set_option maxRecDepth 16384 in
theorem od1.code154 : (Jvm.Cond.code (⟨"Sequencepoint$Numbers", "rawOf", "(CJJ)J"⟩ : Jvm.MethodName) prog_6_method_10_code 5 (some .long)).before args0 about = true :=
  su_hand_word (m := ⟨11, 8⟩) (by decide +kernel) rfl (by decide +kernel) (by decide +kernel)
set_option maxRecDepth 16384 in
theorem od1.code155 : (Jvm.Cond.code (⟨"Sequencepoint$Numbers", "resultOf", "(CIJJ)J"⟩ : Jvm.MethodName) prog_6_method_9_code 8 (some .long)).before args0 about = true :=
  su_hand_word (m := ⟨11, 7⟩) (by decide +kernel) rfl (by decide +kernel) (by decide +kernel)
set_option maxRecDepth 16384 in
theorem od1.codes_are_5 : tables_1_5.filter su_isCode = [Jvm.Cond.code (⟨"Sequencepoint", "repeat", "(II)I"⟩ : Jvm.MethodName) prog_1_method_19_code 5 (some .int),
    Jvm.Cond.code (⟨"Sequencepoint", "then", "(II)I"⟩ : Jvm.MethodName) prog_1_method_20_code 5 (some .int),
    Jvm.Cond.code (⟨"Sequencepoint", "block", "(I)I"⟩ : Jvm.MethodName) prog_1_method_21_code 3 (some .int),
    Jvm.Cond.code (⟨"Sequencepoint", "run", "(I)C"⟩ : Jvm.MethodName) prog_1_method_24_code 2 (some .char),
    Jvm.Cond.code (⟨"Sequencepoint", "refuseProgramWithoutStart", "()V"⟩ : Jvm.MethodName) prog_1_method_26_code 1 none,
    Jvm.Cond.code (⟨"Sequencepoint$Program", "canStart", "()Z"⟩ : Jvm.MethodName) prog_9_method_18_code 2 (some .boolean),
    Jvm.Cond.code (⟨"Sequencepoint", "refuseNegativeOrder", "(I)V"⟩ : Jvm.MethodName) prog_1_method_27_code 1 none,
    Jvm.Cond.code (⟨"Sequencepoint$Machine", "perform", "(LSequencepoint$Program;[LSequencepoint$Statement;ILSequencepoint$Outcome;)V"⟩ : Jvm.MethodName) prog_3_method_2_code 7 none,
    Jvm.Cond.code (⟨"Sequencepoint$Outcome", "clear", "()V"⟩ : Jvm.MethodName) prog_8_method_2_code 1 none,
    Jvm.Cond.code (⟨"Sequencepoint$Memory", "clear", "()V"⟩ : Jvm.MethodName) prog_4_method_2_code 1 none,
    Jvm.Cond.code (⟨"Sequencepoint$Machine", "openRow", "(I)V"⟩ : Jvm.MethodName) prog_3_method_21_code 4 none,
    Jvm.Cond.code (⟨"Sequencepoint$Machine", "bring", "(LSequencepoint$Variable;)V"⟩ : Jvm.MethodName) prog_3_method_24_code 3 none,
    Jvm.Cond.code (⟨"Sequencepoint$Machine", "slotOf", "(LSequencepoint$Variable;)I"⟩ : Jvm.MethodName) prog_3_method_22_code 3 (some .int),
    Jvm.Cond.code (⟨"Sequencepoint$Memory", "end", "(I)V"⟩ : Jvm.MethodName) prog_4_method_5_code 2 none,
    Jvm.Cond.code (⟨"Sequencepoint$Variable", "parts", "()I"⟩ : Jvm.MethodName) prog_12_method_3_code 1 (some .int),
    Jvm.Cond.code (⟨"Sequencepoint$Memory", "bear", "(I)I"⟩ : Jvm.MethodName) prog_4_method_4_code 3 (some .int),
    Jvm.Cond.code (⟨"Sequencepoint$Machine", "bodyOf", "(I)LSequencepoint$Statement;"⟩ : Jvm.MethodName) prog_3_method_3_code 2 (some (.object "Sequencepoint$Statement")),
    Jvm.Cond.code (⟨"Sequencepoint$Machine", "execute", "(LSequencepoint$Statement;)V"⟩ : Jvm.MethodName) prog_3_method_7_code 3 none,
    Jvm.Cond.code (⟨"Sequencepoint$Machine", "takeStep", "()Z"⟩ : Jvm.MethodName) prog_3_method_5_code 1 (some .boolean),
    Jvm.Cond.code (⟨"Sequencepoint$Machine", "isOver", "()Z"⟩ : Jvm.MethodName) prog_3_method_4_code 1 (some .boolean),
    Jvm.Cond.code (⟨"Sequencepoint$Machine", "evaluate", "(LSequencepoint$Node;)J"⟩ : Jvm.MethodName) prog_3_method_8_code 8 (some .long),
    Jvm.Cond.code (⟨"Sequencepoint$Memory", "logged", "()I"⟩ : Jvm.MethodName) prog_4_method_16_code 1 (some .int),
    Jvm.Cond.code (⟨"Sequencepoint$Node", "isChosen", "()Z"⟩ : Jvm.MethodName) prog_5_method_11_code 1 (some .boolean),
    Jvm.Cond.code (⟨"Sequencepoint$Node", "isUnsequenced", "()Z"⟩ : Jvm.MethodName) prog_5_method_10_code 1 (some .boolean),
    Jvm.Cond.code (⟨"Sequencepoint$Machine", "isSecondAhead", "()Z"⟩ : Jvm.MethodName) prog_3_method_10_code 2 (some .boolean),
    Jvm.Cond.code (⟨"Sequencepoint$Node", "firstToEvaluate", "()LSequencepoint$Node;"⟩ : Jvm.MethodName) prog_5_method_12_code 1 (some (.object "Sequencepoint$Node")),
    Jvm.Cond.code (⟨"Sequencepoint$Node", "takesPlace", "()Z"⟩ : Jvm.MethodName) prog_5_method_9_code 1 (some .boolean),
    Jvm.Cond.code (⟨"Sequencepoint$Node", "secondToEvaluate", "(J)LSequencepoint$Node;"⟩ : Jvm.MethodName) prog_5_method_13_code 3 (some (.object "Sequencepoint$Node")),
    Jvm.Cond.code (⟨"Sequencepoint$Node", "decides", "(J)Z"⟩ : Jvm.MethodName) prog_5_method_14_code 3 (some .boolean),
    Jvm.Cond.code (⟨"Sequencepoint$Memory", "isClash", "(II)Z"⟩ : Jvm.MethodName) prog_4_method_18_code 5 (some .boolean),
    Jvm.Cond.code (⟨"Sequencepoint$Machine", "fail", "(CLSequencepoint$Node;)J"⟩ : Jvm.MethodName) prog_3_method_6_code 3 (some .long),
    Jvm.Cond.code (⟨"Sequencepoint$Machine", "enter", "(LSequencepoint$Node;JJ)J"⟩ : Jvm.MethodName) prog_3_method_9_code 9 (some .long),
    Jvm.Cond.code (⟨"Sequencepoint$Memory", "lives", "()I"⟩ : Jvm.MethodName) prog_4_method_3_code 1 (some .int),
    Jvm.Cond.code (⟨"Sequencepoint$Machine", "bringWith", "(LSequencepoint$Variable;J)V"⟩ : Jvm.MethodName) prog_3_method_25_code 4 none,
    Jvm.Cond.code (⟨"Sequencepoint$Machine", "pointerTo", "(LSequencepoint$Variable;)J"⟩ : Jvm.MethodName) prog_3_method_23_code 3 (some .long),
    Jvm.Cond.code (⟨"Sequencepoint$Memory", "pointerTo", "(I)J"⟩ : Jvm.MethodName) prog_4_method_8_code 2 (some .long),
    Jvm.Cond.code (⟨"Sequencepoint$Machine", "converted", "(JI)J"⟩ : Jvm.MethodName) prog_3_method_17_code 3 (some .long),
    Jvm.Cond.code (⟨"Sequencepoint$Memory", "write", "(JJ)V"⟩ : Jvm.MethodName) prog_4_method_14_code 5 none,
    Jvm.Cond.code (⟨"Sequencepoint$Memory", "isCell", "(J)Z"⟩ : Jvm.MethodName) prog_4_method_7_code 3 (some .boolean),
    Jvm.Cond.code (⟨"Sequencepoint$Memory", "log", "(IZ)V"⟩ : Jvm.MethodName) prog_4_method_15_code 3 none,
    Jvm.Cond.code (⟨"Sequencepoint$Memory", "endSince", "(I)V"⟩ : Jvm.MethodName) prog_4_method_6_code 3 none,
    Jvm.Cond.code (⟨"Sequencepoint$Memory", "forgetSince", "(I)V"⟩ : Jvm.MethodName) prog_4_method_17_code 2 none,
    Jvm.Cond.code (⟨"Sequencepoint$Machine", "finishAtPlace", "(LSequencepoint$Node;JJI)J"⟩ : Jvm.MethodName) prog_3_method_15_code 17 (some .long),
    Jvm.Cond.code (⟨"Sequencepoint$Memory", "isLiving", "(J)Z"⟩ : Jvm.MethodName) prog_4_method_10_code 4 (some .boolean),
    Jvm.Cond.code (⟨"Sequencepoint$Memory", "lifeOf", "(J)I"⟩ : Jvm.MethodName) prog_4_method_9_code 3 (some .int),
    Jvm.Cond.code (⟨"Sequencepoint$Memory", "isWrittenSince", "(IJ)Z"⟩ : Jvm.MethodName) prog_4_method_19_code 5 (some .boolean),
    Jvm.Cond.code (⟨"Sequencepoint$Machine", "write", "(LSequencepoint$Node;JJ)J"⟩ : Jvm.MethodName) prog_3_method_20_code 7 (some .long),
    Jvm.Cond.code (⟨"Sequencepoint$Memory", "faultOfUsing", "(JZ)C"⟩ : Jvm.MethodName) prog_4_method_11_code 6 (some .char),
    Jvm.Cond.code (⟨"Sequencepoint$Machine", "read", "(LSequencepoint$Node;J)J"⟩ : Jvm.MethodName) prog_3_method_19_code 5 (some .long),
    Jvm.Cond.code (⟨"Sequencepoint$Memory", "read", "(J)J"⟩ : Jvm.MethodName) prog_4_method_13_code 3 (some .long),
    Jvm.Cond.code (⟨"Sequencepoint$Machine", "changed", "(LSequencepoint$Node;JJ)J"⟩ : Jvm.MethodName) prog_3_method_16_code 13 (some .long),
    Jvm.Cond.code (⟨"Sequencepoint$Machine", "move", "(LSequencepoint$Node;JJ)J"⟩ : Jvm.MethodName) prog_3_method_18_code 7 (some .long),
    Jvm.Cond.code (⟨"Sequencepoint$Memory", "faultOfMoving", "(JJ)C"⟩ : Jvm.MethodName) prog_4_method_12_code 8 (some .char),
    Jvm.Cond.code (⟨"Sequencepoint$Numbers", "faultOf", "(CIJJ)C"⟩ : Jvm.MethodName) prog_6_method_8_code 9 (some .char),
    Jvm.Cond.code (⟨"Sequencepoint$Numbers", "rawOf", "(CJJ)J"⟩ : Jvm.MethodName) prog_6_method_10_code 5 (some .long),
    Jvm.Cond.code (⟨"Sequencepoint$Numbers", "resultOf", "(CIJJ)J"⟩ : Jvm.MethodName) prog_6_method_9_code 8 (some .long)] := by
  first
  | rfl
  | simp only [tables_1_5, List.filter, su_isCode]
set_option maxRecDepth 16384 in
theorem od1.codes_hold_5 : ∀ c ∈ tables_1_5.filter su_isCode, c.before args0 about = true := by
  rw [codes_are_5]
  exact List.forall_mem_cons.mpr ⟨code100, List.forall_mem_cons.mpr ⟨code101, List.forall_mem_cons.mpr ⟨code102, List.forall_mem_cons.mpr ⟨code103, List.forall_mem_cons.mpr ⟨code104, List.forall_mem_cons.mpr ⟨code105, List.forall_mem_cons.mpr ⟨code106, List.forall_mem_cons.mpr ⟨code107, List.forall_mem_cons.mpr ⟨code108, List.forall_mem_cons.mpr ⟨code109, List.forall_mem_cons.mpr ⟨code110, List.forall_mem_cons.mpr ⟨code111, List.forall_mem_cons.mpr ⟨code112, List.forall_mem_cons.mpr ⟨code113, List.forall_mem_cons.mpr ⟨code114, List.forall_mem_cons.mpr ⟨code115, List.forall_mem_cons.mpr ⟨code116, List.forall_mem_cons.mpr ⟨code117, List.forall_mem_cons.mpr ⟨code118, List.forall_mem_cons.mpr ⟨code119, List.forall_mem_cons.mpr ⟨code120, List.forall_mem_cons.mpr ⟨code121, List.forall_mem_cons.mpr ⟨code122, List.forall_mem_cons.mpr ⟨code123, List.forall_mem_cons.mpr ⟨code124, List.forall_mem_cons.mpr ⟨code125, List.forall_mem_cons.mpr ⟨code126, List.forall_mem_cons.mpr ⟨code127, List.forall_mem_cons.mpr ⟨code128, List.forall_mem_cons.mpr ⟨code129, List.forall_mem_cons.mpr ⟨code130, List.forall_mem_cons.mpr ⟨code131, List.forall_mem_cons.mpr ⟨code132, List.forall_mem_cons.mpr ⟨code133, List.forall_mem_cons.mpr ⟨code134, List.forall_mem_cons.mpr ⟨code135, List.forall_mem_cons.mpr ⟨code136, List.forall_mem_cons.mpr ⟨code137, List.forall_mem_cons.mpr ⟨code138, List.forall_mem_cons.mpr ⟨code139, List.forall_mem_cons.mpr ⟨code140, List.forall_mem_cons.mpr ⟨code141, List.forall_mem_cons.mpr ⟨code142, List.forall_mem_cons.mpr ⟨code143, List.forall_mem_cons.mpr ⟨code144, List.forall_mem_cons.mpr ⟨code145, List.forall_mem_cons.mpr ⟨code146, List.forall_mem_cons.mpr ⟨code147, List.forall_mem_cons.mpr ⟨code148, List.forall_mem_cons.mpr ⟨code149, List.forall_mem_cons.mpr ⟨code150, List.forall_mem_cons.mpr ⟨code151, List.forall_mem_cons.mpr ⟨code152, List.forall_mem_cons.mpr ⟨code153, List.forall_mem_cons.mpr ⟨code154, List.forall_mem_cons.mpr ⟨code155, List.forall_mem_nil _⟩⟩⟩⟩⟩⟩⟩⟩⟩⟩⟩⟩⟩⟩⟩⟩⟩⟩⟩⟩⟩⟩⟩⟩⟩⟩⟩⟩⟩⟩⟩⟩⟩⟩⟩⟩⟩⟩⟩⟩⟩⟩⟩⟩⟩⟩⟩⟩⟩⟩⟩⟩⟩⟩⟩⟩
set_option maxRecDepth 16384 in
theorem od1.others_5_0 : (tables_1_5.take 40).all (fun c => su_isCode c || c.before args0 about) = true := by decide +kernel
set_option maxRecDepth 16384 in
theorem od1.others_5_1 : ((tables_1_5.drop 40).take 40).all (fun c => su_isCode c || c.before args0 about) = true := by decide +kernel
set_option maxRecDepth 16384 in
theorem od1.others_5_2 : (((tables_1_5.drop 40).drop 40).take 40).all (fun c => su_isCode c || c.before args0 about) = true := by decide +kernel
set_option maxRecDepth 16384 in
theorem od1.others_5_3 : ((((tables_1_5.drop 40).drop 40).drop 40).take 40).all (fun c => su_isCode c || c.before args0 about) = true := by decide +kernel
set_option maxRecDepth 16384 in
theorem od1.others_5_4 : (((((tables_1_5.drop 40).drop 40).drop 40).drop 40).take 40).all (fun c => su_isCode c || c.before args0 about) = true := by decide +kernel
set_option maxRecDepth 16384 in
theorem od1.others_5_5 : (((((tables_1_5.drop 40).drop 40).drop 40).drop 40).drop 40).all (fun c => su_isCode c || c.before args0 about) = true := by decide +kernel
set_option maxRecDepth 16384 in
theorem od1.others_hold_5 : tables_1_5.all (fun c => su_isCode c || c.before args0 about) = true := su_all_split _ 40 tables_1_5 others_5_0 (su_all_split _ 40 (tables_1_5.drop 40) others_5_1 (su_all_split _ 40 ((tables_1_5.drop 40).drop 40) others_5_2 (su_all_split _ 40 (((tables_1_5.drop 40).drop 40).drop 40) others_5_3 (su_all_split _ 40 ((((tables_1_5.drop 40).drop 40).drop 40).drop 40) others_5_4 others_5_5))))
set_option maxRecDepth 16384 in
theorem od1.words_5 : ∀ c ∈ tables_1_5, c.before args0 about = true := fun c h => su_words others_hold_5 codes_hold_5 c h
set_option maxRecDepth 16384 in
theorem od1.code156 : (Jvm.Cond.code (⟨"Sequencepoint$Node", "isReckoned", "()Z"⟩ : Jvm.MethodName) prog_5_method_15_code 1 (some .boolean)).before args0 about = true :=
  su_hand_word (m := ⟨5, 14⟩) (by decide +kernel) rfl (by decide +kernel) (by decide +kernel)
set_option maxRecDepth 16384 in
theorem od1.code157 : (Jvm.Cond.code (⟨"Sequencepoint$Machine", "reckon", "(LSequencepoint$Node;JJ)J"⟩ : Jvm.MethodName) prog_3_method_11_code 7 (some .long)).before args0 about = true :=
  su_hand_word (m := ⟨7, 10⟩) (by decide +kernel) rfl (by decide +kernel) (by decide +kernel)
set_option maxRecDepth 16384 in
theorem od1.code158 : (Jvm.Cond.code (⟨"Sequencepoint$Node", "faultOf", "(JJ)C"⟩ : Jvm.MethodName) prog_5_method_18_code 6 (some .char)).before args0 about = true :=
  su_hand_word (m := ⟨5, 17⟩) (by decide +kernel) rfl (by decide +kernel) (by decide +kernel)
set_option maxRecDepth 16384 in
theorem od1.code159 : (Jvm.Cond.code (⟨"Sequencepoint$Node", "operandType", "()I"⟩ : Jvm.MethodName) prog_5_method_17_code 1 (some .int)).before args0 about = true :=
  su_hand_word (m := ⟨5, 16⟩) (by decide +kernel) rfl (by decide +kernel) (by decide +kernel)
set_option maxRecDepth 16384 in
theorem od1.code160 : (Jvm.Cond.code (⟨"Sequencepoint$Node", "isShift", "()Z"⟩ : Jvm.MethodName) prog_5_method_16_code 1 (some .boolean)).before args0 about = true :=
  su_hand_word (m := ⟨5, 15⟩) (by decide +kernel) rfl (by decide +kernel) (by decide +kernel)
set_option maxRecDepth 16384 in
theorem od1.code161 : (Jvm.Cond.code (⟨"Sequencepoint$Node", "resultOf", "(JJ)J"⟩ : Jvm.MethodName) prog_5_method_19_code 6 (some .long)).before args0 about = true :=
  su_hand_word (m := ⟨5, 18⟩) (by decide +kernel) rfl (by decide +kernel) (by decide +kernel)
set_option maxRecDepth 16384 in
theorem od1.code162 : (Jvm.Cond.code (⟨"Sequencepoint$Machine", "finish", "(LSequencepoint$Node;JJ)J"⟩ : Jvm.MethodName) prog_3_method_12_code 6 (some .long)).before args0 about = true :=
  su_hand_word (m := ⟨7, 11⟩) (by decide +kernel) rfl (by decide +kernel) (by decide +kernel)
set_option maxRecDepth 16384 in
theorem od1.code163 : (Jvm.Cond.code (⟨"Sequencepoint$Machine", "finishName", "(LSequencepoint$Node;J)J"⟩ : Jvm.MethodName) prog_3_method_13_code 4 (some .long)).before args0 about = true :=
  su_hand_word (m := ⟨7, 12⟩) (by decide +kernel) rfl (by decide +kernel) (by decide +kernel)
set_option maxRecDepth 16384 in
theorem od1.code164 : (Jvm.Cond.code (⟨"Sequencepoint$Machine", "finishBinary", "(LSequencepoint$Node;JJ)J"⟩ : Jvm.MethodName) prog_3_method_14_code 6 (some .long)).before args0 about = true :=
  su_hand_word (m := ⟨7, 13⟩) (by decide +kernel) rfl (by decide +kernel) (by decide +kernel)
set_option maxRecDepth 16384 in
theorem od1.code165 : (Jvm.Cond.code (⟨"Sequencepoint$Machine", "print", "(J)V"⟩ : Jvm.MethodName) prog_3_method_26_code 9 none).before args0 about = true :=
  su_hand_word (m := ⟨7, 25⟩) (by decide +kernel) rfl (by decide +kernel) (by decide +kernel)
set_option maxRecDepth 16384 in
theorem od1.code166 : (Jvm.Cond.code (⟨"Sequencepoint$Outcome", "print", "(C)V"⟩ : Jvm.MethodName) prog_8_method_4_code 2 none).before args0 about = true :=
  su_hand_word (m := ⟨9, 3⟩) (by decide +kernel) rfl (by decide +kernel) (by decide +kernel)
set_option maxRecDepth 16384 in
theorem od1.code167 : (Jvm.Cond.code (⟨"java/lang/Math", "abs", "(J)J"⟩ : Jvm.MethodName) prog_36_method_61_code 2 (some .long)).before args0 about = true :=
  su_hand_word (m := ⟨14, 0⟩) (by decide +kernel) rfl (by decide +kernel) (by decide +kernel)
set_option maxRecDepth 16384 in
theorem od1.code168 : (Jvm.Cond.code (⟨"Sequencepoint", "runOptimised", "(I)C"⟩ : Jvm.MethodName) prog_1_method_25_code 2 (some .char)).before args0 about = true :=
  su_hand_word (m := ⟨2, 24⟩) (by decide +kernel) rfl (by decide +kernel) (by decide +kernel)
set_option maxRecDepth 16384 in
theorem od1.code169 : (Jvm.Cond.code (⟨"Sequencepoint$Optimiser", "improve", "(LSequencepoint$Program;)V"⟩ : Jvm.MethodName) prog_7_method_2_code 3 none).before args0 about = true :=
  su_hand_word (m := ⟨4, 1⟩) (by decide +kernel) rfl (by decide +kernel) (by decide +kernel)
set_option maxRecDepth 16384 in
theorem od1.code170 : (Jvm.Cond.code (⟨"Sequencepoint$Optimiser", "markUsed", "(LSequencepoint$Program;)V"⟩ : Jvm.MethodName) prog_7_method_3_code 4 none).before args0 about = true :=
  su_hand_word (m := ⟨4, 2⟩) (by decide +kernel) rfl (by decide +kernel) (by decide +kernel)
set_option maxRecDepth 16384 in
theorem od1.code171 : (Jvm.Cond.code (⟨"Sequencepoint$Optimiser", "useStatement", "(LSequencepoint$Statement;)V"⟩ : Jvm.MethodName) prog_7_method_5_code 2 none).before args0 about = true :=
  su_hand_word (m := ⟨4, 4⟩) (by decide +kernel) rfl (by decide +kernel) (by decide +kernel)
set_option maxRecDepth 16384 in
theorem od1.code172 : (Jvm.Cond.code (⟨"Sequencepoint$Optimiser", "use", "(LSequencepoint$Node;)V"⟩ : Jvm.MethodName) prog_7_method_4_code 2 none).before args0 about = true :=
  su_hand_word (m := ⟨4, 3⟩) (by decide +kernel) rfl (by decide +kernel) (by decide +kernel)
set_option maxRecDepth 16384 in
theorem od1.code173 : (Jvm.Cond.code (⟨"Sequencepoint$Optimiser", "copyOf", "(LSequencepoint$Node;LSequencepoint$Node;)LSequencepoint$Node;"⟩ : Jvm.MethodName) prog_7_method_6_code 3 (some (.object "Sequencepoint$Node"))).before args0 about = true :=
  su_hand_word (m := ⟨4, 5⟩) (by decide +kernel) rfl (by decide +kernel) (by decide +kernel)
set_option maxRecDepth 16384 in
theorem od1.code174 : (Jvm.Cond.code (⟨"Sequencepoint$Node", "copyFrom", "(LSequencepoint$Node;)V"⟩ : Jvm.MethodName) prog_5_method_2_code 2 none).before args0 about = true :=
  su_hand_word (m := ⟨5, 1⟩) (by decide +kernel) rfl (by decide +kernel) (by decide +kernel)
set_option maxRecDepth 16384 in
theorem od1.code175 : (Jvm.Cond.code (⟨"Sequencepoint$Optimiser", "folded", "(LSequencepoint$Node;)LSequencepoint$Node;"⟩ : Jvm.MethodName) prog_7_method_8_code 2 (some (.object "Sequencepoint$Node"))).before args0 about = true :=
  su_hand_word (m := ⟨4, 7⟩) (by decide +kernel) rfl (by decide +kernel) (by decide +kernel)
set_option maxRecDepth 16384 in
theorem od1.code176 : (Jvm.Cond.code (⟨"Sequencepoint$Optimiser", "reduce", "(LSequencepoint$Node;)LSequencepoint$Node;"⟩ : Jvm.MethodName) prog_7_method_10_code 6 (some (.object "Sequencepoint$Node"))).before args0 about = true :=
  su_hand_word (m := ⟨4, 9⟩) (by decide +kernel) rfl (by decide +kernel) (by decide +kernel)
set_option maxRecDepth 16384 in
theorem od1.code177 : (Jvm.Cond.code (⟨"Sequencepoint$Node", "isTold", "(LSequencepoint$Node;)Z"⟩ : Jvm.MethodName) prog_5_method_7_code 1 (some .boolean)).before args0 about = true :=
  su_hand_word (m := ⟨5, 6⟩) (by decide +kernel) rfl (by decide +kernel) (by decide +kernel)
set_option maxRecDepth 16384 in
theorem od1.code178 : (Jvm.Cond.code (⟨"Sequencepoint$Optimiser", "take", "(LSequencepoint$Node;LSequencepoint$Node;)LSequencepoint$Node;"⟩ : Jvm.MethodName) prog_7_method_12_code 3 (some (.object "Sequencepoint$Node"))).before args0 about = true :=
  su_hand_word (m := ⟨4, 11⟩) (by decide +kernel) rfl (by decide +kernel) (by decide +kernel)
set_option maxRecDepth 16384 in
theorem od1.code179 : (Jvm.Cond.code (⟨"Sequencepoint$Optimiser", "tell", "(LSequencepoint$Node;J)LSequencepoint$Node;"⟩ : Jvm.MethodName) prog_7_method_11_code 4 (some (.object "Sequencepoint$Node"))).before args0 about = true :=
  su_hand_word (m := ⟨4, 10⟩) (by decide +kernel) rfl (by decide +kernel) (by decide +kernel)
set_option maxRecDepth 16384 in
theorem od1.code180 : (Jvm.Cond.code (⟨"Sequencepoint$Optimiser", "copyOfStatement", "(LSequencepoint$Statement;LSequencepoint$Statement;)LSequencepoint$Statement;"⟩ : Jvm.MethodName) prog_7_method_7_code 3 (some (.object "Sequencepoint$Statement"))).before args0 about = true :=
  su_hand_word (m := ⟨4, 6⟩) (by decide +kernel) rfl (by decide +kernel) (by decide +kernel)
set_option maxRecDepth 16384 in
theorem od1.code181 : (Jvm.Cond.code (⟨"Sequencepoint$Optimiser", "shortened", "(LSequencepoint$Statement;)LSequencepoint$Statement;"⟩ : Jvm.MethodName) prog_7_method_9_code 3 (some (.object "Sequencepoint$Statement"))).before args0 about = true :=
  su_hand_word (m := ⟨4, 8⟩) (by decide +kernel) rfl (by decide +kernel) (by decide +kernel)
set_option maxRecDepth 16384 in
theorem od1.code182 : (Jvm.Cond.code (⟨"Sequencepoint$Optimiser", "reduceStatement", "(LSequencepoint$Statement;)LSequencepoint$Statement;"⟩ : Jvm.MethodName) prog_7_method_13_code 4 (some (.object "Sequencepoint$Statement"))).before args0 about = true :=
  su_hand_word (m := ⟨4, 12⟩) (by decide +kernel) rfl (by decide +kernel) (by decide +kernel)
set_option maxRecDepth 16384 in
theorem od1.code183 : (Jvm.Cond.code (⟨"Sequencepoint$Optimiser", "shorten", "(LSequencepoint$Statement;)LSequencepoint$Statement;"⟩ : Jvm.MethodName) prog_7_method_14_code 2 (some (.object "Sequencepoint$Statement"))).before args0 about = true :=
  su_hand_word (m := ⟨4, 13⟩) (by decide +kernel) rfl (by decide +kernel) (by decide +kernel)
set_option maxRecDepth 16384 in
theorem od1.code184 : (Jvm.Cond.code (⟨"Sequencepoint", "kindOf", "()C"⟩ : Jvm.MethodName) prog_1_method_28_code 1 (some .char)).before args0 about = true :=
  su_hand_word (m := ⟨2, 27⟩) (by decide +kernel) rfl (by decide +kernel) (by decide +kernel)
set_option maxRecDepth 16384 in
theorem od1.code185 : (Jvm.Cond.code (⟨"Sequencepoint", "refuseRunWithMeaning", "()V"⟩ : Jvm.MethodName) prog_1_method_30_code 1 none).before args0 about = true :=
  su_hand_word (m := ⟨2, 29⟩) (by decide +kernel) rfl (by decide +kernel) (by decide +kernel)
set_option maxRecDepth 16384 in
theorem od1.code186 : (Jvm.Cond.code (⟨"java/util/NoSuchElementException", "<init>", "(Ljava/lang/String;)V"⟩ : Jvm.MethodName) prog_56_method_4_code 2 none).before args0 about = true :=
  su_hand_word (m := ⟨60, 1⟩) (by decide +kernel) rfl (by decide +kernel) (by decide +kernel)
set_option maxRecDepth 16384 in
theorem od1.code187 : (Jvm.Cond.code (⟨"Sequencepoint", "placeOf", "()I"⟩ : Jvm.MethodName) prog_1_method_29_code 1 (some .int)).before args0 about = true :=
  su_hand_word (m := ⟨2, 28⟩) (by decide +kernel) rfl (by decide +kernel) (by decide +kernel)
set_option maxRecDepth 16384 in
theorem od1.code188 : (Jvm.Cond.code (⟨"Sequencepoint", "printedAt", "(I)C"⟩ : Jvm.MethodName) prog_1_method_34_code 2 (some .char)).before args0 about = true :=
  su_hand_word (m := ⟨2, 33⟩) (by decide +kernel) rfl (by decide +kernel) (by decide +kernel)
set_option maxRecDepth 16384 in
theorem od1.code189 : (Jvm.Cond.code (⟨"Sequencepoint", "behaviours", "()I"⟩ : Jvm.MethodName) prog_1_method_35_code 3 (some .int)).before args0 about = true :=
  su_hand_word (m := ⟨2, 34⟩) (by decide +kernel) rfl (by decide +kernel) (by decide +kernel)
set_option maxRecDepth 16384 in
theorem od1.code190 : (Jvm.Cond.code (⟨"Sequencepoint", "gatherOutcomes", "()I"⟩ : Jvm.MethodName) prog_1_method_42_code 3 (some .int)).before args0 about = true :=
  su_hand_word (m := ⟨2, 41⟩) (by decide +kernel) rfl (by decide +kernel) (by decide +kernel)
set_option maxRecDepth 16384 in
theorem od1.code191 : (Jvm.Cond.code (⟨"Sequencepoint$Outcome", "copyFrom", "(LSequencepoint$Outcome;)V"⟩ : Jvm.MethodName) prog_8_method_3_code 3 none).before args0 about = true :=
  su_hand_word (m := ⟨9, 2⟩) (by decide +kernel) rfl (by decide +kernel) (by decide +kernel)
set_option maxRecDepth 16384 in
theorem od1.code192 : (Jvm.Cond.code (⟨"Sequencepoint", "isAmongFirst", "(ILSequencepoint$Outcome;)Z"⟩ : Jvm.MethodName) prog_1_method_43_code 4 (some .boolean)).before args0 about = true :=
  su_hand_word (m := ⟨2, 42⟩) (by decide +kernel) rfl (by decide +kernel) (by decide +kernel)
set_option maxRecDepth 16384 in
theorem od1.code193 : (Jvm.Cond.code (⟨"Sequencepoint$Outcome", "isSameBehaviour", "(LSequencepoint$Outcome;)Z"⟩ : Jvm.MethodName) prog_8_method_5_code 3 (some .boolean)).before args0 about = true :=
  su_hand_word (m := ⟨9, 4⟩) (by decide +kernel) rfl (by decide +kernel) (by decide +kernel)
set_option maxRecDepth 16384 in
theorem od1.code194 : (Jvm.Cond.code (⟨"Sequencepoint", "undefinedOrders", "()I"⟩ : Jvm.MethodName) prog_1_method_36_code 1 (some .int)).before args0 about = true :=
  su_hand_word (m := ⟨2, 35⟩) (by decide +kernel) rfl (by decide +kernel) (by decide +kernel)
set_option maxRecDepth 16384 in
theorem od1.code195 : (Jvm.Cond.code (⟨"Sequencepoint", "optimised", "()I"⟩ : Jvm.MethodName) prog_1_method_37_code 1 (some .int)).before args0 about = true :=
  su_hand_word (m := ⟨2, 36⟩) (by decide +kernel) rfl (by decide +kernel) (by decide +kernel)
set_option maxRecDepth 16384 in
theorem od1.code196 : (Jvm.Cond.code (⟨"Sequencepoint", "optimisedSize", "()I"⟩ : Jvm.MethodName) prog_1_method_38_code 1 (some .int)).before args0 about = true :=
  su_hand_word (m := ⟨2, 37⟩) (by decide +kernel) rfl (by decide +kernel) (by decide +kernel)
set_option maxRecDepth 16384 in
theorem od1.code197 : (Jvm.Cond.code (⟨"Sequencepoint", "isAsIf", "()Z"⟩ : Jvm.MethodName) prog_1_method_39_code 2 (some .boolean)).before args0 about = true :=
  su_hand_word (m := ⟨2, 38⟩) (by decide +kernel) rfl (by decide +kernel) (by decide +kernel)
set_option maxRecDepth 16384 in
theorem od1.code198 : (Jvm.Cond.code (⟨"Sequencepoint", "definedShare", "()F"⟩ : Jvm.MethodName) prog_1_method_40_code 1 (some .float)).before args0 about = true :=
  su_hand_word (m := ⟨2, 39⟩) (by decide +kernel) rfl (by decide +kernel) (by decide +kernel)
set_option maxRecDepth 16384 in
theorem od1.codes_are_6 : tables_1_6.filter su_isCode = [Jvm.Cond.code (⟨"Sequencepoint$Node", "isReckoned", "()Z"⟩ : Jvm.MethodName) prog_5_method_15_code 1 (some .boolean),
    Jvm.Cond.code (⟨"Sequencepoint$Machine", "reckon", "(LSequencepoint$Node;JJ)J"⟩ : Jvm.MethodName) prog_3_method_11_code 7 (some .long),
    Jvm.Cond.code (⟨"Sequencepoint$Node", "faultOf", "(JJ)C"⟩ : Jvm.MethodName) prog_5_method_18_code 6 (some .char),
    Jvm.Cond.code (⟨"Sequencepoint$Node", "operandType", "()I"⟩ : Jvm.MethodName) prog_5_method_17_code 1 (some .int),
    Jvm.Cond.code (⟨"Sequencepoint$Node", "isShift", "()Z"⟩ : Jvm.MethodName) prog_5_method_16_code 1 (some .boolean),
    Jvm.Cond.code (⟨"Sequencepoint$Node", "resultOf", "(JJ)J"⟩ : Jvm.MethodName) prog_5_method_19_code 6 (some .long),
    Jvm.Cond.code (⟨"Sequencepoint$Machine", "finish", "(LSequencepoint$Node;JJ)J"⟩ : Jvm.MethodName) prog_3_method_12_code 6 (some .long),
    Jvm.Cond.code (⟨"Sequencepoint$Machine", "finishName", "(LSequencepoint$Node;J)J"⟩ : Jvm.MethodName) prog_3_method_13_code 4 (some .long),
    Jvm.Cond.code (⟨"Sequencepoint$Machine", "finishBinary", "(LSequencepoint$Node;JJ)J"⟩ : Jvm.MethodName) prog_3_method_14_code 6 (some .long),
    Jvm.Cond.code (⟨"Sequencepoint$Machine", "print", "(J)V"⟩ : Jvm.MethodName) prog_3_method_26_code 9 none,
    Jvm.Cond.code (⟨"Sequencepoint$Outcome", "print", "(C)V"⟩ : Jvm.MethodName) prog_8_method_4_code 2 none,
    Jvm.Cond.code (⟨"java/lang/Math", "abs", "(J)J"⟩ : Jvm.MethodName) prog_36_method_61_code 2 (some .long),
    Jvm.Cond.code (⟨"Sequencepoint", "runOptimised", "(I)C"⟩ : Jvm.MethodName) prog_1_method_25_code 2 (some .char),
    Jvm.Cond.code (⟨"Sequencepoint$Optimiser", "improve", "(LSequencepoint$Program;)V"⟩ : Jvm.MethodName) prog_7_method_2_code 3 none,
    Jvm.Cond.code (⟨"Sequencepoint$Optimiser", "markUsed", "(LSequencepoint$Program;)V"⟩ : Jvm.MethodName) prog_7_method_3_code 4 none,
    Jvm.Cond.code (⟨"Sequencepoint$Optimiser", "useStatement", "(LSequencepoint$Statement;)V"⟩ : Jvm.MethodName) prog_7_method_5_code 2 none,
    Jvm.Cond.code (⟨"Sequencepoint$Optimiser", "use", "(LSequencepoint$Node;)V"⟩ : Jvm.MethodName) prog_7_method_4_code 2 none,
    Jvm.Cond.code (⟨"Sequencepoint$Optimiser", "copyOf", "(LSequencepoint$Node;LSequencepoint$Node;)LSequencepoint$Node;"⟩ : Jvm.MethodName) prog_7_method_6_code 3 (some (.object "Sequencepoint$Node")),
    Jvm.Cond.code (⟨"Sequencepoint$Node", "copyFrom", "(LSequencepoint$Node;)V"⟩ : Jvm.MethodName) prog_5_method_2_code 2 none,
    Jvm.Cond.code (⟨"Sequencepoint$Optimiser", "folded", "(LSequencepoint$Node;)LSequencepoint$Node;"⟩ : Jvm.MethodName) prog_7_method_8_code 2 (some (.object "Sequencepoint$Node")),
    Jvm.Cond.code (⟨"Sequencepoint$Optimiser", "reduce", "(LSequencepoint$Node;)LSequencepoint$Node;"⟩ : Jvm.MethodName) prog_7_method_10_code 6 (some (.object "Sequencepoint$Node")),
    Jvm.Cond.code (⟨"Sequencepoint$Node", "isTold", "(LSequencepoint$Node;)Z"⟩ : Jvm.MethodName) prog_5_method_7_code 1 (some .boolean),
    Jvm.Cond.code (⟨"Sequencepoint$Optimiser", "take", "(LSequencepoint$Node;LSequencepoint$Node;)LSequencepoint$Node;"⟩ : Jvm.MethodName) prog_7_method_12_code 3 (some (.object "Sequencepoint$Node")),
    Jvm.Cond.code (⟨"Sequencepoint$Optimiser", "tell", "(LSequencepoint$Node;J)LSequencepoint$Node;"⟩ : Jvm.MethodName) prog_7_method_11_code 4 (some (.object "Sequencepoint$Node")),
    Jvm.Cond.code (⟨"Sequencepoint$Optimiser", "copyOfStatement", "(LSequencepoint$Statement;LSequencepoint$Statement;)LSequencepoint$Statement;"⟩ : Jvm.MethodName) prog_7_method_7_code 3 (some (.object "Sequencepoint$Statement")),
    Jvm.Cond.code (⟨"Sequencepoint$Optimiser", "shortened", "(LSequencepoint$Statement;)LSequencepoint$Statement;"⟩ : Jvm.MethodName) prog_7_method_9_code 3 (some (.object "Sequencepoint$Statement")),
    Jvm.Cond.code (⟨"Sequencepoint$Optimiser", "reduceStatement", "(LSequencepoint$Statement;)LSequencepoint$Statement;"⟩ : Jvm.MethodName) prog_7_method_13_code 4 (some (.object "Sequencepoint$Statement")),
    Jvm.Cond.code (⟨"Sequencepoint$Optimiser", "shorten", "(LSequencepoint$Statement;)LSequencepoint$Statement;"⟩ : Jvm.MethodName) prog_7_method_14_code 2 (some (.object "Sequencepoint$Statement")),
    Jvm.Cond.code (⟨"Sequencepoint", "kindOf", "()C"⟩ : Jvm.MethodName) prog_1_method_28_code 1 (some .char),
    Jvm.Cond.code (⟨"Sequencepoint", "refuseRunWithMeaning", "()V"⟩ : Jvm.MethodName) prog_1_method_30_code 1 none,
    Jvm.Cond.code (⟨"java/util/NoSuchElementException", "<init>", "(Ljava/lang/String;)V"⟩ : Jvm.MethodName) prog_56_method_4_code 2 none,
    Jvm.Cond.code (⟨"Sequencepoint", "placeOf", "()I"⟩ : Jvm.MethodName) prog_1_method_29_code 1 (some .int),
    Jvm.Cond.code (⟨"Sequencepoint", "printedAt", "(I)C"⟩ : Jvm.MethodName) prog_1_method_34_code 2 (some .char),
    Jvm.Cond.code (⟨"Sequencepoint", "behaviours", "()I"⟩ : Jvm.MethodName) prog_1_method_35_code 3 (some .int),
    Jvm.Cond.code (⟨"Sequencepoint", "gatherOutcomes", "()I"⟩ : Jvm.MethodName) prog_1_method_42_code 3 (some .int),
    Jvm.Cond.code (⟨"Sequencepoint$Outcome", "copyFrom", "(LSequencepoint$Outcome;)V"⟩ : Jvm.MethodName) prog_8_method_3_code 3 none,
    Jvm.Cond.code (⟨"Sequencepoint", "isAmongFirst", "(ILSequencepoint$Outcome;)Z"⟩ : Jvm.MethodName) prog_1_method_43_code 4 (some .boolean),
    Jvm.Cond.code (⟨"Sequencepoint$Outcome", "isSameBehaviour", "(LSequencepoint$Outcome;)Z"⟩ : Jvm.MethodName) prog_8_method_5_code 3 (some .boolean),
    Jvm.Cond.code (⟨"Sequencepoint", "undefinedOrders", "()I"⟩ : Jvm.MethodName) prog_1_method_36_code 1 (some .int),
    Jvm.Cond.code (⟨"Sequencepoint", "optimised", "()I"⟩ : Jvm.MethodName) prog_1_method_37_code 1 (some .int),
    Jvm.Cond.code (⟨"Sequencepoint", "optimisedSize", "()I"⟩ : Jvm.MethodName) prog_1_method_38_code 1 (some .int),
    Jvm.Cond.code (⟨"Sequencepoint", "isAsIf", "()Z"⟩ : Jvm.MethodName) prog_1_method_39_code 2 (some .boolean),
    Jvm.Cond.code (⟨"Sequencepoint", "definedShare", "()F"⟩ : Jvm.MethodName) prog_1_method_40_code 1 (some .float)] := by
  first
  | rfl
  | simp only [tables_1_6, List.filter, su_isCode]
