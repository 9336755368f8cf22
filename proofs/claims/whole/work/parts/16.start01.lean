theorem od1.word_code : (Cond.code x code maxLocals ret).before args0 about = true := od1.code_of (by decide +kernel) start1.word_code
set_option maxRecDepth 16384 in
theorem od1.su_all_split {α : Type} (p : α → Bool) (n : Nat) (l : List α) (h1 : (l.take n).all p = true) (h2 : (l.drop n).all p = true) : l.all p = true := by
  apply List.all_eq_true.mpr
  intro x hx
  have hx' : x ∈ l.take n ++ l.drop n := by rw [List.take_append_drop]; exact hx
  rcases List.mem_append.mp hx' with h | h
  · exact List.all_eq_true.mp h1 x h
  · exact List.all_eq_true.mp h2 x h
theorem od1.code0 : (Jvm.Cond.code (⟨"Sequencepoint", "<init>", "()V"⟩ : Jvm.MethodName) prog_1_method_1_code 2 none).before args0 about = true := od1.code_of (by decide +kernel) start1.code0
theorem od1.code1 : (Jvm.Cond.code (⟨"java/lang/Object", "<init>", "()V"⟩ : Jvm.MethodName) object_method_1_code 1 none).before args0 about = true := od1.code_of (by decide +kernel) start1.code1
theorem od1.code2 : (Jvm.Cond.code (⟨"Sequencepoint$Program", "<init>", "()V"⟩ : Jvm.MethodName) prog_9_method_1_code 1 none).before args0 about = true := od1.code_of (by decide +kernel) start1.code2
theorem od1.code3 : (Jvm.Cond.code (⟨"Sequencepoint$Optimiser", "<init>", "()V"⟩ : Jvm.MethodName) prog_7_method_1_code 2 none).before args0 about = true := od1.code_of (by decide +kernel) start1.code3
theorem od1.code4 : (Jvm.Cond.code (⟨"Sequencepoint$Node", "<init>", "(ICI)V"⟩ : Jvm.MethodName) prog_5_method_1_code 4 none).before args0 about = true := od1.code_of (by decide +kernel) start1.code4
theorem od1.code5 : (Jvm.Cond.code (⟨"Sequencepoint$Statement", "<init>", "(CLSequencepoint$Node;LSequencepoint$Variable;)V"⟩ : Jvm.MethodName) prog_10_method_1_code 4 none).before args0 about = true := od1.code_of (by decide +kernel) start1.code5
set_option maxRecDepth 16384 in
theorem od1.codes_are_1 : tables_1_1.filter su_isCode = [Jvm.Cond.code (⟨"Sequencepoint", "<init>", "()V"⟩ : Jvm.MethodName) prog_1_method_1_code 2 none,
    Jvm.Cond.code (⟨"java/lang/Object", "<init>", "()V"⟩ : Jvm.MethodName) object_method_1_code 1 none,
    Jvm.Cond.code (⟨"Sequencepoint$Program", "<init>", "()V"⟩ : Jvm.MethodName) prog_9_method_1_code 1 none,
    Jvm.Cond.code (⟨"Sequencepoint$Optimiser", "<init>", "()V"⟩ : Jvm.MethodName) prog_7_method_1_code 2 none,
    Jvm.Cond.code (⟨"Sequencepoint$Node", "<init>", "(ICI)V"⟩ : Jvm.MethodName) prog_5_method_1_code 4 none,
    Jvm.Cond.code (⟨"Sequencepoint$Statement", "<init>", "(CLSequencepoint$Node;LSequencepoint$Variable;)V"⟩ : Jvm.MethodName) prog_10_method_1_code 4 none] := by
  first
  | rfl
  | simp only [tables_1_1, List.filter, su_isCode]
set_option maxRecDepth 16384 in
theorem od1.codes_hold_1 : ∀ c ∈ tables_1_1.filter su_isCode, c.before args0 about = true := by
  rw [codes_are_1]
  exact List.forall_mem_cons.mpr ⟨code0, List.forall_mem_cons.mpr ⟨code1, List.forall_mem_cons.mpr ⟨code2, List.forall_mem_cons.mpr ⟨code3, List.forall_mem_cons.mpr ⟨code4, List.forall_mem_cons.mpr ⟨code5, List.forall_mem_nil _⟩⟩⟩⟩⟩⟩
set_option maxRecDepth 100000 in
theorem od1.others_1_0 : (tables_1_1.take 120).all od1.chk = true := by decide +kernel
set_option maxRecDepth 100000 in
theorem od1.others_1_1 : (tables_1_1.drop 120).all od1.chk = true := by decide +kernel
theorem od1.others_hold_1 : tables_1_1.all (fun c => su_isCode c || c.before args0 about) = true := od1.from_chk start1.words_1 (od1.su_all_split _ 120 tables_1_1 od1.others_1_0 od1.others_1_1)
set_option maxRecDepth 16384 in
theorem od1.words_1 : ∀ c ∈ tables_1_1, c.before args0 about = true := fun c h => su_words others_hold_1 codes_hold_1 c h
theorem od1.code6 : (Jvm.Cond.code (⟨"Sequencepoint$Machine", "<init>", "()V"⟩ : Jvm.MethodName) prog_3_method_1_code 1 none).before args0 about = true := od1.code_of (by decide +kernel) start1.code6
theorem od1.code7 : (Jvm.Cond.code (⟨"Sequencepoint$Memory", "<init>", "()V"⟩ : Jvm.MethodName) prog_4_method_1_code 1 none).before args0 about = true := od1.code_of (by decide +kernel) start1.code7
theorem od1.code8 : (Jvm.Cond.code (⟨"Sequencepoint$Outcome", "<init>", "()V"⟩ : Jvm.MethodName) prog_8_method_1_code 1 none).before args0 about = true := od1.code_of (by decide +kernel) start1.code8
theorem od1.code9 : (Jvm.Cond.code (⟨"Sequencepoint", "steps", "()I"⟩ : Jvm.MethodName) prog_1_method_31_code 1 (some .int)).before args0 about = true := od1.code_of (by decide +kernel) start1.code9
theorem od1.code10 : (Jvm.Cond.code (⟨"Sequencepoint", "choices", "()I"⟩ : Jvm.MethodName) prog_1_method_32_code 1 (some .int)).before args0 about = true := od1.code_of (by decide +kernel) start1.code10
theorem od1.code11 : (Jvm.Cond.code (⟨"Sequencepoint", "printed", "()I"⟩ : Jvm.MethodName) prog_1_method_33_code 1 (some .int)).before args0 about = true := od1.code_of (by decide +kernel) start1.code11
theorem od1.code12 : (Jvm.Cond.code (⟨"Sequencepoint", "allSteps", "()J"⟩ : Jvm.MethodName) prog_1_method_41_code 1 (some .long)).before args0 about = true := od1.code_of (by decide +kernel) start1.code12
theorem od1.code13 : (Jvm.Cond.code (⟨"Sequencepoint", "addVariable", "(IIZ)I"⟩ : Jvm.MethodName) prog_1_method_2_code 4 (some .int)).before args0 about = true := od1.code_of (by decide +kernel) start1.code13
theorem od1.code14 : (Jvm.Cond.code (⟨"Sequencepoint$Numbers", "isType", "(I)Z"⟩ : Jvm.MethodName) prog_6_method_3_code 1 (some .boolean)).before args0 about = true := od1.code_of (by decide +kernel) start1.code14
theorem od1.code15 : (Jvm.Cond.code (⟨"Sequencepoint$Numbers", "isNumber", "(I)Z"⟩ : Jvm.MethodName) prog_6_method_2_code 1 (some .boolean)).before args0 about = true := od1.code_of (by decide +kernel) start1.code15
theorem od1.code16 : (Jvm.Cond.code (⟨"java/lang/Throwable", "<init>", "()V"⟩ : Jvm.MethodName) prog_44_method_1_code 1 none).before args0 about = true := od1.code_of (by decide +kernel) start1.code16
theorem od1.code17 : (Jvm.Cond.code (⟨"java/lang/IllegalArgumentException", "<init>", "(Ljava/lang/String;)V"⟩ : Jvm.MethodName) prog_29_method_2_code 2 none).before args0 about = true := od1.code_of (by decide +kernel) start1.code17
set_option maxRecDepth 16384 in
theorem od1.codes_are_2 : tables_1_2.filter su_isCode = [Jvm.Cond.code (⟨"Sequencepoint$Machine", "<init>", "()V"⟩ : Jvm.MethodName) prog_3_method_1_code 1 none,
    Jvm.Cond.code (⟨"Sequencepoint$Memory", "<init>", "()V"⟩ : Jvm.MethodName) prog_4_method_1_code 1 none,
    Jvm.Cond.code (⟨"Sequencepoint$Outcome", "<init>", "()V"⟩ : Jvm.MethodName) prog_8_method_1_code 1 none,
    Jvm.Cond.code (⟨"Sequencepoint", "steps", "()I"⟩ : Jvm.MethodName) prog_1_method_31_code 1 (some .int),
    Jvm.Cond.code (⟨"Sequencepoint", "choices", "()I"⟩ : Jvm.MethodName) prog_1_method_32_code 1 (some .int),
    Jvm.Cond.code (⟨"Sequencepoint", "printed", "()I"⟩ : Jvm.MethodName) prog_1_method_33_code 1 (some .int),
    Jvm.Cond.code (⟨"Sequencepoint", "allSteps", "()J"⟩ : Jvm.MethodName) prog_1_method_41_code 1 (some .long),
    Jvm.Cond.code (⟨"Sequencepoint", "addVariable", "(IIZ)I"⟩ : Jvm.MethodName) prog_1_method_2_code 4 (some .int),
    Jvm.Cond.code (⟨"Sequencepoint$Numbers", "isType", "(I)Z"⟩ : Jvm.MethodName) prog_6_method_3_code 1 (some .boolean),
    Jvm.Cond.code (⟨"Sequencepoint$Numbers", "isNumber", "(I)Z"⟩ : Jvm.MethodName) prog_6_method_2_code 1 (some .boolean),
    Jvm.Cond.code (⟨"java/lang/Throwable", "<init>", "()V"⟩ : Jvm.MethodName) prog_44_method_1_code 1 none,
    Jvm.Cond.code (⟨"java/lang/IllegalArgumentException", "<init>", "(Ljava/lang/String;)V"⟩ : Jvm.MethodName) prog_29_method_2_code 2 none] := by
  first
  | rfl
  | simp only [tables_1_2, List.filter, su_isCode]
set_option maxRecDepth 16384 in
theorem od1.codes_hold_2 : ∀ c ∈ tables_1_2.filter su_isCode, c.before args0 about = true := by
  rw [codes_are_2]
  exact List.forall_mem_cons.mpr ⟨code6, List.forall_mem_cons.mpr ⟨code7, List.forall_mem_cons.mpr ⟨code8, List.forall_mem_cons.mpr ⟨code9, List.forall_mem_cons.mpr ⟨code10, List.forall_mem_cons.mpr ⟨code11, List.forall_mem_cons.mpr ⟨code12, List.forall_mem_cons.mpr ⟨code13, List.forall_mem_cons.mpr ⟨code14, List.forall_mem_cons.mpr ⟨code15, List.forall_mem_cons.mpr ⟨code16, List.forall_mem_cons.mpr ⟨code17, List.forall_mem_nil _⟩⟩⟩⟩⟩⟩⟩⟩⟩⟩⟩⟩
set_option maxRecDepth 100000 in
theorem od1.others_2_0 : (tables_1_2.take 120).all od1.chk = true := by decide +kernel
set_option maxRecDepth 100000 in
theorem od1.others_2_1 : (tables_1_2.drop 120).all od1.chk = true := by decide +kernel
theorem od1.others_hold_2 : tables_1_2.all (fun c => su_isCode c || c.before args0 about) = true := od1.from_chk start1.words_2 (od1.su_all_split _ 120 tables_1_2 od1.others_2_0 od1.others_2_1)
set_option maxRecDepth 16384 in
theorem od1.words_2 : ∀ c ∈ tables_1_2, c.before args0 about = true := fun c h => su_words others_hold_2 codes_hold_2 c h
theorem od1.code18 : (Jvm.Cond.code (⟨"java/lang/RuntimeException", "<init>", "(Ljava/lang/String;)V"⟩ : Jvm.MethodName) prog_38_method_2_code 2 none).before args0 about = true := od1.code_of (by decide +kernel) start1.code18
theorem od1.code19 : (Jvm.Cond.code (⟨"java/lang/Exception", "<init>", "(Ljava/lang/String;)V"⟩ : Jvm.MethodName) prog_28_method_2_code 2 none).before args0 about = true := od1.code_of (by decide +kernel) start1.code19
theorem od1.code20 : (Jvm.Cond.code (⟨"java/lang/Throwable", "<init>", "(Ljava/lang/String;)V"⟩ : Jvm.MethodName) prog_44_method_2_code 2 none).before args0 about = true := od1.code_of (by decide +kernel) start1.code20
theorem od1.code21 : (Jvm.Cond.code (⟨"java/lang/IllegalStateException", "<init>", "(Ljava/lang/String;)V"⟩ : Jvm.MethodName) prog_30_method_2_code 2 none).before args0 about = true := od1.code_of (by decide +kernel) start1.code21
theorem od1.code22 : (Jvm.Cond.code (⟨"Sequencepoint$Variable", "<init>", "(IIZ)V"⟩ : Jvm.MethodName) prog_12_method_1_code 4 none).before args0 about = true := od1.code_of (by decide +kernel) start1.code22
theorem od1.code23 : (Jvm.Cond.code (⟨"Sequencepoint$Program", "keepVariable", "(LSequencepoint$Variable;)I"⟩ : Jvm.MethodName) prog_9_method_6_code 2 (some .int)).before args0 about = true := od1.code_of (by decide +kernel) start1.code23
theorem od1.code24 : (Jvm.Cond.code (⟨"Sequencepoint", "addFunction", "(III)I"⟩ : Jvm.MethodName) prog_1_method_3_code 6 (some .int)).before args0 about = true := od1.code_of (by decide +kernel) start1.code24
theorem od1.code25 : (Jvm.Cond.code (⟨"Sequencepoint$Program", "variableAt", "(I)LSequencepoint$Variable;"⟩ : Jvm.MethodName) prog_9_method_2_code 2 (some (.object "Sequencepoint$Variable"))).before args0 about = true := od1.code_of (by decide +kernel) start1.code25
theorem od1.code26 : (Jvm.Cond.code (⟨"java/lang/IndexOutOfBoundsException", "<init>", "(Ljava/lang/String;)V"⟩ : Jvm.MethodName) prog_31_method_2_code 2 none).before args0 about = true := od1.code_of (by decide +kernel) start1.code26
theorem od1.code27 : (Jvm.Cond.code (⟨"Sequencepoint", "canBeParameter", "(LSequencepoint$Variable;)Z"⟩ : Jvm.MethodName) prog_1_method_4_code 1 (some .boolean)).before args0 about = true := od1.code_of (by decide +kernel) start1.code27
theorem od1.code28 : (Jvm.Cond.code (⟨"Sequencepoint$Variable", "isArray", "()Z"⟩ : Jvm.MethodName) prog_12_method_2_code 1 (some .boolean)).before args0 about = true := od1.code_of (by decide +kernel) start1.code28
theorem od1.code29 : (Jvm.Cond.code (⟨"java/lang/UnsupportedOperationException", "<init>", "(Ljava/lang/String;)V"⟩ : Jvm.MethodName) prog_45_method_2_code 2 none).before args0 about = true := od1.code_of (by decide +kernel) start1.code29
theorem od1.code30 : (Jvm.Cond.code (⟨"Sequencepoint$Function", "<init>", "(ILSequencepoint$Variable;LSequencepoint$Variable;)V"⟩ : Jvm.MethodName) prog_2_method_1_code 4 none).before args0 about = true := od1.code_of (by decide +kernel) start1.code30
theorem od1.code31 : (Jvm.Cond.code (⟨"Sequencepoint$Program", "keepFunction", "(LSequencepoint$Function;)I"⟩ : Jvm.MethodName) prog_9_method_7_code 2 (some .int)).before args0 about = true := od1.code_of (by decide +kernel) start1.code31
theorem od1.code32 : (Jvm.Cond.code (⟨"Sequencepoint", "setBody", "(II)I"⟩ : Jvm.MethodName) prog_1_method_5_code 5 (some .int)).before args0 about = true := od1.code_of (by decide +kernel) start1.code32
theorem od1.code33 : (Jvm.Cond.code (⟨"Sequencepoint$Program", "functionAt", "(I)LSequencepoint$Function;"⟩ : Jvm.MethodName) prog_9_method_3_code 2 (some (.object "Sequencepoint$Function"))).before args0 about = true := od1.code_of (by decide +kernel) start1.code33
theorem od1.code34 : (Jvm.Cond.code (⟨"Sequencepoint$Program", "statementAt", "(I)LSequencepoint$Statement;"⟩ : Jvm.MethodName) prog_9_method_5_code 2 (some (.object "Sequencepoint$Statement"))).before args0 about = true := od1.code_of (by decide +kernel) start1.code34
theorem od1.code35 : (Jvm.Cond.code (⟨"Sequencepoint$Program", "putBody", "(LSequencepoint$Function;LSequencepoint$Statement;)V"⟩ : Jvm.MethodName) prog_9_method_16_code 4 none).before args0 about = true := od1.code_of (by decide +kernel) start1.code35
theorem od1.code36 : (Jvm.Cond.code (⟨"Sequencepoint$Program", "bodyCount", "()I"⟩ : Jvm.MethodName) prog_9_method_17_code 3 (some .int)).before args0 about = true := od1.code_of (by decide +kernel) start1.code36
theorem od1.code37 : (Jvm.Cond.code (⟨"Sequencepoint", "number", "(II)I"⟩ : Jvm.MethodName) prog_1_method_6_code 4 (some .int)).before args0 about = true := od1.code_of (by decide +kernel) start1.code37
theorem od1.code38 : (Jvm.Cond.code (⟨"Sequencepoint$Numbers", "has", "(IJ)Z"⟩ : Jvm.MethodName) prog_6_method_4_code 3 (some .boolean)).before args0 about = true := od1.code_of (by decide +kernel) start1.code38
theorem od1.code39 : (Jvm.Cond.code (⟨"Sequencepoint$Numbers", "convert", "(JI)J"⟩ : Jvm.MethodName) prog_6_method_5_code 4 (some .long)).before args0 about = true := od1.code_of (by decide +kernel) start1.code39
theorem od1.code40 : (Jvm.Cond.code (⟨"Sequencepoint", "refuseNodesBeyondLimit", "()V"⟩ : Jvm.MethodName) prog_1_method_14_code 1 none).before args0 about = true := od1.code_of (by decide +kernel) start1.code40
theorem od1.code41 : (Jvm.Cond.code (⟨"Sequencepoint$Program", "keepNode", "(LSequencepoint$Node;LSequencepoint$Node;LSequencepoint$Node;LSequencepoint$Node;)I"⟩ : Jvm.MethodName) prog_9_method_8_code 5 (some .int)).before args0 about = true := od1.code_of (by decide +kernel) start1.code41
theorem od1.code42 : (Jvm.Cond.code (⟨"Sequencepoint$Node", "setParts", "(LSequencepoint$Node;LSequencepoint$Node;LSequencepoint$Node;)V"⟩ : Jvm.MethodName) prog_5_method_3_code 4 none).before args0 about = true := od1.code_of (by decide +kernel) start1.code42
theorem od1.code43 : (Jvm.Cond.code (⟨"Sequencepoint$Node", "depthOf", "(LSequencepoint$Node;)I"⟩ : Jvm.MethodName) prog_5_method_4_code 1 (some .int)).before args0 about = true := od1.code_of (by decide +kernel) start1.code43
theorem od1.code44 : (Jvm.Cond.code (⟨"java/lang/Math", "max", "(II)I"⟩ : Jvm.MethodName) prog_36_method_65_code 2 (some .int)).before args0 about = true := od1.code_of (by decide +kernel) start1.code44
theorem od1.code45 : (Jvm.Cond.code (⟨"Sequencepoint$Node", "sizeOf", "(LSequencepoint$Node;)I"⟩ : Jvm.MethodName) prog_5_method_5_code 1 (some .int)).before args0 about = true := od1.code_of (by decide +kernel) start1.code45
theorem od1.code46 : (Jvm.Cond.code (⟨"Sequencepoint$Node", "isCalling", "(LSequencepoint$Node;)Z"⟩ : Jvm.MethodName) prog_5_method_6_code 1 (some .boolean)).before args0 about = true := od1.code_of (by decide +kernel) start1.code46
theorem od1.code47 : (Jvm.Cond.code (⟨"Sequencepoint$Program", "take", "(LSequencepoint$Node;)V"⟩ : Jvm.MethodName) prog_9_method_10_code 1 none).before args0 about = true := od1.code_of (by decide +kernel) start1.code47
theorem od1.code48 : (Jvm.Cond.code (⟨"Sequencepoint", "name", "(I)I"⟩ : Jvm.MethodName) prog_1_method_7_code 4 (some .int)).before args0 about = true := od1.code_of (by decide +kernel) start1.code48
theorem od1.code49 : (Jvm.Cond.code (⟨"Sequencepoint", "unary", "(CI)I"⟩ : Jvm.MethodName) prog_1_method_8_code 5 (some .int)).before args0 about = true := od1.code_of (by decide +kernel) start1.code49
set_option maxRecDepth 16384 in
theorem od1.codes_are_3 : tables_1_3.filter su_isCode = [Jvm.Cond.code (⟨"java/lang/RuntimeException", "<init>", "(Ljava/lang/String;)V"⟩ : Jvm.MethodName) prog_38_method_2_code 2 none,
    Jvm.Cond.code (⟨"java/lang/Exception", "<init>", "(Ljava/lang/String;)V"⟩ : Jvm.MethodName) prog_28_method_2_code 2 none,
    Jvm.Cond.code (⟨"java/lang/Throwable", "<init>", "(Ljava/lang/String;)V"⟩ : Jvm.MethodName) prog_44_method_2_code 2 none,
    Jvm.Cond.code (⟨"java/lang/IllegalStateException", "<init>", "(Ljava/lang/String;)V"⟩ : Jvm.MethodName) prog_30_method_2_code 2 none,
    Jvm.Cond.code (⟨"Sequencepoint$Variable", "<init>", "(IIZ)V"⟩ : Jvm.MethodName) prog_12_method_1_code 4 none,
    Jvm.Cond.code (⟨"Sequencepoint$Program", "keepVariable", "(LSequencepoint$Variable;)I"⟩ : Jvm.MethodName) prog_9_method_6_code 2 (some .int),
    Jvm.Cond.code (⟨"Sequencepoint", "addFunction", "(III)I"⟩ : Jvm.MethodName) prog_1_method_3_code 6 (some .int),
    Jvm.Cond.code (⟨"Sequencepoint$Program", "variableAt", "(I)LSequencepoint$Variable;"⟩ : Jvm.MethodName) prog_9_method_2_code 2 (some (.object "Sequencepoint$Variable")),
    Jvm.Cond.code (⟨"java/lang/IndexOutOfBoundsException", "<init>", "(Ljava/lang/String;)V"⟩ : Jvm.MethodName) prog_31_method_2_code 2 none,
    Jvm.Cond.code (⟨"Sequencepoint", "canBeParameter", "(LSequencepoint$Variable;)Z"⟩ : Jvm.MethodName) prog_1_method_4_code 1 (some .boolean),
    Jvm.Cond.code (⟨"Sequencepoint$Variable", "isArray", "()Z"⟩ : Jvm.MethodName) prog_12_method_2_code 1 (some .boolean),
    Jvm.Cond.code (⟨"java/lang/UnsupportedOperationException", "<init>", "(Ljava/lang/String;)V"⟩ : Jvm.MethodName) prog_45_method_2_code 2 none,
    Jvm.Cond.code (⟨"Sequencepoint$Function", "<init>", "(ILSequencepoint$Variable;LSequencepoint$Variable;)V"⟩ : Jvm.MethodName) prog_2_method_1_code 4 none,
    Jvm.Cond.code (⟨"Sequencepoint$Program", "keepFunction", "(LSequencepoint$Function;)I"⟩ : Jvm.MethodName) prog_9_method_7_code 2 (some .int),
    Jvm.Cond.code (⟨"Sequencepoint", "setBody", "(II)I"⟩ : Jvm.MethodName) prog_1_method_5_code 5 (some .int),
    Jvm.Cond.code (⟨"Sequencepoint$Program", "functionAt", "(I)LSequencepoint$Function;"⟩ : Jvm.MethodName) prog_9_method_3_code 2 (some (.object "Sequencepoint$Function")),
    Jvm.Cond.code (⟨"Sequencepoint$Program", "statementAt", "(I)LSequencepoint$Statement;"⟩ : Jvm.MethodName) prog_9_method_5_code 2 (some (.object "Sequencepoint$Statement")),
    Jvm.Cond.code (⟨"Sequencepoint$Program", "putBody", "(LSequencepoint$Function;LSequencepoint$Statement;)V"⟩ : Jvm.MethodName) prog_9_method_16_code 4 none,
    Jvm.Cond.code (⟨"Sequencepoint$Program", "bodyCount", "()I"⟩ : Jvm.MethodName) prog_9_method_17_code 3 (some .int),
    Jvm.Cond.code (⟨"Sequencepoint", "number", "(II)I"⟩ : Jvm.MethodName) prog_1_method_6_code 4 (some .int),
    Jvm.Cond.code (⟨"Sequencepoint$Numbers", "has", "(IJ)Z"⟩ : Jvm.MethodName) prog_6_method_4_code 3 (some .boolean),
    Jvm.Cond.code (⟨"Sequencepoint$Numbers", "convert", "(JI)J"⟩ : Jvm.MethodName) prog_6_method_5_code 4 (some .long),
    Jvm.Cond.code (⟨"Sequencepoint", "refuseNodesBeyondLimit", "()V"⟩ : Jvm.MethodName) prog_1_method_14_code 1 none,
    Jvm.Cond.code (⟨"Sequencepoint$Program", "keepNode", "(LSequencepoint$Node;LSequencepoint$Node;LSequencepoint$Node;LSequencepoint$Node;)I"⟩ : Jvm.MethodName) prog_9_method_8_code 5 (some .int),
    Jvm.Cond.code (⟨"Sequencepoint$Node", "setParts", "(LSequencepoint$Node;LSequencepoint$Node;LSequencepoint$Node;)V"⟩ : Jvm.MethodName) prog_5_method_3_code 4 none,
    Jvm.Cond.code (⟨"Sequencepoint$Node", "depthOf", "(LSequencepoint$Node;)I"⟩ : Jvm.MethodName) prog_5_method_4_code 1 (some .int),
    Jvm.Cond.code (⟨"java/lang/Math", "max", "(II)I"⟩ : Jvm.MethodName) prog_36_method_65_code 2 (some .int),
    Jvm.Cond.code (⟨"Sequencepoint$Node", "sizeOf", "(LSequencepoint$Node;)I"⟩ : Jvm.MethodName) prog_5_method_5_code 1 (some .int),
    Jvm.Cond.code (⟨"Sequencepoint$Node", "isCalling", "(LSequencepoint$Node;)Z"⟩ : Jvm.MethodName) prog_5_method_6_code 1 (some .boolean),
    Jvm.Cond.code (⟨"Sequencepoint$Program", "take", "(LSequencepoint$Node;)V"⟩ : Jvm.MethodName) prog_9_method_10_code 1 none,
    Jvm.Cond.code (⟨"Sequencepoint", "name", "(I)I"⟩ : Jvm.MethodName) prog_1_method_7_code 4 (some .int),
    Jvm.Cond.code (⟨"Sequencepoint", "unary", "(CI)I"⟩ : Jvm.MethodName) prog_1_method_8_code 5 (some .int)] := by
  first
  | rfl
  | simp only [tables_1_3, List.filter, su_isCode]
set_option maxRecDepth 16384 in
theorem od1.codes_hold_3 : ∀ c ∈ tables_1_3.filter su_isCode, c.before args0 about = true := by
  rw [codes_are_3]
  exact List.forall_mem_cons.mpr ⟨code18, List.forall_mem_cons.mpr ⟨code19, List.forall_mem_cons.mpr ⟨code20, List.forall_mem_cons.mpr ⟨code21, List.forall_mem_cons.mpr ⟨code22, List.forall_mem_cons.mpr ⟨code23, List.forall_mem_cons.mpr ⟨code24, List.forall_mem_cons.mpr ⟨code25, List.forall_mem_cons.mpr ⟨code26, List.forall_mem_cons.mpr ⟨code27, List.forall_mem_cons.mpr ⟨code28, List.forall_mem_cons.mpr ⟨code29, List.forall_mem_cons.mpr ⟨code30, List.forall_mem_cons.mpr ⟨code31, List.forall_mem_cons.mpr ⟨code32, List.forall_mem_cons.mpr ⟨code33, List.forall_mem_cons.mpr ⟨code34, List.forall_mem_cons.mpr ⟨code35, List.forall_mem_cons.mpr ⟨code36, List.forall_mem_cons.mpr ⟨code37, List.forall_mem_cons.mpr ⟨code38, List.forall_mem_cons.mpr ⟨code39, List.forall_mem_cons.mpr ⟨code40, List.forall_mem_cons.mpr ⟨code41, List.forall_mem_cons.mpr ⟨code42, List.forall_mem_cons.mpr ⟨code43, List.forall_mem_cons.mpr ⟨code44, List.forall_mem_cons.mpr ⟨code45, List.forall_mem_cons.mpr ⟨code46, List.forall_mem_cons.mpr ⟨code47, List.forall_mem_cons.mpr ⟨code48, List.forall_mem_cons.mpr ⟨code49, List.forall_mem_nil _⟩⟩⟩⟩⟩⟩⟩⟩⟩⟩⟩⟩⟩⟩⟩⟩⟩⟩⟩⟩⟩⟩⟩⟩⟩⟩⟩⟩⟩⟩⟩⟩
set_option maxRecDepth 100000 in
theorem od1.others_3_0 : (tables_1_3.take 120).all od1.chk = true := by decide +kernel
set_option maxRecDepth 100000 in
theorem od1.others_3_1 : (tables_1_3.drop 120).all od1.chk = true := by decide +kernel
theorem od1.others_hold_3 : tables_1_3.all (fun c => su_isCode c || c.before args0 about) = true := od1.from_chk start1.words_3 (od1.su_all_split _ 120 tables_1_3 od1.others_3_0 od1.others_3_1)
set_option maxRecDepth 16384 in
theorem od1.words_3 : ∀ c ∈ tables_1_3, c.before args0 about = true := fun c h => su_words others_hold_3 codes_hold_3 c h
set_option maxRecDepth 16384 in
theorem od1.code50 : (Jvm.Cond.code (⟨"java/lang/String", "indexOf", "(I)I"⟩ : Jvm.MethodName) prog_39_method_79_code 2 (some .int)).before args0 about = true :=
  su_hand_word (m := ⟨40, 1⟩) (by decide +kernel) rfl (by decide +kernel) (by decide +kernel)
set_option maxRecDepth 16384 in
theorem od1.code51 : (Jvm.Cond.code (⟨"java/lang/String", "indexOf", "(II)I"⟩ : Jvm.MethodName) prog_39_method_80_code 3 (some .int)).before args0 about = true :=
  su_hand_word (m := ⟨40, 2⟩) (by decide +kernel) rfl (by decide +kernel) (by decide +kernel)
set_option maxRecDepth 16384 in
theorem od1.code52 : (Jvm.Cond.code (⟨"java/lang/String", "isLatin1", "()Z"⟩ : Jvm.MethodName) prog_39_method_154_code 1 (some .boolean)).before args0 about = true :=
  su_hand_word (m := ⟨40, 4⟩) (by decide +kernel) rfl (by decide +kernel) (by decide +kernel)
set_option maxRecDepth 16384 in
theorem od1.code53 : (Jvm.Cond.code (⟨"java/lang/String", "length", "()I"⟩ : Jvm.MethodName) prog_39_method_54_code 1 (some .int)).before args0 about = true :=
  su_hand_word (m := ⟨40, 0⟩) (by decide +kernel) rfl (by decide +kernel) (by decide +kernel)
set_option maxRecDepth 16384 in
theorem od1.code54 : (Jvm.Cond.code (⟨"java/lang/String", "coder", "()B"⟩ : Jvm.MethodName) prog_39_method_152_code 1 (some .byte)).before args0 about = true :=
  su_hand_word (m := ⟨40, 3⟩) (by decide +kernel) rfl (by decide +kernel) (by decide +kernel)
theorem od1.code55 : (Jvm.Cond.code (⟨"java/lang/StringLatin1", "indexOf", "([BIII)I"⟩ : Jvm.MethodName) prog_41_method_22_code 4 (some .int)).before args0 about = true := od1.code_of (by decide +kernel) start1.code55
theorem od1.code56 : (Jvm.Cond.code (⟨"java/lang/StringLatin1", "canEncode", "(I)Z"⟩ : Jvm.MethodName) prog_41_method_4_code 1 (some .boolean)).before args0 about = true := od1.code_of (by decide +kernel) start1.code56
theorem od1.code57 : (Jvm.Cond.code (⟨"java/lang/Math", "min", "(II)I"⟩ : Jvm.MethodName) prog_36_method_69_code 2 (some .int)).before args0 about = true := od1.code_of (by decide +kernel) start1.code57
theorem od1.code58 : (Jvm.Cond.code (⟨"java/lang/StringLatin1", "indexOfChar", "([BIII)I"⟩ : Jvm.MethodName) prog_41_method_23_code 6 (some .int)).before args0 about = true := od1.code_of (by decide +kernel) start1.code58
theorem od1.code59 : (Jvm.Cond.code (⟨"java/lang/StringUTF16", "indexOf", "([BIII)I"⟩ : Jvm.MethodName) prog_42_method_40_code 4 (some .int)).before args0 about = true := od1.code_of (by decide +kernel) start1.code59
theorem od1.code60 : (Jvm.Cond.code (⟨"java/lang/StringUTF16", "indexOfChar", "([BIII)I"⟩ : Jvm.MethodName) prog_42_method_47_code 4 (some .int)).before args0 about = true := od1.code_of (by decide +kernel) start1.code60
theorem od1.code61 : (Jvm.Cond.code (⟨"java/lang/StringUTF16", "checkBoundsBeginEnd", "(II[B)V"⟩ : Jvm.MethodName) prog_42_method_93_code 3 none).before args0 about = true := od1.code_of (by decide +kernel) start1.code61
theorem od1.code62 : (Jvm.Cond.code (⟨"java/lang/StringUTF16", "length", "([B)I"⟩ : Jvm.MethodName) prog_42_method_6_code 1 (some .int)).before args0 about = true := od1.code_of (by decide +kernel) start1.code62
set_option maxRecDepth 16384 in
theorem od1.code63 : (Jvm.Cond.code (⟨"java/lang/String", "checkBoundsBeginEnd", "(III)V"⟩ : Jvm.MethodName) prog_39_method_158_code 3 none).before args0 about = true :=
  su_hand_word (m := ⟨40, 7⟩) (by decide +kernel) rfl (by decide +kernel) (by decide +kernel)
theorem od1.code64 : (Jvm.Cond.code (⟨"jdk/internal/util/Preconditions", "checkFromToIndex", "(IIILjava/util/function/BiFunction;)I"⟩ : Jvm.MethodName) prog_61_method_12_code 4 (some .int)).before args0 about = true := od1.code_of (by decide +kernel) start1.code64
theorem od1.code65 : (Jvm.Cond.code (⟨"java/lang/StringUTF16", "indexOfCharUnsafe", "([BIII)I"⟩ : Jvm.MethodName) prog_42_method_48_code 5 (some .int)).before args0 about = true := od1.code_of (by decide +kernel) start1.code65
theorem od1.code66 : (Jvm.Cond.code (⟨"java/lang/StringUTF16", "getChar", "([BI)C"⟩ : Jvm.MethodName) prog_42_method_5_code 2 (some .char)).before args0 about = true := od1.code_of (by decide +kernel) start1.code66
theorem od1.code67 : (Jvm.Cond.code (⟨"java/lang/StringUTF16", "indexOfSupplementary", "([BIII)I"⟩ : Jvm.MethodName) prog_42_method_49_code 7 (some .int)).before args0 about = true := od1.code_of (by decide +kernel) start1.code67
theorem od1.code68 : (Jvm.Cond.code (⟨"java/lang/Character", "isValidCodePoint", "(I)Z"⟩ : Jvm.MethodName) prog_25_method_11_code 2 (some .boolean)).before args0 about = true := od1.code_of (by decide +kernel) start1.code68
theorem od1.code69 : (Jvm.Cond.code (⟨"java/lang/Character", "highSurrogate", "(I)C"⟩ : Jvm.MethodName) prog_25_method_28_code 1 (some .char)).before args0 about = true := od1.code_of (by decide +kernel) start1.code69
theorem od1.code70 : (Jvm.Cond.code (⟨"java/lang/Character", "lowSurrogate", "(I)C"⟩ : Jvm.MethodName) prog_25_method_29_code 1 (some .char)).before args0 about = true := od1.code_of (by decide +kernel) start1.code70
theorem od1.code71 : (Jvm.Cond.code (⟨"Sequencepoint$Program", "nodeAt", "(I)LSequencepoint$Node;"⟩ : Jvm.MethodName) prog_9_method_4_code 2 (some (.object "Sequencepoint$Node"))).before args0 about = true := od1.code_of (by decide +kernel) start1.code71
theorem od1.code72 : (Jvm.Cond.code (⟨"Sequencepoint$Typing", "ofUnary", "(CLSequencepoint$Node;)I"⟩ : Jvm.MethodName) prog_11_method_2_code 3 (some .int)).before args0 about = true := od1.code_of (by decide +kernel) start1.code72
theorem od1.code73 : (Jvm.Cond.code (⟨"Sequencepoint$Numbers", "promoted", "(I)I"⟩ : Jvm.MethodName) prog_6_method_6_code 1 (some .int)).before args0 about = true := od1.code_of (by decide +kernel) start1.code73
theorem od1.code74 : (Jvm.Cond.code (⟨"Sequencepoint$Node", "isPlace", "()Z"⟩ : Jvm.MethodName) prog_5_method_8_code 1 (some .boolean)).before args0 about = true := od1.code_of (by decide +kernel) start1.code74
theorem od1.code75 : (Jvm.Cond.code (⟨"Sequencepoint$Program", "canJoin", "(LSequencepoint$Node;LSequencepoint$Node;LSequencepoint$Node;)Z"⟩ : Jvm.MethodName) prog_9_method_12_code 5 (some .boolean)).before args0 about = true := od1.code_of (by decide +kernel) start1.code75
theorem od1.code76 : (Jvm.Cond.code (⟨"Sequencepoint$Program", "isFree", "(LSequencepoint$Node;)Z"⟩ : Jvm.MethodName) prog_9_method_14_code 1 (some .boolean)).before args0 about = true := od1.code_of (by decide +kernel) start1.code76
theorem od1.code77 : (Jvm.Cond.code (⟨"Sequencepoint", "cast", "(II)I"⟩ : Jvm.MethodName) prog_1_method_9_code 4 (some .int)).before args0 about = true := od1.code_of (by decide +kernel) start1.code77
theorem od1.code78 : (Jvm.Cond.code (⟨"Sequencepoint", "binary", "(CII)I"⟩ : Jvm.MethodName) prog_1_method_10_code 7 (some .int)).before args0 about = true := od1.code_of (by decide +kernel) start1.code78
theorem od1.code79 : (Jvm.Cond.code (⟨"Sequencepoint$Typing", "ofBinary", "(CII)I"⟩ : Jvm.MethodName) prog_11_method_3_code 5 (some .int)).before args0 about = true := od1.code_of (by decide +kernel) start1.code79
theorem od1.code80 : (Jvm.Cond.code (⟨"Sequencepoint$Numbers", "common", "(II)I"⟩ : Jvm.MethodName) prog_6_method_7_code 2 (some .int)).before args0 about = true := od1.code_of (by decide +kernel) start1.code80
theorem od1.code81 : (Jvm.Cond.code (⟨"Sequencepoint", "choose", "(III)I"⟩ : Jvm.MethodName) prog_1_method_11_code 8 (some .int)).before args0 about = true := od1.code_of (by decide +kernel) start1.code81
theorem od1.code82 : (Jvm.Cond.code (⟨"Sequencepoint$Typing", "ofChoice", "(II)I"⟩ : Jvm.MethodName) prog_11_method_4_code 2 (some .int)).before args0 about = true := od1.code_of (by decide +kernel) start1.code82
theorem od1.code83 : (Jvm.Cond.code (⟨"Sequencepoint", "assign", "(CII)I"⟩ : Jvm.MethodName) prog_1_method_12_code 6 (some .int)).before args0 about = true := od1.code_of (by decide +kernel) start1.code83
theorem od1.code84 : (Jvm.Cond.code (⟨"Sequencepoint$Typing", "canAssign", "(CLSequencepoint$Node;I)Z"⟩ : Jvm.MethodName) prog_11_method_5_code 4 (some .boolean)).before args0 about = true := od1.code_of (by decide +kernel) start1.code84
theorem od1.code85 : (Jvm.Cond.code (⟨"Sequencepoint", "call", "(III)I"⟩ : Jvm.MethodName) prog_1_method_13_code 9 (some .int)).before args0 about = true := od1.code_of (by decide +kernel) start1.code85
theorem od1.code86 : (Jvm.Cond.code (⟨"Sequencepoint$Typing", "canPass", "(LSequencepoint$Variable;LSequencepoint$Node;)Z"⟩ : Jvm.MethodName) prog_11_method_6_code 2 (some .boolean)).before args0 about = true := od1.code_of (by decide +kernel) start1.code86
theorem od1.code87 : (Jvm.Cond.code (⟨"Sequencepoint", "typeOf", "(I)I"⟩ : Jvm.MethodName) prog_1_method_15_code 3 (some .int)).before args0 about = true := od1.code_of (by decide +kernel) start1.code87
theorem od1.code88 : (Jvm.Cond.code (⟨"Sequencepoint", "simple", "(CI)I"⟩ : Jvm.MethodName) prog_1_method_16_code 4 (some .int)).before args0 about = true := od1.code_of (by decide +kernel) start1.code88
theorem od1.code89 : (Jvm.Cond.code (⟨"Sequencepoint", "refuseStatementsBeyondLimit", "()V"⟩ : Jvm.MethodName) prog_1_method_23_code 1 none).before args0 about = true := od1.code_of (by decide +kernel) start1.code89
theorem od1.code90 : (Jvm.Cond.code (⟨"Sequencepoint$Program", "keepStatement", "(LSequencepoint$Statement;LSequencepoint$Statement;LSequencepoint$Statement;)I"⟩ : Jvm.MethodName) prog_9_method_9_code 4 (some .int)).before args0 about = true := od1.code_of (by decide +kernel) start1.code90
theorem od1.code91 : (Jvm.Cond.code (⟨"Sequencepoint$Statement", "setParts", "(LSequencepoint$Statement;LSequencepoint$Statement;)V"⟩ : Jvm.MethodName) prog_10_method_2_code 3 none).before args0 about = true := od1.code_of (by decide +kernel) start1.code91
theorem od1.code92 : (Jvm.Cond.code (⟨"Sequencepoint$Statement", "depthOf", "(LSequencepoint$Statement;)I"⟩ : Jvm.MethodName) prog_10_method_3_code 1 (some .int)).before args0 about = true := od1.code_of (by decide +kernel) start1.code92
theorem od1.code93 : (Jvm.Cond.code (⟨"Sequencepoint$Statement", "sizeOf", "(LSequencepoint$Statement;)I"⟩ : Jvm.MethodName) prog_10_method_4_code 1 (some .int)).before args0 about = true := od1.code_of (by decide +kernel) start1.code93
theorem od1.code94 : (Jvm.Cond.code (⟨"Sequencepoint$Program", "takeStatement", "(LSequencepoint$Statement;)V"⟩ : Jvm.MethodName) prog_9_method_11_code 1 none).before args0 about = true := od1.code_of (by decide +kernel) start1.code94
theorem od1.code95 : (Jvm.Cond.code (⟨"Sequencepoint", "declare", "(I)I"⟩ : Jvm.MethodName) prog_1_method_17_code 3 (some .int)).before args0 about = true := od1.code_of (by decide +kernel) start1.code95
theorem od1.code96 : (Jvm.Cond.code (⟨"Sequencepoint", "branch", "(III)I"⟩ : Jvm.MethodName) prog_1_method_18_code 7 (some .int)).before args0 about = true := od1.code_of (by decide +kernel) start1.code96
theorem od1.code97 : (Jvm.Cond.code (⟨"Sequencepoint", "addWhole", "(CLSequencepoint$Node;LSequencepoint$Statement;LSequencepoint$Statement;)I"⟩ : Jvm.MethodName) prog_1_method_22_code 5 (some .int)).before args0 about = true := od1.code_of (by decide +kernel) start1.code97
theorem od1.code98 : (Jvm.Cond.code (⟨"Sequencepoint$Program", "canJoinStatements", "(LSequencepoint$Node;LSequencepoint$Statement;LSequencepoint$Statement;)Z"⟩ : Jvm.MethodName) prog_9_method_13_code 6 (some .boolean)).before args0 about = true := od1.code_of (by decide +kernel) start1.code98
theorem od1.code99 : (Jvm.Cond.code (⟨"Sequencepoint$Program", "isFreeStatement", "(LSequencepoint$Statement;)Z"⟩ : Jvm.MethodName) prog_9_method_15_code 1 (some .boolean)).before args0 about = true := od1.code_of (by decide +kernel) start1.code99
set_option maxRecDepth 16384 in
theorem od1.codes_are_4 : tables_1_4.filter su_isCode = [Jvm.Cond.code (⟨"java/lang/String", "indexOf", "(I)I"⟩ : Jvm.MethodName) prog_39_method_79_code 2 (some .int),
    Jvm.Cond.code (⟨"java/lang/String", "indexOf", "(II)I"⟩ : Jvm.MethodName) prog_39_method_80_code 3 (some .int),
    Jvm.Cond.code (⟨"java/lang/String", "isLatin1", "()Z"⟩ : Jvm.MethodName) prog_39_method_154_code 1 (some .boolean),
    Jvm.Cond.code (⟨"java/lang/String", "length", "()I"⟩ : Jvm.MethodName) prog_39_method_54_code 1 (some .int),
    Jvm.Cond.code (⟨"java/lang/String", "coder", "()B"⟩ : Jvm.MethodName) prog_39_method_152_code 1 (some .byte),
    Jvm.Cond.code (⟨"java/lang/StringLatin1", "indexOf", "([BIII)I"⟩ : Jvm.MethodName) prog_41_method_22_code 4 (some .int),
    Jvm.Cond.code (⟨"java/lang/StringLatin1", "canEncode", "(I)Z"⟩ : Jvm.MethodName) prog_41_method_4_code 1 (some .boolean),
    Jvm.Cond.code (⟨"java/lang/Math", "min", "(II)I"⟩ : Jvm.MethodName) prog_36_method_69_code 2 (some .int),
    Jvm.Cond.code (⟨"java/lang/StringLatin1", "indexOfChar", "([BIII)I"⟩ : Jvm.MethodName) prog_41_method_23_code 6 (some .int),
    Jvm.Cond.code (⟨"java/lang/StringUTF16", "indexOf", "([BIII)I"⟩ : Jvm.MethodName) prog_42_method_40_code 4 (some .int),
    Jvm.Cond.code (⟨"java/lang/StringUTF16", "indexOfChar", "([BIII)I"⟩ : Jvm.MethodName) prog_42_method_47_code 4 (some .int),
    Jvm.Cond.code (⟨"java/lang/StringUTF16", "checkBoundsBeginEnd", "(II[B)V"⟩ : Jvm.MethodName) prog_42_method_93_code 3 none,
    Jvm.Cond.code (⟨"java/lang/StringUTF16", "length", "([B)I"⟩ : Jvm.MethodName) prog_42_method_6_code 1 (some .int),
    Jvm.Cond.code (⟨"java/lang/String", "checkBoundsBeginEnd", "(III)V"⟩ : Jvm.MethodName) prog_39_method_158_code 3 none,
    Jvm.Cond.code (⟨"jdk/internal/util/Preconditions", "checkFromToIndex", "(IIILjava/util/function/BiFunction;)I"⟩ : Jvm.MethodName) prog_61_method_12_code 4 (some .int),
    Jvm.Cond.code (⟨"java/lang/StringUTF16", "indexOfCharUnsafe", "([BIII)I"⟩ : Jvm.MethodName) prog_42_method_48_code 5 (some .int),
    Jvm.Cond.code (⟨"java/lang/StringUTF16", "getChar", "([BI)C"⟩ : Jvm.MethodName) prog_42_method_5_code 2 (some .char),
    Jvm.Cond.code (⟨"java/lang/StringUTF16", "indexOfSupplementary", "([BIII)I"⟩ : Jvm.MethodName) prog_42_method_49_code 7 (some .int),
    Jvm.Cond.code (⟨"java/lang/Character", "isValidCodePoint", "(I)Z"⟩ : Jvm.MethodName) prog_25_method_11_code 2 (some .boolean),
    Jvm.Cond.code (⟨"java/lang/Character", "highSurrogate", "(I)C"⟩ : Jvm.MethodName) prog_25_method_28_code 1 (some .char),
    Jvm.Cond.code (⟨"java/lang/Character", "lowSurrogate", "(I)C"⟩ : Jvm.MethodName) prog_25_method_29_code 1 (some .char),
    Jvm.Cond.code (⟨"Sequencepoint$Program", "nodeAt", "(I)LSequencepoint$Node;"⟩ : Jvm.MethodName) prog_9_method_4_code 2 (some (.object "Sequencepoint$Node")),
    Jvm.Cond.code (⟨"Sequencepoint$Typing", "ofUnary", "(CLSequencepoint$Node;)I"⟩ : Jvm.MethodName) prog_11_method_2_code 3 (some .int),
    Jvm.Cond.code (⟨"Sequencepoint$Numbers", "promoted", "(I)I"⟩ : Jvm.MethodName) prog_6_method_6_code 1 (some .int),
    Jvm.Cond.code (⟨"Sequencepoint$Node", "isPlace", "()Z"⟩ : Jvm.MethodName) prog_5_method_8_code 1 (some .boolean),
    Jvm.Cond.code (⟨"Sequencepoint$Program", "canJoin", "(LSequencepoint$Node;LSequencepoint$Node;LSequencepoint$Node;)Z"⟩ : Jvm.MethodName) prog_9_method_12_code 5 (some .boolean),
    Jvm.Cond.code (⟨"Sequencepoint$Program", "isFree", "(LSequencepoint$Node;)Z"⟩ : Jvm.MethodName) prog_9_method_14_code 1 (some .boolean),
    Jvm.Cond.code (⟨"Sequencepoint", "cast", "(II)I"⟩ : Jvm.MethodName) prog_1_method_9_code 4 (some .int),
    Jvm.Cond.code (⟨"Sequencepoint", "binary", "(CII)I"⟩ : Jvm.MethodName) prog_1_method_10_code 7 (some .int),
    Jvm.Cond.code (⟨"Sequencepoint$Typing", "ofBinary", "(CII)I"⟩ : Jvm.MethodName) prog_11_method_3_code 5 (some .int),
    Jvm.Cond.code (⟨"Sequencepoint$Numbers", "common", "(II)I"⟩ : Jvm.MethodName) prog_6_method_7_code 2 (some .int),
    Jvm.Cond.code (⟨"Sequencepoint", "choose", "(III)I"⟩ : Jvm.MethodName) prog_1_method_11_code 8 (some .int),
    Jvm.Cond.code (⟨"Sequencepoint$Typing", "ofChoice", "(II)I"⟩ : Jvm.MethodName) prog_11_method_4_code 2 (some .int),
    Jvm.Cond.code (⟨"Sequencepoint", "assign", "(CII)I"⟩ : Jvm.MethodName) prog_1_method_12_code 6 (some .int),
    Jvm.Cond.code (⟨"Sequencepoint$Typing", "canAssign", "(CLSequencepoint$Node;I)Z"⟩ : Jvm.MethodName) prog_11_method_5_code 4 (some .boolean),
    Jvm.Cond.code (⟨"Sequencepoint", "call", "(III)I"⟩ : Jvm.MethodName) prog_1_method_13_code 9 (some .int),
    Jvm.Cond.code (⟨"Sequencepoint$Typing", "canPass", "(LSequencepoint$Variable;LSequencepoint$Node;)Z"⟩ : Jvm.MethodName) prog_11_method_6_code 2 (some .boolean),
    Jvm.Cond.code (⟨"Sequencepoint", "typeOf", "(I)I"⟩ : Jvm.MethodName) prog_1_method_15_code 3 (some .int),
    Jvm.Cond.code (⟨"Sequencepoint", "simple", "(CI)I"⟩ : Jvm.MethodName) prog_1_method_16_code 4 (some .int),
    Jvm.Cond.code (⟨"Sequencepoint", "refuseStatementsBeyondLimit", "()V"⟩ : Jvm.MethodName) prog_1_method_23_code 1 none,
    Jvm.Cond.code (⟨"Sequencepoint$Program", "keepStatement", "(LSequencepoint$Statement;LSequencepoint$Statement;LSequencepoint$Statement;)I"⟩ : Jvm.MethodName) prog_9_method_9_code 4 (some .int),
    Jvm.Cond.code (⟨"Sequencepoint$Statement", "setParts", "(LSequencepoint$Statement;LSequencepoint$Statement;)V"⟩ : Jvm.MethodName) prog_10_method_2_code 3 none,
    Jvm.Cond.code (⟨"Sequencepoint$Statement", "depthOf", "(LSequencepoint$Statement;)I"⟩ : Jvm.MethodName) prog_10_method_3_code 1 (some .int),
    Jvm.Cond.code (⟨"Sequencepoint$Statement", "sizeOf", "(LSequencepoint$Statement;)I"⟩ : Jvm.MethodName) prog_10_method_4_code 1 (some .int),
    Jvm.Cond.code (⟨"Sequencepoint$Program", "takeStatement", "(LSequencepoint$Statement;)V"⟩ : Jvm.MethodName) prog_9_method_11_code 1 none,
    Jvm.Cond.code (⟨"Sequencepoint", "declare", "(I)I"⟩ : Jvm.MethodName) prog_1_method_17_code 3 (some .int),
    Jvm.Cond.code (⟨"Sequencepoint", "branch", "(III)I"⟩ : Jvm.MethodName) prog_1_method_18_code 7 (some .int),
    Jvm.Cond.code (⟨"Sequencepoint", "addWhole", "(CLSequencepoint$Node;LSequencepoint$Statement;LSequencepoint$Statement;)I"⟩ : Jvm.MethodName) prog_1_method_22_code 5 (some .int),
    Jvm.Cond.code (⟨"Sequencepoint$Program", "canJoinStatements", "(LSequencepoint$Node;LSequencepoint$Statement;LSequencepoint$Statement;)Z"⟩ : Jvm.MethodName) prog_9_method_13_code 6 (some .boolean),
    Jvm.Cond.code (⟨"Sequencepoint$Program", "isFreeStatement", "(LSequencepoint$Statement;)Z"⟩ : Jvm.MethodName) prog_9_method_15_code 1 (some .boolean)] := by
  first
  | rfl
  | simp only [tables_1_4, List.filter, su_isCode]
set_option maxRecDepth 16384 in
theorem od1.codes_hold_4 : ∀ c ∈ tables_1_4.filter su_isCode, c.before args0 about = true := by
  rw [codes_are_4]
  exact List.forall_mem_cons.mpr ⟨code50, List.forall_mem_cons.mpr ⟨code51, List.forall_mem_cons.mpr ⟨code52, List.forall_mem_cons.mpr ⟨code53, List.forall_mem_cons.mpr ⟨code54, List.forall_mem_cons.mpr ⟨code55, List.forall_mem_cons.mpr ⟨code56, List.forall_mem_cons.mpr ⟨code57, List.forall_mem_cons.mpr ⟨code58, List.forall_mem_cons.mpr ⟨code59, List.forall_mem_cons.mpr ⟨code60, List.forall_mem_cons.mpr ⟨code61, List.forall_mem_cons.mpr ⟨code62, List.forall_mem_cons.mpr ⟨code63, List.forall_mem_cons.mpr ⟨code64, List.forall_mem_cons.mpr ⟨code65, List.forall_mem_cons.mpr ⟨code66, List.forall_mem_cons.mpr ⟨code67, List.forall_mem_cons.mpr ⟨code68, List.forall_mem_cons.mpr ⟨code69, List.forall_mem_cons.mpr ⟨code70, List.forall_mem_cons.mpr ⟨code71, List.forall_mem_cons.mpr ⟨code72, List.forall_mem_cons.mpr ⟨code73, List.forall_mem_cons.mpr ⟨code74, List.forall_mem_cons.mpr ⟨code75, List.forall_mem_cons.mpr ⟨code76, List.forall_mem_cons.mpr ⟨code77, List.forall_mem_cons.mpr ⟨code78, List.forall_mem_cons.mpr ⟨code79, List.forall_mem_cons.mpr ⟨code80, List.forall_mem_cons.mpr ⟨code81, List.forall_mem_cons.mpr ⟨code82, List.forall_mem_cons.mpr ⟨code83, List.forall_mem_cons.mpr ⟨code84, List.forall_mem_cons.mpr ⟨code85, List.forall_mem_cons.mpr ⟨code86, List.forall_mem_cons.mpr ⟨code87, List.forall_mem_cons.mpr ⟨code88, List.forall_mem_cons.mpr ⟨code89, List.forall_mem_cons.mpr ⟨code90, List.forall_mem_cons.mpr ⟨code91, List.forall_mem_cons.mpr ⟨code92, List.forall_mem_cons.mpr ⟨code93, List.forall_mem_cons.mpr ⟨code94, List.forall_mem_cons.mpr ⟨code95, List.forall_mem_cons.mpr ⟨code96, List.forall_mem_cons.mpr ⟨code97, List.forall_mem_cons.mpr ⟨code98, List.forall_mem_cons.mpr ⟨code99, List.forall_mem_nil _⟩⟩⟩⟩⟩⟩⟩⟩⟩⟩⟩⟩⟩⟩⟩⟩⟩⟩⟩⟩⟩⟩⟩⟩⟩⟩⟩⟩⟩⟩⟩⟩⟩⟩⟩⟩⟩⟩⟩⟩⟩⟩⟩⟩⟩⟩⟩⟩⟩⟩
set_option maxRecDepth 100000 in
theorem od1.others_4_0 : (tables_1_4.take 120).all od1.chk = true := by decide +kernel
set_option maxRecDepth 100000 in
theorem od1.others_4_1 : ((tables_1_4.drop 120).take 120).all od1.chk = true := by decide +kernel
set_option maxRecDepth 100000 in
theorem od1.others_4_2 : ((tables_1_4.drop 120).drop 120).all od1.chk = true := by decide +kernel
theorem od1.others_hold_4 : tables_1_4.all (fun c => su_isCode c || c.before args0 about) = true := od1.from_chk start1.words_4 (od1.su_all_split _ 120 tables_1_4 od1.others_4_0 (od1.su_all_split _ 120 (tables_1_4.drop 120) od1.others_4_1 od1.others_4_2))
set_option maxRecDepth 16384 in
theorem od1.words_4 : ∀ c ∈ tables_1_4, c.before args0 about = true := fun c h => su_words others_hold_4 codes_hold_4 c h
theorem od1.code100 : (Jvm.Cond.code (⟨"Sequencepoint", "repeat", "(II)I"⟩ : Jvm.MethodName) prog_1_method_19_code 5 (some .int)).before args0 about = true := od1.code_of (by decide +kernel) start1.code100
theorem od1.code101 : (Jvm.Cond.code (⟨"Sequencepoint", "then", "(II)I"⟩ : Jvm.MethodName) prog_1_method_20_code 5 (some .int)).before args0 about = true := od1.code_of (by decide +kernel) start1.code101
theorem od1.code102 : (Jvm.Cond.code (⟨"Sequencepoint", "block", "(I)I"⟩ : Jvm.MethodName) prog_1_method_21_code 3 (some .int)).before args0 about = true := od1.code_of (by decide +kernel) start1.code102
theorem od1.code103 : (Jvm.Cond.code (⟨"Sequencepoint", "run", "(I)C"⟩ : Jvm.MethodName) prog_1_method_24_code 2 (some .char)).before args0 about = true := od1.code_of (by decide +kernel) start1.code103
theorem od1.code104 : (Jvm.Cond.code (⟨"Sequencepoint", "refuseProgramWithoutStart", "()V"⟩ : Jvm.MethodName) prog_1_method_26_code 1 none).before args0 about = true := od1.code_of (by decide +kernel) start1.code104
theorem od1.code105 : (Jvm.Cond.code (⟨"Sequencepoint$Program", "canStart", "()Z"⟩ : Jvm.MethodName) prog_9_method_18_code 2 (some .boolean)).before args0 about = true := od1.code_of (by decide +kernel) start1.code105
theorem od1.code106 : (Jvm.Cond.code (⟨"Sequencepoint", "refuseNegativeOrder", "(I)V"⟩ : Jvm.MethodName) prog_1_method_27_code 1 none).before args0 about = true := od1.code_of (by decide +kernel) start1.code106
theorem od1.code107 : (Jvm.Cond.code (⟨"Sequencepoint$Machine", "perform", "(LSequencepoint$Program;[LSequencepoint$Statement;ILSequencepoint$Outcome;)V"⟩ : Jvm.MethodName) prog_3_method_2_code 7 none).before args0 about = true := od1.code_of (by decide +kernel) start1.code107
theorem od1.code108 : (Jvm.Cond.code (⟨"Sequencepoint$Outcome", "clear", "()V"⟩ : Jvm.MethodName) prog_8_method_2_code 1 none).before args0 about = true := od1.code_of (by decide +kernel) start1.code108
theorem od1.code109 : (Jvm.Cond.code (⟨"Sequencepoint$Memory", "clear", "()V"⟩ : Jvm.MethodName) prog_4_method_2_code 1 none).before args0 about = true := od1.code_of (by decide +kernel) start1.code109
theorem od1.code110 : (Jvm.Cond.code (⟨"Sequencepoint$Machine", "openRow", "(I)V"⟩ : Jvm.MethodName) prog_3_method_21_code 4 none).before args0 about = true := od1.code_of (by decide +kernel) start1.code110
theorem od1.code111 : (Jvm.Cond.code (⟨"Sequencepoint$Machine", "bring", "(LSequencepoint$Variable;)V"⟩ : Jvm.MethodName) prog_3_method_24_code 3 none).before args0 about = true := od1.code_of (by decide +kernel) start1.code111
theorem od1.code112 : (Jvm.Cond.code (⟨"Sequencepoint$Machine", "slotOf", "(LSequencepoint$Variable;)I"⟩ : Jvm.MethodName) prog_3_method_22_code 3 (some .int)).before args0 about = true := od1.code_of (by decide +kernel) start1.code112
theorem od1.code113 : (Jvm.Cond.code (⟨"Sequencepoint$Memory", "end", "(I)V"⟩ : Jvm.MethodName) prog_4_method_5_code 2 none).before args0 about = true := od1.code_of (by decide +kernel) start1.code113
theorem od1.code114 : (Jvm.Cond.code (⟨"Sequencepoint$Variable", "parts", "()I"⟩ : Jvm.MethodName) prog_12_method_3_code 1 (some .int)).before args0 about = true := od1.code_of (by decide +kernel) start1.code114
theorem od1.code115 : (Jvm.Cond.code (⟨"Sequencepoint$Memory", "bear", "(I)I"⟩ : Jvm.MethodName) prog_4_method_4_code 3 (some .int)).before args0 about = true := od1.code_of (by decide +kernel) start1.code115
theorem od1.code116 : (Jvm.Cond.code (⟨"Sequencepoint$Machine", "bodyOf", "(I)LSequencepoint$Statement;"⟩ : Jvm.MethodName) prog_3_method_3_code 2 (some (.object "Sequencepoint$Statement"))).before args0 about = true := od1.code_of (by decide +kernel) start1.code116
theorem od1.code117 : (Jvm.Cond.code (⟨"Sequencepoint$Machine", "execute", "(LSequencepoint$Statement;)V"⟩ : Jvm.MethodName) prog_3_method_7_code 3 none).before args0 about = true := od1.code_of (by decide +kernel) start1.code117
