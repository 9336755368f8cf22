set_option maxRecDepth 16384 in
theorem od1.codes_hold_6 : ∀ c ∈ tables_1_6.filter su_isCode, c.before args0 about = true := by
  rw [codes_are_6]
  exact List.forall_mem_cons.mpr ⟨code156, List.forall_mem_cons.mpr ⟨code157, List.forall_mem_cons.mpr ⟨code158, List.forall_mem_cons.mpr ⟨code159, List.forall_mem_cons.mpr ⟨code160, List.forall_mem_cons.mpr ⟨code161, List.forall_mem_cons.mpr ⟨code162, List.forall_mem_cons.mpr ⟨code163, List.forall_mem_cons.mpr ⟨code164, List.forall_mem_cons.mpr ⟨code165, List.forall_mem_cons.mpr ⟨code166, List.forall_mem_cons.mpr ⟨code167, List.forall_mem_cons.mpr ⟨code168, List.forall_mem_cons.mpr ⟨code169, List.forall_mem_cons.mpr ⟨code170, List.forall_mem_cons.mpr ⟨code171, List.forall_mem_cons.mpr ⟨code172, List.forall_mem_cons.mpr ⟨code173, List.forall_mem_cons.mpr ⟨code174, List.forall_mem_cons.mpr ⟨code175, List.forall_mem_cons.mpr ⟨code176, List.forall_mem_cons.mpr ⟨code177, List.forall_mem_cons.mpr ⟨code178, List.forall_mem_cons.mpr ⟨code179, List.forall_mem_cons.mpr ⟨code180, List.forall_mem_cons.mpr ⟨code181, List.forall_mem_cons.mpr ⟨code182, List.forall_mem_cons.mpr ⟨code183, List.forall_mem_cons.mpr ⟨code184, List.forall_mem_cons.mpr ⟨code185, List.forall_mem_cons.mpr ⟨code186, List.forall_mem_cons.mpr ⟨code187, List.forall_mem_cons.mpr ⟨code188, List.forall_mem_cons.mpr ⟨code189, List.forall_mem_cons.mpr ⟨code190, List.forall_mem_cons.mpr ⟨code191, List.forall_mem_cons.mpr ⟨code192, List.forall_mem_cons.mpr ⟨code193, List.forall_mem_cons.mpr ⟨code194, List.forall_mem_cons.mpr ⟨code195, List.forall_mem_cons.mpr ⟨code196, List.forall_mem_cons.mpr ⟨code197, List.forall_mem_cons.mpr ⟨code198, List.forall_mem_nil _⟩⟩⟩⟩⟩⟩⟩⟩⟩⟩⟩⟩⟩⟩⟩⟩⟩⟩⟩⟩⟩⟩⟩⟩⟩⟩⟩⟩⟩⟩⟩⟩⟩⟩⟩⟩⟩⟩⟩⟩⟩⟩⟩
set_option maxRecDepth 16384 in
theorem od1.others_6_0 : (tables_1_6.take 40).all (fun c => su_isCode c || c.before args0 about) = true := by decide +kernel
set_option maxRecDepth 16384 in
theorem od1.others_6_1 : ((tables_1_6.drop 40).take 40).all (fun c => su_isCode c || c.before args0 about) = true := by decide +kernel
set_option maxRecDepth 16384 in
theorem od1.others_6_2 : (((tables_1_6.drop 40).drop 40).take 40).all (fun c => su_isCode c || c.before args0 about) = true := by decide +kernel
set_option maxRecDepth 16384 in
theorem od1.others_6_3 : ((((tables_1_6.drop 40).drop 40).drop 40).take 40).all (fun c => su_isCode c || c.before args0 about) = true := by decide +kernel
set_option maxRecDepth 16384 in
theorem od1.others_6_4 : (((((tables_1_6.drop 40).drop 40).drop 40).drop 40).take 40).all (fun c => su_isCode c || c.before args0 about) = true := by decide +kernel
set_option maxRecDepth 16384 in
theorem od1.others_6_5 : (((((tables_1_6.drop 40).drop 40).drop 40).drop 40).drop 40).all (fun c => su_isCode c || c.before args0 about) = true := by decide +kernel
set_option maxRecDepth 16384 in
theorem od1.others_hold_6 : tables_1_6.all (fun c => su_isCode c || c.before args0 about) = true := su_all_split _ 40 tables_1_6 others_6_0 (su_all_split _ 40 (tables_1_6.drop 40) others_6_1 (su_all_split _ 40 ((tables_1_6.drop 40).drop 40) others_6_2 (su_all_split _ 40 (((tables_1_6.drop 40).drop 40).drop 40) others_6_3 (su_all_split _ 40 ((((tables_1_6.drop 40).drop 40).drop 40).drop 40) others_6_4 others_6_5))))
set_option maxRecDepth 16384 in
theorem od1.words_6 : ∀ c ∈ tables_1_6, c.before args0 about = true := fun c h => su_words others_hold_6 codes_hold_6 c h
set_option maxRecDepth 16384 in
theorem od1.code199 : (Jvm.Cond.code (⟨"SequencepointModel", "<init>", "()V"⟩ : Jvm.MethodName) prog_14_method_1_code 1 none).before args0 about = true :=
  su_hand_word (m := ⟨10, 0⟩) (by decide +kernel) rfl (by decide +kernel) (by decide +kernel)
set_option maxRecDepth 16384 in
theorem od1.code200 : (Jvm.Cond.code (⟨"SequencepointModel", "addVariable", "(IIZ)I"⟩ : Jvm.MethodName) prog_14_method_14_code 4 (some .int)).before args0 about = true :=
  su_hand_word (m := ⟨10, 12⟩) (by decide +kernel) rfl (by decide +kernel) (by decide +kernel)
set_option maxRecDepth 16384 in
theorem od1.code201 : (Jvm.Cond.code (⟨"SequencepointModel", "isType", "(I)Z"⟩ : Jvm.MethodName) prog_14_method_7_code 1 (some .boolean)).before args0 about = true :=
  su_hand_word (m := ⟨10, 5⟩) (by decide +kernel) rfl (by decide +kernel) (by decide +kernel)
set_option maxRecDepth 16384 in
theorem od1.code202 : (Jvm.Cond.code (⟨"SequencepointModel", "isNumber", "(I)Z"⟩ : Jvm.MethodName) prog_14_method_5_code 1 (some .boolean)).before args0 about = true :=
  su_hand_word (m := ⟨10, 3⟩) (by decide +kernel) rfl (by decide +kernel) (by decide +kernel)
set_option maxRecDepth 16384 in
theorem od1.code203 : (Jvm.Cond.code (⟨"SequencepointModel", "isIn", "(III)Z"⟩ : Jvm.MethodName) prog_14_method_3_code 3 (some .boolean)).before args0 about = true :=
  su_hand_word (m := ⟨10, 1⟩) (by decide +kernel) rfl (by decide +kernel) (by decide +kernel)
set_option maxRecDepth 16384 in
theorem od1.code204 : (Jvm.Cond.code (⟨"SequencepointModel", "isPointer", "(I)Z"⟩ : Jvm.MethodName) prog_14_method_6_code 1 (some .boolean)).before args0 about = true :=
  su_hand_word (m := ⟨10, 4⟩) (by decide +kernel) rfl (by decide +kernel) (by decide +kernel)
set_option maxRecDepth 16384 in
theorem od1.code205 : (Jvm.Cond.code (⟨"SequencepointModel", "isThrown", "(ZI)Z"⟩ : Jvm.MethodName) prog_14_method_4_code 3 (some .boolean)).before args0 about = true :=
  su_hand_word (m := ⟨10, 2⟩) (by decide +kernel) rfl (by decide +kernel) (by decide +kernel)
set_option maxRecDepth 16384 in
theorem od1.code206 : (Jvm.Cond.code (⟨"SequencepointModel", "addFunction", "(III)I"⟩ : Jvm.MethodName) prog_14_method_16_code 4 (some .int)).before args0 about = true :=
  su_hand_word (m := ⟨10, 14⟩) (by decide +kernel) rfl (by decide +kernel) (by decide +kernel)
set_option maxRecDepth 16384 in
theorem od1.code207 : (Jvm.Cond.code (⟨"SequencepointModel", "isNoParameter", "(I)Z"⟩ : Jvm.MethodName) prog_14_method_15_code 2 (some .boolean)).before args0 about = true :=
  su_hand_word (m := ⟨10, 13⟩) (by decide +kernel) rfl (by decide +kernel) (by decide +kernel)
set_option maxRecDepth 16384 in
theorem od1.code208 : (Jvm.Cond.code (⟨"SequencepointModel", "setBody", "(II)I"⟩ : Jvm.MethodName) prog_14_method_17_code 9 (some .int)).before args0 about = true :=
  su_hand_word (m := ⟨10, 15⟩) (by decide +kernel) rfl (by decide +kernel) (by decide +kernel)
set_option maxRecDepth 16384 in
theorem od1.code209 : (Jvm.Cond.code (⟨"SequencepointModel", "number", "(II)I"⟩ : Jvm.MethodName) prog_14_method_19_code 4 (some .int)).before args0 about = true :=
  su_hand_word (m := ⟨10, 17⟩) (by decide +kernel) rfl (by decide +kernel) (by decide +kernel)
set_option maxRecDepth 16384 in
theorem od1.code210 : (Jvm.Cond.code (⟨"SequencepointModel", "holds", "(IJ)Z"⟩ : Jvm.MethodName) prog_14_method_10_code 5 (some .boolean)).before args0 about = true :=
  su_hand_word (m := ⟨10, 8⟩) (by decide +kernel) rfl (by decide +kernel) (by decide +kernel)
set_option maxRecDepth 16384 in
theorem od1.code211 : (Jvm.Cond.code (⟨"SequencepointModel", "bits", "(I)I"⟩ : Jvm.MethodName) prog_14_method_9_code 1 (some .int)).before args0 about = true :=
  su_hand_word (m := ⟨10, 7⟩) (by decide +kernel) rfl (by decide +kernel) (by decide +kernel)
set_option maxRecDepth 16384 in
theorem od1.code212 : (Jvm.Cond.code (⟨"SequencepointModel", "isSigned", "(I)Z"⟩ : Jvm.MethodName) prog_14_method_8_code 1 (some .boolean)).before args0 about = true :=
  su_hand_word (m := ⟨10, 6⟩) (by decide +kernel) rfl (by decide +kernel) (by decide +kernel)
set_option maxRecDepth 16384 in
theorem od1.code213 : (Jvm.Cond.code (⟨"SequencepointModel$Node", "<init>", "(ICI[LSequencepointModel$Node;)V"⟩ : Jvm.MethodName) prog_17_method_1_code 9 none).before args0 about = true :=
  su_hand_word (m := ⟨15, 0⟩) (by decide +kernel) rfl (by decide +kernel) (by decide +kernel)
set_option maxRecDepth 16384 in
theorem od1.code214 : (Jvm.Cond.code (⟨"SequencepointModel", "added", "(LSequencepointModel$Node;)I"⟩ : Jvm.MethodName) prog_14_method_18_code 6 (some .int)).before args0 about = true :=
  su_hand_word (m := ⟨10, 16⟩) (by decide +kernel) rfl (by decide +kernel) (by decide +kernel)
set_option maxRecDepth 16384 in
theorem od1.code215 : (Jvm.Cond.code (⟨"SequencepointModel", "name", "(I)I"⟩ : Jvm.MethodName) prog_14_method_20_code 4 (some .int)).before args0 about = true :=
  su_hand_word (m := ⟨10, 18⟩) (by decide +kernel) rfl (by decide +kernel) (by decide +kernel)
set_option maxRecDepth 16384 in
theorem od1.code216 : (Jvm.Cond.code (⟨"SequencepointModel", "unary", "(CI)I"⟩ : Jvm.MethodName) prog_14_method_24_code 6 (some .int)).before args0 about = true :=
  su_hand_word (m := ⟨10, 22⟩) (by decide +kernel) rfl (by decide +kernel) (by decide +kernel)
set_option maxRecDepth 16384 in
theorem od1.code217 : (Jvm.Cond.code (⟨"SequencepointModel", "isOneOf", "(Ljava/lang/CharSequence;C)Z"⟩ : Jvm.MethodName) prog_14_method_23_code 4 (some .boolean)).before args0 about = true :=
  su_hand_word (m := ⟨10, 21⟩) (by decide +kernel) rfl (by decide +kernel) (by decide +kernel)
set_option maxRecDepth 16384 in
theorem od1.code218 : (Jvm.Cond.code (⟨"java/lang/StringBuilder", "length", "()I"⟩ : Jvm.MethodName) prog_40_method_93_code 1 (some .int)).before args0 about = true :=
  su_hand_word (m := ⟨49, 4⟩) (by decide +kernel) rfl (by decide +kernel) (by decide +kernel)
set_option maxRecDepth 16384 in
theorem od1.code219 : (Jvm.Cond.code (⟨"java/lang/AbstractStringBuilder", "length", "()I"⟩ : Jvm.MethodName) prog_22_method_6_code 1 (some .int)).before args0 about = true :=
  su_hand_word (m := ⟨44, 1⟩) (by decide +kernel) rfl (by decide +kernel) (by decide +kernel)
set_option maxRecDepth 16384 in
theorem od1.code220 : (Jvm.Cond.code (⟨"java/lang/StringBuilder", "charAt", "(I)C"⟩ : Jvm.MethodName) prog_40_method_88_code 2 (some .char)).before args0 about = true :=
  su_hand_word (m := ⟨49, 3⟩) (by decide +kernel) rfl (by decide +kernel) (by decide +kernel)
set_option maxRecDepth 16384 in
theorem od1.code221 : (Jvm.Cond.code (⟨"java/lang/AbstractStringBuilder", "charAt", "(I)C"⟩ : Jvm.MethodName) prog_22_method_14_code 5 (some .char)).before args0 about = true :=
  su_hand_word (m := ⟨44, 5⟩) (by decide +kernel) rfl (by decide +kernel) (by decide +kernel)
set_option maxRecDepth 16384 in
theorem od1.code222 : (Jvm.Cond.code (⟨"java/lang/String", "checkIndex", "(II)V"⟩ : Jvm.MethodName) prog_39_method_155_code 2 none).before args0 about = true :=
  su_hand_word (m := ⟨40, 5⟩) (by decide +kernel) rfl (by decide +kernel) (by decide +kernel)
set_option maxRecDepth 16384 in
theorem od1.code223 : (Jvm.Cond.code (⟨"jdk/internal/util/Preconditions", "checkIndex", "(IILjava/util/function/BiFunction;)I"⟩ : Jvm.MethodName) prog_61_method_11_code 3 (some .int)).before args0 about = true :=
  su_hand_word (m := ⟨18, 0⟩) (by decide +kernel) rfl (by decide +kernel) (by decide +kernel)
set_option maxRecDepth 16384 in
theorem od1.code224 : (Jvm.Cond.code (⟨"SequencepointModel", "isNoNode", "(I)Z"⟩ : Jvm.MethodName) prog_14_method_21_code 2 (some .boolean)).before args0 about = true :=
  su_hand_word (m := ⟨10, 19⟩) (by decide +kernel) rfl (by decide +kernel) (by decide +kernel)
set_option maxRecDepth 16384 in
theorem od1.code225 : (Jvm.Cond.code (⟨"SequencepointModel$Node", "isPlace", "()Z"⟩ : Jvm.MethodName) prog_17_method_2_code 1 (some .boolean)).before args0 about = true :=
  su_hand_word (m := ⟨15, 1⟩) (by decide +kernel) rfl (by decide +kernel) (by decide +kernel)
set_option maxRecDepth 16384 in
theorem od1.code226 : (Jvm.Cond.code (⟨"SequencepointModel", "areFree", "([LSequencepointModel$Node;)Z"⟩ : Jvm.MethodName) prog_14_method_22_code 5 (some .boolean)).before args0 about = true :=
  su_hand_word (m := ⟨10, 20⟩) (by decide +kernel) rfl (by decide +kernel) (by decide +kernel)
set_option maxRecDepth 16384 in
theorem od1.code227 : (Jvm.Cond.code (⟨"SequencepointModel", "promoted", "(I)I"⟩ : Jvm.MethodName) prog_14_method_12_code 1 (some .int)).before args0 about = true :=
  su_hand_word (m := ⟨10, 10⟩) (by decide +kernel) rfl (by decide +kernel) (by decide +kernel)
set_option maxRecDepth 16384 in
theorem od1.code228 : (Jvm.Cond.code (⟨"SequencepointModel", "cast", "(II)I"⟩ : Jvm.MethodName) prog_14_method_25_code 3 (some .int)).before args0 about = true :=
  su_hand_word (m := ⟨10, 23⟩) (by decide +kernel) rfl (by decide +kernel) (by decide +kernel)
set_option maxRecDepth 16384 in
theorem od1.code229 : (Jvm.Cond.code (⟨"SequencepointModel", "binary", "(CII)I"⟩ : Jvm.MethodName) prog_14_method_27_code 5 (some .int)).before args0 about = true :=
  su_hand_word (m := ⟨10, 25⟩) (by decide +kernel) rfl (by decide +kernel) (by decide +kernel)
set_option maxRecDepth 16384 in
theorem od1.code230 : (Jvm.Cond.code (⟨"SequencepointModel", "fitting", "(CII)I"⟩ : Jvm.MethodName) prog_14_method_26_code 4 (some .int)).before args0 about = true :=
  su_hand_word (m := ⟨10, 24⟩) (by decide +kernel) rfl (by decide +kernel) (by decide +kernel)
set_option maxRecDepth 16384 in
theorem od1.code231 : (Jvm.Cond.code (⟨"SequencepointModel", "common", "(II)I"⟩ : Jvm.MethodName) prog_14_method_13_code 4 (some .int)).before args0 about = true :=
  su_hand_word (m := ⟨10, 11⟩) (by decide +kernel) rfl (by decide +kernel) (by decide +kernel)
set_option maxRecDepth 16384 in
theorem od1.codes_are_7 : tables_1_7.filter su_isCode = [Jvm.Cond.code (⟨"SequencepointModel", "<init>", "()V"⟩ : Jvm.MethodName) prog_14_method_1_code 1 none,
    Jvm.Cond.code (⟨"SequencepointModel", "addVariable", "(IIZ)I"⟩ : Jvm.MethodName) prog_14_method_14_code 4 (some .int),
    Jvm.Cond.code (⟨"SequencepointModel", "isType", "(I)Z"⟩ : Jvm.MethodName) prog_14_method_7_code 1 (some .boolean),
    Jvm.Cond.code (⟨"SequencepointModel", "isNumber", "(I)Z"⟩ : Jvm.MethodName) prog_14_method_5_code 1 (some .boolean),
    Jvm.Cond.code (⟨"SequencepointModel", "isIn", "(III)Z"⟩ : Jvm.MethodName) prog_14_method_3_code 3 (some .boolean),
    Jvm.Cond.code (⟨"SequencepointModel", "isPointer", "(I)Z"⟩ : Jvm.MethodName) prog_14_method_6_code 1 (some .boolean),
    Jvm.Cond.code (⟨"SequencepointModel", "isThrown", "(ZI)Z"⟩ : Jvm.MethodName) prog_14_method_4_code 3 (some .boolean),
    Jvm.Cond.code (⟨"SequencepointModel", "addFunction", "(III)I"⟩ : Jvm.MethodName) prog_14_method_16_code 4 (some .int),
    Jvm.Cond.code (⟨"SequencepointModel", "isNoParameter", "(I)Z"⟩ : Jvm.MethodName) prog_14_method_15_code 2 (some .boolean),
    Jvm.Cond.code (⟨"SequencepointModel", "setBody", "(II)I"⟩ : Jvm.MethodName) prog_14_method_17_code 9 (some .int),
    Jvm.Cond.code (⟨"SequencepointModel", "number", "(II)I"⟩ : Jvm.MethodName) prog_14_method_19_code 4 (some .int),
    Jvm.Cond.code (⟨"SequencepointModel", "holds", "(IJ)Z"⟩ : Jvm.MethodName) prog_14_method_10_code 5 (some .boolean),
    Jvm.Cond.code (⟨"SequencepointModel", "bits", "(I)I"⟩ : Jvm.MethodName) prog_14_method_9_code 1 (some .int),
    Jvm.Cond.code (⟨"SequencepointModel", "isSigned", "(I)Z"⟩ : Jvm.MethodName) prog_14_method_8_code 1 (some .boolean),
    Jvm.Cond.code (⟨"SequencepointModel$Node", "<init>", "(ICI[LSequencepointModel$Node;)V"⟩ : Jvm.MethodName) prog_17_method_1_code 9 none,
    Jvm.Cond.code (⟨"SequencepointModel", "added", "(LSequencepointModel$Node;)I"⟩ : Jvm.MethodName) prog_14_method_18_code 6 (some .int),
    Jvm.Cond.code (⟨"SequencepointModel", "name", "(I)I"⟩ : Jvm.MethodName) prog_14_method_20_code 4 (some .int),
    Jvm.Cond.code (⟨"SequencepointModel", "unary", "(CI)I"⟩ : Jvm.MethodName) prog_14_method_24_code 6 (some .int),
    Jvm.Cond.code (⟨"SequencepointModel", "isOneOf", "(Ljava/lang/CharSequence;C)Z"⟩ : Jvm.MethodName) prog_14_method_23_code 4 (some .boolean),
    Jvm.Cond.code (⟨"java/lang/StringBuilder", "length", "()I"⟩ : Jvm.MethodName) prog_40_method_93_code 1 (some .int),
    Jvm.Cond.code (⟨"java/lang/AbstractStringBuilder", "length", "()I"⟩ : Jvm.MethodName) prog_22_method_6_code 1 (some .int),
    Jvm.Cond.code (⟨"java/lang/StringBuilder", "charAt", "(I)C"⟩ : Jvm.MethodName) prog_40_method_88_code 2 (some .char),
    Jvm.Cond.code (⟨"java/lang/AbstractStringBuilder", "charAt", "(I)C"⟩ : Jvm.MethodName) prog_22_method_14_code 5 (some .char),
    Jvm.Cond.code (⟨"java/lang/String", "checkIndex", "(II)V"⟩ : Jvm.MethodName) prog_39_method_155_code 2 none,
    Jvm.Cond.code (⟨"jdk/internal/util/Preconditions", "checkIndex", "(IILjava/util/function/BiFunction;)I"⟩ : Jvm.MethodName) prog_61_method_11_code 3 (some .int),
    Jvm.Cond.code (⟨"SequencepointModel", "isNoNode", "(I)Z"⟩ : Jvm.MethodName) prog_14_method_21_code 2 (some .boolean),
    Jvm.Cond.code (⟨"SequencepointModel$Node", "isPlace", "()Z"⟩ : Jvm.MethodName) prog_17_method_2_code 1 (some .boolean),
    Jvm.Cond.code (⟨"SequencepointModel", "areFree", "([LSequencepointModel$Node;)Z"⟩ : Jvm.MethodName) prog_14_method_22_code 5 (some .boolean),
    Jvm.Cond.code (⟨"SequencepointModel", "promoted", "(I)I"⟩ : Jvm.MethodName) prog_14_method_12_code 1 (some .int),
    Jvm.Cond.code (⟨"SequencepointModel", "cast", "(II)I"⟩ : Jvm.MethodName) prog_14_method_25_code 3 (some .int),
    Jvm.Cond.code (⟨"SequencepointModel", "binary", "(CII)I"⟩ : Jvm.MethodName) prog_14_method_27_code 5 (some .int),
    Jvm.Cond.code (⟨"SequencepointModel", "fitting", "(CII)I"⟩ : Jvm.MethodName) prog_14_method_26_code 4 (some .int),
    Jvm.Cond.code (⟨"SequencepointModel", "common", "(II)I"⟩ : Jvm.MethodName) prog_14_method_13_code 4 (some .int)] := by
  first
  | rfl
  | simp only [tables_1_7, List.filter, su_isCode]
set_option maxRecDepth 16384 in
theorem od1.codes_hold_7 : ∀ c ∈ tables_1_7.filter su_isCode, c.before args0 about = true := by
  rw [codes_are_7]
  exact List.forall_mem_cons.mpr ⟨code199, List.forall_mem_cons.mpr ⟨code200, List.forall_mem_cons.mpr ⟨code201, List.forall_mem_cons.mpr ⟨code202, List.forall_mem_cons.mpr ⟨code203, List.forall_mem_cons.mpr ⟨code204, List.forall_mem_cons.mpr ⟨code205, List.forall_mem_cons.mpr ⟨code206, List.forall_mem_cons.mpr ⟨code207, List.forall_mem_cons.mpr ⟨code208, List.forall_mem_cons.mpr ⟨code209, List.forall_mem_cons.mpr ⟨code210, List.forall_mem_cons.mpr ⟨code211, List.forall_mem_cons.mpr ⟨code212, List.forall_mem_cons.mpr ⟨code213, List.forall_mem_cons.mpr ⟨code214, List.forall_mem_cons.mpr ⟨code215, List.forall_mem_cons.mpr ⟨code216, List.forall_mem_cons.mpr ⟨code217, List.forall_mem_cons.mpr ⟨code218, List.forall_mem_cons.mpr ⟨code219, List.forall_mem_cons.mpr ⟨code220, List.forall_mem_cons.mpr ⟨code221, List.forall_mem_cons.mpr ⟨code222, List.forall_mem_cons.mpr ⟨code223, List.forall_mem_cons.mpr ⟨code224, List.forall_mem_cons.mpr ⟨code225, List.forall_mem_cons.mpr ⟨code226, List.forall_mem_cons.mpr ⟨code227, List.forall_mem_cons.mpr ⟨code228, List.forall_mem_cons.mpr ⟨code229, List.forall_mem_cons.mpr ⟨code230, List.forall_mem_cons.mpr ⟨code231, List.forall_mem_nil _⟩⟩⟩⟩⟩⟩⟩⟩⟩⟩⟩⟩⟩⟩⟩⟩⟩⟩⟩⟩⟩⟩⟩⟩⟩⟩⟩⟩⟩⟩⟩⟩⟩
set_option maxRecDepth 16384 in
theorem od1.others_7_0 : (tables_1_7.take 36).all (fun c => su_isCode c || c.before args0 about) = true := by decide +kernel
set_option maxRecDepth 16384 in
theorem od1.others_7_1 : ((tables_1_7.drop 36).take 35).all (fun c => su_isCode c || c.before args0 about) = true := by decide +kernel
set_option maxRecDepth 16384 in
theorem od1.others_7_2 : (((tables_1_7.drop 36).drop 35).take 35).all (fun c => su_isCode c || c.before args0 about) = true := by decide +kernel
set_option maxRecDepth 16384 in
theorem od1.others_7_3 : ((((tables_1_7.drop 36).drop 35).drop 35).take 40).all (fun c => su_isCode c || c.before args0 about) = true := by decide +kernel
set_option maxRecDepth 16384 in
theorem od1.others_7_4 : (((((tables_1_7.drop 36).drop 35).drop 35).drop 40).take 40).all (fun c => su_isCode c || c.before args0 about) = true := by decide +kernel
set_option maxRecDepth 16384 in
theorem od1.others_7_5 : ((((((tables_1_7.drop 36).drop 35).drop 35).drop 40).drop 40).take 31).all (fun c => su_isCode c || c.before args0 about) = true := by decide +kernel
set_option maxRecDepth 16384 in
theorem od1.others_7_6 : ((((((tables_1_7.drop 36).drop 35).drop 35).drop 40).drop 40).drop 31).all (fun c => su_isCode c || c.before args0 about) = true := by decide +kernel
set_option maxRecDepth 16384 in
theorem od1.others_hold_7 : tables_1_7.all (fun c => su_isCode c || c.before args0 about) = true := su_all_split _ 36 tables_1_7 others_7_0 (su_all_split _ 35 (tables_1_7.drop 36) others_7_1 (su_all_split _ 35 ((tables_1_7.drop 36).drop 35) others_7_2 (su_all_split _ 40 (((tables_1_7.drop 36).drop 35).drop 35) others_7_3 (su_all_split _ 40 ((((tables_1_7.drop 36).drop 35).drop 35).drop 40) others_7_4 (su_all_split _ 31 (((((tables_1_7.drop 36).drop 35).drop 35).drop 40).drop 40) others_7_5 others_7_6)))))
set_option maxRecDepth 16384 in
theorem od1.words_7 : ∀ c ∈ tables_1_7, c.before args0 about = true := fun c h => su_words others_hold_7 codes_hold_7 c h
set_option maxRecDepth 16384 in
theorem od1.code232 : (Jvm.Cond.code (⟨"SequencepointModel", "choose", "(III)I"⟩ : Jvm.MethodName) prog_14_method_28_code 7 (some .int)).before args0 about = true :=
  su_hand_word (m := ⟨10, 26⟩) (by decide +kernel) rfl (by decide +kernel) (by decide +kernel)
set_option maxRecDepth 16384 in
theorem od1.code233 : (Jvm.Cond.code (⟨"SequencepointModel", "assign", "(CII)I"⟩ : Jvm.MethodName) prog_14_method_29_code 7 (some .int)).before args0 about = true :=
  su_hand_word (m := ⟨10, 27⟩) (by decide +kernel) rfl (by decide +kernel) (by decide +kernel)
set_option maxRecDepth 16384 in
theorem od1.code234 : (Jvm.Cond.code (⟨"SequencepointModel", "call", "(III)I"⟩ : Jvm.MethodName) prog_14_method_31_code 8 (some .int)).before args0 about = true :=
  su_hand_word (m := ⟨10, 29⟩) (by decide +kernel) rfl (by decide +kernel) (by decide +kernel)
set_option maxRecDepth 16384 in
theorem od1.code235 : (Jvm.Cond.code (⟨"SequencepointModel", "fitsParameter", "(II)Z"⟩ : Jvm.MethodName) prog_14_method_30_code 3 (some .boolean)).before args0 about = true :=
  su_hand_word (m := ⟨10, 28⟩) (by decide +kernel) rfl (by decide +kernel) (by decide +kernel)
set_option maxRecDepth 16384 in
theorem od1.code236 : (Jvm.Cond.code (⟨"SequencepointModel", "typeOf", "(I)I"⟩ : Jvm.MethodName) prog_14_method_32_code 2 (some .int)).before args0 about = true :=
  su_hand_word (m := ⟨10, 30⟩) (by decide +kernel) rfl (by decide +kernel) (by decide +kernel)
set_option maxRecDepth 16384 in
theorem od1.code237 : (Jvm.Cond.code (⟨"SequencepointModel", "simple", "(CI)I"⟩ : Jvm.MethodName) prog_14_method_36_code 3 (some .int)).before args0 about = true :=
  su_hand_word (m := ⟨10, 34⟩) (by decide +kernel) rfl (by decide +kernel) (by decide +kernel)
set_option maxRecDepth 16384 in
theorem od1.code238 : (Jvm.Cond.code (⟨"SequencepointModel$Statement", "<init>", "(CLSequencepointModel$Node;LSequencepointModel$Statement;LSequencepointModel$Statement;)V"⟩ : Jvm.MethodName) prog_19_method_1_code 5 none).before args0 about = true :=
  su_hand_word (m := ⟨20, 0⟩) (by decide +kernel) rfl (by decide +kernel) (by decide +kernel)
set_option maxRecDepth 16384 in
theorem od1.code239 : (Jvm.Cond.code (⟨"SequencepointModel", "added", "(LSequencepointModel$Statement;)I"⟩ : Jvm.MethodName) prog_14_method_33_code 2 (some .int)).before args0 about = true :=
  su_hand_word (m := ⟨10, 31⟩) (by decide +kernel) rfl (by decide +kernel) (by decide +kernel)
set_option maxRecDepth 16384 in
theorem od1.code240 : (Jvm.Cond.code (⟨"SequencepointModel", "declare", "(I)I"⟩ : Jvm.MethodName) prog_14_method_37_code 3 (some .int)).before args0 about = true :=
  su_hand_word (m := ⟨10, 35⟩) (by decide +kernel) rfl (by decide +kernel) (by decide +kernel)
set_option maxRecDepth 16384 in
theorem od1.code241 : (Jvm.Cond.code (⟨"SequencepointModel", "branch", "(III)I"⟩ : Jvm.MethodName) prog_14_method_38_code 6 (some .int)).before args0 about = true :=
  su_hand_word (m := ⟨10, 36⟩) (by decide +kernel) rfl (by decide +kernel) (by decide +kernel)
set_option maxRecDepth 16384 in
theorem od1.code242 : (Jvm.Cond.code (⟨"SequencepointModel", "isNoStatement", "(I)Z"⟩ : Jvm.MethodName) prog_14_method_35_code 2 (some .boolean)).before args0 about = true :=
  su_hand_word (m := ⟨10, 33⟩) (by decide +kernel) rfl (by decide +kernel) (by decide +kernel)
set_option maxRecDepth 16384 in
theorem od1.code243 : (Jvm.Cond.code (⟨"SequencepointModel", "isFree", "(LSequencepointModel$Statement;)Z"⟩ : Jvm.MethodName) prog_14_method_34_code 1 (some .boolean)).before args0 about = true :=
  su_hand_word (m := ⟨10, 32⟩) (by decide +kernel) rfl (by decide +kernel) (by decide +kernel)
set_option maxRecDepth 16384 in
theorem od1.code244 : (Jvm.Cond.code (⟨"SequencepointModel", "repeat", "(II)I"⟩ : Jvm.MethodName) prog_14_method_39_code 3 (some .int)).before args0 about = true :=
  su_hand_word (m := ⟨10, 37⟩) (by decide +kernel) rfl (by decide +kernel) (by decide +kernel)
set_option maxRecDepth 16384 in
theorem od1.code245 : (Jvm.Cond.code (⟨"SequencepointModel", "then", "(II)I"⟩ : Jvm.MethodName) prog_14_method_40_code 3 (some .int)).before args0 about = true :=
  su_hand_word (m := ⟨10, 38⟩) (by decide +kernel) rfl (by decide +kernel) (by decide +kernel)
set_option maxRecDepth 16384 in
theorem od1.code246 : (Jvm.Cond.code (⟨"SequencepointModel", "block", "(I)I"⟩ : Jvm.MethodName) prog_14_method_41_code 2 (some .int)).before args0 about = true :=
  su_hand_word (m := ⟨10, 39⟩) (by decide +kernel) rfl (by decide +kernel) (by decide +kernel)
set_option maxRecDepth 16384 in
theorem od1.code247 : (Jvm.Cond.code (⟨"SequencepointModel", "run", "(I)C"⟩ : Jvm.MethodName) prog_14_method_48_code 2 (some .char)).before args0 about = true :=
  su_hand_word (m := ⟨10, 46⟩) (by decide +kernel) rfl (by decide +kernel) (by decide +kernel)
set_option maxRecDepth 16384 in
theorem od1.code248 : (Jvm.Cond.code (⟨"SequencepointModel", "isNoProgram", "()Z"⟩ : Jvm.MethodName) prog_14_method_45_code 1 (some .boolean)).before args0 about = true :=
  su_hand_word (m := ⟨10, 43⟩) (by decide +kernel) rfl (by decide +kernel) (by decide +kernel)
set_option maxRecDepth 16384 in
theorem od1.code249 : (Jvm.Cond.code (⟨"SequencepointModel", "runs", "([LSequencepointModel$Statement;I)C"⟩ : Jvm.MethodName) prog_14_method_47_code 3 (some .char)).before args0 about = true :=
  su_hand_word (m := ⟨10, 45⟩) (by decide +kernel) rfl (by decide +kernel) (by decide +kernel)
set_option maxRecDepth 16384 in
theorem od1.code250 : (Jvm.Cond.code (⟨"SequencepointModel", "ran", "([LSequencepointModel$Statement;I)LSequencepointModel$Run;"⟩ : Jvm.MethodName) prog_14_method_46_code 4 (some (.object "SequencepointModel$Run"))).before args0 about = true :=
  su_hand_word (m := ⟨10, 44⟩) (by decide +kernel) rfl (by decide +kernel) (by decide +kernel)
set_option maxRecDepth 16384 in
theorem od1.code251 : (Jvm.Cond.code (⟨"SequencepointModel$Run", "<init>", "(LSequencepointModel;[LSequencepointModel$Statement;I)V"⟩ : Jvm.MethodName) prog_18_method_1_code 4 none).before args0 about = true :=
  su_hand_word (m := ⟨21, 0⟩) (by decide +kernel) rfl (by decide +kernel) (by decide +kernel)
set_option maxRecDepth 16384 in
theorem od1.code252 : (Jvm.Cond.code (⟨"java/util/ArrayList", "<init>", "()V"⟩ : Jvm.MethodName) prog_50_method_2_code 1 none).before args0 about = true :=
  su_hand_word (m := ⟨61, 0⟩) (by decide +kernel) rfl (by decide +kernel) (by decide +kernel)
set_option maxRecDepth 16384 in
theorem od1.code253 : (Jvm.Cond.code (⟨"java/util/AbstractList", "<init>", "()V"⟩ : Jvm.MethodName) prog_49_method_1_code 1 none).before args0 about = true :=
  su_hand_word (m := ⟨59, 0⟩) (by decide +kernel) rfl (by decide +kernel) (by decide +kernel)
set_option maxRecDepth 16384 in
theorem od1.code254 : (Jvm.Cond.code (⟨"java/util/AbstractCollection", "<init>", "()V"⟩ : Jvm.MethodName) prog_48_method_1_code 1 none).before args0 about = true :=
  su_hand_word (m := ⟨47, 0⟩) (by decide +kernel) rfl (by decide +kernel) (by decide +kernel)
set_option maxRecDepth 16384 in
theorem od1.code255 : (Jvm.Cond.code (⟨"SequencepointModel$Run", "comes", "(I)I"⟩ : Jvm.MethodName) prog_18_method_3_code 2 (some .int)).before args0 about = true :=
  su_hand_word (m := ⟨21, 2⟩) (by decide +kernel) rfl (by decide +kernel) (by decide +kernel)
set_option maxRecDepth 16384 in
theorem od1.code256 : (Jvm.Cond.code (⟨"SequencepointModel$Thing", "<init>", "(I)V"⟩ : Jvm.MethodName) prog_20_method_1_code 2 none).before args0 about = true :=
  su_hand_word (m := ⟨22, 0⟩) (by decide +kernel) rfl (by decide +kernel) (by decide +kernel)
set_option maxRecDepth 16384 in
theorem od1.code257 : (Jvm.Cond.code (⟨"java/util/ArrayList", "add", "(Ljava/lang/Object;)Z"⟩ : Jvm.MethodName) prog_50_method_25_code 2 (some .boolean)).before args0 about = true :=
  su_hand_word (m := ⟨61, 7⟩) (by decide +kernel) rfl (by decide +kernel) (by decide +kernel)
set_option maxRecDepth 16384 in
theorem od1.code258 : (Jvm.Cond.code (⟨"java/util/ArrayList", "add", "(Ljava/lang/Object;[Ljava/lang/Object;I)V"⟩ : Jvm.MethodName) prog_50_method_24_code 4 none).before args0 about = true :=
  su_hand_word (m := ⟨61, 6⟩) (by decide +kernel) rfl (by decide +kernel) (by decide +kernel)
set_option maxRecDepth 16384 in
theorem od1.codes_are_8 : tables_1_8.filter su_isCode = [Jvm.Cond.code (⟨"SequencepointModel", "choose", "(III)I"⟩ : Jvm.MethodName) prog_14_method_28_code 7 (some .int),
    Jvm.Cond.code (⟨"SequencepointModel", "assign", "(CII)I"⟩ : Jvm.MethodName) prog_14_method_29_code 7 (some .int),
    Jvm.Cond.code (⟨"SequencepointModel", "call", "(III)I"⟩ : Jvm.MethodName) prog_14_method_31_code 8 (some .int),
    Jvm.Cond.code (⟨"SequencepointModel", "fitsParameter", "(II)Z"⟩ : Jvm.MethodName) prog_14_method_30_code 3 (some .boolean),
    Jvm.Cond.code (⟨"SequencepointModel", "typeOf", "(I)I"⟩ : Jvm.MethodName) prog_14_method_32_code 2 (some .int),
    Jvm.Cond.code (⟨"SequencepointModel", "simple", "(CI)I"⟩ : Jvm.MethodName) prog_14_method_36_code 3 (some .int),
    Jvm.Cond.code (⟨"SequencepointModel$Statement", "<init>", "(CLSequencepointModel$Node;LSequencepointModel$Statement;LSequencepointModel$Statement;)V"⟩ : Jvm.MethodName) prog_19_method_1_code 5 none,
    Jvm.Cond.code (⟨"SequencepointModel", "added", "(LSequencepointModel$Statement;)I"⟩ : Jvm.MethodName) prog_14_method_33_code 2 (some .int),
    Jvm.Cond.code (⟨"SequencepointModel", "declare", "(I)I"⟩ : Jvm.MethodName) prog_14_method_37_code 3 (some .int),
    Jvm.Cond.code (⟨"SequencepointModel", "branch", "(III)I"⟩ : Jvm.MethodName) prog_14_method_38_code 6 (some .int),
    Jvm.Cond.code (⟨"SequencepointModel", "isNoStatement", "(I)Z"⟩ : Jvm.MethodName) prog_14_method_35_code 2 (some .boolean),
    Jvm.Cond.code (⟨"SequencepointModel", "isFree", "(LSequencepointModel$Statement;)Z"⟩ : Jvm.MethodName) prog_14_method_34_code 1 (some .boolean),
    Jvm.Cond.code (⟨"SequencepointModel", "repeat", "(II)I"⟩ : Jvm.MethodName) prog_14_method_39_code 3 (some .int),
    Jvm.Cond.code (⟨"SequencepointModel", "then", "(II)I"⟩ : Jvm.MethodName) prog_14_method_40_code 3 (some .int),
    Jvm.Cond.code (⟨"SequencepointModel", "block", "(I)I"⟩ : Jvm.MethodName) prog_14_method_41_code 2 (some .int),
    Jvm.Cond.code (⟨"SequencepointModel", "run", "(I)C"⟩ : Jvm.MethodName) prog_14_method_48_code 2 (some .char),
    Jvm.Cond.code (⟨"SequencepointModel", "isNoProgram", "()Z"⟩ : Jvm.MethodName) prog_14_method_45_code 1 (some .boolean),
    Jvm.Cond.code (⟨"SequencepointModel", "runs", "([LSequencepointModel$Statement;I)C"⟩ : Jvm.MethodName) prog_14_method_47_code 3 (some .char),
    Jvm.Cond.code (⟨"SequencepointModel", "ran", "([LSequencepointModel$Statement;I)LSequencepointModel$Run;"⟩ : Jvm.MethodName) prog_14_method_46_code 4 (some (.object "SequencepointModel$Run")),
    Jvm.Cond.code (⟨"SequencepointModel$Run", "<init>", "(LSequencepointModel;[LSequencepointModel$Statement;I)V"⟩ : Jvm.MethodName) prog_18_method_1_code 4 none,
    Jvm.Cond.code (⟨"java/util/ArrayList", "<init>", "()V"⟩ : Jvm.MethodName) prog_50_method_2_code 1 none,
    Jvm.Cond.code (⟨"java/util/AbstractList", "<init>", "()V"⟩ : Jvm.MethodName) prog_49_method_1_code 1 none,
    Jvm.Cond.code (⟨"java/util/AbstractCollection", "<init>", "()V"⟩ : Jvm.MethodName) prog_48_method_1_code 1 none,
    Jvm.Cond.code (⟨"SequencepointModel$Run", "comes", "(I)I"⟩ : Jvm.MethodName) prog_18_method_3_code 2 (some .int),
    Jvm.Cond.code (⟨"SequencepointModel$Thing", "<init>", "(I)V"⟩ : Jvm.MethodName) prog_20_method_1_code 2 none,
    Jvm.Cond.code (⟨"java/util/ArrayList", "add", "(Ljava/lang/Object;)Z"⟩ : Jvm.MethodName) prog_50_method_25_code 2 (some .boolean),
    Jvm.Cond.code (⟨"java/util/ArrayList", "add", "(Ljava/lang/Object;[Ljava/lang/Object;I)V"⟩ : Jvm.MethodName) prog_50_method_24_code 4 none] := by
  first
  | rfl
  | simp only [tables_1_8, List.filter, su_isCode]
set_option maxRecDepth 16384 in
theorem od1.codes_hold_8 : ∀ c ∈ tables_1_8.filter su_isCode, c.before args0 about = true := by
  rw [codes_are_8]
  exact List.forall_mem_cons.mpr ⟨code232, List.forall_mem_cons.mpr ⟨code233, List.forall_mem_cons.mpr ⟨code234, List.forall_mem_cons.mpr ⟨code235, List.forall_mem_cons.mpr ⟨code236, List.forall_mem_cons.mpr ⟨code237, List.forall_mem_cons.mpr ⟨code238, List.forall_mem_cons.mpr ⟨code239, List.forall_mem_cons.mpr ⟨code240, List.forall_mem_cons.mpr ⟨code241, List.forall_mem_cons.mpr ⟨code242, List.forall_mem_cons.mpr ⟨code243, List.forall_mem_cons.mpr ⟨code244, List.forall_mem_cons.mpr ⟨code245, List.forall_mem_cons.mpr ⟨code246, List.forall_mem_cons.mpr ⟨code247, List.forall_mem_cons.mpr ⟨code248, List.forall_mem_cons.mpr ⟨code249, List.forall_mem_cons.mpr ⟨code250, List.forall_mem_cons.mpr ⟨code251, List.forall_mem_cons.mpr ⟨code252, List.forall_mem_cons.mpr ⟨code253, List.forall_mem_cons.mpr ⟨code254, List.forall_mem_cons.mpr ⟨code255, List.forall_mem_cons.mpr ⟨code256, List.forall_mem_cons.mpr ⟨code257, List.forall_mem_cons.mpr ⟨code258, List.forall_mem_nil _⟩⟩⟩⟩⟩⟩⟩⟩⟩⟩⟩⟩⟩⟩⟩⟩⟩⟩⟩⟩⟩⟩⟩⟩⟩⟩⟩
set_option maxRecDepth 16384 in
theorem od1.others_8_0 : (tables_1_8.take 40).all (fun c => su_isCode c || c.before args0 about) = true := by decide +kernel
set_option maxRecDepth 16384 in
theorem od1.others_8_1 : ((tables_1_8.drop 40).take 40).all (fun c => su_isCode c || c.before args0 about) = true := by decide +kernel
set_option maxRecDepth 16384 in
theorem od1.others_8_2 : (((tables_1_8.drop 40).drop 40).take 36).all (fun c => su_isCode c || c.before args0 about) = true := by decide +kernel
set_option maxRecDepth 16384 in
theorem od1.others_8_3 : ((((tables_1_8.drop 40).drop 40).drop 36).take 40).all (fun c => su_isCode c || c.before args0 about) = true := by decide +kernel
