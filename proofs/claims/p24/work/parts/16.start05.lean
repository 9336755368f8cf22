set_option maxRecDepth 16384 in
theorem od1.code335 : (Jvm.Cond.code (⟨"java/lang/AbstractStringBuilder", "inflate", "()V"⟩ : Jvm.MethodName) prog_22_method_11_code 2 none).before args0 about = true :=
  su_hand_word (m := ⟨44, 4⟩) (by decide +kernel) rfl (by decide +kernel) (by decide +kernel)
set_option maxRecDepth 16384 in
theorem od1.code336 : (Jvm.Cond.code (⟨"java/lang/StringLatin1", "inflate", "([BI[BII)V"⟩ : Jvm.MethodName) prog_41_method_50_code 5 none).before args0 about = true :=
  su_hand_word (m := ⟨16, 4⟩) (by decide +kernel) rfl (by decide +kernel) (by decide +kernel)
set_option maxRecDepth 16384 in
theorem od1.code337 : (Jvm.Cond.code (⟨"java/lang/StringUTF16", "inflate", "([BI[BII)V"⟩ : Jvm.MethodName) prog_42_method_86_code 6 none).before args0 about = true :=
  su_hand_word (m := ⟨17, 11⟩) (by decide +kernel) rfl (by decide +kernel) (by decide +kernel)
set_option maxRecDepth 16384 in
theorem od1.code338 : (Jvm.Cond.code (⟨"java/lang/StringUTF16", "checkBoundsOffCount", "(II[B)V"⟩ : Jvm.MethodName) prog_42_method_94_code 3 none).before args0 about = true :=
  su_hand_word (m := ⟨17, 15⟩) (by decide +kernel) rfl (by decide +kernel) (by decide +kernel)
set_option maxRecDepth 16384 in
theorem od1.code339 : (Jvm.Cond.code (⟨"java/lang/String", "checkBoundsOffCount", "(III)I"⟩ : Jvm.MethodName) prog_39_method_157_code 3 (some .int)).before args0 about = true :=
  su_hand_word (m := ⟨40, 6⟩) (by decide +kernel) rfl (by decide +kernel) (by decide +kernel)
set_option maxRecDepth 16384 in
theorem od1.code340 : (Jvm.Cond.code (⟨"jdk/internal/util/Preconditions", "checkFromIndexSize", "(IIILjava/util/function/BiFunction;)I"⟩ : Jvm.MethodName) prog_61_method_13_code 4 (some .int)).before args0 about = true :=
  su_hand_word (m := ⟨18, 2⟩) (by decide +kernel) rfl (by decide +kernel) (by decide +kernel)
set_option maxRecDepth 16384 in
theorem od1.code341 : (Jvm.Cond.code (⟨"java/lang/StringUTF16", "putCharSB", "([BII)V"⟩ : Jvm.MethodName) prog_42_method_71_code 3 none).before args0 about = true :=
  su_hand_word (m := ⟨17, 9⟩) (by decide +kernel) rfl (by decide +kernel) (by decide +kernel)
set_option maxRecDepth 16384 in
theorem od1.code342 : (Jvm.Cond.code (⟨"java/lang/StringUTF16", "checkIndex", "(I[B)V"⟩ : Jvm.MethodName) prog_42_method_91_code 2 none).before args0 about = true :=
  su_hand_word (m := ⟨17, 13⟩) (by decide +kernel) rfl (by decide +kernel) (by decide +kernel)
set_option maxRecDepth 16384 in
theorem od1.code343 : (Jvm.Cond.code (⟨"SequencepointModel$Run", "prints", "(C)V"⟩ : Jvm.MethodName) prog_18_method_31_code 2 none).before args0 about = true :=
  su_hand_word (m := ⟨21, 30⟩) (by decide +kernel) rfl (by decide +kernel) (by decide +kernel)
set_option maxRecDepth 16384 in
theorem od1.code344 : (Jvm.Cond.code (⟨"SequencepointModel$Run", "repeats", "(LSequencepointModel$Statement;)Z"⟩ : Jvm.MethodName) prog_18_method_30_code 2 (some .boolean)).before args0 about = true :=
  su_hand_word (m := ⟨21, 29⟩) (by decide +kernel) rfl (by decide +kernel) (by decide +kernel)
set_option maxRecDepth 16384 in
theorem od1.codes_are_10 : tables_1_10.filter su_isCode = [Jvm.Cond.code (⟨"java/util/ArrayList$Itr", "hasNext", "()Z"⟩ : Jvm.MethodName) prog_51_method_2_code 1 (some .boolean),
    Jvm.Cond.code (⟨"java/util/ArrayList$Itr", "next", "()Ljava/lang/Object;"⟩ : Jvm.MethodName) prog_51_method_3_code 3 (some (.object "java/lang/Object")),
    Jvm.Cond.code (⟨"java/util/ArrayList$Itr", "checkForComodification", "()V"⟩ : Jvm.MethodName) prog_51_method_6_code 1 none,
    Jvm.Cond.code (⟨"java/util/NoSuchElementException", "<init>", "()V"⟩ : Jvm.MethodName) prog_56_method_1_code 1 none,
    Jvm.Cond.code (⟨"java/lang/RuntimeException", "<init>", "()V"⟩ : Jvm.MethodName) prog_38_method_1_code 1 none,
    Jvm.Cond.code (⟨"java/lang/Exception", "<init>", "()V"⟩ : Jvm.MethodName) prog_28_method_1_code 1 none,
    Jvm.Cond.code (⟨"java/lang/Integer", "intValue", "()I"⟩ : Jvm.MethodName) prog_32_method_27_code 1 (some .int),
    Jvm.Cond.code (⟨"SequencepointModel$Run", "assigned", "(LSequencepointModel$Node;)J"⟩ : Jvm.MethodName) prog_18_method_26_code 8 (some .long),
    Jvm.Cond.code (⟨"SequencepointModel$Run", "isWritten", "(IJ)Z"⟩ : Jvm.MethodName) prog_18_method_18_code 6 (some .boolean),
    Jvm.Cond.code (⟨"SequencepointModel$Run", "moved", "(JJLSequencepointModel$Node;)J"⟩ : Jvm.MethodName) prog_18_method_14_code 9 (some .long),
    Jvm.Cond.code (⟨"SequencepointModel", "reckon", "(CIJJ)J"⟩ : Jvm.MethodName) prog_14_method_42_code 10 (some .long),
    Jvm.Cond.code (⟨"SequencepointModel", "fits", "(IJ)J"⟩ : Jvm.MethodName) prog_14_method_43_code 4 (some .long),
    Jvm.Cond.code (⟨"SequencepointModel$Run", "known", "(LSequencepointModel$Node;J)J"⟩ : Jvm.MethodName) prog_18_method_23_code 4 (some .long),
    Jvm.Cond.code (⟨"SequencepointModel$Run", "writes", "(JJLSequencepointModel$Node;)V"⟩ : Jvm.MethodName) prog_18_method_13_code 7 none,
    Jvm.Cond.code (⟨"SequencepointModel$Run", "one", "(LSequencepointModel$Node;)J"⟩ : Jvm.MethodName) prog_18_method_22_code 4 (some .long),
    Jvm.Cond.code (⟨"SequencepointModel$Run", "counted", "(LSequencepointModel$Node;)J"⟩ : Jvm.MethodName) prog_18_method_25_code 11 (some .long),
    Jvm.Cond.code (⟨"SequencepointModel", "gives", "(LSequencepointModel$Node;JJ)J"⟩ : Jvm.MethodName) prog_14_method_44_code 12 (some .long),
    Jvm.Cond.code (⟨"SequencepointModel$Run", "both", "(LSequencepointModel$Node;)J"⟩ : Jvm.MethodName) prog_18_method_24_code 3 (some .long),
    Jvm.Cond.code (⟨"SequencepointModel$Run", "prints", "(J)V"⟩ : Jvm.MethodName) prog_18_method_32_code 5 none,
    Jvm.Cond.code (⟨"java/lang/StringBuilder", "<init>", "()V"⟩ : Jvm.MethodName) prog_40_method_1_code 1 none,
    Jvm.Cond.code (⟨"java/lang/AbstractStringBuilder", "<init>", "(I)V"⟩ : Jvm.MethodName) prog_22_method_2_code 2 none,
    Jvm.Cond.code (⟨"java/lang/StringUTF16", "newBytesFor", "(I)[B"⟩ : Jvm.MethodName) prog_42_method_2_code 1 (some (.array .byte)),
    Jvm.Cond.code (⟨"java/lang/StringUTF16", "newBytesLength", "(I)I"⟩ : Jvm.MethodName) prog_42_method_3_code 1 (some .int),
    Jvm.Cond.code (⟨"java/lang/StringBuilder", "append", "(J)Ljava/lang/StringBuilder;"⟩ : Jvm.MethodName) prog_40_method_16_code 3 (some (.object "java/lang/StringBuilder")),
    Jvm.Cond.code (⟨"java/lang/AbstractStringBuilder", "append", "(J)Ljava/lang/AbstractStringBuilder;"⟩ : Jvm.MethodName) prog_22_method_33_code 5 (some (.object "java/lang/AbstractStringBuilder")),
    Jvm.Cond.code (⟨"java/lang/Long", "stringSize", "(J)I"⟩ : Jvm.MethodName) prog_35_method_15_code 6 (some .int),
    Jvm.Cond.code (⟨"java/lang/AbstractStringBuilder", "ensureCapacityInternal", "(I)V"⟩ : Jvm.MethodName) prog_22_method_9_code 3 none,
    Jvm.Cond.code (⟨"java/lang/AbstractStringBuilder", "newCapacity", "(I)I"⟩ : Jvm.MethodName) prog_22_method_10_code 6 (some .int),
    Jvm.Cond.code (⟨"java/util/Arrays", "copyOf", "([BI)[B"⟩ : Jvm.MethodName) prog_52_method_121_code 3 (some (.array .byte)),
    Jvm.Cond.code (⟨"java/lang/AbstractStringBuilder", "isLatin1", "()Z"⟩ : Jvm.MethodName) prog_22_method_68_code 1 (some .boolean),
    Jvm.Cond.code (⟨"java/lang/Long", "getChars", "(JI[B)I"⟩ : Jvm.MethodName) prog_35_method_14_code 11 (some .int),
    Jvm.Cond.code (⟨"java/lang/StringUTF16", "getChars", "(JII[B)I"⟩ : Jvm.MethodName) prog_42_method_78_code 6 (some .int),
    Jvm.Cond.code (⟨"java/lang/StringUTF16", "getChars", "(JI[B)I"⟩ : Jvm.MethodName) prog_42_method_90_code 11 (some .int),
    Jvm.Cond.code (⟨"java/lang/StringUTF16", "putChar", "([BII)V"⟩ : Jvm.MethodName) prog_42_method_4_code 3 none,
    Jvm.Cond.code (⟨"java/lang/StringBuilder", "append", "(C)Ljava/lang/StringBuilder;"⟩ : Jvm.MethodName) prog_40_method_14_code 2 (some (.object "java/lang/StringBuilder")),
    Jvm.Cond.code (⟨"java/lang/AbstractStringBuilder", "append", "(C)Ljava/lang/AbstractStringBuilder;"⟩ : Jvm.MethodName) prog_22_method_31_code 2 (some (.object "java/lang/AbstractStringBuilder")),
    Jvm.Cond.code (⟨"java/lang/StringLatin1", "canEncode", "(C)Z"⟩ : Jvm.MethodName) prog_41_method_3_code 1 (some .boolean),
    Jvm.Cond.code (⟨"java/lang/AbstractStringBuilder", "inflate", "()V"⟩ : Jvm.MethodName) prog_22_method_11_code 2 none,
    Jvm.Cond.code (⟨"java/lang/StringLatin1", "inflate", "([BI[BII)V"⟩ : Jvm.MethodName) prog_41_method_50_code 5 none,
    Jvm.Cond.code (⟨"java/lang/StringUTF16", "inflate", "([BI[BII)V"⟩ : Jvm.MethodName) prog_42_method_86_code 6 none,
    Jvm.Cond.code (⟨"java/lang/StringUTF16", "checkBoundsOffCount", "(II[B)V"⟩ : Jvm.MethodName) prog_42_method_94_code 3 none,
    Jvm.Cond.code (⟨"java/lang/String", "checkBoundsOffCount", "(III)I"⟩ : Jvm.MethodName) prog_39_method_157_code 3 (some .int),
    Jvm.Cond.code (⟨"jdk/internal/util/Preconditions", "checkFromIndexSize", "(IIILjava/util/function/BiFunction;)I"⟩ : Jvm.MethodName) prog_61_method_13_code 4 (some .int),
    Jvm.Cond.code (⟨"java/lang/StringUTF16", "putCharSB", "([BII)V"⟩ : Jvm.MethodName) prog_42_method_71_code 3 none,
    Jvm.Cond.code (⟨"java/lang/StringUTF16", "checkIndex", "(I[B)V"⟩ : Jvm.MethodName) prog_42_method_91_code 2 none,
    Jvm.Cond.code (⟨"SequencepointModel$Run", "prints", "(C)V"⟩ : Jvm.MethodName) prog_18_method_31_code 2 none,
    Jvm.Cond.code (⟨"SequencepointModel$Run", "repeats", "(LSequencepointModel$Statement;)Z"⟩ : Jvm.MethodName) prog_18_method_30_code 2 (some .boolean)] := by
  first
  | rfl
  | simp only [tables_1_10, List.filter, su_isCode]
set_option maxRecDepth 16384 in
theorem od1.codes_hold_10 : ∀ c ∈ tables_1_10.filter su_isCode, c.before args0 about = true := by
  rw [codes_are_10]
  exact List.forall_mem_cons.mpr ⟨code298, List.forall_mem_cons.mpr ⟨code299, List.forall_mem_cons.mpr ⟨code300, List.forall_mem_cons.mpr ⟨code301, List.forall_mem_cons.mpr ⟨code302, List.forall_mem_cons.mpr ⟨code303, List.forall_mem_cons.mpr ⟨code304, List.forall_mem_cons.mpr ⟨code305, List.forall_mem_cons.mpr ⟨code306, List.forall_mem_cons.mpr ⟨code307, List.forall_mem_cons.mpr ⟨code308, List.forall_mem_cons.mpr ⟨code309, List.forall_mem_cons.mpr ⟨code310, List.forall_mem_cons.mpr ⟨code311, List.forall_mem_cons.mpr ⟨code312, List.forall_mem_cons.mpr ⟨code313, List.forall_mem_cons.mpr ⟨code314, List.forall_mem_cons.mpr ⟨code315, List.forall_mem_cons.mpr ⟨code316, List.forall_mem_cons.mpr ⟨code317, List.forall_mem_cons.mpr ⟨code318, List.forall_mem_cons.mpr ⟨code319, List.forall_mem_cons.mpr ⟨code320, List.forall_mem_cons.mpr ⟨code321, List.forall_mem_cons.mpr ⟨code322, List.forall_mem_cons.mpr ⟨code323, List.forall_mem_cons.mpr ⟨code324, List.forall_mem_cons.mpr ⟨code325, List.forall_mem_cons.mpr ⟨code326, List.forall_mem_cons.mpr ⟨code327, List.forall_mem_cons.mpr ⟨code328, List.forall_mem_cons.mpr ⟨code329, List.forall_mem_cons.mpr ⟨code330, List.forall_mem_cons.mpr ⟨code331, List.forall_mem_cons.mpr ⟨code332, List.forall_mem_cons.mpr ⟨code333, List.forall_mem_cons.mpr ⟨code334, List.forall_mem_cons.mpr ⟨code335, List.forall_mem_cons.mpr ⟨code336, List.forall_mem_cons.mpr ⟨code337, List.forall_mem_cons.mpr ⟨code338, List.forall_mem_cons.mpr ⟨code339, List.forall_mem_cons.mpr ⟨code340, List.forall_mem_cons.mpr ⟨code341, List.forall_mem_cons.mpr ⟨code342, List.forall_mem_cons.mpr ⟨code343, List.forall_mem_cons.mpr ⟨code344, List.forall_mem_nil _⟩⟩⟩⟩⟩⟩⟩⟩⟩⟩⟩⟩⟩⟩⟩⟩⟩⟩⟩⟩⟩⟩⟩⟩⟩⟩⟩⟩⟩⟩⟩⟩⟩⟩⟩⟩⟩⟩⟩⟩⟩⟩⟩⟩⟩⟩⟩
set_option maxRecDepth 16384 in
theorem od1.others_10_0 : (tables_1_10.take 40).all (fun c => su_isCode c || c.before args0 about) = true := by decide +kernel
set_option maxRecDepth 16384 in
theorem od1.others_10_1 : ((tables_1_10.drop 40).take 40).all (fun c => su_isCode c || c.before args0 about) = true := by decide +kernel
set_option maxRecDepth 16384 in
theorem od1.others_10_2 : (((tables_1_10.drop 40).drop 40).take 39).all (fun c => su_isCode c || c.before args0 about) = true := by decide +kernel
set_option maxRecDepth 16384 in
theorem od1.others_10_3 : ((((tables_1_10.drop 40).drop 40).drop 39).take 28).all (fun c => su_isCode c || c.before args0 about) = true := by decide +kernel
set_option maxRecDepth 16384 in
theorem od1.others_10_4 : (((((tables_1_10.drop 40).drop 40).drop 39).drop 28).take 23).all (fun c => su_isCode c || c.before args0 about) = true := by decide +kernel
set_option maxRecDepth 16384 in
theorem od1.others_10_5 : ((((((tables_1_10.drop 40).drop 40).drop 39).drop 28).drop 23).take 26).all (fun c => su_isCode c || c.before args0 about) = true := by decide +kernel
set_option maxRecDepth 16384 in
theorem od1.others_10_6 : (((((((tables_1_10.drop 40).drop 40).drop 39).drop 28).drop 23).drop 26).take 24).all (fun c => su_isCode c || c.before args0 about) = true := by decide +kernel
set_option maxRecDepth 16384 in
theorem od1.others_10_7 : (((((((tables_1_10.drop 40).drop 40).drop 39).drop 28).drop 23).drop 26).drop 24).all (fun c => su_isCode c || c.before args0 about) = true := by decide +kernel
set_option maxRecDepth 16384 in
theorem od1.others_hold_10 : tables_1_10.all (fun c => su_isCode c || c.before args0 about) = true := su_all_split _ 40 tables_1_10 others_10_0 (su_all_split _ 40 (tables_1_10.drop 40) others_10_1 (su_all_split _ 39 ((tables_1_10.drop 40).drop 40) others_10_2 (su_all_split _ 28 (((tables_1_10.drop 40).drop 40).drop 39) others_10_3 (su_all_split _ 23 ((((tables_1_10.drop 40).drop 40).drop 39).drop 28) others_10_4 (su_all_split _ 26 (((((tables_1_10.drop 40).drop 40).drop 39).drop 28).drop 23) others_10_5 (su_all_split _ 24 ((((((tables_1_10.drop 40).drop 40).drop 39).drop 28).drop 23).drop 26) others_10_6 others_10_7))))))
set_option maxRecDepth 16384 in
theorem od1.words_10 : ∀ c ∈ tables_1_10, c.before args0 about = true := fun c h => su_words others_hold_10 codes_hold_10 c h
set_option maxRecDepth 16384 in
theorem od1.code345 : (Jvm.Cond.code (⟨"SequencepointModel", "runOptimised", "(I)C"⟩ : Jvm.MethodName) prog_14_method_49_code 2 (some .char)).before args0 about = true :=
  su_hand_word (m := ⟨10, 47⟩) (by decide +kernel) rfl (by decide +kernel) (by decide +kernel)
set_option maxRecDepth 16384 in
theorem od1.code346 : (Jvm.Cond.code (⟨"SequencepointModel", "optimise", "()[LSequencepointModel$Statement;"⟩ : Jvm.MethodName) prog_14_method_62_code 3 (some (.array (.object "SequencepointModel$Statement")))).before args0 about = true :=
  su_hand_word (m := ⟨10, 60⟩) (by decide +kernel) rfl (by decide +kernel) (by decide +kernel)
set_option maxRecDepth 16384 in
theorem od1.code347 : (Jvm.Cond.code (⟨"SequencepointModel", "optimised", "(LSequencepointModel$Statement;)LSequencepointModel$Statement;"⟩ : Jvm.MethodName) prog_14_method_68_code 7 (some (.object "SequencepointModel$Statement"))).before args0 about = true :=
  su_hand_word (m := ⟨10, 66⟩) (by decide +kernel) rfl (by decide +kernel) (by decide +kernel)
set_option maxRecDepth 16384 in
theorem od1.code348 : (Jvm.Cond.code (⟨"SequencepointModel", "optimised", "(LSequencepointModel$Node;)LSequencepointModel$Node;"⟩ : Jvm.MethodName) prog_14_method_65_code 5 (some (.object "SequencepointModel$Node"))).before args0 about = true :=
  su_hand_word (m := ⟨10, 63⟩) (by decide +kernel) rfl (by decide +kernel) (by decide +kernel)
set_option maxRecDepth 16384 in
theorem od1.code349 : (Jvm.Cond.code (⟨"SequencepointModel", "isTold", "(LSequencepointModel$Node;)Z"⟩ : Jvm.MethodName) prog_14_method_63_code 1 (some .boolean)).before args0 about = true :=
  su_hand_word (m := ⟨10, 61⟩) (by decide +kernel) rfl (by decide +kernel) (by decide +kernel)
set_option maxRecDepth 16384 in
theorem od1.code350 : (Jvm.Cond.code (⟨"SequencepointModel", "chosen", "(LSequencepointModel$Node;LSequencepointModel$Node;)LSequencepointModel$Node;"⟩ : Jvm.MethodName) prog_14_method_66_code 3 (some (.object "SequencepointModel$Node"))).before args0 about = true :=
  su_hand_word (m := ⟨10, 64⟩) (by decide +kernel) rfl (by decide +kernel) (by decide +kernel)
set_option maxRecDepth 16384 in
theorem od1.code351 : (Jvm.Cond.code (⟨"SequencepointModel", "told", "(LSequencepointModel$Node;IJ)LSequencepointModel$Node;"⟩ : Jvm.MethodName) prog_14_method_64_code 6 (some (.object "SequencepointModel$Node"))).before args0 about = true :=
  su_hand_word (m := ⟨10, 62⟩) (by decide +kernel) rfl (by decide +kernel) (by decide +kernel)
set_option maxRecDepth 16384 in
theorem od1.code352 : (Jvm.Cond.code (⟨"SequencepointModel", "folded", "(LSequencepointModel$Node;)LSequencepointModel$Node;"⟩ : Jvm.MethodName) prog_14_method_67_code 7 (some (.object "SequencepointModel$Node"))).before args0 about = true :=
  su_hand_word (m := ⟨10, 65⟩) (by decide +kernel) rfl (by decide +kernel) (by decide +kernel)
set_option maxRecDepth 16384 in
theorem od1.code353 : (Jvm.Cond.code (⟨"SequencepointModel", "kindOf", "()C"⟩ : Jvm.MethodName) prog_14_method_50_code 1 (some .char)).before args0 about = true :=
  su_hand_word (m := ⟨10, 48⟩) (by decide +kernel) rfl (by decide +kernel) (by decide +kernel)
set_option maxRecDepth 16384 in
theorem od1.code354 : (Jvm.Cond.code (⟨"SequencepointModel", "placeOf", "()I"⟩ : Jvm.MethodName) prog_14_method_51_code 1 (some .int)).before args0 about = true :=
  su_hand_word (m := ⟨10, 49⟩) (by decide +kernel) rfl (by decide +kernel) (by decide +kernel)
set_option maxRecDepth 16384 in
theorem od1.code355 : (Jvm.Cond.code (⟨"SequencepointModel", "steps", "()I"⟩ : Jvm.MethodName) prog_14_method_52_code 1 (some .int)).before args0 about = true :=
  su_hand_word (m := ⟨10, 50⟩) (by decide +kernel) rfl (by decide +kernel) (by decide +kernel)
set_option maxRecDepth 16384 in
theorem od1.code356 : (Jvm.Cond.code (⟨"SequencepointModel", "choices", "()I"⟩ : Jvm.MethodName) prog_14_method_53_code 1 (some .int)).before args0 about = true :=
  su_hand_word (m := ⟨10, 51⟩) (by decide +kernel) rfl (by decide +kernel) (by decide +kernel)
set_option maxRecDepth 16384 in
theorem od1.code357 : (Jvm.Cond.code (⟨"SequencepointModel", "printed", "()I"⟩ : Jvm.MethodName) prog_14_method_54_code 1 (some .int)).before args0 about = true :=
  su_hand_word (m := ⟨10, 52⟩) (by decide +kernel) rfl (by decide +kernel) (by decide +kernel)
set_option maxRecDepth 16384 in
theorem od1.code358 : (Jvm.Cond.code (⟨"SequencepointModel", "printedAt", "(I)C"⟩ : Jvm.MethodName) prog_14_method_55_code 2 (some .char)).before args0 about = true :=
  su_hand_word (m := ⟨10, 53⟩) (by decide +kernel) rfl (by decide +kernel) (by decide +kernel)
set_option maxRecDepth 16384 in
theorem od1.code359 : (Jvm.Cond.code (⟨"SequencepointModel", "behaviours", "()I"⟩ : Jvm.MethodName) prog_14_method_57_code 6 (some .int)).before args0 about = true :=
  su_hand_word (m := ⟨10, 55⟩) (by decide +kernel) rfl (by decide +kernel) (by decide +kernel)
set_option maxRecDepth 16384 in
theorem od1.code360 : (Jvm.Cond.code (⟨"SequencepointModel", "all", "([LSequencepointModel$Statement;)[LSequencepointModel$Run;"⟩ : Jvm.MethodName) prog_14_method_56_code 4 (some (.array (.object "SequencepointModel$Run")))).before args0 about = true :=
  su_hand_word (m := ⟨10, 54⟩) (by decide +kernel) rfl (by decide +kernel) (by decide +kernel)
set_option maxRecDepth 16384 in
theorem od1.code361 : (Jvm.Cond.code (⟨"SequencepointModel$Run", "isLike", "(LSequencepointModel$Run;)Z"⟩ : Jvm.MethodName) prog_18_method_33_code 4 (some .boolean)).before args0 about = true :=
  su_hand_word (m := ⟨21, 32⟩) (by decide +kernel) rfl (by decide +kernel) (by decide +kernel)
set_option maxRecDepth 16384 in
theorem od1.code362 : (Jvm.Cond.code (⟨"SequencepointModel", "undefinedOrders", "()I"⟩ : Jvm.MethodName) prog_14_method_59_code 1 (some .int)).before args0 about = true :=
  su_hand_word (m := ⟨10, 57⟩) (by decide +kernel) rfl (by decide +kernel) (by decide +kernel)
set_option maxRecDepth 16384 in
theorem od1.code363 : (Jvm.Cond.code (⟨"SequencepointModel", "undefined", "([LSequencepointModel$Run;)I"⟩ : Jvm.MethodName) prog_14_method_58_code 6 (some .int)).before args0 about = true :=
  su_hand_word (m := ⟨10, 56⟩) (by decide +kernel) rfl (by decide +kernel) (by decide +kernel)
set_option maxRecDepth 16384 in
theorem od1.code364 : (Jvm.Cond.code (⟨"SequencepointModel", "definedShare", "()F"⟩ : Jvm.MethodName) prog_14_method_60_code 1 (some .float)).before args0 about = true :=
  su_hand_word (m := ⟨10, 58⟩) (by decide +kernel) rfl (by decide +kernel) (by decide +kernel)
set_option maxRecDepth 16384 in
theorem od1.code365 : (Jvm.Cond.code (⟨"SequencepointModel", "allSteps", "()J"⟩ : Jvm.MethodName) prog_14_method_61_code 1 (some .long)).before args0 about = true :=
  su_hand_word (m := ⟨10, 59⟩) (by decide +kernel) rfl (by decide +kernel) (by decide +kernel)
set_option maxRecDepth 16384 in
theorem od1.code366 : (Jvm.Cond.code (⟨"SequencepointModel", "optimised", "()I"⟩ : Jvm.MethodName) prog_14_method_69_code 2 (some .int)).before args0 about = true :=
  su_hand_word (m := ⟨10, 67⟩) (by decide +kernel) rfl (by decide +kernel) (by decide +kernel)
set_option maxRecDepth 16384 in
theorem od1.code367 : (Jvm.Cond.code (⟨"SequencepointModel", "optimisedSize", "()I"⟩ : Jvm.MethodName) prog_14_method_70_code 6 (some .int)).before args0 about = true :=
  su_hand_word (m := ⟨10, 68⟩) (by decide +kernel) rfl (by decide +kernel) (by decide +kernel)
set_option maxRecDepth 16384 in
theorem od1.code368 : (Jvm.Cond.code (⟨"SequencepointModel$Statement", "size", "()I"⟩ : Jvm.MethodName) prog_19_method_2_code 1 (some .int)).before args0 about = true :=
  su_hand_word (m := ⟨20, 1⟩) (by decide +kernel) rfl (by decide +kernel) (by decide +kernel)
set_option maxRecDepth 16384 in
theorem od1.code369 : (Jvm.Cond.code (⟨"SequencepointModel$Node", "size", "()I"⟩ : Jvm.MethodName) prog_17_method_4_code 6 (some .int)).before args0 about = true :=
  su_hand_word (m := ⟨15, 3⟩) (by decide +kernel) rfl (by decide +kernel) (by decide +kernel)
set_option maxRecDepth 16384 in
theorem od1.code370 : (Jvm.Cond.code (⟨"SequencepointModel", "isAsIf", "()Z"⟩ : Jvm.MethodName) prog_14_method_71_code 12 (some .boolean)).before args0 about = true :=
  su_hand_word (m := ⟨10, 69⟩) (by decide +kernel) rfl (by decide +kernel) (by decide +kernel)
set_option maxRecDepth 16384 in
theorem od1.codes_are_11 : tables_1_11.filter su_isCode = [Jvm.Cond.code (⟨"SequencepointModel", "runOptimised", "(I)C"⟩ : Jvm.MethodName) prog_14_method_49_code 2 (some .char),
    Jvm.Cond.code (⟨"SequencepointModel", "optimise", "()[LSequencepointModel$Statement;"⟩ : Jvm.MethodName) prog_14_method_62_code 3 (some (.array (.object "SequencepointModel$Statement"))),
    Jvm.Cond.code (⟨"SequencepointModel", "optimised", "(LSequencepointModel$Statement;)LSequencepointModel$Statement;"⟩ : Jvm.MethodName) prog_14_method_68_code 7 (some (.object "SequencepointModel$Statement")),
    Jvm.Cond.code (⟨"SequencepointModel", "optimised", "(LSequencepointModel$Node;)LSequencepointModel$Node;"⟩ : Jvm.MethodName) prog_14_method_65_code 5 (some (.object "SequencepointModel$Node")),
    Jvm.Cond.code (⟨"SequencepointModel", "isTold", "(LSequencepointModel$Node;)Z"⟩ : Jvm.MethodName) prog_14_method_63_code 1 (some .boolean),
    Jvm.Cond.code (⟨"SequencepointModel", "chosen", "(LSequencepointModel$Node;LSequencepointModel$Node;)LSequencepointModel$Node;"⟩ : Jvm.MethodName) prog_14_method_66_code 3 (some (.object "SequencepointModel$Node")),
    Jvm.Cond.code (⟨"SequencepointModel", "told", "(LSequencepointModel$Node;IJ)LSequencepointModel$Node;"⟩ : Jvm.MethodName) prog_14_method_64_code 6 (some (.object "SequencepointModel$Node")),
    Jvm.Cond.code (⟨"SequencepointModel", "folded", "(LSequencepointModel$Node;)LSequencepointModel$Node;"⟩ : Jvm.MethodName) prog_14_method_67_code 7 (some (.object "SequencepointModel$Node")),
    Jvm.Cond.code (⟨"SequencepointModel", "kindOf", "()C"⟩ : Jvm.MethodName) prog_14_method_50_code 1 (some .char),
    Jvm.Cond.code (⟨"SequencepointModel", "placeOf", "()I"⟩ : Jvm.MethodName) prog_14_method_51_code 1 (some .int),
    Jvm.Cond.code (⟨"SequencepointModel", "steps", "()I"⟩ : Jvm.MethodName) prog_14_method_52_code 1 (some .int),
    Jvm.Cond.code (⟨"SequencepointModel", "choices", "()I"⟩ : Jvm.MethodName) prog_14_method_53_code 1 (some .int),
    Jvm.Cond.code (⟨"SequencepointModel", "printed", "()I"⟩ : Jvm.MethodName) prog_14_method_54_code 1 (some .int),
    Jvm.Cond.code (⟨"SequencepointModel", "printedAt", "(I)C"⟩ : Jvm.MethodName) prog_14_method_55_code 2 (some .char),
    Jvm.Cond.code (⟨"SequencepointModel", "behaviours", "()I"⟩ : Jvm.MethodName) prog_14_method_57_code 6 (some .int),
    Jvm.Cond.code (⟨"SequencepointModel", "all", "([LSequencepointModel$Statement;)[LSequencepointModel$Run;"⟩ : Jvm.MethodName) prog_14_method_56_code 4 (some (.array (.object "SequencepointModel$Run"))),
    Jvm.Cond.code (⟨"SequencepointModel$Run", "isLike", "(LSequencepointModel$Run;)Z"⟩ : Jvm.MethodName) prog_18_method_33_code 4 (some .boolean),
    Jvm.Cond.code (⟨"SequencepointModel", "undefinedOrders", "()I"⟩ : Jvm.MethodName) prog_14_method_59_code 1 (some .int),
    Jvm.Cond.code (⟨"SequencepointModel", "undefined", "([LSequencepointModel$Run;)I"⟩ : Jvm.MethodName) prog_14_method_58_code 6 (some .int),
    Jvm.Cond.code (⟨"SequencepointModel", "definedShare", "()F"⟩ : Jvm.MethodName) prog_14_method_60_code 1 (some .float),
    Jvm.Cond.code (⟨"SequencepointModel", "allSteps", "()J"⟩ : Jvm.MethodName) prog_14_method_61_code 1 (some .long),
    Jvm.Cond.code (⟨"SequencepointModel", "optimised", "()I"⟩ : Jvm.MethodName) prog_14_method_69_code 2 (some .int),
    Jvm.Cond.code (⟨"SequencepointModel", "optimisedSize", "()I"⟩ : Jvm.MethodName) prog_14_method_70_code 6 (some .int),
    Jvm.Cond.code (⟨"SequencepointModel$Statement", "size", "()I"⟩ : Jvm.MethodName) prog_19_method_2_code 1 (some .int),
    Jvm.Cond.code (⟨"SequencepointModel$Node", "size", "()I"⟩ : Jvm.MethodName) prog_17_method_4_code 6 (some .int),
    Jvm.Cond.code (⟨"SequencepointModel", "isAsIf", "()Z"⟩ : Jvm.MethodName) prog_14_method_71_code 12 (some .boolean)] := by
  first
  | rfl
  | simp only [tables_1_11, List.filter, su_isCode]
set_option maxRecDepth 16384 in
theorem od1.codes_hold_11 : ∀ c ∈ tables_1_11.filter su_isCode, c.before args0 about = true := by
  rw [codes_are_11]
  exact List.forall_mem_cons.mpr ⟨code345, List.forall_mem_cons.mpr ⟨code346, List.forall_mem_cons.mpr ⟨code347, List.forall_mem_cons.mpr ⟨code348, List.forall_mem_cons.mpr ⟨code349, List.forall_mem_cons.mpr ⟨code350, List.forall_mem_cons.mpr ⟨code351, List.forall_mem_cons.mpr ⟨code352, List.forall_mem_cons.mpr ⟨code353, List.forall_mem_cons.mpr ⟨code354, List.forall_mem_cons.mpr ⟨code355, List.forall_mem_cons.mpr ⟨code356, List.forall_mem_cons.mpr ⟨code357, List.forall_mem_cons.mpr ⟨code358, List.forall_mem_cons.mpr ⟨code359, List.forall_mem_cons.mpr ⟨code360, List.forall_mem_cons.mpr ⟨code361, List.forall_mem_cons.mpr ⟨code362, List.forall_mem_cons.mpr ⟨code363, List.forall_mem_cons.mpr ⟨code364, List.forall_mem_cons.mpr ⟨code365, List.forall_mem_cons.mpr ⟨code366, List.forall_mem_cons.mpr ⟨code367, List.forall_mem_cons.mpr ⟨code368, List.forall_mem_cons.mpr ⟨code369, List.forall_mem_cons.mpr ⟨code370, List.forall_mem_nil _⟩⟩⟩⟩⟩⟩⟩⟩⟩⟩⟩⟩⟩⟩⟩⟩⟩⟩⟩⟩⟩⟩⟩⟩⟩⟩
set_option maxRecDepth 16384 in
theorem od1.others_11_0 : (tables_1_11.take 35).all (fun c => su_isCode c || c.before args0 about) = true := by decide +kernel
set_option maxRecDepth 16384 in
theorem od1.others_11_1 : ((tables_1_11.drop 35).take 36).all (fun c => su_isCode c || c.before args0 about) = true := by decide +kernel
set_option maxRecDepth 16384 in
theorem od1.others_11_2 : (((tables_1_11.drop 35).drop 36).take 40).all (fun c => su_isCode c || c.before args0 about) = true := by decide +kernel
set_option maxRecDepth 16384 in
theorem od1.others_11_3 : ((((tables_1_11.drop 35).drop 36).drop 40).take 40).all (fun c => su_isCode c || c.before args0 about) = true := by decide +kernel
set_option maxRecDepth 16384 in
theorem od1.others_11_4 : ((((tables_1_11.drop 35).drop 36).drop 40).drop 40).all (fun c => su_isCode c || c.before args0 about) = true := by decide +kernel
set_option maxRecDepth 16384 in
theorem od1.others_hold_11 : tables_1_11.all (fun c => su_isCode c || c.before args0 about) = true := su_all_split _ 35 tables_1_11 others_11_0 (su_all_split _ 36 (tables_1_11.drop 35) others_11_1 (su_all_split _ 40 ((tables_1_11.drop 35).drop 36) others_11_2 (su_all_split _ 40 (((tables_1_11.drop 35).drop 36).drop 40) others_11_3 others_11_4)))
set_option maxRecDepth 16384 in
theorem od1.words_11 : ∀ c ∈ tables_1_11, c.before args0 about = true := fun c h => su_words others_hold_11 codes_hold_11 c h
set_option maxRecDepth 16384 in
theorem od1.words : ∀ c ∈ (Cond.code x code maxLocals ret :: tables_1), c.before args0 about = true := by
  intro c hc
  rcases List.mem_cons.mp hc with h | h
  · rw [h]; exact word_code
  · have h1 : c ∈ tables_1_1 ++ (tables_1_2 ++ (tables_1_3 ++ (tables_1_4 ++ (tables_1_5 ++ (tables_1_6 ++ (tables_1_7 ++ (tables_1_8 ++ (tables_1_9 ++ (tables_1_10 ++ tables_1_11))))))))) := h
    rcases List.mem_append.mp h1 with h2 | h1
    · exact words_1 c h2
    rcases List.mem_append.mp h1 with h2 | h1
    · exact words_2 c h2
    rcases List.mem_append.mp h1 with h2 | h1
    · exact words_3 c h2
    rcases List.mem_append.mp h1 with h2 | h1
    · exact words_4 c h2
    rcases List.mem_append.mp h1 with h2 | h1
    · exact words_5 c h2
    rcases List.mem_append.mp h1 with h2 | h1
    · exact words_6 c h2
    rcases List.mem_append.mp h1 with h2 | h1
    · exact words_7 c h2
    rcases List.mem_append.mp h1 with h2 | h1
    · exact words_8 c h2
    rcases List.mem_append.mp h1 with h2 | h1
    · exact words_9 c h2
    rcases List.mem_append.mp h1 with h2 | h1
    · exact words_10 c h2
    exact words_11 c h1
set_option maxRecDepth 16384 in
theorem od1.su_and {a b : Jvm.Cond} (h1 : a.before args0 about = true) (h2 : b.before args0 about = true) : (Jvm.Cond.and a b).before args0 about = true := by rw [Cond.before_and, Bool.and_eq_true]; exact ⟨h1, h2⟩
set_option maxRecDepth 16384 in
theorem od1.narrow_hold_1 : narrow_1_1.before args0 about = true := by decide +kernel
set_option maxRecDepth 16384 in
theorem od1.narrow_hold_2 : narrow_1_2.before args0 about = true := by decide +kernel
set_option maxRecDepth 16384 in
theorem od1.narrow_hold_3 : narrow_1_3.before args0 about = true := by decide +kernel
set_option maxRecDepth 16384 in
theorem od1.narrow_hold_4 : narrow_1_4.before args0 about = true := by decide +kernel
set_option maxRecDepth 16384 in
theorem od1.narrow_holds : narrow_1.before args0 about = true := by
  unfold narrow_1
  exact (su_and (su_and narrow_hold_1 narrow_hold_2) (su_and narrow_hold_3 narrow_hold_4))
set_option maxRecDepth 16384 in
theorem od1.atStart : AtStart classFile x code maxLocals ret World_1 tables_1 room_1 Calls_1 rest_1 Pre_1 launch0 p0 e0 about ⟨0, 0⟩ args0 Lib.HandBits.below0 :=
  ⟨lists_1, trivial, launch0.admits_env _ _ _, launch0.least_env, fairChoices_fair.cas, fairChoices_fair.clock, rfl, by decide +kernel, by decide +kernel,
    (Spec.applies_iff rfl).mpr ⟨rfl, rfl, rfl, by decide +kernel, by decide +kernel, by decide +kernel, launch0.hasRoom_least _ room_1 (by decide +kernel) (by decide +kernel) (by decide +kernel) (by decide +kernel) (by decide +kernel) (by decide +kernel), atoms_intro words⟩,
    trivial, (show rest_1_c.before args0 about = true by decide +kernel), su_and (show given_1.before args0 about = true by decide +kernel) narrow_holds⟩
