set_option maxRecDepth 16384 in
theorem od1.others_8_4 : (((((tables_1_8.drop 40).drop 40).drop 36).drop 40).take 40).all (fun c => su_isCode c || c.before args0 about) = true := by decide +kernel
set_option maxRecDepth 16384 in
theorem od1.others_8_5 : ((((((tables_1_8.drop 40).drop 40).drop 36).drop 40).drop 40).take 40).all (fun c => su_isCode c || c.before args0 about) = true := by decide +kernel
set_option maxRecDepth 16384 in
theorem od1.others_8_6 : ((((((tables_1_8.drop 40).drop 40).drop 36).drop 40).drop 40).drop 40).all (fun c => su_isCode c || c.before args0 about) = true := by decide +kernel
set_option maxRecDepth 16384 in
theorem od1.others_hold_8 : tables_1_8.all (fun c => su_isCode c || c.before args0 about) = true := su_all_split _ 40 tables_1_8 others_8_0 (su_all_split _ 40 (tables_1_8.drop 40) others_8_1 (su_all_split _ 36 ((tables_1_8.drop 40).drop 40) others_8_2 (su_all_split _ 40 (((tables_1_8.drop 40).drop 40).drop 36) others_8_3 (su_all_split _ 40 ((((tables_1_8.drop 40).drop 40).drop 36).drop 40) others_8_4 (su_all_split _ 40 (((((tables_1_8.drop 40).drop 40).drop 36).drop 40).drop 40) others_8_5 others_8_6)))))
set_option maxRecDepth 16384 in
theorem od1.words_8 : ∀ c ∈ tables_1_8, c.before args0 about = true := fun c h => su_words others_hold_8 codes_hold_8 c h
set_option maxRecDepth 16384 in
theorem od1.code259 : (Jvm.Cond.code (⟨"java/util/ArrayList", "grow", "()[Ljava/lang/Object;"⟩ : Jvm.MethodName) prog_50_method_7_code 1 (some (.array (.object "java/lang/Object")))).before args0 about = true :=
  su_hand_word (m := ⟨61, 2⟩) (by decide +kernel) rfl (by decide +kernel) (by decide +kernel)
set_option maxRecDepth 16384 in
theorem od1.code260 : (Jvm.Cond.code (⟨"java/util/ArrayList", "grow", "(I)[Ljava/lang/Object;"⟩ : Jvm.MethodName) prog_50_method_6_code 4 (some (.array (.object "java/lang/Object")))).before args0 about = true :=
  su_hand_word (m := ⟨61, 1⟩) (by decide +kernel) rfl (by decide +kernel) (by decide +kernel)
set_option maxRecDepth 16384 in
theorem od1.code261 : (Jvm.Cond.code (⟨"jdk/internal/util/ArraysSupport", "newLength", "(III)I"⟩ : Jvm.MethodName) prog_60_method_27_code 4 (some .int)).before args0 about = true :=
  su_hand_word (m := ⟨23, 0⟩) (by decide +kernel) rfl (by decide +kernel) (by decide +kernel)
set_option maxRecDepth 16384 in
theorem od1.code262 : (Jvm.Cond.code (⟨"jdk/internal/util/ArraysSupport", "hugeLength", "(II)I"⟩ : Jvm.MethodName) prog_60_method_28_code 3 (some .int)).before args0 about = true :=
  su_hand_word (m := ⟨23, 1⟩) (by decide +kernel) rfl (by decide +kernel) (by decide +kernel)
set_option maxRecDepth 16384 in
theorem od1.code263 : (Jvm.Cond.code (⟨"java/util/Arrays", "copyOf", "([Ljava/lang/Object;I)[Ljava/lang/Object;"⟩ : Jvm.MethodName) prog_52_method_119_code 2 (some (.array (.object "java/lang/Object")))).before args0 about = true :=
  su_hand_word (m := ⟨24, 0⟩) (by decide +kernel) rfl (by decide +kernel) (by decide +kernel)
set_option maxRecDepth 16384 in
theorem od1.code264 : (Jvm.Cond.code (⟨"java/util/Arrays", "copyOf", "([Ljava/lang/Object;ILjava/lang/Class;)[Ljava/lang/Object;"⟩ : Jvm.MethodName) prog_52_method_120_code 4 (some (.array (.object "java/lang/Object")))).before args0 about = true :=
  su_hand_word (m := ⟨24, 1⟩) (by decide +kernel) rfl (by decide +kernel) (by decide +kernel)
set_option maxRecDepth 16384 in
theorem od1.code265 : (Jvm.Cond.code (⟨"java/util/ArrayList", "size", "()I"⟩ : Jvm.MethodName) prog_50_method_8_code 1 (some .int)).before args0 about = true :=
  su_hand_word (m := ⟨61, 3⟩) (by decide +kernel) rfl (by decide +kernel) (by decide +kernel)
set_option maxRecDepth 16384 in
theorem od1.code266 : (Jvm.Cond.code (⟨"SequencepointModel$Frame", "<init>", "(I)V"⟩ : Jvm.MethodName) prog_16_method_1_code 3 none).before args0 about = true :=
  su_hand_word (m := ⟨26, 0⟩) (by decide +kernel) rfl (by decide +kernel) (by decide +kernel)
set_option maxRecDepth 16384 in
theorem od1.code267 : (Jvm.Cond.code (⟨"SequencepointModel$Run", "does", "(LSequencepointModel$Statement;)Z"⟩ : Jvm.MethodName) prog_18_method_29_code 7 (some .boolean)).before args0 about = true :=
  su_hand_word (m := ⟨21, 28⟩) (by decide +kernel) rfl (by decide +kernel) (by decide +kernel)
set_option maxRecDepth 16384 in
theorem od1.code268 : (Jvm.Cond.code (⟨"SequencepointModel$Run", "steps", "()V"⟩ : Jvm.MethodName) prog_18_method_4_code 1 none).before args0 about = true :=
  su_hand_word (m := ⟨21, 3⟩) (by decide +kernel) rfl (by decide +kernel) (by decide +kernel)
set_option maxRecDepth 16384 in
theorem od1.code269 : (Jvm.Cond.code (⟨"SequencepointModel$End", "<init>", "(CCLSequencepointModel$Node;)V"⟩ : Jvm.MethodName) prog_15_method_1_code 4 none).before args0 about = true :=
  su_hand_word (m := ⟨53, 0⟩) (by decide +kernel) rfl (by decide +kernel) (by decide +kernel)
set_option maxRecDepth 16384 in
theorem od1.code270 : (Jvm.Cond.code (⟨"java/lang/Exception", "<init>", "(Ljava/lang/String;Ljava/lang/Throwable;)V"⟩ : Jvm.MethodName) prog_28_method_3_code 3 none).before args0 about = true :=
  su_hand_word (m := ⟨46, 2⟩) (by decide +kernel) rfl (by decide +kernel) (by decide +kernel)
set_option maxRecDepth 16384 in
theorem od1.code271 : (Jvm.Cond.code (⟨"java/lang/Throwable", "<init>", "(Ljava/lang/String;Ljava/lang/Throwable;)V"⟩ : Jvm.MethodName) prog_44_method_3_code 3 none).before args0 about = true :=
  su_hand_word (m := ⟨39, 2⟩) (by decide +kernel) rfl (by decide +kernel) (by decide +kernel)
set_option maxRecDepth 16384 in
theorem od1.code272 : (Jvm.Cond.code (⟨"SequencepointModel$Run", "full", "(LSequencepointModel$Node;)J"⟩ : Jvm.MethodName) prog_18_method_28_code 5 (some .long)).before args0 about = true :=
  su_hand_word (m := ⟨21, 27⟩) (by decide +kernel) rfl (by decide +kernel) (by decide +kernel)
set_option maxRecDepth 16384 in
theorem od1.code273 : (Jvm.Cond.code (⟨"SequencepointModel$Run", "value", "(LSequencepointModel$Node;)J"⟩ : Jvm.MethodName) prog_18_method_21_code 6 (some .long)).before args0 about = true :=
  su_hand_word (m := ⟨21, 20⟩) (by decide +kernel) rfl (by decide +kernel) (by decide +kernel)
set_option maxRecDepth 16384 in
theorem od1.code274 : (Jvm.Cond.code (⟨"SequencepointModel$Run", "lifeOf", "(I)J"⟩ : Jvm.MethodName) prog_18_method_10_code 3 (some .long)).before args0 about = true :=
  su_hand_word (m := ⟨21, 9⟩) (by decide +kernel) rfl (by decide +kernel) (by decide +kernel)
set_option maxRecDepth 16384 in
theorem od1.code275 : (Jvm.Cond.code (⟨"java/util/ArrayList", "get", "(I)Ljava/lang/Object;"⟩ : Jvm.MethodName) prog_50_method_20_code 2 (some (.object "java/lang/Object"))).before args0 about = true :=
  su_hand_word (m := ⟨61, 5⟩) (by decide +kernel) rfl (by decide +kernel) (by decide +kernel)
set_option maxRecDepth 16384 in
theorem od1.code276 : (Jvm.Cond.code (⟨"java/util/Objects", "checkIndex", "(II)I"⟩ : Jvm.MethodName) prog_57_method_17_code 2 (some .int)).before args0 about = true :=
  su_hand_word (m := ⟨27, 0⟩) (by decide +kernel) rfl (by decide +kernel) (by decide +kernel)
set_option maxRecDepth 16384 in
theorem od1.code277 : (Jvm.Cond.code (⟨"java/util/ArrayList", "elementData", "(I)Ljava/lang/Object;"⟩ : Jvm.MethodName) prog_50_method_18_code 2 (some (.object "java/lang/Object"))).before args0 about = true :=
  su_hand_word (m := ⟨61, 4⟩) (by decide +kernel) rfl (by decide +kernel) (by decide +kernel)
set_option maxRecDepth 16384 in
theorem od1.code278 : (Jvm.Cond.code (⟨"SequencepointModel$Run", "reads", "(JLSequencepointModel$Node;)J"⟩ : Jvm.MethodName) prog_18_method_12_code 5 (some .long)).before args0 about = true :=
  su_hand_word (m := ⟨21, 11⟩) (by decide +kernel) rfl (by decide +kernel) (by decide +kernel)
set_option maxRecDepth 16384 in
theorem od1.code279 : (Jvm.Cond.code (⟨"SequencepointModel$Run", "reached", "(JLSequencepointModel$Node;)LSequencepointModel$Thing;"⟩ : Jvm.MethodName) prog_18_method_11_code 5 (some (.object "SequencepointModel$Thing"))).before args0 about = true :=
  su_hand_word (m := ⟨21, 10⟩) (by decide +kernel) rfl (by decide +kernel) (by decide +kernel)
set_option maxRecDepth 16384 in
theorem od1.code280 : (Jvm.Cond.code (⟨"SequencepointModel$Run", "thing", "(J)LSequencepointModel$Thing;"⟩ : Jvm.MethodName) prog_18_method_7_code 3 (some (.object "SequencepointModel$Thing"))).before args0 about = true :=
  su_hand_word (m := ⟨21, 6⟩) (by decide +kernel) rfl (by decide +kernel) (by decide +kernel)
set_option maxRecDepth 16384 in
theorem od1.code281 : (Jvm.Cond.code (⟨"SequencepointModel$Run", "none", "(CLSequencepointModel$Node;)LSequencepointModel$End;"⟩ : Jvm.MethodName) prog_18_method_5_code 3 (some (.object "SequencepointModel$End"))).before args0 about = true :=
  su_hand_word (m := ⟨21, 4⟩) (by decide +kernel) rfl (by decide +kernel) (by decide +kernel)
set_option maxRecDepth 16384 in
theorem od1.code282 : (Jvm.Cond.code (⟨"SequencepointModel$Run", "partOf", "(J)I"⟩ : Jvm.MethodName) prog_18_method_8_code 2 (some .int)).before args0 about = true :=
  su_hand_word (m := ⟨21, 7⟩) (by decide +kernel) rfl (by decide +kernel) (by decide +kernel)
set_option maxRecDepth 16384 in
theorem od1.code283 : (Jvm.Cond.code (⟨"SequencepointModel$Run", "cellOf", "(J)I"⟩ : Jvm.MethodName) prog_18_method_9_code 2 (some .int)).before args0 about = true :=
  su_hand_word (m := ⟨21, 8⟩) (by decide +kernel) rfl (by decide +kernel) (by decide +kernel)
set_option maxRecDepth 16384 in
theorem od1.code284 : (Jvm.Cond.code (⟨"SequencepointModel$Run", "notes", "(IZ)V"⟩ : Jvm.MethodName) prog_18_method_6_code 5 none).before args0 about = true :=
  su_hand_word (m := ⟨21, 5⟩) (by decide +kernel) rfl (by decide +kernel) (by decide +kernel)
set_option maxRecDepth 16384 in
theorem od1.code285 : (Jvm.Cond.code (⟨"SequencepointModel$Run", "holds", "(LSequencepointModel$Node;)Z"⟩ : Jvm.MethodName) prog_18_method_20_code 2 (some .boolean)).before args0 about = true :=
  su_hand_word (m := ⟨21, 19⟩) (by decide +kernel) rfl (by decide +kernel) (by decide +kernel)
set_option maxRecDepth 16384 in
theorem od1.code286 : (Jvm.Cond.code (⟨"SequencepointModel", "convert", "(IJ)J"⟩ : Jvm.MethodName) prog_14_method_11_code 5 (some .long)).before args0 about = true :=
  su_hand_word (m := ⟨10, 9⟩) (by decide +kernel) rfl (by decide +kernel) (by decide +kernel)
set_option maxRecDepth 16384 in
theorem od1.code287 : (Jvm.Cond.code (⟨"SequencepointModel$Run", "called", "(LSequencepointModel$Node;)J"⟩ : Jvm.MethodName) prog_18_method_27_code 9 (some .long)).before args0 about = true :=
  su_hand_word (m := ⟨21, 26⟩) (by decide +kernel) rfl (by decide +kernel) (by decide +kernel)
set_option maxRecDepth 16384 in
theorem od1.code288 : (Jvm.Cond.code (⟨"SequencepointModel$Run", "two", "(LSequencepointModel$Node;Z)[J"⟩ : Jvm.MethodName) prog_18_method_17_code 12 (some (.array .long))).before args0 about = true :=
  su_hand_word (m := ⟨21, 16⟩) (by decide +kernel) rfl (by decide +kernel) (by decide +kernel)
set_option maxRecDepth 16384 in
theorem od1.code289 : (Jvm.Cond.code (⟨"SequencepointModel$Node", "hasCall", "()Z"⟩ : Jvm.MethodName) prog_17_method_3_code 6 (some .boolean)).before args0 about = true :=
  su_hand_word (m := ⟨15, 2⟩) (by decide +kernel) rfl (by decide +kernel) (by decide +kernel)
set_option maxRecDepth 16384 in
theorem od1.code290 : (Jvm.Cond.code (⟨"SequencepointModel$Run", "part", "(LSequencepointModel$Node;Z)J"⟩ : Jvm.MethodName) prog_18_method_16_code 3 (some .long)).before args0 about = true :=
  su_hand_word (m := ⟨21, 15⟩) (by decide +kernel) rfl (by decide +kernel) (by decide +kernel)
set_option maxRecDepth 16384 in
theorem od1.code291 : (Jvm.Cond.code (⟨"SequencepointModel$Run", "place", "(LSequencepointModel$Node;)J"⟩ : Jvm.MethodName) prog_18_method_19_code 2 (some .long)).before args0 about = true :=
  su_hand_word (m := ⟨21, 18⟩) (by decide +kernel) rfl (by decide +kernel) (by decide +kernel)
set_option maxRecDepth 16384 in
theorem od1.code292 : (Jvm.Cond.code (⟨"SequencepointModel$Run", "clash", "(IIII)Z"⟩ : Jvm.MethodName) prog_18_method_15_code 8 (some .boolean)).before args0 about = true :=
  su_hand_word (m := ⟨21, 14⟩) (by decide +kernel) rfl (by decide +kernel) (by decide +kernel)
set_option maxRecDepth 16384 in
theorem od1.code293 : (Jvm.Cond.code (⟨"java/lang/Integer", "valueOf", "(I)Ljava/lang/Integer;"⟩ : Jvm.MethodName) prog_32_method_22_code 1 (some (.object "java/lang/Integer"))).before args0 about = true :=
  su_hand_word (m := ⟨48, 0⟩) (by decide +kernel) rfl (by decide +kernel) (by decide +kernel)
set_option maxRecDepth 16384 in
theorem od1.code294 : (Jvm.Cond.code (⟨"java/lang/Integer", "<init>", "(I)V"⟩ : Jvm.MethodName) prog_32_method_23_code 2 none).before args0 about = true :=
  su_hand_word (m := ⟨48, 1⟩) (by decide +kernel) rfl (by decide +kernel) (by decide +kernel)
set_option maxRecDepth 16384 in
theorem od1.code295 : (Jvm.Cond.code (⟨"java/lang/Number", "<init>", "()V"⟩ : Jvm.MethodName) prog_37_method_1_code 1 none).before args0 about = true :=
  su_hand_word (m := ⟨42, 0⟩) (by decide +kernel) rfl (by decide +kernel) (by decide +kernel)
set_option maxRecDepth 16384 in
theorem od1.code296 : (Jvm.Cond.code (⟨"java/util/ArrayList", "iterator", "()Ljava/util/Iterator;"⟩ : Jvm.MethodName) prog_50_method_55_code 1 (some (.object "java/util/Iterator"))).before args0 about = true :=
  su_hand_word (m := ⟨61, 8⟩) (by decide +kernel) rfl (by decide +kernel) (by decide +kernel)
set_option maxRecDepth 16384 in
theorem od1.code297 : (Jvm.Cond.code (⟨"java/util/ArrayList$Itr", "<init>", "(Ljava/util/ArrayList;)V"⟩ : Jvm.MethodName) prog_51_method_1_code 2 none).before args0 about = true :=
  su_hand_word (m := ⟨43, 0⟩) (by decide +kernel) rfl (by decide +kernel) (by decide +kernel)
set_option maxRecDepth 16384 in
theorem od1.codes_are_9 : tables_1_9.filter su_isCode = [Jvm.Cond.code (⟨"java/util/ArrayList", "grow", "()[Ljava/lang/Object;"⟩ : Jvm.MethodName) prog_50_method_7_code 1 (some (.array (.object "java/lang/Object"))),
    Jvm.Cond.code (⟨"java/util/ArrayList", "grow", "(I)[Ljava/lang/Object;"⟩ : Jvm.MethodName) prog_50_method_6_code 4 (some (.array (.object "java/lang/Object"))),
    Jvm.Cond.code (⟨"jdk/internal/util/ArraysSupport", "newLength", "(III)I"⟩ : Jvm.MethodName) prog_60_method_27_code 4 (some .int),
    Jvm.Cond.code (⟨"jdk/internal/util/ArraysSupport", "hugeLength", "(II)I"⟩ : Jvm.MethodName) prog_60_method_28_code 3 (some .int),
    Jvm.Cond.code (⟨"java/util/Arrays", "copyOf", "([Ljava/lang/Object;I)[Ljava/lang/Object;"⟩ : Jvm.MethodName) prog_52_method_119_code 2 (some (.array (.object "java/lang/Object"))),
    Jvm.Cond.code (⟨"java/util/Arrays", "copyOf", "([Ljava/lang/Object;ILjava/lang/Class;)[Ljava/lang/Object;"⟩ : Jvm.MethodName) prog_52_method_120_code 4 (some (.array (.object "java/lang/Object"))),
    Jvm.Cond.code (⟨"java/util/ArrayList", "size", "()I"⟩ : Jvm.MethodName) prog_50_method_8_code 1 (some .int),
    Jvm.Cond.code (⟨"SequencepointModel$Frame", "<init>", "(I)V"⟩ : Jvm.MethodName) prog_16_method_1_code 3 none,
    Jvm.Cond.code (⟨"SequencepointModel$Run", "does", "(LSequencepointModel$Statement;)Z"⟩ : Jvm.MethodName) prog_18_method_29_code 7 (some .boolean),
    Jvm.Cond.code (⟨"SequencepointModel$Run", "steps", "()V"⟩ : Jvm.MethodName) prog_18_method_4_code 1 none,
    Jvm.Cond.code (⟨"SequencepointModel$End", "<init>", "(CCLSequencepointModel$Node;)V"⟩ : Jvm.MethodName) prog_15_method_1_code 4 none,
    Jvm.Cond.code (⟨"java/lang/Exception", "<init>", "(Ljava/lang/String;Ljava/lang/Throwable;)V"⟩ : Jvm.MethodName) prog_28_method_3_code 3 none,
    Jvm.Cond.code (⟨"java/lang/Throwable", "<init>", "(Ljava/lang/String;Ljava/lang/Throwable;)V"⟩ : Jvm.MethodName) prog_44_method_3_code 3 none,
    Jvm.Cond.code (⟨"SequencepointModel$Run", "full", "(LSequencepointModel$Node;)J"⟩ : Jvm.MethodName) prog_18_method_28_code 5 (some .long),
    Jvm.Cond.code (⟨"SequencepointModel$Run", "value", "(LSequencepointModel$Node;)J"⟩ : Jvm.MethodName) prog_18_method_21_code 6 (some .long),
    Jvm.Cond.code (⟨"SequencepointModel$Run", "lifeOf", "(I)J"⟩ : Jvm.MethodName) prog_18_method_10_code 3 (some .long),
    Jvm.Cond.code (⟨"java/util/ArrayList", "get", "(I)Ljava/lang/Object;"⟩ : Jvm.MethodName) prog_50_method_20_code 2 (some (.object "java/lang/Object")),
    Jvm.Cond.code (⟨"java/util/Objects", "checkIndex", "(II)I"⟩ : Jvm.MethodName) prog_57_method_17_code 2 (some .int),
    Jvm.Cond.code (⟨"java/util/ArrayList", "elementData", "(I)Ljava/lang/Object;"⟩ : Jvm.MethodName) prog_50_method_18_code 2 (some (.object "java/lang/Object")),
    Jvm.Cond.code (⟨"SequencepointModel$Run", "reads", "(JLSequencepointModel$Node;)J"⟩ : Jvm.MethodName) prog_18_method_12_code 5 (some .long),
    Jvm.Cond.code (⟨"SequencepointModel$Run", "reached", "(JLSequencepointModel$Node;)LSequencepointModel$Thing;"⟩ : Jvm.MethodName) prog_18_method_11_code 5 (some (.object "SequencepointModel$Thing")),
    Jvm.Cond.code (⟨"SequencepointModel$Run", "thing", "(J)LSequencepointModel$Thing;"⟩ : Jvm.MethodName) prog_18_method_7_code 3 (some (.object "SequencepointModel$Thing")),
    Jvm.Cond.code (⟨"SequencepointModel$Run", "none", "(CLSequencepointModel$Node;)LSequencepointModel$End;"⟩ : Jvm.MethodName) prog_18_method_5_code 3 (some (.object "SequencepointModel$End")),
    Jvm.Cond.code (⟨"SequencepointModel$Run", "partOf", "(J)I"⟩ : Jvm.MethodName) prog_18_method_8_code 2 (some .int),
    Jvm.Cond.code (⟨"SequencepointModel$Run", "cellOf", "(J)I"⟩ : Jvm.MethodName) prog_18_method_9_code 2 (some .int),
    Jvm.Cond.code (⟨"SequencepointModel$Run", "notes", "(IZ)V"⟩ : Jvm.MethodName) prog_18_method_6_code 5 none,
    Jvm.Cond.code (⟨"SequencepointModel$Run", "holds", "(LSequencepointModel$Node;)Z"⟩ : Jvm.MethodName) prog_18_method_20_code 2 (some .boolean),
    Jvm.Cond.code (⟨"SequencepointModel", "convert", "(IJ)J"⟩ : Jvm.MethodName) prog_14_method_11_code 5 (some .long),
    Jvm.Cond.code (⟨"SequencepointModel$Run", "called", "(LSequencepointModel$Node;)J"⟩ : Jvm.MethodName) prog_18_method_27_code 9 (some .long),
    Jvm.Cond.code (⟨"SequencepointModel$Run", "two", "(LSequencepointModel$Node;Z)[J"⟩ : Jvm.MethodName) prog_18_method_17_code 12 (some (.array .long)),
    Jvm.Cond.code (⟨"SequencepointModel$Node", "hasCall", "()Z"⟩ : Jvm.MethodName) prog_17_method_3_code 6 (some .boolean),
    Jvm.Cond.code (⟨"SequencepointModel$Run", "part", "(LSequencepointModel$Node;Z)J"⟩ : Jvm.MethodName) prog_18_method_16_code 3 (some .long),
    Jvm.Cond.code (⟨"SequencepointModel$Run", "place", "(LSequencepointModel$Node;)J"⟩ : Jvm.MethodName) prog_18_method_19_code 2 (some .long),
    Jvm.Cond.code (⟨"SequencepointModel$Run", "clash", "(IIII)Z"⟩ : Jvm.MethodName) prog_18_method_15_code 8 (some .boolean),
    Jvm.Cond.code (⟨"java/lang/Integer", "valueOf", "(I)Ljava/lang/Integer;"⟩ : Jvm.MethodName) prog_32_method_22_code 1 (some (.object "java/lang/Integer")),
    Jvm.Cond.code (⟨"java/lang/Integer", "<init>", "(I)V"⟩ : Jvm.MethodName) prog_32_method_23_code 2 none,
    Jvm.Cond.code (⟨"java/lang/Number", "<init>", "()V"⟩ : Jvm.MethodName) prog_37_method_1_code 1 none,
    Jvm.Cond.code (⟨"java/util/ArrayList", "iterator", "()Ljava/util/Iterator;"⟩ : Jvm.MethodName) prog_50_method_55_code 1 (some (.object "java/util/Iterator")),
    Jvm.Cond.code (⟨"java/util/ArrayList$Itr", "<init>", "(Ljava/util/ArrayList;)V"⟩ : Jvm.MethodName) prog_51_method_1_code 2 none] := by
  first
  | rfl
  | simp only [tables_1_9, List.filter, su_isCode]
set_option maxRecDepth 16384 in
theorem od1.codes_hold_9 : ∀ c ∈ tables_1_9.filter su_isCode, c.before args0 about = true := by
  rw [codes_are_9]
  exact List.forall_mem_cons.mpr ⟨code259, List.forall_mem_cons.mpr ⟨code260, List.forall_mem_cons.mpr ⟨code261, List.forall_mem_cons.mpr ⟨code262, List.forall_mem_cons.mpr ⟨code263, List.forall_mem_cons.mpr ⟨code264, List.forall_mem_cons.mpr ⟨code265, List.forall_mem_cons.mpr ⟨code266, List.forall_mem_cons.mpr ⟨code267, List.forall_mem_cons.mpr ⟨code268, List.forall_mem_cons.mpr ⟨code269, List.forall_mem_cons.mpr ⟨code270, List.forall_mem_cons.mpr ⟨code271, List.forall_mem_cons.mpr ⟨code272, List.forall_mem_cons.mpr ⟨code273, List.forall_mem_cons.mpr ⟨code274, List.forall_mem_cons.mpr ⟨code275, List.forall_mem_cons.mpr ⟨code276, List.forall_mem_cons.mpr ⟨code277, List.forall_mem_cons.mpr ⟨code278, List.forall_mem_cons.mpr ⟨code279, List.forall_mem_cons.mpr ⟨code280, List.forall_mem_cons.mpr ⟨code281, List.forall_mem_cons.mpr ⟨code282, List.forall_mem_cons.mpr ⟨code283, List.forall_mem_cons.mpr ⟨code284, List.forall_mem_cons.mpr ⟨code285, List.forall_mem_cons.mpr ⟨code286, List.forall_mem_cons.mpr ⟨code287, List.forall_mem_cons.mpr ⟨code288, List.forall_mem_cons.mpr ⟨code289, List.forall_mem_cons.mpr ⟨code290, List.forall_mem_cons.mpr ⟨code291, List.forall_mem_cons.mpr ⟨code292, List.forall_mem_cons.mpr ⟨code293, List.forall_mem_cons.mpr ⟨code294, List.forall_mem_cons.mpr ⟨code295, List.forall_mem_cons.mpr ⟨code296, List.forall_mem_cons.mpr ⟨code297, List.forall_mem_nil _⟩⟩⟩⟩⟩⟩⟩⟩⟩⟩⟩⟩⟩⟩⟩⟩⟩⟩⟩⟩⟩⟩⟩⟩⟩⟩⟩⟩⟩⟩⟩⟩⟩⟩⟩⟩⟩⟩⟩
set_option maxRecDepth 16384 in
theorem od1.others_9_0 : (tables_1_9.take 40).all (fun c => su_isCode c || c.before args0 about) = true := by decide +kernel
set_option maxRecDepth 16384 in
theorem od1.others_9_1 : ((tables_1_9.drop 40).take 21).all (fun c => su_isCode c || c.before args0 about) = true := by decide +kernel
set_option maxRecDepth 16384 in
theorem od1.others_9_2 : (((tables_1_9.drop 40).drop 21).take 40).all (fun c => su_isCode c || c.before args0 about) = true := by decide +kernel
set_option maxRecDepth 16384 in
theorem od1.others_9_3 : ((((tables_1_9.drop 40).drop 21).drop 40).take 40).all (fun c => su_isCode c || c.before args0 about) = true := by decide +kernel
set_option maxRecDepth 16384 in
theorem od1.others_9_4 : (((((tables_1_9.drop 40).drop 21).drop 40).drop 40).take 40).all (fun c => su_isCode c || c.before args0 about) = true := by decide +kernel
set_option maxRecDepth 16384 in
theorem od1.others_9_5 : ((((((tables_1_9.drop 40).drop 21).drop 40).drop 40).drop 40).take 40).all (fun c => su_isCode c || c.before args0 about) = true := by decide +kernel
set_option maxRecDepth 16384 in
theorem od1.others_9_6 : ((((((tables_1_9.drop 40).drop 21).drop 40).drop 40).drop 40).drop 40).all (fun c => su_isCode c || c.before args0 about) = true := by decide +kernel
set_option maxRecDepth 16384 in
theorem od1.others_hold_9 : tables_1_9.all (fun c => su_isCode c || c.before args0 about) = true := su_all_split _ 40 tables_1_9 others_9_0 (su_all_split _ 21 (tables_1_9.drop 40) others_9_1 (su_all_split _ 40 ((tables_1_9.drop 40).drop 21) others_9_2 (su_all_split _ 40 (((tables_1_9.drop 40).drop 21).drop 40) others_9_3 (su_all_split _ 40 ((((tables_1_9.drop 40).drop 21).drop 40).drop 40) others_9_4 (su_all_split _ 40 (((((tables_1_9.drop 40).drop 21).drop 40).drop 40).drop 40) others_9_5 others_9_6)))))
set_option maxRecDepth 16384 in
theorem od1.words_9 : ∀ c ∈ tables_1_9, c.before args0 about = true := fun c h => su_words others_hold_9 codes_hold_9 c h
set_option maxRecDepth 16384 in
theorem od1.code298 : (Jvm.Cond.code (⟨"java/util/ArrayList$Itr", "hasNext", "()Z"⟩ : Jvm.MethodName) prog_51_method_2_code 1 (some .boolean)).before args0 about = true :=
  su_hand_word (m := ⟨43, 1⟩) (by decide +kernel) rfl (by decide +kernel) (by decide +kernel)
set_option maxRecDepth 16384 in
theorem od1.code299 : (Jvm.Cond.code (⟨"java/util/ArrayList$Itr", "next", "()Ljava/lang/Object;"⟩ : Jvm.MethodName) prog_51_method_3_code 3 (some (.object "java/lang/Object"))).before args0 about = true :=
  su_hand_word (m := ⟨43, 2⟩) (by decide +kernel) rfl (by decide +kernel) (by decide +kernel)
set_option maxRecDepth 16384 in
theorem od1.code300 : (Jvm.Cond.code (⟨"java/util/ArrayList$Itr", "checkForComodification", "()V"⟩ : Jvm.MethodName) prog_51_method_6_code 1 none).before args0 about = true :=
  su_hand_word (m := ⟨43, 3⟩) (by decide +kernel) rfl (by decide +kernel) (by decide +kernel)
set_option maxRecDepth 16384 in
theorem od1.code301 : (Jvm.Cond.code (⟨"java/util/NoSuchElementException", "<init>", "()V"⟩ : Jvm.MethodName) prog_56_method_1_code 1 none).before args0 about = true :=
  su_hand_word (m := ⟨60, 0⟩) (by decide +kernel) rfl (by decide +kernel) (by decide +kernel)
set_option maxRecDepth 16384 in
theorem od1.code302 : (Jvm.Cond.code (⟨"java/lang/RuntimeException", "<init>", "()V"⟩ : Jvm.MethodName) prog_38_method_1_code 1 none).before args0 about = true :=
  su_hand_word (m := ⟨52, 0⟩) (by decide +kernel) rfl (by decide +kernel) (by decide +kernel)
set_option maxRecDepth 16384 in
theorem od1.code303 : (Jvm.Cond.code (⟨"java/lang/Exception", "<init>", "()V"⟩ : Jvm.MethodName) prog_28_method_1_code 1 none).before args0 about = true :=
  su_hand_word (m := ⟨46, 0⟩) (by decide +kernel) rfl (by decide +kernel) (by decide +kernel)
set_option maxRecDepth 16384 in
theorem od1.code304 : (Jvm.Cond.code (⟨"java/lang/Integer", "intValue", "()I"⟩ : Jvm.MethodName) prog_32_method_27_code 1 (some .int)).before args0 about = true :=
  su_hand_word (m := ⟨48, 2⟩) (by decide +kernel) rfl (by decide +kernel) (by decide +kernel)
set_option maxRecDepth 16384 in
theorem od1.code305 : (Jvm.Cond.code (⟨"SequencepointModel$Run", "assigned", "(LSequencepointModel$Node;)J"⟩ : Jvm.MethodName) prog_18_method_26_code 8 (some .long)).before args0 about = true :=
  su_hand_word (m := ⟨21, 25⟩) (by decide +kernel) rfl (by decide +kernel) (by decide +kernel)
set_option maxRecDepth 16384 in
theorem od1.code306 : (Jvm.Cond.code (⟨"SequencepointModel$Run", "isWritten", "(IJ)Z"⟩ : Jvm.MethodName) prog_18_method_18_code 6 (some .boolean)).before args0 about = true :=
  su_hand_word (m := ⟨21, 17⟩) (by decide +kernel) rfl (by decide +kernel) (by decide +kernel)
set_option maxRecDepth 16384 in
theorem od1.code307 : (Jvm.Cond.code (⟨"SequencepointModel$Run", "moved", "(JJLSequencepointModel$Node;)J"⟩ : Jvm.MethodName) prog_18_method_14_code 9 (some .long)).before args0 about = true :=
  su_hand_word (m := ⟨21, 13⟩) (by decide +kernel) rfl (by decide +kernel) (by decide +kernel)
set_option maxRecDepth 16384 in
theorem od1.code308 : (Jvm.Cond.code (⟨"SequencepointModel", "reckon", "(CIJJ)J"⟩ : Jvm.MethodName) prog_14_method_42_code 10 (some .long)).before args0 about = true :=
  su_hand_word (m := ⟨10, 40⟩) (by decide +kernel) rfl (by decide +kernel) (by decide +kernel)
set_option maxRecDepth 16384 in
theorem od1.code309 : (Jvm.Cond.code (⟨"SequencepointModel", "fits", "(IJ)J"⟩ : Jvm.MethodName) prog_14_method_43_code 4 (some .long)).before args0 about = true :=
  su_hand_word (m := ⟨10, 41⟩) (by decide +kernel) rfl (by decide +kernel) (by decide +kernel)
set_option maxRecDepth 16384 in
theorem od1.code310 : (Jvm.Cond.code (⟨"SequencepointModel$Run", "known", "(LSequencepointModel$Node;J)J"⟩ : Jvm.MethodName) prog_18_method_23_code 4 (some .long)).before args0 about = true :=
  su_hand_word (m := ⟨21, 22⟩) (by decide +kernel) rfl (by decide +kernel) (by decide +kernel)
set_option maxRecDepth 16384 in
theorem od1.code311 : (Jvm.Cond.code (⟨"SequencepointModel$Run", "writes", "(JJLSequencepointModel$Node;)V"⟩ : Jvm.MethodName) prog_18_method_13_code 7 none).before args0 about = true :=
  su_hand_word (m := ⟨21, 12⟩) (by decide +kernel) rfl (by decide +kernel) (by decide +kernel)
set_option maxRecDepth 16384 in
theorem od1.code312 : (Jvm.Cond.code (⟨"SequencepointModel$Run", "one", "(LSequencepointModel$Node;)J"⟩ : Jvm.MethodName) prog_18_method_22_code 4 (some .long)).before args0 about = true :=
  su_hand_word (m := ⟨21, 21⟩) (by decide +kernel) rfl (by decide +kernel) (by decide +kernel)
set_option maxRecDepth 16384 in
theorem od1.code313 : (Jvm.Cond.code (⟨"SequencepointModel$Run", "counted", "(LSequencepointModel$Node;)J"⟩ : Jvm.MethodName) prog_18_method_25_code 11 (some .long)).before args0 about = true :=
  su_hand_word (m := ⟨21, 24⟩) (by decide +kernel) rfl (by decide +kernel) (by decide +kernel)
set_option maxRecDepth 16384 in
theorem od1.code314 : (Jvm.Cond.code (⟨"SequencepointModel", "gives", "(LSequencepointModel$Node;JJ)J"⟩ : Jvm.MethodName) prog_14_method_44_code 12 (some .long)).before args0 about = true :=
  su_hand_word (m := ⟨10, 42⟩) (by decide +kernel) rfl (by decide +kernel) (by decide +kernel)
set_option maxRecDepth 16384 in
theorem od1.code315 : (Jvm.Cond.code (⟨"SequencepointModel$Run", "both", "(LSequencepointModel$Node;)J"⟩ : Jvm.MethodName) prog_18_method_24_code 3 (some .long)).before args0 about = true :=
  su_hand_word (m := ⟨21, 23⟩) (by decide +kernel) rfl (by decide +kernel) (by decide +kernel)
set_option maxRecDepth 16384 in
theorem od1.code316 : (Jvm.Cond.code (⟨"SequencepointModel$Run", "prints", "(J)V"⟩ : Jvm.MethodName) prog_18_method_32_code 5 none).before args0 about = true :=
  su_hand_word (m := ⟨21, 31⟩) (by decide +kernel) rfl (by decide +kernel) (by decide +kernel)
set_option maxRecDepth 16384 in
theorem od1.code317 : (Jvm.Cond.code (⟨"java/lang/StringBuilder", "<init>", "()V"⟩ : Jvm.MethodName) prog_40_method_1_code 1 none).before args0 about = true :=
  su_hand_word (m := ⟨49, 0⟩) (by decide +kernel) rfl (by decide +kernel) (by decide +kernel)
set_option maxRecDepth 16384 in
theorem od1.code318 : (Jvm.Cond.code (⟨"java/lang/AbstractStringBuilder", "<init>", "(I)V"⟩ : Jvm.MethodName) prog_22_method_2_code 2 none).before args0 about = true :=
  su_hand_word (m := ⟨44, 0⟩) (by decide +kernel) rfl (by decide +kernel) (by decide +kernel)
set_option maxRecDepth 16384 in
theorem od1.code319 : (Jvm.Cond.code (⟨"java/lang/StringUTF16", "newBytesFor", "(I)[B"⟩ : Jvm.MethodName) prog_42_method_2_code 1 (some (.array .byte))).before args0 about = true :=
  su_hand_word (m := ⟨17, 0⟩) (by decide +kernel) rfl (by decide +kernel) (by decide +kernel)
set_option maxRecDepth 16384 in
theorem od1.code320 : (Jvm.Cond.code (⟨"java/lang/StringUTF16", "newBytesLength", "(I)I"⟩ : Jvm.MethodName) prog_42_method_3_code 1 (some .int)).before args0 about = true :=
  su_hand_word (m := ⟨17, 1⟩) (by decide +kernel) rfl (by decide +kernel) (by decide +kernel)
set_option maxRecDepth 16384 in
theorem od1.code321 : (Jvm.Cond.code (⟨"java/lang/StringBuilder", "append", "(J)Ljava/lang/StringBuilder;"⟩ : Jvm.MethodName) prog_40_method_16_code 3 (some (.object "java/lang/StringBuilder"))).before args0 about = true :=
  su_hand_word (m := ⟨49, 2⟩) (by decide +kernel) rfl (by decide +kernel) (by decide +kernel)
set_option maxRecDepth 16384 in
theorem od1.code322 : (Jvm.Cond.code (⟨"java/lang/AbstractStringBuilder", "append", "(J)Ljava/lang/AbstractStringBuilder;"⟩ : Jvm.MethodName) prog_22_method_33_code 5 (some (.object "java/lang/AbstractStringBuilder"))).before args0 about = true :=
  su_hand_word (m := ⟨44, 7⟩) (by decide +kernel) rfl (by decide +kernel) (by decide +kernel)
set_option maxRecDepth 16384 in
theorem od1.code323 : (Jvm.Cond.code (⟨"java/lang/Long", "stringSize", "(J)I"⟩ : Jvm.MethodName) prog_35_method_15_code 6 (some .int)).before args0 about = true :=
  su_hand_word (m := ⟨50, 1⟩) (by decide +kernel) rfl (by decide +kernel) (by decide +kernel)
set_option maxRecDepth 16384 in
theorem od1.code324 : (Jvm.Cond.code (⟨"java/lang/AbstractStringBuilder", "ensureCapacityInternal", "(I)V"⟩ : Jvm.MethodName) prog_22_method_9_code 3 none).before args0 about = true :=
  su_hand_word (m := ⟨44, 2⟩) (by decide +kernel) rfl (by decide +kernel) (by decide +kernel)
set_option maxRecDepth 16384 in
theorem od1.code325 : (Jvm.Cond.code (⟨"java/lang/AbstractStringBuilder", "newCapacity", "(I)I"⟩ : Jvm.MethodName) prog_22_method_10_code 6 (some .int)).before args0 about = true :=
  su_hand_word (m := ⟨44, 3⟩) (by decide +kernel) rfl (by decide +kernel) (by decide +kernel)
set_option maxRecDepth 16384 in
theorem od1.code326 : (Jvm.Cond.code (⟨"java/util/Arrays", "copyOf", "([BI)[B"⟩ : Jvm.MethodName) prog_52_method_121_code 3 (some (.array .byte))).before args0 about = true :=
  su_hand_word (m := ⟨24, 2⟩) (by decide +kernel) rfl (by decide +kernel) (by decide +kernel)
set_option maxRecDepth 16384 in
theorem od1.code327 : (Jvm.Cond.code (⟨"java/lang/AbstractStringBuilder", "isLatin1", "()Z"⟩ : Jvm.MethodName) prog_22_method_68_code 1 (some .boolean)).before args0 about = true :=
  su_hand_word (m := ⟨44, 8⟩) (by decide +kernel) rfl (by decide +kernel) (by decide +kernel)
set_option maxRecDepth 16384 in
theorem od1.code328 : (Jvm.Cond.code (⟨"java/lang/Long", "getChars", "(JI[B)I"⟩ : Jvm.MethodName) prog_35_method_14_code 11 (some .int)).before args0 about = true :=
  su_hand_word (m := ⟨50, 0⟩) (by decide +kernel) rfl (by decide +kernel) (by decide +kernel)
set_option maxRecDepth 16384 in
theorem od1.code329 : (Jvm.Cond.code (⟨"java/lang/StringUTF16", "getChars", "(JII[B)I"⟩ : Jvm.MethodName) prog_42_method_78_code 6 (some .int)).before args0 about = true :=
  su_hand_word (m := ⟨17, 10⟩) (by decide +kernel) rfl (by decide +kernel) (by decide +kernel)
set_option maxRecDepth 16384 in
theorem od1.code330 : (Jvm.Cond.code (⟨"java/lang/StringUTF16", "getChars", "(JI[B)I"⟩ : Jvm.MethodName) prog_42_method_90_code 11 (some .int)).before args0 about = true :=
  su_hand_word (m := ⟨17, 12⟩) (by decide +kernel) rfl (by decide +kernel) (by decide +kernel)
set_option maxRecDepth 16384 in
theorem od1.code331 : (Jvm.Cond.code (⟨"java/lang/StringUTF16", "putChar", "([BII)V"⟩ : Jvm.MethodName) prog_42_method_4_code 3 none).before args0 about = true :=
  su_hand_word (m := ⟨17, 2⟩) (by decide +kernel) rfl (by decide +kernel) (by decide +kernel)
set_option maxRecDepth 16384 in
theorem od1.code332 : (Jvm.Cond.code (⟨"java/lang/StringBuilder", "append", "(C)Ljava/lang/StringBuilder;"⟩ : Jvm.MethodName) prog_40_method_14_code 2 (some (.object "java/lang/StringBuilder"))).before args0 about = true :=
  su_hand_word (m := ⟨49, 1⟩) (by decide +kernel) rfl (by decide +kernel) (by decide +kernel)
set_option maxRecDepth 16384 in
theorem od1.code333 : (Jvm.Cond.code (⟨"java/lang/AbstractStringBuilder", "append", "(C)Ljava/lang/AbstractStringBuilder;"⟩ : Jvm.MethodName) prog_22_method_31_code 2 (some (.object "java/lang/AbstractStringBuilder"))).before args0 about = true :=
  su_hand_word (m := ⟨44, 6⟩) (by decide +kernel) rfl (by decide +kernel) (by decide +kernel)
set_option maxRecDepth 16384 in
theorem od1.code334 : (Jvm.Cond.code (⟨"java/lang/StringLatin1", "canEncode", "(C)Z"⟩ : Jvm.MethodName) prog_41_method_3_code 1 (some .boolean)).before args0 about = true :=
  su_hand_word (m := ⟨16, 0⟩) (by decide +kernel) rfl (by decide +kernel) (by decide +kernel)
