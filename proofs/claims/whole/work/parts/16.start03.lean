theorem od1.code238 : (Jvm.Cond.code (⟨"SequencepointModel", "simple", "(CI)I"⟩ : Jvm.MethodName) prog_14_method_36_code 3 (some .int)).before args0 about = true := od1.code_of (by decide +kernel) start1.code238
theorem od1.code239 : (Jvm.Cond.code (⟨"SequencepointModel$Statement", "<init>", "(CLSequencepointModel$Node;LSequencepointModel$Statement;LSequencepointModel$Statement;)V"⟩ : Jvm.MethodName) prog_19_method_1_code 5 none).before args0 about = true := od1.code_of (by decide +kernel) start1.code239
theorem od1.code240 : (Jvm.Cond.code (⟨"SequencepointModel", "added", "(LSequencepointModel$Statement;)I"⟩ : Jvm.MethodName) prog_14_method_33_code 2 (some .int)).before args0 about = true := od1.code_of (by decide +kernel) start1.code240
theorem od1.code241 : (Jvm.Cond.code (⟨"SequencepointModel", "declare", "(I)I"⟩ : Jvm.MethodName) prog_14_method_37_code 3 (some .int)).before args0 about = true := od1.code_of (by decide +kernel) start1.code241
theorem od1.code242 : (Jvm.Cond.code (⟨"SequencepointModel", "branch", "(III)I"⟩ : Jvm.MethodName) prog_14_method_38_code 6 (some .int)).before args0 about = true := od1.code_of (by decide +kernel) start1.code242
theorem od1.code243 : (Jvm.Cond.code (⟨"SequencepointModel", "isNoStatement", "(I)Z"⟩ : Jvm.MethodName) prog_14_method_35_code 2 (some .boolean)).before args0 about = true := od1.code_of (by decide +kernel) start1.code243
theorem od1.code244 : (Jvm.Cond.code (⟨"SequencepointModel", "isFree", "(LSequencepointModel$Statement;)Z"⟩ : Jvm.MethodName) prog_14_method_34_code 1 (some .boolean)).before args0 about = true := od1.code_of (by decide +kernel) start1.code244
theorem od1.code245 : (Jvm.Cond.code (⟨"SequencepointModel", "repeat", "(II)I"⟩ : Jvm.MethodName) prog_14_method_39_code 3 (some .int)).before args0 about = true := od1.code_of (by decide +kernel) start1.code245
theorem od1.code246 : (Jvm.Cond.code (⟨"SequencepointModel", "then", "(II)I"⟩ : Jvm.MethodName) prog_14_method_40_code 3 (some .int)).before args0 about = true := od1.code_of (by decide +kernel) start1.code246
theorem od1.code247 : (Jvm.Cond.code (⟨"SequencepointModel", "block", "(I)I"⟩ : Jvm.MethodName) prog_14_method_41_code 2 (some .int)).before args0 about = true := od1.code_of (by decide +kernel) start1.code247
theorem od1.code248 : (Jvm.Cond.code (⟨"SequencepointModel", "run", "(I)C"⟩ : Jvm.MethodName) prog_14_method_48_code 2 (some .char)).before args0 about = true := od1.code_of (by decide +kernel) start1.code248
theorem od1.code249 : (Jvm.Cond.code (⟨"SequencepointModel", "isNoProgram", "()Z"⟩ : Jvm.MethodName) prog_14_method_45_code 1 (some .boolean)).before args0 about = true := od1.code_of (by decide +kernel) start1.code249
theorem od1.code250 : (Jvm.Cond.code (⟨"SequencepointModel", "runs", "([LSequencepointModel$Statement;I)C"⟩ : Jvm.MethodName) prog_14_method_47_code 3 (some .char)).before args0 about = true := od1.code_of (by decide +kernel) start1.code250
theorem od1.code251 : (Jvm.Cond.code (⟨"SequencepointModel", "ran", "([LSequencepointModel$Statement;I)LSequencepointModel$Run;"⟩ : Jvm.MethodName) prog_14_method_46_code 4 (some (.object "SequencepointModel$Run"))).before args0 about = true := od1.code_of (by decide +kernel) start1.code251
theorem od1.code252 : (Jvm.Cond.code (⟨"SequencepointModel$Run", "<init>", "(LSequencepointModel;[LSequencepointModel$Statement;I)V"⟩ : Jvm.MethodName) prog_18_method_1_code 4 none).before args0 about = true := od1.code_of (by decide +kernel) start1.code252
theorem od1.code253 : (Jvm.Cond.code (⟨"java/util/ArrayList", "<init>", "()V"⟩ : Jvm.MethodName) prog_50_method_2_code 1 none).before args0 about = true := od1.code_of (by decide +kernel) start1.code253
theorem od1.code254 : (Jvm.Cond.code (⟨"java/util/AbstractList", "<init>", "()V"⟩ : Jvm.MethodName) prog_49_method_1_code 1 none).before args0 about = true := od1.code_of (by decide +kernel) start1.code254
theorem od1.code255 : (Jvm.Cond.code (⟨"java/util/AbstractCollection", "<init>", "()V"⟩ : Jvm.MethodName) prog_48_method_1_code 1 none).before args0 about = true := od1.code_of (by decide +kernel) start1.code255
theorem od1.code256 : (Jvm.Cond.code (⟨"SequencepointModel$Run", "comes", "(I)I"⟩ : Jvm.MethodName) prog_18_method_3_code 2 (some .int)).before args0 about = true := od1.code_of (by decide +kernel) start1.code256
theorem od1.code257 : (Jvm.Cond.code (⟨"SequencepointModel$Thing", "<init>", "(I)V"⟩ : Jvm.MethodName) prog_20_method_1_code 2 none).before args0 about = true := od1.code_of (by decide +kernel) start1.code257
theorem od1.code258 : (Jvm.Cond.code (⟨"java/util/ArrayList", "add", "(Ljava/lang/Object;)Z"⟩ : Jvm.MethodName) prog_50_method_25_code 2 (some .boolean)).before args0 about = true := od1.code_of (by decide +kernel) start1.code258
set_option maxRecDepth 16384 in
theorem od1.codes_are_8 : tables_1_8.filter su_isCode = [Jvm.Cond.code (⟨"SequencepointModel", "common", "(II)I"⟩ : Jvm.MethodName) prog_14_method_13_code 4 (some .int),
    Jvm.Cond.code (⟨"SequencepointModel", "choose", "(III)I"⟩ : Jvm.MethodName) prog_14_method_28_code 7 (some .int),
    Jvm.Cond.code (⟨"SequencepointModel", "assign", "(CII)I"⟩ : Jvm.MethodName) prog_14_method_29_code 7 (some .int),
    Jvm.Cond.code (⟨"SequencepointModel", "call", "(III)I"⟩ : Jvm.MethodName) prog_14_method_31_code 8 (some .int),
    Jvm.Cond.code (⟨"SequencepointModel", "fitsParameter", "(II)Z"⟩ : Jvm.MethodName) prog_14_method_30_code 3 (some .boolean),
    Jvm.Cond.code (⟨"SequencepointModel", "typeOf", "(I)I"⟩ : Jvm.MethodName) prog_14_method_32_code 2 (some .int),
    Jvm.Cond.code (⟨"SequencepointModel", "simple", "(CI)I"⟩ : Jvm.MethodName) prog_14_method_36_code 3 (some .int),
    Jvm.Cond.code (⟨"SequencepointModel$Statement", "<init>", "(CLSequencepointModel$Node;LSequencepointModel$Statement;LSequencepointModel$Statement;)V"⟩ : Jvm.MethodName) prog_19_method_1_code 5 none,
    Jvm.Cond.code (⟨"SequencepointModel", "added", "(LSequencepointModel$Statement;)I"⟩ : Jvm.MethodName) prog_14_method_33_code 2 (some .int),
    Jvm.Cond.code (⟨"SequencepointModel", "declare", "(I)I"⟩ : Jvm.MethodName) prog_14_method_37_code 3 (some .int),
    Jvm.Cond.code (⟨"SequencepointModel", "branch", "(III)I"⟩ : Jvm.MethodName) prog_14_method_38_code 6 (some .int),
    Jvm.Cond.code (⟨"SequencepointModel", "isNoStatement", "(I)Z"⟩ : Jvm.MethodName) prog_14_method_35_code 2 (some .boolean),
    Jvm.Cond.code (⟨"SequencepointModel", "isFree", "(LSequencepointModel$Statement;)Z"⟩ : Jvm.MethodName) prog_14_method_34_code 1 (some .boolean),
    Jvm.Cond.code (⟨"SequencepointModel", "repeat", "(II)I"⟩ : Jvm.MethodName) prog_14_method_39_code 3 (some .int),
    Jvm.Cond.code (⟨"SequencepointModel", "then", "(II)I"⟩ : Jvm.MethodName) prog_14_method_40_code 3 (some .int),
    Jvm.Cond.code (⟨"SequencepointModel", "block", "(I)I"⟩ : Jvm.MethodName) prog_14_method_41_code 2 (some .int),
    Jvm.Cond.code (⟨"SequencepointModel", "run", "(I)C"⟩ : Jvm.MethodName) prog_14_method_48_code 2 (some .char),
    Jvm.Cond.code (⟨"SequencepointModel", "isNoProgram", "()Z"⟩ : Jvm.MethodName) prog_14_method_45_code 1 (some .boolean),
    Jvm.Cond.code (⟨"SequencepointModel", "runs", "([LSequencepointModel$Statement;I)C"⟩ : Jvm.MethodName) prog_14_method_47_code 3 (some .char),
    Jvm.Cond.code (⟨"SequencepointModel", "ran", "([LSequencepointModel$Statement;I)LSequencepointModel$Run;"⟩ : Jvm.MethodName) prog_14_method_46_code 4 (some (.object "SequencepointModel$Run")),
    Jvm.Cond.code (⟨"SequencepointModel$Run", "<init>", "(LSequencepointModel;[LSequencepointModel$Statement;I)V"⟩ : Jvm.MethodName) prog_18_method_1_code 4 none,
    Jvm.Cond.code (⟨"java/util/ArrayList", "<init>", "()V"⟩ : Jvm.MethodName) prog_50_method_2_code 1 none,
    Jvm.Cond.code (⟨"java/util/AbstractList", "<init>", "()V"⟩ : Jvm.MethodName) prog_49_method_1_code 1 none,
    Jvm.Cond.code (⟨"java/util/AbstractCollection", "<init>", "()V"⟩ : Jvm.MethodName) prog_48_method_1_code 1 none,
    Jvm.Cond.code (⟨"SequencepointModel$Run", "comes", "(I)I"⟩ : Jvm.MethodName) prog_18_method_3_code 2 (some .int),
    Jvm.Cond.code (⟨"SequencepointModel$Thing", "<init>", "(I)V"⟩ : Jvm.MethodName) prog_20_method_1_code 2 none,
    Jvm.Cond.code (⟨"java/util/ArrayList", "add", "(Ljava/lang/Object;)Z"⟩ : Jvm.MethodName) prog_50_method_25_code 2 (some .boolean)] := by
  first
  | rfl
  | simp only [tables_1_8, List.filter, su_isCode]
set_option maxRecDepth 16384 in
theorem od1.codes_hold_8 : ∀ c ∈ tables_1_8.filter su_isCode, c.before args0 about = true := by
  rw [codes_are_8]
  exact List.forall_mem_cons.mpr ⟨code232, List.forall_mem_cons.mpr ⟨code233, List.forall_mem_cons.mpr ⟨code234, List.forall_mem_cons.mpr ⟨code235, List.forall_mem_cons.mpr ⟨code236, List.forall_mem_cons.mpr ⟨code237, List.forall_mem_cons.mpr ⟨code238, List.forall_mem_cons.mpr ⟨code239, List.forall_mem_cons.mpr ⟨code240, List.forall_mem_cons.mpr ⟨code241, List.forall_mem_cons.mpr ⟨code242, List.forall_mem_cons.mpr ⟨code243, List.forall_mem_cons.mpr ⟨code244, List.forall_mem_cons.mpr ⟨code245, List.forall_mem_cons.mpr ⟨code246, List.forall_mem_cons.mpr ⟨code247, List.forall_mem_cons.mpr ⟨code248, List.forall_mem_cons.mpr ⟨code249, List.forall_mem_cons.mpr ⟨code250, List.forall_mem_cons.mpr ⟨code251, List.forall_mem_cons.mpr ⟨code252, List.forall_mem_cons.mpr ⟨code253, List.forall_mem_cons.mpr ⟨code254, List.forall_mem_cons.mpr ⟨code255, List.forall_mem_cons.mpr ⟨code256, List.forall_mem_cons.mpr ⟨code257, List.forall_mem_cons.mpr ⟨code258, List.forall_mem_nil _⟩⟩⟩⟩⟩⟩⟩⟩⟩⟩⟩⟩⟩⟩⟩⟩⟩⟩⟩⟩⟩⟩⟩⟩⟩⟩⟩
set_option maxRecDepth 100000 in
theorem od1.others_8_0 : (tables_1_8.take 120).all od1.chk = true := by decide +kernel
set_option maxRecDepth 100000 in
theorem od1.others_8_1 : ((tables_1_8.drop 120).take 120).all od1.chk = true := by decide +kernel
set_option maxRecDepth 100000 in
theorem od1.others_8_2 : ((tables_1_8.drop 120).drop 120).all od1.chk = true := by decide +kernel
theorem od1.others_hold_8 : tables_1_8.all (fun c => su_isCode c || c.before args0 about) = true := od1.from_chk start1.words_8 (od1.su_all_split _ 120 tables_1_8 od1.others_8_0 (od1.su_all_split _ 120 (tables_1_8.drop 120) od1.others_8_1 od1.others_8_2))
set_option maxRecDepth 16384 in
theorem od1.words_8 : ∀ c ∈ tables_1_8, c.before args0 about = true := fun c h => su_words others_hold_8 codes_hold_8 c h
theorem od1.code259 : (Jvm.Cond.code (⟨"java/util/ArrayList", "add", "(Ljava/lang/Object;[Ljava/lang/Object;I)V"⟩ : Jvm.MethodName) prog_50_method_24_code 4 none).before args0 about = true := od1.code_of (by decide +kernel) start1.code259
theorem od1.code260 : (Jvm.Cond.code (⟨"java/util/ArrayList", "grow", "()[Ljava/lang/Object;"⟩ : Jvm.MethodName) prog_50_method_7_code 1 (some (.array (.object "java/lang/Object")))).before args0 about = true := od1.code_of (by decide +kernel) start1.code260
theorem od1.code261 : (Jvm.Cond.code (⟨"java/util/ArrayList", "grow", "(I)[Ljava/lang/Object;"⟩ : Jvm.MethodName) prog_50_method_6_code 4 (some (.array (.object "java/lang/Object")))).before args0 about = true := od1.code_of (by decide +kernel) start1.code261
theorem od1.code262 : (Jvm.Cond.code (⟨"jdk/internal/util/ArraysSupport", "newLength", "(III)I"⟩ : Jvm.MethodName) prog_60_method_27_code 4 (some .int)).before args0 about = true := od1.code_of (by decide +kernel) start1.code262
theorem od1.code263 : (Jvm.Cond.code (⟨"jdk/internal/util/ArraysSupport", "hugeLength", "(II)I"⟩ : Jvm.MethodName) prog_60_method_28_code 3 (some .int)).before args0 about = true := od1.code_of (by decide +kernel) start1.code263
theorem od1.code264 : (Jvm.Cond.code (⟨"java/util/Arrays", "copyOf", "([Ljava/lang/Object;I)[Ljava/lang/Object;"⟩ : Jvm.MethodName) prog_52_method_119_code 2 (some (.array (.object "java/lang/Object")))).before args0 about = true := od1.code_of (by decide +kernel) start1.code264
theorem od1.code265 : (Jvm.Cond.code (⟨"java/util/Arrays", "copyOf", "([Ljava/lang/Object;ILjava/lang/Class;)[Ljava/lang/Object;"⟩ : Jvm.MethodName) prog_52_method_120_code 4 (some (.array (.object "java/lang/Object")))).before args0 about = true := od1.code_of (by decide +kernel) start1.code265
theorem od1.code266 : (Jvm.Cond.code (⟨"java/util/ArrayList", "size", "()I"⟩ : Jvm.MethodName) prog_50_method_8_code 1 (some .int)).before args0 about = true := od1.code_of (by decide +kernel) start1.code266
theorem od1.code267 : (Jvm.Cond.code (⟨"SequencepointModel$Frame", "<init>", "(I)V"⟩ : Jvm.MethodName) prog_16_method_1_code 3 none).before args0 about = true := od1.code_of (by decide +kernel) start1.code267
theorem od1.code268 : (Jvm.Cond.code (⟨"SequencepointModel$Run", "does", "(LSequencepointModel$Statement;)Z"⟩ : Jvm.MethodName) prog_18_method_29_code 7 (some .boolean)).before args0 about = true := od1.code_of (by decide +kernel) start1.code268
theorem od1.code269 : (Jvm.Cond.code (⟨"SequencepointModel$Run", "steps", "()V"⟩ : Jvm.MethodName) prog_18_method_4_code 1 none).before args0 about = true := od1.code_of (by decide +kernel) start1.code269
theorem od1.code270 : (Jvm.Cond.code (⟨"SequencepointModel$End", "<init>", "(CCLSequencepointModel$Node;)V"⟩ : Jvm.MethodName) prog_15_method_1_code 4 none).before args0 about = true := od1.code_of (by decide +kernel) start1.code270
theorem od1.code271 : (Jvm.Cond.code (⟨"java/lang/Exception", "<init>", "(Ljava/lang/String;Ljava/lang/Throwable;)V"⟩ : Jvm.MethodName) prog_28_method_3_code 3 none).before args0 about = true := od1.code_of (by decide +kernel) start1.code271
theorem od1.code272 : (Jvm.Cond.code (⟨"java/lang/Throwable", "<init>", "(Ljava/lang/String;Ljava/lang/Throwable;)V"⟩ : Jvm.MethodName) prog_44_method_3_code 3 none).before args0 about = true := od1.code_of (by decide +kernel) start1.code272
theorem od1.code273 : (Jvm.Cond.code (⟨"SequencepointModel$Run", "full", "(LSequencepointModel$Node;)J"⟩ : Jvm.MethodName) prog_18_method_28_code 5 (some .long)).before args0 about = true := od1.code_of (by decide +kernel) start1.code273
theorem od1.code274 : (Jvm.Cond.code (⟨"SequencepointModel$Run", "value", "(LSequencepointModel$Node;)J"⟩ : Jvm.MethodName) prog_18_method_21_code 6 (some .long)).before args0 about = true := od1.code_of (by decide +kernel) start1.code274
theorem od1.code275 : (Jvm.Cond.code (⟨"SequencepointModel$Run", "lifeOf", "(I)J"⟩ : Jvm.MethodName) prog_18_method_10_code 3 (some .long)).before args0 about = true := od1.code_of (by decide +kernel) start1.code275
theorem od1.code276 : (Jvm.Cond.code (⟨"java/util/ArrayList", "get", "(I)Ljava/lang/Object;"⟩ : Jvm.MethodName) prog_50_method_20_code 2 (some (.object "java/lang/Object"))).before args0 about = true := od1.code_of (by decide +kernel) start1.code276
theorem od1.code277 : (Jvm.Cond.code (⟨"java/util/Objects", "checkIndex", "(II)I"⟩ : Jvm.MethodName) prog_57_method_17_code 2 (some .int)).before args0 about = true := od1.code_of (by decide +kernel) start1.code277
theorem od1.code278 : (Jvm.Cond.code (⟨"java/util/ArrayList", "elementData", "(I)Ljava/lang/Object;"⟩ : Jvm.MethodName) prog_50_method_18_code 2 (some (.object "java/lang/Object"))).before args0 about = true := od1.code_of (by decide +kernel) start1.code278
theorem od1.code279 : (Jvm.Cond.code (⟨"SequencepointModel$Run", "reads", "(JLSequencepointModel$Node;)J"⟩ : Jvm.MethodName) prog_18_method_12_code 5 (some .long)).before args0 about = true := od1.code_of (by decide +kernel) start1.code279
theorem od1.code280 : (Jvm.Cond.code (⟨"SequencepointModel$Run", "reached", "(JLSequencepointModel$Node;)LSequencepointModel$Thing;"⟩ : Jvm.MethodName) prog_18_method_11_code 5 (some (.object "SequencepointModel$Thing"))).before args0 about = true := od1.code_of (by decide +kernel) start1.code280
theorem od1.code281 : (Jvm.Cond.code (⟨"SequencepointModel$Run", "thing", "(J)LSequencepointModel$Thing;"⟩ : Jvm.MethodName) prog_18_method_7_code 3 (some (.object "SequencepointModel$Thing"))).before args0 about = true := od1.code_of (by decide +kernel) start1.code281
theorem od1.code282 : (Jvm.Cond.code (⟨"SequencepointModel$Run", "none", "(CLSequencepointModel$Node;)LSequencepointModel$End;"⟩ : Jvm.MethodName) prog_18_method_5_code 3 (some (.object "SequencepointModel$End"))).before args0 about = true := od1.code_of (by decide +kernel) start1.code282
theorem od1.code283 : (Jvm.Cond.code (⟨"SequencepointModel$Run", "partOf", "(J)I"⟩ : Jvm.MethodName) prog_18_method_8_code 2 (some .int)).before args0 about = true := od1.code_of (by decide +kernel) start1.code283
theorem od1.code284 : (Jvm.Cond.code (⟨"SequencepointModel$Run", "cellOf", "(J)I"⟩ : Jvm.MethodName) prog_18_method_9_code 2 (some .int)).before args0 about = true := od1.code_of (by decide +kernel) start1.code284
theorem od1.code285 : (Jvm.Cond.code (⟨"SequencepointModel$Run", "notes", "(IZ)V"⟩ : Jvm.MethodName) prog_18_method_6_code 5 none).before args0 about = true := od1.code_of (by decide +kernel) start1.code285
theorem od1.code286 : (Jvm.Cond.code (⟨"SequencepointModel$Run", "holds", "(LSequencepointModel$Node;)Z"⟩ : Jvm.MethodName) prog_18_method_20_code 2 (some .boolean)).before args0 about = true := od1.code_of (by decide +kernel) start1.code286
theorem od1.code287 : (Jvm.Cond.code (⟨"SequencepointModel", "convert", "(IJ)J"⟩ : Jvm.MethodName) prog_14_method_11_code 5 (some .long)).before args0 about = true := od1.code_of (by decide +kernel) start1.code287
theorem od1.code288 : (Jvm.Cond.code (⟨"SequencepointModel$Run", "called", "(LSequencepointModel$Node;)J"⟩ : Jvm.MethodName) prog_18_method_27_code 9 (some .long)).before args0 about = true := od1.code_of (by decide +kernel) start1.code288
theorem od1.code289 : (Jvm.Cond.code (⟨"SequencepointModel$Run", "two", "(LSequencepointModel$Node;Z)[J"⟩ : Jvm.MethodName) prog_18_method_17_code 12 (some (.array .long))).before args0 about = true := od1.code_of (by decide +kernel) start1.code289
theorem od1.code290 : (Jvm.Cond.code (⟨"SequencepointModel$Node", "hasCall", "()Z"⟩ : Jvm.MethodName) prog_17_method_3_code 6 (some .boolean)).before args0 about = true := od1.code_of (by decide +kernel) start1.code290
theorem od1.code291 : (Jvm.Cond.code (⟨"SequencepointModel$Run", "part", "(LSequencepointModel$Node;Z)J"⟩ : Jvm.MethodName) prog_18_method_16_code 3 (some .long)).before args0 about = true := od1.code_of (by decide +kernel) start1.code291
theorem od1.code292 : (Jvm.Cond.code (⟨"SequencepointModel$Run", "place", "(LSequencepointModel$Node;)J"⟩ : Jvm.MethodName) prog_18_method_19_code 2 (some .long)).before args0 about = true := od1.code_of (by decide +kernel) start1.code292
theorem od1.code293 : (Jvm.Cond.code (⟨"SequencepointModel$Run", "clash", "(IIII)Z"⟩ : Jvm.MethodName) prog_18_method_15_code 8 (some .boolean)).before args0 about = true := od1.code_of (by decide +kernel) start1.code293
theorem od1.code294 : (Jvm.Cond.code (⟨"java/lang/Integer", "valueOf", "(I)Ljava/lang/Integer;"⟩ : Jvm.MethodName) prog_32_method_22_code 1 (some (.object "java/lang/Integer"))).before args0 about = true := od1.code_of (by decide +kernel) start1.code294
theorem od1.code295 : (Jvm.Cond.code (⟨"java/lang/Integer", "<init>", "(I)V"⟩ : Jvm.MethodName) prog_32_method_23_code 2 none).before args0 about = true := od1.code_of (by decide +kernel) start1.code295
theorem od1.code296 : (Jvm.Cond.code (⟨"java/lang/Number", "<init>", "()V"⟩ : Jvm.MethodName) prog_37_method_1_code 1 none).before args0 about = true := od1.code_of (by decide +kernel) start1.code296
theorem od1.code297 : (Jvm.Cond.code (⟨"java/util/ArrayList", "iterator", "()Ljava/util/Iterator;"⟩ : Jvm.MethodName) prog_50_method_55_code 1 (some (.object "java/util/Iterator"))).before args0 about = true := od1.code_of (by decide +kernel) start1.code297
set_option maxRecDepth 16384 in
theorem od1.codes_are_9 : tables_1_9.filter su_isCode = [Jvm.Cond.code (⟨"java/util/ArrayList", "add", "(Ljava/lang/Object;[Ljava/lang/Object;I)V"⟩ : Jvm.MethodName) prog_50_method_24_code 4 none,
    Jvm.Cond.code (⟨"java/util/ArrayList", "grow", "()[Ljava/lang/Object;"⟩ : Jvm.MethodName) prog_50_method_7_code 1 (some (.array (.object "java/lang/Object"))),
    Jvm.Cond.code (⟨"java/util/ArrayList", "grow", "(I)[Ljava/lang/Object;"⟩ : Jvm.MethodName) prog_50_method_6_code 4 (some (.array (.object "java/lang/Object"))),
    Jvm.Cond.code (⟨"jdk/internal/util/ArraysSupport", "newLength", "(III)I"⟩ : Jvm.MethodName) prog_60_method_27_code 4 (some .int),
    Jvm.Cond.code (⟨"jdk/internal/util/ArraysSupport", "hugeLength", "(II)I"⟩ : Jvm.MethodName) prog_60_method_28_code 3 (some .int),
    Jvm.Cond.code (⟨"java/util/Arrays", "copyOf", "([Ljava/lang/Object;I)[Ljava/lang/Object;"⟩ : Jvm.MethodName) prog_52_method_119_code 2 (some (.array (.object "java/lang/Object"))),
    Jvm.Cond.code (⟨"java/util/Arrays", "copyOf", "([Ljava/lang/Object;ILjava/lang/Class;)[Ljava/lang/Object;"⟩ : Jvm.MethodName) prog_52_method_120_code 4 (some (.array (.object "java/lang/Object"))),
    Jvm.Cond.code (⟨"java/util/ArrayList", "size", "()I"⟩ : Jvm.MethodName) prog_50_method_8_code 1 (some .int),
    Jvm.Cond.code (⟨"SequencepointModel$Frame", "<init>", "(I)V"⟩ : Jvm.MethodName) prog_16_method_1_code 3 none,
    Jvm.Cond.code (⟨"SequencepointModel$Run", "does", "(LSequencepointModel$Statement;)Z"⟩ : Jvm.MethodName) prog_18_method_29_code 7 (some .boolean),
    Jvm.Cond.code (⟨"SequencepointModel$Run", "steps", "()V"⟩ : Jvm.MethodName) prog_18_method_4_code 1 none,
    Jvm.Cond.code (⟨"SequencepointModel$End", "<init>", "(CCLSequencepointModel$Node;)V"⟩ : Jvm.MethodName) prog_15_method_1_code 4 none,
    Jvm.Cond.code (⟨"java/lang/Exception", "<init>", "(Ljava/lang/String;Ljava/lang/Throwable;)V"⟩ : Jvm.MethodName) prog_28_method_3_code 3 none,
    Jvm.Cond.code (⟨"java/lang/Throwable", "<init>", "(Ljava/lang/String;Ljava/lang/Throwable;)V"⟩ : Jvm.MethodName) prog_44_method_3_code 3 none,
    Jvm.Cond.code (⟨"SequencepointModel$Run", "full", "(LSequencepointModel$Node;)J"⟩ : Jvm.MethodName) prog_18_method_28_code 5 (some .long),
    Jvm.Cond.code (⟨"SequencepointModel$Run", "value", "(LSequencepointModel$Node;)J"⟩ : Jvm.MethodName) prog_18_method_21_code 6 (some .long),
    Jvm.Cond.code (⟨"SequencepointModel$Run", "lifeOf", "(I)J"⟩ : Jvm.MethodName) prog_18_method_10_code 3 (some .long),
    Jvm.Cond.code (⟨"java/util/ArrayList", "get", "(I)Ljava/lang/Object;"⟩ : Jvm.MethodName) prog_50_method_20_code 2 (some (.object "java/lang/Object")),
    Jvm.Cond.code (⟨"java/util/Objects", "checkIndex", "(II)I"⟩ : Jvm.MethodName) prog_57_method_17_code 2 (some .int),
    Jvm.Cond.code (⟨"java/util/ArrayList", "elementData", "(I)Ljava/lang/Object;"⟩ : Jvm.MethodName) prog_50_method_18_code 2 (some (.object "java/lang/Object")),
    Jvm.Cond.code (⟨"SequencepointModel$Run", "reads", "(JLSequencepointModel$Node;)J"⟩ : Jvm.MethodName) prog_18_method_12_code 5 (some .long),
    Jvm.Cond.code (⟨"SequencepointModel$Run", "reached", "(JLSequencepointModel$Node;)LSequencepointModel$Thing;"⟩ : Jvm.MethodName) prog_18_method_11_code 5 (some (.object "SequencepointModel$Thing")),
    Jvm.Cond.code (⟨"SequencepointModel$Run", "thing", "(J)LSequencepointModel$Thing;"⟩ : Jvm.MethodName) prog_18_method_7_code 3 (some (.object "SequencepointModel$Thing")),
    Jvm.Cond.code (⟨"SequencepointModel$Run", "none", "(CLSequencepointModel$Node;)LSequencepointModel$End;"⟩ : Jvm.MethodName) prog_18_method_5_code 3 (some (.object "SequencepointModel$End")),
    Jvm.Cond.code (⟨"SequencepointModel$Run", "partOf", "(J)I"⟩ : Jvm.MethodName) prog_18_method_8_code 2 (some .int),
    Jvm.Cond.code (⟨"SequencepointModel$Run", "cellOf", "(J)I"⟩ : Jvm.MethodName) prog_18_method_9_code 2 (some .int),
    Jvm.Cond.code (⟨"SequencepointModel$Run", "notes", "(IZ)V"⟩ : Jvm.MethodName) prog_18_method_6_code 5 none,
    Jvm.Cond.code (⟨"SequencepointModel$Run", "holds", "(LSequencepointModel$Node;)Z"⟩ : Jvm.MethodName) prog_18_method_20_code 2 (some .boolean),
    Jvm.Cond.code (⟨"SequencepointModel", "convert", "(IJ)J"⟩ : Jvm.MethodName) prog_14_method_11_code 5 (some .long),
    Jvm.Cond.code (⟨"SequencepointModel$Run", "called", "(LSequencepointModel$Node;)J"⟩ : Jvm.MethodName) prog_18_method_27_code 9 (some .long),
    Jvm.Cond.code (⟨"SequencepointModel$Run", "two", "(LSequencepointModel$Node;Z)[J"⟩ : Jvm.MethodName) prog_18_method_17_code 12 (some (.array .long)),
    Jvm.Cond.code (⟨"SequencepointModel$Node", "hasCall", "()Z"⟩ : Jvm.MethodName) prog_17_method_3_code 6 (some .boolean),
    Jvm.Cond.code (⟨"SequencepointModel$Run", "part", "(LSequencepointModel$Node;Z)J"⟩ : Jvm.MethodName) prog_18_method_16_code 3 (some .long),
    Jvm.Cond.code (⟨"SequencepointModel$Run", "place", "(LSequencepointModel$Node;)J"⟩ : Jvm.MethodName) prog_18_method_19_code 2 (some .long),
    Jvm.Cond.code (⟨"SequencepointModel$Run", "clash", "(IIII)Z"⟩ : Jvm.MethodName) prog_18_method_15_code 8 (some .boolean),
    Jvm.Cond.code (⟨"java/lang/Integer", "valueOf", "(I)Ljava/lang/Integer;"⟩ : Jvm.MethodName) prog_32_method_22_code 1 (some (.object "java/lang/Integer")),
    Jvm.Cond.code (⟨"java/lang/Integer", "<init>", "(I)V"⟩ : Jvm.MethodName) prog_32_method_23_code 2 none,
    Jvm.Cond.code (⟨"java/lang/Number", "<init>", "()V"⟩ : Jvm.MethodName) prog_37_method_1_code 1 none,
    Jvm.Cond.code (⟨"java/util/ArrayList", "iterator", "()Ljava/util/Iterator;"⟩ : Jvm.MethodName) prog_50_method_55_code 1 (some (.object "java/util/Iterator"))] := by
  first
  | rfl
  | simp only [tables_1_9, List.filter, su_isCode]
set_option maxRecDepth 16384 in
theorem od1.codes_hold_9 : ∀ c ∈ tables_1_9.filter su_isCode, c.before args0 about = true := by
  rw [codes_are_9]
  exact List.forall_mem_cons.mpr ⟨code259, List.forall_mem_cons.mpr ⟨code260, List.forall_mem_cons.mpr ⟨code261, List.forall_mem_cons.mpr ⟨code262, List.forall_mem_cons.mpr ⟨code263, List.forall_mem_cons.mpr ⟨code264, List.forall_mem_cons.mpr ⟨code265, List.forall_mem_cons.mpr ⟨code266, List.forall_mem_cons.mpr ⟨code267, List.forall_mem_cons.mpr ⟨code268, List.forall_mem_cons.mpr ⟨code269, List.forall_mem_cons.mpr ⟨code270, List.forall_mem_cons.mpr ⟨code271, List.forall_mem_cons.mpr ⟨code272, List.forall_mem_cons.mpr ⟨code273, List.forall_mem_cons.mpr ⟨code274, List.forall_mem_cons.mpr ⟨code275, List.forall_mem_cons.mpr ⟨code276, List.forall_mem_cons.mpr ⟨code277, List.forall_mem_cons.mpr ⟨code278, List.forall_mem_cons.mpr ⟨code279, List.forall_mem_cons.mpr ⟨code280, List.forall_mem_cons.mpr ⟨code281, List.forall_mem_cons.mpr ⟨code282, List.forall_mem_cons.mpr ⟨code283, List.forall_mem_cons.mpr ⟨code284, List.forall_mem_cons.mpr ⟨code285, List.forall_mem_cons.mpr ⟨code286, List.forall_mem_cons.mpr ⟨code287, List.forall_mem_cons.mpr ⟨code288, List.forall_mem_cons.mpr ⟨code289, List.forall_mem_cons.mpr ⟨code290, List.forall_mem_cons.mpr ⟨code291, List.forall_mem_cons.mpr ⟨code292, List.forall_mem_cons.mpr ⟨code293, List.forall_mem_cons.mpr ⟨code294, List.forall_mem_cons.mpr ⟨code295, List.forall_mem_cons.mpr ⟨code296, List.forall_mem_cons.mpr ⟨code297, List.forall_mem_nil _⟩⟩⟩⟩⟩⟩⟩⟩⟩⟩⟩⟩⟩⟩⟩⟩⟩⟩⟩⟩⟩⟩⟩⟩⟩⟩⟩⟩⟩⟩⟩⟩⟩⟩⟩⟩⟩⟩⟩
set_option maxRecDepth 100000 in
theorem od1.others_9_0 : (tables_1_9.take 120).all od1.chk = true := by decide +kernel
set_option maxRecDepth 100000 in
theorem od1.others_9_1 : ((tables_1_9.drop 120).take 120).all od1.chk = true := by decide +kernel
set_option maxRecDepth 100000 in
theorem od1.others_9_2 : ((tables_1_9.drop 120).drop 120).all od1.chk = true := by decide +kernel
theorem od1.others_hold_9 : tables_1_9.all (fun c => su_isCode c || c.before args0 about) = true := od1.from_chk start1.words_9 (od1.su_all_split _ 120 tables_1_9 od1.others_9_0 (od1.su_all_split _ 120 (tables_1_9.drop 120) od1.others_9_1 od1.others_9_2))
set_option maxRecDepth 16384 in
theorem od1.words_9 : ∀ c ∈ tables_1_9, c.before args0 about = true := fun c h => su_words others_hold_9 codes_hold_9 c h
theorem od1.code298 : (Jvm.Cond.code (⟨"java/util/ArrayList$Itr", "<init>", "(Ljava/util/ArrayList;)V"⟩ : Jvm.MethodName) prog_51_method_1_code 2 none).before args0 about = true := od1.code_of (by decide +kernel) start1.code298
theorem od1.code299 : (Jvm.Cond.code (⟨"java/util/ArrayList$Itr", "hasNext", "()Z"⟩ : Jvm.MethodName) prog_51_method_2_code 1 (some .boolean)).before args0 about = true := od1.code_of (by decide +kernel) start1.code299
theorem od1.code300 : (Jvm.Cond.code (⟨"java/util/ArrayList$Itr", "next", "()Ljava/lang/Object;"⟩ : Jvm.MethodName) prog_51_method_3_code 3 (some (.object "java/lang/Object"))).before args0 about = true := od1.code_of (by decide +kernel) start1.code300
theorem od1.code301 : (Jvm.Cond.code (⟨"java/util/ArrayList$Itr", "checkForComodification", "()V"⟩ : Jvm.MethodName) prog_51_method_6_code 1 none).before args0 about = true := od1.code_of (by decide +kernel) start1.code301
theorem od1.code302 : (Jvm.Cond.code (⟨"java/util/NoSuchElementException", "<init>", "()V"⟩ : Jvm.MethodName) prog_56_method_1_code 1 none).before args0 about = true := od1.code_of (by decide +kernel) start1.code302
theorem od1.code303 : (Jvm.Cond.code (⟨"java/lang/RuntimeException", "<init>", "()V"⟩ : Jvm.MethodName) prog_38_method_1_code 1 none).before args0 about = true := od1.code_of (by decide +kernel) start1.code303
theorem od1.code304 : (Jvm.Cond.code (⟨"java/lang/Exception", "<init>", "()V"⟩ : Jvm.MethodName) prog_28_method_1_code 1 none).before args0 about = true := od1.code_of (by decide +kernel) start1.code304
theorem od1.code305 : (Jvm.Cond.code (⟨"java/lang/Integer", "intValue", "()I"⟩ : Jvm.MethodName) prog_32_method_27_code 1 (some .int)).before args0 about = true := od1.code_of (by decide +kernel) start1.code305
theorem od1.code306 : (Jvm.Cond.code (⟨"SequencepointModel$Run", "assigned", "(LSequencepointModel$Node;)J"⟩ : Jvm.MethodName) prog_18_method_26_code 8 (some .long)).before args0 about = true := od1.code_of (by decide +kernel) start1.code306
theorem od1.code307 : (Jvm.Cond.code (⟨"SequencepointModel$Run", "isWritten", "(IJ)Z"⟩ : Jvm.MethodName) prog_18_method_18_code 6 (some .boolean)).before args0 about = true := od1.code_of (by decide +kernel) start1.code307
theorem od1.code308 : (Jvm.Cond.code (⟨"SequencepointModel$Run", "moved", "(JJLSequencepointModel$Node;)J"⟩ : Jvm.MethodName) prog_18_method_14_code 9 (some .long)).before args0 about = true := od1.code_of (by decide +kernel) start1.code308
theorem od1.code309 : (Jvm.Cond.code (⟨"SequencepointModel", "reckon", "(CIJJ)J"⟩ : Jvm.MethodName) prog_14_method_42_code 10 (some .long)).before args0 about = true := od1.code_of (by decide +kernel) start1.code309
theorem od1.code310 : (Jvm.Cond.code (⟨"SequencepointModel", "fits", "(IJ)J"⟩ : Jvm.MethodName) prog_14_method_43_code 4 (some .long)).before args0 about = true := od1.code_of (by decide +kernel) start1.code310
theorem od1.code311 : (Jvm.Cond.code (⟨"SequencepointModel$Run", "known", "(LSequencepointModel$Node;J)J"⟩ : Jvm.MethodName) prog_18_method_23_code 4 (some .long)).before args0 about = true := od1.code_of (by decide +kernel) start1.code311
theorem od1.code312 : (Jvm.Cond.code (⟨"SequencepointModel$Run", "writes", "(JJLSequencepointModel$Node;)V"⟩ : Jvm.MethodName) prog_18_method_13_code 7 none).before args0 about = true := od1.code_of (by decide +kernel) start1.code312
theorem od1.code313 : (Jvm.Cond.code (⟨"SequencepointModel$Run", "one", "(LSequencepointModel$Node;)J"⟩ : Jvm.MethodName) prog_18_method_22_code 4 (some .long)).before args0 about = true := od1.code_of (by decide +kernel) start1.code313
theorem od1.code314 : (Jvm.Cond.code (⟨"SequencepointModel$Run", "counted", "(LSequencepointModel$Node;)J"⟩ : Jvm.MethodName) prog_18_method_25_code 11 (some .long)).before args0 about = true := od1.code_of (by decide +kernel) start1.code314
theorem od1.code315 : (Jvm.Cond.code (⟨"SequencepointModel", "gives", "(LSequencepointModel$Node;JJ)J"⟩ : Jvm.MethodName) prog_14_method_44_code 12 (some .long)).before args0 about = true := od1.code_of (by decide +kernel) start1.code315
theorem od1.code316 : (Jvm.Cond.code (⟨"SequencepointModel$Run", "both", "(LSequencepointModel$Node;)J"⟩ : Jvm.MethodName) prog_18_method_24_code 3 (some .long)).before args0 about = true := od1.code_of (by decide +kernel) start1.code316
theorem od1.code317 : (Jvm.Cond.code (⟨"SequencepointModel$Run", "prints", "(J)V"⟩ : Jvm.MethodName) prog_18_method_32_code 5 none).before args0 about = true := od1.code_of (by decide +kernel) start1.code317
theorem od1.code318 : (Jvm.Cond.code (⟨"java/lang/StringBuilder", "<init>", "()V"⟩ : Jvm.MethodName) prog_40_method_1_code 1 none).before args0 about = true := od1.code_of (by decide +kernel) start1.code318
theorem od1.code319 : (Jvm.Cond.code (⟨"java/lang/AbstractStringBuilder", "<init>", "(I)V"⟩ : Jvm.MethodName) prog_22_method_2_code 2 none).before args0 about = true := od1.code_of (by decide +kernel) start1.code319
theorem od1.code320 : (Jvm.Cond.code (⟨"java/lang/StringUTF16", "newBytesFor", "(I)[B"⟩ : Jvm.MethodName) prog_42_method_2_code 1 (some (.array .byte))).before args0 about = true := od1.code_of (by decide +kernel) start1.code320
theorem od1.code321 : (Jvm.Cond.code (⟨"java/lang/StringUTF16", "newBytesLength", "(I)I"⟩ : Jvm.MethodName) prog_42_method_3_code 1 (some .int)).before args0 about = true := od1.code_of (by decide +kernel) start1.code321
theorem od1.code322 : (Jvm.Cond.code (⟨"java/lang/StringBuilder", "append", "(J)Ljava/lang/StringBuilder;"⟩ : Jvm.MethodName) prog_40_method_16_code 3 (some (.object "java/lang/StringBuilder"))).before args0 about = true := od1.code_of (by decide +kernel) start1.code322
theorem od1.code323 : (Jvm.Cond.code (⟨"java/lang/AbstractStringBuilder", "append", "(J)Ljava/lang/AbstractStringBuilder;"⟩ : Jvm.MethodName) prog_22_method_33_code 5 (some (.object "java/lang/AbstractStringBuilder"))).before args0 about = true := od1.code_of (by decide +kernel) start1.code323
theorem od1.code324 : (Jvm.Cond.code (⟨"java/lang/Long", "stringSize", "(J)I"⟩ : Jvm.MethodName) prog_35_method_15_code 6 (some .int)).before args0 about = true := od1.code_of (by decide +kernel) start1.code324
theorem od1.code325 : (Jvm.Cond.code (⟨"java/lang/AbstractStringBuilder", "ensureCapacityInternal", "(I)V"⟩ : Jvm.MethodName) prog_22_method_9_code 3 none).before args0 about = true := od1.code_of (by decide +kernel) start1.code325
theorem od1.code326 : (Jvm.Cond.code (⟨"java/lang/AbstractStringBuilder", "newCapacity", "(I)I"⟩ : Jvm.MethodName) prog_22_method_10_code 6 (some .int)).before args0 about = true := od1.code_of (by decide +kernel) start1.code326
theorem od1.code327 : (Jvm.Cond.code (⟨"java/util/Arrays", "copyOf", "([BI)[B"⟩ : Jvm.MethodName) prog_52_method_121_code 3 (some (.array .byte))).before args0 about = true := od1.code_of (by decide +kernel) start1.code327
theorem od1.code328 : (Jvm.Cond.code (⟨"java/lang/AbstractStringBuilder", "isLatin1", "()Z"⟩ : Jvm.MethodName) prog_22_method_68_code 1 (some .boolean)).before args0 about = true := od1.code_of (by decide +kernel) start1.code328
theorem od1.code329 : (Jvm.Cond.code (⟨"java/lang/Long", "getChars", "(JI[B)I"⟩ : Jvm.MethodName) prog_35_method_14_code 11 (some .int)).before args0 about = true := od1.code_of (by decide +kernel) start1.code329
theorem od1.code330 : (Jvm.Cond.code (⟨"java/lang/StringUTF16", "getChars", "(JII[B)I"⟩ : Jvm.MethodName) prog_42_method_78_code 6 (some .int)).before args0 about = true := od1.code_of (by decide +kernel) start1.code330
theorem od1.code331 : (Jvm.Cond.code (⟨"java/lang/StringUTF16", "getChars", "(JI[B)I"⟩ : Jvm.MethodName) prog_42_method_90_code 11 (some .int)).before args0 about = true := od1.code_of (by decide +kernel) start1.code331
theorem od1.code332 : (Jvm.Cond.code (⟨"java/lang/StringUTF16", "putChar", "([BII)V"⟩ : Jvm.MethodName) prog_42_method_4_code 3 none).before args0 about = true := od1.code_of (by decide +kernel) start1.code332
theorem od1.code333 : (Jvm.Cond.code (⟨"java/lang/StringBuilder", "append", "(C)Ljava/lang/StringBuilder;"⟩ : Jvm.MethodName) prog_40_method_14_code 2 (some (.object "java/lang/StringBuilder"))).before args0 about = true := od1.code_of (by decide +kernel) start1.code333
theorem od1.code334 : (Jvm.Cond.code (⟨"java/lang/AbstractStringBuilder", "append", "(C)Ljava/lang/AbstractStringBuilder;"⟩ : Jvm.MethodName) prog_22_method_31_code 2 (some (.object "java/lang/AbstractStringBuilder"))).before args0 about = true := od1.code_of (by decide +kernel) start1.code334
theorem od1.code335 : (Jvm.Cond.code (⟨"java/lang/StringLatin1", "canEncode", "(C)Z"⟩ : Jvm.MethodName) prog_41_method_3_code 1 (some .boolean)).before args0 about = true := od1.code_of (by decide +kernel) start1.code335
theorem od1.code336 : (Jvm.Cond.code (⟨"java/lang/AbstractStringBuilder", "inflate", "()V"⟩ : Jvm.MethodName) prog_22_method_11_code 2 none).before args0 about = true := od1.code_of (by decide +kernel) start1.code336
theorem od1.code337 : (Jvm.Cond.code (⟨"java/lang/StringLatin1", "inflate", "([BI[BII)V"⟩ : Jvm.MethodName) prog_41_method_50_code 5 none).before args0 about = true := od1.code_of (by decide +kernel) start1.code337
theorem od1.code338 : (Jvm.Cond.code (⟨"java/lang/StringUTF16", "inflate", "([BI[BII)V"⟩ : Jvm.MethodName) prog_42_method_86_code 6 none).before args0 about = true := od1.code_of (by decide +kernel) start1.code338
theorem od1.code339 : (Jvm.Cond.code (⟨"java/lang/StringUTF16", "checkBoundsOffCount", "(II[B)V"⟩ : Jvm.MethodName) prog_42_method_94_code 3 none).before args0 about = true := od1.code_of (by decide +kernel) start1.code339
set_option maxRecDepth 16384 in
theorem od1.code340 : (Jvm.Cond.code (⟨"java/lang/String", "checkBoundsOffCount", "(III)I"⟩ : Jvm.MethodName) prog_39_method_157_code 3 (some .int)).before args0 about = true :=
  su_hand_word (m := ⟨40, 6⟩) (by decide +kernel) rfl (by decide +kernel) (by decide +kernel)
theorem od1.code341 : (Jvm.Cond.code (⟨"jdk/internal/util/Preconditions", "checkFromIndexSize", "(IIILjava/util/function/BiFunction;)I"⟩ : Jvm.MethodName) prog_61_method_13_code 4 (some .int)).before args0 about = true := od1.code_of (by decide +kernel) start1.code341
theorem od1.code342 : (Jvm.Cond.code (⟨"java/lang/StringUTF16", "putCharSB", "([BII)V"⟩ : Jvm.MethodName) prog_42_method_71_code 3 none).before args0 about = true := od1.code_of (by decide +kernel) start1.code342
theorem od1.code343 : (Jvm.Cond.code (⟨"java/lang/StringUTF16", "checkIndex", "(I[B)V"⟩ : Jvm.MethodName) prog_42_method_91_code 2 none).before args0 about = true := od1.code_of (by decide +kernel) start1.code343
theorem od1.code344 : (Jvm.Cond.code (⟨"SequencepointModel$Run", "prints", "(C)V"⟩ : Jvm.MethodName) prog_18_method_31_code 2 none).before args0 about = true := od1.code_of (by decide +kernel) start1.code344
set_option maxRecDepth 16384 in
theorem od1.codes_are_10 : tables_1_10.filter su_isCode = [Jvm.Cond.code (⟨"java/util/ArrayList$Itr", "<init>", "(Ljava/util/ArrayList;)V"⟩ : Jvm.MethodName) prog_51_method_1_code 2 none,
    Jvm.Cond.code (⟨"java/util/ArrayList$Itr", "hasNext", "()Z"⟩ : Jvm.MethodName) prog_51_method_2_code 1 (some .boolean),
    Jvm.Cond.code (⟨"java/util/ArrayList$Itr", "next", "()Ljava/lang/Object;"⟩ : Jvm.MethodName) prog_51_method_3_code 3 (some (.object "java/lang/Object")),
    Jvm.Cond.code (⟨"java/util/ArrayList$Itr", "checkForComodification", "()V"⟩ : Jvm.MethodName) prog_51_method_6_code 1 none,
    Jvm.Cond.code (⟨"java/util/NoSuchElementException", "<init>", "()V"⟩ : Jvm.MethodName) prog_56_method_1_code 1 none,
    Jvm.Cond.code (⟨"java/lang/RuntimeException", "<init>", "()V"⟩ : Jvm.MethodName) prog_38_method_1_code 1 none,
    Jvm.Cond.code (⟨"java/lang/Exception", "<init>", "()V"⟩ : Jvm.MethodName) prog_28_method_1_code 1 none,
    Jvm.Cond.code (⟨"java/lang/Integer", "intValue", "()I"⟩ : Jvm.MethodName) prog_32_method_27_code 1 (some .int),
    Jvm.Cond.code (⟨"SequencepointModel$Run", "assigned", "(LSequencepointModel$Node;)J"⟩ : Jvm.MethodName) prog_18_method_26_code 8 (some .long),
    Jvm.Cond.code (⟨"SequencepointModel$Run", "isWritten", "(IJ)Z"⟩ : Jvm.MethodName) prog_18_method_18_code 6 (some .boolean),
    Jvm.Cond.code (⟨"SequencepointModel$Run", "moved", "(JJLSequencepointModel$Node;)J"⟩ : Jvm.MethodName) prog_18_method_14_code 9 (some .long),
    Jvm.Cond.code (⟨"SequencepointModel", "reckon", "(CIJJ)J"⟩ : Jvm.MethodName) prog_14_method_42_code 10 (some .long),
    Jvm.Cond.code (⟨"SequencepointModel", "fits", "(IJ)J"⟩ : Jvm.MethodName) prog_14_method_43_code 4 (some .long),
    Jvm.Cond.code (⟨"SequencepointModel$Run", "known", "(LSequencepointModel$Node;J)J"⟩ : Jvm.MethodName) prog_18_method_23_code 4 (some .long),
    Jvm.Cond.code (⟨"SequencepointModel$Run", "writes", "(JJLSequencepointModel$Node;)V"⟩ : Jvm.MethodName) prog_18_method_13_code 7 none,
    Jvm.Cond.code (⟨"SequencepointModel$Run", "one", "(LSequencepointModel$Node;)J"⟩ : Jvm.MethodName) prog_18_method_22_code 4 (some .long),
    Jvm.Cond.code (⟨"SequencepointModel$Run", "counted", "(LSequencepointModel$Node;)J"⟩ : Jvm.MethodName) prog_18_method_25_code 11 (some .long),
    Jvm.Cond.code (⟨"SequencepointModel", "gives", "(LSequencepointModel$Node;JJ)J"⟩ : Jvm.MethodName) prog_14_method_44_code 12 (some .long),
    Jvm.Cond.code (⟨"SequencepointModel$Run", "both", "(LSequencepointModel$Node;)J"⟩ : Jvm.MethodName) prog_18_method_24_code 3 (some .long),
    Jvm.Cond.code (⟨"SequencepointModel$Run", "prints", "(J)V"⟩ : Jvm.MethodName) prog_18_method_32_code 5 none,
    Jvm.Cond.code (⟨"java/lang/StringBuilder", "<init>", "()V"⟩ : Jvm.MethodName) prog_40_method_1_code 1 none,
    Jvm.Cond.code (⟨"java/lang/AbstractStringBuilder", "<init>", "(I)V"⟩ : Jvm.MethodName) prog_22_method_2_code 2 none,
    Jvm.Cond.code (⟨"java/lang/StringUTF16", "newBytesFor", "(I)[B"⟩ : Jvm.MethodName) prog_42_method_2_code 1 (some (.array .byte)),
    Jvm.Cond.code (⟨"java/lang/StringUTF16", "newBytesLength", "(I)I"⟩ : Jvm.MethodName) prog_42_method_3_code 1 (some .int),
    Jvm.Cond.code (⟨"java/lang/StringBuilder", "append", "(J)Ljava/lang/StringBuilder;"⟩ : Jvm.MethodName) prog_40_method_16_code 3 (some (.object "java/lang/StringBuilder")),
    Jvm.Cond.code (⟨"java/lang/AbstractStringBuilder", "append", "(J)Ljava/lang/AbstractStringBuilder;"⟩ : Jvm.MethodName) prog_22_method_33_code 5 (some (.object "java/lang/AbstractStringBuilder")),
    Jvm.Cond.code (⟨"java/lang/Long", "stringSize", "(J)I"⟩ : Jvm.MethodName) prog_35_method_15_code 6 (some .int),
    Jvm.Cond.code (⟨"java/lang/AbstractStringBuilder", "ensureCapacityInternal", "(I)V"⟩ : Jvm.MethodName) prog_22_method_9_code 3 none,
    Jvm.Cond.code (⟨"java/lang/AbstractStringBuilder", "newCapacity", "(I)I"⟩ : Jvm.MethodName) prog_22_method_10_code 6 (some .int),
    Jvm.Cond.code (⟨"java/util/Arrays", "copyOf", "([BI)[B"⟩ : Jvm.MethodName) prog_52_method_121_code 3 (some (.array .byte)),
    Jvm.Cond.code (⟨"java/lang/AbstractStringBuilder", "isLatin1", "()Z"⟩ : Jvm.MethodName) prog_22_method_68_code 1 (some .boolean),
    Jvm.Cond.code (⟨"java/lang/Long", "getChars", "(JI[B)I"⟩ : Jvm.MethodName) prog_35_method_14_code 11 (some .int),
    Jvm.Cond.code (⟨"java/lang/StringUTF16", "getChars", "(JII[B)I"⟩ : Jvm.MethodName) prog_42_method_78_code 6 (some .int),
    Jvm.Cond.code (⟨"java/lang/StringUTF16", "getChars", "(JI[B)I"⟩ : Jvm.MethodName) prog_42_method_90_code 11 (some .int),
    Jvm.Cond.code (⟨"java/lang/StringUTF16", "putChar", "([BII)V"⟩ : Jvm.MethodName) prog_42_method_4_code 3 none,
    Jvm.Cond.code (⟨"java/lang/StringBuilder", "append", "(C)Ljava/lang/StringBuilder;"⟩ : Jvm.MethodName) prog_40_method_14_code 2 (some (.object "java/lang/StringBuilder")),
    Jvm.Cond.code (⟨"java/lang/AbstractStringBuilder", "append", "(C)Ljava/lang/AbstractStringBuilder;"⟩ : Jvm.MethodName) prog_22_method_31_code 2 (some (.object "java/lang/AbstractStringBuilder")),
    Jvm.Cond.code (⟨"java/lang/StringLatin1", "canEncode", "(C)Z"⟩ : Jvm.MethodName) prog_41_method_3_code 1 (some .boolean),
    Jvm.Cond.code (⟨"java/lang/AbstractStringBuilder", "inflate", "()V"⟩ : Jvm.MethodName) prog_22_method_11_code 2 none,
    Jvm.Cond.code (⟨"java/lang/StringLatin1", "inflate", "([BI[BII)V"⟩ : Jvm.MethodName) prog_41_method_50_code 5 none,
    Jvm.Cond.code (⟨"java/lang/StringUTF16", "inflate", "([BI[BII)V"⟩ : Jvm.MethodName) prog_42_method_86_code 6 none,
    Jvm.Cond.code (⟨"java/lang/StringUTF16", "checkBoundsOffCount", "(II[B)V"⟩ : Jvm.MethodName) prog_42_method_94_code 3 none,
    Jvm.Cond.code (⟨"java/lang/String", "checkBoundsOffCount", "(III)I"⟩ : Jvm.MethodName) prog_39_method_157_code 3 (some .int),
    Jvm.Cond.code (⟨"jdk/internal/util/Preconditions", "checkFromIndexSize", "(IIILjava/util/function/BiFunction;)I"⟩ : Jvm.MethodName) prog_61_method_13_code 4 (some .int),
    Jvm.Cond.code (⟨"java/lang/StringUTF16", "putCharSB", "([BII)V"⟩ : Jvm.MethodName) prog_42_method_71_code 3 none,
    Jvm.Cond.code (⟨"java/lang/StringUTF16", "checkIndex", "(I[B)V"⟩ : Jvm.MethodName) prog_42_method_91_code 2 none,
    Jvm.Cond.code (⟨"SequencepointModel$Run", "prints", "(C)V"⟩ : Jvm.MethodName) prog_18_method_31_code 2 none] := by
  first
  | rfl
  | simp only [tables_1_10, List.filter, su_isCode]
set_option maxRecDepth 16384 in
theorem od1.codes_hold_10 : ∀ c ∈ tables_1_10.filter su_isCode, c.before args0 about = true := by
  rw [codes_are_10]
  exact List.forall_mem_cons.mpr ⟨code298, List.forall_mem_cons.mpr ⟨code299, List.forall_mem_cons.mpr ⟨code300, List.forall_mem_cons.mpr ⟨code301, List.forall_mem_cons.mpr ⟨code302, List.forall_mem_cons.mpr ⟨code303, List.forall_mem_cons.mpr ⟨code304, List.forall_mem_cons.mpr ⟨code305, List.forall_mem_cons.mpr ⟨code306, List.forall_mem_cons.mpr ⟨code307, List.forall_mem_cons.mpr ⟨code308, List.forall_mem_cons.mpr ⟨code309, List.forall_mem_cons.mpr ⟨code310, List.forall_mem_cons.mpr ⟨code311, List.forall_mem_cons.mpr ⟨code312, List.forall_mem_cons.mpr ⟨code313, List.forall_mem_cons.mpr ⟨code314, List.forall_mem_cons.mpr ⟨code315, List.forall_mem_cons.mpr ⟨code316, List.forall_mem_cons.mpr ⟨code317, List.forall_mem_cons.mpr ⟨code318, List.forall_mem_cons.mpr ⟨code319, List.forall_mem_cons.mpr ⟨code320, List.forall_mem_cons.mpr ⟨code321, List.forall_mem_cons.mpr ⟨code322, List.forall_mem_cons.mpr ⟨code323, List.forall_mem_cons.mpr ⟨code324, List.forall_mem_cons.mpr ⟨code325, List.forall_mem_cons.mpr ⟨code326, List.forall_mem_cons.mpr ⟨code327, List.forall_mem_cons.mpr ⟨code328, List.forall_mem_cons.mpr ⟨code329, List.forall_mem_cons.mpr ⟨code330, List.forall_mem_cons.mpr ⟨code331, List.forall_mem_cons.mpr ⟨code332, List.forall_mem_cons.mpr ⟨code333, List.forall_mem_cons.mpr ⟨code334, List.forall_mem_cons.mpr ⟨code335, List.forall_mem_cons.mpr ⟨code336, List.forall_mem_cons.mpr ⟨code337, List.forall_mem_cons.mpr ⟨code338, List.forall_mem_cons.mpr ⟨code339, List.forall_mem_cons.mpr ⟨code340, List.forall_mem_cons.mpr ⟨code341, List.forall_mem_cons.mpr ⟨code342, List.forall_mem_cons.mpr ⟨code343, List.forall_mem_cons.mpr ⟨code344, List.forall_mem_nil _⟩⟩⟩⟩⟩⟩⟩⟩⟩⟩⟩⟩⟩⟩⟩⟩⟩⟩⟩⟩⟩⟩⟩⟩⟩⟩⟩⟩⟩⟩⟩⟩⟩⟩⟩⟩⟩⟩⟩⟩⟩⟩⟩⟩⟩⟩⟩
set_option maxRecDepth 100000 in
theorem od1.others_10_0 : (tables_1_10.take 120).all od1.chk = true := by decide +kernel
set_option maxRecDepth 100000 in
theorem od1.others_10_1 : ((tables_1_10.drop 120).take 120).all od1.chk = true := by decide +kernel
set_option maxRecDepth 100000 in
theorem od1.others_10_2 : ((tables_1_10.drop 120).drop 120).all od1.chk = true := by decide +kernel
theorem od1.others_hold_10 : tables_1_10.all (fun c => su_isCode c || c.before args0 about) = true := od1.from_chk start1.words_10 (od1.su_all_split _ 120 tables_1_10 od1.others_10_0 (od1.su_all_split _ 120 (tables_1_10.drop 120) od1.others_10_1 od1.others_10_2))
set_option maxRecDepth 16384 in
theorem od1.words_10 : ∀ c ∈ tables_1_10, c.before args0 about = true := fun c h => su_words others_hold_10 codes_hold_10 c h
theorem od1.code345 : (Jvm.Cond.code (⟨"SequencepointModel$Run", "repeats", "(LSequencepointModel$Statement;)Z"⟩ : Jvm.MethodName) prog_18_method_30_code 2 (some .boolean)).before args0 about = true := od1.code_of (by decide +kernel) start1.code345
theorem od1.code346 : (Jvm.Cond.code (⟨"SequencepointModel", "runOptimised", "(I)C"⟩ : Jvm.MethodName) prog_14_method_49_code 2 (some .char)).before args0 about = true := od1.code_of (by decide +kernel) start1.code346
theorem od1.code347 : (Jvm.Cond.code (⟨"SequencepointModel", "optimise", "()[LSequencepointModel$Statement;"⟩ : Jvm.MethodName) prog_14_method_62_code 3 (some (.array (.object "SequencepointModel$Statement")))).before args0 about = true := od1.code_of (by decide +kernel) start1.code347
theorem od1.code348 : (Jvm.Cond.code (⟨"SequencepointModel", "optimised", "(LSequencepointModel$Statement;)LSequencepointModel$Statement;"⟩ : Jvm.MethodName) prog_14_method_68_code 7 (some (.object "SequencepointModel$Statement"))).before args0 about = true := od1.code_of (by decide +kernel) start1.code348
theorem od1.code349 : (Jvm.Cond.code (⟨"SequencepointModel", "optimised", "(LSequencepointModel$Node;)LSequencepointModel$Node;"⟩ : Jvm.MethodName) prog_14_method_65_code 5 (some (.object "SequencepointModel$Node"))).before args0 about = true := od1.code_of (by decide +kernel) start1.code349
theorem od1.code350 : (Jvm.Cond.code (⟨"SequencepointModel", "isTold", "(LSequencepointModel$Node;)Z"⟩ : Jvm.MethodName) prog_14_method_63_code 1 (some .boolean)).before args0 about = true := od1.code_of (by decide +kernel) start1.code350
theorem od1.code351 : (Jvm.Cond.code (⟨"SequencepointModel", "chosen", "(LSequencepointModel$Node;LSequencepointModel$Node;)LSequencepointModel$Node;"⟩ : Jvm.MethodName) prog_14_method_66_code 3 (some (.object "SequencepointModel$Node"))).before args0 about = true := od1.code_of (by decide +kernel) start1.code351
theorem od1.code352 : (Jvm.Cond.code (⟨"SequencepointModel", "told", "(LSequencepointModel$Node;IJ)LSequencepointModel$Node;"⟩ : Jvm.MethodName) prog_14_method_64_code 6 (some (.object "SequencepointModel$Node"))).before args0 about = true := od1.code_of (by decide +kernel) start1.code352
theorem od1.code353 : (Jvm.Cond.code (⟨"SequencepointModel", "folded", "(LSequencepointModel$Node;)LSequencepointModel$Node;"⟩ : Jvm.MethodName) prog_14_method_67_code 7 (some (.object "SequencepointModel$Node"))).before args0 about = true := od1.code_of (by decide +kernel) start1.code353
theorem od1.code354 : (Jvm.Cond.code (⟨"SequencepointModel", "kindOf", "()C"⟩ : Jvm.MethodName) prog_14_method_50_code 1 (some .char)).before args0 about = true := od1.code_of (by decide +kernel) start1.code354
theorem od1.code355 : (Jvm.Cond.code (⟨"SequencepointModel", "placeOf", "()I"⟩ : Jvm.MethodName) prog_14_method_51_code 1 (some .int)).before args0 about = true := od1.code_of (by decide +kernel) start1.code355
theorem od1.code356 : (Jvm.Cond.code (⟨"SequencepointModel", "steps", "()I"⟩ : Jvm.MethodName) prog_14_method_52_code 1 (some .int)).before args0 about = true := od1.code_of (by decide +kernel) start1.code356
theorem od1.code357 : (Jvm.Cond.code (⟨"SequencepointModel", "choices", "()I"⟩ : Jvm.MethodName) prog_14_method_53_code 1 (some .int)).before args0 about = true := od1.code_of (by decide +kernel) start1.code357
theorem od1.code358 : (Jvm.Cond.code (⟨"SequencepointModel", "printed", "()I"⟩ : Jvm.MethodName) prog_14_method_54_code 1 (some .int)).before args0 about = true := od1.code_of (by decide +kernel) start1.code358
theorem od1.code359 : (Jvm.Cond.code (⟨"SequencepointModel", "printedAt", "(I)C"⟩ : Jvm.MethodName) prog_14_method_55_code 2 (some .char)).before args0 about = true := od1.code_of (by decide +kernel) start1.code359
theorem od1.code360 : (Jvm.Cond.code (⟨"SequencepointModel", "behaviours", "()I"⟩ : Jvm.MethodName) prog_14_method_57_code 6 (some .int)).before args0 about = true := od1.code_of (by decide +kernel) start1.code360
theorem od1.code361 : (Jvm.Cond.code (⟨"SequencepointModel", "all", "([LSequencepointModel$Statement;)[LSequencepointModel$Run;"⟩ : Jvm.MethodName) prog_14_method_56_code 4 (some (.array (.object "SequencepointModel$Run")))).before args0 about = true := od1.code_of (by decide +kernel) start1.code361
theorem od1.code362 : (Jvm.Cond.code (⟨"SequencepointModel$Run", "isLike", "(LSequencepointModel$Run;)Z"⟩ : Jvm.MethodName) prog_18_method_33_code 4 (some .boolean)).before args0 about = true := od1.code_of (by decide +kernel) start1.code362
theorem od1.code363 : (Jvm.Cond.code (⟨"SequencepointModel", "undefinedOrders", "()I"⟩ : Jvm.MethodName) prog_14_method_59_code 1 (some .int)).before args0 about = true := od1.code_of (by decide +kernel) start1.code363
theorem od1.code364 : (Jvm.Cond.code (⟨"SequencepointModel", "undefined", "([LSequencepointModel$Run;)I"⟩ : Jvm.MethodName) prog_14_method_58_code 6 (some .int)).before args0 about = true := od1.code_of (by decide +kernel) start1.code364
theorem od1.code365 : (Jvm.Cond.code (⟨"SequencepointModel", "definedShare", "()F"⟩ : Jvm.MethodName) prog_14_method_60_code 1 (some .float)).before args0 about = true := od1.code_of (by decide +kernel) start1.code365
theorem od1.code366 : (Jvm.Cond.code (⟨"SequencepointModel", "allSteps", "()J"⟩ : Jvm.MethodName) prog_14_method_61_code 1 (some .long)).before args0 about = true := od1.code_of (by decide +kernel) start1.code366
theorem od1.code367 : (Jvm.Cond.code (⟨"SequencepointModel", "optimised", "()I"⟩ : Jvm.MethodName) prog_14_method_69_code 2 (some .int)).before args0 about = true := od1.code_of (by decide +kernel) start1.code367
theorem od1.code368 : (Jvm.Cond.code (⟨"SequencepointModel", "optimisedSize", "()I"⟩ : Jvm.MethodName) prog_14_method_70_code 6 (some .int)).before args0 about = true := od1.code_of (by decide +kernel) start1.code368
theorem od1.code369 : (Jvm.Cond.code (⟨"SequencepointModel$Statement", "size", "()I"⟩ : Jvm.MethodName) prog_19_method_2_code 1 (some .int)).before args0 about = true := od1.code_of (by decide +kernel) start1.code369
theorem od1.code370 : (Jvm.Cond.code (⟨"SequencepointModel$Node", "size", "()I"⟩ : Jvm.MethodName) prog_17_method_4_code 6 (some .int)).before args0 about = true := od1.code_of (by decide +kernel) start1.code370
theorem od1.code371 : (Jvm.Cond.code (⟨"SequencepointModel", "isAsIf", "()Z"⟩ : Jvm.MethodName) prog_14_method_71_code 12 (some .boolean)).before args0 about = true := od1.code_of (by decide +kernel) start1.code371
set_option maxRecDepth 16384 in
theorem od1.codes_are_11 : tables_1_11.filter su_isCode = [Jvm.Cond.code (⟨"SequencepointModel$Run", "repeats", "(LSequencepointModel$Statement;)Z"⟩ : Jvm.MethodName) prog_18_method_30_code 2 (some .boolean),
    Jvm.Cond.code (⟨"SequencepointModel", "runOptimised", "(I)C"⟩ : Jvm.MethodName) prog_14_method_49_code 2 (some .char),
    Jvm.Cond.code (⟨"SequencepointModel", "optimise", "()[LSequencepointModel$Statement;"⟩ : Jvm.MethodName) prog_14_method_62_code 3 (some (.array (.object "SequencepointModel$Statement"))),
    Jvm.Cond.code (⟨"SequencepointModel", "optimised", "(LSequencepointModel$Statement;)LSequencepointModel$Statement;"⟩ : Jvm.MethodName) prog_14_method_68_code 7 (some (.object "SequencepointModel$Statement")),
    Jvm.Cond.code (⟨"SequencepointModel", "optimised", "(LSequencepointModel$Node;)LSequencepointModel$Node;"⟩ : Jvm.MethodName) prog_14_method_65_code 5 (some (.object "SequencepointModel$Node")),
    Jvm.Cond.code (⟨"SequencepointModel", "isTold", "(LSequencepointModel$Node;)Z"⟩ : Jvm.MethodName) prog_14_method_63_code 1 (some .boolean),
    Jvm.Cond.code (⟨"SequencepointModel", "chosen", "(LSequencepointModel$Node;LSequencepointModel$Node;)LSequencepointModel$Node;"⟩ : Jvm.MethodName) prog_14_method_66_code 3 (some (.object "SequencepointModel$Node")),
    Jvm.Cond.code (⟨"SequencepointModel", "told", "(LSequencepointModel$Node;IJ)LSequencepointModel$Node;"⟩ : Jvm.MethodName) prog_14_method_64_code 6 (some (.object "SequencepointModel$Node")),
    Jvm.Cond.code (⟨"SequencepointModel", "folded", "(LSequencepointModel$Node;)LSequencepointModel$Node;"⟩ : Jvm.MethodName) prog_14_method_67_code 7 (some (.object "SequencepointModel$Node")),
    Jvm.Cond.code (⟨"SequencepointModel", "kindOf", "()C"⟩ : Jvm.MethodName) prog_14_method_50_code 1 (some .char),
    Jvm.Cond.code (⟨"SequencepointModel", "placeOf", "()I"⟩ : Jvm.MethodName) prog_14_method_51_code 1 (some .int),
    Jvm.Cond.code (⟨"SequencepointModel", "steps", "()I"⟩ : Jvm.MethodName) prog_14_method_52_code 1 (some .int),
    Jvm.Cond.code (⟨"SequencepointModel", "choices", "()I"⟩ : Jvm.MethodName) prog_14_method_53_code 1 (some .int),
    Jvm.Cond.code (⟨"SequencepointModel", "printed", "()I"⟩ : Jvm.MethodName) prog_14_method_54_code 1 (some .int),
    Jvm.Cond.code (⟨"SequencepointModel", "printedAt", "(I)C"⟩ : Jvm.MethodName) prog_14_method_55_code 2 (some .char),
    Jvm.Cond.code (⟨"SequencepointModel", "behaviours", "()I"⟩ : Jvm.MethodName) prog_14_method_57_code 6 (some .int),
    Jvm.Cond.code (⟨"SequencepointModel", "all", "([LSequencepointModel$Statement;)[LSequencepointModel$Run;"⟩ : Jvm.MethodName) prog_14_method_56_code 4 (some (.array (.object "SequencepointModel$Run"))),
    Jvm.Cond.code (⟨"SequencepointModel$Run", "isLike", "(LSequencepointModel$Run;)Z"⟩ : Jvm.MethodName) prog_18_method_33_code 4 (some .boolean),
    Jvm.Cond.code (⟨"SequencepointModel", "undefinedOrders", "()I"⟩ : Jvm.MethodName) prog_14_method_59_code 1 (some .int),
    Jvm.Cond.code (⟨"SequencepointModel", "undefined", "([LSequencepointModel$Run;)I"⟩ : Jvm.MethodName) prog_14_method_58_code 6 (some .int),
    Jvm.Cond.code (⟨"SequencepointModel", "definedShare", "()F"⟩ : Jvm.MethodName) prog_14_method_60_code 1 (some .float),
    Jvm.Cond.code (⟨"SequencepointModel", "allSteps", "()J"⟩ : Jvm.MethodName) prog_14_method_61_code 1 (some .long),
    Jvm.Cond.code (⟨"SequencepointModel", "optimised", "()I"⟩ : Jvm.MethodName) prog_14_method_69_code 2 (some .int),
    Jvm.Cond.code (⟨"SequencepointModel", "optimisedSize", "()I"⟩ : Jvm.MethodName) prog_14_method_70_code 6 (some .int),
    Jvm.Cond.code (⟨"SequencepointModel$Statement", "size", "()I"⟩ : Jvm.MethodName) prog_19_method_2_code 1 (some .int),
    Jvm.Cond.code (⟨"SequencepointModel$Node", "size", "()I"⟩ : Jvm.MethodName) prog_17_method_4_code 6 (some .int),
    Jvm.Cond.code (⟨"SequencepointModel", "isAsIf", "()Z"⟩ : Jvm.MethodName) prog_14_method_71_code 12 (some .boolean)] := by
  first
  | rfl
  | simp only [tables_1_11, List.filter, su_isCode]
