set_option maxRecDepth 16384 in
theorem od1.code350 : (Jvm.Cond.code (⟨"SequencepointModel", "isTold", "(LSequencepointModel$Node;)Z"⟩ : Jvm.MethodName) prog_14_method_63_code 1 (some .boolean)).before args0 about = true :=
  su_hand_word (m := ⟨10, 62⟩) (by decide +kernel) rfl (by decide +kernel) (by decide +kernel)
set_option maxRecDepth 16384 in
theorem od1.code351 : (Jvm.Cond.code (⟨"SequencepointModel", "chosen", "(LSequencepointModel$Node;LSequencepointModel$Node;)LSequencepointModel$Node;"⟩ : Jvm.MethodName) prog_14_method_66_code 3 (some (.object "SequencepointModel$Node"))).before args0 about = true :=
  su_hand_word (m := ⟨10, 65⟩) (by decide +kernel) rfl (by decide +kernel) (by decide +kernel)
set_option maxRecDepth 16384 in
theorem od1.code352 : (Jvm.Cond.code (⟨"SequencepointModel", "told", "(LSequencepointModel$Node;IJ)LSequencepointModel$Node;"⟩ : Jvm.MethodName) prog_14_method_64_code 6 (some (.object "SequencepointModel$Node"))).before args0 about = true :=
  su_hand_word (m := ⟨10, 63⟩) (by decide +kernel) rfl (by decide +kernel) (by decide +kernel)
set_option maxRecDepth 16384 in
theorem od1.code353 : (Jvm.Cond.code (⟨"SequencepointModel", "folded", "(LSequencepointModel$Node;)LSequencepointModel$Node;"⟩ : Jvm.MethodName) prog_14_method_67_code 7 (some (.object "SequencepointModel$Node"))).before args0 about = true :=
  su_hand_word (m := ⟨10, 66⟩) (by decide +kernel) rfl (by decide +kernel) (by decide +kernel)
set_option maxRecDepth 16384 in
theorem od1.code354 : (Jvm.Cond.code (⟨"SequencepointModel", "kindOf", "()C"⟩ : Jvm.MethodName) prog_14_method_50_code 1 (some .char)).before args0 about = true :=
  su_hand_word (m := ⟨10, 49⟩) (by decide +kernel) rfl (by decide +kernel) (by decide +kernel)
set_option maxRecDepth 16384 in
theorem od1.code355 : (Jvm.Cond.code (⟨"SequencepointModel", "placeOf", "()I"⟩ : Jvm.MethodName) prog_14_method_51_code 1 (some .int)).before args0 about = true :=
  su_hand_word (m := ⟨10, 50⟩) (by decide +kernel) rfl (by decide +kernel) (by decide +kernel)
set_option maxRecDepth 16384 in
theorem od1.code356 : (Jvm.Cond.code (⟨"SequencepointModel", "steps", "()I"⟩ : Jvm.MethodName) prog_14_method_52_code 1 (some .int)).before args0 about = true :=
  su_hand_word (m := ⟨10, 51⟩) (by decide +kernel) rfl (by decide +kernel) (by decide +kernel)
set_option maxRecDepth 16384 in
theorem od1.code357 : (Jvm.Cond.code (⟨"SequencepointModel", "choices", "()I"⟩ : Jvm.MethodName) prog_14_method_53_code 1 (some .int)).before args0 about = true :=
  su_hand_word (m := ⟨10, 52⟩) (by decide +kernel) rfl (by decide +kernel) (by decide +kernel)
set_option maxRecDepth 16384 in
theorem od1.code358 : (Jvm.Cond.code (⟨"SequencepointModel", "printed", "()I"⟩ : Jvm.MethodName) prog_14_method_54_code 1 (some .int)).before args0 about = true :=
  su_hand_word (m := ⟨10, 53⟩) (by decide +kernel) rfl (by decide +kernel) (by decide +kernel)
set_option maxRecDepth 16384 in
theorem od1.code359 : (Jvm.Cond.code (⟨"SequencepointModel", "printedAt", "(I)C"⟩ : Jvm.MethodName) prog_14_method_55_code 2 (some .char)).before args0 about = true :=
  su_hand_word (m := ⟨10, 54⟩) (by decide +kernel) rfl (by decide +kernel) (by decide +kernel)
set_option maxRecDepth 16384 in
theorem od1.code360 : (Jvm.Cond.code (⟨"SequencepointModel", "behaviours", "()I"⟩ : Jvm.MethodName) prog_14_method_57_code 6 (some .int)).before args0 about = true :=
  su_hand_word (m := ⟨10, 56⟩) (by decide +kernel) rfl (by decide +kernel) (by decide +kernel)
set_option maxRecDepth 16384 in
theorem od1.code361 : (Jvm.Cond.code (⟨"SequencepointModel", "all", "([LSequencepointModel$Statement;)[LSequencepointModel$Run;"⟩ : Jvm.MethodName) prog_14_method_56_code 4 (some (.array (.object "SequencepointModel$Run")))).before args0 about = true :=
  su_hand_word (m := ⟨10, 55⟩) (by decide +kernel) rfl (by decide +kernel) (by decide +kernel)
set_option maxRecDepth 16384 in
theorem od1.code362 : (Jvm.Cond.code (⟨"SequencepointModel$Run", "isLike", "(LSequencepointModel$Run;)Z"⟩ : Jvm.MethodName) prog_18_method_33_code 4 (some .boolean)).before args0 about = true :=
  su_hand_word (m := ⟨21, 32⟩) (by decide +kernel) rfl (by decide +kernel) (by decide +kernel)
set_option maxRecDepth 16384 in
theorem od1.code363 : (Jvm.Cond.code (⟨"SequencepointModel", "undefinedOrders", "()I"⟩ : Jvm.MethodName) prog_14_method_59_code 1 (some .int)).before args0 about = true :=
  su_hand_word (m := ⟨10, 58⟩) (by decide +kernel) rfl (by decide +kernel) (by decide +kernel)
set_option maxRecDepth 16384 in
theorem od1.code364 : (Jvm.Cond.code (⟨"SequencepointModel", "undefined", "([LSequencepointModel$Run;)I"⟩ : Jvm.MethodName) prog_14_method_58_code 6 (some .int)).before args0 about = true :=
  su_hand_word (m := ⟨10, 57⟩) (by decide +kernel) rfl (by decide +kernel) (by decide +kernel)
set_option maxRecDepth 16384 in
theorem od1.code365 : (Jvm.Cond.code (⟨"SequencepointModel", "definedShare", "()F"⟩ : Jvm.MethodName) prog_14_method_60_code 1 (some .float)).before args0 about = true :=
  su_hand_word (m := ⟨10, 59⟩) (by decide +kernel) rfl (by decide +kernel) (by decide +kernel)
set_option maxRecDepth 16384 in
theorem od1.code366 : (Jvm.Cond.code (⟨"SequencepointModel", "allSteps", "()J"⟩ : Jvm.MethodName) prog_14_method_61_code 1 (some .long)).before args0 about = true :=
  su_hand_word (m := ⟨10, 60⟩) (by decide +kernel) rfl (by decide +kernel) (by decide +kernel)
set_option maxRecDepth 16384 in
theorem od1.code367 : (Jvm.Cond.code (⟨"SequencepointModel", "optimised", "()I"⟩ : Jvm.MethodName) prog_14_method_69_code 2 (some .int)).before args0 about = true :=
  su_hand_word (m := ⟨10, 68⟩) (by decide +kernel) rfl (by decide +kernel) (by decide +kernel)
set_option maxRecDepth 16384 in
theorem od1.code368 : (Jvm.Cond.code (⟨"SequencepointModel", "optimisedSize", "()I"⟩ : Jvm.MethodName) prog_14_method_70_code 6 (some .int)).before args0 about = true :=
  su_hand_word (m := ⟨10, 69⟩) (by decide +kernel) rfl (by decide +kernel) (by decide +kernel)
set_option maxRecDepth 16384 in
theorem od1.code369 : (Jvm.Cond.code (⟨"SequencepointModel$Statement", "size", "()I"⟩ : Jvm.MethodName) prog_19_method_2_code 1 (some .int)).before args0 about = true :=
  su_hand_word (m := ⟨20, 1⟩) (by decide +kernel) rfl (by decide +kernel) (by decide +kernel)
set_option maxRecDepth 16384 in
theorem od1.code370 : (Jvm.Cond.code (⟨"SequencepointModel$Node", "size", "()I"⟩ : Jvm.MethodName) prog_17_method_4_code 6 (some .int)).before args0 about = true :=
  su_hand_word (m := ⟨15, 3⟩) (by decide +kernel) rfl (by decide +kernel) (by decide +kernel)
set_option maxRecDepth 16384 in
theorem od1.code371 : (Jvm.Cond.code (⟨"SequencepointModel", "isAsIf", "()Z"⟩ : Jvm.MethodName) prog_14_method_71_code 12 (some .boolean)).before args0 about = true :=
  su_hand_word (m := ⟨10, 70⟩) (by decide +kernel) rfl (by decide +kernel) (by decide +kernel)
set_option maxRecDepth 16384 in
theorem od1.codes_are_11 : tables_1_11.filter su_isCode = [Jvm.Cond.code (⟨"SequencepointModel$Run", "repeats", "(LSequencepointModel$Statement;)Z"⟩ : Jvm.MethodName) prog_18_method_30_code 2 (some .boolean),
    Jvm.Cond.code (⟨"SequencepointModel", "runOptimised", "(I)C"⟩ : Jvm.MethodName) prog_14_method_49_code 2 (some .char),
    Jvm.Cond.code (⟨"SequencepointModel", "optimise", "()[LSequencepointModel$Statement;"⟩ : Jvm.MethodName) prog_14_method_62_code 3 (some (.array (.object "SequencepointModel$Statement"))),
    Jvm.Cond.code (⟨"SequencepointModel", "optimised", "(LSequencepointModel$Statement;)LSequencepointModel$Statement;"⟩ : Jvm.MethodName) prog_14_method_68_code 7 (some (.object "SequencepointModel$Statement")),
    Jvm.Cond.code (⟨"SequencepointModel", "optimised", "(LSequencepointModel$Node;)LSequencepointModel$Node;"⟩ : Jvm.MethodName) prog_14_method_65_code 5 (some (.object "SequencepointModel$Node")),
    Jvm.Cond.code (⟨"SequencepointModel", "isTold", "(LSequencepointModel$Node;)Z"⟩ : Jvm.MethodName) prog_14_method_63_code 1 (some .boolean),
    Jvm.Cond.code (⟨"SequencepointModel", "chosen", "(LSequencepointModel$Node;LSequencepointModel$Node;)LSequencepointModel$Node;"⟩ : Jvm.MethodName) prog_14_method_66_code 3 (some (.object "SequencepointModel$Node")),
    Jvm.Cond.code (⟨"SequencepointModel", "told", "(LSequencepointModel$Node;IJ)LSequencepointModel$Node;"⟩ : Jvm.MethodName) prog_14_method_64_code 6 (some (.object "SequencepointModel$Node")),
    Jvm.Cond.code (⟨"SequencepointModel", "folded", "(LSequencepointModel$Node;)LSequencepointModel$Node;"⟩ : Jvm.MethodName) prog_14_method_67_code 7 (some (.object "SequencepointModel$Node")),
    Jvm.Cond.code (⟨"SequencepointModel", "kindOf", "()C"⟩ : Jvm.MethodName) prog_14_method_50_code 1 (some .char),
    Jvm.Cond.code (⟨"SequencepointModel", "placeOf", "()I"⟩ : Jvm.MethodName) prog_14_method_51_code 1 (some .int),
    Jvm.Cond.code (⟨"SequencepointModel", "steps", "()I"⟩ : Jvm.MethodName) prog_14_method_52_code 1 (some .int),
    Jvm.Cond.code (⟨"SequencepointModel", "choices", "()I"⟩ : Jvm.MethodName) prog_14_method_53_code 1 (some .int),
    Jvm.Cond.code (⟨"SequencepointModel", "printed", "()I"⟩ : Jvm.MethodName) prog_14_method_54_code 1 (some .int),
    Jvm.Cond.code (⟨"SequencepointModel", "printedAt", "(I)C"⟩ : Jvm.MethodName) prog_14_method_55_code 2 (some .char),
    Jvm.Cond.code (⟨"SequencepointModel", "behaviours", "()I"⟩ : Jvm.MethodName) prog_14_method_57_code 6 (some .int),
    Jvm.Cond.code (⟨"SequencepointModel", "all", "([LSequencepointModel$Statement;)[LSequencepointModel$Run;"⟩ : Jvm.MethodName) prog_14_method_56_code 4 (some (.array (.object "SequencepointModel$Run"))),
    Jvm.Cond.code (⟨"SequencepointModel$Run", "isLike", "(LSequencepointModel$Run;)Z"⟩ : Jvm.MethodName) prog_18_method_33_code 4 (some .boolean),
    Jvm.Cond.code (⟨"SequencepointModel", "undefinedOrders", "()I"⟩ : Jvm.MethodName) prog_14_method_59_code 1 (some .int),
    Jvm.Cond.code (⟨"SequencepointModel", "undefined", "([LSequencepointModel$Run;)I"⟩ : Jvm.MethodName) prog_14_method_58_code 6 (some .int),
    Jvm.Cond.code (⟨"SequencepointModel", "definedShare", "()F"⟩ : Jvm.MethodName) prog_14_method_60_code 1 (some .float),
    Jvm.Cond.code (⟨"SequencepointModel", "allSteps", "()J"⟩ : Jvm.MethodName) prog_14_method_61_code 1 (some .long),
    Jvm.Cond.code (⟨"SequencepointModel", "optimised", "()I"⟩ : Jvm.MethodName) prog_14_method_69_code 2 (some .int),
    Jvm.Cond.code (⟨"SequencepointModel", "optimisedSize", "()I"⟩ : Jvm.MethodName) prog_14_method_70_code 6 (some .int),
    Jvm.Cond.code (⟨"SequencepointModel$Statement", "size", "()I"⟩ : Jvm.MethodName) prog_19_method_2_code 1 (some .int),
    Jvm.Cond.code (⟨"SequencepointModel$Node", "size", "()I"⟩ : Jvm.MethodName) prog_17_method_4_code 6 (some .int),
    Jvm.Cond.code (⟨"SequencepointModel", "isAsIf", "()Z"⟩ : Jvm.MethodName) prog_14_method_71_code 12 (some .boolean)] := by
  first
  | rfl
  | simp only [tables_1_11, List.filter, su_isCode]
set_option maxRecDepth 16384 in
theorem od1.codes_hold_11 : ∀ c ∈ tables_1_11.filter su_isCode, c.before args0 about = true := by
  rw [codes_are_11]
  exact List.forall_mem_cons.mpr ⟨code345, List.forall_mem_cons.mpr ⟨code346, List.forall_mem_cons.mpr ⟨code347, List.forall_mem_cons.mpr ⟨code348, List.forall_mem_cons.mpr ⟨code349, List.forall_mem_cons.mpr ⟨code350, List.forall_mem_cons.mpr ⟨code351, List.forall_mem_cons.mpr ⟨code352, List.forall_mem_cons.mpr ⟨code353, List.forall_mem_cons.mpr ⟨code354, List.forall_mem_cons.mpr ⟨code355, List.forall_mem_cons.mpr ⟨code356, List.forall_mem_cons.mpr ⟨code357, List.forall_mem_cons.mpr ⟨code358, List.forall_mem_cons.mpr ⟨code359, List.forall_mem_cons.mpr ⟨code360, List.forall_mem_cons.mpr ⟨code361, List.forall_mem_cons.mpr ⟨code362, List.forall_mem_cons.mpr ⟨code363, List.forall_mem_cons.mpr ⟨code364, List.forall_mem_cons.mpr ⟨code365, List.forall_mem_cons.mpr ⟨code366, List.forall_mem_cons.mpr ⟨code367, List.forall_mem_cons.mpr ⟨code368, List.forall_mem_cons.mpr ⟨code369, List.forall_mem_cons.mpr ⟨code370, List.forall_mem_cons.mpr ⟨code371, List.forall_mem_nil _⟩⟩⟩⟩⟩⟩⟩⟩⟩⟩⟩⟩⟩⟩⟩⟩⟩⟩⟩⟩⟩⟩⟩⟩⟩⟩⟩
set_option maxRecDepth 16384 in
theorem od1.others_11_0 : (tables_1_11.take 36).all (fun c => su_isCode c || c.before args0 about) = true := by decide +kernel
set_option maxRecDepth 16384 in
theorem od1.others_11_1 : ((tables_1_11.drop 36).take 35).all (fun c => su_isCode c || c.before args0 about) = true := by decide +kernel
set_option maxRecDepth 16384 in
theorem od1.others_11_2 : (((tables_1_11.drop 36).drop 35).take 40).all (fun c => su_isCode c || c.before args0 about) = true := by decide +kernel
set_option maxRecDepth 16384 in
theorem od1.others_11_3 : ((((tables_1_11.drop 36).drop 35).drop 40).take 40).all (fun c => su_isCode c || c.before args0 about) = true := by decide +kernel
set_option maxRecDepth 16384 in
theorem od1.others_11_4 : ((((tables_1_11.drop 36).drop 35).drop 40).drop 40).all (fun c => su_isCode c || c.before args0 about) = true := by decide +kernel
set_option maxRecDepth 16384 in
theorem od1.others_hold_11 : tables_1_11.all (fun c => su_isCode c || c.before args0 about) = true := su_all_split _ 36 tables_1_11 others_11_0 (su_all_split _ 35 (tables_1_11.drop 36) others_11_1 (su_all_split _ 40 ((tables_1_11.drop 36).drop 35) others_11_2 (su_all_split _ 40 (((tables_1_11.drop 36).drop 35).drop 40) others_11_3 others_11_4)))
set_option maxRecDepth 16384 in
theorem od1.words_11 : ∀ c ∈ tables_1_11, c.before args0 about = true := fun c h => su_words others_hold_11 codes_hold_11 c h
set_option maxRecDepth 16384 in
theorem od1.words : ∀ c ∈ (Cond.code x code maxLocals ret :: tables_1), c.before args0 about = true := by
  intro c hc
  rcases List.mem_cons.mp hc with h | h
  · rw [h]; exact word_code
  · have h1 : c ∈ tables_1_1 ++ (tables_1_2 ++ (tables_1_3 ++ (tables_1_4 ++ (tables_1_5 ++ (tables_1_6 ++ (tables_1_7 ++ (tables_1_8 ++ (tables_1_9 ++ (tables_1_10 ++ tables_1_11))))))))) := h
    rcases List.mem_append.mp h1 with h2 | h1
    · exact words_1 c h2
    rcases List.mem_append.mp h1 with h2 | h1
    · exact words_2 c h2
    rcases List.mem_append.mp h1 with h2 | h1
    · exact words_3 c h2
    rcases List.mem_append.mp h1 with h2 | h1
    · exact words_4 c h2
    rcases List.mem_append.mp h1 with h2 | h1
    · exact words_5 c h2
    rcases List.mem_append.mp h1 with h2 | h1
    · exact words_6 c h2
    rcases List.mem_append.mp h1 with h2 | h1
    · exact words_7 c h2
    rcases List.mem_append.mp h1 with h2 | h1
    · exact words_8 c h2
    rcases List.mem_append.mp h1 with h2 | h1
    · exact words_9 c h2
    rcases List.mem_append.mp h1 with h2 | h1
    · exact words_10 c h2
    exact words_11 c h1
set_option maxRecDepth 16384 in
theorem od1.su_and {a b : Jvm.Cond} (h1 : a.before args0 about = true) (h2 : b.before args0 about = true) : (Jvm.Cond.and a b).before args0 about = true := by rw [Cond.before_and, Bool.and_eq_true]; exact ⟨h1, h2⟩
set_option maxRecDepth 16384 in
theorem od1.narrow_hold_1 : narrow_1_1.before args0 about = true := by decide +kernel
set_option maxRecDepth 16384 in
theorem od1.narrow_hold_2 : narrow_1_2.before args0 about = true := by decide +kernel
set_option maxRecDepth 16384 in
theorem od1.narrow_hold_3 : narrow_1_3.before args0 about = true := by decide +kernel
set_option maxRecDepth 16384 in
theorem od1.narrow_hold_4 : narrow_1_4.before args0 about = true := by decide +kernel
set_option maxRecDepth 16384 in
theorem od1.narrow_holds : narrow_1.before args0 about = true := by
  unfold narrow_1
  exact (su_and (su_and narrow_hold_1 narrow_hold_2) (su_and narrow_hold_3 narrow_hold_4))
set_option maxRecDepth 16384 in
theorem od1.atStart : AtStart classFile x code maxLocals ret World_1 tables_1 room_1 Calls_1 rest_1 Pre_1 launch0 p0 e0 about ⟨0, 0⟩ args0 Lib.HandBits.below0 :=
  ⟨lists_1, trivial, launch0.admits_env _ _ _, launch0.least_env, fairChoices_fair.cas, fairChoices_fair.clock, rfl, by decide +kernel, by decide +kernel,
    (Spec.applies_iff rfl).mpr ⟨rfl, rfl, rfl, by decide +kernel, by decide +kernel, by decide +kernel, launch0.hasRoom_least _ room_1 (by decide +kernel) (by decide +kernel) (by decide +kernel) (by decide +kernel) (by decide +kernel) (by decide +kernel), atoms_intro words⟩,
    trivial, (show rest_1_c.before args0 about = true by decide +kernel), su_and (show given_1.before args0 about = true by decide +kernel) narrow_holds⟩
