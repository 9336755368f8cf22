/-! a start that the claim allows, but for one thing just as its own witness: the class String has, behind the methods that the claim's words speak of, a method charAt, with the code od_c -/
def od1.c40 : Class := { start1.c40 with
  methods := start1.c40.methods ++ #[Lib.HandJ.method "charAt" "(I)C" [.int] (some .char) 0x1 2 od_c],
  cf := start1.c40.cf.map fun f => { f with constantPool := f.constantPool ++ #[CpInfo.class_ 1158, CpInfo.utf8 (stringToUtf16 "java/lang/IllegalStateException"), CpInfo.methodref 1157 1160, CpInfo.nameAndType 1161 1162, CpInfo.utf8 (stringToUtf16 "<init>"), CpInfo.utf8 (stringToUtf16 "(Ljava/lang/String;)V"), CpInfo.string 1164, CpInfo.utf8 (stringToUtf16 "no such node")] },
  resolved := start1.c40.resolved ++ #[some (Resolved.cls 56), none, some (Resolved.method ⟨56, 0⟩), none, none, none, some (Resolved.string 294), none] }
def od1.args0 : Array Value := start1.args0
def od1.cells0 : Array Value := #[.int 5, .int 0, .int 0, .int 0]
def od1.about : State := { start1.aboutOf od1.cells0 with vm := { (start1.aboutOf od1.cells0).vm with classes := (start1.aboutOf od1.cells0).vm.classes.setIfInBounds 40 od1.c40 } }
def od1.p0 : Program := start1.p0
def od1.e0 : Env := start1.e0
set_option maxRecDepth 16384 in
theorem od1.word_code : (Cond.code x code maxLocals ret).before args0 about = true := su_hand_word (m := ⟨0, 0⟩) (by decide +kernel) rfl (by decide +kernel) (by decide +kernel)
set_option maxRecDepth 16384 in
theorem od1.su_all_split {α : Type} (p : α → Bool) (n : Nat) (l : List α) (h1 : (l.take n).all p = true) (h2 : (l.drop n).all p = true) : l.all p = true := by
  apply List.all_eq_true.mpr
  intro x hx
  have hx' : x ∈ l.take n ++ l.drop n := by rw [List.take_append_drop]; exact hx
  rcases List.mem_append.mp hx' with h | h
  · exact List.all_eq_true.mp h1 x h
  · exact List.all_eq_true.mp h2 x h
set_option maxRecDepth 16384 in
theorem od1.code0 : (Jvm.Cond.code (⟨"Sequencepoint", "<init>", "()V"⟩ : Jvm.MethodName) prog_1_method_1_code 2 none).before args0 about = true :=
  su_hand_word (m := ⟨2, 0⟩) (by decide +kernel) rfl (by decide +kernel) (by decide +kernel)
set_option maxRecDepth 16384 in
theorem od1.code1 : (Jvm.Cond.code (⟨"java/lang/Object", "<init>", "()V"⟩ : Jvm.MethodName) object_method_1_code 1 none).before args0 about = true :=
  su_hand_word (m := ⟨1, 0⟩) (by decide +kernel) rfl (by decide +kernel) (by decide +kernel)
set_option maxRecDepth 16384 in
theorem od1.code2 : (Jvm.Cond.code (⟨"Sequencepoint$Program", "<init>", "()V"⟩ : Jvm.MethodName) prog_9_method_1_code 1 none).before args0 about = true :=
  su_hand_word (m := ⟨3, 0⟩) (by decide +kernel) rfl (by decide +kernel) (by decide +kernel)
set_option maxRecDepth 16384 in
theorem od1.code3 : (Jvm.Cond.code (⟨"Sequencepoint$Optimiser", "<init>", "()V"⟩ : Jvm.MethodName) prog_7_method_1_code 2 none).before args0 about = true :=
  su_hand_word (m := ⟨4, 0⟩) (by decide +kernel) rfl (by decide +kernel) (by decide +kernel)
set_option maxRecDepth 16384 in
theorem od1.code4 : (Jvm.Cond.code (⟨"Sequencepoint$Node", "<init>", "(ICI)V"⟩ : Jvm.MethodName) prog_5_method_1_code 4 none).before args0 about = true :=
  su_hand_word (m := ⟨5, 0⟩) (by decide +kernel) rfl (by decide +kernel) (by decide +kernel)
set_option maxRecDepth 16384 in
theorem od1.code5 : (Jvm.Cond.code (⟨"Sequencepoint$Statement", "<init>", "(CLSequencepoint$Node;LSequencepoint$Variable;)V"⟩ : Jvm.MethodName) prog_10_method_1_code 4 none).before args0 about = true :=
  su_hand_word (m := ⟨6, 0⟩) (by decide +kernel) rfl (by decide +kernel) (by decide +kernel)
set_option maxRecDepth 16384 in
theorem od1.codes_are_1 : tables_1_1.filter su_isCode = [Jvm.Cond.code (⟨"Sequencepoint", "<init>", "()V"⟩ : Jvm.MethodName) prog_1_method_1_code 2 none,
    Jvm.Cond.code (⟨"java/lang/Object", "<init>", "()V"⟩ : Jvm.MethodName) object_method_1_code 1 none,
    Jvm.Cond.code (⟨"Sequencepoint$Program", "<init>", "()V"⟩ : Jvm.MethodName) prog_9_method_1_code 1 none,
    Jvm.Cond.code (⟨"Sequencepoint$Optimiser", "<init>", "()V"⟩ : Jvm.MethodName) prog_7_method_1_code 2 none,
    Jvm.Cond.code (⟨"Sequencepoint$Node", "<init>", "(ICI)V"⟩ : Jvm.MethodName) prog_5_method_1_code 4 none,
    Jvm.Cond.code (⟨"Sequencepoint$Statement", "<init>", "(CLSequencepoint$Node;LSequencepoint$Variable;)V"⟩ : Jvm.MethodName) prog_10_method_1_code 4 none] := by
  first
  | rfl
  | simp only [tables_1_1, List.filter, su_isCode]
set_option maxRecDepth 16384 in
theorem od1.codes_hold_1 : ∀ c ∈ tables_1_1.filter su_isCode, c.before args0 about = true := by
  rw [codes_are_1]
  exact List.forall_mem_cons.mpr ⟨code0, List.forall_mem_cons.mpr ⟨code1, List.forall_mem_cons.mpr ⟨code2, List.forall_mem_cons.mpr ⟨code3, List.forall_mem_cons.mpr ⟨code4, List.forall_mem_cons.mpr ⟨code5, List.forall_mem_nil _⟩⟩⟩⟩⟩⟩
set_option maxRecDepth 16384 in
theorem od1.others_1_0 : (tables_1_1.take 40).all (fun c => su_isCode c || c.before args0 about) = true := by decide +kernel
set_option maxRecDepth 16384 in
theorem od1.others_1_1 : ((tables_1_1.drop 40).take 40).all (fun c => su_isCode c || c.before args0 about) = true := by decide +kernel
set_option maxRecDepth 16384 in
theorem od1.others_1_2 : (((tables_1_1.drop 40).drop 40).take 40).all (fun c => su_isCode c || c.before args0 about) = true := by decide +kernel
set_option maxRecDepth 16384 in
theorem od1.others_1_3 : ((((tables_1_1.drop 40).drop 40).drop 40).take 40).all (fun c => su_isCode c || c.before args0 about) = true := by decide +kernel
set_option maxRecDepth 16384 in
theorem od1.others_1_4 : (((((tables_1_1.drop 40).drop 40).drop 40).drop 40).take 40).all (fun c => su_isCode c || c.before args0 about) = true := by decide +kernel
set_option maxRecDepth 16384 in
theorem od1.others_1_5 : (((((tables_1_1.drop 40).drop 40).drop 40).drop 40).drop 40).all (fun c => su_isCode c || c.before args0 about) = true := by decide +kernel
set_option maxRecDepth 16384 in
theorem od1.others_hold_1 : tables_1_1.all (fun c => su_isCode c || c.before args0 about) = true := su_all_split _ 40 tables_1_1 others_1_0 (su_all_split _ 40 (tables_1_1.drop 40) others_1_1 (su_all_split _ 40 ((tables_1_1.drop 40).drop 40) others_1_2 (su_all_split _ 40 (((tables_1_1.drop 40).drop 40).drop 40) others_1_3 (su_all_split _ 40 ((((tables_1_1.drop 40).drop 40).drop 40).drop 40) others_1_4 others_1_5))))
set_option maxRecDepth 16384 in
theorem od1.words_1 : ∀ c ∈ tables_1_1, c.before args0 about = true := fun c h => su_words others_hold_1 codes_hold_1 c h
set_option maxRecDepth 16384 in
theorem od1.code6 : (Jvm.Cond.code (⟨"Sequencepoint$Machine", "<init>", "()V"⟩ : Jvm.MethodName) prog_3_method_1_code 1 none).before args0 about = true :=
  su_hand_word (m := ⟨7, 0⟩) (by decide +kernel) rfl (by decide +kernel) (by decide +kernel)
set_option maxRecDepth 16384 in
theorem od1.code7 : (Jvm.Cond.code (⟨"Sequencepoint$Memory", "<init>", "()V"⟩ : Jvm.MethodName) prog_4_method_1_code 1 none).before args0 about = true :=
  su_hand_word (m := ⟨8, 0⟩) (by decide +kernel) rfl (by decide +kernel) (by decide +kernel)
set_option maxRecDepth 16384 in
theorem od1.code8 : (Jvm.Cond.code (⟨"Sequencepoint$Outcome", "<init>", "()V"⟩ : Jvm.MethodName) prog_8_method_1_code 1 none).before args0 about = true :=
  su_hand_word (m := ⟨9, 0⟩) (by decide +kernel) rfl (by decide +kernel) (by decide +kernel)
set_option maxRecDepth 16384 in
theorem od1.code9 : (Jvm.Cond.code (⟨"Sequencepoint", "steps", "()I"⟩ : Jvm.MethodName) prog_1_method_31_code 1 (some .int)).before args0 about = true :=
  su_hand_word (m := ⟨2, 30⟩) (by decide +kernel) rfl (by decide +kernel) (by decide +kernel)
set_option maxRecDepth 16384 in
theorem od1.code10 : (Jvm.Cond.code (⟨"Sequencepoint", "choices", "()I"⟩ : Jvm.MethodName) prog_1_method_32_code 1 (some .int)).before args0 about = true :=
  su_hand_word (m := ⟨2, 31⟩) (by decide +kernel) rfl (by decide +kernel) (by decide +kernel)
set_option maxRecDepth 16384 in
theorem od1.code11 : (Jvm.Cond.code (⟨"Sequencepoint", "printed", "()I"⟩ : Jvm.MethodName) prog_1_method_33_code 1 (some .int)).before args0 about = true :=
  su_hand_word (m := ⟨2, 32⟩) (by decide +kernel) rfl (by decide +kernel) (by decide +kernel)
set_option maxRecDepth 16384 in
theorem od1.code12 : (Jvm.Cond.code (⟨"Sequencepoint", "allSteps", "()J"⟩ : Jvm.MethodName) prog_1_method_41_code 1 (some .long)).before args0 about = true :=
  su_hand_word (m := ⟨2, 40⟩) (by decide +kernel) rfl (by decide +kernel) (by decide +kernel)
set_option maxRecDepth 16384 in
theorem od1.code13 : (Jvm.Cond.code (⟨"Sequencepoint", "addVariable", "(IIZ)I"⟩ : Jvm.MethodName) prog_1_method_2_code 4 (some .int)).before args0 about = true :=
  su_hand_word (m := ⟨2, 1⟩) (by decide +kernel) rfl (by decide +kernel) (by decide +kernel)
set_option maxRecDepth 16384 in
theorem od1.code14 : (Jvm.Cond.code (⟨"Sequencepoint$Numbers", "isType", "(I)Z"⟩ : Jvm.MethodName) prog_6_method_3_code 1 (some .boolean)).before args0 about = true :=
  su_hand_word (m := ⟨11, 1⟩) (by decide +kernel) rfl (by decide +kernel) (by decide +kernel)
set_option maxRecDepth 16384 in
theorem od1.code15 : (Jvm.Cond.code (⟨"Sequencepoint$Numbers", "isNumber", "(I)Z"⟩ : Jvm.MethodName) prog_6_method_2_code 1 (some .boolean)).before args0 about = true :=
  su_hand_word (m := ⟨11, 0⟩) (by decide +kernel) rfl (by decide +kernel) (by decide +kernel)
set_option maxRecDepth 16384 in
theorem od1.code16 : (Jvm.Cond.code (⟨"java/lang/Throwable", "<init>", "()V"⟩ : Jvm.MethodName) prog_44_method_1_code 1 none).before args0 about = true :=
  su_hand_word (m := ⟨39, 0⟩) (by decide +kernel) rfl (by decide +kernel) (by decide +kernel)
set_option maxRecDepth 16384 in
theorem od1.code17 : (Jvm.Cond.code (⟨"java/lang/IllegalArgumentException", "<init>", "(Ljava/lang/String;)V"⟩ : Jvm.MethodName) prog_29_method_2_code 2 none).before args0 about = true :=
  su_hand_word (m := ⟨55, 0⟩) (by decide +kernel) rfl (by decide +kernel) (by decide +kernel)
set_option maxRecDepth 16384 in
theorem od1.codes_are_2 : tables_1_2.filter su_isCode = [Jvm.Cond.code (⟨"Sequencepoint$Machine", "<init>", "()V"⟩ : Jvm.MethodName) prog_3_method_1_code 1 none,
    Jvm.Cond.code (⟨"Sequencepoint$Memory", "<init>", "()V"⟩ : Jvm.MethodName) prog_4_method_1_code 1 none,
    Jvm.Cond.code (⟨"Sequencepoint$Outcome", "<init>", "()V"⟩ : Jvm.MethodName) prog_8_method_1_code 1 none,
    Jvm.Cond.code (⟨"Sequencepoint", "steps", "()I"⟩ : Jvm.MethodName) prog_1_method_31_code 1 (some .int),
    Jvm.Cond.code (⟨"Sequencepoint", "choices", "()I"⟩ : Jvm.MethodName) prog_1_method_32_code 1 (some .int),
    Jvm.Cond.code (⟨"Sequencepoint", "printed", "()I"⟩ : Jvm.MethodName) prog_1_method_33_code 1 (some .int),
    Jvm.Cond.code (⟨"Sequencepoint", "allSteps", "()J"⟩ : Jvm.MethodName) prog_1_method_41_code 1 (some .long),
    Jvm.Cond.code (⟨"Sequencepoint", "addVariable", "(IIZ)I"⟩ : Jvm.MethodName) prog_1_method_2_code 4 (some .int),
    Jvm.Cond.code (⟨"Sequencepoint$Numbers", "isType", "(I)Z"⟩ : Jvm.MethodName) prog_6_method_3_code 1 (some .boolean),
    Jvm.Cond.code (⟨"Sequencepoint$Numbers", "isNumber", "(I)Z"⟩ : Jvm.MethodName) prog_6_method_2_code 1 (some .boolean),
    Jvm.Cond.code (⟨"java/lang/Throwable", "<init>", "()V"⟩ : Jvm.MethodName) prog_44_method_1_code 1 none,
    Jvm.Cond.code (⟨"java/lang/IllegalArgumentException", "<init>", "(Ljava/lang/String;)V"⟩ : Jvm.MethodName) prog_29_method_2_code 2 none] := by
  first
  | rfl
  | simp only [tables_1_2, List.filter, su_isCode]
set_option maxRecDepth 16384 in
theorem od1.codes_hold_2 : ∀ c ∈ tables_1_2.filter su_isCode, c.before args0 about = true := by
  rw [codes_are_2]
  exact List.forall_mem_cons.mpr ⟨code6, List.forall_mem_cons.mpr ⟨code7, List.forall_mem_cons.mpr ⟨code8, List.forall_mem_cons.mpr ⟨code9, List.forall_mem_cons.mpr ⟨code10, List.forall_mem_cons.mpr ⟨code11, List.forall_mem_cons.mpr ⟨code12, List.forall_mem_cons.mpr ⟨code13, List.forall_mem_cons.mpr ⟨code14, List.forall_mem_cons.mpr ⟨code15, List.forall_mem_cons.mpr ⟨code16, List.forall_mem_cons.mpr ⟨code17, List.forall_mem_nil _⟩⟩⟩⟩⟩⟩⟩⟩⟩⟩⟩⟩
set_option maxRecDepth 16384 in
theorem od1.others_2_0 : (tables_1_2.take 40).all (fun c => su_isCode c || c.before args0 about) = true := by decide +kernel
set_option maxRecDepth 16384 in
theorem od1.others_2_1 : ((tables_1_2.drop 40).take 40).all (fun c => su_isCode c || c.before args0 about) = true := by decide +kernel
set_option maxRecDepth 16384 in
theorem od1.others_2_2 : (((tables_1_2.drop 40).drop 40).take 40).all (fun c => su_isCode c || c.before args0 about) = true := by decide +kernel
set_option maxRecDepth 16384 in
theorem od1.others_2_3 : ((((tables_1_2.drop 40).drop 40).drop 40).take 40).all (fun c => su_isCode c || c.before args0 about) = true := by decide +kernel
set_option maxRecDepth 16384 in
theorem od1.others_2_4 : (((((tables_1_2.drop 40).drop 40).drop 40).drop 40).take 40).all (fun c => su_isCode c || c.before args0 about) = true := by decide +kernel
set_option maxRecDepth 16384 in
theorem od1.others_2_5 : (((((tables_1_2.drop 40).drop 40).drop 40).drop 40).drop 40).all (fun c => su_isCode c || c.before args0 about) = true := by decide +kernel
set_option maxRecDepth 16384 in
theorem od1.others_hold_2 : tables_1_2.all (fun c => su_isCode c || c.before args0 about) = true := su_all_split _ 40 tables_1_2 others_2_0 (su_all_split _ 40 (tables_1_2.drop 40) others_2_1 (su_all_split _ 40 ((tables_1_2.drop 40).drop 40) others_2_2 (su_all_split _ 40 (((tables_1_2.drop 40).drop 40).drop 40) others_2_3 (su_all_split _ 40 ((((tables_1_2.drop 40).drop 40).drop 40).drop 40) others_2_4 others_2_5))))
set_option maxRecDepth 16384 in
theorem od1.words_2 : ∀ c ∈ tables_1_2, c.before args0 about = true := fun c h => su_words others_hold_2 codes_hold_2 c h
set_option maxRecDepth 16384 in
theorem od1.code18 : (Jvm.Cond.code (⟨"java/lang/RuntimeException", "<init>", "(Ljava/lang/String;)V"⟩ : Jvm.MethodName) prog_38_method_2_code 2 none).before args0 about = true :=
  su_hand_word (m := ⟨52, 1⟩) (by decide +kernel) rfl (by decide +kernel) (by decide +kernel)
set_option maxRecDepth 16384 in
theorem od1.code19 : (Jvm.Cond.code (⟨"java/lang/Exception", "<init>", "(Ljava/lang/String;)V"⟩ : Jvm.MethodName) prog_28_method_2_code 2 none).before args0 about = true :=
  su_hand_word (m := ⟨46, 1⟩) (by decide +kernel) rfl (by decide +kernel) (by decide +kernel)
set_option maxRecDepth 16384 in
theorem od1.code20 : (Jvm.Cond.code (⟨"java/lang/Throwable", "<init>", "(Ljava/lang/String;)V"⟩ : Jvm.MethodName) prog_44_method_2_code 2 none).before args0 about = true :=
  su_hand_word (m := ⟨39, 1⟩) (by decide +kernel) rfl (by decide +kernel) (by decide +kernel)
set_option maxRecDepth 16384 in
theorem od1.code21 : (Jvm.Cond.code (⟨"java/lang/IllegalStateException", "<init>", "(Ljava/lang/String;)V"⟩ : Jvm.MethodName) prog_30_method_2_code 2 none).before args0 about = true :=
  su_hand_word (m := ⟨56, 0⟩) (by decide +kernel) rfl (by decide +kernel) (by decide +kernel)
set_option maxRecDepth 16384 in
theorem od1.code22 : (Jvm.Cond.code (⟨"Sequencepoint$Variable", "<init>", "(IIZ)V"⟩ : Jvm.MethodName) prog_12_method_1_code 4 none).before args0 about = true :=
  su_hand_word (m := ⟨12, 0⟩) (by decide +kernel) rfl (by decide +kernel) (by decide +kernel)
set_option maxRecDepth 16384 in
theorem od1.code23 : (Jvm.Cond.code (⟨"Sequencepoint$Program", "keepVariable", "(LSequencepoint$Variable;)I"⟩ : Jvm.MethodName) prog_9_method_6_code 2 (some .int)).before args0 about = true :=
  su_hand_word (m := ⟨3, 5⟩) (by decide +kernel) rfl (by decide +kernel) (by decide +kernel)
set_option maxRecDepth 16384 in
theorem od1.code24 : (Jvm.Cond.code (⟨"Sequencepoint", "addFunction", "(III)I"⟩ : Jvm.MethodName) prog_1_method_3_code 6 (some .int)).before args0 about = true :=
  su_hand_word (m := ⟨2, 2⟩) (by decide +kernel) rfl (by decide +kernel) (by decide +kernel)
set_option maxRecDepth 16384 in
theorem od1.code25 : (Jvm.Cond.code (⟨"Sequencepoint$Program", "variableAt", "(I)LSequencepoint$Variable;"⟩ : Jvm.MethodName) prog_9_method_2_code 2 (some (.object "Sequencepoint$Variable"))).before args0 about = true :=
  su_hand_word (m := ⟨3, 1⟩) (by decide +kernel) rfl (by decide +kernel) (by decide +kernel)
set_option maxRecDepth 16384 in
theorem od1.code26 : (Jvm.Cond.code (⟨"java/lang/IndexOutOfBoundsException", "<init>", "(Ljava/lang/String;)V"⟩ : Jvm.MethodName) prog_31_method_2_code 2 none).before args0 about = true :=
  su_hand_word (m := ⟨57, 0⟩) (by decide +kernel) rfl (by decide +kernel) (by decide +kernel)
set_option maxRecDepth 16384 in
theorem od1.code27 : (Jvm.Cond.code (⟨"Sequencepoint", "canBeParameter", "(LSequencepoint$Variable;)Z"⟩ : Jvm.MethodName) prog_1_method_4_code 1 (some .boolean)).before args0 about = true :=
  su_hand_word (m := ⟨2, 3⟩) (by decide +kernel) rfl (by decide +kernel) (by decide +kernel)
set_option maxRecDepth 16384 in
theorem od1.code28 : (Jvm.Cond.code (⟨"Sequencepoint$Variable", "isArray", "()Z"⟩ : Jvm.MethodName) prog_12_method_2_code 1 (some .boolean)).before args0 about = true :=
  su_hand_word (m := ⟨12, 1⟩) (by decide +kernel) rfl (by decide +kernel) (by decide +kernel)
set_option maxRecDepth 16384 in
theorem od1.code29 : (Jvm.Cond.code (⟨"java/lang/UnsupportedOperationException", "<init>", "(Ljava/lang/String;)V"⟩ : Jvm.MethodName) prog_45_method_2_code 2 none).before args0 about = true :=
  su_hand_word (m := ⟨58, 0⟩) (by decide +kernel) rfl (by decide +kernel) (by decide +kernel)
set_option maxRecDepth 16384 in
theorem od1.code30 : (Jvm.Cond.code (⟨"Sequencepoint$Function", "<init>", "(ILSequencepoint$Variable;LSequencepoint$Variable;)V"⟩ : Jvm.MethodName) prog_2_method_1_code 4 none).before args0 about = true :=
  su_hand_word (m := ⟨13, 0⟩) (by decide +kernel) rfl (by decide +kernel) (by decide +kernel)
set_option maxRecDepth 16384 in
theorem od1.code31 : (Jvm.Cond.code (⟨"Sequencepoint$Program", "keepFunction", "(LSequencepoint$Function;)I"⟩ : Jvm.MethodName) prog_9_method_7_code 2 (some .int)).before args0 about = true :=
  su_hand_word (m := ⟨3, 6⟩) (by decide +kernel) rfl (by decide +kernel) (by decide +kernel)
set_option maxRecDepth 16384 in
theorem od1.code32 : (Jvm.Cond.code (⟨"Sequencepoint", "setBody", "(II)I"⟩ : Jvm.MethodName) prog_1_method_5_code 5 (some .int)).before args0 about = true :=
  su_hand_word (m := ⟨2, 4⟩) (by decide +kernel) rfl (by decide +kernel) (by decide +kernel)
set_option maxRecDepth 16384 in
theorem od1.code33 : (Jvm.Cond.code (⟨"Sequencepoint$Program", "functionAt", "(I)LSequencepoint$Function;"⟩ : Jvm.MethodName) prog_9_method_3_code 2 (some (.object "Sequencepoint$Function"))).before args0 about = true :=
  su_hand_word (m := ⟨3, 2⟩) (by decide +kernel) rfl (by decide +kernel) (by decide +kernel)
set_option maxRecDepth 16384 in
theorem od1.code34 : (Jvm.Cond.code (⟨"Sequencepoint$Program", "statementAt", "(I)LSequencepoint$Statement;"⟩ : Jvm.MethodName) prog_9_method_5_code 2 (some (.object "Sequencepoint$Statement"))).before args0 about = true :=
  su_hand_word (m := ⟨3, 4⟩) (by decide +kernel) rfl (by decide +kernel) (by decide +kernel)
set_option maxRecDepth 16384 in
theorem od1.code35 : (Jvm.Cond.code (⟨"Sequencepoint$Program", "putBody", "(LSequencepoint$Function;LSequencepoint$Statement;)V"⟩ : Jvm.MethodName) prog_9_method_16_code 4 none).before args0 about = true :=
  su_hand_word (m := ⟨3, 15⟩) (by decide +kernel) rfl (by decide +kernel) (by decide +kernel)
set_option maxRecDepth 16384 in
theorem od1.code36 : (Jvm.Cond.code (⟨"Sequencepoint$Program", "bodyCount", "()I"⟩ : Jvm.MethodName) prog_9_method_17_code 3 (some .int)).before args0 about = true :=
  su_hand_word (m := ⟨3, 16⟩) (by decide +kernel) rfl (by decide +kernel) (by decide +kernel)
set_option maxRecDepth 16384 in
theorem od1.code37 : (Jvm.Cond.code (⟨"Sequencepoint", "number", "(II)I"⟩ : Jvm.MethodName) prog_1_method_6_code 4 (some .int)).before args0 about = true :=
  su_hand_word (m := ⟨2, 5⟩) (by decide +kernel) rfl (by decide +kernel) (by decide +kernel)
set_option maxRecDepth 16384 in
theorem od1.code38 : (Jvm.Cond.code (⟨"Sequencepoint$Numbers", "has", "(IJ)Z"⟩ : Jvm.MethodName) prog_6_method_4_code 3 (some .boolean)).before args0 about = true :=
  su_hand_word (m := ⟨11, 2⟩) (by decide +kernel) rfl (by decide +kernel) (by decide +kernel)
set_option maxRecDepth 16384 in
theorem od1.code39 : (Jvm.Cond.code (⟨"Sequencepoint$Numbers", "convert", "(JI)J"⟩ : Jvm.MethodName) prog_6_method_5_code 4 (some .long)).before args0 about = true :=
  su_hand_word (m := ⟨11, 3⟩) (by decide +kernel) rfl (by decide +kernel) (by decide +kernel)
set_option maxRecDepth 16384 in
theorem od1.code40 : (Jvm.Cond.code (⟨"Sequencepoint", "refuseNodesBeyondLimit", "()V"⟩ : Jvm.MethodName) prog_1_method_14_code 1 none).before args0 about = true :=
  su_hand_word (m := ⟨2, 13⟩) (by decide +kernel) rfl (by decide +kernel) (by decide +kernel)
set_option maxRecDepth 16384 in
theorem od1.code41 : (Jvm.Cond.code (⟨"Sequencepoint$Program", "keepNode", "(LSequencepoint$Node;LSequencepoint$Node;LSequencepoint$Node;LSequencepoint$Node;)I"⟩ : Jvm.MethodName) prog_9_method_8_code 5 (some .int)).before args0 about = true :=
  su_hand_word (m := ⟨3, 7⟩) (by decide +kernel) rfl (by decide +kernel) (by decide +kernel)
set_option maxRecDepth 16384 in
theorem od1.code42 : (Jvm.Cond.code (⟨"Sequencepoint$Node", "setParts", "(LSequencepoint$Node;LSequencepoint$Node;LSequencepoint$Node;)V"⟩ : Jvm.MethodName) prog_5_method_3_code 4 none).before args0 about = true :=
  su_hand_word (m := ⟨5, 2⟩) (by decide +kernel) rfl (by decide +kernel) (by decide +kernel)
set_option maxRecDepth 16384 in
theorem od1.code43 : (Jvm.Cond.code (⟨"Sequencepoint$Node", "depthOf", "(LSequencepoint$Node;)I"⟩ : Jvm.MethodName) prog_5_method_4_code 1 (some .int)).before args0 about = true :=
  su_hand_word (m := ⟨5, 3⟩) (by decide +kernel) rfl (by decide +kernel) (by decide +kernel)
set_option maxRecDepth 16384 in
theorem od1.code44 : (Jvm.Cond.code (⟨"java/lang/Math", "max", "(II)I"⟩ : Jvm.MethodName) prog_36_method_65_code 2 (some .int)).before args0 about = true :=
  su_hand_word (m := ⟨14, 1⟩) (by decide +kernel) rfl (by decide +kernel) (by decide +kernel)
set_option maxRecDepth 16384 in
theorem od1.code45 : (Jvm.Cond.code (⟨"Sequencepoint$Node", "sizeOf", "(LSequencepoint$Node;)I"⟩ : Jvm.MethodName) prog_5_method_5_code 1 (some .int)).before args0 about = true :=
  su_hand_word (m := ⟨5, 4⟩) (by decide +kernel) rfl (by decide +kernel) (by decide +kernel)
set_option maxRecDepth 16384 in
theorem od1.code46 : (Jvm.Cond.code (⟨"Sequencepoint$Node", "isCalling", "(LSequencepoint$Node;)Z"⟩ : Jvm.MethodName) prog_5_method_6_code 1 (some .boolean)).before args0 about = true :=
  su_hand_word (m := ⟨5, 5⟩) (by decide +kernel) rfl (by decide +kernel) (by decide +kernel)
set_option maxRecDepth 16384 in
theorem od1.code47 : (Jvm.Cond.code (⟨"Sequencepoint$Program", "take", "(LSequencepoint$Node;)V"⟩ : Jvm.MethodName) prog_9_method_10_code 1 none).before args0 about = true :=
  su_hand_word (m := ⟨3, 9⟩) (by decide +kernel) rfl (by decide +kernel) (by decide +kernel)
set_option maxRecDepth 16384 in
theorem od1.code48 : (Jvm.Cond.code (⟨"Sequencepoint", "name", "(I)I"⟩ : Jvm.MethodName) prog_1_method_7_code 4 (some .int)).before args0 about = true :=
  su_hand_word (m := ⟨2, 6⟩) (by decide +kernel) rfl (by decide +kernel) (by decide +kernel)
set_option maxRecDepth 16384 in
theorem od1.code49 : (Jvm.Cond.code (⟨"Sequencepoint", "unary", "(CI)I"⟩ : Jvm.MethodName) prog_1_method_8_code 5 (some .int)).before args0 about = true :=
  su_hand_word (m := ⟨2, 7⟩) (by decide +kernel) rfl (by decide +kernel) (by decide +kernel)
set_option maxRecDepth 16384 in
theorem od1.codes_are_3 : tables_1_3.filter su_isCode = [Jvm.Cond.code (⟨"java/lang/RuntimeException", "<init>", "(Ljava/lang/String;)V"⟩ : Jvm.MethodName) prog_38_method_2_code 2 none,
    Jvm.Cond.code (⟨"java/lang/Exception", "<init>", "(Ljava/lang/String;)V"⟩ : Jvm.MethodName) prog_28_method_2_code 2 none,
    Jvm.Cond.code (⟨"java/lang/Throwable", "<init>", "(Ljava/lang/String;)V"⟩ : Jvm.MethodName) prog_44_method_2_code 2 none,
    Jvm.Cond.code (⟨"java/lang/IllegalStateException", "<init>", "(Ljava/lang/String;)V"⟩ : Jvm.MethodName) prog_30_method_2_code 2 none,
    Jvm.Cond.code (⟨"Sequencepoint$Variable", "<init>", "(IIZ)V"⟩ : Jvm.MethodName) prog_12_method_1_code 4 none,
    Jvm.Cond.code (⟨"Sequencepoint$Program", "keepVariable", "(LSequencepoint$Variable;)I"⟩ : Jvm.MethodName) prog_9_method_6_code 2 (some .int),
    Jvm.Cond.code (⟨"Sequencepoint", "addFunction", "(III)I"⟩ : Jvm.MethodName) prog_1_method_3_code 6 (some .int),
    Jvm.Cond.code (⟨"Sequencepoint$Program", "variableAt", "(I)LSequencepoint$Variable;"⟩ : Jvm.MethodName) prog_9_method_2_code 2 (some (.object "Sequencepoint$Variable")),
    Jvm.Cond.code (⟨"java/lang/IndexOutOfBoundsException", "<init>", "(Ljava/lang/String;)V"⟩ : Jvm.MethodName) prog_31_method_2_code 2 none,
    Jvm.Cond.code (⟨"Sequencepoint", "canBeParameter", "(LSequencepoint$Variable;)Z"⟩ : Jvm.MethodName) prog_1_method_4_code 1 (some .boolean),
    Jvm.Cond.code (⟨"Sequencepoint$Variable", "isArray", "()Z"⟩ : Jvm.MethodName) prog_12_method_2_code 1 (some .boolean),
    Jvm.Cond.code (⟨"java/lang/UnsupportedOperationException", "<init>", "(Ljava/lang/String;)V"⟩ : Jvm.MethodName) prog_45_method_2_code 2 none,
    Jvm.Cond.code (⟨"Sequencepoint$Function", "<init>", "(ILSequencepoint$Variable;LSequencepoint$Variable;)V"⟩ : Jvm.MethodName) prog_2_method_1_code 4 none,
    Jvm.Cond.code (⟨"Sequencepoint$Program", "keepFunction", "(LSequencepoint$Function;)I"⟩ : Jvm.MethodName) prog_9_method_7_code 2 (some .int),
    Jvm.Cond.code (⟨"Sequencepoint", "setBody", "(II)I"⟩ : Jvm.MethodName) prog_1_method_5_code 5 (some .int),
    Jvm.Cond.code (⟨"Sequencepoint$Program", "functionAt", "(I)LSequencepoint$Function;"⟩ : Jvm.MethodName) prog_9_method_3_code 2 (some (.object "Sequencepoint$Function")),
    Jvm.Cond.code (⟨"Sequencepoint$Program", "statementAt", "(I)LSequencepoint$Statement;"⟩ : Jvm.MethodName) prog_9_method_5_code 2 (some (.object "Sequencepoint$Statement")),
    Jvm.Cond.code (⟨"Sequencepoint$Program", "putBody", "(LSequencepoint$Function;LSequencepoint$Statement;)V"⟩ : Jvm.MethodName) prog_9_method_16_code 4 none,
    Jvm.Cond.code (⟨"Sequencepoint$Program", "bodyCount", "()I"⟩ : Jvm.MethodName) prog_9_method_17_code 3 (some .int),
    Jvm.Cond.code (⟨"Sequencepoint", "number", "(II)I"⟩ : Jvm.MethodName) prog_1_method_6_code 4 (some .int),
    Jvm.Cond.code (⟨"Sequencepoint$Numbers", "has", "(IJ)Z"⟩ : Jvm.MethodName) prog_6_method_4_code 3 (some .boolean),
    Jvm.Cond.code (⟨"Sequencepoint$Numbers", "convert", "(JI)J"⟩ : Jvm.MethodName) prog_6_method_5_code 4 (some .long),
    Jvm.Cond.code (⟨"Sequencepoint", "refuseNodesBeyondLimit", "()V"⟩ : Jvm.MethodName) prog_1_method_14_code 1 none,
    Jvm.Cond.code (⟨"Sequencepoint$Program", "keepNode", "(LSequencepoint$Node;LSequencepoint$Node;LSequencepoint$Node;LSequencepoint$Node;)I"⟩ : Jvm.MethodName) prog_9_method_8_code 5 (some .int),
    Jvm.Cond.code (⟨"Sequencepoint$Node", "setParts", "(LSequencepoint$Node;LSequencepoint$Node;LSequencepoint$Node;)V"⟩ : Jvm.MethodName) prog_5_method_3_code 4 none,
    Jvm.Cond.code (⟨"Sequencepoint$Node", "depthOf", "(LSequencepoint$Node;)I"⟩ : Jvm.MethodName) prog_5_method_4_code 1 (some .int),
    Jvm.Cond.code (⟨"java/lang/Math", "max", "(II)I"⟩ : Jvm.MethodName) prog_36_method_65_code 2 (some .int),
    Jvm.Cond.code (⟨"Sequencepoint$Node", "sizeOf", "(LSequencepoint$Node;)I"⟩ : Jvm.MethodName) prog_5_method_5_code 1 (some .int),
    Jvm.Cond.code (⟨"Sequencepoint$Node", "isCalling", "(LSequencepoint$Node;)Z"⟩ : Jvm.MethodName) prog_5_method_6_code 1 (some .boolean),
    Jvm.Cond.code (⟨"Sequencepoint$Program", "take", "(LSequencepoint$Node;)V"⟩ : Jvm.MethodName) prog_9_method_10_code 1 none,
    Jvm.Cond.code (⟨"Sequencepoint", "name", "(I)I"⟩ : Jvm.MethodName) prog_1_method_7_code 4 (some .int),
    Jvm.Cond.code (⟨"Sequencepoint", "unary", "(CI)I"⟩ : Jvm.MethodName) prog_1_method_8_code 5 (some .int)] := by
  first
  | rfl
  | simp only [tables_1_3, List.filter, su_isCode]
set_option maxRecDepth 16384 in
theorem od1.codes_hold_3 : ∀ c ∈ tables_1_3.filter su_isCode, c.before args0 about = true := by
  rw [codes_are_3]
  exact List.forall_mem_cons.mpr ⟨code18, List.forall_mem_cons.mpr ⟨code19, List.forall_mem_cons.mpr ⟨code20, List.forall_mem_cons.mpr ⟨code21, List.forall_mem_cons.mpr ⟨code22, List.forall_mem_cons.mpr ⟨code23, List.forall_mem_cons.mpr ⟨code24, List.forall_mem_cons.mpr ⟨code25, List.forall_mem_cons.mpr ⟨code26, List.forall_mem_cons.mpr ⟨code27, List.forall_mem_cons.mpr ⟨code28, List.forall_mem_cons.mpr ⟨code29, List.forall_mem_cons.mpr ⟨code30, List.forall_mem_cons.mpr ⟨code31, List.forall_mem_cons.mpr ⟨code32, List.forall_mem_cons.mpr ⟨code33, List.forall_mem_cons.mpr ⟨code34, List.forall_mem_cons.mpr ⟨code35, List.forall_mem_cons.mpr ⟨code36, List.forall_mem_cons.mpr ⟨code37, List.forall_mem_cons.mpr ⟨code38, List.forall_mem_cons.mpr ⟨code39, List.forall_mem_cons.mpr ⟨code40, List.forall_mem_cons.mpr ⟨code41, List.forall_mem_cons.mpr ⟨code42, List.forall_mem_cons.mpr ⟨code43, List.forall_mem_cons.mpr ⟨code44, List.forall_mem_cons.mpr ⟨code45, List.forall_mem_cons.mpr ⟨code46, List.forall_mem_cons.mpr ⟨code47, List.forall_mem_cons.mpr ⟨code48, List.forall_mem_cons.mpr ⟨code49, List.forall_mem_nil _⟩⟩⟩⟩⟩⟩⟩⟩⟩⟩⟩⟩⟩⟩⟩⟩⟩⟩⟩⟩⟩⟩⟩⟩⟩⟩⟩⟩⟩⟩⟩⟩
set_option maxRecDepth 16384 in
theorem od1.others_3_0 : (tables_1_3.take 40).all (fun c => su_isCode c || c.before args0 about) = true := by decide +kernel
set_option maxRecDepth 16384 in
theorem od1.others_3_1 : ((tables_1_3.drop 40).take 40).all (fun c => su_isCode c || c.before args0 about) = true := by decide +kernel
set_option maxRecDepth 16384 in
theorem od1.others_3_2 : (((tables_1_3.drop 40).drop 40).take 40).all (fun c => su_isCode c || c.before args0 about) = true := by decide +kernel
set_option maxRecDepth 16384 in
theorem od1.others_3_3 : ((((tables_1_3.drop 40).drop 40).drop 40).take 40).all (fun c => su_isCode c || c.before args0 about) = true := by decide +kernel
set_option maxRecDepth 16384 in
theorem od1.others_3_4 : (((((tables_1_3.drop 40).drop 40).drop 40).drop 40).take 40).all (fun c => su_isCode c || c.before args0 about) = true := by decide +kernel
set_option maxRecDepth 16384 in
theorem od1.others_3_5 : (((((tables_1_3.drop 40).drop 40).drop 40).drop 40).drop 40).all (fun c => su_isCode c || c.before args0 about) = true := by decide +kernel
set_option maxRecDepth 16384 in
theorem od1.others_hold_3 : tables_1_3.all (fun c => su_isCode c || c.before args0 about) = true := su_all_split _ 40 tables_1_3 others_3_0 (su_all_split _ 40 (tables_1_3.drop 40) others_3_1 (su_all_split _ 40 ((tables_1_3.drop 40).drop 40) others_3_2 (su_all_split _ 40 (((tables_1_3.drop 40).drop 40).drop 40) others_3_3 (su_all_split _ 40 ((((tables_1_3.drop 40).drop 40).drop 40).drop 40) others_3_4 others_3_5))))
set_option maxRecDepth 16384 in
theorem od1.words_3 : ∀ c ∈ tables_1_3, c.before args0 about = true := fun c h => su_words others_hold_3 codes_hold_3 c h
set_option maxRecDepth 16384 in
theorem od1.code50 : (Jvm.Cond.code (⟨"java/lang/String", "indexOf", "(I)I"⟩ : Jvm.MethodName) prog_39_method_79_code 2 (some .int)).before args0 about = true :=
  su_hand_word (m := ⟨40, 1⟩) (by decide +kernel) rfl (by decide +kernel) (by decide +kernel)
set_option maxRecDepth 16384 in
theorem od1.code51 : (Jvm.Cond.code (⟨"java/lang/String", "indexOf", "(II)I"⟩ : Jvm.MethodName) prog_39_method_80_code 3 (some .int)).before args0 about = true :=
  su_hand_word (m := ⟨40, 2⟩) (by decide +kernel) rfl (by decide +kernel) (by decide +kernel)
set_option maxRecDepth 16384 in
theorem od1.code52 : (Jvm.Cond.code (⟨"java/lang/String", "isLatin1", "()Z"⟩ : Jvm.MethodName) prog_39_method_154_code 1 (some .boolean)).before args0 about = true :=
  su_hand_word (m := ⟨40, 4⟩) (by decide +kernel) rfl (by decide +kernel) (by decide +kernel)
set_option maxRecDepth 16384 in
theorem od1.code53 : (Jvm.Cond.code (⟨"java/lang/String", "length", "()I"⟩ : Jvm.MethodName) prog_39_method_54_code 1 (some .int)).before args0 about = true :=
  su_hand_word (m := ⟨40, 0⟩) (by decide +kernel) rfl (by decide +kernel) (by decide +kernel)
set_option maxRecDepth 16384 in
theorem od1.code54 : (Jvm.Cond.code (⟨"java/lang/String", "coder", "()B"⟩ : Jvm.MethodName) prog_39_method_152_code 1 (some .byte)).before args0 about = true :=
  su_hand_word (m := ⟨40, 3⟩) (by decide +kernel) rfl (by decide +kernel) (by decide +kernel)
set_option maxRecDepth 16384 in
theorem od1.code55 : (Jvm.Cond.code (⟨"java/lang/StringLatin1", "indexOf", "([BIII)I"⟩ : Jvm.MethodName) prog_41_method_22_code 4 (some .int)).before args0 about = true :=
  su_hand_word (m := ⟨16, 2⟩) (by decide +kernel) rfl (by decide +kernel) (by decide +kernel)
set_option maxRecDepth 16384 in
theorem od1.code56 : (Jvm.Cond.code (⟨"java/lang/StringLatin1", "canEncode", "(I)Z"⟩ : Jvm.MethodName) prog_41_method_4_code 1 (some .boolean)).before args0 about = true :=
  su_hand_word (m := ⟨16, 1⟩) (by decide +kernel) rfl (by decide +kernel) (by decide +kernel)
