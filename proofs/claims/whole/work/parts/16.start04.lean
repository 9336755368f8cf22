set_option maxRecDepth 16384 in
theorem od1.codes_hold_11 : ∀ c ∈ tables_1_11.filter su_isCode, c.before args0 about = true := by
  rw [codes_are_11]
  exact List.forall_mem_cons.mpr ⟨code345, List.forall_mem_cons.mpr ⟨code346, List.forall_mem_cons.mpr ⟨code347, List.forall_mem_cons.mpr ⟨code348, List.forall_mem_cons.mpr ⟨code349, List.forall_mem_cons.mpr ⟨code350, List.forall_mem_cons.mpr ⟨code351, List.forall_mem_cons.mpr ⟨code352, List.forall_mem_cons.mpr ⟨code353, List.forall_mem_cons.mpr ⟨code354, List.forall_mem_cons.mpr ⟨code355, List.forall_mem_cons.mpr ⟨code356, List.forall_mem_cons.mpr ⟨code357, List.forall_mem_cons.mpr ⟨code358, List.forall_mem_cons.mpr ⟨code359, List.forall_mem_cons.mpr ⟨code360, List.forall_mem_cons.mpr ⟨code361, List.forall_mem_cons.mpr ⟨code362, List.forall_mem_cons.mpr ⟨code363, List.forall_mem_cons.mpr ⟨code364, List.forall_mem_cons.mpr ⟨code365, List.forall_mem_cons.mpr ⟨code366, List.forall_mem_cons.mpr ⟨code367, List.forall_mem_cons.mpr ⟨code368, List.forall_mem_cons.mpr ⟨code369, List.forall_mem_cons.mpr ⟨code370, List.forall_mem_cons.mpr ⟨code371, List.forall_mem_nil _⟩⟩⟩⟩⟩⟩⟩⟩⟩⟩⟩⟩⟩⟩⟩⟩⟩⟩⟩⟩⟩⟩⟩⟩⟩⟩⟩
set_option maxRecDepth 100000 in
theorem od1.others_11_0 : (tables_1_11.take 120).all od1.chk = true := by decide +kernel
set_option maxRecDepth 100000 in
theorem od1.others_11_1 : (tables_1_11.drop 120).all od1.chk = true := by decide +kernel
theorem od1.others_hold_11 : tables_1_11.all (fun c => su_isCode c || c.before args0 about) = true := od1.from_chk start1.words_11 (od1.su_all_split _ 120 tables_1_11 od1.others_11_0 od1.others_11_1)
set_option maxRecDepth 16384 in
theorem od1.words_11 : ∀ c ∈ tables_1_11, c.before args0 about = true := fun c h => su_words others_hold_11 codes_hold_11 c h
set_option maxRecDepth 16384 in
theorem od1.words : ∀ c ∈ (Cond.code x code maxLocals ret :: tables_1), c.before args0 about = true := by
  intro c hc
  rcases List.mem_cons.mp hc with h | h
  · rw [h]; exact word_code
  · have h1 : c ∈ tables_1_1 ++ (tables_1_2 ++ (tables_1_3 ++ (tables_1_4 ++ (tables_1_5 ++ (tables_1_6 ++ (tables_1_7 ++ (tables_1_8 ++ (tables_1_9 ++ (tables_1_10 ++ tables_1_11))))))))) := h
    rcases List.mem_append.mp h1 with h2 | h1
    · exact words_1 c h2
    rcases List.mem_append.mp h1 with h2 | h1
    · exact words_2 c h2
    rcases List.mem_append.mp h1 with h2 | h1
    · exact words_3 c h2
    rcases List.mem_append.mp h1 with h2 | h1
    · exact words_4 c h2
    rcases List.mem_append.mp h1 with h2 | h1
    · exact words_5 c h2
    rcases List.mem_append.mp h1 with h2 | h1
    · exact words_6 c h2
    rcases List.mem_append.mp h1 with h2 | h1
    · exact words_7 c h2
    rcases List.mem_append.mp h1 with h2 | h1
    · exact words_8 c h2
    rcases List.mem_append.mp h1 with h2 | h1
    · exact words_9 c h2
    rcases List.mem_append.mp h1 with h2 | h1
    · exact words_10 c h2
    exact words_11 c h1
set_option maxRecDepth 16384 in
theorem od1.su_and {a b : Jvm.Cond} (h1 : a.before args0 about = true) (h2 : b.before args0 about = true) : (Jvm.Cond.and a b).before args0 about = true := by rw [Cond.before_and, Bool.and_eq_true]; exact ⟨h1, h2⟩
set_option maxRecDepth 16384 in
theorem od1.narrow_hold_1 : narrow_1_1.before args0 about = true := by decide +kernel
set_option maxRecDepth 16384 in
theorem od1.narrow_hold_2 : narrow_1_2.before args0 about = true := by decide +kernel
set_option maxRecDepth 16384 in
theorem od1.narrow_hold_3 : narrow_1_3.before args0 about = true := by decide +kernel
set_option maxRecDepth 16384 in
theorem od1.narrow_hold_4 : narrow_1_4.before args0 about = true := by decide +kernel
set_option maxRecDepth 16384 in
theorem od1.narrow_holds : narrow_1.before args0 about = true := by
  unfold narrow_1
  exact (su_and (su_and narrow_hold_1 narrow_hold_2) (su_and narrow_hold_3 narrow_hold_4))
set_option maxRecDepth 16384 in
theorem od1.atStart : AtStart classFile x code maxLocals ret World_1 tables_1 room_1 Calls_1 rest_1 Pre_1 launch0 p0 e0 about ⟨0, 0⟩ args0 Lib.HandBits.below0 :=
  ⟨lists_1, trivial, launch0.admits_env _ _ _, launch0.least_env, fairChoices_fair.cas, fairChoices_fair.clock, rfl, by decide +kernel, by decide +kernel,
    (Spec.applies_iff rfl).mpr ⟨rfl, rfl, rfl, by decide +kernel, by decide +kernel, by decide +kernel, launch0.hasRoom_least _ room_1 (by decide +kernel) (by decide +kernel) (by decide +kernel) (by decide +kernel) (by decide +kernel) (by decide +kernel), atoms_intro words⟩,
    trivial, (show rest_1_c.before args0 about = true by decide +kernel), su_and (show given_1.before args0 about = true by decide +kernel) narrow_holds⟩
