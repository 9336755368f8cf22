section
-- ===== PART A: goes FIRST, ahead of the names: the tables' words, and 'selects' of the private methods out of them =====
/-- a private method of a class that the tables say can be made, by its rows of tables_1 -/
def lw_okq (q : MethodName × Nat) : Prop := (q.1.cls ≠ "java/lang/invoke/MethodHandle" ∧ q.1.cls ≠ "java/lang/invoke/VarHandle") ∧ Cond.instantiable q.1.cls q.2 ∈ tables_1 ∧ Cond.privateMethod q.1 ∈ tables_1 ∧ Cond.instanceMethod q.1 ∈ tables_1
theorem lw_p0 : lw_okq (⟨"java/lang/Throwable", "fillInStackTrace", "(I)Ljava/lang/Throwable;"⟩, 6) := ⟨⟨by decide +kernel, by decide +kernel⟩, List.mem_of_getElem? (i := 474) (by decide +kernel), List.mem_of_getElem? (i := 472) (by decide +kernel), List.mem_of_getElem? (i := 473) (by decide +kernel)⟩
theorem lw_p1 : lw_okq (⟨"Sequencepoint", "refuseNodesBeyondLimit", "()V"⟩, 7) := ⟨⟨by decide +kernel, by decide +kernel⟩, List.mem_of_getElem? (i := 49) (by decide +kernel), List.mem_of_getElem? (i := 675) (by decide +kernel), List.mem_of_getElem? (i := 676) (by decide +kernel)⟩
theorem lw_p2 : lw_okq (⟨"Sequencepoint", "refuseStatementsBeyondLimit", "()V"⟩, 7) := ⟨⟨by decide +kernel, by decide +kernel⟩, List.mem_of_getElem? (i := 49) (by decide +kernel), List.mem_of_getElem? (i := 902) (by decide +kernel), List.mem_of_getElem? (i := 903) (by decide +kernel)⟩
theorem lw_p3 : lw_okq (⟨"Sequencepoint", "addWhole", "(CLSequencepoint$Node;LSequencepoint$Statement;LSequencepoint$Statement;)I"⟩, 7) := ⟨⟨by decide +kernel, by decide +kernel⟩, List.mem_of_getElem? (i := 49) (by decide +kernel), List.mem_of_getElem? (i := 944) (by decide +kernel), List.mem_of_getElem? (i := 945) (by decide +kernel)⟩
theorem lw_p4 : lw_okq (⟨"Sequencepoint", "refuseProgramWithoutStart", "()V"⟩, 7) := ⟨⟨by decide +kernel, by decide +kernel⟩, List.mem_of_getElem? (i := 49) (by decide +kernel), List.mem_of_getElem? (i := 984) (by decide +kernel), List.mem_of_getElem? (i := 985) (by decide +kernel)⟩
theorem lw_p5 : lw_okq (⟨"Sequencepoint$Machine", "openRow", "(I)V"⟩, 8) := ⟨⟨by decide +kernel, by decide +kernel⟩, List.mem_of_getElem? (i := 265) (by decide +kernel), List.mem_of_getElem? (i := 1010) (by decide +kernel), List.mem_of_getElem? (i := 1011) (by decide +kernel)⟩
theorem lw_p6 : lw_okq (⟨"Sequencepoint$Machine", "bring", "(LSequencepoint$Variable;)V"⟩, 8) := ⟨⟨by decide +kernel, by decide +kernel⟩, List.mem_of_getElem? (i := 265) (by decide +kernel), List.mem_of_getElem? (i := 1015) (by decide +kernel), List.mem_of_getElem? (i := 1016) (by decide +kernel)⟩
theorem lw_p7 : lw_okq (⟨"Sequencepoint$Machine", "slotOf", "(LSequencepoint$Variable;)I"⟩, 8) := ⟨⟨by decide +kernel, by decide +kernel⟩, List.mem_of_getElem? (i := 265) (by decide +kernel), List.mem_of_getElem? (i := 1019) (by decide +kernel), List.mem_of_getElem? (i := 1020) (by decide +kernel)⟩
theorem lw_p8 : lw_okq (⟨"Sequencepoint$Machine", "bodyOf", "(I)LSequencepoint$Statement;"⟩, 8) := ⟨⟨by decide +kernel, by decide +kernel⟩, List.mem_of_getElem? (i := 265) (by decide +kernel), List.mem_of_getElem? (i := 1035) (by decide +kernel), List.mem_of_getElem? (i := 1036) (by decide +kernel)⟩
theorem lw_p9 : lw_okq (⟨"Sequencepoint$Machine", "execute", "(LSequencepoint$Statement;)V"⟩, 8) := ⟨⟨by decide +kernel, by decide +kernel⟩, List.mem_of_getElem? (i := 265) (by decide +kernel), List.mem_of_getElem? (i := 1039) (by decide +kernel), List.mem_of_getElem? (i := 1040) (by decide +kernel)⟩
theorem lw_p10 : lw_okq (⟨"Sequencepoint$Machine", "takeStep", "()Z"⟩, 8) := ⟨⟨by decide +kernel, by decide +kernel⟩, List.mem_of_getElem? (i := 265) (by decide +kernel), List.mem_of_getElem? (i := 1043) (by decide +kernel), List.mem_of_getElem? (i := 1044) (by decide +kernel)⟩
theorem lw_p11 : lw_okq (⟨"Sequencepoint$Machine", "isOver", "()Z"⟩, 8) := ⟨⟨by decide +kernel, by decide +kernel⟩, List.mem_of_getElem? (i := 265) (by decide +kernel), List.mem_of_getElem? (i := 1047) (by decide +kernel), List.mem_of_getElem? (i := 1048) (by decide +kernel)⟩
theorem lw_p12 : lw_okq (⟨"Sequencepoint$Machine", "evaluate", "(LSequencepoint$Node;)J"⟩, 8) := ⟨⟨by decide +kernel, by decide +kernel⟩, List.mem_of_getElem? (i := 265) (by decide +kernel), List.mem_of_getElem? (i := 1051) (by decide +kernel), List.mem_of_getElem? (i := 1052) (by decide +kernel)⟩
theorem lw_p13 : lw_okq (⟨"Sequencepoint$Machine", "isSecondAhead", "()Z"⟩, 8) := ⟨⟨by decide +kernel, by decide +kernel⟩, List.mem_of_getElem? (i := 265) (by decide +kernel), List.mem_of_getElem? (i := 1069) (by decide +kernel), List.mem_of_getElem? (i := 1070) (by decide +kernel)⟩
theorem lw_p14 : lw_okq (⟨"Sequencepoint$Machine", "fail", "(CLSequencepoint$Node;)J"⟩, 8) := ⟨⟨by decide +kernel, by decide +kernel⟩, List.mem_of_getElem? (i := 265) (by decide +kernel), List.mem_of_getElem? (i := 1096) (by decide +kernel), List.mem_of_getElem? (i := 1097) (by decide +kernel)⟩
theorem lw_p15 : lw_okq (⟨"Sequencepoint$Machine", "enter", "(LSequencepoint$Node;JJ)J"⟩, 8) := ⟨⟨by decide +kernel, by decide +kernel⟩, List.mem_of_getElem? (i := 265) (by decide +kernel), List.mem_of_getElem? (i := 1100) (by decide +kernel), List.mem_of_getElem? (i := 1101) (by decide +kernel)⟩
def lw_privs_1 : List (MethodName × Nat) := [(⟨"java/lang/Throwable", "fillInStackTrace", "(I)Ljava/lang/Throwable;"⟩, 6), (⟨"Sequencepoint", "refuseNodesBeyondLimit", "()V"⟩, 7), (⟨"Sequencepoint", "refuseStatementsBeyondLimit", "()V"⟩, 7), (⟨"Sequencepoint", "addWhole", "(CLSequencepoint$Node;LSequencepoint$Statement;LSequencepoint$Statement;)I"⟩, 7), (⟨"Sequencepoint", "refuseProgramWithoutStart", "()V"⟩, 7), (⟨"Sequencepoint$Machine", "openRow", "(I)V"⟩, 8), (⟨"Sequencepoint$Machine", "bring", "(LSequencepoint$Variable;)V"⟩, 8), (⟨"Sequencepoint$Machine", "slotOf", "(LSequencepoint$Variable;)I"⟩, 8), (⟨"Sequencepoint$Machine", "bodyOf", "(I)LSequencepoint$Statement;"⟩, 8), (⟨"Sequencepoint$Machine", "execute", "(LSequencepoint$Statement;)V"⟩, 8), (⟨"Sequencepoint$Machine", "takeStep", "()Z"⟩, 8), (⟨"Sequencepoint$Machine", "isOver", "()Z"⟩, 8), (⟨"Sequencepoint$Machine", "evaluate", "(LSequencepoint$Node;)J"⟩, 8), (⟨"Sequencepoint$Machine", "isSecondAhead", "()Z"⟩, 8), (⟨"Sequencepoint$Machine", "fail", "(CLSequencepoint$Node;)J"⟩, 8), (⟨"Sequencepoint$Machine", "enter", "(LSequencepoint$Node;JJ)J"⟩, 8)]
theorem lw_r1 : ∀ q ∈ lw_privs_1, lw_okq q := List.forall_mem_cons.mpr ⟨lw_p0, List.forall_mem_cons.mpr ⟨lw_p1, List.forall_mem_cons.mpr ⟨lw_p2, List.forall_mem_cons.mpr ⟨lw_p3, List.forall_mem_cons.mpr ⟨lw_p4, List.forall_mem_cons.mpr ⟨lw_p5, List.forall_mem_cons.mpr ⟨lw_p6, List.forall_mem_cons.mpr ⟨lw_p7, List.forall_mem_cons.mpr ⟨lw_p8, List.forall_mem_cons.mpr ⟨lw_p9, List.forall_mem_cons.mpr ⟨lw_p10, List.forall_mem_cons.mpr ⟨lw_p11, List.forall_mem_cons.mpr ⟨lw_p12, List.forall_mem_cons.mpr ⟨lw_p13, List.forall_mem_cons.mpr ⟨lw_p14, List.forall_mem_cons.mpr ⟨lw_p15, fun _ h => absurd h List.not_mem_nil⟩⟩⟩⟩⟩⟩⟩⟩⟩⟩⟩⟩⟩⟩⟩⟩
theorem lw_p16 : lw_okq (⟨"Sequencepoint$Machine", "bringWith", "(LSequencepoint$Variable;J)V"⟩, 8) := ⟨⟨by decide +kernel, by decide +kernel⟩, List.mem_of_getElem? (i := 265) (by decide +kernel), List.mem_of_getElem? (i := 1108) (by decide +kernel), List.mem_of_getElem? (i := 1109) (by decide +kernel)⟩
theorem lw_p17 : lw_okq (⟨"Sequencepoint$Machine", "pointerTo", "(LSequencepoint$Variable;)J"⟩, 8) := ⟨⟨by decide +kernel, by decide +kernel⟩, List.mem_of_getElem? (i := 265) (by decide +kernel), List.mem_of_getElem? (i := 1112) (by decide +kernel), List.mem_of_getElem? (i := 1113) (by decide +kernel)⟩
theorem lw_p18 : lw_okq (⟨"Sequencepoint$Memory", "isCell", "(J)Z"⟩, 11) := ⟨⟨by decide +kernel, by decide +kernel⟩, List.mem_of_getElem? (i := 271) (by decide +kernel), List.mem_of_getElem? (i := 1129) (by decide +kernel), List.mem_of_getElem? (i := 1130) (by decide +kernel)⟩
theorem lw_p19 : lw_okq (⟨"Sequencepoint$Memory", "log", "(IZ)V"⟩, 11) := ⟨⟨by decide +kernel, by decide +kernel⟩, List.mem_of_getElem? (i := 271) (by decide +kernel), List.mem_of_getElem? (i := 1133) (by decide +kernel), List.mem_of_getElem? (i := 1134) (by decide +kernel)⟩
theorem lw_p20 : lw_okq (⟨"Sequencepoint$Machine", "finishAtPlace", "(LSequencepoint$Node;JJI)J"⟩, 8) := ⟨⟨by decide +kernel, by decide +kernel⟩, List.mem_of_getElem? (i := 265) (by decide +kernel), List.mem_of_getElem? (i := 1147) (by decide +kernel), List.mem_of_getElem? (i := 1148) (by decide +kernel)⟩
theorem lw_p21 : lw_okq (⟨"Sequencepoint$Machine", "write", "(LSequencepoint$Node;JJ)J"⟩, 8) := ⟨⟨by decide +kernel, by decide +kernel⟩, List.mem_of_getElem? (i := 265) (by decide +kernel), List.mem_of_getElem? (i := 1163) (by decide +kernel), List.mem_of_getElem? (i := 1164) (by decide +kernel)⟩
theorem lw_p22 : lw_okq (⟨"Sequencepoint$Machine", "read", "(LSequencepoint$Node;J)J"⟩, 8) := ⟨⟨by decide +kernel, by decide +kernel⟩, List.mem_of_getElem? (i := 265) (by decide +kernel), List.mem_of_getElem? (i := 1171) (by decide +kernel), List.mem_of_getElem? (i := 1172) (by decide +kernel)⟩
theorem lw_p23 : lw_okq (⟨"Sequencepoint$Machine", "changed", "(LSequencepoint$Node;JJ)J"⟩, 8) := ⟨⟨by decide +kernel, by decide +kernel⟩, List.mem_of_getElem? (i := 265) (by decide +kernel), List.mem_of_getElem? (i := 1179) (by decide +kernel), List.mem_of_getElem? (i := 1180) (by decide +kernel)⟩
theorem lw_p24 : lw_okq (⟨"Sequencepoint$Machine", "move", "(LSequencepoint$Node;JJ)J"⟩, 8) := ⟨⟨by decide +kernel, by decide +kernel⟩, List.mem_of_getElem? (i := 265) (by decide +kernel), List.mem_of_getElem? (i := 1183) (by decide +kernel), List.mem_of_getElem? (i := 1184) (by decide +kernel)⟩
theorem lw_p25 : lw_okq (⟨"Sequencepoint$Machine", "reckon", "(LSequencepoint$Node;JJ)J"⟩, 8) := ⟨⟨by decide +kernel, by decide +kernel⟩, List.mem_of_getElem? (i := 265) (by decide +kernel), List.mem_of_getElem? (i := 1206) (by decide +kernel), List.mem_of_getElem? (i := 1207) (by decide +kernel)⟩
theorem lw_p26 : lw_okq (⟨"Sequencepoint$Node", "operandType", "()I"⟩, 14) := ⟨⟨by decide +kernel, by decide +kernel⟩, List.mem_of_getElem? (i := 114) (by decide +kernel), List.mem_of_getElem? (i := 1215) (by decide +kernel), List.mem_of_getElem? (i := 1216) (by decide +kernel)⟩
theorem lw_p27 : lw_okq (⟨"Sequencepoint$Node", "isShift", "()Z"⟩, 14) := ⟨⟨by decide +kernel, by decide +kernel⟩, List.mem_of_getElem? (i := 114) (by decide +kernel), List.mem_of_getElem? (i := 1219) (by decide +kernel), List.mem_of_getElem? (i := 1220) (by decide +kernel)⟩
theorem lw_p28 : lw_okq (⟨"Sequencepoint$Machine", "finish", "(LSequencepoint$Node;JJ)J"⟩, 8) := ⟨⟨by decide +kernel, by decide +kernel⟩, List.mem_of_getElem? (i := 265) (by decide +kernel), List.mem_of_getElem? (i := 1232) (by decide +kernel), List.mem_of_getElem? (i := 1233) (by decide +kernel)⟩
theorem lw_p29 : lw_okq (⟨"Sequencepoint$Machine", "finishName", "(LSequencepoint$Node;J)J"⟩, 8) := ⟨⟨by decide +kernel, by decide +kernel⟩, List.mem_of_getElem? (i := 265) (by decide +kernel), List.mem_of_getElem? (i := 1236) (by decide +kernel), List.mem_of_getElem? (i := 1237) (by decide +kernel)⟩
theorem lw_p30 : lw_okq (⟨"Sequencepoint$Machine", "finishBinary", "(LSequencepoint$Node;JJ)J"⟩, 8) := ⟨⟨by decide +kernel, by decide +kernel⟩, List.mem_of_getElem? (i := 265) (by decide +kernel), List.mem_of_getElem? (i := 1241) (by decide +kernel), List.mem_of_getElem? (i := 1242) (by decide +kernel)⟩
theorem lw_p31 : lw_okq (⟨"Sequencepoint$Machine", "print", "(J)V"⟩, 8) := ⟨⟨by decide +kernel, by decide +kernel⟩, List.mem_of_getElem? (i := 265) (by decide +kernel), List.mem_of_getElem? (i := 1246) (by decide +kernel), List.mem_of_getElem? (i := 1247) (by decide +kernel)⟩
def lw_privs_2 : List (MethodName × Nat) := [(⟨"Sequencepoint$Machine", "bringWith", "(LSequencepoint$Variable;J)V"⟩, 8), (⟨"Sequencepoint$Machine", "pointerTo", "(LSequencepoint$Variable;)J"⟩, 8), (⟨"Sequencepoint$Memory", "isCell", "(J)Z"⟩, 11), (⟨"Sequencepoint$Memory", "log", "(IZ)V"⟩, 11), (⟨"Sequencepoint$Machine", "finishAtPlace", "(LSequencepoint$Node;JJI)J"⟩, 8), (⟨"Sequencepoint$Machine", "write", "(LSequencepoint$Node;JJ)J"⟩, 8), (⟨"Sequencepoint$Machine", "read", "(LSequencepoint$Node;J)J"⟩, 8), (⟨"Sequencepoint$Machine", "changed", "(LSequencepoint$Node;JJ)J"⟩, 8), (⟨"Sequencepoint$Machine", "move", "(LSequencepoint$Node;JJ)J"⟩, 8), (⟨"Sequencepoint$Machine", "reckon", "(LSequencepoint$Node;JJ)J"⟩, 8), (⟨"Sequencepoint$Node", "operandType", "()I"⟩, 14), (⟨"Sequencepoint$Node", "isShift", "()Z"⟩, 14), (⟨"Sequencepoint$Machine", "finish", "(LSequencepoint$Node;JJ)J"⟩, 8), (⟨"Sequencepoint$Machine", "finishName", "(LSequencepoint$Node;J)J"⟩, 8), (⟨"Sequencepoint$Machine", "finishBinary", "(LSequencepoint$Node;JJ)J"⟩, 8), (⟨"Sequencepoint$Machine", "print", "(J)V"⟩, 8)]
theorem lw_r2 : ∀ q ∈ lw_privs_2, lw_okq q := List.forall_mem_cons.mpr ⟨lw_p16, List.forall_mem_cons.mpr ⟨lw_p17, List.forall_mem_cons.mpr ⟨lw_p18, List.forall_mem_cons.mpr ⟨lw_p19, List.forall_mem_cons.mpr ⟨lw_p20, List.forall_mem_cons.mpr ⟨lw_p21, List.forall_mem_cons.mpr ⟨lw_p22, List.forall_mem_cons.mpr ⟨lw_p23, List.forall_mem_cons.mpr ⟨lw_p24, List.forall_mem_cons.mpr ⟨lw_p25, List.forall_mem_cons.mpr ⟨lw_p26, List.forall_mem_cons.mpr ⟨lw_p27, List.forall_mem_cons.mpr ⟨lw_p28, List.forall_mem_cons.mpr ⟨lw_p29, List.forall_mem_cons.mpr ⟨lw_p30, List.forall_mem_cons.mpr ⟨lw_p31, fun _ h => absurd h List.not_mem_nil⟩⟩⟩⟩⟩⟩⟩⟩⟩⟩⟩⟩⟩⟩⟩⟩
theorem lw_p32 : lw_okq (⟨"Sequencepoint$Optimiser", "markUsed", "(LSequencepoint$Program;)V"⟩, 9) := ⟨⟨by decide +kernel, by decide +kernel⟩, List.mem_of_getElem? (i := 107) (by decide +kernel), List.mem_of_getElem? (i := 1270) (by decide +kernel), List.mem_of_getElem? (i := 1271) (by decide +kernel)⟩
theorem lw_p33 : lw_okq (⟨"Sequencepoint$Optimiser", "useStatement", "(LSequencepoint$Statement;)V"⟩, 9) := ⟨⟨by decide +kernel, by decide +kernel⟩, List.mem_of_getElem? (i := 107) (by decide +kernel), List.mem_of_getElem? (i := 1274) (by decide +kernel), List.mem_of_getElem? (i := 1275) (by decide +kernel)⟩
theorem lw_p34 : lw_okq (⟨"Sequencepoint$Optimiser", "use", "(LSequencepoint$Node;)V"⟩, 9) := ⟨⟨by decide +kernel, by decide +kernel⟩, List.mem_of_getElem? (i := 107) (by decide +kernel), List.mem_of_getElem? (i := 1279) (by decide +kernel), List.mem_of_getElem? (i := 1280) (by decide +kernel)⟩
theorem lw_p35 : lw_okq (⟨"Sequencepoint$Optimiser", "copyOf", "(LSequencepoint$Node;LSequencepoint$Node;)LSequencepoint$Node;"⟩, 9) := ⟨⟨by decide +kernel, by decide +kernel⟩, List.mem_of_getElem? (i := 107) (by decide +kernel), List.mem_of_getElem? (i := 1284) (by decide +kernel), List.mem_of_getElem? (i := 1285) (by decide +kernel)⟩
theorem lw_p36 : lw_okq (⟨"Sequencepoint$Optimiser", "folded", "(LSequencepoint$Node;)LSequencepoint$Node;"⟩, 9) := ⟨⟨by decide +kernel, by decide +kernel⟩, List.mem_of_getElem? (i := 107) (by decide +kernel), List.mem_of_getElem? (i := 1292) (by decide +kernel), List.mem_of_getElem? (i := 1293) (by decide +kernel)⟩
theorem lw_p37 : lw_okq (⟨"Sequencepoint$Optimiser", "reduce", "(LSequencepoint$Node;)LSequencepoint$Node;"⟩, 9) := ⟨⟨by decide +kernel, by decide +kernel⟩, List.mem_of_getElem? (i := 107) (by decide +kernel), List.mem_of_getElem? (i := 1297) (by decide +kernel), List.mem_of_getElem? (i := 1298) (by decide +kernel)⟩
theorem lw_p38 : lw_okq (⟨"Sequencepoint$Optimiser", "take", "(LSequencepoint$Node;LSequencepoint$Node;)LSequencepoint$Node;"⟩, 9) := ⟨⟨by decide +kernel, by decide +kernel⟩, List.mem_of_getElem? (i := 107) (by decide +kernel), List.mem_of_getElem? (i := 1304) (by decide +kernel), List.mem_of_getElem? (i := 1305) (by decide +kernel)⟩
theorem lw_p39 : lw_okq (⟨"Sequencepoint$Optimiser", "tell", "(LSequencepoint$Node;J)LSequencepoint$Node;"⟩, 9) := ⟨⟨by decide +kernel, by decide +kernel⟩, List.mem_of_getElem? (i := 107) (by decide +kernel), List.mem_of_getElem? (i := 1310) (by decide +kernel), List.mem_of_getElem? (i := 1311) (by decide +kernel)⟩
theorem lw_p40 : lw_okq (⟨"Sequencepoint$Optimiser", "copyOfStatement", "(LSequencepoint$Statement;LSequencepoint$Statement;)LSequencepoint$Statement;"⟩, 9) := ⟨⟨by decide +kernel, by decide +kernel⟩, List.mem_of_getElem? (i := 107) (by decide +kernel), List.mem_of_getElem? (i := 1318) (by decide +kernel), List.mem_of_getElem? (i := 1319) (by decide +kernel)⟩
theorem lw_p41 : lw_okq (⟨"Sequencepoint$Optimiser", "shortened", "(LSequencepoint$Statement;)LSequencepoint$Statement;"⟩, 9) := ⟨⟨by decide +kernel, by decide +kernel⟩, List.mem_of_getElem? (i := 107) (by decide +kernel), List.mem_of_getElem? (i := 1322) (by decide +kernel), List.mem_of_getElem? (i := 1323) (by decide +kernel)⟩
theorem lw_p42 : lw_okq (⟨"Sequencepoint$Optimiser", "reduceStatement", "(LSequencepoint$Statement;)LSequencepoint$Statement;"⟩, 9) := ⟨⟨by decide +kernel, by decide +kernel⟩, List.mem_of_getElem? (i := 107) (by decide +kernel), List.mem_of_getElem? (i := 1327) (by decide +kernel), List.mem_of_getElem? (i := 1328) (by decide +kernel)⟩
theorem lw_p43 : lw_okq (⟨"Sequencepoint$Optimiser", "shorten", "(LSequencepoint$Statement;)LSequencepoint$Statement;"⟩, 9) := ⟨⟨by decide +kernel, by decide +kernel⟩, List.mem_of_getElem? (i := 107) (by decide +kernel), List.mem_of_getElem? (i := 1331) (by decide +kernel), List.mem_of_getElem? (i := 1332) (by decide +kernel)⟩
theorem lw_p44 : lw_okq (⟨"Sequencepoint", "refuseRunWithMeaning", "()V"⟩, 7) := ⟨⟨by decide +kernel, by decide +kernel⟩, List.mem_of_getElem? (i := 49) (by decide +kernel), List.mem_of_getElem? (i := 1344) (by decide +kernel), List.mem_of_getElem? (i := 1345) (by decide +kernel)⟩
theorem lw_p45 : lw_okq (⟨"Sequencepoint", "gatherOutcomes", "()I"⟩, 7) := ⟨⟨by decide +kernel, by decide +kernel⟩, List.mem_of_getElem? (i := 49) (by decide +kernel), List.mem_of_getElem? (i := 1386) (by decide +kernel), List.mem_of_getElem? (i := 1387) (by decide +kernel)⟩
theorem lw_p46 : lw_okq (⟨"Sequencepoint", "isAmongFirst", "(ILSequencepoint$Outcome;)Z"⟩, 7) := ⟨⟨by decide +kernel, by decide +kernel⟩, List.mem_of_getElem? (i := 49) (by decide +kernel), List.mem_of_getElem? (i := 1394) (by decide +kernel), List.mem_of_getElem? (i := 1395) (by decide +kernel)⟩
theorem lw_p47 : lw_okq (⟨"SequencepointModel", "isThrown", "(ZI)Z"⟩, 18) := ⟨⟨by decide +kernel, by decide +kernel⟩, List.mem_of_getElem? (i := 1438) (by decide +kernel), List.mem_of_getElem? (i := 1532) (by decide +kernel), List.mem_of_getElem? (i := 1533) (by decide +kernel)⟩
def lw_privs_3 : List (MethodName × Nat) := [(⟨"Sequencepoint$Optimiser", "markUsed", "(LSequencepoint$Program;)V"⟩, 9), (⟨"Sequencepoint$Optimiser", "useStatement", "(LSequencepoint$Statement;)V"⟩, 9), (⟨"Sequencepoint$Optimiser", "use", "(LSequencepoint$Node;)V"⟩, 9), (⟨"Sequencepoint$Optimiser", "copyOf", "(LSequencepoint$Node;LSequencepoint$Node;)LSequencepoint$Node;"⟩, 9), (⟨"Sequencepoint$Optimiser", "folded", "(LSequencepoint$Node;)LSequencepoint$Node;"⟩, 9), (⟨"Sequencepoint$Optimiser", "reduce", "(LSequencepoint$Node;)LSequencepoint$Node;"⟩, 9), (⟨"Sequencepoint$Optimiser", "take", "(LSequencepoint$Node;LSequencepoint$Node;)LSequencepoint$Node;"⟩, 9), (⟨"Sequencepoint$Optimiser", "tell", "(LSequencepoint$Node;J)LSequencepoint$Node;"⟩, 9), (⟨"Sequencepoint$Optimiser", "copyOfStatement", "(LSequencepoint$Statement;LSequencepoint$Statement;)LSequencepoint$Statement;"⟩, 9), (⟨"Sequencepoint$Optimiser", "shortened", "(LSequencepoint$Statement;)LSequencepoint$Statement;"⟩, 9), (⟨"Sequencepoint$Optimiser", "reduceStatement", "(LSequencepoint$Statement;)LSequencepoint$Statement;"⟩, 9), (⟨"Sequencepoint$Optimiser", "shorten", "(LSequencepoint$Statement;)LSequencepoint$Statement;"⟩, 9), (⟨"Sequencepoint", "refuseRunWithMeaning", "()V"⟩, 7), (⟨"Sequencepoint", "gatherOutcomes", "()I"⟩, 7), (⟨"Sequencepoint", "isAmongFirst", "(ILSequencepoint$Outcome;)Z"⟩, 7), (⟨"SequencepointModel", "isThrown", "(ZI)Z"⟩, 18)]
theorem lw_r3 : ∀ q ∈ lw_privs_3, lw_okq q := List.forall_mem_cons.mpr ⟨lw_p32, List.forall_mem_cons.mpr ⟨lw_p33, List.forall_mem_cons.mpr ⟨lw_p34, List.forall_mem_cons.mpr ⟨lw_p35, List.forall_mem_cons.mpr ⟨lw_p36, List.forall_mem_cons.mpr ⟨lw_p37, List.forall_mem_cons.mpr ⟨lw_p38, List.forall_mem_cons.mpr ⟨lw_p39, List.forall_mem_cons.mpr ⟨lw_p40, List.forall_mem_cons.mpr ⟨lw_p41, List.forall_mem_cons.mpr ⟨lw_p42, List.forall_mem_cons.mpr ⟨lw_p43, List.forall_mem_cons.mpr ⟨lw_p44, List.forall_mem_cons.mpr ⟨lw_p45, List.forall_mem_cons.mpr ⟨lw_p46, List.forall_mem_cons.mpr ⟨lw_p47, fun _ h => absurd h List.not_mem_nil⟩⟩⟩⟩⟩⟩⟩⟩⟩⟩⟩⟩⟩⟩⟩⟩
theorem lw_p48 : lw_okq (⟨"SequencepointModel", "isNoParameter", "(I)Z"⟩, 18) := ⟨⟨by decide +kernel, by decide +kernel⟩, List.mem_of_getElem? (i := 1438) (by decide +kernel), List.mem_of_getElem? (i := 1540) (by decide +kernel), List.mem_of_getElem? (i := 1541) (by decide +kernel)⟩
theorem lw_p49 : lw_okq (⟨"SequencepointModel", "added", "(LSequencepointModel$Node;)I"⟩, 18) := ⟨⟨by decide +kernel, by decide +kernel⟩, List.mem_of_getElem? (i := 1438) (by decide +kernel), List.mem_of_getElem? (i := 1603) (by decide +kernel), List.mem_of_getElem? (i := 1604) (by decide +kernel)⟩
theorem lw_p50 : lw_okq (⟨"SequencepointModel", "isNoNode", "(I)Z"⟩, 18) := ⟨⟨by decide +kernel, by decide +kernel⟩, List.mem_of_getElem? (i := 1438) (by decide +kernel), List.mem_of_getElem? (i := 1653) (by decide +kernel), List.mem_of_getElem? (i := 1654) (by decide +kernel)⟩
theorem lw_p51 : lw_okq (⟨"SequencepointModel", "areFree", "([LSequencepointModel$Node;)Z"⟩, 18) := ⟨⟨by decide +kernel, by decide +kernel⟩, List.mem_of_getElem? (i := 1438) (by decide +kernel), List.mem_of_getElem? (i := 1662) (by decide +kernel), List.mem_of_getElem? (i := 1663) (by decide +kernel)⟩
theorem lw_p52 : lw_okq (⟨"SequencepointModel", "fitsParameter", "(II)Z"⟩, 18) := ⟨⟨by decide +kernel, by decide +kernel⟩, List.mem_of_getElem? (i := 1438) (by decide +kernel), List.mem_of_getElem? (i := 1697) (by decide +kernel), List.mem_of_getElem? (i := 1698) (by decide +kernel)⟩
theorem lw_p53 : lw_okq (⟨"SequencepointModel", "added", "(LSequencepointModel$Statement;)I"⟩, 18) := ⟨⟨by decide +kernel, by decide +kernel⟩, List.mem_of_getElem? (i := 1438) (by decide +kernel), List.mem_of_getElem? (i := 1747) (by decide +kernel), List.mem_of_getElem? (i := 1748) (by decide +kernel)⟩
theorem lw_p54 : lw_okq (⟨"SequencepointModel", "isNoStatement", "(I)Z"⟩, 18) := ⟨⟨by decide +kernel, by decide +kernel⟩, List.mem_of_getElem? (i := 1438) (by decide +kernel), List.mem_of_getElem? (i := 1759) (by decide +kernel), List.mem_of_getElem? (i := 1760) (by decide +kernel)⟩
theorem lw_p55 : lw_okq (⟨"SequencepointModel", "isNoProgram", "()Z"⟩, 18) := ⟨⟨by decide +kernel, by decide +kernel⟩, List.mem_of_getElem? (i := 1438) (by decide +kernel), List.mem_of_getElem? (i := 1782) (by decide +kernel), List.mem_of_getElem? (i := 1783) (by decide +kernel)⟩
theorem lw_p56 : lw_okq (⟨"SequencepointModel", "runs", "([LSequencepointModel$Statement;I)C"⟩, 18) := ⟨⟨by decide +kernel, by decide +kernel⟩, List.mem_of_getElem? (i := 1438) (by decide +kernel), List.mem_of_getElem? (i := 1786) (by decide +kernel), List.mem_of_getElem? (i := 1787) (by decide +kernel)⟩
theorem lw_p57 : lw_okq (⟨"SequencepointModel", "ran", "([LSequencepointModel$Statement;I)LSequencepointModel$Run;"⟩, 18) := ⟨⟨by decide +kernel, by decide +kernel⟩, List.mem_of_getElem? (i := 1438) (by decide +kernel), List.mem_of_getElem? (i := 1790) (by decide +kernel), List.mem_of_getElem? (i := 1791) (by decide +kernel)⟩
theorem lw_p58 : lw_okq (⟨"SequencepointModel$Run", "comes", "(I)I"⟩, 16) := ⟨⟨by decide +kernel, by decide +kernel⟩, List.mem_of_getElem? (i := 1794) (by decide +kernel), List.mem_of_getElem? (i := 1890) (by decide +kernel), List.mem_of_getElem? (i := 1891) (by decide +kernel)⟩
theorem lw_p59 : lw_okq (⟨"java/util/ArrayList", "add", "(Ljava/lang/Object;[Ljava/lang/Object;I)V"⟩, 3) := ⟨⟨by decide +kernel, by decide +kernel⟩, List.mem_of_getElem? (i := 1800) (by decide +kernel), List.mem_of_getElem? (i := 1918) (by decide +kernel), List.mem_of_getElem? (i := 1919) (by decide +kernel)⟩
theorem lw_p60 : lw_okq (⟨"java/util/ArrayList", "grow", "()[Ljava/lang/Object;"⟩, 3) := ⟨⟨by decide +kernel, by decide +kernel⟩, List.mem_of_getElem? (i := 1800) (by decide +kernel), List.mem_of_getElem? (i := 1922) (by decide +kernel), List.mem_of_getElem? (i := 1923) (by decide +kernel)⟩
theorem lw_p61 : lw_okq (⟨"java/util/ArrayList", "grow", "(I)[Ljava/lang/Object;"⟩, 3) := ⟨⟨by decide +kernel, by decide +kernel⟩, List.mem_of_getElem? (i := 1800) (by decide +kernel), List.mem_of_getElem? (i := 1926) (by decide +kernel), List.mem_of_getElem? (i := 1927) (by decide +kernel)⟩
theorem lw_p62 : lw_okq (⟨"SequencepointModel$Run", "does", "(LSequencepointModel$Statement;)Z"⟩, 16) := ⟨⟨by decide +kernel, by decide +kernel⟩, List.mem_of_getElem? (i := 1794) (by decide +kernel), List.mem_of_getElem? (i := 2011) (by decide +kernel), List.mem_of_getElem? (i := 2012) (by decide +kernel)⟩
theorem lw_p63 : lw_okq (⟨"SequencepointModel$Run", "steps", "()V"⟩, 16) := ⟨⟨by decide +kernel, by decide +kernel⟩, List.mem_of_getElem? (i := 1794) (by decide +kernel), List.mem_of_getElem? (i := 2015) (by decide +kernel), List.mem_of_getElem? (i := 2016) (by decide +kernel)⟩
def lw_privs_4 : List (MethodName × Nat) := [(⟨"SequencepointModel", "isNoParameter", "(I)Z"⟩, 18), (⟨"SequencepointModel", "added", "(LSequencepointModel$Node;)I"⟩, 18), (⟨"SequencepointModel", "isNoNode", "(I)Z"⟩, 18), (⟨"SequencepointModel", "areFree", "([LSequencepointModel$Node;)Z"⟩, 18), (⟨"SequencepointModel", "fitsParameter", "(II)Z"⟩, 18), (⟨"SequencepointModel", "added", "(LSequencepointModel$Statement;)I"⟩, 18), (⟨"SequencepointModel", "isNoStatement", "(I)Z"⟩, 18), (⟨"SequencepointModel", "isNoProgram", "()Z"⟩, 18), (⟨"SequencepointModel", "runs", "([LSequencepointModel$Statement;I)C"⟩, 18), (⟨"SequencepointModel", "ran", "([LSequencepointModel$Statement;I)LSequencepointModel$Run;"⟩, 18), (⟨"SequencepointModel$Run", "comes", "(I)I"⟩, 16), (⟨"java/util/ArrayList", "add", "(Ljava/lang/Object;[Ljava/lang/Object;I)V"⟩, 3), (⟨"java/util/ArrayList", "grow", "()[Ljava/lang/Object;"⟩, 3), (⟨"java/util/ArrayList", "grow", "(I)[Ljava/lang/Object;"⟩, 3), (⟨"SequencepointModel$Run", "does", "(LSequencepointModel$Statement;)Z"⟩, 16), (⟨"SequencepointModel$Run", "steps", "()V"⟩, 16)]
theorem lw_r4 : ∀ q ∈ lw_privs_4, lw_okq q := List.forall_mem_cons.mpr ⟨lw_p48, List.forall_mem_cons.mpr ⟨lw_p49, List.forall_mem_cons.mpr ⟨lw_p50, List.forall_mem_cons.mpr ⟨lw_p51, List.forall_mem_cons.mpr ⟨lw_p52, List.forall_mem_cons.mpr ⟨lw_p53, List.forall_mem_cons.mpr ⟨lw_p54, List.forall_mem_cons.mpr ⟨lw_p55, List.forall_mem_cons.mpr ⟨lw_p56, List.forall_mem_cons.mpr ⟨lw_p57, List.forall_mem_cons.mpr ⟨lw_p58, List.forall_mem_cons.mpr ⟨lw_p59, List.forall_mem_cons.mpr ⟨lw_p60, List.forall_mem_cons.mpr ⟨lw_p61, List.forall_mem_cons.mpr ⟨lw_p62, List.forall_mem_cons.mpr ⟨lw_p63, fun _ h => absurd h List.not_mem_nil⟩⟩⟩⟩⟩⟩⟩⟩⟩⟩⟩⟩⟩⟩⟩⟩
theorem lw_p64 : lw_okq (⟨"SequencepointModel$Run", "full", "(LSequencepointModel$Node;)J"⟩, 16) := ⟨⟨by decide +kernel, by decide +kernel⟩, List.mem_of_getElem? (i := 1794) (by decide +kernel), List.mem_of_getElem? (i := 2050) (by decide +kernel), List.mem_of_getElem? (i := 2051) (by decide +kernel)⟩
theorem lw_p65 : lw_okq (⟨"SequencepointModel$Run", "value", "(LSequencepointModel$Node;)J"⟩, 16) := ⟨⟨by decide +kernel, by decide +kernel⟩, List.mem_of_getElem? (i := 1794) (by decide +kernel), List.mem_of_getElem? (i := 2054) (by decide +kernel), List.mem_of_getElem? (i := 2055) (by decide +kernel)⟩
theorem lw_p66 : lw_okq (⟨"SequencepointModel$Run", "lifeOf", "(I)J"⟩, 16) := ⟨⟨by decide +kernel, by decide +kernel⟩, List.mem_of_getElem? (i := 1794) (by decide +kernel), List.mem_of_getElem? (i := 2058) (by decide +kernel), List.mem_of_getElem? (i := 2059) (by decide +kernel)⟩
theorem lw_p67 : lw_okq (⟨"SequencepointModel$Run", "reads", "(JLSequencepointModel$Node;)J"⟩, 16) := ⟨⟨by decide +kernel, by decide +kernel⟩, List.mem_of_getElem? (i := 1794) (by decide +kernel), List.mem_of_getElem? (i := 2075) (by decide +kernel), List.mem_of_getElem? (i := 2076) (by decide +kernel)⟩
theorem lw_p68 : lw_okq (⟨"SequencepointModel$Run", "reached", "(JLSequencepointModel$Node;)LSequencepointModel$Thing;"⟩, 16) := ⟨⟨by decide +kernel, by decide +kernel⟩, List.mem_of_getElem? (i := 1794) (by decide +kernel), List.mem_of_getElem? (i := 2079) (by decide +kernel), List.mem_of_getElem? (i := 2080) (by decide +kernel)⟩
theorem lw_p69 : lw_okq (⟨"SequencepointModel$Run", "thing", "(J)LSequencepointModel$Thing;"⟩, 16) := ⟨⟨by decide +kernel, by decide +kernel⟩, List.mem_of_getElem? (i := 1794) (by decide +kernel), List.mem_of_getElem? (i := 2083) (by decide +kernel), List.mem_of_getElem? (i := 2084) (by decide +kernel)⟩
theorem lw_p70 : lw_okq (⟨"SequencepointModel$Run", "none", "(CLSequencepointModel$Node;)LSequencepointModel$End;"⟩, 16) := ⟨⟨by decide +kernel, by decide +kernel⟩, List.mem_of_getElem? (i := 1794) (by decide +kernel), List.mem_of_getElem? (i := 2087) (by decide +kernel), List.mem_of_getElem? (i := 2088) (by decide +kernel)⟩
theorem lw_p71 : lw_okq (⟨"SequencepointModel$Run", "notes", "(IZ)V"⟩, 16) := ⟨⟨by decide +kernel, by decide +kernel⟩, List.mem_of_getElem? (i := 1794) (by decide +kernel), List.mem_of_getElem? (i := 2097) (by decide +kernel), List.mem_of_getElem? (i := 2098) (by decide +kernel)⟩
theorem lw_p72 : lw_okq (⟨"SequencepointModel$Run", "holds", "(LSequencepointModel$Node;)Z"⟩, 16) := ⟨⟨by decide +kernel, by decide +kernel⟩, List.mem_of_getElem? (i := 1794) (by decide +kernel), List.mem_of_getElem? (i := 2101) (by decide +kernel), List.mem_of_getElem? (i := 2102) (by decide +kernel)⟩
theorem lw_p73 : lw_okq (⟨"SequencepointModel$Run", "called", "(LSequencepointModel$Node;)J"⟩, 16) := ⟨⟨by decide +kernel, by decide +kernel⟩, List.mem_of_getElem? (i := 1794) (by decide +kernel), List.mem_of_getElem? (i := 2109) (by decide +kernel), List.mem_of_getElem? (i := 2110) (by decide +kernel)⟩
theorem lw_p74 : lw_okq (⟨"SequencepointModel$Run", "two", "(LSequencepointModel$Node;Z)[J"⟩, 16) := ⟨⟨by decide +kernel, by decide +kernel⟩, List.mem_of_getElem? (i := 1794) (by decide +kernel), List.mem_of_getElem? (i := 2113) (by decide +kernel), List.mem_of_getElem? (i := 2114) (by decide +kernel)⟩
theorem lw_p75 : lw_okq (⟨"SequencepointModel$Run", "part", "(LSequencepointModel$Node;Z)J"⟩, 16) := ⟨⟨by decide +kernel, by decide +kernel⟩, List.mem_of_getElem? (i := 1794) (by decide +kernel), List.mem_of_getElem? (i := 2122) (by decide +kernel), List.mem_of_getElem? (i := 2123) (by decide +kernel)⟩
theorem lw_p76 : lw_okq (⟨"SequencepointModel$Run", "place", "(LSequencepointModel$Node;)J"⟩, 16) := ⟨⟨by decide +kernel, by decide +kernel⟩, List.mem_of_getElem? (i := 1794) (by decide +kernel), List.mem_of_getElem? (i := 2126) (by decide +kernel), List.mem_of_getElem? (i := 2127) (by decide +kernel)⟩
theorem lw_p77 : lw_okq (⟨"SequencepointModel$Run", "clash", "(IIII)Z"⟩, 16) := ⟨⟨by decide +kernel, by decide +kernel⟩, List.mem_of_getElem? (i := 1794) (by decide +kernel), List.mem_of_getElem? (i := 2130) (by decide +kernel), List.mem_of_getElem? (i := 2131) (by decide +kernel)⟩
theorem lw_p78 : lw_okq (⟨"SequencepointModel$Run", "assigned", "(LSequencepointModel$Node;)J"⟩, 16) := ⟨⟨by decide +kernel, by decide +kernel⟩, List.mem_of_getElem? (i := 1794) (by decide +kernel), List.mem_of_getElem? (i := 2216) (by decide +kernel), List.mem_of_getElem? (i := 2217) (by decide +kernel)⟩
theorem lw_p79 : lw_okq (⟨"SequencepointModel$Run", "isWritten", "(IJ)Z"⟩, 16) := ⟨⟨by decide +kernel, by decide +kernel⟩, List.mem_of_getElem? (i := 1794) (by decide +kernel), List.mem_of_getElem? (i := 2220) (by decide +kernel), List.mem_of_getElem? (i := 2221) (by decide +kernel)⟩
def lw_privs_5 : List (MethodName × Nat) := [(⟨"SequencepointModel$Run", "full", "(LSequencepointModel$Node;)J"⟩, 16), (⟨"SequencepointModel$Run", "value", "(LSequencepointModel$Node;)J"⟩, 16), (⟨"SequencepointModel$Run", "lifeOf", "(I)J"⟩, 16), (⟨"SequencepointModel$Run", "reads", "(JLSequencepointModel$Node;)J"⟩, 16), (⟨"SequencepointModel$Run", "reached", "(JLSequencepointModel$Node;)LSequencepointModel$Thing;"⟩, 16), (⟨"SequencepointModel$Run", "thing", "(J)LSequencepointModel$Thing;"⟩, 16), (⟨"SequencepointModel$Run", "none", "(CLSequencepointModel$Node;)LSequencepointModel$End;"⟩, 16), (⟨"SequencepointModel$Run", "notes", "(IZ)V"⟩, 16), (⟨"SequencepointModel$Run", "holds", "(LSequencepointModel$Node;)Z"⟩, 16), (⟨"SequencepointModel$Run", "called", "(LSequencepointModel$Node;)J"⟩, 16), (⟨"SequencepointModel$Run", "two", "(LSequencepointModel$Node;Z)[J"⟩, 16), (⟨"SequencepointModel$Run", "part", "(LSequencepointModel$Node;Z)J"⟩, 16), (⟨"SequencepointModel$Run", "place", "(LSequencepointModel$Node;)J"⟩, 16), (⟨"SequencepointModel$Run", "clash", "(IIII)Z"⟩, 16), (⟨"SequencepointModel$Run", "assigned", "(LSequencepointModel$Node;)J"⟩, 16), (⟨"SequencepointModel$Run", "isWritten", "(IJ)Z"⟩, 16)]
theorem lw_r5 : ∀ q ∈ lw_privs_5, lw_okq q := List.forall_mem_cons.mpr ⟨lw_p64, List.forall_mem_cons.mpr ⟨lw_p65, List.forall_mem_cons.mpr ⟨lw_p66, List.forall_mem_cons.mpr ⟨lw_p67, List.forall_mem_cons.mpr ⟨lw_p68, List.forall_mem_cons.mpr ⟨lw_p69, List.forall_mem_cons.mpr ⟨lw_p70, List.forall_mem_cons.mpr ⟨lw_p71, List.forall_mem_cons.mpr ⟨lw_p72, List.forall_mem_cons.mpr ⟨lw_p73, List.forall_mem_cons.mpr ⟨lw_p74, List.forall_mem_cons.mpr ⟨lw_p75, List.forall_mem_cons.mpr ⟨lw_p76, List.forall_mem_cons.mpr ⟨lw_p77, List.forall_mem_cons.mpr ⟨lw_p78, List.forall_mem_cons.mpr ⟨lw_p79, fun _ h => absurd h List.not_mem_nil⟩⟩⟩⟩⟩⟩⟩⟩⟩⟩⟩⟩⟩⟩⟩⟩
theorem lw_p80 : lw_okq (⟨"SequencepointModel$Run", "moved", "(JJLSequencepointModel$Node;)J"⟩, 16) := ⟨⟨by decide +kernel, by decide +kernel⟩, List.mem_of_getElem? (i := 1794) (by decide +kernel), List.mem_of_getElem? (i := 2225) (by decide +kernel), List.mem_of_getElem? (i := 2226) (by decide +kernel)⟩
theorem lw_p81 : lw_okq (⟨"SequencepointModel", "reckon", "(CIJJ)J"⟩, 18) := ⟨⟨by decide +kernel, by decide +kernel⟩, List.mem_of_getElem? (i := 1438) (by decide +kernel), List.mem_of_getElem? (i := 2230) (by decide +kernel), List.mem_of_getElem? (i := 2231) (by decide +kernel)⟩
theorem lw_p82 : lw_okq (⟨"SequencepointModel", "fits", "(IJ)J"⟩, 18) := ⟨⟨by decide +kernel, by decide +kernel⟩, List.mem_of_getElem? (i := 1438) (by decide +kernel), List.mem_of_getElem? (i := 2234) (by decide +kernel), List.mem_of_getElem? (i := 2235) (by decide +kernel)⟩
theorem lw_p83 : lw_okq (⟨"SequencepointModel$Run", "known", "(LSequencepointModel$Node;J)J"⟩, 16) := ⟨⟨by decide +kernel, by decide +kernel⟩, List.mem_of_getElem? (i := 1794) (by decide +kernel), List.mem_of_getElem? (i := 2239) (by decide +kernel), List.mem_of_getElem? (i := 2240) (by decide +kernel)⟩
theorem lw_p84 : lw_okq (⟨"SequencepointModel$Run", "writes", "(JJLSequencepointModel$Node;)V"⟩, 16) := ⟨⟨by decide +kernel, by decide +kernel⟩, List.mem_of_getElem? (i := 1794) (by decide +kernel), List.mem_of_getElem? (i := 2243) (by decide +kernel), List.mem_of_getElem? (i := 2244) (by decide +kernel)⟩
theorem lw_p85 : lw_okq (⟨"SequencepointModel$Run", "one", "(LSequencepointModel$Node;)J"⟩, 16) := ⟨⟨by decide +kernel, by decide +kernel⟩, List.mem_of_getElem? (i := 1794) (by decide +kernel), List.mem_of_getElem? (i := 2247) (by decide +kernel), List.mem_of_getElem? (i := 2248) (by decide +kernel)⟩
theorem lw_p86 : lw_okq (⟨"SequencepointModel$Run", "counted", "(LSequencepointModel$Node;)J"⟩, 16) := ⟨⟨by decide +kernel, by decide +kernel⟩, List.mem_of_getElem? (i := 1794) (by decide +kernel), List.mem_of_getElem? (i := 2253) (by decide +kernel), List.mem_of_getElem? (i := 2254) (by decide +kernel)⟩
theorem lw_p87 : lw_okq (⟨"SequencepointModel", "gives", "(LSequencepointModel$Node;JJ)J"⟩, 18) := ⟨⟨by decide +kernel, by decide +kernel⟩, List.mem_of_getElem? (i := 1438) (by decide +kernel), List.mem_of_getElem? (i := 2258) (by decide +kernel), List.mem_of_getElem? (i := 2259) (by decide +kernel)⟩
theorem lw_p88 : lw_okq (⟨"SequencepointModel$Run", "both", "(LSequencepointModel$Node;)J"⟩, 16) := ⟨⟨by decide +kernel, by decide +kernel⟩, List.mem_of_getElem? (i := 1794) (by decide +kernel), List.mem_of_getElem? (i := 2264) (by decide +kernel), List.mem_of_getElem? (i := 2265) (by decide +kernel)⟩
theorem lw_p89 : lw_okq (⟨"SequencepointModel$Run", "prints", "(J)V"⟩, 16) := ⟨⟨by decide +kernel, by decide +kernel⟩, List.mem_of_getElem? (i := 1794) (by decide +kernel), List.mem_of_getElem? (i := 2268) (by decide +kernel), List.mem_of_getElem? (i := 2269) (by decide +kernel)⟩
theorem lw_p90 : lw_okq (⟨"SequencepointModel$Run", "prints", "(C)V"⟩, 16) := ⟨⟨by decide +kernel, by decide +kernel⟩, List.mem_of_getElem? (i := 1794) (by decide +kernel), List.mem_of_getElem? (i := 2397) (by decide +kernel), List.mem_of_getElem? (i := 2398) (by decide +kernel)⟩
theorem lw_p91 : lw_okq (⟨"SequencepointModel$Run", "repeats", "(LSequencepointModel$Statement;)Z"⟩, 16) := ⟨⟨by decide +kernel, by decide +kernel⟩, List.mem_of_getElem? (i := 1794) (by decide +kernel), List.mem_of_getElem? (i := 2401) (by decide +kernel), List.mem_of_getElem? (i := 2402) (by decide +kernel)⟩
theorem lw_p92 : lw_okq (⟨"SequencepointModel", "optimise", "()[LSequencepointModel$Statement;"⟩, 18) := ⟨⟨by decide +kernel, by decide +kernel⟩, List.mem_of_getElem? (i := 1438) (by decide +kernel), List.mem_of_getElem? (i := 2409) (by decide +kernel), List.mem_of_getElem? (i := 2410) (by decide +kernel)⟩
theorem lw_p93 : lw_okq (⟨"SequencepointModel", "optimised", "(LSequencepointModel$Statement;)LSequencepointModel$Statement;"⟩, 18) := ⟨⟨by decide +kernel, by decide +kernel⟩, List.mem_of_getElem? (i := 1438) (by decide +kernel), List.mem_of_getElem? (i := 2413) (by decide +kernel), List.mem_of_getElem? (i := 2414) (by decide +kernel)⟩
theorem lw_p94 : lw_okq (⟨"SequencepointModel", "optimised", "(LSequencepointModel$Node;)LSequencepointModel$Node;"⟩, 18) := ⟨⟨by decide +kernel, by decide +kernel⟩, List.mem_of_getElem? (i := 1438) (by decide +kernel), List.mem_of_getElem? (i := 2417) (by decide +kernel), List.mem_of_getElem? (i := 2418) (by decide +kernel)⟩
theorem lw_p95 : lw_okq (⟨"SequencepointModel", "chosen", "(LSequencepointModel$Node;LSequencepointModel$Node;)LSequencepointModel$Node;"⟩, 18) := ⟨⟨by decide +kernel, by decide +kernel⟩, List.mem_of_getElem? (i := 1438) (by decide +kernel), List.mem_of_getElem? (i := 2424) (by decide +kernel), List.mem_of_getElem? (i := 2425) (by decide +kernel)⟩
def lw_privs_6 : List (MethodName × Nat) := [(⟨"SequencepointModel$Run", "moved", "(JJLSequencepointModel$Node;)J"⟩, 16), (⟨"SequencepointModel", "reckon", "(CIJJ)J"⟩, 18), (⟨"SequencepointModel", "fits", "(IJ)J"⟩, 18), (⟨"SequencepointModel$Run", "known", "(LSequencepointModel$Node;J)J"⟩, 16), (⟨"SequencepointModel$Run", "writes", "(JJLSequencepointModel$Node;)V"⟩, 16), (⟨"SequencepointModel$Run", "one", "(LSequencepointModel$Node;)J"⟩, 16), (⟨"SequencepointModel$Run", "counted", "(LSequencepointModel$Node;)J"⟩, 16), (⟨"SequencepointModel", "gives", "(LSequencepointModel$Node;JJ)J"⟩, 18), (⟨"SequencepointModel$Run", "both", "(LSequencepointModel$Node;)J"⟩, 16), (⟨"SequencepointModel$Run", "prints", "(J)V"⟩, 16), (⟨"SequencepointModel$Run", "prints", "(C)V"⟩, 16), (⟨"SequencepointModel$Run", "repeats", "(LSequencepointModel$Statement;)Z"⟩, 16), (⟨"SequencepointModel", "optimise", "()[LSequencepointModel$Statement;"⟩, 18), (⟨"SequencepointModel", "optimised", "(LSequencepointModel$Statement;)LSequencepointModel$Statement;"⟩, 18), (⟨"SequencepointModel", "optimised", "(LSequencepointModel$Node;)LSequencepointModel$Node;"⟩, 18), (⟨"SequencepointModel", "chosen", "(LSequencepointModel$Node;LSequencepointModel$Node;)LSequencepointModel$Node;"⟩, 18)]
theorem lw_r6 : ∀ q ∈ lw_privs_6, lw_okq q := List.forall_mem_cons.mpr ⟨lw_p80, List.forall_mem_cons.mpr ⟨lw_p81, List.forall_mem_cons.mpr ⟨lw_p82, List.forall_mem_cons.mpr ⟨lw_p83, List.forall_mem_cons.mpr ⟨lw_p84, List.forall_mem_cons.mpr ⟨lw_p85, List.forall_mem_cons.mpr ⟨lw_p86, List.forall_mem_cons.mpr ⟨lw_p87, List.forall_mem_cons.mpr ⟨lw_p88, List.forall_mem_cons.mpr ⟨lw_p89, List.forall_mem_cons.mpr ⟨lw_p90, List.forall_mem_cons.mpr ⟨lw_p91, List.forall_mem_cons.mpr ⟨lw_p92, List.forall_mem_cons.mpr ⟨lw_p93, List.forall_mem_cons.mpr ⟨lw_p94, List.forall_mem_cons.mpr ⟨lw_p95, fun _ h => absurd h List.not_mem_nil⟩⟩⟩⟩⟩⟩⟩⟩⟩⟩⟩⟩⟩⟩⟩⟩
theorem lw_p96 : lw_okq (⟨"SequencepointModel", "told", "(LSequencepointModel$Node;IJ)LSequencepointModel$Node;"⟩, 18) := ⟨⟨by decide +kernel, by decide +kernel⟩, List.mem_of_getElem? (i := 1438) (by decide +kernel), List.mem_of_getElem? (i := 2428) (by decide +kernel), List.mem_of_getElem? (i := 2429) (by decide +kernel)⟩
theorem lw_p97 : lw_okq (⟨"SequencepointModel", "folded", "(LSequencepointModel$Node;)LSequencepointModel$Node;"⟩, 18) := ⟨⟨by decide +kernel, by decide +kernel⟩, List.mem_of_getElem? (i := 1438) (by decide +kernel), List.mem_of_getElem? (i := 2432) (by decide +kernel), List.mem_of_getElem? (i := 2433) (by decide +kernel)⟩
theorem lw_p98 : lw_okq (⟨"SequencepointModel", "all", "([LSequencepointModel$Statement;)[LSequencepointModel$Run;"⟩, 18) := ⟨⟨by decide +kernel, by decide +kernel⟩, List.mem_of_getElem? (i := 1438) (by decide +kernel), List.mem_of_getElem? (i := 2467) (by decide +kernel), List.mem_of_getElem? (i := 2468) (by decide +kernel)⟩
def lw_privs_7 : List (MethodName × Nat) := [(⟨"SequencepointModel", "told", "(LSequencepointModel$Node;IJ)LSequencepointModel$Node;"⟩, 18), (⟨"SequencepointModel", "folded", "(LSequencepointModel$Node;)LSequencepointModel$Node;"⟩, 18), (⟨"SequencepointModel", "all", "([LSequencepointModel$Statement;)[LSequencepointModel$Run;"⟩, 18)]
theorem lw_r7 : ∀ q ∈ lw_privs_7, lw_okq q := List.forall_mem_cons.mpr ⟨lw_p96, List.forall_mem_cons.mpr ⟨lw_p97, List.forall_mem_cons.mpr ⟨lw_p98, fun _ h => absurd h List.not_mem_nil⟩⟩⟩
def lw_privs : List (MethodName × Nat) := lw_privs_1 ++ (lw_privs_2 ++ (lw_privs_3 ++ (lw_privs_4 ++ (lw_privs_5 ++ (lw_privs_6 ++ (lw_privs_7))))))
def lw_tbl : List Cond := k2_sels lw_privs ++ tables_1
theorem lw_privs_ok : ∀ q ∈ lw_privs, lw_okq q := by
  show ∀ q ∈ lw_privs_1 ++ (lw_privs_2 ++ (lw_privs_3 ++ (lw_privs_4 ++ (lw_privs_5 ++ (lw_privs_6 ++ (lw_privs_7)))))), lw_okq q
  exact List.forall_mem_append.mpr ⟨lw_r1, List.forall_mem_append.mpr ⟨lw_r2, List.forall_mem_append.mpr ⟨lw_r3, List.forall_mem_append.mpr ⟨lw_r4, List.forall_mem_append.mpr ⟨lw_r5, List.forall_mem_append.mpr ⟨lw_r6, lw_r7⟩⟩⟩⟩⟩⟩
/-- the streams that the claim lets the run draw from -/
abbrev lw_cs : List Choice := [Jvm.Choice.named "NaN.bits"]
theorem lw_bits : nanBits ∈ lw_cs := by first | decide | exact List.mem_cons_self | simp [lw_cs, nanBits]
-- ===== end of PART A; then your names; then what follows =====
end
section
/-! ===== BEGIN words of one list among another's, by their places ===== -/
theorem goodIn_sub {big ws : List Cond} (hm : ∀ w ∈ ws, w ∈ big) (h : ws.all goodWord = true) : GoodIn big ws := fun w hw => ⟨hm w hw, good_of_word (List.all_eq_true.mp h w hw)⟩
/-! ===== END ===== -/
/-! ===== BEGIN exceptions that leave a method, and their catching by the caller (launches without stack traces) ===== -/
section VXA
/-! The laws vx_back, vx_callV, vx_callS, vx_callSW, vx_throw0, vx_throwS follow proofs of the library, with one case more: JvmDerived/Free/Laws.lean (Back.of_free), Shelf42/LK1.lean (callV, callS), Shelf/KitTraced.lean (throwNew0V, throwNewS). -/
/-- where a method has thrown q: the class by its name, the cell, what was written, the world -/
def vx_T (XC : String → State → State → Prop) (st : State) (q : Addr) (t : State) (mc ms : Nat) (free : Addr → Prop) : Prop :=
  ∃ (E : String) (ce : Cell) (L : List Loc), XC E st t ∧ t.heap[q]? = some ce ∧ ce.vm = .none ∧ st.vm.findClass E = some ce.cls ∧ st.WarmedH t.vm ∧ st.sameButNew ({ t with vm := st.vm } : State) L mc ms ∧ ∀ z ∈ L, free z.base
def vx_Q (Qc : Array Value → State → Outcome → State → Prop) (XC : String → State → State → Prop) (mc ms : Nat) (free : Addr → Prop) : Array Value → State → Outcome → State → Prop := fun a st o t =>
  (Qc a st o t ∧ ∃ L, FrameEnd st o t L mc ms ∧ ∀ q ∈ L, free q.base) ∨ ∃ q, o = .threw q ∧ vx_T XC st q t mc ms free
/-- a callee that returns or throws -/
def vx_Met (l : Launch) (y : MethodName) (ws : List Cond) (rm : Room) (Pc : Array Value → State → Prop) (Qc : Array Value → State → Outcome → State → Prop) (XC : String → State → State → Prop) (mc ms : Nat) (free : Addr → Prop) : Prop :=
  MetFree l y (headSpec ws rm) Pc (fun _ _ _ _ _ => True) (vx_Q Qc XC mc ms free)
def vx_Post (XC : String → State → State → Prop) (mc ms : Nat) (free : Addr → Prop) : Pt → Array Value → Addr → Pt → Prop := fun A a q B =>
  ∃ (g : JFrame) (mk : MethodId) (t : State) (L : List Loc) (E : String) (ce : Cell), B.U.heap = t.heap ∧ B.U.vm = t.vm ∧ XC E (A.U.calling g mk a) t ∧ t.heap[q]? = some ce ∧ ce.vm = .none ∧ A.U.vm.findClass E = some ce.cls ∧ B.locs = A.locs ++ L ∧ (∀ z ∈ L, free z.base) ∧ B.cells = A.cells + mc ∧ B.slots = A.slots + ms
def vx_Back (l : Launch) (R : Room) (p : Program) (e : Env) (below : List Frame) (s : State) (sargs : Array Value) (y : MethodName) (len W9 : Nat)
    (Pre : Pt → Array Value → Prop) (Post : Pt → Array Value → Option Value → Pt → Prop) (PostX : Pt → Array Value → Addr → Pt → Prop) : Prop :=
  ∀ (m : MethodId) (meth : Method) (c : Code) (A : Pt) (g : JFrame) (ig : Instr) (mk : MethodId) (a : Array Value),
    Stand p l e R s m sargs below meth c A.U A.locs A.cells A.slots → g.method = m → g.locals.size = c.maxLocals → decode c.code g.pc = .ok (ig, len) →
    2 * g.monitorRoom + (g.stack.map fun v => v.category).sum ≤ W9 → A.U.methodNamed? y = some mk → Pre A a →
    (∃ (v : Option Value) (B : Pt), Stand p l e R s m sargs below meth c B.U B.locs B.cells B.slots ∧ Post A a v B ∧
      Steps p.tables e below (doInvoke e (A.U.setTop g) [] mk a).1 (B.U.setTop { g with pc := g.pc + len, stack := v.toList ++ g.stack })) ∨
    (∃ (q : Addr) (B : Pt), Stand p l e R s m sargs below meth c B.U B.locs B.cells B.slots ∧ PostX A a q B ∧
      Steps p.tables e below (doInvoke e (A.U.setTop g) [] mk a).1 ((B.U.setTop g).pushFrame (.throwing q)))
section Payer
variable {l : Launch} {R : Room} {p : Program} {e : Env} {below : List Frame} {s : State} {sargs : Array Value} {y : MethodName} {len W9 : Nat}
theorem vx_back {ws : List Cond} {rm : Room} {Pc : Array Value → State → Prop} {Qc : Array Value → State → Outcome → State → Prop} {XC : String → State → State → Prop} {mc ms : Nat} {free : Addr → Prop} {bytes : ByteArray} {maxL : Nat} {ret : Option FieldType}
    (hM : vx_Met l y ws rm Pc Qc XC mc ms free) (hblind : FrameBlind Pc) (hrc : rm.cells = mc) (hrs : rm.slots = ms)
    (hframes : rm.frames + 1 ≤ R.frames) (hlocals : W9 + (maxL + 11) + rm.locals ≤ R.locals)
    (hws : ∀ w ∈ ws, ∀ a' U, s.WarmedH U.vm → w.before a' U = true) (hcode : Cond.code y bytes maxL ret ∈ ws) (hinit : ∀ a' U, s.WarmedH U.vm → (Cond.initialized y.cls).before a' U = true) :
    vx_Back l R p e below s sargs y len W9 (PreOf R mc ms Pc) (PostOf Qc mc ms free) (vx_Post XC mc ms free) := by
  intro m meth c A g ig mk a X hg hsize hdg hW hn hp
  have h1 : (headSpec ws rm).pre.before a A.U = true := atoms_intro fun w hw => hws w hw _ _ X.warmed
  have h2 : (Cond.code y bytes maxL ret).before a A.U = true := hws _ hcode _ _ X.warmed
  have h3 : (Cond.initialized y.cls).before a A.U = true := hinit _ _ X.warmed
  have h4 : A.cells + (headSpec ws rm).room.cells ≤ R.cells := by rw [show (headSpec ws rm).room.cells = mc from hrc]; exact hp.1
  have h5 : A.slots + (headSpec ws rm).room.slots ≤ R.slots := by rw [show (headSpec ws rm).room.slots = ms from hrs]; exact hp.2.1
  have hPc : Pc a (A.U.calling g mk a) := hblind _ _ _ _ hp.2.2
  obtain ⟨U, Ls, c0, s0⟩ := A
  dsimp only [Pt.U, Pt.locs, Pt.cells, Pt.slots] at h1 h2 h3 h4 h5 X hn hPc ⊢
  obtain ⟨methY, cY, hmY, hcY, -, hlY, -, -, -, -⟩ := Cond.code_spec hn h2
  obtain ⟨kY, hkY, -⟩ := className_of_methodNamed hn
  have hinitY : kY.init = .initialized := Cond.initialized_spec (findClass_of_methodNamed hn) hkY h3
  have h : At U g.method c below := by rw [hg]; exact X.here
  have hlocals9 : W9 + (maxL + 11) + (headSpec ws rm).room.locals ≤ R.locals := hlocals
  have happ : (headSpec ws rm).appliesLoose y e.platform (U.calling g mk a) = true :=
    Spec.appliesLoose_calling (g := g) h hdg hn hkY hinitY
      (X.room_calling (g := g) (R' := (headSpec ws rm).room) hsize hmY hcY hframes (by rw [hlY]; omega) h4 h5) h1
  obtain ⟨mid, hmid⟩ := h.above
  have hfr : (U.setTop g).frames = (.java g :: mid) ++ below := by rw [State.frames_setTop' g h.top, hmid]; rfl
  obtain ⟨o, s₂, hsteps, -, hend, hq⟩ := Steps.callFree hM p X.admits X.cas X.clock (acts := []) hfr happ hPc trivial
  have hq' : vx_Q Qc XC mc ms free a (U.calling g mk a) o s₂ := hq
  rw [State.frames_setTop' g h.top] at hend
  obtain ⟨g₀, hg0⟩ := Option.isSome_iff_exists.mp h.top
  obtain ⟨r, hr⟩ := State.topJava?_eq_some.mp hg0
  have hr' : (({ U with heap := s₂.heap, slotsUsed := s₂.slotsUsed } : State).setVm s₂.vm).frames = .java g₀ :: r := hr
  rcases hq' with ⟨hqc, L, hfe, hL⟩ | ⟨q, rfl, E, ce, L, hx, hce, hcv, hcl, hW₂, hsm, hL⟩
  · obtain ⟨⟨v, rfl⟩, hW₂, e2, q2, q3, q4, q5, q6⟩ := id hfe
    have e3 : s₂ = ({ (U.calling g mk a).setFrames s₂.frames with heap := s₂.heap, slotsUsed := s₂.slotsUsed } : State).setVm s₂.vm := by
      have : s₂ = ({ s₂ with vm := (U.calling g mk a).vm } : State).setVm s₂.vm := rfl
      rw [e2] at this
      exact this
    obtain ⟨c₂, i₂, len₂, hc₂, hd₂, hf₂⟩ := hend
    have hW' : U.WarmedH s₂.vm := hW₂
    have hcc : c₂ = c := by
      have h1 : s₂.code? g.method = U.code? g.method := by
        rw [State.code?_eq, State.code?_eq, hW'.alike.method?]
      exact Option.some.inj (hc₂.symm.trans (h1.trans h.code))
    subst hcc
    have hlen : len₂ = len := by rw [hdg] at hd₂; cases hd₂; rfl
    subst hlen
    have hs₂ : s₂ = (({ U with heap := s₂.heap, slotsUsed := s₂.slotsUsed } : State).setVm s₂.vm).setTop { g with pc := g.pc + len₂, stack := v.toList ++ g.stack } := by
      refine e3.trans ?_
      rw [hf₂, State.calling_eq h.top, State.setFrames_setFrames, State.setTop_of_frames _ hr', hr]
      rfl
    have hsame : U.sameButNew ({ U with heap := s₂.heap, slotsUsed := s₂.slotsUsed } : State) L mc ms := by
      refine ⟨?_, q2, q3, q4, q5, q6⟩
      obtain ⟨t, ht, -⟩ := State.frames_cons hr
      show ({ U with heap := s₂.heap, slotsUsed := s₂.slotsUsed } : State) = { U.setFrames U.frames with heap := s₂.heap, slotsUsed := s₂.slotsUsed }
      rw [State.setFrames_self ht]
    subst hg
    refine Or.inl ⟨v, ⟨(({ U with heap := s₂.heap, slotsUsed := s₂.slotsUsed } : State).setVm s₂.vm), Ls ++ L, c0 + mc, s0 + ms⟩,
      ⟨X.admits, X.cas, X.clock, X.frames, X.room, X.hears, X.method, X.code, (X.here.setHeapUsed s₂.heap s₂.slotsUsed).setVm hW'.alike, X.tail, State.WarmedH.trans X.warmed hW', X.limits, X.bytes, X.same.trans (hsame.setVm s.vm)⟩,
      ⟨g, mk, s₂, L, rfl, rfl, hqc, rfl, hL, rfl, rfl⟩, ?_⟩
    show Steps p.tables e below _ ((({ U with heap := s₂.heap, slotsUsed := s₂.slotsUsed } : State).setVm s₂.vm).setTop { g with pc := g.pc + len₂, stack := v.toList ++ g.stack })
    rw [← hs₂]
    exact hsteps
  · obtain ⟨e2, q2, q3, q4, q5, q6⟩ := id hsm
    have e3 : s₂ = ({ (U.calling g mk a).setFrames s₂.frames with heap := s₂.heap, slotsUsed := s₂.slotsUsed } : State).setVm s₂.vm := by
      have : s₂ = ({ s₂ with vm := (U.calling g mk a).vm } : State).setVm s₂.vm := rfl
      rw [e2] at this
      exact this
    have hf₂ : s₂.frames = .throwing q :: .java g :: U.frames.tail := hend
    have hW' : U.WarmedH s₂.vm := hW₂
    have hs₂ : s₂ = ((({ U with heap := s₂.heap, slotsUsed := s₂.slotsUsed } : State).setVm s₂.vm).setTop g).pushFrame (.throwing q) := by
      refine e3.trans ?_
      rw [hf₂, State.calling_eq h.top, State.setFrames_setFrames, State.pushFrame, State.frames_setTop _ hr', State.setTop_of_frames _ hr', State.setFrames_setFrames, hr]
      rfl
    have hsame : U.sameButNew ({ U with heap := s₂.heap, slotsUsed := s₂.slotsUsed } : State) L mc ms := by
      refine ⟨?_, q2, q3, q4, q5, q6⟩
      obtain ⟨t, ht, -⟩ := State.frames_cons hr
      show ({ U with heap := s₂.heap, slotsUsed := s₂.slotsUsed } : State) = { U.setFrames U.frames with heap := s₂.heap, slotsUsed := s₂.slotsUsed }
      rw [State.setFrames_self ht]
    subst hg
    refine Or.inr ⟨q, ⟨(({ U with heap := s₂.heap, slotsUsed := s₂.slotsUsed } : State).setVm s₂.vm), Ls ++ L, c0 + mc, s0 + ms⟩,
      ⟨X.admits, X.cas, X.clock, X.frames, X.room, X.hears, X.method, X.code, (X.here.setHeapUsed s₂.heap s₂.slotsUsed).setVm hW'.alike, X.tail, State.WarmedH.trans X.warmed hW', X.limits, X.bytes, X.same.trans (hsame.setVm s.vm)⟩,
      ⟨g, mk, s₂, L, E, ce, rfl, rfl, hx, hce, hcv, hcl, rfl, hL, rfl, rfl⟩, ?_⟩
    show Steps p.tables e below _ (((({ U with heap := s₂.heap, slotsUsed := s₂.slotsUsed } : State).setVm s₂.vm).setTop g).pushFrame (.throwing q))
    rw [← hs₂]
    exact hsteps
end Payer
section Calls
variable {p : Program} {l : Launch} {e : Env} {R : Room} {s : State} {m : MethodId} {args : Array Value} {below : List Frame} {meth : Method} {c : Code} {T : State} {locs : List Loc} {cells slots : Nat}
theorem vx_callV (X : Stand p l e R s m args below meth c T locs cells slots) (hexec : p.tables.exec = Jvm.exec) {own C : String} {index : Nat} {y : MethodName} {bytes : ByteArray} {maxL : Nat} {ret : Option FieldType}
    (hown : s.vm.findClass own = some m.cls) (hlink : (Cond.methodLink own index y).before args s = true) (hinst : (Cond.instanceMethod y).before args s = true) (hsel : (Cond.selects C y y).before args s = true)
    (hcode : (Cond.code y bytes maxL ret).before args s = true) (hy : y.cls ≠ "java/lang/invoke/MethodHandle" ∧ y.cls ≠ "java/lang/invoke/VarHandle")
    {W9 : Nat} {Pre : Pt → Array Value → Prop} {Post : Pt → Array Value → Option Value → Pt → Prop} {PostX : Pt → Array Value → Addr → Pt → Prop} (hK : vx_Back l R p e below s args y 3 W9 Pre Post PostX)
    {b : Addr} {cellB : Cell} (hcell : T.heap[b]? = some cellB) (hobj : cellB.vm.isStatics = false) (hcls : s.vm.findClass C = some cellB.cls)
    {g : JFrame} (hg : g.method = m) (hsize : g.locals.size = c.maxLocals) {argsL rest : List Value} (hlen : ∀ sig, parseMethodDescriptor y.desc = some sig → argsL.length = sig.parameters.length)
    (hstack : g.stack = argsL.reverse ++ .ref b :: rest) (hW : 2 * g.monitorRoom + (rest.map fun v => v.category).sum ≤ W9) (hdg : decode c.code g.pc = .ok (.invokevirtual index, 3))
    (hpre : ∀ vm₁, s.WarmedH vm₁ → Pre ⟨T.setVm vm₁, locs, cells, slots⟩ (Value.ref b :: argsL).toArray) :
    (∃ (v : Option Value) (vm₁ : Vm) (B : Pt), s.WarmedH vm₁ ∧ Stand p l e R s m args below meth c B.U B.locs B.cells B.slots ∧ Post ⟨T.setVm vm₁, locs, cells, slots⟩ (Value.ref b :: argsL).toArray v B ∧
      ∀ target, Steps p.tables e below (B.U.setTop { g with pc := g.pc + 3, stack := v.toList ++ rest }) target → Steps p.tables e below (T.setTop g) target) ∨
    (∃ (q : Addr) (vm₁ : Vm) (B : Pt), s.WarmedH vm₁ ∧ Stand p l e R s m args below meth c B.U B.locs B.cells B.slots ∧ PostX ⟨T.setVm vm₁, locs, cells, slots⟩ (Value.ref b :: argsL).toArray q B ∧
      Steps p.tables e below (T.setTop g) ((B.U.setTop { g with stack := rest }).pushFrame (.throwing q))) := by
  obtain ⟨mk, methM, hnamed, hmethM, hstM, habM⟩ := Cond.instanceMethod_spec hinst
  obtain ⟨methM', cM, hmethM', -, -, -, -, -, -, hsigM⟩ := Cond.code_spec hnamed hcode
  cases hmethM.symm.trans hmethM'
  obtain ⟨c2, r2, m2, q1, q2, q3, q4, kP, hkP, hkPi⟩ := Cond.selects_spec hsel
  cases hcls.symm.trans q1
  cases (State.methodFound?_of_named hnamed hy).symm.trans q2
  cases hnamed.symm.trans q3
  have hselP : selectMethod e.platform s.vm cellB.cls mk = .method mk := by rw [Launch.admits_selectMethod X.admits]; exact q4
  obtain ⟨vm₁, X₁, hstep₁⟩ := X.invokevirtual hexec hown hlink hnamed hmethM hstM hkP hkPi hy (a := b) (cell := cellB) hcell
    (fun z h => by rw [h] at hobj; cases hobj) hselP hmethM habM hkP hkPi (g := g) hg (argsL := argsL) (rest := rest) (hlen _ hsigM) hstack hdg
  rcases hK m meth c ⟨T.setVm vm₁, locs, cells, slots⟩ { g with stack := rest } (.invokevirtual index) mk (Value.ref b :: argsL).toArray X₁ hg hsize hdg hW (X₁.named hnamed) (hpre vm₁ X₁.warmed) with ⟨v, B, X', hpost, hsteps⟩ | ⟨q, B, X', hpost, hsteps⟩
  · exact Or.inl ⟨v, vm₁, B, X₁.warmed, X', hpost, fun target h => hstep₁ _ fun acts => by rw [doInvoke_state]; exact hsteps.trans h⟩
  · exact Or.inr ⟨q, vm₁, B, X₁.warmed, X', hpost, hstep₁ _ fun acts => by rw [doInvoke_state]; exact hsteps⟩
theorem vx_callS (X : Stand p l e R s m args below meth c T locs cells slots) (hexec : p.tables.exec = Jvm.exec) {own : String} {index : Nat} {y : MethodName} {bytes : ByteArray} {maxL : Nat} {ret : Option FieldType}
    (hown : s.vm.findClass own = some m.cls) (hlink : (Cond.methodLink own index y).before args s = true) (hstat : (Cond.static y).before args s = true) (hinit : (Cond.initialized y.cls).before args s = true)
    (hcode : (Cond.code y bytes maxL ret).before args s = true) (hy : y.cls ≠ "java/lang/invoke/MethodHandle" ∧ y.cls ≠ "java/lang/invoke/VarHandle")
    {W9 : Nat} {Pre : Pt → Array Value → Prop} {Post : Pt → Array Value → Option Value → Pt → Prop} {PostX : Pt → Array Value → Addr → Pt → Prop} (hK : vx_Back l R p e below s args y 3 W9 Pre Post PostX)
    {g : JFrame} (hg : g.method = m) (hsize : g.locals.size = c.maxLocals) {argsL rest : List Value} (hlen : ∀ sig, parseMethodDescriptor y.desc = some sig → argsL.length = sig.parameters.length)
    (hstack : g.stack = argsL.reverse ++ rest) (hW : 2 * g.monitorRoom + (rest.map fun v => v.category).sum ≤ W9) (hdg : decode c.code g.pc = .ok (.invokestatic index, 3))
    (hpre : ∀ vm₁, s.WarmedH vm₁ → Pre ⟨T.setVm vm₁, locs, cells, slots⟩ argsL.toArray) :
    (∃ (v : Option Value) (vm₁ : Vm) (B : Pt), s.WarmedH vm₁ ∧ Stand p l e R s m args below meth c B.U B.locs B.cells B.slots ∧ Post ⟨T.setVm vm₁, locs, cells, slots⟩ argsL.toArray v B ∧
      ∀ target, Steps p.tables e below (B.U.setTop { g with pc := g.pc + 3, stack := v.toList ++ rest }) target → Steps p.tables e below (T.setTop g) target) ∨
    (∃ (q : Addr) (vm₁ : Vm) (B : Pt), s.WarmedH vm₁ ∧ Stand p l e R s m args below meth c B.U B.locs B.cells B.slots ∧ PostX ⟨T.setVm vm₁, locs, cells, slots⟩ argsL.toArray q B ∧
      Steps p.tables e below (T.setTop g) ((B.U.setTop { g with stack := rest }).pushFrame (.throwing q))) := by
  obtain ⟨mk, hnamed⟩ := Cond.code_named hcode
  obtain ⟨methM, cM, hmethM, -, -, -, -, -, -, hsigM⟩ := Cond.code_spec hnamed hcode
  have hstatic : methM.isStatic = true := Cond.static_spec hnamed hmethM hstat
  obtain ⟨kP, hkP, -⟩ := className_of_methodNamed hnamed
  have hinitP : kP.init = .initialized := Cond.initialized_spec (findClass_of_methodNamed hnamed) hkP hinit
  obtain ⟨vm₁, X₁, hstep₁⟩ := X.invokestatic hexec hown hlink hnamed hmethM hstatic hkP hinitP hy (g := g) hg (argsL := argsL) (rest := rest) (hlen _ hsigM) hstack hdg
  rcases hK m meth c ⟨T.setVm vm₁, locs, cells, slots⟩ { g with stack := rest } (.invokestatic index) mk argsL.toArray X₁ hg hsize hdg hW (X₁.named hnamed) (hpre vm₁ X₁.warmed) with ⟨v, B, X', hpost, hsteps⟩ | ⟨q, B, X', hpost, hsteps⟩
  · exact Or.inl ⟨v, vm₁, B, X₁.warmed, X', hpost, fun target h => hstep₁ _ fun acts => by rw [doInvoke_state]; exact hsteps.trans h⟩
  · exact Or.inr ⟨q, vm₁, B, X₁.warmed, X', hpost, hstep₁ _ fun acts => by rw [doInvoke_state]; exact hsteps⟩
end Calls
theorem vx_cls {s : State} {T : State} {vm₁ : Vm} {E : String} {k : ClassId} (hW : s.WarmedH vm₁) (h : (T.setVm vm₁).vm.findClass E = some k) : s.vm.findClass E = some k := by
  have h1 : vm₁.findClass E = some k := h
  rw [hW.alike.findClass] at h1
  exact h1
/-- the method's frame g, with q thrown over it -/
def vx_W (p : Program) (l : Launch) (e : Env) (R : Room) (s : State) (m : MethodId) (args : Array Value) (below : List Frame) (meth : Method) (c : Code) (H : Heap) (locs : List Loc) (cells slots : Nat) (Q : State → Prop) (g : JFrame) (q : Addr) : Prop :=
  ∀ T : State, T.heap = H → Stand p l e R s m args below meth c T locs cells slots → ∃ t, Steps p.tables e below ((T.setTop g).pushFrame (.throwing q)) t ∧ Q t
def vx_Run (p : Program) (l : Launch) (e : Env) (R : Room) (s : State) (m : MethodId) (args : Array Value) (below : List Frame) (meth : Method) (c : Code) (H : Heap) (locs : List Loc) (cells slots mc ms : Nat) (g : JFrame) (rest : List Value) (Qa : State → Outcome → State → Prop) (XC : String → State → State → Prop) (free : Addr → Prop) : Prop :=
  ∀ T : State, T.heap = H → Stand p l e R s m args below meth c T locs cells slots →
    (∃ (v : Option Value) (st₀ t T' : State) (L : List Loc), st₀.heap = H ∧ Stand p l e R s m args below meth c T' (locs ++ L) (cells + mc) (slots + ms) ∧ (∀ q ∈ L, free q.base) ∧ T'.heap = t.heap ∧ T'.vm = t.vm ∧ Qa st₀ (.returned v) t ∧
      Goes p e below T g T' { g with pc := g.pc + 3, stack := v.toList ++ rest }) ∨
    (∃ (q : Addr) (st₀ t T' : State) (L : List Loc) (E : String) (ce : Cell), st₀.heap = H ∧ Stand p l e R s m args below meth c T' (locs ++ L) (cells + mc) (slots + ms) ∧ (∀ z ∈ L, free z.base) ∧ T'.heap = t.heap ∧ T'.vm = t.vm ∧ XC E st₀ t ∧ t.heap[q]? = some ce ∧ ce.vm = .none ∧ s.vm.findClass E = some ce.cls ∧
      Steps p.tables e below (T.setTop g) ((T'.setTop { g with stack := rest }).pushFrame (.throwing q)))
def vx_X {S : Type} (px : S → Prop) (B : String → S → State → Prop) (A : Nat → Prop) : String → State → State → Prop := fun E st t => ∃ u : S, px u ∧ B E u t ∧ va_F A st t
section Runs
variable {p : Program} {l : Launch} {e : Env} {R : Room} {s : State} {m : MethodId} {args : Array Value} {below : List Frame} {meth : Method} {c : Code} {H : Heap} {locs : List Loc} {cells slots : Nat}
variable {y : MethodName} {bytes cc : ByteArray} {maxL nL mc ms n index : Nat} {ret : Option FieldType} {ws : List Cond} {rm : Room} {Pc : Array Value → State → Prop} {Qc : Array Value → State → Outcome → State → Prop} {XC : String → State → State → Prop} {free : Addr → Prop} {Ts : List Cond} {own C : String} {b : Addr} {As rest : List Value} {g : JFrame}
theorem vx_callBack (cb : CallB R s args own index y bytes maxL ret ws rm mc ms n) (hM : vx_Met l y ws rm Pc Qc XC mc ms free) (hbl : FrameBlind Pc) : vx_Back l R p e below s args y 3 8 (PreOf R mc ms Pc) (PostOf Qc mc ms free) (vx_Post XC mc ms free) := by
  obtain ⟨hrc, hrs, hfr, hlo, hws, hcw, -, hini, -⟩ := cb
  exact vx_back (bytes := bytes) (maxL := maxL) (ret := ret) hM hbl hrc hrs hfr hlo hws hcw (fun a' U hW => word_at hW (Or.inl (by first | rfl | simp [Cond.onTables, Cond.keeps, Cond.steady])) hini)
theorem vx_runV (S : CallFix p m c cc nL s args Ts own) (hM : vx_Met l y ws rm Pc Qc XC mc ms free) (cw : CallW R s args own C index y bytes maxL ret ws rm mc ms n) (hp : PreV s H C b Pc As)
    (hg : g.method = m) (hn : As.length = n) (hsize : g.locals.size = nL) (hstack : g.stack = As.reverse ++ .ref b :: rest) (hW : 2 * g.monitorRoom + (rest.map fun v => v.category).sum ≤ 8) (hdg : decode cc g.pc = .ok (.invokevirtual index, 3)) (hf : cells + mc ≤ R.cells ∧ slots + ms ≤ R.slots) :
    vx_Run p l e R s m args below meth c H locs cells slots mc ms g rest (Qc (Value.ref b :: As).toArray) XC free := by
  have hK : vx_Back l R p e below s args y 3 8 (PreOf R mc ms Pc) (PostOf Qc mc ms free) (vx_Post XC mc ms free) := vx_callBack cw.1 hM hp.1
  obtain ⟨⟨-, -, -, -, -, -, hcode, -, hy, hlen, hl⟩, hin, hse⟩ := cw
  obtain ⟨hx, hb, hml, ho, -⟩ := S
  obtain ⟨-, ⟨cellB, hcB, hoB, hclB⟩, hPc⟩ := hp
  intro T hT X
  rcases vx_callV X hx (C := C) (bytes := bytes) (maxL := maxL) (ret := ret) ho hl hin hse hcode hy hK (by rw [hT]; exact hcB) hoB hclB hg (hsize.trans hml.symm) (argsL := As) (rest := rest) (fun sig h => hn.trans (hlen sig h)) hstack hW (by rw [hb]; exact hdg)
    (fun vm₁ hW₁ => ⟨hf.1, hf.2, hPc (T.setVm vm₁) hT hW₁⟩) with ⟨v, vm₁, ⟨U', l2, c2, s2⟩, hW₁, X', ⟨g', mk, t, L, e1, e2, hq, h1, hL, h2, h3⟩, st⟩ | ⟨q, vm₁, ⟨U', l2, c2, s2⟩, hW₁, X', ⟨g', mk, t, L, E, ce, e1, e2, hq, hce, hcv, hcl, h1, hL, h2, h3⟩, st⟩
  · dsimp only [Pt.U, Pt.locs, Pt.cells, Pt.slots] at X' e1 e2 h1 h2 h3 st
    subst h1; subst h2; subst h3
    exact Or.inl ⟨v, (T.setVm vm₁).calling g' mk (Value.ref b :: As).toArray, t, U', L, hT, X', hL, e1, e2, hq, st⟩
  · dsimp only [Pt.U, Pt.locs, Pt.cells, Pt.slots] at X' e1 e2 h1 h2 h3 st hcl
    subst h1; subst h2; subst h3
    exact Or.inr ⟨q, (T.setVm vm₁).calling g' mk (Value.ref b :: As).toArray, t, U', L, E, ce, hT, X', hL, e1, e2, hq, hce, hcv, vx_cls hW₁ hcl, st⟩
theorem vx_runS (S : CallFix p m c cc nL s args Ts own) (hM : vx_Met l y ws rm Pc Qc XC mc ms free) (cw : CallB R s args own index y bytes maxL ret ws rm mc ms n ∧ (Cond.static y).before args s = true) (hp : PreS s H Pc As)
    (hg : g.method = m) (hn : As.length = n) (hsize : g.locals.size = nL) (hstack : g.stack = As.reverse ++ rest) (hW : 2 * g.monitorRoom + (rest.map fun v => v.category).sum ≤ 8) (hdg : decode cc g.pc = .ok (.invokestatic index, 3)) (hf : cells + mc ≤ R.cells ∧ slots + ms ≤ R.slots) :
    vx_Run p l e R s m args below meth c H locs cells slots mc ms g rest (Qc As.toArray) XC free := by
  have hK : vx_Back l R p e below s args y 3 8 (PreOf R mc ms Pc) (PostOf Qc mc ms free) (vx_Post XC mc ms free) := vx_callBack cw.1 hM hp.1
  obtain ⟨⟨-, -, -, -, -, -, hcode, hini, hy, hlen, hl⟩, hstt⟩ := cw
  obtain ⟨hx, hb, hml, ho, -⟩ := S
  intro T hT X
  rcases vx_callS X hx (bytes := bytes) (maxL := maxL) (ret := ret) ho hl hstt hini hcode hy hK hg (hsize.trans hml.symm) (argsL := As) (rest := rest) (fun sig h => hn.trans (hlen sig h)) hstack hW (by rw [hb]; exact hdg)
    (fun vm₁ hW₁ => ⟨hf.1, hf.2, hp.2 (T.setVm vm₁) hT hW₁⟩) with ⟨v, vm₁, ⟨U', l2, c2, s2⟩, hW₁, X', ⟨g', mk, t, L, e1, e2, hq, h1, hL, h2, h3⟩, st⟩ | ⟨q, vm₁, ⟨U', l2, c2, s2⟩, hW₁, X', ⟨g', mk, t, L, E, ce, e1, e2, hq, hce, hcv, hcl, h1, hL, h2, h3⟩, st⟩
  · dsimp only [Pt.U, Pt.locs, Pt.cells, Pt.slots] at X' e1 e2 h1 h2 h3 st
    subst h1; subst h2; subst h3
    exact Or.inl ⟨v, (T.setVm vm₁).calling g' mk As.toArray, t, U', L, hT, X', hL, e1, e2, hq, st⟩
  · dsimp only [Pt.U, Pt.locs, Pt.cells, Pt.slots] at X' e1 e2 h1 h2 h3 st hcl
    subst h1; subst h2; subst h3
    exact Or.inr ⟨q, (T.setVm vm₁).calling g' mk As.toArray, t, U', L, E, ce, hT, X', hL, e1, e2, hq, hce, hcv, vx_cls hW₁ hcl, st⟩
end Runs
section Rows
variable {p : Program} {l : Launch} {e : Env} {R : Room} {s : State} {m : MethodId} {args : Array Value} {below : List Frame} {meth : Method} {c : Code} {H : Heap} {locs : List Loc} {cells slots : Nat} {Q : State → Prop}
variable {mc ms : Nat} {free : Addr → Prop} {A0 A1 : Nat → Prop} {H0 : Heap} {a : Array Value} {pc : Nat} {ls : Array Slot} {st0 rest : List Value}
theorem vx_keep {st₀ t T' : State} {L : List Loc} (h0 : st₀.heap = H) (e1 : T'.heap = t.heap) (hS : va_S A0 H0 H locs) (hA : ∀ q, q < H.size → A1 q → A0 q) (hf : ∀ q, free q → A0 q) (hL : ∀ q ∈ L, free q.base) (hF : va_F A1 st₀ t) :
    H.size ≤ T'.heap.size ∧ (∀ q : Nat, q < H.size → ¬ A1 q → T'.heap[q]? = H[q]?) ∧ va_S A0 H0 T'.heap (locs ++ L) := by
  obtain ⟨hz, hk⟩ := hF
  rw [h0] at hz hk
  exact ⟨by rw [e1]; exact hz, fun q h1 h2 => by rw [e1]; exact hk q h1 h2,
    ⟨Nat.le_trans hS.1 (by rw [e1]; exact hz), fun q h1 h2 => by rw [e1, hk q (Nat.lt_of_lt_of_le h1 hS.1) (fun z => h2 (hA q (Nat.lt_of_lt_of_le h1 hS.1) z))]; exact hS.2.1 q h1 h2, fun q hq => by
      rcases List.mem_append.mp hq with h | h
      · exact hS.2.2 q h
      · exact hf _ (hL q h)⟩⟩
theorem vx_calli {S SX : Type} {post : Int32 → S → Prop} {px : SX → Prop} {B : S → State → Prop} {BX : String → SX → State → Prop} {AX : Nat → Prop} (hr : vx_Run p l e R s m args below meth c H locs cells slots mc ms (F0 m pc ls st0) rest (va_Qi post B A1 a) (vx_X px BX AX) free) (hS : va_S A0 H0 H locs) (hA : ∀ q, q < H.size → A1 q → A0 q) (hf : ∀ q, free q → A0 q) (hAX : ∀ q, q < H.size → AX q → A0 q)
    (kx : ∀ (E : String) (ce : Cell) (q9 : Addr) (u : SX) (t : State) (H1 : Heap) (locs1 : List Loc), t.heap = H1 → s.vm.Alike t.vm → px u → BX E u t → H.size ≤ H1.size → (∀ q : Nat, q < H.size → ¬ AX q → H1[q]? = H[q]?) → va_S A0 H0 H1 locs1 → H1[q9]? = some ce → ce.vm = .none → s.vm.findClass E = some ce.cls → vx_W p l e R s m args below meth c H1 locs1 (cells + mc) (slots + ms) Q (F0 m pc ls rest) q9)
    (kk : ∀ (r : Int32) (u : S) (t : State) (H1 : Heap) (locs1 : List Loc), t.heap = H1 → s.vm.Alike t.vm → post r u → B u t → H.size ≤ H1.size → (∀ q : Nat, q < H.size → ¬ A1 q → H1[q]? = H[q]?) → va_S A0 H0 H1 locs1 → W p l e R s m args below meth c H1 locs1 (cells + mc) (slots + ms) Q (F0 m (pc + 3) ls (.int r :: rest))) : W p l e R s m args below meth c H locs cells slots Q (F0 m pc ls st0) := by
  intro T hT X
  rcases hr T hT X with ⟨v, st₀, t, T', L, h0, X', hL, e1, e2, ⟨⟨r, u, hv, hp, hb⟩, hF⟩, st⟩ | ⟨q, st₀, t, T', L, E, ce, h0, X', hL, e1, e2, ⟨u, hp, hb, hF⟩, hce, hcv, hcl, st⟩
  · cases hv
    obtain ⟨k1, k2, k3⟩ := vx_keep h0 e1 hS hA hf hL hF
    obtain ⟨t2, a1, b1⟩ := kk r u t T'.heap (locs ++ L) e1.symm (by rw [← e2]; exact X'.warmed.alike) hp hb k1 k2 k3 T' rfl X'
    exact ⟨t2, st t2 a1, b1⟩
  · obtain ⟨k1, k2, k3⟩ := vx_keep h0 e1 hS hAX hf hL hF
    obtain ⟨t2, a1, b1⟩ := kx E ce q u t T'.heap (locs ++ L) e1.symm (by rw [← e2]; exact X'.warmed.alike) hp hb k1 k2 k3 (by rw [e1]; exact hce) hcv hcl T' rfl X'
    exact ⟨t2, st.trans a1, b1⟩
/-- caught by the row x of this method's table; the rows ahead don't take it -/
theorem vx_catch {own name : String} {E : String} {ce : Cell} {q : Addr} (hown : s.vm.findClass own = some m.cls) (pre : List ExceptionTableEntry) (x : ExceptionTableEntry) (suf : List ExceptionTableEntry) (hsplit : c.exceptionTable.toList = pre ++ x :: suf)
    (hpass : ∀ z ∈ pre, covers z pc = false ∨ (z.catchType ≠ 0 ∧ ∃ nm : String, (Cond.classLink own z.catchType nm).before args s = true ∧ va_Nc E nm s)) (hx : covers x pc = true) (h0 : x.catchType ≠ 0)
    (hlink : (Cond.classLink own x.catchType name).before args s = true) (hcast : (Cond.castable E name).before args s = true) (hcell : H[q]? = some ce) (hv : ce.vm = .none) (hcl : s.vm.findClass E = some ce.cls)
    (kk : W p l e R s m args below meth c H locs cells slots Q (F0 m x.handlerPc ls [.ref q])) : vx_W p l e R s m args below meth c H locs cells slots Q (F0 m pc ls rest) q := by
  intro T hT X
  have hpl : e.platform.magicAccessors = ({} : Platform).magicAccessors := by rw [X.admits.platform]
  obtain ⟨c3, c4, hc3, hc4, hasg⟩ := Cond.castable_spec hcast
  cases Option.some.inj (hc3.symm.trans hcl)
  obtain ⟨c5, hc5, hcl5⟩ := Cond.classLink_spec hown hlink e.platform hpl
  cases Option.some.inj (hc4.symm.trans hc5)
  obtain ⟨vm', X', st⟩ := X.thenCaughtThrough q (g := F0 m pc ls rest) rfl (Steps.refl _) (by rw [hT]; exact hcell) (by rw [hv]; rfl) (by obtain ⟨k9, h9, -⟩ := Vm.findClass_spec hcl; exact ⟨k9, h9⟩) pre x suf hsplit
    (fun z hz => by
      rcases hpass z hz with h | ⟨hz0, nm, hl1, hn1⟩
      · exact Or.inl h
      · obtain ⟨c6, hc6, hcl6⟩ := Cond.classLink_spec hown hl1 e.platform hpl
        obtain ⟨a8, b8, h1, h2, h3⟩ := hn1
        cases Option.some.inj (h1.symm.trans hcl)
        cases Option.some.inj (h2.symm.trans hc6)
        exact Or.inr ⟨hz0, _, hcl6, h3⟩) hx (Or.inr ⟨h0, c4, hcl5, hasg⟩)
  obtain ⟨t, a1, b1⟩ := kk (T.setVm vm') hT X'
  exact ⟨t, st.trans a1, b1⟩
end Rows
section Ends
variable {p : Program} {l : Launch} {e : Env} {R : Room} {s : State} {m : MethodId} {args : Array Value} {below : List Frame} {meth : Method} {c : Code} {H : Heap} {locs : List Loc} {cells slots : Nat} {Q : State → Prop}
variable {mc ms : Nat} {free : Addr → Prop} {A0 A1 : Nat → Prop} {H0 : Heap} {a : Array Value} {ls : Array Slot} {st0 rest : List Value}
variable {Qc : Array Value → State → Outcome → State → Prop} {XC : String → State → State → Prop}
/-- what a body that may throw owes at its end -/
def vx_MQ (below : List Frame) (Qc : Array Value → State → Outcome → State → Prop) (XC : String → State → State → Prop) (a : Array Value) (s : State) (mc ms : Nat) (free : Addr → Prop) : State → Prop := fun t =>
  ∃ o, t.status = .running ∧ Ended t below o ∧ vx_Q Qc XC mc ms free a s o t
theorem vx_out {pc : Nat} {E : String} {ce : Cell} {q : Addr} {mc ms : Nat} (hout : ∀ x ∈ c.exceptionTable.toList, covers x pc = false) (hlocks : meth.locks = false) (hcell : H[q]? = some ce) (hv : ce.vm = .none) (hcl : s.vm.findClass E = some ce.cls)
    (hx : ∀ t : State, t.heap = H → s.vm.Alike t.vm → XC E s t) (hf : ∀ z ∈ locs, free z.base) (hc : cells ≤ mc) (hs : slots ≤ ms) :
    vx_W p l e R s m args below meth c H locs cells slots (vx_MQ below Qc XC args s mc ms free) (F0 m pc ls rest) q := by
  intro T hT X
  obtain ⟨st1, hrun, hend, hW, hsm⟩ := X.leaveThrown q (g := F0 m pc ls rest) rfl rfl rfl hout hlocks
  have hcell9 : (T.setFrames (.throwing q :: below)).heap[q]? = some ce := by
    show T.heap[q]? = some ce
    rw [hT]; exact hcell
  exact ⟨_, st1, .threw q, hrun, hend, Or.inr ⟨q, rfl, E, ce, locs, hx _ hT hW.alike, hcell9, hv, hcl, hW, hsm.mono hc hs, hf⟩⟩
theorem vx_frame {U : State} {k n : Nat} (h : s.sameButNew ({ U with vm := s.vm } : State) locs k n) : s.heap.size ≤ U.heap.size ∧ ∀ q : Nat, q < s.heap.size → (∀ z ∈ locs, z.base ≠ q) → U.heap[q]? = s.heap[q]? := by
  obtain ⟨-, h2, -, -, -, h6⟩ := h
  refine ⟨h2, fun q hq hz => ?_⟩
  obtain ⟨c9, e1, e2, e3, e4⟩ := h6 q _ (Array.getElem?_eq_getElem hq)
  have hs : c9.slots = (s.heap[q]).slots := Array.ext_getElem? fun i => e4 i fun hm => hz _ hm rfl
  have h9 : c9 = s.heap[q] := by
    rw [hs] at e2
    exact e2
  have e5 : U.heap[q]? = some c9 := e1
  rw [e5, h9, Array.getElem?_eq_getElem hq]
/-- the words of a throw but the four that speak of the heap -/
def vx_no (w : Cond) : Bool := decide (w ≠ .isRef (.static Bundle.tN "UNASSIGNED_STACK" Bundle.steD)) && decide (w ≠ .isRef (.static Bundle.tN "SUPPRESSED_SENTINEL" Bundle.listD)) && decide (w ≠ .laysStatic Bundle.tN "UNASSIGNED_STACK" Bundle.steD) && decide (w ≠ .laysStatic Bundle.tN "SUPPRESSED_SENTINEL" Bundle.listD)
def vx_at0 (own : String) (ic : Nat) (X : String) (names : List String) : List Cond := (Bundle.ownAtoms0 own ic X names).filter vx_no
def vx_atS (own : String) (ic : Nat) (X : String) (names : List String) : List Cond := (Bundle.ownAtoms own ic X names).filter vx_no
/-- a word that the tables alone decide, or a good one -/
def vx_ot (w : Cond) : Bool := w.onTables || goodWord w
theorem vx_ot_at {args a' : Array Value} {s U : State} {w : Cond} (hW : s.WarmedH U.vm) (hvm : s.vm = U.vm) (hg : vx_ot w = true) (h : w.before args s = true) : w.before a' U = true := by
  simp only [vx_ot, Bool.or_eq_true] at hg
  rcases hg with hg | hg
  · exact va_tabs hg hvm h
  · exact word_at hW (good_of_word hg) h
/-- a list's words: the good ones out of the method's own list, the others by premises of their own -/
theorem vx_hat {args : Array Value} {s : State} {L B : List Cond} (h1 : ∀ w ∈ L.filter goodWord, w.before args s = true) (h2 : ∀ w ∈ L.filter (fun w => !goodWord w), w ∈ B) (h3 : ∀ w ∈ B, w.before args s = true) : ∀ w ∈ L, w.before args s = true := by
  intro w hw
  by_cases g : goodWord w = true
  · exact h1 w (List.mem_filter.mpr ⟨hw, g⟩)
  · refine h3 w (h2 w (List.mem_filter.mpr ⟨hw, ?_⟩))
    show (!goodWord w) = true
    cases hgw : goodWord w
    · rfl
    · exact absurd hgw g
theorem vx_own {args : Array Value} {s : State} {L : List Cond} (h1 : ∀ w ∈ L.filter vx_no, w.before args s = true)
    (hU : (Cond.isRef (.static Bundle.tN "UNASSIGNED_STACK" Bundle.steD)).before args s = true) (hN : (Cond.isRef (.static Bundle.tN "SUPPRESSED_SENTINEL" Bundle.listD)).before args s = true)
    (lU : (Cond.laysStatic Bundle.tN "UNASSIGNED_STACK" Bundle.steD).before args s = true) (lN : (Cond.laysStatic Bundle.tN "SUPPRESSED_SENTINEL" Bundle.listD).before args s = true) : ∀ w ∈ L, w.before args s = true := by
  intro w hw
  by_cases e1 : w = .isRef (.static Bundle.tN "UNASSIGNED_STACK" Bundle.steD)
  · rw [e1]; exact hU
  · by_cases e2 : w = .isRef (.static Bundle.tN "SUPPRESSED_SENTINEL" Bundle.listD)
    · rw [e2]; exact hN
    · by_cases e3 : w = .laysStatic Bundle.tN "UNASSIGNED_STACK" Bundle.steD
      · rw [e3]; exact lU
      · by_cases e4 : w = .laysStatic Bundle.tN "SUPPRESSED_SENTINEL" Bundle.listD
        · rw [e4]; exact lN
        · exact h1 w (List.mem_filter.mpr ⟨hw, by unfold vx_no; rw [decide_eq_true e1, decide_eq_true e2, decide_eq_true e3, decide_eq_true e4]; rfl⟩)
/-- where a static field lies, its class's statics cell in H -/
def vx_L (C n d : String) (A : Nat → Prop) (U : State) (H : Heap) : Prop := ∃ (c : ClassId) (k : Class) (i : Nat) (f : Field) (a : Nat) (cell : Cell), U.vm.findClass C = some c ∧ U.fieldFound? C n d = some (c, k, i, f) ∧ f.isStatic = true ∧ k.statics = some a ∧ H[a]? = some cell ∧ cell.vm.isStatics = true ∧ cell.cls = c ∧ f.slot < cell.slots.size ∧ k.staticTypes[f.slot]? = some f.type ∧ ¬ A a
theorem vx_L.moved {C n d : String} {A : Nat → Prop} {u U : State} {H : Heap} (hvm : u.vm.Alike U.vm) (h : vx_L C n d A u H) : vx_L C n d A U H := by
  obtain ⟨c, k, i, f, a, cell, h1, h2, h3, h4, h5, h6, h7, h8, h9, h10⟩ := h
  obtain ⟨k', hi', he⟩ := State.fieldFound?_setVm hvm h2
  exact ⟨c, k', i, f, a, cell, by rw [hvm.findClass]; exact h1, hi', h3, by rw [he]; exact h4, h5, h6, h7, h8, by rw [he]; exact h9, h10⟩
theorem vx_L.kept {C n d : String} {A : Nat → Prop} {U : State} {H H1 : Heap} (h : vx_L C n d A U H) (hq : ∀ a : Nat, a < H.size → ¬ A a → H1[a]? = H[a]?) : vx_L C n d A U H1 := by
  obtain ⟨c, k, i, f, a, cell, h1, h2, h3, h4, h5, h6, h7, h8, h9, h10⟩ := h
  exact ⟨c, k, i, f, a, cell, h1, h2, h3, h4, by rw [hq a (Array.getElem?_eq_some_iff.mp h5).1 h10]; exact h5, h6, h7, h8, h9, h10⟩
theorem vx_L.narrow {C n d : String} {A B : Nat → Prop} {U : State} {H : Heap} (h : vx_L C n d A U H) (hAB : ∀ q, B q → A q) : vx_L C n d B U H := by
  obtain ⟨c, k, i, f, a, cell, h1, h2, h3, h4, h5, h6, h7, h8, h9, h10⟩ := h
  exact ⟨c, k, i, f, a, cell, h1, h2, h3, h4, h5, h6, h7, h8, h9, fun z => h10 (hAB _ z)⟩
theorem vx_L.word {C n d : String} {A : Nat → Prop} {s : State} {args : Array Value} (h : vx_L C n d A s s.heap) : (Cond.laysStatic C n d).before args s = true := by
  obtain ⟨c, k, i, f, a, cell, h1, h2, h3, h4, h5, h6, h7, h8, h9, -⟩ := h
  show (Cond.laysStatic C n d).holds args s none s [] = true
  exact Cond.laysStatic_of h1 h2 h3 h4 h5 h6 h7 h8 h9
/-- .. and what it holds: null or some reference -/
def vx_Zq (C n d : String) (A : Nat → Prop) (U : State) (H : Heap) : Prop := va_Zq C n d A U H ∧ vx_L C n d A U H
theorem vx_Zq.moved {C n d : String} {A : Nat → Prop} {u U : State} {H : Heap} (hvm : u.vm.Alike U.vm) (h : vx_Zq C n d A u H) : vx_Zq C n d A U H := ⟨va_Zq.moved hvm h.1, vx_L.moved hvm h.2⟩
theorem vx_Zq.kept {C n d : String} {A : Nat → Prop} {U : State} {H H1 : Heap} (h : vx_Zq C n d A U H) (hq : ∀ a : Nat, a < H.size → ¬ A a → H1[a]? = H[a]?) : vx_Zq C n d A U H1 := ⟨va_Zq.kept h.1 hq, vx_L.kept h.2 hq⟩
theorem vx_Zq.narrow {C n d : String} {A B : Nat → Prop} {U : State} {H : Heap} (h : vx_Zq C n d A U H) (hAB : ∀ q, B q → A q) : vx_Zq C n d B U H := ⟨va_Zq.narrow h.1 hAB, vx_L.narrow h.2 hAB⟩
theorem vx_Zqof {args : Array Value} {s : State} {C n d : String} {A : Nat → Prop} (hl : (Cond.laysStatic C n d).before args s = true) (hini : (Cond.initialized C).before args s = true) (h : (Cond.isRef (.static C n d)).before args s = true) (hA : ∀ a : Nat, a < s.heap.size → ¬ A a) : vx_Zq C n d A s s.heap := by
  refine ⟨va_Zqof hl hini h hA, ?_⟩
  obtain ⟨c, k, i, f, a, cell, h1, h2, h3, h4, h5, h6, h7, h8, h9⟩ := Cond.laysStatic_spec hl
  exact ⟨c, k, i, f, a, cell, h1, h2, h3, h4, h5, h6, h7, h8, h9, hA a (Array.getElem?_eq_some_iff.mp h5).1⟩
theorem vx_isRef {C n d : String} {v : Value} {A : Nat → Prop} {s : State} {args : Array Value} (h : va_Z C n d v A s s.heap) (hv : v.isRef = true) : (Cond.isRef (.static C n d)).before args s = true := by
  obtain ⟨cf, kf, fi, f, a, cell, h1, h2, h3, h4, h5, h6, h7, -⟩ := h
  have he : (Term.static C n d).eval args s none [] s = some v := by
    simp [Term.eval, State.fieldNamed?, h1, h2, h4, h5, h6, h7]
  simp only [Cond.before, Cond.holds, Cond.value, he]
  cases v <;> simp_all [Value.isRef]
theorem vx_isRefq {C n d : String} {A : Nat → Prop} {s : State} {args : Array Value} (h : va_Zq C n d A s s.heap) : (Cond.isRef (.static C n d)).before args s = true := by
  rcases h with h | ⟨t, h⟩
  · exact vx_isRef h rfl
  · exact vx_isRef h rfl
/-- the same frame, seen from here: as if the method were called anew in this heap -/
theorem vx_rebase {T : State} (X : Stand p l e R s m args below meth c T locs cells slots) {R' : Room} (hf : R'.frames ≤ R.frames) (hl : R'.locals ≤ R.locals) (hc : cells + R'.cells ≤ R.cells) (hs : slots + R'.slots ≤ R.slots) :
    Stand p l e R' ((T.setVm s.vm).setFrames (.invoking m args :: below)) m args below meth c T [] 0 0 := by
  have htop : (T.setVm s.vm).topJava?.isSome := X.here.top
  have hF : ((T.setVm s.vm).setFrames (.invoking m args :: below)).frames = .invoking m args :: below := State.frames_setFrames _ (State.cur_lt_of_top htop)
  obtain ⟨g₀, hg0⟩ := Option.isSome_iff_exists.mp htop
  obtain ⟨r, hr⟩ := State.topJava?_eq_some.mp hg0
  have hl9 : e.platform.stackLimits (T.setVm s.vm).me = e.platform.stackLimits s.me := X.limits
  have hb9 : (T.setVm s.vm).me.stackBytes = s.me.stackBytes := X.bytes
  refine ⟨X.admits, X.cas, X.clock, hF, ?_, X.hears, X.method, X.code, X.here, X.tail, X.warmed, ?_, ?_, ?_⟩
  · have h := X.room
    have hU : ((T.setVm s.vm).setFrames (.invoking m args :: below)).localsInUse = s.localsInUse := by
      rw [State.localsInUse_invoking hF (meth := meth) (c := c) X.method X.code, State.localsInUse_invoking X.frames X.method X.code]
    simp only [State.hasRoom, Bool.and_eq_true, decide_eq_true_eq] at h ⊢
    obtain ⟨⟨⟨⟨h1, h2, h3, h4, h5, h6⟩, h7⟩, h8⟩, h9⟩ := h
    rw [X.frames, List.length_cons] at h2 h3
    have q1 := X.heapSize
    have q2 := X.used
    simp only [hF, hU, List.length_cons, State.stackLimits_setFrames, State.stackBytes_setFrames, hl9, hb9]
    refine ⟨⟨⟨⟨by omega, by omega, by omega, by omega, by omega, h6⟩, ?_⟩, ?_⟩, X.book⟩
    · show T.heap.size + R'.cells ≤ e.platform.maxCells
      omega
    · show T.slotsUsed + R'.slots ≤ e.platform.maxSlots
      omega
  · rw [State.stackLimits_setFrames]; rfl
  · rw [State.stackBytes_setFrames]; rfl
  · refine ⟨?_, Nat.le_refl _, Nat.le_refl _, ?_, ?_, fun a c9 h9 => ⟨c9, h9, rfl, rfl, fun _ _ => rfl⟩⟩
    · obtain ⟨t, ht, -⟩ := State.frames_cons hr
      show T.setVm s.vm = { ((T.setVm s.vm).setFrames (.invoking m args :: below)).setFrames (T.setVm s.vm).frames with heap := T.heap, slotsUsed := T.slotsUsed }
      rw [State.setFrames_setFrames, State.setFrames_self ht]
      rfl
    · show T.slotsUsed = T.slotsUsed + ((T.heap.toList.drop T.heap.size).map (·.slots.size)).sum
      rw [List.drop_eq_nil_of_le (Nat.le_of_eq Array.length_toList)]
      rfl
    · show ((T.heap.toList.drop T.heap.size).map (·.slots.size)).sum ≤ 0
      rw [List.drop_eq_nil_of_le (Nat.le_of_eq Array.length_toList)]
      exact Nat.le_refl _
/-- 'throw new E()': new; dup; invokespecial; athrow -/
theorem vx_throw0 {cc : ByteArray} {pc : Nat} (hexec : p.tables.exec = Jvm.exec) (hb : c.code = cc) (hl : l.stackTraces = false) {own cls : String} {names : List String} {ik ic mc ms : Nat} {A : Nat → Prop}
    (hown : s.vm.findClass own = some m.cls) (hcls : Bundle.fit cls = true) (hnames : ∀ n ∈ names, Bundle.fit n = true)
    (hk : (Cond.classLink own ik cls).before args s = true) (hini : (Cond.initialized cls).before args s = true) (hat : ∀ w ∈ vx_at0 own ic cls names, w.before args s = true)
    (hgood : ∀ w ∈ Cond.classLink own ik cls :: Cond.initialized cls :: vx_at0 own ic cls names, vx_ot w = true)
    (hU : vx_Zq Bundle.tN "UNASSIGNED_STACK" Bundle.steD A s s.heap) (hN : vx_Zq Bundle.tN "SUPPRESSED_SENTINEL" Bundle.listD A s s.heap) (hS : va_S A s.heap H locs) (hsize : ls.size = c.maxLocals)
    (d0 : decode cc pc = .ok (.new ik, 3)) (d3 : decode cc (pc + 3) = .ok (.dup, 1)) (d4 : decode cc (pc + 4) = .ok (.invokespecial ic, 3)) (d7 : decode cc (pc + 7) = .ok (.athrow, 1))
    (hout : ∀ x ∈ c.exceptionTable.toList, covers x (pc + 7) = false)
    (hRframes : names.length + 3 < R.frames) (hRlocals : (rest.map fun v => v.category).sum + (13 * (names.length + 1) + 42) ≤ R.locals) (hRcells : cells + 1 ≤ R.cells) (hRslots : slots + 6 ≤ R.slots) (hlocks : meth.locks = false)
    (hx : ∀ t : State, s.vm.Alike t.vm → H.size ≤ t.heap.size → (∀ q : Nat, q < H.size → t.heap[q]? = H[q]?) → XC cls s t)
    (hf : ∀ z ∈ locs, free z.base) (hc : cells + 1 ≤ mc) (hs : slots + 6 ≤ ms) :
    W p l e R s m args below meth c H locs cells slots (vx_MQ below Qc XC args s mc ms free) (F0 m pc ls rest) := by
  intro T hT X
  have htr : e.platform.stackTraces = false := (show e.platform.stackTraces = l.stackTraces by rw [X.admits.platform]).trans hl
  have Y := vx_rebase X (R' := { frames := R.frames, locals := R.locals, cells := 1, slots := 6 }) (Nat.le_refl _) (Nat.le_refl _) hRcells hRslots
  obtain ⟨s', hA⟩ : ∃ z, z = (T.setVm s.vm).setFrames (.invoking m args :: below) := ⟨_, rfl⟩
  rw [← hA] at Y
  have hvm : s'.vm = s.vm := by rw [hA]; rfl
  have hhp : s'.heap = H := by rw [hA]; exact hT
  have hW0 : s.WarmedH s'.vm := by rw [hvm]; exact State.WarmedH.refl s
  have hat' : ∀ w ∈ vx_at0 own ic cls names, w.before args s' = true := fun w hw => vx_ot_at hW0 hvm.symm (hgood w (List.mem_cons_of_mem _ (List.mem_cons_of_mem _ hw))) (hat w hw)
  have hk' : (Cond.classLink own ik cls).before args s' = true := vx_ot_at hW0 hvm.symm (hgood _ List.mem_cons_self) hk
  have hini' : (Cond.initialized cls).before args s' = true := vx_ot_at hW0 hvm.symm (hgood _ (List.mem_cons_of_mem _ List.mem_cons_self)) hini
  have hU' : vx_Zq Bundle.tN "UNASSIGNED_STACK" Bundle.steD A s' s'.heap := by rw [hhp]; exact vx_Zq.moved hW0.alike (hU.kept hS.2.1)
  have hN' : vx_Zq Bundle.tN "SUPPRESSED_SENTINEL" Bundle.listD A s' s'.heap := by rw [hhp]; exact vx_Zq.moved hW0.alike (hN.kept hS.2.1)
  have h : ∀ w ∈ Bundle.ownAtoms0 own ic cls names, w.before args s' = true := vx_own hat' (vx_isRefq hU'.1) (vx_isRefq hN'.1) hU'.2.word hN'.2.word
  have hown' : s'.vm.findClass own = some m.cls := by rw [hvm]; exact hown
  have hins : (Cond.instantiable cls 6).before args s' = true := h _ (by simp [Bundle.ownAtoms0])
  obtain ⟨vm₁, cX, kX, hfX, hkX, -, -, X₁, st1⟩ := Y.newCold hexec (own := own) (C := cls) (index := ik) (n := 6) hown' hk' hins hini'
    (g := F0 m pc ls rest) rfl (by rw [hb]; exact d0) (Nat.le_refl _) (Nat.le_refl _)
  generalize hT1 : (T.setVm vm₁).pushCell { cls := cX, slots := kX.instanceTypes.map defaultValue, vm := .none } = T1 at X₁ st1
  have hcat : (Value.ref T.heap.size).category = 1 := rfl
  have hcellA : T1.heap[T.heap.size]? = some (freshCell cX kX) := by rw [← hT1]; exact State.heap_pushCell_size _ _
  have d3' : decode c.code (pc + 3) = .ok (.dup, 1) := by rw [hb]; exact d3
  obtain ⟨U, hsteps, hrun, hend, hW, hsame, ce, hce, hO⟩ := X₁.ctorThrow0 hexec htr (own := own) (cls := cls) (names := names) (ic := ic) hown' hcls hnames h (fun x hx => nomatch hx) hfX hkX hcellA (by rw [hhp, hT]; exact Nat.le_refl _)
    (g := { method := m, pc := pc + 4, locals := ls, stack := .ref T.heap.size :: .ref T.heap.size :: rest, locked := none }) rfl hsize rfl rfl (rest := rest) rfl
    (by rw [hb]; exact d4) (by rw [hb]; exact d7) hout hRframes (by simp only [List.map_cons, List.sum_cons, hcat]; omega) hlocks
  obtain ⟨f1, f2⟩ := vx_frame hsame
  rw [hhp] at f1 f2
  have hWs : s.WarmedH U.vm := State.WarmedH.trans hW0 hW
  have hcl : s.vm.findClass cls = some ce.cls := by
    have h9 := hO.cls
    rw [hvm] at h9
    exact h9
  have hall : s.sameButNew ({ U with vm := s.vm } : State) locs mc ms := by
    subst hA
    obtain ⟨e1, e2⟩ := hsame
    rw [State.setFrames_setFrames] at e1
    have h2 : (T.setVm s.vm).sameButNew ({ U with vm := s.vm } : State) [] (0 + 1) (0 + 6) := ⟨e1, e2⟩
    have h3 := X.same.trans h2
    rw [List.append_nil] at h3
    exact h3.mono hc hs
  refine ⟨U, ?_, .threw T.heap.size, hrun, hend, Or.inr ⟨T.heap.size, rfl, cls, ce, locs, hx U hWs.alike f1 (fun q hq => f2 q hq (fun z hz => nomatch hz)), hce, hO.vm, hcl, hWs, hall, hf⟩⟩
  refine st1 _ ?_
  show Steps p.tables e below (T1.setTop { method := m, pc := pc + 3, locals := ls, stack := .ref T.heap.size :: rest, locked := none }) _
  jvm_step X₁.here [X₁.here.top, hexec, d3', Value.category]
  exact hsteps
/-- 'throw new E("text")': new; dup; ldc; invokespecial; athrow -/
theorem vx_throwS {cc : ByteArray} {pc : Nat} (hexec : p.tables.exec = Jvm.exec) (hb : c.code = cc) (hl : l.stackTraces = false) {own cls text : String} {names : List String} {ik is ic mc ms sa : Nat} {A : Nat → Prop}
    (hown : s.vm.findClass own = some m.cls) (hcls : Bundle.fit cls = true) (hnames : ∀ n ∈ names, Bundle.fit n = true)
    (hk : (Cond.classLink own ik cls).before args s = true) (hini : (Cond.initialized cls).before args s = true) (hstr : vk_R own is text sa s) (hat : ∀ w ∈ vx_atS own ic cls names, w.before args s = true)
    (hgood : ∀ w ∈ Cond.classLink own ik cls :: Cond.initialized cls :: vx_atS own ic cls names, vx_ot w = true)
    (hU : vx_Zq Bundle.tN "UNASSIGNED_STACK" Bundle.steD A s s.heap) (hN : vx_Zq Bundle.tN "SUPPRESSED_SENTINEL" Bundle.listD A s s.heap) (hS : va_S A s.heap H locs) (hsize : ls.size = c.maxLocals)
    (d0 : decode cc pc = .ok (.new ik, 3)) (d3 : decode cc (pc + 3) = .ok (.dup, 1)) (d4 : decode cc (pc + 4) = .ok (.ldc is, 2)) (d6 : decode cc (pc + 6) = .ok (.invokespecial ic, 3)) (d9 : decode cc (pc + 9) = .ok (.athrow, 1))
    (hout : ∀ x ∈ c.exceptionTable.toList, covers x (pc + 9) = false)
    (hRframes : names.length + 3 < R.frames) (hRlocals : (rest.map fun v => v.category).sum + (13 * (names.length + 1) + 43) ≤ R.locals) (hRcells : cells + 1 ≤ R.cells) (hRslots : slots + 6 ≤ R.slots) (hlocks : meth.locks = false)
    (hx : ∀ t : State, s.vm.Alike t.vm → H.size ≤ t.heap.size → (∀ q : Nat, q < H.size → t.heap[q]? = H[q]?) → XC cls s t)
    (hf : ∀ z ∈ locs, free z.base) (hc : cells + 1 ≤ mc) (hs : slots + 6 ≤ ms) :
    W p l e R s m args below meth c H locs cells slots (vx_MQ below Qc XC args s mc ms free) (F0 m pc ls rest) := by
  intro T hT X
  have htr : e.platform.stackTraces = false := (show e.platform.stackTraces = l.stackTraces by rw [X.admits.platform]).trans hl
  have Y := vx_rebase X (R' := { frames := R.frames, locals := R.locals, cells := 1, slots := 6 }) (Nat.le_refl _) (Nat.le_refl _) hRcells hRslots
  obtain ⟨s', hA⟩ : ∃ z, z = (T.setVm s.vm).setFrames (.invoking m args :: below) := ⟨_, rfl⟩
  rw [← hA] at Y
  have hvm : s'.vm = s.vm := by rw [hA]; rfl
  have hhp : s'.heap = H := by rw [hA]; exact hT
  have hW0 : s.WarmedH s'.vm := by rw [hvm]; exact State.WarmedH.refl s
  have hat' : ∀ w ∈ vx_atS own ic cls names, w.before args s' = true := fun w hw => vx_ot_at hW0 hvm.symm (hgood w (List.mem_cons_of_mem _ (List.mem_cons_of_mem _ hw))) (hat w hw)
  have hk' : (Cond.classLink own ik cls).before args s' = true := vx_ot_at hW0 hvm.symm (hgood _ List.mem_cons_self) hk
  have hini' : (Cond.initialized cls).before args s' = true := vx_ot_at hW0 hvm.symm (hgood _ (List.mem_cons_of_mem _ List.mem_cons_self)) hini
  have hU' : vx_Zq Bundle.tN "UNASSIGNED_STACK" Bundle.steD A s' s'.heap := by rw [hhp]; exact vx_Zq.moved hW0.alike (hU.kept hS.2.1)
  have hN' : vx_Zq Bundle.tN "SUPPRESSED_SENTINEL" Bundle.listD A s' s'.heap := by rw [hhp]; exact vx_Zq.moved hW0.alike (hN.kept hS.2.1)
  have h : ∀ w ∈ Bundle.ownAtoms own ic cls names, w.before args s' = true := vx_own hat' (vx_isRefq hU'.1) (vx_isRefq hN'.1) hU'.2.word hN'.2.word
  have hown' : s'.vm.findClass own = some m.cls := by rw [hvm]; exact hown
  have hins : (Cond.instantiable cls 6).before args s' = true := h _ (by simp [Bundle.ownAtoms])
  obtain ⟨vm₁, cX, kX, hfX, hkX, -, -, X₁, st1⟩ := Y.newCold hexec (own := own) (C := cls) (index := ik) (n := 6) hown' hk' hins hini'
    (g := F0 m pc ls rest) rfl (by rw [hb]; exact d0) (Nat.le_refl _) (Nat.le_refl _)
  generalize hT1 : (T.setVm vm₁).pushCell { cls := cX, slots := kX.instanceTypes.map defaultValue, vm := .none } = T1 at X₁ st1
  have hcat : (Value.ref T.heap.size).category = 1 := rfl
  have hcellA : T1.heap[T.heap.size]? = some (freshCell cX kX) := by rw [← hT1]; exact State.heap_pushCell_size _ _
  have d3' : decode c.code (pc + 3) = .ok (.dup, 1) := by rw [hb]; exact d3
  have d4' : decode c.code (pc + 4) = .ok (.ldc is, 2) := by rw [hb]; exact d4
  have hstr' : vk_R own is text sa s' := vk_R.warm hW0 hstr
  obtain ⟨U, hsteps, hrun, hend, hW, hsame, ce, hce, hO⟩ := X₁.ctorThrowS hexec htr (own := own) (cls := cls) (names := names) (ic := ic) hown' hcls hnames h (fun x hx => nomatch hx) hfX hkX hcellA (by rw [hhp, hT]; exact Nat.le_refl _) (msg := .ref sa) rfl
    (g := { method := m, pc := pc + 6, locals := ls, stack := .ref sa :: .ref T.heap.size :: .ref T.heap.size :: rest, locked := none }) rfl hsize rfl rfl (rest := rest) rfl
    (by rw [hb]; exact d6) (by rw [hb]; exact d9) hout hRframes (by simp only [List.map_cons, List.sum_cons, hcat]; omega) hlocks
  obtain ⟨f1, f2⟩ := vx_frame hsame
  rw [hhp] at f1 f2
  have hWs : s.WarmedH U.vm := State.WarmedH.trans hW0 hW
  have hcl : s.vm.findClass cls = some ce.cls := by
    have h9 := hO.cls
    rw [hvm] at h9
    exact h9
  have hall : s.sameButNew ({ U with vm := s.vm } : State) locs mc ms := by
    subst hA
    obtain ⟨e1, e2⟩ := hsame
    rw [State.setFrames_setFrames] at e1
    have h2 : (T.setVm s.vm).sameButNew ({ U with vm := s.vm } : State) [] (0 + 1) (0 + 6) := ⟨e1, e2⟩
    have h3 := X.same.trans h2
    rw [List.append_nil] at h3
    exact h3.mono hc hs
  refine ⟨U, ?_, .threw T.heap.size, hrun, hend, Or.inr ⟨T.heap.size, rfl, cls, ce, locs, hx U hWs.alike f1 (fun q hq => f2 q hq (fun z hz => nomatch hz)), hce, hO.vm, hcl, hWs, hall, hf⟩⟩
  refine st1 _ ?_
  show Steps p.tables e below (T1.setTop { method := m, pc := pc + 3, locals := ls, stack := .ref T.heap.size :: rest, locked := none }) _
  jvm_step X₁.here [X₁.here.top, hexec, d3', Value.category]
  exact X₁.ldcString hexec (own := own) (text := text) (index := is) (a := sa) hown' hstr'.1 hstr'.2
    (g := { method := m, pc := pc + 4, locals := ls, stack := .ref T.heap.size :: .ref T.heap.size :: rest, locked := none }) rfl d4' _ hsteps
/-- 'throw new E("text")', the text by a wide index -/
theorem vx_throwSW {cc : ByteArray} {pc : Nat} (hexec : p.tables.exec = Jvm.exec) (hb : c.code = cc) (hl : l.stackTraces = false) {own cls text : String} {names : List String} {ik is ic mc ms sa : Nat} {A : Nat → Prop}
    (hown : s.vm.findClass own = some m.cls) (hcls : Bundle.fit cls = true) (hnames : ∀ n ∈ names, Bundle.fit n = true)
    (hk : (Cond.classLink own ik cls).before args s = true) (hini : (Cond.initialized cls).before args s = true) (hstr : vk_R own is text sa s) (hat : ∀ w ∈ vx_atS own ic cls names, w.before args s = true)
    (hgood : ∀ w ∈ Cond.classLink own ik cls :: Cond.initialized cls :: vx_atS own ic cls names, vx_ot w = true)
    (hU : vx_Zq Bundle.tN "UNASSIGNED_STACK" Bundle.steD A s s.heap) (hN : vx_Zq Bundle.tN "SUPPRESSED_SENTINEL" Bundle.listD A s s.heap) (hS : va_S A s.heap H locs) (hsize : ls.size = c.maxLocals)
    (d0 : decode cc pc = .ok (.new ik, 3)) (d3 : decode cc (pc + 3) = .ok (.dup, 1)) (d4 : decode cc (pc + 4) = .ok (.ldc_w is, 3)) (d7 : decode cc (pc + 7) = .ok (.invokespecial ic, 3)) (d10 : decode cc (pc + 10) = .ok (.athrow, 1))
    (hout : ∀ x ∈ c.exceptionTable.toList, covers x (pc + 10) = false)
    (hRframes : names.length + 3 < R.frames) (hRlocals : (rest.map fun v => v.category).sum + (13 * (names.length + 1) + 43) ≤ R.locals) (hRcells : cells + 1 ≤ R.cells) (hRslots : slots + 6 ≤ R.slots) (hlocks : meth.locks = false)
    (hx : ∀ t : State, s.vm.Alike t.vm → H.size ≤ t.heap.size → (∀ q : Nat, q < H.size → t.heap[q]? = H[q]?) → XC cls s t)
    (hf : ∀ z ∈ locs, free z.base) (hc : cells + 1 ≤ mc) (hs : slots + 6 ≤ ms) :
    W p l e R s m args below meth c H locs cells slots (vx_MQ below Qc XC args s mc ms free) (F0 m pc ls rest) := by
  intro T hT X
  have htr : e.platform.stackTraces = false := (show e.platform.stackTraces = l.stackTraces by rw [X.admits.platform]).trans hl
  have Y := vx_rebase X (R' := { frames := R.frames, locals := R.locals, cells := 1, slots := 6 }) (Nat.le_refl _) (Nat.le_refl _) hRcells hRslots
  obtain ⟨s', hA⟩ : ∃ z, z = (T.setVm s.vm).setFrames (.invoking m args :: below) := ⟨_, rfl⟩
  rw [← hA] at Y
  have hvm : s'.vm = s.vm := by rw [hA]; rfl
  have hhp : s'.heap = H := by rw [hA]; exact hT
  have hW0 : s.WarmedH s'.vm := by rw [hvm]; exact State.WarmedH.refl s
  have hat' : ∀ w ∈ vx_atS own ic cls names, w.before args s' = true := fun w hw => vx_ot_at hW0 hvm.symm (hgood w (List.mem_cons_of_mem _ (List.mem_cons_of_mem _ hw))) (hat w hw)
  have hk' : (Cond.classLink own ik cls).before args s' = true := vx_ot_at hW0 hvm.symm (hgood _ List.mem_cons_self) hk
  have hini' : (Cond.initialized cls).before args s' = true := vx_ot_at hW0 hvm.symm (hgood _ (List.mem_cons_of_mem _ List.mem_cons_self)) hini
  have hU' : vx_Zq Bundle.tN "UNASSIGNED_STACK" Bundle.steD A s' s'.heap := by rw [hhp]; exact vx_Zq.moved hW0.alike (hU.kept hS.2.1)
  have hN' : vx_Zq Bundle.tN "SUPPRESSED_SENTINEL" Bundle.listD A s' s'.heap := by rw [hhp]; exact vx_Zq.moved hW0.alike (hN.kept hS.2.1)
  have h : ∀ w ∈ Bundle.ownAtoms own ic cls names, w.before args s' = true := vx_own hat' (vx_isRefq hU'.1) (vx_isRefq hN'.1) hU'.2.word hN'.2.word
  have hown' : s'.vm.findClass own = some m.cls := by rw [hvm]; exact hown
  have hins : (Cond.instantiable cls 6).before args s' = true := h _ (by simp [Bundle.ownAtoms])
  obtain ⟨vm₁, cX, kX, hfX, hkX, -, -, X₁, st1⟩ := Y.newCold hexec (own := own) (C := cls) (index := ik) (n := 6) hown' hk' hins hini'
    (g := F0 m pc ls rest) rfl (by rw [hb]; exact d0) (Nat.le_refl _) (Nat.le_refl _)
  generalize hT1 : (T.setVm vm₁).pushCell { cls := cX, slots := kX.instanceTypes.map defaultValue, vm := .none } = T1 at X₁ st1
  have hcat : (Value.ref T.heap.size).category = 1 := rfl
  have hcellA : T1.heap[T.heap.size]? = some (freshCell cX kX) := by rw [← hT1]; exact State.heap_pushCell_size _ _
  have d3' : decode c.code (pc + 3) = .ok (.dup, 1) := by rw [hb]; exact d3
  have d4' : decode c.code (pc + 4) = .ok (.ldc_w is, 3) := by rw [hb]; exact d4
  have hstr' : vk_R own is text sa s' := vk_R.warm hW0 hstr
  obtain ⟨U, hsteps, hrun, hend, hW, hsame, ce, hce, hO⟩ := X₁.ctorThrowS hexec htr (own := own) (cls := cls) (names := names) (ic := ic) hown' hcls hnames h (fun x hx => nomatch hx) hfX hkX hcellA (by rw [hhp, hT]; exact Nat.le_refl _) (msg := .ref sa) rfl
    (g := { method := m, pc := pc + 7, locals := ls, stack := .ref sa :: .ref T.heap.size :: .ref T.heap.size :: rest, locked := none }) rfl hsize rfl rfl (rest := rest) rfl
    (by rw [hb]; exact d7) (by rw [hb]; exact d10) hout hRframes (by simp only [List.map_cons, List.sum_cons, hcat]; omega) hlocks
  obtain ⟨f1, f2⟩ := vx_frame hsame
  rw [hhp] at f1 f2
  have hWs : s.WarmedH U.vm := State.WarmedH.trans hW0 hW
  have hcl : s.vm.findClass cls = some ce.cls := by
    have h9 := hO.cls
    rw [hvm] at h9
    exact h9
  have hall : s.sameButNew ({ U with vm := s.vm } : State) locs mc ms := by
    subst hA
    obtain ⟨e1, e2⟩ := hsame
    rw [State.setFrames_setFrames] at e1
    have h2 : (T.setVm s.vm).sameButNew ({ U with vm := s.vm } : State) [] (0 + 1) (0 + 6) := ⟨e1, e2⟩
    have h3 := X.same.trans h2
    rw [List.append_nil] at h3
    exact h3.mono hc hs
  refine ⟨U, ?_, .threw T.heap.size, hrun, hend, Or.inr ⟨T.heap.size, rfl, cls, ce, locs, hx U hWs.alike f1 (fun q hq => f2 q hq (fun z hz => nomatch hz)), hce, hO.vm, hcl, hWs, hall, hf⟩⟩
  refine st1 _ ?_
  show Steps p.tables e below (T1.setTop { method := m, pc := pc + 3, locals := ls, stack := .ref T.heap.size :: rest, locked := none }) _
  jvm_step X₁.here [X₁.here.top, hexec, d3', Value.category]
  exact X₁.ldcStringW hexec (own := own) (text := text) (index := is) (a := sa) hown' hstr'.1 hstr'.2
    (g := { method := m, pc := pc + 4, locals := ls, stack := .ref T.heap.size :: .ref T.heap.size :: rest, locked := none }) rfl d4' _ hsteps
end Ends
section Bodies
variable {l : Launch}
theorem vx_ofW {y : MethodName} {ws ws' : List Cond} {rm : Room} {Pc : Array Value → State → Prop} {Qc : Array Value → State → Outcome → State → Prop} {XC : String → State → State → Prop} {mc ms : Nat} {free : Addr → Prop} {cc : ByteArray} {maxL : Nat} {ret : Option FieldType}
    (hy : plainName y.cls = true) (hw : ws = Cond.code y cc maxL ret :: ws')
    (body : ∀ p e s m args below meth c s₁, BodyLoose p l y (headSpec ws rm) cc maxL ret e s m args below meth c s₁ → c.maxLocals = maxL → (∀ x ∈ c.exceptionTable.toList, False) → Pc args s →
      W p l e (headSpec ws rm).room s m args below meth c s.heap [] 0 0 (vx_MQ below Qc XC args s mc ms free) (entryFrame m args maxL)) : vx_Met l y ws rm Pc Qc XC mc ms free := by
  refine MetFree.of_bodyS (code := cc) (maxLocals := maxL) (ret := ret) hy ?_ ?_
  · intro args s m h hn
    obtain ⟨meth, c, h1, h2, h3, h4, h5, h6, -, -⟩ := Cond.code_spec hn (atoms_spec (ws := ws) h _ (by rw [hw]; exact List.mem_cons_self))
    exact ⟨meth, c, h1, h2, h3, h4, h5, h6⟩
  · intro p e s m args below meth c s₁ B hml hP _
    have hh0 : s₁.heap = s.heap := by rw [B.state]; rfl
    have ht : ∀ x ∈ c.exceptionTable.toList, False := by
      obtain ⟨meth9, c9, h1, h2, -, -, -, -, h7, -⟩ := Cond.code_spec B.named (atoms_spec (ws := ws) B.pre _ (by rw [hw]; exact List.mem_cons_self))
      cases Option.some.inj (h1.symm.trans B.method)
      cases Option.some.inj (h2.symm.trans (Stand.of_body B).code)
      intro x hx
      rw [Array.isEmpty_iff.mp h7] at hx
      cases hx
    obtain ⟨t, a1, o, b1, b2, b3⟩ := body p e s m args below meth c s₁ B hml ht hP s₁ hh0 (Stand.of_body B)
    exact ⟨t, o, a1, b1, b2, b3⟩
/-- the table of a body with handlers -/
theorem vx_table {p : Program} {x y : MethodName} {S : Spec} {cc bytes : ByteArray} {maxL maxL' : Nat} {ret ret' : Option FieldType} {e : Env} {s s₁ : State} {m : MethodId} {args : Array Value} {below : List Frame} {meth : Method} {c : Code} {hh : List (Nat × Nat × Nat × Nat)}
    (B : BodyLoose p l y S cc maxL ret e s m args below meth c s₁) (h : (Cond.codeWith y bytes maxL' ret' hh).before args s = true) : c.exceptionTable.toList = tableOf hh := by
  obtain ⟨m9, meth9, c9, hn9, h1, h2, -, -, h6, -⟩ := Cond.codeWith_spec h
  cases Option.some.inj (hn9.symm.trans B.named)
  cases Option.some.inj (h1.symm.trans B.method)
  cases Option.some.inj (h2.symm.trans (Stand.of_body B).code)
  rw [← h6, table_eq]
end Bodies
end VXA
/-! ===== END ===== -/
/-! ===== BEGIN a static call of a method with an exception table ===== -/
section VXS
variable {p : Program} {l : Launch} {e : Env} {R : Room} {s : State} {m : MethodId} {args : Array Value} {below : List Frame} {meth : Method} {c : Code} {T : State} {H : Heap} {locs : List Loc} {cells slots : Nat}
abbrev vx_CSW (R : Room) (s : State) (args : Array Value) (own : String) (index : Nat) (y : MethodName) (bytes : ByteArray) (maxL : Nat) (ret : Option FieldType) (hh : List (Nat × Nat × Nat × Nat)) (ws : List Cond) (rm : Room) (mc ms n : Nat) : Prop :=
  (rm.cells = mc ∧ rm.slots = ms ∧ rm.frames + 1 ≤ R.frames ∧ 8 + (maxL + 11) + rm.locals ≤ R.locals ∧ (∀ w ∈ ws, ∀ (a' : Array Value) (U : State), s.WarmedH U.vm → w.before a' U = true) ∧ Cond.codeWith y bytes maxL ret hh ∈ ws) ∧
  (Cond.codeWith y bytes maxL ret hh).before args s = true ∧ (Cond.initialized y.cls).before args s = true ∧ (y.cls ≠ "java/lang/invoke/MethodHandle" ∧ y.cls ≠ "java/lang/invoke/VarHandle") ∧
  (∀ sig, parseMethodDescriptor y.desc = some sig → n = sig.parameters.length) ∧ (Cond.methodLink own index y).before args s = true ∧ (Cond.static y).before args s = true
theorem vx_cwSW {own : String} {index maxL mc ms : Nat} {y : MethodName} {bytes : ByteArray} {ret : Option FieldType} {hh : List (Nat × Nat × Nat × Nat)} {Ts ws ws' : List Cond} {rm : Room} (n : Nat) (ht : ∀ w ∈ Ts, w.before args s = true) (hT : GoodIn Ts (va_wsS own index y ws)) (hw : ws = Cond.codeWith y bytes maxL ret hh :: ws') (hrc : rm.cells = mc) (hrs : rm.slots = ms)
    (hd : y.cls ≠ "java/lang/invoke/MethodHandle" ∧ y.cls ≠ "java/lang/invoke/VarHandle" ∧ (parseMethodDescriptor y.desc).map (fun d => d.parameters.length) = some n) (hR : rm.frames + 1 ≤ R.frames ∧ 8 + (maxL + 11) + rm.locals ≤ R.locals) :
    vx_CSW R s args own index y bytes maxL ret hh ws rm mc ms n := by
  have ok : ∀ w ∈ va_wsS own index y ws, w.before args s = true := fun w h => ht w (hT w h).1
  have hG : GoodIn Ts ws := fun w h => hT w (by unfold va_wsS; exact List.mem_append_right _ h)
  have hc : Cond.codeWith y bytes maxL ret hh ∈ ws := by rw [hw]; exact List.mem_cons_self
  refine ⟨⟨hrc, hrs, hR.1, hR.2, pay_in ht hG, hc⟩, ht _ (hG _ hc).1, ok _ (by simp [va_wsS]), ⟨hd.1, hd.2.1⟩, fun sig h => ?_, ok _ (by simp [va_wsS]), ok _ (by simp [va_wsS])⟩
  have h2 := hd.2.2
  rw [h] at h2
  exact (Option.some.inj h2).symm
theorem vx_callSW (X : Stand p l e R s m args below meth c T locs cells slots) (hexec : p.tables.exec = Jvm.exec) {own : String} {index : Nat} {y : MethodName} {bytes : ByteArray} {maxL : Nat} {ret : Option FieldType} {hh : List (Nat × Nat × Nat × Nat)}
    (hown : s.vm.findClass own = some m.cls) (hlink : (Cond.methodLink own index y).before args s = true) (hstat : (Cond.static y).before args s = true) (hinit : (Cond.initialized y.cls).before args s = true)
    (hcode : (Cond.codeWith y bytes maxL ret hh).before args s = true) (hy : y.cls ≠ "java/lang/invoke/MethodHandle" ∧ y.cls ≠ "java/lang/invoke/VarHandle")
    {W9 : Nat} {Pre : Pt → Array Value → Prop} {Post : Pt → Array Value → Option Value → Pt → Prop} (hK : Back l R p e below s args y 3 W9 Pre Post)
    {g : JFrame} (hg : g.method = m) (hsize : g.locals.size = c.maxLocals) {argsL rest : List Value} (hlen : ∀ sig, parseMethodDescriptor y.desc = some sig → argsL.length = sig.parameters.length)
    (hstack : g.stack = argsL.reverse ++ rest) (hW : 2 * g.monitorRoom + (rest.map fun v => v.category).sum ≤ W9) (hdg : decode c.code g.pc = .ok (.invokestatic index, 3))
    (hpre : ∀ vm₁, s.WarmedH vm₁ → Pre ⟨T.setVm vm₁, locs, cells, slots⟩ argsL.toArray) :
    ∃ (v : Option Value) (vm₁ : Vm) (B : Pt), s.WarmedH vm₁ ∧ Stand p l e R s m args below meth c B.U B.locs B.cells B.slots ∧ Post ⟨T.setVm vm₁, locs, cells, slots⟩ argsL.toArray v B ∧
      ∀ target, Steps p.tables e below (B.U.setTop { g with pc := g.pc + 3, stack := v.toList ++ rest }) target → Steps p.tables e below (T.setTop g) target := by
  obtain ⟨mk, methM, cM, hnamed, hmethM, -, -, -, -, -, -, hsigM⟩ := Cond.codeWith_spec hcode
  have hstatic : methM.isStatic = true := Cond.static_spec hnamed hmethM hstat
  obtain ⟨kP, hkP, -⟩ := className_of_methodNamed hnamed
  have hinitP : kP.init = .initialized := Cond.initialized_spec (findClass_of_methodNamed hnamed) hkP hinit
  obtain ⟨vm₁, X₁, hstep₁⟩ := X.invokestatic hexec hown hlink hnamed hmethM hstatic hkP hinitP hy (g := g) hg (argsL := argsL) (rest := rest) (hlen _ hsigM) hstack hdg
  obtain ⟨v, B, X', hpost, hsteps⟩ := hK m meth c ⟨T.setVm vm₁, locs, cells, slots⟩ { g with stack := rest } (.invokestatic index) mk argsL.toArray X₁ hg hsize hdg hW (X₁.named hnamed) (hpre vm₁ X₁.warmed)
  exact ⟨v, vm₁, B, X₁.warmed, X', hpost, fun target h => hstep₁ _ fun acts => by rw [doInvoke_state]; exact hsteps.trans h⟩
theorem vx_runSW {y : MethodName} {bytes cc : ByteArray} {maxL nL mc ms n index : Nat} {ret : Option FieldType} {hh : List (Nat × Nat × Nat × Nat)} {ws : List Cond} {rm : Room} {Pc : Array Value → State → Prop} {Qc : Array Value → State → Outcome → State → Prop} {free : Addr → Prop} {Ts : List Cond} {own : String} {As rest : List Value} {g : JFrame}
    (S : CallFix p m c cc nL s args Ts own) (hM : Met l y ws rm Pc Qc mc ms free) (cw : vx_CSW R s args own index y bytes maxL ret hh ws rm mc ms n) (hp : PreS s H Pc As)
    (hg : g.method = m) (hn : As.length = n) (hsize : g.locals.size = nL) (hstack : g.stack = As.reverse ++ rest) (hW : 2 * g.monitorRoom + (rest.map fun v => v.category).sum ≤ 8) (hdg : decode cc g.pc = .ok (.invokestatic index, 3)) (hf : cells + mc ≤ R.cells ∧ slots + ms ≤ R.slots) :
    va_Run p l e R s m args below meth c H locs cells slots mc ms g rest (Qc As.toArray) (free) := by
  obtain ⟨⟨hrc, hrs, hfr, hlo, hws, hcw⟩, hcode, hini, hy, hlen, hl, hstt⟩ := cw
  have hK : Back l R p e below s args y 3 8 (PreOf R mc ms Pc) (PostOf Qc mc ms free) := va_backW (hh := hh) (bytes := bytes) (maxL := maxL) (ret := ret) hM hp.1 hrc hrs hfr hlo hws hcw (fun a' U hW => word_at hW (Or.inl (by first | rfl | simp [Cond.onTables, Cond.keeps, Cond.steady])) hini)
  obtain ⟨hx, hb, hml, ho, -⟩ := S
  intro T hT X
  obtain ⟨v, vm₁, ⟨U', l2, c2, s2⟩, hW₁, X', ⟨g', mk, t, L, e1, e2, hq, h1, hL, h2, h3⟩, st⟩ := vx_callSW X hx (hh := hh) (bytes := bytes) (maxL := maxL) (ret := ret) ho hl hstt hini hcode hy hK hg (hsize.trans hml.symm) (argsL := As) (rest := rest) (fun sig h => hn.trans (hlen sig h)) hstack hW (by rw [hb]; exact hdg)
    (fun vm₁ hW₁ => ⟨hf.1, hf.2, hp.2 (T.setVm vm₁) hT hW₁⟩)
  dsimp only [Pt.U, Pt.locs, Pt.cells, Pt.slots] at X' e1 e2 h1 h2 h3 st
  subst h1; subst h2; subst h3
  exact ⟨v, (T.setVm vm₁).calling g' mk As.toArray, t, U', L, hT, X', hL, e1, e2, hq, st⟩
/-- not caught here, past rows that name other classes: it goes on to the caller -/
theorem vx_outP {p : Program} {l : Launch} {e : Env} {R : Room} {s : State} {m : MethodId} {args : Array Value} {below : List Frame} {meth : Method} {c : Code} {H : Heap} {locs : List Loc} {cells slots : Nat} {free : Addr → Prop} {ls : Array Slot} {rest : List Value} {Qc : Array Value → State → Outcome → State → Prop} {XC : String → State → State → Prop}
    {pc : Nat} {own E : String} {ce : Cell} {q : Addr} {mc ms : Nat} (hown : s.vm.findClass own = some m.cls) (hlocks : meth.locks = false)
    (hpass : ∀ z ∈ c.exceptionTable.toList, covers z pc = false ∨ (z.catchType ≠ 0 ∧ ∃ nm : String, (Cond.classLink own z.catchType nm).before args s = true ∧ va_Nc E nm s)) (hcell : H[q]? = some ce) (hv : ce.vm = .none) (hcl : s.vm.findClass E = some ce.cls)
    (hx : ∀ t : State, t.heap = H → s.vm.Alike t.vm → XC E s t) (hf : ∀ z ∈ locs, free z.base) (hc : cells ≤ mc) (hs : slots ≤ ms) :
    vx_W p l e R s m args below meth c H locs cells slots (vx_MQ below Qc XC args s mc ms free) (F0 m pc ls rest) q := by
  intro T hT X
  have hpl : e.platform.magicAccessors = ({} : Platform).magicAccessors := by rw [X.admits.platform]
  obtain ⟨vm', hW', X', st⟩ := X.outThrough hlocks q (g := F0 m pc ls rest) rfl rfl rfl (cell := ce) (by rw [hT]; exact hcell) (by rw [hv]; rfl)
    (by obtain ⟨k9, h9, -⟩ := Vm.findClass_spec hcl; exact ⟨k9, h9⟩) (fun z hz => by
      rcases hpass z hz with h | ⟨hz0, nm, hl1, hn1⟩
      · exact Or.inl h
      · obtain ⟨c6, hc6, hcl6⟩ := Cond.classLink_spec hown hl1 e.platform hpl
        obtain ⟨a8, b8, h1, h2, h3⟩ := hn1
        cases Option.some.inj (h1.symm.trans hcl)
        cases Option.some.inj (h2.symm.trans hc6)
        exact Or.inr ⟨hz0, _, hcl6, h3⟩)
  obtain ⟨g₀, hfr⟩ := X'.frames_eq
  have hcell9 : ((T.setVm vm').setFrames (.throwing q :: below)).heap[q]? = some ce := by
    show T.heap[q]? = some ce
    rw [hT]; exact hcell
  have hend : Ended ((T.setVm vm').setFrames (.throwing q :: below)) below (.threw q) := State.frames_setFrames _ (State.cur_lt_of_frames hfr)
  refine ⟨(T.setVm vm').setFrames (.throwing q :: below), ?_, .threw q, X'.here.running, hend, Or.inr ⟨q, rfl, E, ce, locs, hx _ hT (X'.ends _).1.alike, hcell9, hv, hcl, (X'.ends _).1, (X'.ends _).2.mono hc hs, hf⟩⟩
  rw [X.pushThrowing_eq]
  exact st
end VXS
/-! ===== END ===== -/
/-! ===== BEGIN methods with a table of their own: called by a name, returning or throwing ===== -/
section VXH
/-! vx_backW, vx_callVX, vx_callSX, vx_callVW, vx_runVW, vx_runVX, vx_runSX, vx_ofWH follow the same proofs as their sisters above (Free/Laws.lean, Shelf42/LK1.lean); vx_outP calls Shelf42/NT130.lean (outThrough). -/
section
variable {l : Launch} {R : Room} {p : Program} {e : Env} {below : List Frame} {s : State} {sargs : Array Value} {y : MethodName} {len W9 : Nat}
theorem vx_backW {ws : List Cond} {rm : Room} {Pc : Array Value → State → Prop} {Qc : Array Value → State → Outcome → State → Prop} {XC : String → State → State → Prop} {mc ms : Nat} {free : Addr → Prop} {bytes : ByteArray} {maxL : Nat} {ret : Option FieldType} {hh : List (Nat × Nat × Nat × Nat)}
    (hM : vx_Met l y ws rm Pc Qc XC mc ms free) (hblind : FrameBlind Pc) (hrc : rm.cells = mc) (hrs : rm.slots = ms)
    (hframes : rm.frames + 1 ≤ R.frames) (hlocals : W9 + (maxL + 11) + rm.locals ≤ R.locals)
    (hws : ∀ w ∈ ws, ∀ a' U, s.WarmedH U.vm → w.before a' U = true) (hcode : Cond.codeWith y bytes maxL ret hh ∈ ws) (hinit : ∀ a' U, s.WarmedH U.vm → (Cond.initialized y.cls).before a' U = true) :
    vx_Back l R p e below s sargs y len W9 (PreOf R mc ms Pc) (PostOf Qc mc ms free) (vx_Post XC mc ms free) := by
  intro m meth c A g ig mk a X hg hsize hdg hW hn hp
  have h1 : (headSpec ws rm).pre.before a A.U = true := atoms_intro fun w hw => hws w hw _ _ X.warmed
  have h2 : (Cond.codeWith y bytes maxL ret hh).before a A.U = true := hws _ hcode _ _ X.warmed
  have h3 : (Cond.initialized y.cls).before a A.U = true := hinit _ _ X.warmed
  have h4 : A.cells + (headSpec ws rm).room.cells ≤ R.cells := by rw [show (headSpec ws rm).room.cells = mc from hrc]; exact hp.1
  have h5 : A.slots + (headSpec ws rm).room.slots ≤ R.slots := by rw [show (headSpec ws rm).room.slots = ms from hrs]; exact hp.2.1
  have hPc : Pc a (A.U.calling g mk a) := hblind _ _ _ _ hp.2.2
  obtain ⟨U, Ls, c0, s0⟩ := A
  dsimp only [Pt.U, Pt.locs, Pt.cells, Pt.slots] at h1 h2 h3 h4 h5 X hn hPc ⊢
  obtain ⟨m9, methY, cY, hn9, hmY, hcY, -, hlY, -⟩ := Cond.codeWith_spec h2
  cases Option.some.inj (hn9.symm.trans hn)
  obtain ⟨kY, hkY, -⟩ := className_of_methodNamed hn
  have hinitY : kY.init = .initialized := Cond.initialized_spec (findClass_of_methodNamed hn) hkY h3
  have h : At U g.method c below := by rw [hg]; exact X.here
  have hlocals9 : W9 + (maxL + 11) + (headSpec ws rm).room.locals ≤ R.locals := hlocals
  have happ : (headSpec ws rm).appliesLoose y e.platform (U.calling g mk a) = true :=
    Spec.appliesLoose_calling (g := g) h hdg hn hkY hinitY
      (X.room_calling (g := g) (R' := (headSpec ws rm).room) hsize hmY hcY hframes (by rw [hlY]; omega) h4 h5) h1
  obtain ⟨mid, hmid⟩ := h.above
  have hfr : (U.setTop g).frames = (.java g :: mid) ++ below := by rw [State.frames_setTop' g h.top, hmid]; rfl
  obtain ⟨o, s₂, hsteps, -, hend, hq⟩ := Steps.callFree hM p X.admits X.cas X.clock (acts := []) hfr happ hPc trivial
  have hq' : vx_Q Qc XC mc ms free a (U.calling g mk a) o s₂ := hq
  rw [State.frames_setTop' g h.top] at hend
  obtain ⟨g₀, hg0⟩ := Option.isSome_iff_exists.mp h.top
  obtain ⟨r, hr⟩ := State.topJava?_eq_some.mp hg0
  have hr' : (({ U with heap := s₂.heap, slotsUsed := s₂.slotsUsed } : State).setVm s₂.vm).frames = .java g₀ :: r := hr
  rcases hq' with ⟨hqc, L, hfe, hL⟩ | ⟨q, rfl, E, ce, L, hx, hce, hcv, hcl, hW₂, hsm, hL⟩
  · obtain ⟨⟨v, rfl⟩, hW₂, e2, q2, q3, q4, q5, q6⟩ := id hfe
    have e3 : s₂ = ({ (U.calling g mk a).setFrames s₂.frames with heap := s₂.heap, slotsUsed := s₂.slotsUsed } : State).setVm s₂.vm := by
      have : s₂ = ({ s₂ with vm := (U.calling g mk a).vm } : State).setVm s₂.vm := rfl
      rw [e2] at this
      exact this
    obtain ⟨c₂, i₂, len₂, hc₂, hd₂, hf₂⟩ := hend
    have hW' : U.WarmedH s₂.vm := hW₂
    have hcc : c₂ = c := by
      have h1 : s₂.code? g.method = U.code? g.method := by
        rw [State.code?_eq, State.code?_eq, hW'.alike.method?]
      exact Option.some.inj (hc₂.symm.trans (h1.trans h.code))
    subst hcc
    have hlen : len₂ = len := by rw [hdg] at hd₂; cases hd₂; rfl
    subst hlen
    have hs₂ : s₂ = (({ U with heap := s₂.heap, slotsUsed := s₂.slotsUsed } : State).setVm s₂.vm).setTop { g with pc := g.pc + len₂, stack := v.toList ++ g.stack } := by
      refine e3.trans ?_
      rw [hf₂, State.calling_eq h.top, State.setFrames_setFrames, State.setTop_of_frames _ hr', hr]
      rfl
    have hsame : U.sameButNew ({ U with heap := s₂.heap, slotsUsed := s₂.slotsUsed } : State) L mc ms := by
      refine ⟨?_, q2, q3, q4, q5, q6⟩
      obtain ⟨t, ht, -⟩ := State.frames_cons hr
      show ({ U with heap := s₂.heap, slotsUsed := s₂.slotsUsed } : State) = { U.setFrames U.frames with heap := s₂.heap, slotsUsed := s₂.slotsUsed }
      rw [State.setFrames_self ht]
    subst hg
    refine Or.inl ⟨v, ⟨(({ U with heap := s₂.heap, slotsUsed := s₂.slotsUsed } : State).setVm s₂.vm), Ls ++ L, c0 + mc, s0 + ms⟩,
      ⟨X.admits, X.cas, X.clock, X.frames, X.room, X.hears, X.method, X.code, (X.here.setHeapUsed s₂.heap s₂.slotsUsed).setVm hW'.alike, X.tail, State.WarmedH.trans X.warmed hW', X.limits, X.bytes, X.same.trans (hsame.setVm s.vm)⟩,
      ⟨g, mk, s₂, L, rfl, rfl, hqc, rfl, hL, rfl, rfl⟩, ?_⟩
    show Steps p.tables e below _ ((({ U with heap := s₂.heap, slotsUsed := s₂.slotsUsed } : State).setVm s₂.vm).setTop { g with pc := g.pc + len₂, stack := v.toList ++ g.stack })
    rw [← hs₂]
    exact hsteps
  · obtain ⟨e2, q2, q3, q4, q5, q6⟩ := id hsm
    have e3 : s₂ = ({ (U.calling g mk a).setFrames s₂.frames with heap := s₂.heap, slotsUsed := s₂.slotsUsed } : State).setVm s₂.vm := by
      have : s₂ = ({ s₂ with vm := (U.calling g mk a).vm } : State).setVm s₂.vm := rfl
      rw [e2] at this
      exact this
    have hf₂ : s₂.frames = .throwing q :: .java g :: U.frames.tail := hend
    have hW' : U.WarmedH s₂.vm := hW₂
    have hs₂ : s₂ = ((({ U with heap := s₂.heap, slotsUsed := s₂.slotsUsed } : State).setVm s₂.vm).setTop g).pushFrame (.throwing q) := by
      refine e3.trans ?_
      rw [hf₂, State.calling_eq h.top, State.setFrames_setFrames, State.pushFrame, State.frames_setTop _ hr', State.setTop_of_frames _ hr', State.setFrames_setFrames, hr]
      rfl
    have hsame : U.sameButNew ({ U with heap := s₂.heap, slotsUsed := s₂.slotsUsed } : State) L mc ms := by
      refine ⟨?_, q2, q3, q4, q5, q6⟩
      obtain ⟨t, ht, -⟩ := State.frames_cons hr
      show ({ U with heap := s₂.heap, slotsUsed := s₂.slotsUsed } : State) = { U.setFrames U.frames with heap := s₂.heap, slotsUsed := s₂.slotsUsed }
      rw [State.setFrames_self ht]
    subst hg
    refine Or.inr ⟨q, ⟨(({ U with heap := s₂.heap, slotsUsed := s₂.slotsUsed } : State).setVm s₂.vm), Ls ++ L, c0 + mc, s0 + ms⟩,
      ⟨X.admits, X.cas, X.clock, X.frames, X.room, X.hears, X.method, X.code, (X.here.setHeapUsed s₂.heap s₂.slotsUsed).setVm hW'.alike, X.tail, State.WarmedH.trans X.warmed hW', X.limits, X.bytes, X.same.trans (hsame.setVm s.vm)⟩,
      ⟨g, mk, s₂, L, E, ce, rfl, rfl, hx, hce, hcv, hcl, rfl, hL, rfl, rfl⟩, ?_⟩
    show Steps p.tables e below _ (((({ U with heap := s₂.heap, slotsUsed := s₂.slotsUsed } : State).setVm s₂.vm).setTop g).pushFrame (.throwing q))
    rw [← hs₂]
    exact hsteps
end
variable {p : Program} {l : Launch} {e : Env} {R : Room} {s : State} {m : MethodId} {args : Array Value} {below : List Frame} {meth : Method} {c : Code} {T : State} {H : Heap} {locs : List Loc} {cells slots : Nat}
theorem vx_callVX (X : Stand p l e R s m args below meth c T locs cells slots) (hexec : p.tables.exec = Jvm.exec) {own C : String} {index : Nat} {y : MethodName} {bytes : ByteArray} {maxL : Nat} {ret : Option FieldType} {hh : List (Nat × Nat × Nat × Nat)}
    (hown : s.vm.findClass own = some m.cls) (hlink : (Cond.methodLink own index y).before args s = true) (hinst : (Cond.instanceMethod y).before args s = true) (hsel : (Cond.selects C y y).before args s = true)
    (hcode : (Cond.codeWith y bytes maxL ret hh).before args s = true) (hy : y.cls ≠ "java/lang/invoke/MethodHandle" ∧ y.cls ≠ "java/lang/invoke/VarHandle")
    {W9 : Nat} {Pre : Pt → Array Value → Prop} {Post : Pt → Array Value → Option Value → Pt → Prop} {PostX : Pt → Array Value → Addr → Pt → Prop} (hK : vx_Back l R p e below s args y 3 W9 Pre Post PostX)
    {b : Addr} {cellB : Cell} (hcell : T.heap[b]? = some cellB) (hobj : cellB.vm.isStatics = false) (hcls : s.vm.findClass C = some cellB.cls)
    {g : JFrame} (hg : g.method = m) (hsize : g.locals.size = c.maxLocals) {argsL rest : List Value} (hlen : ∀ sig, parseMethodDescriptor y.desc = some sig → argsL.length = sig.parameters.length)
    (hstack : g.stack = argsL.reverse ++ .ref b :: rest) (hW : 2 * g.monitorRoom + (rest.map fun v => v.category).sum ≤ W9) (hdg : decode c.code g.pc = .ok (.invokevirtual index, 3))
    (hpre : ∀ vm₁, s.WarmedH vm₁ → Pre ⟨T.setVm vm₁, locs, cells, slots⟩ (Value.ref b :: argsL).toArray) :
    (∃ (v : Option Value) (vm₁ : Vm) (B : Pt), s.WarmedH vm₁ ∧ Stand p l e R s m args below meth c B.U B.locs B.cells B.slots ∧ Post ⟨T.setVm vm₁, locs, cells, slots⟩ (Value.ref b :: argsL).toArray v B ∧
      ∀ target, Steps p.tables e below (B.U.setTop { g with pc := g.pc + 3, stack := v.toList ++ rest }) target → Steps p.tables e below (T.setTop g) target) ∨
    (∃ (q : Addr) (vm₁ : Vm) (B : Pt), s.WarmedH vm₁ ∧ Stand p l e R s m args below meth c B.U B.locs B.cells B.slots ∧ PostX ⟨T.setVm vm₁, locs, cells, slots⟩ (Value.ref b :: argsL).toArray q B ∧
      Steps p.tables e below (T.setTop g) ((B.U.setTop { g with stack := rest }).pushFrame (.throwing q))) := by
  obtain ⟨mk, methM, hnamed, hmethM, hstM, habM⟩ := Cond.instanceMethod_spec hinst
  obtain ⟨m8, methM', cM, hn8, hmethM', -, -, -, -, -, -, hsigM⟩ := Cond.codeWith_spec hcode
  cases Option.some.inj (hn8.symm.trans hnamed)
  cases hmethM.symm.trans hmethM'
  obtain ⟨c2, r2, m2, q1, q2, q3, q4, kP, hkP, hkPi⟩ := Cond.selects_spec hsel
  cases hcls.symm.trans q1
  cases (State.methodFound?_of_named hnamed hy).symm.trans q2
  cases hnamed.symm.trans q3
  have hselP : selectMethod e.platform s.vm cellB.cls mk = .method mk := by rw [Launch.admits_selectMethod X.admits]; exact q4
  obtain ⟨vm₁, X₁, hstep₁⟩ := X.invokevirtual hexec hown hlink hnamed hmethM hstM hkP hkPi hy (a := b) (cell := cellB) hcell
    (fun z h => by rw [h] at hobj; cases hobj) hselP hmethM habM hkP hkPi (g := g) hg (argsL := argsL) (rest := rest) (hlen _ hsigM) hstack hdg
  rcases hK m meth c ⟨T.setVm vm₁, locs, cells, slots⟩ { g with stack := rest } (.invokevirtual index) mk (Value.ref b :: argsL).toArray X₁ hg hsize hdg hW (X₁.named hnamed) (hpre vm₁ X₁.warmed) with ⟨v, B, X', hpost, hsteps⟩ | ⟨q, B, X', hpost, hsteps⟩
  · exact Or.inl ⟨v, vm₁, B, X₁.warmed, X', hpost, fun target h => hstep₁ _ fun acts => by rw [doInvoke_state]; exact hsteps.trans h⟩
  · exact Or.inr ⟨q, vm₁, B, X₁.warmed, X', hpost, hstep₁ _ fun acts => by rw [doInvoke_state]; exact hsteps⟩
theorem vx_callSX (X : Stand p l e R s m args below meth c T locs cells slots) (hexec : p.tables.exec = Jvm.exec) {own : String} {index : Nat} {y : MethodName} {bytes : ByteArray} {maxL : Nat} {ret : Option FieldType} {hh : List (Nat × Nat × Nat × Nat)}
    (hown : s.vm.findClass own = some m.cls) (hlink : (Cond.methodLink own index y).before args s = true) (hstat : (Cond.static y).before args s = true) (hinit : (Cond.initialized y.cls).before args s = true)
    (hcode : (Cond.codeWith y bytes maxL ret hh).before args s = true) (hy : y.cls ≠ "java/lang/invoke/MethodHandle" ∧ y.cls ≠ "java/lang/invoke/VarHandle")
    {W9 : Nat} {Pre : Pt → Array Value → Prop} {Post : Pt → Array Value → Option Value → Pt → Prop} {PostX : Pt → Array Value → Addr → Pt → Prop} (hK : vx_Back l R p e below s args y 3 W9 Pre Post PostX)
    {g : JFrame} (hg : g.method = m) (hsize : g.locals.size = c.maxLocals) {argsL rest : List Value} (hlen : ∀ sig, parseMethodDescriptor y.desc = some sig → argsL.length = sig.parameters.length)
    (hstack : g.stack = argsL.reverse ++ rest) (hW : 2 * g.monitorRoom + (rest.map fun v => v.category).sum ≤ W9) (hdg : decode c.code g.pc = .ok (.invokestatic index, 3))
    (hpre : ∀ vm₁, s.WarmedH vm₁ → Pre ⟨T.setVm vm₁, locs, cells, slots⟩ argsL.toArray) :
    (∃ (v : Option Value) (vm₁ : Vm) (B : Pt), s.WarmedH vm₁ ∧ Stand p l e R s m args below meth c B.U B.locs B.cells B.slots ∧ Post ⟨T.setVm vm₁, locs, cells, slots⟩ argsL.toArray v B ∧
      ∀ target, Steps p.tables e below (B.U.setTop { g with pc := g.pc + 3, stack := v.toList ++ rest }) target → Steps p.tables e below (T.setTop g) target) ∨
    (∃ (q : Addr) (vm₁ : Vm) (B : Pt), s.WarmedH vm₁ ∧ Stand p l e R s m args below meth c B.U B.locs B.cells B.slots ∧ PostX ⟨T.setVm vm₁, locs, cells, slots⟩ argsL.toArray q B ∧
      Steps p.tables e below (T.setTop g) ((B.U.setTop { g with stack := rest }).pushFrame (.throwing q))) := by
  obtain ⟨mk, methM, cM, hnamed, hmethM, -, -, -, -, -, -, hsigM⟩ := Cond.codeWith_spec hcode
  have hstatic : methM.isStatic = true := Cond.static_spec hnamed hmethM hstat
  obtain ⟨kP, hkP, -⟩ := className_of_methodNamed hnamed
  have hinitP : kP.init = .initialized := Cond.initialized_spec (findClass_of_methodNamed hnamed) hkP hinit
  obtain ⟨vm₁, X₁, hstep₁⟩ := X.invokestatic hexec hown hlink hnamed hmethM hstatic hkP hinitP hy (g := g) hg (argsL := argsL) (rest := rest) (hlen _ hsigM) hstack hdg
  rcases hK m meth c ⟨T.setVm vm₁, locs, cells, slots⟩ { g with stack := rest } (.invokestatic index) mk argsL.toArray X₁ hg hsize hdg hW (X₁.named hnamed) (hpre vm₁ X₁.warmed) with ⟨v, B, X', hpost, hsteps⟩ | ⟨q, B, X', hpost, hsteps⟩
  · exact Or.inl ⟨v, vm₁, B, X₁.warmed, X', hpost, fun target h => hstep₁ _ fun acts => by rw [doInvoke_state]; exact hsteps.trans h⟩
  · exact Or.inr ⟨q, vm₁, B, X₁.warmed, X', hpost, hstep₁ _ fun acts => by rw [doInvoke_state]; exact hsteps⟩
theorem vx_callVW (X : Stand p l e R s m args below meth c T locs cells slots) (hexec : p.tables.exec = Jvm.exec) {own C : String} {index : Nat} {y : MethodName} {bytes : ByteArray} {maxL : Nat} {ret : Option FieldType} {hh : List (Nat × Nat × Nat × Nat)}
    (hown : s.vm.findClass own = some m.cls) (hlink : (Cond.methodLink own index y).before args s = true) (hinst : (Cond.instanceMethod y).before args s = true) (hsel : (Cond.selects C y y).before args s = true)
    (hcode : (Cond.codeWith y bytes maxL ret hh).before args s = true) (hy : y.cls ≠ "java/lang/invoke/MethodHandle" ∧ y.cls ≠ "java/lang/invoke/VarHandle")
    {W9 : Nat} {Pre : Pt → Array Value → Prop} {Post : Pt → Array Value → Option Value → Pt → Prop} (hK : Back l R p e below s args y 3 W9 Pre Post)
    {b : Addr} {cellB : Cell} (hcell : T.heap[b]? = some cellB) (hobj : cellB.vm.isStatics = false) (hcls : s.vm.findClass C = some cellB.cls)
    {g : JFrame} (hg : g.method = m) (hsize : g.locals.size = c.maxLocals) {argsL rest : List Value} (hlen : ∀ sig, parseMethodDescriptor y.desc = some sig → argsL.length = sig.parameters.length)
    (hstack : g.stack = argsL.reverse ++ .ref b :: rest) (hW : 2 * g.monitorRoom + (rest.map fun v => v.category).sum ≤ W9) (hdg : decode c.code g.pc = .ok (.invokevirtual index, 3))
    (hpre : ∀ vm₁, s.WarmedH vm₁ → Pre ⟨T.setVm vm₁, locs, cells, slots⟩ (Value.ref b :: argsL).toArray) :
    ∃ (v : Option Value) (vm₁ : Vm) (B : Pt), s.WarmedH vm₁ ∧ Stand p l e R s m args below meth c B.U B.locs B.cells B.slots ∧ Post ⟨T.setVm vm₁, locs, cells, slots⟩ (Value.ref b :: argsL).toArray v B ∧
      ∀ target, Steps p.tables e below (B.U.setTop { g with pc := g.pc + 3, stack := v.toList ++ rest }) target → Steps p.tables e below (T.setTop g) target := by
  obtain ⟨mk, methM, hnamed, hmethM, hstM, habM⟩ := Cond.instanceMethod_spec hinst
  obtain ⟨m8, methM', cM, hn8, hmethM', -, -, -, -, -, -, hsigM⟩ := Cond.codeWith_spec hcode
  cases Option.some.inj (hn8.symm.trans hnamed)
  cases hmethM.symm.trans hmethM'
  obtain ⟨c2, r2, m2, q1, q2, q3, q4, kP, hkP, hkPi⟩ := Cond.selects_spec hsel
  cases hcls.symm.trans q1
  cases (State.methodFound?_of_named hnamed hy).symm.trans q2
  cases hnamed.symm.trans q3
  have hselP : selectMethod e.platform s.vm cellB.cls mk = .method mk := by rw [Launch.admits_selectMethod X.admits]; exact q4
  obtain ⟨vm₁, X₁, hstep₁⟩ := X.invokevirtual hexec hown hlink hnamed hmethM hstM hkP hkPi hy (a := b) (cell := cellB) hcell
    (fun z h => by rw [h] at hobj; cases hobj) hselP hmethM habM hkP hkPi (g := g) hg (argsL := argsL) (rest := rest) (hlen _ hsigM) hstack hdg
  obtain ⟨v, B, X', hpost, hsteps⟩ := hK m meth c ⟨T.setVm vm₁, locs, cells, slots⟩ { g with stack := rest } (.invokevirtual index) mk (Value.ref b :: argsL).toArray X₁ hg hsize hdg hW (X₁.named hnamed) (hpre vm₁ X₁.warmed)
  exact ⟨v, vm₁, B, X₁.warmed, X', hpost, fun target h => hstep₁ _ fun acts => by rw [doInvoke_state]; exact hsteps.trans h⟩
abbrev vx_CVW (R : Room) (s : State) (args : Array Value) (own C : String) (index : Nat) (y : MethodName) (bytes : ByteArray) (maxL : Nat) (ret : Option FieldType) (hh : List (Nat × Nat × Nat × Nat)) (ws : List Cond) (rm : Room) (mc ms n : Nat) : Prop :=
  (rm.cells = mc ∧ rm.slots = ms ∧ rm.frames + 1 ≤ R.frames ∧ 8 + (maxL + 11) + rm.locals ≤ R.locals ∧ (∀ w ∈ ws, ∀ (a' : Array Value) (U : State), s.WarmedH U.vm → w.before a' U = true) ∧ Cond.codeWith y bytes maxL ret hh ∈ ws) ∧
  (Cond.codeWith y bytes maxL ret hh).before args s = true ∧ (Cond.initialized y.cls).before args s = true ∧ (y.cls ≠ "java/lang/invoke/MethodHandle" ∧ y.cls ≠ "java/lang/invoke/VarHandle") ∧
  (∀ sig, parseMethodDescriptor y.desc = some sig → n = sig.parameters.length) ∧ (Cond.methodLink own index y).before args s = true ∧ (Cond.instanceMethod y).before args s = true ∧ (Cond.selects C y y).before args s = true
theorem vx_runVW {y : MethodName} {bytes cc : ByteArray} {maxL nL mc ms n index : Nat} {ret : Option FieldType} {hh : List (Nat × Nat × Nat × Nat)} {ws : List Cond} {rm : Room} {Pc : Array Value → State → Prop} {Qc : Array Value → State → Outcome → State → Prop} {free : Addr → Prop} {Ts : List Cond} {own C : String} {b : Addr} {As rest : List Value} {g : JFrame}
    (S : CallFix p m c cc nL s args Ts own) (hM : Met l y ws rm Pc Qc mc ms free) (cw : vx_CVW R s args own C index y bytes maxL ret hh ws rm mc ms n) (hp : PreV s H C b Pc As)
    (hg : g.method = m) (hn : As.length = n) (hsize : g.locals.size = nL) (hstack : g.stack = As.reverse ++ .ref b :: rest) (hW : 2 * g.monitorRoom + (rest.map fun v => v.category).sum ≤ 8) (hdg : decode cc g.pc = .ok (.invokevirtual index, 3)) (hf : cells + mc ≤ R.cells ∧ slots + ms ≤ R.slots) :
    va_Run p l e R s m args below meth c H locs cells slots mc ms g rest (Qc (Value.ref b :: As).toArray) free := by
  obtain ⟨⟨hrc, hrs, hfr, hlo, hws, hcw⟩, hcode, hini, hy, hlen, hl, hin, hse⟩ := cw
  have hK : Back l R p e below s args y 3 8 (PreOf R mc ms Pc) (PostOf Qc mc ms free) := va_backW (hh := hh) (bytes := bytes) (maxL := maxL) (ret := ret) hM hp.1 hrc hrs hfr hlo hws hcw (fun a' U hW => word_at hW (Or.inl (by first | rfl | simp [Cond.onTables, Cond.keeps, Cond.steady])) hini)
  obtain ⟨hx, hb, hml, ho, -⟩ := S
  obtain ⟨-, ⟨cellB, hcB, hoB, hclB⟩, hPc⟩ := hp
  intro T hT X
  obtain ⟨v, vm₁, ⟨U', l2, c2, s2⟩, hW₁, X', ⟨g', mk, t, L, e1, e2, hq, h1, hL, h2, h3⟩, st⟩ := vx_callVW X hx (C := C) (hh := hh) (bytes := bytes) (maxL := maxL) (ret := ret) ho hl hin hse hcode hy hK (by rw [hT]; exact hcB) hoB hclB hg (hsize.trans hml.symm) (argsL := As) (rest := rest) (fun sig h => hn.trans (hlen sig h)) hstack hW (by rw [hb]; exact hdg)
    (fun vm₁ hW₁ => ⟨hf.1, hf.2, hPc (T.setVm vm₁) hT hW₁⟩)
  dsimp only [Pt.U, Pt.locs, Pt.cells, Pt.slots] at X' e1 e2 h1 h2 h3 st
  subst h1; subst h2; subst h3
  exact ⟨v, (T.setVm vm₁).calling g' mk (Value.ref b :: As).toArray, t, U', L, hT, X', hL, e1, e2, hq, st⟩
section
variable {y : MethodName} {bytes cc : ByteArray} {maxL nL mc ms n index : Nat} {ret : Option FieldType} {ws : List Cond} {rm : Room} {Pc : Array Value → State → Prop} {Qc : Array Value → State → Outcome → State → Prop} {XC : String → State → State → Prop} {free : Addr → Prop} {Ts : List Cond} {own C : String} {b : Addr} {As rest : List Value} {g : JFrame}
theorem vx_runVX {hh : List (Nat × Nat × Nat × Nat)} (S : CallFix p m c cc nL s args Ts own) (hM : vx_Met l y ws rm Pc Qc XC mc ms free) (cw : vx_CVW R s args own C index y bytes maxL ret hh ws rm mc ms n) (hp : PreV s H C b Pc As)
    (hg : g.method = m) (hn : As.length = n) (hsize : g.locals.size = nL) (hstack : g.stack = As.reverse ++ .ref b :: rest) (hW : 2 * g.monitorRoom + (rest.map fun v => v.category).sum ≤ 8) (hdg : decode cc g.pc = .ok (.invokevirtual index, 3)) (hf : cells + mc ≤ R.cells ∧ slots + ms ≤ R.slots) :
    vx_Run p l e R s m args below meth c H locs cells slots mc ms g rest (Qc (Value.ref b :: As).toArray) XC free := by
  obtain ⟨⟨hrc, hrs, hfr, hlo, hws, hcw⟩, hcode, hini, hy, hlen, hl, hin, hse⟩ := cw
  have hK : vx_Back l R p e below s args y 3 8 (PreOf R mc ms Pc) (PostOf Qc mc ms free) (vx_Post XC mc ms free) := vx_backW (hh := hh) (bytes := bytes) (maxL := maxL) (ret := ret) hM hp.1 hrc hrs hfr hlo hws hcw (fun a' U hW => word_at hW (Or.inl (by first | rfl | simp [Cond.onTables, Cond.keeps, Cond.steady])) hini)
  obtain ⟨hx, hb, hml, ho, -⟩ := S
  obtain ⟨-, ⟨cellB, hcB, hoB, hclB⟩, hPc⟩ := hp
  intro T hT X
  rcases vx_callVX X hx (C := C) (hh := hh) (bytes := bytes) (maxL := maxL) (ret := ret) ho hl hin hse hcode hy hK (by rw [hT]; exact hcB) hoB hclB hg (hsize.trans hml.symm) (argsL := As) (rest := rest) (fun sig h => hn.trans (hlen sig h)) hstack hW (by rw [hb]; exact hdg)
    (fun vm₁ hW₁ => ⟨hf.1, hf.2, hPc (T.setVm vm₁) hT hW₁⟩) with ⟨v, vm₁, ⟨U', l2, c2, s2⟩, hW₁, X', ⟨g', mk, t, L, e1, e2, hq, h1, hL, h2, h3⟩, st⟩ | ⟨q, vm₁, ⟨U', l2, c2, s2⟩, hW₁, X', ⟨g', mk, t, L, E, ce, e1, e2, hq, hce, hcv, hcl, h1, hL, h2, h3⟩, st⟩
  · dsimp only [Pt.U, Pt.locs, Pt.cells, Pt.slots] at X' e1 e2 h1 h2 h3 st
    subst h1; subst h2; subst h3
    exact Or.inl ⟨v, (T.setVm vm₁).calling g' mk (Value.ref b :: As).toArray, t, U', L, hT, X', hL, e1, e2, hq, st⟩
  · dsimp only [Pt.U, Pt.locs, Pt.cells, Pt.slots] at X' e1 e2 h1 h2 h3 st hcl
    subst h1; subst h2; subst h3
    exact Or.inr ⟨q, (T.setVm vm₁).calling g' mk (Value.ref b :: As).toArray, t, U', L, E, ce, hT, X', hL, e1, e2, hq, hce, hcv, vx_cls hW₁ hcl, st⟩
theorem vx_runSX {hh : List (Nat × Nat × Nat × Nat)} (S : CallFix p m c cc nL s args Ts own) (hM : vx_Met l y ws rm Pc Qc XC mc ms free) (cw : vx_CSW R s args own index y bytes maxL ret hh ws rm mc ms n) (hp : PreS s H Pc As)
    (hg : g.method = m) (hn : As.length = n) (hsize : g.locals.size = nL) (hstack : g.stack = As.reverse ++ rest) (hW : 2 * g.monitorRoom + (rest.map fun v => v.category).sum ≤ 8) (hdg : decode cc g.pc = .ok (.invokestatic index, 3)) (hf : cells + mc ≤ R.cells ∧ slots + ms ≤ R.slots) :
    vx_Run p l e R s m args below meth c H locs cells slots mc ms g rest (Qc As.toArray) XC free := by
  obtain ⟨⟨hrc, hrs, hfr, hlo, hws, hcw⟩, hcode, hini, hy, hlen, hl, hstt⟩ := cw
  have hK : vx_Back l R p e below s args y 3 8 (PreOf R mc ms Pc) (PostOf Qc mc ms free) (vx_Post XC mc ms free) := vx_backW (hh := hh) (bytes := bytes) (maxL := maxL) (ret := ret) hM hp.1 hrc hrs hfr hlo hws hcw (fun a' U hW => word_at hW (Or.inl (by first | rfl | simp [Cond.onTables, Cond.keeps, Cond.steady])) hini)
  obtain ⟨hx, hb, hml, ho, -⟩ := S
  intro T hT X
  rcases vx_callSX X hx (hh := hh) (bytes := bytes) (maxL := maxL) (ret := ret) ho hl hstt hini hcode hy hK hg (hsize.trans hml.symm) (argsL := As) (rest := rest) (fun sig h => hn.trans (hlen sig h)) hstack hW (by rw [hb]; exact hdg)
    (fun vm₁ hW₁ => ⟨hf.1, hf.2, hp.2 (T.setVm vm₁) hT hW₁⟩) with ⟨v, vm₁, ⟨U', l2, c2, s2⟩, hW₁, X', ⟨g', mk, t, L, e1, e2, hq, h1, hL, h2, h3⟩, st⟩ | ⟨q, vm₁, ⟨U', l2, c2, s2⟩, hW₁, X', ⟨g', mk, t, L, E, ce, e1, e2, hq, hce, hcv, hcl, h1, hL, h2, h3⟩, st⟩
  · dsimp only [Pt.U, Pt.locs, Pt.cells, Pt.slots] at X' e1 e2 h1 h2 h3 st
    subst h1; subst h2; subst h3
    exact Or.inl ⟨v, (T.setVm vm₁).calling g' mk As.toArray, t, U', L, hT, X', hL, e1, e2, hq, st⟩
  · dsimp only [Pt.U, Pt.locs, Pt.cells, Pt.slots] at X' e1 e2 h1 h2 h3 st hcl
    subst h1; subst h2; subst h3
    exact Or.inr ⟨q, (T.setVm vm₁).calling g' mk As.toArray, t, U', L, E, ce, hT, X', hL, e1, e2, hq, hce, hcv, vx_cls hW₁ hcl, st⟩
end
end VXH
theorem vx_ofWH {l : Launch} {y : MethodName} {ws ws' : List Cond} {rm : Room} {Pc : Array Value → State → Prop} {Qc : Array Value → State → Outcome → State → Prop} {XC : String → State → State → Prop} {mc ms : Nat} {free : Addr → Prop} {cc : ByteArray} {maxL : Nat} {ret : Option FieldType} {hh : List (Nat × Nat × Nat × Nat)}
    (hy : plainName y.cls = true) (hw : ws = Cond.codeWith y cc maxL ret hh :: ws')
    (body : ∀ p e s m args below meth c s₁, BodyLoose p l y (headSpec ws rm) cc maxL ret e s m args below meth c s₁ → c.maxLocals = maxL → Pc args s →
      W p l e (headSpec ws rm).room s m args below meth c s.heap [] 0 0 (vx_MQ below Qc XC args s mc ms free) (entryFrame m args maxL)) : vx_Met l y ws rm Pc Qc XC mc ms free := by
  refine MetFree.of_bodyS (code := cc) (maxLocals := maxL) (ret := ret) hy ?_ ?_
  · intro args s m h hn
    obtain ⟨m9, meth, c, hn9, h1, h2, h3, h4, -, h5, h6, -⟩ := Cond.codeWith_spec (atoms_spec (ws := ws) h _ (by rw [hw]; exact List.mem_cons_self))
    cases hn.symm.trans hn9
    exact ⟨meth, c, h1, h2, h3, h4, h5, h6⟩
  · intro p e s m args below meth c s₁ B hml hP _
    have hh0 : s₁.heap = s.heap := by rw [B.state]; rfl
    obtain ⟨t, a1, o, b1, b2, b3⟩ := body p e s m args below meth c s₁ B hml hP s₁ hh0 (Stand.of_body B)
    exact ⟨t, o, a1, b1, b2, b3⟩
/-! ===== END ===== -/
end
section
/-! ===== BEGIN printed: names, fields, word lists, decode rows ===== -/
def RX0 : String := "Sequencepoint$Function"
def TX0 : u_T := fun k => match k with
  | 0 => ("Sequencepoint$Function", "index", "I", false)
  | 1 => ("Sequencepoint$Function", "result", "I", true)
  | 2 => ("Sequencepoint$Function", "first", "LSequencepoint$Variable;", true)
  | _ => ("Sequencepoint$Function", "second", "LSequencepoint$Variable;", true)
def RX1 : String := "Sequencepoint$Machine"
def TX1 : u_T := fun k => match k with
  | 0 => ("Sequencepoint$Machine", "memory", "LSequencepoint$Memory;", true)
  | 1 => ("Sequencepoint$Machine", "rows", "[I", true)
  | 2 => ("Sequencepoint$Machine", "bodies", "[LSequencepoint$Statement;", false)
  | 3 => ("Sequencepoint$Machine", "outcome", "LSequencepoint$Outcome;", false)
  | 4 => ("Sequencepoint$Machine", "order", "I", false)
  | 5 => ("Sequencepoint$Machine", "depth", "I", false)
  | 6 => ("Sequencepoint$Machine", "isReturning", "Z", false)
  | _ => ("Sequencepoint$Machine", "returned", "J", false)
def tyX1 : Nat → FieldType := fun k => match k with
  | 0 => .object "Sequencepoint$Memory"
  | 1 => .array .int
  | 2 => .array (.object "Sequencepoint$Statement")
  | 3 => .object "Sequencepoint$Outcome"
  | 4 => .int
  | 5 => .int
  | 6 => .boolean
  | _ => .long
abbrev wsX10 : List Cond := u_ws RX1 TX1 8
theorem nmX1 : ∀ a, a < 8 → ∀ b, b < 8 → a ≠ b → (TX1 a).2.1 ≠ (TX1 b).2.1 := by decide +kernel
theorem tyX1_ok : ∀ k, k < 8 → parseFieldDescriptor (TX1 k).2.2.1 = some (tyX1 k) := by decide +kernel
abbrev cX1_init : ByteArray := prog_3_method_1_code
def yX1_init : MethodName := ⟨RX1, "<init>", "()V"⟩
def RX2 : String := "Sequencepoint$Memory"
def TX2 : u_T := fun k => match k with
  | 0 => ("Sequencepoint$Memory", "firstCell", "[I", true)
  | 1 => ("Sequencepoint$Memory", "lastCell", "[I", true)
  | 2 => ("Sequencepoint$Memory", "isAlive", "[Z", true)
  | 3 => ("Sequencepoint$Memory", "owner", "[I", true)
  | 4 => ("Sequencepoint$Memory", "values", "[J", true)
  | 5 => ("Sequencepoint$Memory", "isDetermined", "[Z", true)
  | 6 => ("Sequencepoint$Memory", "loggedCell", "[I", true)
  | 7 => ("Sequencepoint$Memory", "loggedWrite", "[Z", true)
  | 8 => ("Sequencepoint$Memory", "lifeCount", "I", false)
  | 9 => ("Sequencepoint$Memory", "cellCount", "I", false)
  | _ => ("Sequencepoint$Memory", "logCount", "I", false)
def tyX2 : Nat → FieldType := fun k => match k with
  | 0 => .array .int
  | 1 => .array .int
  | 2 => .array .boolean
  | 3 => .array .int
  | 4 => .array .long
  | 5 => .array .boolean
  | 6 => .array .int
  | 7 => .array .boolean
  | 8 => .int
  | 9 => .int
  | _ => .int
abbrev wsX20 : List Cond := u_ws RX2 TX2 11
theorem nmX2 : ∀ a, a < 11 → ∀ b, b < 11 → a ≠ b → (TX2 a).2.1 ≠ (TX2 b).2.1 := by decide +kernel
theorem tyX2_ok : ∀ k, k < 11 → parseFieldDescriptor (TX2 k).2.2.1 = some (tyX2 k) := by decide +kernel
abbrev cX2_init : ByteArray := prog_4_method_1_code
def yX2_init : MethodName := ⟨RX2, "<init>", "()V"⟩
def RX3 : String := "Sequencepoint$Node"
def TX3 : u_T := fun k => match k with
  | 0 => ("Sequencepoint$Node", "index", "I", false)
  | 1 => ("Sequencepoint$Node", "shape", "I", false)
  | 2 => ("Sequencepoint$Node", "kind", "C", false)
  | 3 => ("Sequencepoint$Node", "type", "I", false)
  | 4 => ("Sequencepoint$Node", "value", "J", false)
  | 5 => ("Sequencepoint$Node", "variable", "LSequencepoint$Variable;", false)
  | 6 => ("Sequencepoint$Node", "function", "LSequencepoint$Function;", false)
  | 7 => ("Sequencepoint$Node", "first", "LSequencepoint$Node;", false)
  | 8 => ("Sequencepoint$Node", "second", "LSequencepoint$Node;", false)
  | 9 => ("Sequencepoint$Node", "third", "LSequencepoint$Node;", false)
  | 10 => ("Sequencepoint$Node", "depth", "I", false)
  | 11 => ("Sequencepoint$Node", "size", "I", false)
  | 12 => ("Sequencepoint$Node", "hasCall", "Z", false)
  | _ => ("Sequencepoint$Node", "isPart", "Z", false)
def tyX3 : Nat → FieldType := fun k => match k with
  | 0 => .int
  | 1 => .int
  | 2 => .char
  | 3 => .int
  | 4 => .long
  | 5 => .object "Sequencepoint$Variable"
  | 6 => .object "Sequencepoint$Function"
  | 7 => .object "Sequencepoint$Node"
  | 8 => .object "Sequencepoint$Node"
  | 9 => .object "Sequencepoint$Node"
  | 10 => .int
  | 11 => .int
  | 12 => .boolean
  | _ => .boolean
abbrev wsX30 : List Cond := u_ws RX3 TX3 14
theorem nmX3 : ∀ a, a < 14 → ∀ b, b < 14 → a ≠ b → (TX3 a).2.1 ≠ (TX3 b).2.1 := by decide +kernel
theorem tyX3_ok : ∀ k, k < 14 → parseFieldDescriptor (TX3 k).2.2.1 = some (tyX3 k) := by decide +kernel
abbrev cX3_init : ByteArray := prog_5_method_1_code
def yX3_init : MethodName := ⟨RX3, "<init>", "(ICI)V"⟩
def RX5 : String := "Sequencepoint$Optimiser"
def TX5 : u_T := fun k => match k with
  | 0 => ("Sequencepoint$Optimiser", "bodies", "[LSequencepoint$Statement;", true)
  | 1 => ("Sequencepoint$Optimiser", "stepCount", "I", false)
  | 2 => ("Sequencepoint$Optimiser", "size", "I", false)
  | 3 => ("Sequencepoint$Optimiser", "nodes", "[LSequencepoint$Node;", true)
  | 4 => ("Sequencepoint$Optimiser", "statements", "[LSequencepoint$Statement;", true)
  | 5 => ("Sequencepoint$Optimiser", "became", "[LSequencepoint$Node;", true)
  | 6 => ("Sequencepoint$Optimiser", "statementBecame", "[LSequencepoint$Statement;", true)
  | 7 => ("Sequencepoint$Optimiser", "isUsed", "[Z", true)
  | _ => ("Sequencepoint$Optimiser", "isStatementUsed", "[Z", true)
def tyX5 : Nat → FieldType := fun k => match k with
  | 0 => .array (.object "Sequencepoint$Statement")
  | 1 => .int
  | 2 => .int
  | 3 => .array (.object "Sequencepoint$Node")
  | 4 => .array (.object "Sequencepoint$Statement")
  | 5 => .array (.object "Sequencepoint$Node")
  | 6 => .array (.object "Sequencepoint$Statement")
  | 7 => .array .boolean
  | _ => .array .boolean
abbrev wsX50 : List Cond := u_ws RX5 TX5 9
theorem nmX5 : ∀ a, a < 9 → ∀ b, b < 9 → a ≠ b → (TX5 a).2.1 ≠ (TX5 b).2.1 := by decide +kernel
theorem tyX5_ok : ∀ k, k < 9 → parseFieldDescriptor (TX5 k).2.2.1 = some (tyX5 k) := by decide +kernel
abbrev cX5_init : ByteArray := prog_7_method_1_code
def yX5_init : MethodName := ⟨RX5, "<init>", "()V"⟩
def RX6 : String := "Sequencepoint$Outcome"
def TX6 : u_T := fun k => match k with
  | 0 => ("Sequencepoint$Outcome", "ending", "C", false)
  | 1 => ("Sequencepoint$Outcome", "kind", "C", false)
  | 2 => ("Sequencepoint$Outcome", "node", "I", false)
  | 3 => ("Sequencepoint$Outcome", "stepCount", "I", false)
  | 4 => ("Sequencepoint$Outcome", "choiceCount", "I", false)
  | 5 => ("Sequencepoint$Outcome", "length", "I", false)
  | _ => ("Sequencepoint$Outcome", "text", "[C", true)
def tyX6 : Nat → FieldType := fun k => match k with
  | 0 => .char
  | 1 => .char
  | 2 => .int
  | 3 => .int
  | 4 => .int
  | 5 => .int
  | _ => .array .char
abbrev wsX60 : List Cond := u_ws RX6 TX6 7
theorem nmX6 : ∀ a, a < 7 → ∀ b, b < 7 → a ≠ b → (TX6 a).2.1 ≠ (TX6 b).2.1 := by decide +kernel
theorem tyX6_ok : ∀ k, k < 7 → parseFieldDescriptor (TX6 k).2.2.1 = some (tyX6 k) := by decide +kernel
abbrev cX6_init : ByteArray := prog_8_method_1_code
def yX6_init : MethodName := ⟨RX6, "<init>", "()V"⟩
def RX7 : String := "Sequencepoint$Program"
def TX7 : u_T := fun k => match k with
  | 0 => ("Sequencepoint$Program", "variables", "[LSequencepoint$Variable;", true)
  | 1 => ("Sequencepoint$Program", "functions", "[LSequencepoint$Function;", true)
  | 2 => ("Sequencepoint$Program", "bodies", "[LSequencepoint$Statement;", true)
  | 3 => ("Sequencepoint$Program", "nodes", "[LSequencepoint$Node;", true)
  | 4 => ("Sequencepoint$Program", "statements", "[LSequencepoint$Statement;", true)
  | 5 => ("Sequencepoint$Program", "variableCount", "I", false)
  | 6 => ("Sequencepoint$Program", "functionCount", "I", false)
  | 7 => ("Sequencepoint$Program", "nodeCount", "I", false)
  | _ => ("Sequencepoint$Program", "statementCount", "I", false)
def tyX7 : Nat → FieldType := fun k => match k with
  | 0 => .array (.object "Sequencepoint$Variable")
  | 1 => .array (.object "Sequencepoint$Function")
  | 2 => .array (.object "Sequencepoint$Statement")
  | 3 => .array (.object "Sequencepoint$Node")
  | 4 => .array (.object "Sequencepoint$Statement")
  | 5 => .int
  | 6 => .int
  | 7 => .int
  | _ => .int
abbrev wsX70 : List Cond := u_ws RX7 TX7 9
theorem nmX7 : ∀ a, a < 9 → ∀ b, b < 9 → a ≠ b → (TX7 a).2.1 ≠ (TX7 b).2.1 := by decide +kernel
theorem tyX7_ok : ∀ k, k < 9 → parseFieldDescriptor (TX7 k).2.2.1 = some (tyX7 k) := by decide +kernel
abbrev cX7_init : ByteArray := prog_9_method_1_code
def yX7_init : MethodName := ⟨RX7, "<init>", "()V"⟩
def RX8 : String := "Sequencepoint$Statement"
def TX8 : u_T := fun k => match k with
  | 0 => ("Sequencepoint$Statement", "index", "I", false)
  | 1 => ("Sequencepoint$Statement", "kind", "C", false)
  | 2 => ("Sequencepoint$Statement", "node", "LSequencepoint$Node;", false)
  | 3 => ("Sequencepoint$Statement", "variable", "LSequencepoint$Variable;", false)
  | 4 => ("Sequencepoint$Statement", "first", "LSequencepoint$Statement;", false)
  | 5 => ("Sequencepoint$Statement", "second", "LSequencepoint$Statement;", false)
  | 6 => ("Sequencepoint$Statement", "depth", "I", false)
  | 7 => ("Sequencepoint$Statement", "size", "I", false)
  | _ => ("Sequencepoint$Statement", "isPart", "Z", false)
def tyX8 : Nat → FieldType := fun k => match k with
  | 0 => .int
  | 1 => .char
  | 2 => .object "Sequencepoint$Node"
  | 3 => .object "Sequencepoint$Variable"
  | 4 => .object "Sequencepoint$Statement"
  | 5 => .object "Sequencepoint$Statement"
  | 6 => .int
  | 7 => .int
  | _ => .boolean
abbrev wsX80 : List Cond := u_ws RX8 TX8 9
theorem nmX8 : ∀ a, a < 9 → ∀ b, b < 9 → a ≠ b → (TX8 a).2.1 ≠ (TX8 b).2.1 := by decide +kernel
theorem tyX8_ok : ∀ k, k < 9 → parseFieldDescriptor (TX8 k).2.2.1 = some (tyX8 k) := by decide +kernel
abbrev cX8_init : ByteArray := prog_10_method_1_code
def yX8_init : MethodName := ⟨RX8, "<init>", "(CLSequencepoint$Node;LSequencepoint$Variable;)V"⟩
def RX10 : String := "Sequencepoint$Variable"
def TX10 : u_T := fun k => match k with
  | 0 => ("Sequencepoint$Variable", "index", "I", false)
  | 1 => ("Sequencepoint$Variable", "type", "I", true)
  | 2 => ("Sequencepoint$Variable", "length", "I", true)
  | _ => ("Sequencepoint$Variable", "isGlobal", "Z", true)
def RX11 : String := "Sequencepoint"
def TX11 : u_T := fun k => match k with
  | 0 => ("Sequencepoint", "program", "LSequencepoint$Program;", true)
  | 1 => ("Sequencepoint", "optimiser", "LSequencepoint$Optimiser;", true)
  | 2 => ("Sequencepoint", "machine", "LSequencepoint$Machine;", true)
  | 3 => ("Sequencepoint", "last", "LSequencepoint$Outcome;", true)
  | 4 => ("Sequencepoint", "tried", "LSequencepoint$Outcome;", true)
  | 5 => ("Sequencepoint", "outcomes", "[LSequencepoint$Outcome;", true)
  | _ => ("Sequencepoint", "stepsOfAll", "J", false)
def tyX11 : Nat → FieldType := fun k => match k with
  | 0 => .object "Sequencepoint$Program"
  | 1 => .object "Sequencepoint$Optimiser"
  | 2 => .object "Sequencepoint$Machine"
  | 3 => .object "Sequencepoint$Outcome"
  | 4 => .object "Sequencepoint$Outcome"
  | 5 => .array (.object "Sequencepoint$Outcome")
  | _ => .long
abbrev wsX110 : List Cond := u_ws RX11 TX11 7
theorem nmX11 : ∀ a, a < 7 → ∀ b, b < 7 → a ≠ b → (TX11 a).2.1 ≠ (TX11 b).2.1 := by decide +kernel
theorem tyX11_ok : ∀ k, k < 7 → parseFieldDescriptor (TX11 k).2.2.1 = some (tyX11 k) := by decide +kernel
abbrev cX11_init : ByteArray := prog_1_method_1_code
def yX11_init : MethodName := ⟨RX11, "<init>", "()V"⟩
abbrev cX11_unary : ByteArray := prog_1_method_8_code
def yX11_unary : MethodName := ⟨RX11, "unary", "(CI)I"⟩
def RX12 : String := "SequencepointModel$End"
def TX12 : u_T := fun k => match k with
  | 0 => ("java/lang/Throwable", "cause", "Ljava/lang/Throwable;", false)
  | 1 => ("java/lang/Throwable", "stackTrace", "[Ljava/lang/StackTraceElement;", false)
  | 2 => ("java/lang/Throwable", "suppressedExceptions", "Ljava/util/List;", false)
  | 3 => ("java/lang/Throwable", "detailMessage", "Ljava/lang/String;", false)
  | 4 => ("java/lang/Throwable", "backtrace", "Ljava/lang/Object;", false)
  | 5 => ("java/lang/Throwable", "depth", "I", false)
  | 6 => ("SequencepointModel$End", "how", "C", true)
  | 7 => ("SequencepointModel$End", "kind", "C", true)
  | _ => ("SequencepointModel$End", "at", "LSequencepointModel$Node;", true)
def RX13 : String := "SequencepointModel$Frame"
def TX13 : u_T := fun k => match k with
  | 0 => ("SequencepointModel$Frame", "life", "[I", true)
  | 1 => ("SequencepointModel$Frame", "born", "Ljava/util/ArrayList;", true)
  | 2 => ("SequencepointModel$Frame", "function", "I", true)
  | _ => ("SequencepointModel$Frame", "returned", "J", false)
def RX14 : String := "SequencepointModel$Node"
def TX14 : u_T := fun k => match k with
  | 0 => ("SequencepointModel$Node", "number", "I", true)
  | 1 => ("SequencepointModel$Node", "kind", "C", true)
  | 2 => ("SequencepointModel$Node", "type", "I", true)
  | 3 => ("SequencepointModel$Node", "part", "[LSequencepointModel$Node;", true)
  | 4 => ("SequencepointModel$Node", "value", "J", false)
  | 5 => ("SequencepointModel$Node", "about", "I", false)
  | 6 => ("SequencepointModel$Node", "isPart", "Z", false)
  | _ => ("SequencepointModel$Node", "depth", "I", false)
def RX15 : String := "SequencepointModel$Run"
def TX15 : u_T := fun k => match k with
  | 0 => ("SequencepointModel$Run", "bodies", "[LSequencepointModel$Statement;", true)
  | 1 => ("SequencepointModel$Run", "order", "I", true)
  | 2 => ("SequencepointModel$Run", "things", "Ljava/util/ArrayList;", true)
  | 3 => ("SequencepointModel$Run", "global", "[I", true)
  | 4 => ("SequencepointModel$Run", "frame", "LSequencepointModel$Frame;", false)
  | 5 => ("SequencepointModel$Run", "depth", "I", false)
  | 6 => ("SequencepointModel$Run", "steps", "I", false)
  | 7 => ("SequencepointModel$Run", "choices", "I", false)
  | 8 => ("SequencepointModel$Run", "logged", "I", false)
  | 9 => ("SequencepointModel$Run", "printed", "I", false)
  | 10 => ("SequencepointModel$Run", "log", "[I", false)
  | 11 => ("SequencepointModel$Run", "text", "[C", true)
  | 12 => ("SequencepointModel$Run", "how", "C", false)
  | 13 => ("SequencepointModel$Run", "kind", "C", false)
  | 14 => ("SequencepointModel$Run", "at", "LSequencepointModel$Node;", false)
  | _ => ("SequencepointModel$Run", "this$0", "LSequencepointModel;", true)
def RX16 : String := "SequencepointModel$Statement"
def TX16 : u_T := fun k => match k with
  | 0 => ("SequencepointModel$Statement", "kind", "C", true)
  | 1 => ("SequencepointModel$Statement", "node", "LSequencepointModel$Node;", true)
  | 2 => ("SequencepointModel$Statement", "one", "LSequencepointModel$Statement;", true)
  | 3 => ("SequencepointModel$Statement", "other", "LSequencepointModel$Statement;", true)
  | 4 => ("SequencepointModel$Statement", "about", "I", false)
  | 5 => ("SequencepointModel$Statement", "isPart", "Z", false)
  | _ => ("SequencepointModel$Statement", "depth", "I", false)
def RX17 : String := "SequencepointModel$Thing"
def TX17 : u_T := fun k => match k with
  | 0 => ("SequencepointModel$Thing", "value", "[J", true)
  | 1 => ("SequencepointModel$Thing", "isSet", "[Z", true)
  | _ => ("SequencepointModel$Thing", "lives", "Z", false)
def RX18 : String := "SequencepointModel"
def TX18 : u_T := fun k => match k with
  | 0 => ("SequencepointModel", "type", "[I", true)
  | 1 => ("SequencepointModel", "length", "[I", true)
  | 2 => ("SequencepointModel", "isGlobal", "[Z", true)
  | 3 => ("SequencepointModel", "variables", "I", false)
  | 4 => ("SequencepointModel", "functions", "I", false)
  | 5 => ("SequencepointModel", "nodes", "I", false)
  | 6 => ("SequencepointModel", "statements", "I", false)
  | 7 => ("SequencepointModel", "result", "[I", true)
  | 8 => ("SequencepointModel", "first", "[I", true)
  | 9 => ("SequencepointModel", "second", "[I", true)
  | 10 => ("SequencepointModel", "body", "[LSequencepointModel$Statement;", true)
  | 11 => ("SequencepointModel", "node", "[LSequencepointModel$Node;", true)
  | 12 => ("SequencepointModel", "statement", "[LSequencepointModel$Statement;", true)
  | 13 => ("SequencepointModel", "last", "LSequencepointModel$Run;", false)
  | 14 => ("SequencepointModel", "allSteps", "J", false)
  | 15 => ("SequencepointModel", "thrown", "I", false)
  | 16 => ("SequencepointModel", "fault", "C", false)
  | _ => ("SequencepointModel", "made", "I", false)
def tyX18 : Nat → FieldType := fun k => match k with
  | 0 => .array .int
  | 1 => .array .int
  | 2 => .array .boolean
  | 3 => .int
  | 4 => .int
  | 5 => .int
  | 6 => .int
  | 7 => .array .int
  | 8 => .array .int
  | 9 => .array .int
  | 10 => .array (.object "SequencepointModel$Statement")
  | 11 => .array (.object "SequencepointModel$Node")
  | 12 => .array (.object "SequencepointModel$Statement")
  | 13 => .object "SequencepointModel$Run"
  | 14 => .long
  | 15 => .int
  | 16 => .char
  | _ => .int
abbrev wsX180 : List Cond := u_ws RX18 TX18 18
theorem nmX18 : ∀ a, a < 18 → ∀ b, b < 18 → a ≠ b → (TX18 a).2.1 ≠ (TX18 b).2.1 := by decide +kernel
theorem tyX18_ok : ∀ k, k < 18 → parseFieldDescriptor (TX18 k).2.2.1 = some (tyX18 k) := by decide +kernel
abbrev cX18_init : ByteArray := prog_14_method_1_code
def yX18_init : MethodName := ⟨RX18, "<init>", "()V"⟩
abbrev cX18_isOneOf : ByteArray := prog_14_method_23_code
def yX18_isOneOf : MethodName := ⟨RX18, "isOneOf", "(Ljava/lang/CharSequence;C)Z"⟩
abbrev cX18_unary : ByteArray := prog_14_method_24_code
def yX18_unary : MethodName := ⟨RX18, "unary", "(CI)I"⟩
def RJ6 : String := "java/lang/Integer"
def TJ6 : u_T := fun k => match k with
  | _ => ("java/lang/Integer", "value", "I", true)
def RJ0 : String := "java/lang/String"
abbrev cJ0_length_8abf5 : ByteArray := prog_39_method_54_code
def yJ0_length_8abf5 : MethodName := ⟨RJ0, "length", "()I"⟩
abbrev cJ0_indexOf_0f7a4 : ByteArray := prog_39_method_79_code
def yJ0_indexOf_0f7a4 : MethodName := ⟨RJ0, "indexOf", "(I)I"⟩
abbrev cJ0_indexOf_7cf53 : ByteArray := prog_39_method_80_code
def yJ0_indexOf_7cf53 : MethodName := ⟨RJ0, "indexOf", "(II)I"⟩
abbrev cJ0_coder_7d493 : ByteArray := prog_39_method_152_code
def yJ0_coder_7d493 : MethodName := ⟨RJ0, "coder", "()B"⟩
abbrev cJ0_isLatin1_aae02 : ByteArray := prog_39_method_154_code
def yJ0_isLatin1_aae02 : MethodName := ⟨RJ0, "isLatin1", "()Z"⟩
def RJ4 : String := "java/lang/StringBuilder"
def TJ4 : u_T := fun k => match k with
  | 0 => ("java/lang/AbstractStringBuilder", "value", "[B", false)
  | 1 => ("java/lang/AbstractStringBuilder", "coder", "B", false)
  | 2 => ("java/lang/AbstractStringBuilder", "maybeLatin1", "Z", false)
  | _ => ("java/lang/AbstractStringBuilder", "count", "I", false)
def RJ1 : String := "java/lang/StringLatin1"
abbrev cJ1_canEncode_9a6ad : ByteArray := prog_41_method_4_code
def yJ1_canEncode_9a6ad : MethodName := ⟨RJ1, "canEncode", "(I)Z"⟩
abbrev cJ1_indexOf_4cfef : ByteArray := prog_41_method_22_code
def yJ1_indexOf_4cfef : MethodName := ⟨RJ1, "indexOf", "([BIII)I"⟩
abbrev cJ1_indexOfChar_4cfef : ByteArray := prog_41_method_23_code
def yJ1_indexOfChar_4cfef : MethodName := ⟨RJ1, "indexOfChar", "([BIII)I"⟩
def RJx35411 : String := "java/util/ArrayList$Itr"
def TJx35411 : u_T := fun k => match k with
  | 0 => ("java/util/ArrayList$Itr", "cursor", "I", false)
  | 1 => ("java/util/ArrayList$Itr", "lastRet", "I", false)
  | 2 => ("java/util/ArrayList$Itr", "expectedModCount", "I", false)
  | _ => ("java/util/ArrayList$Itr", "this$0", "Ljava/util/ArrayList;", true)
def RJx4a65c : String := "java/util/ArrayList"
def TJx4a65c : u_T := fun k => match k with
  | 0 => ("java/util/AbstractList", "modCount", "I", false)
  | 1 => ("java/util/ArrayList", "elementData", "[Ljava/lang/Object;", false)
  | _ => ("java/util/ArrayList", "size", "I", false)
def RL : String := "SequencepointLaw"
abbrev cL_unary : ByteArray := method_8_code
def yL_unary : MethodName := ⟨RL, "unary", "(LSequencepoint;CI[J)I"⟩
abbrev cL_law : ByteArray := code
def yL_law : MethodName := ⟨RL, "law", "([I)Z"⟩
abbrev vwCl : List vw_C := [(RJ4, TJ4, 4), (RJ6, TJ6, 1), (RJx35411, TJx35411, 4), (RJx4a65c, TJx4a65c, 3), (RX0, TX0, 4), (RX1, TX1, 8), (RX2, TX2, 11), (RX3, TX3, 14), (RX5, TX5, 9), (RX6, TX6, 7), (RX7, TX7, 9), (RX8, TX8, 9), (RX10, TX10, 4), (RX11, TX11, 7), (RX12, TX12, 9), (RX13, TX13, 4), (RX14, TX14, 8), (RX15, TX15, 16), (RX16, TX16, 7), (RX17, TX17, 3), (RX18, TX18, 18)]
end
section

end
section
/-! what a throw of the class needs of the world: two statics of Throwable, the exceptions' own casts, the texts -/
def xw_E : List String := ["java/lang/IllegalStateException", "java/lang/IllegalArgumentException", "java/lang/IndexOutOfBoundsException", "java/lang/UnsupportedOperationException", "java/util/NoSuchElementException"]
def xw_T : List (Nat × String) := [(52, "no such type or length"), (60, "an array of pointers"), (68, "there are 10 variables"), (80, "no number type, or a second parameter without a first one"), (88, "no such variable"), (97, "no such parameters can be"), (103, "there are 3 functions"), (130, "no such function or statement"), (137, "the statement is part of something"), (151, "no number type, or it has not this value"), (184, "no such kind"), (190, "no such node"), (202, "no such node can be"), (204, "no number type"), (223, "no such function or node"), (245, "there are 100 nodes"), (250, "no such statement can be"), (262, "the variable is global"), (264, "no such node or statement"), (270, "no such statement"), (279, "there are 60 statements"), (314, "the function 0 has no body, or parameters"), (316, "the order is less than 0"), (329, "nothing without a meaning"), (338, "no such character")]
abbrev xw_N : List String := ["java/lang/RuntimeException", "java/lang/Exception"]
def xw (A : Nat → Prop) (U : State) (H : Heap) : Prop := (vx_Zq Bundle.tN "UNASSIGNED_STACK" Bundle.steD A U H ∧ vx_Zq Bundle.tN "SUPPRESSED_SENTINEL" Bundle.listD A U H) ∧ ((∀ E ∈ xw_E, va_Nw (.castable E E) U) ∧ ∀ n ∈ xw_N ++ [Bundle.tN], va_Nw (.declares (Bundle.initS n)) U) ∧ ∀ q ∈ xw_T, ∃ a : Nat, vk_R RX11 q.1 q.2 a U
theorem xw.call {A B : Nat → Prop} {s U : State} {H : Heap} {locs : List Loc} (h : xw A s s.heap) (hS : va_S A s.heap H locs) (hAB : ∀ q, B q → A q) (hW : s.WarmedH U.vm) (hU : U.heap = H) : xw B U U.heap := by
  obtain ⟨⟨h1, h2⟩, ⟨h3, h5⟩, h4⟩ := h
  rw [hU]
  exact ⟨⟨((h1.kept hS.2.1).narrow hAB).moved hW.alike, ((h2.kept hS.2.1).narrow hAB).moved hW.alike⟩, ⟨fun E hE => va_Nw.warmC hW (h3 E hE), fun n hn => va_Nw.warmD hW (h5 n hn)⟩, fun q hq => by obtain ⟨a, ha⟩ := h4 q hq; exact ⟨a, vk_R.warm hW ha⟩⟩
theorem xw.blind {A : Nat → Prop} {U : State} (a : Array Value) (g : JFrame) (mk : MethodId) (h : xw A U U.heap) : xw A (U.calling g mk a) (U.calling g mk a).heap := by
  obtain ⟨⟨h1, h2⟩, ⟨h3, h5⟩, h4⟩ := h
  exact ⟨⟨h1.moved (u := U) (U := U.calling g mk a) (Vm.Alike.refl U.vm), h2.moved (u := U) (U := U.calling g mk a) (Vm.Alike.refl U.vm)⟩, ⟨fun E hE => va_Nw.same (u := U) (U := U.calling g mk a) rfl rfl (h3 E hE), fun n hn => va_Nw.same (u := U) (U := U.calling g mk a) rfl rfl (h5 n hn)⟩, fun q hq => by obtain ⟨a9, ha⟩ := h4 q hq; exact ⟨a9, vk_R.same (u := U) (U := U.calling g mk a) rfl ha⟩⟩
theorem xw_F {A : Nat → Prop} {s t : State} {H : Heap} {locs : List Loc} (hS : va_S A s.heap H locs) (h1 : H.size ≤ t.heap.size) (h2 : ∀ q : Nat, q < H.size → t.heap[q]? = H[q]?) : va_F A s t :=
  ⟨Nat.le_trans hS.1 h1, fun q g1 g2 => by rw [h2 q (Nat.lt_of_lt_of_le g1 hS.1)]; exact hS.2.1 q g1 g2⟩
def xw_B (E : String) : List Cond := Cond.castable E E :: (xw_N ++ [Bundle.tN]).map (fun n => Cond.declares (Bundle.initS n))
theorem xw.bad {A : Nat → Prop} {args : Array Value} {s : State} {H : Heap} (h : xw A s H) {E : String} (hE : E ∈ xw_E) : ∀ w ∈ xw_B E, w.before args s = true := by
  intro w hw
  rcases List.mem_cons.mp hw with rfl | hw
  · exact va_Nw.use rfl (h.2.1.1 E hE)
  · obtain ⟨n, hn, rfl⟩ := List.mem_map.mp hw
    exact va_Nw.use rfl (h.2.1.2 n hn)
/-- 'throw new E("text")' in a method of the class itself -/
theorem xw_throw {p : Program} {l : Launch} {e : Env} {R : Room} {s : State} {m : MethodId} {args : Array Value} {below : List Frame} {meth : Method} {c : Code} {H : Heap} {locs : List Loc} {cells slots : Nat} {mc ms : Nat} {free : Addr → Prop} {A : Nat → Prop} {ls : Array Slot} {rest : List Value} {Qc : Array Value → State → Outcome → State → Prop} {XC : String → State → State → Prop} {cc : ByteArray} {pc : Nat}
    (hexec : p.tables.exec = Jvm.exec) (hb : c.code = cc) (hl : l.stackTraces = false) {E text : String} {ik is ic : Nat} (hown : s.vm.findClass RX11 = some m.cls) (hE : E ∈ xw_E) (hfit : Bundle.fit E = true) (hk : (Cond.classLink RX11 ik E).before args s = true) (hini : (Cond.initialized E).before args s = true) (hq : (is, text) ∈ xw_T)
    (hg : ∀ w ∈ (vx_atS RX11 ic E xw_N).filter goodWord, w.before args s = true) (hbad : ∀ w ∈ (vx_atS RX11 ic E xw_N).filter (fun w => !goodWord w), w ∈ xw_B E) (hgood : ∀ w ∈ Cond.classLink RX11 ik E :: Cond.initialized E :: vx_atS RX11 ic E xw_N, vx_ot w = true)
    (hX : xw A s s.heap) (hS : va_S A s.heap H locs) (hsize : ls.size = c.maxLocals)
    (d0 : decode cc pc = .ok (.new ik, 3)) (d3 : decode cc (pc + 3) = .ok (.dup, 1)) (d4 : decode cc (pc + 4) = .ok (.ldc is, 2)) (d6 : decode cc (pc + 6) = .ok (.invokespecial ic, 3)) (d9 : decode cc (pc + 9) = .ok (.athrow, 1))
    (hno : ∀ x ∈ c.exceptionTable.toList, False) (hRframes : 5 < R.frames) (hRlocals : (rest.map fun v => v.category).sum + 82 ≤ R.locals) (hRcells : cells + 1 ≤ R.cells) (hRslots : slots + 6 ≤ R.slots) (hlocks : meth.locks = false)
    (hx : ∀ t : State, s.vm.Alike t.vm → va_F A s t → XC E s t) (hf : ∀ z ∈ locs, free z.base) (hc : cells + 1 ≤ mc) (hs : slots + 6 ≤ ms) :
    W p l e R s m args below meth c H locs cells slots (vx_MQ below Qc XC args s mc ms free) (F0 m pc ls rest) := by
  obtain ⟨sa, hsa⟩ := hX.2.2 (is, text) hq
  exact vx_throwS (names := xw_N) (A := A) (sa := sa) hexec hb hl hown hfit (by decide +kernel) hk hini hsa (vx_hat hg hbad (hX.bad hE)) hgood hX.1.1 hX.1.2 hS hsize d0 d3 d4 d6 d9 (fun x h => (hno x h).elim) hRframes hRlocals hRcells hRslots hlocks (fun t h1 h2 h3 => hx t h1 (xw_F hS h2 h3)) hf hc hs
theorem xw_bIAE : ∀ w ∈ (vx_atS RX11 54 "java/lang/IllegalArgumentException" xw_N).filter (fun w => !goodWord w), w ∈ xw_B "java/lang/IllegalArgumentException" := by decide +kernel
theorem xw_gIAE : ∀ w ∈ Cond.classLink RX11 50 "java/lang/IllegalArgumentException" :: Cond.initialized "java/lang/IllegalArgumentException" :: vx_atS RX11 54 "java/lang/IllegalArgumentException" xw_N, vx_ot w = true := by decide +kernel
end
section
/-! ===== BEGIN calls by an interface of methods that may throw (vx_callIF, vx_runF follow va_callIF, va_runF of this kit) ===== -/
section
variable {p : Program} {l : Launch} {e : Env} {R : Room} {s : State} {m : MethodId} {args : Array Value} {below : List Frame} {meth : Method} {c : Code} {H : Heap} {locs : List Loc} {cells slots : Nat} {Q : State → Prop}
variable {mc ms : Nat} {free : Addr → Prop} {A0 A1 : Nat → Prop} {H0 : Heap} {a : Array Value} {pc : Nat} {ls : Array Slot} {st0 rest : List Value}
def vx_Run5 (p : Program) (l : Launch) (e : Env) (R : Room) (s : State) (m : MethodId) (args : Array Value) (below : List Frame) (meth : Method) (c : Code) (H : Heap) (locs : List Loc) (cells slots mc ms : Nat) (g : JFrame) (rest : List Value) (Qa : State → Outcome → State → Prop) (XC : String → State → State → Prop) (free : Addr → Prop) : Prop :=
  ∀ T : State, T.heap = H → Stand p l e R s m args below meth c T locs cells slots →
    (∃ (v : Option Value) (st₀ t T' : State) (L : List Loc), st₀.heap = H ∧ Stand p l e R s m args below meth c T' (locs ++ L) (cells + mc) (slots + ms) ∧ (∀ q ∈ L, free q.base) ∧ T'.heap = t.heap ∧ T'.vm = t.vm ∧ Qa st₀ (.returned v) t ∧
      Goes p e below T g T' { g with pc := g.pc + 5, stack := v.toList ++ rest }) ∨
    (∃ (q : Addr) (st₀ t T' : State) (L : List Loc) (E : String) (ce : Cell), st₀.heap = H ∧ Stand p l e R s m args below meth c T' (locs ++ L) (cells + mc) (slots + ms) ∧ (∀ z ∈ L, free z.base) ∧ T'.heap = t.heap ∧ T'.vm = t.vm ∧ XC E st₀ t ∧ t.heap[q]? = some ce ∧ ce.vm = .none ∧ s.vm.findClass E = some ce.cls ∧
      Steps p.tables e below (T.setTop g) ((T'.setTop { g with stack := rest }).pushFrame (.throwing q)))
theorem vx_callIF {T : State} (X : Stand p l e R s m args below meth c T locs cells slots) (hexec : p.tables.exec = Jvm.exec) {own C : String} {index count : Nat} {x y : MethodName} {bytes : ByteArray} {maxL : Nat} {ret : Option FieldType}
    (hown : s.vm.findClass own = some m.cls) (hlink : (Cond.methodLink own index x).before args s = true) (hdecl : (Cond.declares x).before args s = true) (hface : (Cond.interfaceMethod x.cls x.cls x.name x.desc).before args s = true)
    (hsel : (Cond.selects C x y).before args s = true) (hinst : (Cond.instanceMethod y).before args s = true) (hpub : (Cond.publicMethod y).before args s = true) (hunh : (Cond.unhidden C x.name x.desc).before args s = true)
    (hcast : (Cond.castable C x.cls).before args s = true) (hcode : (Cond.code y bytes maxL ret).before args s = true) (hx : x.cls ≠ "java/lang/invoke/MethodHandle" ∧ x.cls ≠ "java/lang/invoke/VarHandle")
    {W9 : Nat} {Pre : Pt → Array Value → Prop} {Post : Pt → Array Value → Option Value → Pt → Prop} {PostX : Pt → Array Value → Addr → Pt → Prop} (hK : vx_Back l R p e below s args y 5 W9 Pre Post PostX)
    {b : Addr} {cellB : Cell} {kB : Class} (hcell : T.heap[b]? = some cellB) (hobj : cellB.vm.isStatics = false) (hcls : s.vm.findClass C = some cellB.cls) (hkB : s.vm.classes[cellB.cls]? = some kB)
    {g : JFrame} (hg : g.method = m) (hsize : g.locals.size = c.maxLocals) {argsL rest : List Value} (hlen : ∀ sig, parseMethodDescriptor x.desc = some sig → argsL.length = sig.parameters.length)
    (hstack : g.stack = argsL.reverse ++ .ref b :: rest) (hW : 2 * g.monitorRoom + (rest.map fun v => v.category).sum ≤ W9) (hdg : decode c.code g.pc = .ok (.invokeinterface index count, 5))
    (hpre : ∀ vm₁, s.WarmedH vm₁ → Pre ⟨T.setVm vm₁, locs, cells, slots⟩ (Value.ref b :: argsL).toArray) :
    (∃ (v : Option Value) (vm₁ : Vm) (B : Pt), s.WarmedH vm₁ ∧ Stand p l e R s m args below meth c B.U B.locs B.cells B.slots ∧ Post ⟨T.setVm vm₁, locs, cells, slots⟩ (Value.ref b :: argsL).toArray v B ∧
      ∀ target, Steps p.tables e below (B.U.setTop { g with pc := g.pc + 5, stack := v.toList ++ rest }) target → Steps p.tables e below (T.setTop g) target) ∨
    (∃ (q : Addr) (vm₁ : Vm) (B : Pt), s.WarmedH vm₁ ∧ Stand p l e R s m args below meth c B.U B.locs B.cells B.slots ∧ PostX ⟨T.setVm vm₁, locs, cells, slots⟩ (Value.ref b :: argsL).toArray q B ∧
      Steps p.tables e below (T.setTop g) ((B.U.setTop { g with stack := rest }).pushFrame (.throwing q))) := by
  obtain ⟨r0, r, hn, hrm, hstR, hsigR⟩ := Cond.declares_spec hdecl
  obtain ⟨cL, kL, r1, hcL, hkL, hiL, hfoundL, hn1⟩ := Cond.interfaceMethod_spec hface
  cases hn.symm.trans hn1
  have hr0cls : r0.cls = cL := Option.some.inj ((findClass_of_methodNamed hn).symm.trans hcL)
  obtain ⟨hnameR, hdescR⟩ := name_of_methodNamed hn hrm
  obtain ⟨mk, methM, hnamed, hmethM, -, habM⟩ := Cond.instanceMethod_spec hinst
  obtain ⟨c2, r2, m2, q1, q2, q3, q4, -⟩ := Cond.selects_spec hsel
  cases hcls.symm.trans q1
  cases hfoundL.symm.trans q2
  cases hnamed.symm.trans q3
  have hselP : selectMethod e.platform s.vm cellB.cls r0 = .method mk := by rw [Launch.admits_selectMethod X.admits]; exact q4
  have hpubM : hasFlag methM.accessFlags Acc.public_ = true := Cond.publicMethod_spec hnamed hmethM hpub
  have hway : ((cellB.cls :: s.vm.superclasses cellB.cls).any fun k => (declaredIn s.vm r.name r.desc k).any fun (_, z) => z.isPrivate || z.isStatic) = false := by
    rw [hnameR, hdescR]; exact Cond.unhidden_spec hcls hunh
  obtain ⟨c3, t3, w1, w2, w3⟩ := Cond.castable_spec hcast
  cases hcls.symm.trans w1
  cases hcL.symm.trans w2
  obtain ⟨vm₁, X₁, hstep₁⟩ := X.invokeinterface hexec hown hlink hn hrm hstR (by rw [hr0cls]; exact hkL) hiL hx (a := b) (cell := cellB) (kcell := kB) hcell
    (fun z h => by rw [h] at hobj; cases hobj) hkB (by rw [hr0cls]; exact w3) hselP hmethM hway hpubM habM (g := g) hg (argsL := argsL) (rest := rest) (hlen _ hsigR) hstack hdg
  rcases hK m meth c ⟨T.setVm vm₁, locs, cells, slots⟩ { g with stack := rest } (.invokeinterface index count) mk (Value.ref b :: argsL).toArray X₁ hg hsize hdg hW (X₁.named hnamed) (hpre vm₁ X₁.warmed) with ⟨v, B, X', hpost, hsteps⟩ | ⟨q, B, X', hpost, hsteps⟩
  · exact Or.inl ⟨v, vm₁, B, X₁.warmed, X', hpost, fun target h => hstep₁ _ fun acts => by rw [doInvoke_state]; exact hsteps.trans h⟩
  · exact Or.inr ⟨q, vm₁, B, X₁.warmed, X', hpost, hstep₁ _ fun acts => by rw [doInvoke_state]; exact hsteps⟩
theorem vx_runF {x y : MethodName} {bytes cc : ByteArray} {maxL nL mc ms n index count : Nat} {ret : Option FieldType} {ws : List Cond} {rm : Room} {Pc : Array Value → State → Prop} {Qc : Array Value → State → Outcome → State → Prop} {XC : String → State → State → Prop} {free : Addr → Prop} {Ts : List Cond} {own C : String} {cC : ClassId} {b : Addr} {As rest : List Value} {g : JFrame}
    (hat : ClassAt s C cC) (S : CallFix p m c cc nL s args Ts own) (hM : vx_Met l y ws rm Pc Qc XC mc ms free) (cw : va_CI R s args own C index x y bytes maxL ret ws rm mc ms n) (hp : PreV s H C b Pc As)
    (hg : g.method = m) (hn : As.length = n) (hsize : g.locals.size = nL) (hstack : g.stack = As.reverse ++ .ref b :: rest) (hW : 2 * g.monitorRoom + (rest.map fun v => v.category).sum ≤ 8) (hdg : decode cc g.pc = .ok (.invokeinterface index count, 5)) (hf : cells + mc ≤ R.cells ∧ slots + ms ≤ R.slots) :
    vx_Run5 p l e R s m args below meth c H locs cells slots mc ms g rest (Qc (Value.ref b :: As).toArray) XC free := by
  obtain ⟨hrc, hrs, hfr, hlo, hws, hcw⟩ := cw.back
  have hini := cw.init
  have hK : vx_Back l R p e below s args y 5 8 (PreOf R mc ms Pc) (PostOf Qc mc ms free) (vx_Post XC mc ms free) := vx_back (bytes := bytes) (maxL := maxL) (ret := ret) hM hp.1 hrc hrs hfr hlo hws hcw (fun a' U hW => word_at hW (Or.inl (by first | rfl | simp [Cond.onTables, Cond.keeps, Cond.steady])) hini)
  obtain ⟨hx, hb, hml, ho, -⟩ := S
  obtain ⟨-, ⟨cellB, hcB, hoB, hclB⟩, hPc⟩ := hp
  obtain ⟨hfc, kB, hkB, -⟩ := hat
  cases hfc.symm.trans hclB
  intro T hT X
  rcases vx_callIF X hx (C := C) (bytes := bytes) (maxL := maxL) (ret := ret) ho cw.link cw.decl cw.face cw.sel cw.inst cw.pub cw.unh cw.cast cw.code cw.notMH hK (by rw [hT]; exact hcB) hoB hclB hkB hg (hsize.trans hml.symm) (argsL := As) (rest := rest) (fun sig h => hn.trans (cw.len sig h)) hstack hW (by rw [hb]; exact hdg)
    (fun vm₁ hW₁ => ⟨hf.1, hf.2, hPc (T.setVm vm₁) hT hW₁⟩) with ⟨v, vm₁, ⟨U', l2, c2, s2⟩, hW₁, X', ⟨g', mk, t, L, e1, e2, hq, h1, hL, h2, h3⟩, st⟩ | ⟨q, vm₁, ⟨U', l2, c2, s2⟩, hW₁, X', ⟨g', mk, t, L, E, ce, e1, e2, hq, hce, hcv, hcl, h1, hL, h2, h3⟩, st⟩
  · dsimp only [Pt.U, Pt.locs, Pt.cells, Pt.slots] at X' e1 e2 h1 h2 h3 st
    subst h1; subst h2; subst h3
    exact Or.inl ⟨v, (T.setVm vm₁).calling g' mk (Value.ref b :: As).toArray, t, U', L, hT, X', hL, e1, e2, hq, st⟩
  · dsimp only [Pt.U, Pt.locs, Pt.cells, Pt.slots] at X' e1 e2 h1 h2 h3 st hcl
    subst h1; subst h2; subst h3
    exact Or.inr ⟨q, (T.setVm vm₁).calling g' mk (Value.ref b :: As).toArray, t, U', L, E, ce, hT, X', hL, e1, e2, hq, hce, hcv, vx_cls hW₁ hcl, st⟩
theorem vx_callFi {S SX : Type} {post : Int32 → S → Prop} {px : SX → Prop} {B : S → State → Prop} {BX : String → SX → State → Prop} {AX : Nat → Prop} (hr : vx_Run5 p l e R s m args below meth c H locs cells slots mc ms (F0 m pc ls st0) rest (va_Qi post B A1 a) (vx_X px BX AX) free) (hS : va_S A0 H0 H locs) (hA : ∀ q, q < H.size → A1 q → A0 q) (hf : ∀ q, free q → A0 q) (hAX : ∀ q, q < H.size → AX q → A0 q)
    (kx : ∀ (E : String) (ce : Cell) (q9 : Addr) (u : SX) (t : State) (H1 : Heap) (locs1 : List Loc), t.heap = H1 → s.vm.Alike t.vm → px u → BX E u t → H.size ≤ H1.size → (∀ q : Nat, q < H.size → ¬ AX q → H1[q]? = H[q]?) → va_S A0 H0 H1 locs1 → H1[q9]? = some ce → ce.vm = .none → s.vm.findClass E = some ce.cls → vx_W p l e R s m args below meth c H1 locs1 (cells + mc) (slots + ms) Q (F0 m pc ls rest) q9)
    (kk : ∀ (r : Int32) (u : S) (t : State) (H1 : Heap) (locs1 : List Loc), t.heap = H1 → s.vm.Alike t.vm → post r u → B u t → H.size ≤ H1.size → (∀ q : Nat, q < H.size → ¬ A1 q → H1[q]? = H[q]?) → va_S A0 H0 H1 locs1 → W p l e R s m args below meth c H1 locs1 (cells + mc) (slots + ms) Q (F0 m (pc + 5) ls (.int r :: rest))) : W p l e R s m args below meth c H locs cells slots Q (F0 m pc ls st0) := by
  intro T hT X
  rcases hr T hT X with ⟨v, st₀, t, T', L, h0, X', hL, e1, e2, ⟨⟨r, u, hv, hp, hb⟩, hF⟩, st⟩ | ⟨q, st₀, t, T', L, E, ce, h0, X', hL, e1, e2, ⟨u, hp, hb, hF⟩, hce, hcv, hcl, st⟩
  · cases hv
    obtain ⟨k1, k2, k3⟩ := vx_keep h0 e1 hS hA hf hL hF
    obtain ⟨t2, a1, b1⟩ := kk r u t T'.heap (locs ++ L) e1.symm (by rw [← e2]; exact X'.warmed.alike) hp hb k1 k2 k3 T' rfl X'
    exact ⟨t2, st t2 a1, b1⟩
  · obtain ⟨k1, k2, k3⟩ := vx_keep h0 e1 hS hAX hf hL hF
    obtain ⟨t2, a1, b1⟩ := kx E ce q u t T'.heap (locs ++ L) e1.symm (by rw [← e2]; exact X'.warmed.alike) hp hb k1 k2 k3 (by rw [e1]; exact hce) hcv hcl T' rfl X'
    exact ⟨t2, st.trans a1, b1⟩
end
/-! ===== END ===== -/
end
section

end
section

end
section
theorem dX3_init_0 : decode cX3_init 0 = .ok (.aload_n 0, 1) := by decide +kernel
theorem dX3_init_1 : decode cX3_init 1 = .ok (.invokespecial 3, 3) := by decide +kernel
theorem dX3_init_4 : decode cX3_init 4 = .ok (.aload_n 0, 1) := by decide +kernel
theorem dX3_init_5 : decode cX3_init 5 = .ok (.iload_n 1, 1) := by decide +kernel
theorem dX3_init_6 : decode cX3_init 6 = .ok (.putfield 9, 3) := by decide +kernel
theorem dX3_init_9 : decode cX3_init 9 = .ok (.aload_n 0, 1) := by decide +kernel
theorem dX3_init_10 : decode cX3_init 10 = .ok (.iload_n 2, 1) := by decide +kernel
theorem dX3_init_11 : decode cX3_init 11 = .ok (.putfield 15, 3) := by decide +kernel
theorem dX3_init_14 : decode cX3_init 14 = .ok (.aload_n 0, 1) := by decide +kernel
theorem dX3_init_15 : decode cX3_init 15 = .ok (.iload_n 3, 1) := by decide +kernel
theorem dX3_init_16 : decode cX3_init 16 = .ok (.putfield 19, 3) := by decide +kernel
theorem dX3_init_19 : decode cX3_init 19 = .ok (.return_, 1) := by decide +kernel
theorem dX8_init_0 : decode cX8_init 0 = .ok (.aload_n 0, 1) := by decide +kernel
theorem dX8_init_1 : decode cX8_init 1 = .ok (.invokespecial 1, 3) := by decide +kernel
theorem dX8_init_4 : decode cX8_init 4 = .ok (.aload_n 0, 1) := by decide +kernel
theorem dX8_init_5 : decode cX8_init 5 = .ok (.iload_n 1, 1) := by decide +kernel
theorem dX8_init_6 : decode cX8_init 6 = .ok (.putfield 7, 3) := by decide +kernel
theorem dX8_init_9 : decode cX8_init 9 = .ok (.aload_n 0, 1) := by decide +kernel
theorem dX8_init_10 : decode cX8_init 10 = .ok (.aload_n 2, 1) := by decide +kernel
theorem dX8_init_11 : decode cX8_init 11 = .ok (.putfield 13, 3) := by decide +kernel
theorem dX8_init_14 : decode cX8_init 14 = .ok (.aload_n 0, 1) := by decide +kernel
theorem dX8_init_15 : decode cX8_init 15 = .ok (.aload_n 3, 1) := by decide +kernel
theorem dX8_init_16 : decode cX8_init 16 = .ok (.putfield 17, 3) := by decide +kernel
theorem dX8_init_19 : decode cX8_init 19 = .ok (.return_, 1) := by decide +kernel
theorem dX6_init_0 : decode cX6_init 0 = .ok (.aload_n 0, 1) := by decide +kernel
theorem dX6_init_1 : decode cX6_init 1 = .ok (.invokespecial 3, 3) := by decide +kernel
theorem dX6_init_4 : decode cX6_init 4 = .ok (.aload_n 0, 1) := by decide +kernel
theorem dX6_init_5 : decode cX6_init 5 = .ok (.bipush 32, 2) := by decide +kernel
theorem dX6_init_7 : decode cX6_init 7 = .ok (.putfield 9, 3) := by decide +kernel
theorem dX6_init_10 : decode cX6_init 10 = .ok (.aload_n 0, 1) := by decide +kernel
theorem dX6_init_11 : decode cX6_init 11 = .ok (.bipush 32, 2) := by decide +kernel
theorem dX6_init_13 : decode cX6_init 13 = .ok (.putfield 15, 3) := by decide +kernel
theorem dX6_init_16 : decode cX6_init 16 = .ok (.aload_n 0, 1) := by decide +kernel
theorem dX6_init_17 : decode cX6_init 17 = .ok (.bipush 80, 2) := by decide +kernel
theorem dX6_init_19 : decode cX6_init 19 = .ok (.newarray .char, 2) := by decide +kernel
theorem dX6_init_21 : decode cX6_init 21 = .ok (.putfield 18, 3) := by decide +kernel
theorem dX6_init_24 : decode cX6_init 24 = .ok (.return_, 1) := by decide +kernel
theorem dX7_init_0 : decode cX7_init 0 = .ok (.aload_n 0, 1) := by decide +kernel
theorem dX7_init_1 : decode cX7_init 1 = .ok (.invokespecial 3, 3) := by decide +kernel
theorem dX7_init_4 : decode cX7_init 4 = .ok (.aload_n 0, 1) := by decide +kernel
theorem dX7_init_5 : decode cX7_init 5 = .ok (.bipush 10, 2) := by decide +kernel
theorem dX7_init_7 : decode cX7_init 7 = .ok (.anewarray 9, 3) := by decide +kernel
theorem dX7_init_10 : decode cX7_init 10 = .ok (.putfield 11, 3) := by decide +kernel
theorem dX7_init_13 : decode cX7_init 13 = .ok (.aload_n 0, 1) := by decide +kernel
theorem dX7_init_14 : decode cX7_init 14 = .ok (.iconst 3, 1) := by decide +kernel
theorem dX7_init_15 : decode cX7_init 15 = .ok (.anewarray 17, 3) := by decide +kernel
theorem dX7_init_18 : decode cX7_init 18 = .ok (.putfield 19, 3) := by decide +kernel
theorem dX7_init_21 : decode cX7_init 21 = .ok (.aload_n 0, 1) := by decide +kernel
theorem dX7_init_22 : decode cX7_init 22 = .ok (.iconst 3, 1) := by decide +kernel
theorem dX7_init_23 : decode cX7_init 23 = .ok (.anewarray 23, 3) := by decide +kernel
theorem dX7_init_26 : decode cX7_init 26 = .ok (.putfield 25, 3) := by decide +kernel
theorem dX7_init_29 : decode cX7_init 29 = .ok (.aload_n 0, 1) := by decide +kernel
theorem dX7_init_30 : decode cX7_init 30 = .ok (.bipush 100, 2) := by decide +kernel
theorem dX7_init_32 : decode cX7_init 32 = .ok (.anewarray 29, 3) := by decide +kernel
theorem dX7_init_35 : decode cX7_init 35 = .ok (.putfield 31, 3) := by decide +kernel
theorem dX7_init_38 : decode cX7_init 38 = .ok (.aload_n 0, 1) := by decide +kernel
theorem dX7_init_39 : decode cX7_init 39 = .ok (.bipush 60, 2) := by decide +kernel
theorem dX7_init_41 : decode cX7_init 41 = .ok (.anewarray 23, 3) := by decide +kernel
theorem dX7_init_44 : decode cX7_init 44 = .ok (.putfield 35, 3) := by decide +kernel
theorem dX7_init_47 : decode cX7_init 47 = .ok (.return_, 1) := by decide +kernel
theorem dX2_init_0 : decode cX2_init 0 = .ok (.aload_n 0, 1) := by decide +kernel
theorem dX2_init_1 : decode cX2_init 1 = .ok (.invokespecial 5, 3) := by decide +kernel
theorem dX2_init_4 : decode cX2_init 4 = .ok (.aload_n 0, 1) := by decide +kernel
theorem dX2_init_5 : decode cX2_init 5 = .ok (.sipush 192, 3) := by decide +kernel
theorem dX2_init_8 : decode cX2_init 8 = .ok (.newarray .int, 2) := by decide +kernel
theorem dX2_init_10 : decode cX2_init 10 = .ok (.putfield 11, 3) := by decide +kernel
theorem dX2_init_13 : decode cX2_init 13 = .ok (.aload_n 0, 1) := by decide +kernel
theorem dX2_init_14 : decode cX2_init 14 = .ok (.sipush 192, 3) := by decide +kernel
theorem dX2_init_17 : decode cX2_init 17 = .ok (.newarray .int, 2) := by decide +kernel
theorem dX2_init_19 : decode cX2_init 19 = .ok (.putfield 15, 3) := by decide +kernel
theorem dX2_init_22 : decode cX2_init 22 = .ok (.aload_n 0, 1) := by decide +kernel
theorem dX2_init_23 : decode cX2_init 23 = .ok (.sipush 192, 3) := by decide +kernel
theorem dX2_init_26 : decode cX2_init 26 = .ok (.newarray .boolean, 2) := by decide +kernel
theorem dX2_init_28 : decode cX2_init 28 = .ok (.putfield 18, 3) := by decide +kernel
theorem dX2_init_31 : decode cX2_init 31 = .ok (.aload_n 0, 1) := by decide +kernel
theorem dX2_init_32 : decode cX2_init 32 = .ok (.sipush 1728, 3) := by decide +kernel
theorem dX2_init_35 : decode cX2_init 35 = .ok (.newarray .int, 2) := by decide +kernel
theorem dX2_init_37 : decode cX2_init 37 = .ok (.putfield 22, 3) := by decide +kernel
theorem dX2_init_40 : decode cX2_init 40 = .ok (.aload_n 0, 1) := by decide +kernel
theorem dX2_init_41 : decode cX2_init 41 = .ok (.sipush 1728, 3) := by decide +kernel
theorem dX2_init_44 : decode cX2_init 44 = .ok (.newarray .long, 2) := by decide +kernel
theorem dX2_init_46 : decode cX2_init 46 = .ok (.putfield 25, 3) := by decide +kernel
theorem dX2_init_49 : decode cX2_init 49 = .ok (.aload_n 0, 1) := by decide +kernel
theorem dX2_init_50 : decode cX2_init 50 = .ok (.sipush 1728, 3) := by decide +kernel
theorem dX2_init_53 : decode cX2_init 53 = .ok (.newarray .boolean, 2) := by decide +kernel
theorem dX2_init_55 : decode cX2_init 55 = .ok (.putfield 29, 3) := by decide +kernel
theorem dX2_init_58 : decode cX2_init 58 = .ok (.aload_n 0, 1) := by decide +kernel
theorem dX2_init_59 : decode cX2_init 59 = .ok (.sipush 600, 3) := by decide +kernel
theorem dX2_init_62 : decode cX2_init 62 = .ok (.newarray .int, 2) := by decide +kernel
theorem dX2_init_64 : decode cX2_init 64 = .ok (.putfield 32, 3) := by decide +kernel
theorem dX2_init_67 : decode cX2_init 67 = .ok (.aload_n 0, 1) := by decide +kernel
theorem dX2_init_68 : decode cX2_init 68 = .ok (.sipush 600, 3) := by decide +kernel
theorem dX2_init_71 : decode cX2_init 71 = .ok (.newarray .boolean, 2) := by decide +kernel
theorem dX2_init_73 : decode cX2_init 73 = .ok (.putfield 35, 3) := by decide +kernel
theorem dX2_init_76 : decode cX2_init 76 = .ok (.return_, 1) := by decide +kernel
theorem dX1_init_0 : decode cX1_init 0 = .ok (.aload_n 0, 1) := by decide +kernel
theorem dX1_init_1 : decode cX1_init 1 = .ok (.invokespecial 3, 3) := by decide +kernel
theorem dX1_init_4 : decode cX1_init 4 = .ok (.aload_n 0, 1) := by decide +kernel
theorem dX1_init_5 : decode cX1_init 5 = .ok (.new 9, 3) := by decide +kernel
theorem dX1_init_8 : decode cX1_init 8 = .ok (.dup, 1) := by decide +kernel
theorem dX1_init_9 : decode cX1_init 9 = .ok (.invokespecial 11, 3) := by decide +kernel
theorem dX1_init_12 : decode cX1_init 12 = .ok (.putfield 12, 3) := by decide +kernel
theorem dX1_init_15 : decode cX1_init 15 = .ok (.aload_n 0, 1) := by decide +kernel
theorem dX1_init_16 : decode cX1_init 16 = .ok (.bipush 90, 2) := by decide +kernel
theorem dX1_init_18 : decode cX1_init 18 = .ok (.newarray .int, 2) := by decide +kernel
theorem dX1_init_20 : decode cX1_init 20 = .ok (.putfield 18, 3) := by decide +kernel
theorem dX1_init_23 : decode cX1_init 23 = .ok (.return_, 1) := by decide +kernel
theorem dX5_init_0 : decode cX5_init 0 = .ok (.aload_n 0, 1) := by decide +kernel
theorem dX5_init_1 : decode cX5_init 1 = .ok (.invokespecial 3, 3) := by decide +kernel
theorem dX5_init_4 : decode cX5_init 4 = .ok (.aload_n 0, 1) := by decide +kernel
theorem dX5_init_5 : decode cX5_init 5 = .ok (.iconst 3, 1) := by decide +kernel
theorem dX5_init_6 : decode cX5_init 6 = .ok (.anewarray 9, 3) := by decide +kernel
theorem dX5_init_9 : decode cX5_init 9 = .ok (.putfield 11, 3) := by decide +kernel
theorem dX5_init_12 : decode cX5_init 12 = .ok (.aload_n 0, 1) := by decide +kernel
theorem dX5_init_13 : decode cX5_init 13 = .ok (.bipush 100, 2) := by decide +kernel
theorem dX5_init_15 : decode cX5_init 15 = .ok (.anewarray 17, 3) := by decide +kernel
theorem dX5_init_18 : decode cX5_init 18 = .ok (.putfield 19, 3) := by decide +kernel
theorem dX5_init_21 : decode cX5_init 21 = .ok (.aload_n 0, 1) := by decide +kernel
theorem dX5_init_22 : decode cX5_init 22 = .ok (.bipush 60, 2) := by decide +kernel
theorem dX5_init_24 : decode cX5_init 24 = .ok (.anewarray 9, 3) := by decide +kernel
theorem dX5_init_27 : decode cX5_init 27 = .ok (.putfield 23, 3) := by decide +kernel
theorem dX5_init_30 : decode cX5_init 30 = .ok (.aload_n 0, 1) := by decide +kernel
theorem dX5_init_31 : decode cX5_init 31 = .ok (.bipush 100, 2) := by decide +kernel
theorem dX5_init_33 : decode cX5_init 33 = .ok (.anewarray 17, 3) := by decide +kernel
theorem dX5_init_36 : decode cX5_init 36 = .ok (.putfield 26, 3) := by decide +kernel
theorem dX5_init_39 : decode cX5_init 39 = .ok (.aload_n 0, 1) := by decide +kernel
theorem dX5_init_40 : decode cX5_init 40 = .ok (.bipush 60, 2) := by decide +kernel
theorem dX5_init_42 : decode cX5_init 42 = .ok (.anewarray 9, 3) := by decide +kernel
theorem dX5_init_45 : decode cX5_init 45 = .ok (.putfield 29, 3) := by decide +kernel
theorem dX5_init_48 : decode cX5_init 48 = .ok (.aload_n 0, 1) := by decide +kernel
theorem dX5_init_49 : decode cX5_init 49 = .ok (.bipush 100, 2) := by decide +kernel
theorem dX5_init_51 : decode cX5_init 51 = .ok (.newarray .boolean, 2) := by decide +kernel
theorem dX5_init_53 : decode cX5_init 53 = .ok (.putfield 32, 3) := by decide +kernel
theorem dX5_init_56 : decode cX5_init 56 = .ok (.aload_n 0, 1) := by decide +kernel
theorem dX5_init_57 : decode cX5_init 57 = .ok (.bipush 60, 2) := by decide +kernel
theorem dX5_init_59 : decode cX5_init 59 = .ok (.newarray .boolean, 2) := by decide +kernel
theorem dX5_init_61 : decode cX5_init 61 = .ok (.putfield 36, 3) := by decide +kernel
theorem dX5_init_64 : decode cX5_init 64 = .ok (.iconst 0, 1) := by decide +kernel
theorem dX5_init_65 : decode cX5_init 65 = .ok (.istore_n 1, 1) := by decide +kernel
theorem dX5_init_66 : decode cX5_init 66 = .ok (.iload_n 1, 1) := by decide +kernel
theorem dX5_init_67 : decode cX5_init 67 = .ok (.bipush 100, 2) := by decide +kernel
theorem dX5_init_69 : decode cX5_init 69 = .ok (.if_icmp .ge 26, 3) := by decide +kernel
theorem dX5_init_72 : decode cX5_init 72 = .ok (.aload_n 0, 1) := by decide +kernel
theorem dX5_init_73 : decode cX5_init 73 = .ok (.getfield 19, 3) := by decide +kernel
theorem dX5_init_76 : decode cX5_init 76 = .ok (.iload_n 1, 1) := by decide +kernel
theorem dX5_init_77 : decode cX5_init 77 = .ok (.new 17, 3) := by decide +kernel
theorem dX5_init_80 : decode cX5_init 80 = .ok (.dup, 1) := by decide +kernel
theorem dX5_init_81 : decode cX5_init 81 = .ok (.iconst 0, 1) := by decide +kernel
theorem dX5_init_82 : decode cX5_init 82 = .ok (.bipush 32, 2) := by decide +kernel
theorem dX5_init_84 : decode cX5_init 84 = .ok (.iconst 0, 1) := by decide +kernel
theorem dX5_init_85 : decode cX5_init 85 = .ok (.invokespecial 39, 3) := by decide +kernel
theorem dX5_init_88 : decode cX5_init 88 = .ok (.aastore, 1) := by decide +kernel
theorem dX5_init_89 : decode cX5_init 89 = .ok (.iinc 1 1, 3) := by decide +kernel
theorem dX5_init_92 : decode cX5_init 92 = .ok (.goto (-26), 3) := by decide +kernel
theorem dX5_init_95 : decode cX5_init 95 = .ok (.iconst 0, 1) := by decide +kernel
theorem dX5_init_96 : decode cX5_init 96 = .ok (.istore_n 1, 1) := by decide +kernel
theorem dX5_init_97 : decode cX5_init 97 = .ok (.iload_n 1, 1) := by decide +kernel
theorem dX5_init_98 : decode cX5_init 98 = .ok (.bipush 60, 2) := by decide +kernel
theorem dX5_init_100 : decode cX5_init 100 = .ok (.if_icmp .ge 26, 3) := by decide +kernel
theorem dX5_init_103 : decode cX5_init 103 = .ok (.aload_n 0, 1) := by decide +kernel
theorem dX5_init_104 : decode cX5_init 104 = .ok (.getfield 23, 3) := by decide +kernel
theorem dX5_init_107 : decode cX5_init 107 = .ok (.iload_n 1, 1) := by decide +kernel
theorem dX5_init_108 : decode cX5_init 108 = .ok (.new 9, 3) := by decide +kernel
theorem dX5_init_111 : decode cX5_init 111 = .ok (.dup, 1) := by decide +kernel
theorem dX5_init_112 : decode cX5_init 112 = .ok (.bipush 101, 2) := by decide +kernel
theorem dX5_init_114 : decode cX5_init 114 = .ok (.aconst_null, 1) := by decide +kernel
theorem dX5_init_115 : decode cX5_init 115 = .ok (.aconst_null, 1) := by decide +kernel
theorem dX5_init_116 : decode cX5_init 116 = .ok (.invokespecial 42, 3) := by decide +kernel
theorem dX5_init_119 : decode cX5_init 119 = .ok (.aastore, 1) := by decide +kernel
theorem dX5_init_120 : decode cX5_init 120 = .ok (.iinc 1 1, 3) := by decide +kernel
theorem dX5_init_123 : decode cX5_init 123 = .ok (.goto (-26), 3) := by decide +kernel
theorem dX5_init_126 : decode cX5_init 126 = .ok (.return_, 1) := by decide +kernel
theorem dX11_init_0 : decode cX11_init 0 = .ok (.aload_n 0, 1) := by decide +kernel
theorem dX11_init_1 : decode cX11_init 1 = .ok (.invokespecial 1, 3) := by decide +kernel
theorem dX11_init_4 : decode cX11_init 4 = .ok (.aload_n 0, 1) := by decide +kernel
theorem dX11_init_5 : decode cX11_init 5 = .ok (.new 7, 3) := by decide +kernel
theorem dX11_init_8 : decode cX11_init 8 = .ok (.dup, 1) := by decide +kernel
theorem dX11_init_9 : decode cX11_init 9 = .ok (.invokespecial 9, 3) := by decide +kernel
theorem dX11_init_12 : decode cX11_init 12 = .ok (.putfield 10, 3) := by decide +kernel
theorem dX11_init_15 : decode cX11_init 15 = .ok (.aload_n 0, 1) := by decide +kernel
theorem dX11_init_16 : decode cX11_init 16 = .ok (.new 16, 3) := by decide +kernel
theorem dX11_init_19 : decode cX11_init 19 = .ok (.dup, 1) := by decide +kernel
theorem dX11_init_20 : decode cX11_init 20 = .ok (.invokespecial 18, 3) := by decide +kernel
theorem dX11_init_23 : decode cX11_init 23 = .ok (.putfield 19, 3) := by decide +kernel
theorem dX11_init_26 : decode cX11_init 26 = .ok (.aload_n 0, 1) := by decide +kernel
theorem dX11_init_27 : decode cX11_init 27 = .ok (.new 23, 3) := by decide +kernel
theorem dX11_init_30 : decode cX11_init 30 = .ok (.dup, 1) := by decide +kernel
theorem dX11_init_31 : decode cX11_init 31 = .ok (.invokespecial 25, 3) := by decide +kernel
theorem dX11_init_34 : decode cX11_init 34 = .ok (.putfield 26, 3) := by decide +kernel
theorem dX11_init_37 : decode cX11_init 37 = .ok (.aload_n 0, 1) := by decide +kernel
theorem dX11_init_38 : decode cX11_init 38 = .ok (.new 30, 3) := by decide +kernel
theorem dX11_init_41 : decode cX11_init 41 = .ok (.dup, 1) := by decide +kernel
theorem dX11_init_42 : decode cX11_init 42 = .ok (.invokespecial 32, 3) := by decide +kernel
theorem dX11_init_45 : decode cX11_init 45 = .ok (.putfield 33, 3) := by decide +kernel
theorem dX11_init_48 : decode cX11_init 48 = .ok (.aload_n 0, 1) := by decide +kernel
theorem dX11_init_49 : decode cX11_init 49 = .ok (.new 30, 3) := by decide +kernel
theorem dX11_init_52 : decode cX11_init 52 = .ok (.dup, 1) := by decide +kernel
theorem dX11_init_53 : decode cX11_init 53 = .ok (.invokespecial 32, 3) := by decide +kernel
theorem dX11_init_56 : decode cX11_init 56 = .ok (.putfield 37, 3) := by decide +kernel
theorem dX11_init_59 : decode cX11_init 59 = .ok (.aload_n 0, 1) := by decide +kernel
theorem dX11_init_60 : decode cX11_init 60 = .ok (.bipush 16, 2) := by decide +kernel
theorem dX11_init_62 : decode cX11_init 62 = .ok (.anewarray 30, 3) := by decide +kernel
theorem dX11_init_65 : decode cX11_init 65 = .ok (.putfield 40, 3) := by decide +kernel
theorem dX11_init_68 : decode cX11_init 68 = .ok (.iconst 0, 1) := by decide +kernel
theorem dX11_init_69 : decode cX11_init 69 = .ok (.istore_n 1, 1) := by decide +kernel
theorem dX11_init_70 : decode cX11_init 70 = .ok (.iload_n 1, 1) := by decide +kernel
theorem dX11_init_71 : decode cX11_init 71 = .ok (.bipush 16, 2) := by decide +kernel
theorem dX11_init_73 : decode cX11_init 73 = .ok (.if_icmp .ge 22, 3) := by decide +kernel
theorem dX11_init_76 : decode cX11_init 76 = .ok (.aload_n 0, 1) := by decide +kernel
theorem dX11_init_77 : decode cX11_init 77 = .ok (.getfield 40, 3) := by decide +kernel
theorem dX11_init_80 : decode cX11_init 80 = .ok (.iload_n 1, 1) := by decide +kernel
theorem dX11_init_81 : decode cX11_init 81 = .ok (.new 30, 3) := by decide +kernel
theorem dX11_init_84 : decode cX11_init 84 = .ok (.dup, 1) := by decide +kernel
theorem dX11_init_85 : decode cX11_init 85 = .ok (.invokespecial 32, 3) := by decide +kernel
theorem dX11_init_88 : decode cX11_init 88 = .ok (.aastore, 1) := by decide +kernel
theorem dX11_init_89 : decode cX11_init 89 = .ok (.iinc 1 1, 3) := by decide +kernel
theorem dX11_init_92 : decode cX11_init 92 = .ok (.goto (-22), 3) := by decide +kernel
theorem dX11_init_95 : decode cX11_init 95 = .ok (.return_, 1) := by decide +kernel
theorem dX18_init_0 : decode cX18_init 0 = .ok (.aload_n 0, 1) := by decide +kernel
theorem dX18_init_1 : decode cX18_init 1 = .ok (.invokespecial 1, 3) := by decide +kernel
theorem dX18_init_4 : decode cX18_init 4 = .ok (.aload_n 0, 1) := by decide +kernel
theorem dX18_init_5 : decode cX18_init 5 = .ok (.bipush 10, 2) := by decide +kernel
theorem dX18_init_7 : decode cX18_init 7 = .ok (.newarray .int, 2) := by decide +kernel
theorem dX18_init_9 : decode cX18_init 9 = .ok (.putfield 9, 3) := by decide +kernel
theorem dX18_init_12 : decode cX18_init 12 = .ok (.aload_n 0, 1) := by decide +kernel
theorem dX18_init_13 : decode cX18_init 13 = .ok (.bipush 10, 2) := by decide +kernel
theorem dX18_init_15 : decode cX18_init 15 = .ok (.newarray .int, 2) := by decide +kernel
theorem dX18_init_17 : decode cX18_init 17 = .ok (.putfield 13, 3) := by decide +kernel
theorem dX18_init_20 : decode cX18_init 20 = .ok (.aload_n 0, 1) := by decide +kernel
theorem dX18_init_21 : decode cX18_init 21 = .ok (.bipush 10, 2) := by decide +kernel
theorem dX18_init_23 : decode cX18_init 23 = .ok (.newarray .boolean, 2) := by decide +kernel
theorem dX18_init_25 : decode cX18_init 25 = .ok (.putfield 16, 3) := by decide +kernel
theorem dX18_init_28 : decode cX18_init 28 = .ok (.aload_n 0, 1) := by decide +kernel
theorem dX18_init_29 : decode cX18_init 29 = .ok (.iconst 3, 1) := by decide +kernel
theorem dX18_init_30 : decode cX18_init 30 = .ok (.newarray .int, 2) := by decide +kernel
theorem dX18_init_32 : decode cX18_init 32 = .ok (.putfield 20, 3) := by decide +kernel
theorem dX18_init_35 : decode cX18_init 35 = .ok (.aload_n 0, 1) := by decide +kernel
theorem dX18_init_36 : decode cX18_init 36 = .ok (.iconst 3, 1) := by decide +kernel
theorem dX18_init_37 : decode cX18_init 37 = .ok (.newarray .int, 2) := by decide +kernel
theorem dX18_init_39 : decode cX18_init 39 = .ok (.putfield 23, 3) := by decide +kernel
theorem dX18_init_42 : decode cX18_init 42 = .ok (.aload_n 0, 1) := by decide +kernel
theorem dX18_init_43 : decode cX18_init 43 = .ok (.iconst 3, 1) := by decide +kernel
theorem dX18_init_44 : decode cX18_init 44 = .ok (.newarray .int, 2) := by decide +kernel
theorem dX18_init_46 : decode cX18_init 46 = .ok (.putfield 26, 3) := by decide +kernel
theorem dX18_init_49 : decode cX18_init 49 = .ok (.aload_n 0, 1) := by decide +kernel
theorem dX18_init_50 : decode cX18_init 50 = .ok (.iconst 3, 1) := by decide +kernel
theorem dX18_init_51 : decode cX18_init 51 = .ok (.anewarray 29, 3) := by decide +kernel
theorem dX18_init_54 : decode cX18_init 54 = .ok (.putfield 31, 3) := by decide +kernel
theorem dX18_init_57 : decode cX18_init 57 = .ok (.aload_n 0, 1) := by decide +kernel
theorem dX18_init_58 : decode cX18_init 58 = .ok (.bipush 100, 2) := by decide +kernel
theorem dX18_init_60 : decode cX18_init 60 = .ok (.anewarray 35, 3) := by decide +kernel
theorem dX18_init_63 : decode cX18_init 63 = .ok (.putfield 37, 3) := by decide +kernel
theorem dX18_init_66 : decode cX18_init 66 = .ok (.aload_n 0, 1) := by decide +kernel
theorem dX18_init_67 : decode cX18_init 67 = .ok (.bipush 60, 2) := by decide +kernel
theorem dX18_init_69 : decode cX18_init 69 = .ok (.anewarray 29, 3) := by decide +kernel
theorem dX18_init_72 : decode cX18_init 72 = .ok (.putfield 41, 3) := by decide +kernel
theorem dX18_init_75 : decode cX18_init 75 = .ok (.return_, 1) := by decide +kernel
/-! what the constructors want of the tables beside their words: nest mates, arrays of the own classes -/
def nw (U : State) : Prop := (va_Nw (.methodLinkNest RX11 9 yX7_init RX11) U ∧ va_Nw (.methodLinkNest RX11 25 yX1_init RX11) U ∧ va_Nw (.methodLinkNest RX11 32 yX6_init RX11) U ∧ va_Nw (.methodLinkNest RX1 11 yX2_init RX11) U) ∧ va_AO RX10 U ∧ va_AO RX0 U ∧ va_AO RX8 U ∧ va_AO RX3 U ∧ va_AO RX6 U
theorem nw.warm {s U : State} (hW : s.WarmedH U.vm) (h : nw s) : nw U := ⟨⟨va_Nw.warmM hW h.1.1, va_Nw.warmM hW h.1.2.1, va_Nw.warmM hW h.1.2.2.1, va_Nw.warmM hW h.1.2.2.2⟩, va_AO.moved hW.alike h.2.1, va_AO.moved hW.alike h.2.2.1, va_AO.moved hW.alike h.2.2.2.1, va_AO.moved hW.alike h.2.2.2.2.1, va_AO.moved hW.alike h.2.2.2.2.2⟩
theorem nw.blind {U : State} (a : Array Value) (g : JFrame) (mk : MethodId) (h : nw U) : nw (U.calling g mk a) := ⟨⟨va_Nw.same (u := U) rfl rfl h.1.1, va_Nw.same (u := U) rfl rfl h.1.2.1, va_Nw.same (u := U) rfl rfl h.1.2.2.1, va_Nw.same (u := U) rfl rfl h.1.2.2.2⟩, va_AO.moved (u := U) (Vm.Alike.refl U.vm) h.2.1, va_AO.moved (u := U) (Vm.Alike.refl U.vm) h.2.2.1, va_AO.moved (u := U) (Vm.Alike.refl U.vm) h.2.2.2.1, va_AO.moved (u := U) (Vm.Alike.refl U.vm) h.2.2.2.2.1, va_AO.moved (u := U) (Vm.Alike.refl U.vm) h.2.2.2.2.2⟩
def wc_X3_init : List Cond := .code yX3_init cX3_init 4 none :: ([.methodLink RX3 3 objectInit, .instanceMethod objectInit, .code objectInit ⟨#[0xb1]⟩ 1 none, .fieldLink RX3 9 "Sequencepoint$Node" "shape" "I", .fieldLink RX3 15 "Sequencepoint$Node" "kind" "C", .fieldLink RX3 19 "Sequencepoint$Node" "type" "I"] ++ (wsX30 ++ []))
set_option maxHeartbeats 4000000 in
set_option maxRecDepth 100000 in
theorem c_X3_init (l : Launch) (dC : Nat → ClassId) (dI : Nat → Nat → Nat) (h : Nat) (sz : Nat) : Met l yX3_init wc_X3_init ({ frames := 1, cells := 0, slots := 0, locals := 12 }) (va_Pc [.ref h, .int 0, .int 32, .int 0] (fun U => U.heap.size = sz ∧ va_P (dC, dI) vwCl [(h, .inr (7, [.int 0, .int 0, .int 0, .int 0, .long 0, .null, .null, .null, .null, .null, .int 0, .int 0, .int 0, .int 0]))] U.heap ∧ va_K (dC, dI) vwCl [] U ∧ va_D (fun _ => True) [(h, .inr (7, [.int 0, .int 0, .int 0, .int 0, .long 0, .null, .null, .null, .null, .null, .int 0, .int 0, .int 0, .int 0]))])) (va_Qv (fun _ : Unit => True) (fun _ t => (va_P (dC, dI) vwCl [(h, .inr (7, [.int 0, .int 0, .int 32, .int 0, .long 0, .null, .null, .null, .null, .null, .int 0, .int 0, .int 0, .int 0]))] t.heap ∧ va_K (dC, dI) vwCl [] t ∧ va_D (va_A [(h, .inr (7, [.int 0, .int 0, .int 0, .int 0, .long 0, .null, .null, .null, .null, .null, .int 0, .int 0, .int 0, .int 0]))] sz) [(h, .inr (7, [.int 0, .int 0, .int 32, .int 0, .long 0, .null, .null, .null, .null, .null, .int 0, .int 0, .int 0, .int 0]))])) (va_A [(h, .inr (7, [.int 0, .int 0, .int 0, .int 0, .long 0, .null, .null, .null, .null, .null, .int 0, .int 0, .int 0, .int 0]))] sz)) 0 0 (va_A [(h, .inr (7, [.int 0, .int 0, .int 0, .int 0, .long 0, .null, .null, .null, .null, .null, .int 0, .int 0, .int 0, .int 0]))] sz) := by
  refine Met.ofW (cc := cX3_init) (maxL := 4) (ret := none) (by decide) rfl ?_
  intro p e s m args below meth c s₁ B hml hv
  obtain ⟨rfl, hsz, hP, hK, hD0⟩ := hv
  have hx := B.exec
  have hb := B.bytes
  have hr := B.returns
  have hts := atoms_spec (ws := wc_X3_init) B.pre
  have hown : s.vm.findClass RX3 = some m.cls := findClass_of_methodNamed B.named
  have hlocks := B.notSynchronized
  have hin : meth.name = "<init>" := (name_of_methodNamed B.named B.method).1
  subst hsz
  have hD := hD0.self (sz := s.heap.size)
  generalize hAe : va_A [(h, .inr (7, [.int 0, .int 0, .int 0, .int 0, .long 0, .null, .null, .null, .null, .null, .int 0, .int 0, .int 0, .int 0]))] s.heap.size = A at hD ⊢
  have hA : ∀ q : Nat, s.heap.size ≤ q → A q := fun q h => by rw [← hAe]; exact Or.inr h
  have hS : va_S A s.heap s.heap [] := va_S.rf
  have hP : va_P (dC, dI) vwCl [(h, .inr (7, [.int 0, .int 0, .int 0, .int 0, .long 0, .null, .null, .null, .null, .null, .int 0, .int 0, .int 0, .int 0]))] s.heap := hP
  have hl := lv_entry ([.ref h, .int 0, .int 32, .int 0]) (n := 4) (Nat.le_of_ble_eq_true rfl)
  rw [lg_entry_eq]
  generalize (lg_sl ([.ref h, .int 0, .int 32, .int 0]) ++ List.replicate (4 - (lg_sl ([.ref h, .int 0, .int 32, .int 0])).length) Slot.unset).toArray = ls at hl ⊢
  have hl : lv_has ls 4 [(0, .ref h), (1, .int 0), (2, .int 32), (3, .int 0)] := hl
  refine lv_aload_n hx hb dX3_init_0 rfl (lv_at hl 0 rfl) ?_
  refine W.objInit hx hb hown (hts (.methodLink RX3 3 objectInit) (by decide +kernel)) (hts (.instanceMethod objectInit) (by decide +kernel)) (hts (.code objectInit ⟨#[0xb1]⟩ 1 none) (by decide +kernel)) rfl (by rw [hml]; exact hl.1) rfl dX3_init_1 (Nat.le_of_ble_eq_true rfl) (Nat.le_of_ble_eq_true rfl) ?_
  refine W.eq (g2 := F0 m 4 ls []) rfl ?_
  refine lv_aload_n hx hb dX3_init_4 rfl (lv_at hl 0 rfl) ?_
  refine lv_iload_n hx hb dX3_init_5 rfl (lv_at hl 1 rfl) ?_
  refine va_put (D := (dC, dI)) (ci := 7) (v := .int 0) (ty := .int) (C := RX3) (T := TX3) (N := 14) hx hb hts (fun w h => (List.mem_cons_of_mem _ (List.mem_append_right _ (List.mem_append_left _ h)))) tyX3 tyX3_ok nmX3 hown hK hP hD hS 0 rfl rfl 1 (by decide) (hts (.fieldLink RX3 9 "Sequencepoint$Node" "shape" "I") (by decide +kernel)) (fun _ h9 => h9) rfl (by decide +kernel) (by decide +kernel) (by decide +kernel) (Nat.le_of_ble_eq_true rfl) dX3_init_6 (fun H locs hP hD hS => ?_)
  have hP : va_P (dC, dI) vwCl [(h, .inr (7, [.int 0, .int 0, .int 0, .int 0, .long 0, .null, .null, .null, .null, .null, .int 0, .int 0, .int 0, .int 0]))] H := hP
  have hD : va_D A [(h, .inr (7, [.int 0, .int 0, .int 0, .int 0, .long 0, .null, .null, .null, .null, .null, .int 0, .int 0, .int 0, .int 0]))] := hD
  refine lv_aload_n hx hb dX3_init_9 rfl (lv_at hl 0 rfl) ?_
  refine lv_iload_n hx hb dX3_init_10 rfl (lv_at hl 2 rfl) ?_
  refine va_put (D := (dC, dI)) (ci := 7) (v := .int 32) (ty := .char) (C := RX3) (T := TX3) (N := 14) hx hb hts (fun w h => (List.mem_cons_of_mem _ (List.mem_append_right _ (List.mem_append_left _ h)))) tyX3 tyX3_ok nmX3 hown hK hP hD hS 0 rfl rfl 2 (by decide) (hts (.fieldLink RX3 15 "Sequencepoint$Node" "kind" "C") (by decide +kernel)) (fun _ h9 => h9) rfl (by decide +kernel) (by decide +kernel) (by decide +kernel) (Nat.le_of_ble_eq_true rfl) dX3_init_11 (fun H locs hP hD hS => ?_)
  have hP : va_P (dC, dI) vwCl [(h, .inr (7, [.int 0, .int 0, .int 32, .int 0, .long 0, .null, .null, .null, .null, .null, .int 0, .int 0, .int 0, .int 0]))] H := hP
  have hD : va_D A [(h, .inr (7, [.int 0, .int 0, .int 32, .int 0, .long 0, .null, .null, .null, .null, .null, .int 0, .int 0, .int 0, .int 0]))] := hD
  refine lv_aload_n hx hb dX3_init_14 rfl (lv_at hl 0 rfl) ?_
  refine lv_iload_n hx hb dX3_init_15 rfl (lv_at hl 3 rfl) ?_
  refine va_put (D := (dC, dI)) (ci := 7) (v := .int 0) (ty := .int) (C := RX3) (T := TX3) (N := 14) hx hb hts (fun w h => (List.mem_cons_of_mem _ (List.mem_append_right _ (List.mem_append_left _ h)))) tyX3 tyX3_ok nmX3 hown hK hP hD hS 0 rfl rfl 3 (by decide) (hts (.fieldLink RX3 19 "Sequencepoint$Node" "type" "I") (by decide +kernel)) (fun _ h9 => h9) rfl (by decide +kernel) (by decide +kernel) (by decide +kernel) (Nat.le_of_ble_eq_true rfl) dX3_init_16 (fun H locs hP hD hS => ?_)
  have hP : va_P (dC, dI) vwCl [(h, .inr (7, [.int 0, .int 0, .int 32, .int 0, .long 0, .null, .null, .null, .null, .null, .int 0, .int 0, .int 0, .int 0]))] H := hP
  have hD : va_D A [(h, .inr (7, [.int 0, .int 0, .int 32, .int 0, .long 0, .null, .null, .null, .null, .null, .int 0, .int 0, .int 0, .int 0]))] := hD
  have hP9 := hP.sub (ws' := [(h, .inr (7, [.int 0, .int 0, .int 32, .int 0, .long 0, .null, .null, .null, .null, .null, .int 0, .int 0, .int 0, .int 0]))]) [0] rfl
  have hD9 := hD.sub (ws' := [(h, .inr (7, [.int 0, .int 0, .int 32, .int 0, .long 0, .null, .null, .null, .null, .null, .int 0, .int 0, .int 0, .int 0]))]) [0] (by decide) rfl
  have hK9 := hK.sub (tys' := []) [] rfl
  exact W.vret hx hb hr (fun t ht hW => ⟨⟨(), rfl, trivial, ⟨by rw [ht]; exact hP9, va_K.moved hW.alike hK9, hD9⟩⟩, hS.F ht⟩) hS.2.2 dX3_init_19

def wc_X8_init : List Cond := .code yX8_init cX8_init 4 none :: ([.methodLink RX8 1 objectInit, .instanceMethod objectInit, .code objectInit ⟨#[0xb1]⟩ 1 none, .fieldLink RX8 7 "Sequencepoint$Statement" "kind" "C", .fieldLink RX8 13 "Sequencepoint$Statement" "node" "LSequencepoint$Node;", .fieldLink RX8 17 "Sequencepoint$Statement" "variable" "LSequencepoint$Variable;"] ++ (wsX80 ++ []))
set_option maxHeartbeats 4000000 in
set_option maxRecDepth 100000 in
theorem c_X8_init (l : Launch) (dC : Nat → ClassId) (dI : Nat → Nat → Nat) (h : Nat) (sz : Nat) : Met l yX8_init wc_X8_init ({ frames := 1, cells := 0, slots := 0, locals := 12 }) (va_Pc [.ref h, .int 101, .null, .null] (fun U => U.heap.size = sz ∧ va_P (dC, dI) vwCl [(h, .inr (11, [.int 0, .int 0, .null, .null, .null, .null, .int 0, .int 0, .int 0]))] U.heap ∧ va_K (dC, dI) vwCl [] U ∧ va_D (fun _ => True) [(h, .inr (11, [.int 0, .int 0, .null, .null, .null, .null, .int 0, .int 0, .int 0]))])) (va_Qv (fun _ : Unit => True) (fun _ t => (va_P (dC, dI) vwCl [(h, .inr (11, [.int 0, .int 101, .null, .null, .null, .null, .int 0, .int 0, .int 0]))] t.heap ∧ va_K (dC, dI) vwCl [] t ∧ va_D (va_A [(h, .inr (11, [.int 0, .int 0, .null, .null, .null, .null, .int 0, .int 0, .int 0]))] sz) [(h, .inr (11, [.int 0, .int 101, .null, .null, .null, .null, .int 0, .int 0, .int 0]))])) (va_A [(h, .inr (11, [.int 0, .int 0, .null, .null, .null, .null, .int 0, .int 0, .int 0]))] sz)) 0 0 (va_A [(h, .inr (11, [.int 0, .int 0, .null, .null, .null, .null, .int 0, .int 0, .int 0]))] sz) := by
  refine Met.ofW (cc := cX8_init) (maxL := 4) (ret := none) (by decide) rfl ?_
  intro p e s m args below meth c s₁ B hml hv
  obtain ⟨rfl, hsz, hP, hK, hD0⟩ := hv
  have hx := B.exec
  have hb := B.bytes
  have hr := B.returns
  have hts := atoms_spec (ws := wc_X8_init) B.pre
  have hown : s.vm.findClass RX8 = some m.cls := findClass_of_methodNamed B.named
  have hlocks := B.notSynchronized
  have hin : meth.name = "<init>" := (name_of_methodNamed B.named B.method).1
  subst hsz
  have hD := hD0.self (sz := s.heap.size)
  generalize hAe : va_A [(h, .inr (11, [.int 0, .int 0, .null, .null, .null, .null, .int 0, .int 0, .int 0]))] s.heap.size = A at hD ⊢
  have hA : ∀ q : Nat, s.heap.size ≤ q → A q := fun q h => by rw [← hAe]; exact Or.inr h
  have hS : va_S A s.heap s.heap [] := va_S.rf
  have hP : va_P (dC, dI) vwCl [(h, .inr (11, [.int 0, .int 0, .null, .null, .null, .null, .int 0, .int 0, .int 0]))] s.heap := hP
  have hl := lv_entry ([.ref h, .int 101, .null, .null]) (n := 4) (Nat.le_of_ble_eq_true rfl)
  rw [lg_entry_eq]
  generalize (lg_sl ([.ref h, .int 101, .null, .null]) ++ List.replicate (4 - (lg_sl ([.ref h, .int 101, .null, .null])).length) Slot.unset).toArray = ls at hl ⊢
  have hl : lv_has ls 4 [(0, .ref h), (1, .int 101), (2, .null), (3, .null)] := hl
  refine lv_aload_n hx hb dX8_init_0 rfl (lv_at hl 0 rfl) ?_
  refine W.objInit hx hb hown (hts (.methodLink RX8 1 objectInit) (by decide +kernel)) (hts (.instanceMethod objectInit) (by decide +kernel)) (hts (.code objectInit ⟨#[0xb1]⟩ 1 none) (by decide +kernel)) rfl (by rw [hml]; exact hl.1) rfl dX8_init_1 (Nat.le_of_ble_eq_true rfl) (Nat.le_of_ble_eq_true rfl) ?_
  refine W.eq (g2 := F0 m 4 ls []) rfl ?_
  refine lv_aload_n hx hb dX8_init_4 rfl (lv_at hl 0 rfl) ?_
  refine lv_iload_n hx hb dX8_init_5 rfl (lv_at hl 1 rfl) ?_
  refine va_put (D := (dC, dI)) (ci := 11) (v := .int 101) (ty := .char) (C := RX8) (T := TX8) (N := 9) hx hb hts (fun w h => (List.mem_cons_of_mem _ (List.mem_append_right _ (List.mem_append_left _ h)))) tyX8 tyX8_ok nmX8 hown hK hP hD hS 0 rfl rfl 1 (by decide) (hts (.fieldLink RX8 7 "Sequencepoint$Statement" "kind" "C") (by decide +kernel)) (fun _ h9 => h9) rfl (by decide +kernel) (by decide +kernel) (by decide +kernel) (Nat.le_of_ble_eq_true rfl) dX8_init_6 (fun H locs hP hD hS => ?_)
  have hP : va_P (dC, dI) vwCl [(h, .inr (11, [.int 0, .int 101, .null, .null, .null, .null, .int 0, .int 0, .int 0]))] H := hP
  have hD : va_D A [(h, .inr (11, [.int 0, .int 101, .null, .null, .null, .null, .int 0, .int 0, .int 0]))] := hD
  refine lv_aload_n hx hb dX8_init_9 rfl (lv_at hl 0 rfl) ?_
  refine lv_aload_nN hx hb dX8_init_10 rfl (lv_at hl 2 rfl) ?_
  refine va_put (D := (dC, dI)) (ci := 11) (v := .null) (ty := (tyX8 2)) (C := RX8) (T := TX8) (N := 9) hx hb hts (fun w h => (List.mem_cons_of_mem _ (List.mem_append_right _ (List.mem_append_left _ h)))) tyX8 tyX8_ok nmX8 hown hK hP hD hS 0 rfl rfl 2 (by decide) (hts (.fieldLink RX8 13 "Sequencepoint$Statement" "node" "LSequencepoint$Node;") (by decide +kernel)) (fun _ h9 => h9) rfl (by decide +kernel) rfl rfl (Nat.le_of_ble_eq_true rfl) dX8_init_11 (fun H locs hP hD hS => ?_)
  have hP : va_P (dC, dI) vwCl [(h, .inr (11, [.int 0, .int 101, .null, .null, .null, .null, .int 0, .int 0, .int 0]))] H := hP
  have hD : va_D A [(h, .inr (11, [.int 0, .int 101, .null, .null, .null, .null, .int 0, .int 0, .int 0]))] := hD
  refine lv_aload_n hx hb dX8_init_14 rfl (lv_at hl 0 rfl) ?_
  refine lv_aload_nN hx hb dX8_init_15 rfl (lv_at hl 3 rfl) ?_
  refine va_put (D := (dC, dI)) (ci := 11) (v := .null) (ty := (tyX8 3)) (C := RX8) (T := TX8) (N := 9) hx hb hts (fun w h => (List.mem_cons_of_mem _ (List.mem_append_right _ (List.mem_append_left _ h)))) tyX8 tyX8_ok nmX8 hown hK hP hD hS 0 rfl rfl 3 (by decide) (hts (.fieldLink RX8 17 "Sequencepoint$Statement" "variable" "LSequencepoint$Variable;") (by decide +kernel)) (fun _ h9 => h9) rfl (by decide +kernel) rfl rfl (Nat.le_of_ble_eq_true rfl) dX8_init_16 (fun H locs hP hD hS => ?_)
  have hP : va_P (dC, dI) vwCl [(h, .inr (11, [.int 0, .int 101, .null, .null, .null, .null, .int 0, .int 0, .int 0]))] H := hP
  have hD : va_D A [(h, .inr (11, [.int 0, .int 101, .null, .null, .null, .null, .int 0, .int 0, .int 0]))] := hD
  have hP9 := hP.sub (ws' := [(h, .inr (11, [.int 0, .int 101, .null, .null, .null, .null, .int 0, .int 0, .int 0]))]) [0] rfl
  have hD9 := hD.sub (ws' := [(h, .inr (11, [.int 0, .int 101, .null, .null, .null, .null, .int 0, .int 0, .int 0]))]) [0] (by decide) rfl
  have hK9 := hK.sub (tys' := []) [] rfl
  exact W.vret hx hb hr (fun t ht hW => ⟨⟨(), rfl, trivial, ⟨by rw [ht]; exact hP9, va_K.moved hW.alike hK9, hD9⟩⟩, hS.F ht⟩) hS.2.2 dX8_init_19

def wc_X6_init : List Cond := .code yX6_init cX6_init 1 none :: ([.methodLink RX6 3 objectInit, .instanceMethod objectInit, .code objectInit ⟨#[0xb1]⟩ 1 none, .fieldLink RX6 9 "Sequencepoint$Outcome" "ending" "C", .fieldLink RX6 15 "Sequencepoint$Outcome" "kind" "C", .arrayClass .char, .fieldLink RX6 18 "Sequencepoint$Outcome" "text" "[C"] ++ (wsX60 ++ []))
set_option maxHeartbeats 4000000 in
set_option maxRecDepth 100000 in
theorem c_X6_init (l : Launch) (dC : Nat → ClassId) (dI : Nat → Nat → Nat) (h : Nat) (sz : Nat) : Met l yX6_init wc_X6_init ({ frames := 1, cells := 1, slots := 80, locals := 12 }) (va_Pc [.ref h] (fun U => U.heap.size = sz ∧ va_P (dC, dI) vwCl [(h, .inr (9, [.int 0, .int 0, .int 0, .int 0, .int 0, .int 0, .null]))] U.heap ∧ va_K (dC, dI) vwCl [] U ∧ va_D (fun _ => True) [(h, .inr (9, [.int 0, .int 0, .int 0, .int 0, .int 0, .int 0, .null]))])) (va_Qv (fun _ : Unit => True) (fun _ t => (∃ tx : Nat, va_P (dC, dI) vwCl [(h, .inr (9, [.int 32, .int 32, .int 0, .int 0, .int 0, .int 0, .ref tx]))] t.heap ∧ va_K (dC, dI) vwCl [] t ∧ va_D (va_A [(h, .inr (9, [.int 0, .int 0, .int 0, .int 0, .int 0, .int 0, .null]))] sz) [(h, .inr (9, [.int 32, .int 32, .int 0, .int 0, .int 0, .int 0, .ref tx]))])) (va_A [(h, .inr (9, [.int 0, .int 0, .int 0, .int 0, .int 0, .int 0, .null]))] sz)) 1 80 (va_A [(h, .inr (9, [.int 0, .int 0, .int 0, .int 0, .int 0, .int 0, .null]))] sz) := by
  refine Met.ofW (cc := cX6_init) (maxL := 1) (ret := none) (by decide) rfl ?_
  intro p e s m args below meth c s₁ B hml hv
  obtain ⟨rfl, hsz, hP, hK, hD0⟩ := hv
  have hx := B.exec
  have hb := B.bytes
  have hr := B.returns
  have hts := atoms_spec (ws := wc_X6_init) B.pre
  have hown : s.vm.findClass RX6 = some m.cls := findClass_of_methodNamed B.named
  have hlocks := B.notSynchronized
  have hin : meth.name = "<init>" := (name_of_methodNamed B.named B.method).1
  subst hsz
  have hD := hD0.self (sz := s.heap.size)
  generalize hAe : va_A [(h, .inr (9, [.int 0, .int 0, .int 0, .int 0, .int 0, .int 0, .null]))] s.heap.size = A at hD ⊢
  have hA : ∀ q : Nat, s.heap.size ≤ q → A q := fun q h => by rw [← hAe]; exact Or.inr h
  have hS : va_S A s.heap s.heap [] := va_S.rf
  have hP : va_P (dC, dI) vwCl [(h, .inr (9, [.int 0, .int 0, .int 0, .int 0, .int 0, .int 0, .null]))] s.heap := hP
  have hl := lv_entry ([.ref h]) (n := 1) (Nat.le_of_ble_eq_true rfl)
  rw [lg_entry_eq]
  generalize (lg_sl ([.ref h]) ++ List.replicate (1 - (lg_sl ([.ref h])).length) Slot.unset).toArray = ls at hl ⊢
  have hl : lv_has ls 1 [(0, .ref h)] := hl
  refine lv_aload_n hx hb dX6_init_0 rfl (lv_at hl 0 rfl) ?_
  refine W.objInit hx hb hown (hts (.methodLink RX6 3 objectInit) (by decide +kernel)) (hts (.instanceMethod objectInit) (by decide +kernel)) (hts (.code objectInit ⟨#[0xb1]⟩ 1 none) (by decide +kernel)) rfl (by rw [hml]; exact hl.1) rfl dX6_init_1 (Nat.le_of_ble_eq_true rfl) (Nat.le_of_ble_eq_true rfl) ?_
  refine W.eq (g2 := F0 m 4 ls []) rfl ?_
  refine lv_aload_n hx hb dX6_init_4 rfl (lv_at hl 0 rfl) ?_
  refine lv_bipush (v := 32) hx hb dX6_init_5 (by decide) ?_
  refine va_put (D := (dC, dI)) (ci := 9) (v := .int 32) (ty := .char) (C := RX6) (T := TX6) (N := 7) hx hb hts (fun w h => (List.mem_cons_of_mem _ (List.mem_append_right _ (List.mem_append_left _ h)))) tyX6 tyX6_ok nmX6 hown hK hP hD hS 0 rfl rfl 0 (by decide) (hts (.fieldLink RX6 9 "Sequencepoint$Outcome" "ending" "C") (by decide +kernel)) (fun _ h9 => h9) rfl (by decide +kernel) (by decide +kernel) (by decide +kernel) (Nat.le_of_ble_eq_true rfl) dX6_init_7 (fun H locs hP hD hS => ?_)
  have hP : va_P (dC, dI) vwCl [(h, .inr (9, [.int 32, .int 0, .int 0, .int 0, .int 0, .int 0, .null]))] H := hP
  have hD : va_D A [(h, .inr (9, [.int 32, .int 0, .int 0, .int 0, .int 0, .int 0, .null]))] := hD
  refine lv_aload_n hx hb dX6_init_10 rfl (lv_at hl 0 rfl) ?_
  refine lv_bipush (v := 32) hx hb dX6_init_11 (by decide) ?_
  refine va_put (D := (dC, dI)) (ci := 9) (v := .int 32) (ty := .char) (C := RX6) (T := TX6) (N := 7) hx hb hts (fun w h => (List.mem_cons_of_mem _ (List.mem_append_right _ (List.mem_append_left _ h)))) tyX6 tyX6_ok nmX6 hown hK hP hD hS 0 rfl rfl 1 (by decide) (hts (.fieldLink RX6 15 "Sequencepoint$Outcome" "kind" "C") (by decide +kernel)) (fun _ h9 => h9) rfl (by decide +kernel) (by decide +kernel) (by decide +kernel) (Nat.le_of_ble_eq_true rfl) dX6_init_13 (fun H locs hP hD hS => ?_)
  have hP : va_P (dC, dI) vwCl [(h, .inr (9, [.int 32, .int 32, .int 0, .int 0, .int 0, .int 0, .null]))] H := hP
  have hD : va_D A [(h, .inr (9, [.int 32, .int 32, .int 0, .int 0, .int 0, .int 0, .null]))] := hD
  refine lv_aload_n hx hb dX6_init_16 rfl (lv_at hl 0 rfl) ?_
  refine lv_bipush (v := 80) hx hb dX6_init_17 (by decide) ?_
  refine va_newa (atype := .char) (ty := .char) (a0 := (80, .inl (fun _ => (0 : Int32)))) (N' := 80) hx hb (hts (.arrayClass .char) (by decide +kernel)) rfl hK hP hD hS hA (fun _ => rfl) (by decide) (by decide) (Nat.le_of_ble_eq_true rfl) (Nat.le_of_ble_eq_true rfl) (Nat.le_of_ble_eq_true rfl) dX6_init_19 (fun q1 cA2 H hK hP hD hS => ?_)
  have hK : va_K (dC, dI) vwCl [(cA2, .char)] s := hK
  have hP : va_P (dC, dI) vwCl [(h, .inr (9, [.int 32, .int 32, .int 0, .int 0, .int 0, .int 0, .null])), (q1, .inl (cA2, 80, .inl (fun _ => (0 : Int32))))] H := hP
  have hD : va_D A [(h, .inr (9, [.int 32, .int 32, .int 0, .int 0, .int 0, .int 0, .null])), (q1, .inl (cA2, 80, .inl (fun _ => (0 : Int32))))] := hD
  refine W.widen (k := 1) (n := 80) (by decide) (by decide) ?_
  refine va_putF (D := (dC, dI)) (ci := 9) (v := .ref q1) (ty := (tyX6 6)) (C := RX6) (T := TX6) (N := 7) hx hb hts (fun w h => (List.mem_cons_of_mem _ (List.mem_append_right _ (List.mem_append_left _ h)))) tyX6 tyX6_ok nmX6 hown hK hP hD hS 0 rfl rfl 6 (by decide) (hts (.fieldLink RX6 18 "Sequencepoint$Outcome" "text" "[C") (by decide +kernel)) (fun _ h9 => h9) rfl hin rfl (by decide +kernel) rfl rfl (Nat.le_of_ble_eq_true rfl) dX6_init_21 (fun H locs hP hD hS => ?_)
  have hP : va_P (dC, dI) vwCl [(h, .inr (9, [.int 32, .int 32, .int 0, .int 0, .int 0, .int 0, .ref q1])), (q1, .inl (cA2, 80, .inl (fun _ => (0 : Int32))))] H := hP
  have hD : va_D A [(h, .inr (9, [.int 32, .int 32, .int 0, .int 0, .int 0, .int 0, .ref q1])), (q1, .inl (cA2, 80, .inl (fun _ => (0 : Int32))))] := hD
  have hP9 := hP.sub (ws' := [(h, .inr (9, [.int 32, .int 32, .int 0, .int 0, .int 0, .int 0, .ref q1]))]) [0] rfl
  have hD9 := hD.sub (ws' := [(h, .inr (9, [.int 32, .int 32, .int 0, .int 0, .int 0, .int 0, .ref q1]))]) [0] (by decide) rfl
  have hK9 := hK.sub (tys' := []) [] rfl
  exact W.vret hx hb hr (fun t ht hW => ⟨⟨(), rfl, trivial, ⟨q1, by rw [ht]; exact hP9, va_K.moved hW.alike hK9, hD9⟩⟩, hS.F ht⟩) hS.2.2 dX6_init_24

def wc_X7_init : List Cond := .code yX7_init cX7_init 1 none :: ([.methodLink RX7 3 objectInit, .instanceMethod objectInit, .code objectInit ⟨#[0xb1]⟩ 1 none, .classLink RX7 9 RX10, .fieldLink RX7 11 "Sequencepoint$Program" "variables" "[LSequencepoint$Variable;", .classLink RX7 17 RX0, .fieldLink RX7 19 "Sequencepoint$Program" "functions" "[LSequencepoint$Function;", .classLink RX7 23 RX8, .fieldLink RX7 25 "Sequencepoint$Program" "bodies" "[LSequencepoint$Statement;", .classLink RX7 29 RX3, .fieldLink RX7 31 "Sequencepoint$Program" "nodes" "[LSequencepoint$Node;", .fieldLink RX7 35 "Sequencepoint$Program" "statements" "[LSequencepoint$Statement;"] ++ (wsX70 ++ []))
set_option maxHeartbeats 4000000 in
set_option maxRecDepth 100000 in
theorem c_X7_init (l : Launch) (dC : Nat → ClassId) (dI : Nat → Nat → Nat) (h : Nat) (sz : Nat) : Met l yX7_init wc_X7_init ({ frames := 1, cells := 5, slots := 276, locals := 12 }) (va_Pc [.ref h] (fun U => U.heap.size = sz ∧ va_P (dC, dI) vwCl [(h, .inr (10, [.null, .null, .null, .null, .null, .int 0, .int 0, .int 0, .int 0]))] U.heap ∧ va_K (dC, dI) vwCl [] U ∧ va_D (fun _ => True) [(h, .inr (10, [.null, .null, .null, .null, .null, .int 0, .int 0, .int 0, .int 0]))] ∧ nw U)) (va_Qv (fun _ : Unit => True) (fun _ t => True) (va_A [(h, .inr (10, [.null, .null, .null, .null, .null, .int 0, .int 0, .int 0, .int 0]))] sz)) 5 276 (va_A [(h, .inr (10, [.null, .null, .null, .null, .null, .int 0, .int 0, .int 0, .int 0]))] sz) := by
  refine Met.ofW (cc := cX7_init) (maxL := 1) (ret := none) (by decide) rfl ?_
  intro p e s m args below meth c s₁ B hml hv
  obtain ⟨rfl, hsz, hP, hK, hD0, hH⟩ := hv
  have hx := B.exec
  have hb := B.bytes
  have hr := B.returns
  have hts := atoms_spec (ws := wc_X7_init) B.pre
  have hown : s.vm.findClass RX7 = some m.cls := findClass_of_methodNamed B.named
  have hlocks := B.notSynchronized
  have hin : meth.name = "<init>" := (name_of_methodNamed B.named B.method).1
  subst hsz
  have hD := hD0.self (sz := s.heap.size)
  generalize hAe : va_A [(h, .inr (10, [.null, .null, .null, .null, .null, .int 0, .int 0, .int 0, .int 0]))] s.heap.size = A at hD ⊢
  have hA : ∀ q : Nat, s.heap.size ≤ q → A q := fun q h => by rw [← hAe]; exact Or.inr h
  have hS : va_S A s.heap s.heap [] := va_S.rf
  have hP : va_P (dC, dI) vwCl [(h, .inr (10, [.null, .null, .null, .null, .null, .int 0, .int 0, .int 0, .int 0]))] s.heap := hP
  have hl := lv_entry ([.ref h]) (n := 1) (Nat.le_of_ble_eq_true rfl)
  rw [lg_entry_eq]
  generalize (lg_sl ([.ref h]) ++ List.replicate (1 - (lg_sl ([.ref h])).length) Slot.unset).toArray = ls at hl ⊢
  have hl : lv_has ls 1 [(0, .ref h)] := hl
  refine lv_aload_n hx hb dX7_init_0 rfl (lv_at hl 0 rfl) ?_
  refine W.objInit hx hb hown (hts (.methodLink RX7 3 objectInit) (by decide +kernel)) (hts (.instanceMethod objectInit) (by decide +kernel)) (hts (.code objectInit ⟨#[0xb1]⟩ 1 none) (by decide +kernel)) rfl (by rw [hml]; exact hl.1) rfl dX7_init_1 (Nat.le_of_ble_eq_true rfl) (Nat.le_of_ble_eq_true rfl) ?_
  refine W.eq (g2 := F0 m 4 ls []) rfl ?_
  refine lv_aload_n hx hb dX7_init_4 rfl (lv_at hl 0 rfl) ?_
  refine lv_bipush (v := 10) hx hb dX7_init_5 (by decide) ?_
  refine va_newq (C := RX10) (N' := 10) hx hb hown (hts (.classLink RX7 9 RX10) (by decide +kernel)) hH.2.1 hK hP hD hS hA (by decide) (by decide) (Nat.le_of_ble_eq_true rfl) (Nat.le_of_ble_eq_true rfl) (Nat.le_of_ble_eq_true rfl) dX7_init_7 (fun q1 cA2 H hK hP hD hS => ?_)
  have hK : va_K (dC, dI) vwCl [(cA2, .object "Sequencepoint$Variable")] s := hK
  have hP : va_P (dC, dI) vwCl [(h, .inr (10, [.null, .null, .null, .null, .null, .int 0, .int 0, .int 0, .int 0])), (q1, .inl (cA2, 10, .inr (.inr (.inr (.inr (fun _ => none))))))] H := hP
  have hD : va_D A [(h, .inr (10, [.null, .null, .null, .null, .null, .int 0, .int 0, .int 0, .int 0])), (q1, .inl (cA2, 10, .inr (.inr (.inr (.inr (fun _ => none))))))] := hD
  refine W.widen (k := 1) (n := 10) (by decide) (by decide) ?_
  refine va_putF (D := (dC, dI)) (ci := 10) (v := .ref q1) (ty := (tyX7 0)) (C := RX7) (T := TX7) (N := 9) hx hb hts (fun w h => (List.mem_cons_of_mem _ (List.mem_append_right _ (List.mem_append_left _ h)))) tyX7 tyX7_ok nmX7 hown hK hP hD hS 0 rfl rfl 0 (by decide) (hts (.fieldLink RX7 11 "Sequencepoint$Program" "variables" "[LSequencepoint$Variable;") (by decide +kernel)) (fun _ h9 => h9) rfl hin rfl (by decide +kernel) rfl rfl (Nat.le_of_ble_eq_true rfl) dX7_init_10 (fun H locs hP hD hS => ?_)
  have hP : va_P (dC, dI) vwCl [(h, .inr (10, [.ref q1, .null, .null, .null, .null, .int 0, .int 0, .int 0, .int 0])), (q1, .inl (cA2, 10, .inr (.inr (.inr (.inr (fun _ => none))))))] H := hP
  have hD : va_D A [(h, .inr (10, [.ref q1, .null, .null, .null, .null, .int 0, .int 0, .int 0, .int 0])), (q1, .inl (cA2, 10, .inr (.inr (.inr (.inr (fun _ => none))))))] := hD
  refine lv_aload_n hx hb dX7_init_13 rfl (lv_at hl 0 rfl) ?_
  refine lv_iconst (v := 3) hx hb dX7_init_14 (by decide) ?_
  refine va_newq (C := RX0) (N' := 3) hx hb hown (hts (.classLink RX7 17 RX0) (by decide +kernel)) hH.2.2.1 hK hP hD hS hA (by decide) (by decide) (Nat.le_of_ble_eq_true rfl) (Nat.le_of_ble_eq_true rfl) (Nat.le_of_ble_eq_true rfl) dX7_init_15 (fun q3 cA4 H hK hP hD hS => ?_)
  have hK : va_K (dC, dI) vwCl [(cA2, .object "Sequencepoint$Variable"), (cA4, .object "Sequencepoint$Function")] s := hK
  have hP : va_P (dC, dI) vwCl [(h, .inr (10, [.ref q1, .null, .null, .null, .null, .int 0, .int 0, .int 0, .int 0])), (q1, .inl (cA2, 10, .inr (.inr (.inr (.inr (fun _ => none)))))), (q3, .inl (cA4, 3, .inr (.inr (.inr (.inr (fun _ => none))))))] H := hP
  have hD : va_D A [(h, .inr (10, [.ref q1, .null, .null, .null, .null, .int 0, .int 0, .int 0, .int 0])), (q1, .inl (cA2, 10, .inr (.inr (.inr (.inr (fun _ => none)))))), (q3, .inl (cA4, 3, .inr (.inr (.inr (.inr (fun _ => none))))))] := hD
  refine W.widen (k := 2) (n := 13) (by decide) (by decide) ?_
  refine va_putF (D := (dC, dI)) (ci := 10) (v := .ref q3) (ty := (tyX7 1)) (C := RX7) (T := TX7) (N := 9) hx hb hts (fun w h => (List.mem_cons_of_mem _ (List.mem_append_right _ (List.mem_append_left _ h)))) tyX7 tyX7_ok nmX7 hown hK hP hD hS 0 rfl rfl 1 (by decide) (hts (.fieldLink RX7 19 "Sequencepoint$Program" "functions" "[LSequencepoint$Function;") (by decide +kernel)) (fun _ h9 => h9) rfl hin rfl (by decide +kernel) rfl rfl (Nat.le_of_ble_eq_true rfl) dX7_init_18 (fun H locs hP hD hS => ?_)
  have hP : va_P (dC, dI) vwCl [(h, .inr (10, [.ref q1, .ref q3, .null, .null, .null, .int 0, .int 0, .int 0, .int 0])), (q1, .inl (cA2, 10, .inr (.inr (.inr (.inr (fun _ => none)))))), (q3, .inl (cA4, 3, .inr (.inr (.inr (.inr (fun _ => none))))))] H := hP
  have hD : va_D A [(h, .inr (10, [.ref q1, .ref q3, .null, .null, .null, .int 0, .int 0, .int 0, .int 0])), (q1, .inl (cA2, 10, .inr (.inr (.inr (.inr (fun _ => none)))))), (q3, .inl (cA4, 3, .inr (.inr (.inr (.inr (fun _ => none))))))] := hD
  refine lv_aload_n hx hb dX7_init_21 rfl (lv_at hl 0 rfl) ?_
  refine lv_iconst (v := 3) hx hb dX7_init_22 (by decide) ?_
  refine va_newq (C := RX8) (N' := 3) hx hb hown (hts (.classLink RX7 23 RX8) (by decide +kernel)) hH.2.2.2.1 hK hP hD hS hA (by decide) (by decide) (Nat.le_of_ble_eq_true rfl) (Nat.le_of_ble_eq_true rfl) (Nat.le_of_ble_eq_true rfl) dX7_init_23 (fun q5 cA6 H hK hP hD hS => ?_)
  have hK : va_K (dC, dI) vwCl [(cA2, .object "Sequencepoint$Variable"), (cA4, .object "Sequencepoint$Function"), (cA6, .object "Sequencepoint$Statement")] s := hK
  have hP : va_P (dC, dI) vwCl [(h, .inr (10, [.ref q1, .ref q3, .null, .null, .null, .int 0, .int 0, .int 0, .int 0])), (q1, .inl (cA2, 10, .inr (.inr (.inr (.inr (fun _ => none)))))), (q3, .inl (cA4, 3, .inr (.inr (.inr (.inr (fun _ => none)))))), (q5, .inl (cA6, 3, .inr (.inr (.inr (.inr (fun _ => none))))))] H := hP
  have hD : va_D A [(h, .inr (10, [.ref q1, .ref q3, .null, .null, .null, .int 0, .int 0, .int 0, .int 0])), (q1, .inl (cA2, 10, .inr (.inr (.inr (.inr (fun _ => none)))))), (q3, .inl (cA4, 3, .inr (.inr (.inr (.inr (fun _ => none)))))), (q5, .inl (cA6, 3, .inr (.inr (.inr (.inr (fun _ => none))))))] := hD
  refine W.widen (k := 3) (n := 16) (by decide) (by decide) ?_
  refine va_putF (D := (dC, dI)) (ci := 10) (v := .ref q5) (ty := (tyX7 2)) (C := RX7) (T := TX7) (N := 9) hx hb hts (fun w h => (List.mem_cons_of_mem _ (List.mem_append_right _ (List.mem_append_left _ h)))) tyX7 tyX7_ok nmX7 hown hK hP hD hS 0 rfl rfl 2 (by decide) (hts (.fieldLink RX7 25 "Sequencepoint$Program" "bodies" "[LSequencepoint$Statement;") (by decide +kernel)) (fun _ h9 => h9) rfl hin rfl (by decide +kernel) rfl rfl (Nat.le_of_ble_eq_true rfl) dX7_init_26 (fun H locs hP hD hS => ?_)
  have hP : va_P (dC, dI) vwCl [(h, .inr (10, [.ref q1, .ref q3, .ref q5, .null, .null, .int 0, .int 0, .int 0, .int 0])), (q1, .inl (cA2, 10, .inr (.inr (.inr (.inr (fun _ => none)))))), (q3, .inl (cA4, 3, .inr (.inr (.inr (.inr (fun _ => none)))))), (q5, .inl (cA6, 3, .inr (.inr (.inr (.inr (fun _ => none))))))] H := hP
  have hD : va_D A [(h, .inr (10, [.ref q1, .ref q3, .ref q5, .null, .null, .int 0, .int 0, .int 0, .int 0])), (q1, .inl (cA2, 10, .inr (.inr (.inr (.inr (fun _ => none)))))), (q3, .inl (cA4, 3, .inr (.inr (.inr (.inr (fun _ => none)))))), (q5, .inl (cA6, 3, .inr (.inr (.inr (.inr (fun _ => none))))))] := hD
  refine lv_aload_n hx hb dX7_init_29 rfl (lv_at hl 0 rfl) ?_
  refine lv_bipush (v := 100) hx hb dX7_init_30 (by decide) ?_
  refine va_newq (C := RX3) (N' := 100) hx hb hown (hts (.classLink RX7 29 RX3) (by decide +kernel)) hH.2.2.2.2.1 hK hP hD hS hA (by decide) (by decide) (Nat.le_of_ble_eq_true rfl) (Nat.le_of_ble_eq_true rfl) (Nat.le_of_ble_eq_true rfl) dX7_init_32 (fun q7 cA8 H hK hP hD hS => ?_)
  have hK : va_K (dC, dI) vwCl [(cA2, .object "Sequencepoint$Variable"), (cA4, .object "Sequencepoint$Function"), (cA6, .object "Sequencepoint$Statement"), (cA8, .object "Sequencepoint$Node")] s := hK
  have hP : va_P (dC, dI) vwCl [(h, .inr (10, [.ref q1, .ref q3, .ref q5, .null, .null, .int 0, .int 0, .int 0, .int 0])), (q1, .inl (cA2, 10, .inr (.inr (.inr (.inr (fun _ => none)))))), (q3, .inl (cA4, 3, .inr (.inr (.inr (.inr (fun _ => none)))))), (q5, .inl (cA6, 3, .inr (.inr (.inr (.inr (fun _ => none)))))), (q7, .inl (cA8, 100, .inr (.inr (.inr (.inr (fun _ => none))))))] H := hP
  have hD : va_D A [(h, .inr (10, [.ref q1, .ref q3, .ref q5, .null, .null, .int 0, .int 0, .int 0, .int 0])), (q1, .inl (cA2, 10, .inr (.inr (.inr (.inr (fun _ => none)))))), (q3, .inl (cA4, 3, .inr (.inr (.inr (.inr (fun _ => none)))))), (q5, .inl (cA6, 3, .inr (.inr (.inr (.inr (fun _ => none)))))), (q7, .inl (cA8, 100, .inr (.inr (.inr (.inr (fun _ => none))))))] := hD
  refine W.widen (k := 4) (n := 116) (by decide) (by decide) ?_
  refine va_putF (D := (dC, dI)) (ci := 10) (v := .ref q7) (ty := (tyX7 3)) (C := RX7) (T := TX7) (N := 9) hx hb hts (fun w h => (List.mem_cons_of_mem _ (List.mem_append_right _ (List.mem_append_left _ h)))) tyX7 tyX7_ok nmX7 hown hK hP hD hS 0 rfl rfl 3 (by decide) (hts (.fieldLink RX7 31 "Sequencepoint$Program" "nodes" "[LSequencepoint$Node;") (by decide +kernel)) (fun _ h9 => h9) rfl hin rfl (by decide +kernel) rfl rfl (Nat.le_of_ble_eq_true rfl) dX7_init_35 (fun H locs hP hD hS => ?_)
  have hP : va_P (dC, dI) vwCl [(h, .inr (10, [.ref q1, .ref q3, .ref q5, .ref q7, .null, .int 0, .int 0, .int 0, .int 0])), (q1, .inl (cA2, 10, .inr (.inr (.inr (.inr (fun _ => none)))))), (q3, .inl (cA4, 3, .inr (.inr (.inr (.inr (fun _ => none)))))), (q5, .inl (cA6, 3, .inr (.inr (.inr (.inr (fun _ => none)))))), (q7, .inl (cA8, 100, .inr (.inr (.inr (.inr (fun _ => none))))))] H := hP
  have hD : va_D A [(h, .inr (10, [.ref q1, .ref q3, .ref q5, .ref q7, .null, .int 0, .int 0, .int 0, .int 0])), (q1, .inl (cA2, 10, .inr (.inr (.inr (.inr (fun _ => none)))))), (q3, .inl (cA4, 3, .inr (.inr (.inr (.inr (fun _ => none)))))), (q5, .inl (cA6, 3, .inr (.inr (.inr (.inr (fun _ => none)))))), (q7, .inl (cA8, 100, .inr (.inr (.inr (.inr (fun _ => none))))))] := hD
  refine lv_aload_n hx hb dX7_init_38 rfl (lv_at hl 0 rfl) ?_
  refine lv_bipush (v := 60) hx hb dX7_init_39 (by decide) ?_
  refine va_newq (C := RX8) (N' := 60) hx hb hown (hts (.classLink RX7 23 RX8) (by decide +kernel)) hH.2.2.2.1 hK hP hD hS hA (by decide) (by decide) (Nat.le_of_ble_eq_true rfl) (Nat.le_of_ble_eq_true rfl) (Nat.le_of_ble_eq_true rfl) dX7_init_41 (fun q9 cA10 H hK hP hD hS => ?_)
  have hK : va_K (dC, dI) vwCl [(cA2, .object "Sequencepoint$Variable"), (cA4, .object "Sequencepoint$Function"), (cA6, .object "Sequencepoint$Statement"), (cA8, .object "Sequencepoint$Node"), (cA10, .object "Sequencepoint$Statement")] s := hK
  have hP : va_P (dC, dI) vwCl [(h, .inr (10, [.ref q1, .ref q3, .ref q5, .ref q7, .null, .int 0, .int 0, .int 0, .int 0])), (q1, .inl (cA2, 10, .inr (.inr (.inr (.inr (fun _ => none)))))), (q3, .inl (cA4, 3, .inr (.inr (.inr (.inr (fun _ => none)))))), (q5, .inl (cA6, 3, .inr (.inr (.inr (.inr (fun _ => none)))))), (q7, .inl (cA8, 100, .inr (.inr (.inr (.inr (fun _ => none)))))), (q9, .inl (cA10, 60, .inr (.inr (.inr (.inr (fun _ => none))))))] H := hP
  have hD : va_D A [(h, .inr (10, [.ref q1, .ref q3, .ref q5, .ref q7, .null, .int 0, .int 0, .int 0, .int 0])), (q1, .inl (cA2, 10, .inr (.inr (.inr (.inr (fun _ => none)))))), (q3, .inl (cA4, 3, .inr (.inr (.inr (.inr (fun _ => none)))))), (q5, .inl (cA6, 3, .inr (.inr (.inr (.inr (fun _ => none)))))), (q7, .inl (cA8, 100, .inr (.inr (.inr (.inr (fun _ => none)))))), (q9, .inl (cA10, 60, .inr (.inr (.inr (.inr (fun _ => none))))))] := hD
  refine W.widen (k := 5) (n := 176) (by decide) (by decide) ?_
  refine va_putF (D := (dC, dI)) (ci := 10) (v := .ref q9) (ty := (tyX7 4)) (C := RX7) (T := TX7) (N := 9) hx hb hts (fun w h => (List.mem_cons_of_mem _ (List.mem_append_right _ (List.mem_append_left _ h)))) tyX7 tyX7_ok nmX7 hown hK hP hD hS 0 rfl rfl 4 (by decide) (hts (.fieldLink RX7 35 "Sequencepoint$Program" "statements" "[LSequencepoint$Statement;") (by decide +kernel)) (fun _ h9 => h9) rfl hin rfl (by decide +kernel) rfl rfl (Nat.le_of_ble_eq_true rfl) dX7_init_44 (fun H locs hP hD hS => ?_)
  have hP : va_P (dC, dI) vwCl [(h, .inr (10, [.ref q1, .ref q3, .ref q5, .ref q7, .ref q9, .int 0, .int 0, .int 0, .int 0])), (q1, .inl (cA2, 10, .inr (.inr (.inr (.inr (fun _ => none)))))), (q3, .inl (cA4, 3, .inr (.inr (.inr (.inr (fun _ => none)))))), (q5, .inl (cA6, 3, .inr (.inr (.inr (.inr (fun _ => none)))))), (q7, .inl (cA8, 100, .inr (.inr (.inr (.inr (fun _ => none)))))), (q9, .inl (cA10, 60, .inr (.inr (.inr (.inr (fun _ => none))))))] H := hP
  have hD : va_D A [(h, .inr (10, [.ref q1, .ref q3, .ref q5, .ref q7, .ref q9, .int 0, .int 0, .int 0, .int 0])), (q1, .inl (cA2, 10, .inr (.inr (.inr (.inr (fun _ => none)))))), (q3, .inl (cA4, 3, .inr (.inr (.inr (.inr (fun _ => none)))))), (q5, .inl (cA6, 3, .inr (.inr (.inr (.inr (fun _ => none)))))), (q7, .inl (cA8, 100, .inr (.inr (.inr (.inr (fun _ => none)))))), (q9, .inl (cA10, 60, .inr (.inr (.inr (.inr (fun _ => none))))))] := hD
  refine W.widen (k := 5) (n := 276) (by decide) (by decide) ?_
  exact W.vret hx hb hr (fun t ht hW => ⟨⟨(), rfl, trivial, trivial⟩, hS.F ht⟩) hS.2.2 dX7_init_47

def wc_X2_init : List Cond := .code yX2_init cX2_init 1 none :: ([.methodLink RX2 5 objectInit, .instanceMethod objectInit, .code objectInit ⟨#[0xb1]⟩ 1 none, .arrayClass .int, .fieldLink RX2 11 "Sequencepoint$Memory" "firstCell" "[I", .fieldLink RX2 15 "Sequencepoint$Memory" "lastCell" "[I", .arrayClass .boolean, .fieldLink RX2 18 "Sequencepoint$Memory" "isAlive" "[Z", .fieldLink RX2 22 "Sequencepoint$Memory" "owner" "[I", .arrayClass .long, .fieldLink RX2 25 "Sequencepoint$Memory" "values" "[J", .fieldLink RX2 29 "Sequencepoint$Memory" "isDetermined" "[Z", .fieldLink RX2 32 "Sequencepoint$Memory" "loggedCell" "[I", .fieldLink RX2 35 "Sequencepoint$Memory" "loggedWrite" "[Z"] ++ (wsX20 ++ []))
set_option maxHeartbeats 4000000 in
set_option maxRecDepth 100000 in
theorem c_X2_init (l : Launch) (dC : Nat → ClassId) (dI : Nat → Nat → Nat) (h : Nat) (sz : Nat) : Met l yX2_init wc_X2_init ({ frames := 1, cells := 8, slots := 6960, locals := 12 }) (va_Pc [.ref h] (fun U => U.heap.size = sz ∧ va_P (dC, dI) vwCl [(h, .inr (6, [.null, .null, .null, .null, .null, .null, .null, .null, .int 0, .int 0, .int 0]))] U.heap ∧ va_K (dC, dI) vwCl [] U ∧ va_D (fun _ => True) [(h, .inr (6, [.null, .null, .null, .null, .null, .null, .null, .null, .int 0, .int 0, .int 0]))])) (va_Qv (fun _ : Unit => True) (fun _ t => True) (va_A [(h, .inr (6, [.null, .null, .null, .null, .null, .null, .null, .null, .int 0, .int 0, .int 0]))] sz)) 8 6960 (va_A [(h, .inr (6, [.null, .null, .null, .null, .null, .null, .null, .null, .int 0, .int 0, .int 0]))] sz) := by
  refine Met.ofW (cc := cX2_init) (maxL := 1) (ret := none) (by decide) rfl ?_
  intro p e s m args below meth c s₁ B hml hv
  obtain ⟨rfl, hsz, hP, hK, hD0⟩ := hv
  have hx := B.exec
  have hb := B.bytes
  have hr := B.returns
  have hts := atoms_spec (ws := wc_X2_init) B.pre
  have hown : s.vm.findClass RX2 = some m.cls := findClass_of_methodNamed B.named
  have hlocks := B.notSynchronized
  have hin : meth.name = "<init>" := (name_of_methodNamed B.named B.method).1
  subst hsz
  have hD := hD0.self (sz := s.heap.size)
  generalize hAe : va_A [(h, .inr (6, [.null, .null, .null, .null, .null, .null, .null, .null, .int 0, .int 0, .int 0]))] s.heap.size = A at hD ⊢
  have hA : ∀ q : Nat, s.heap.size ≤ q → A q := fun q h => by rw [← hAe]; exact Or.inr h
  have hS : va_S A s.heap s.heap [] := va_S.rf
  have hP : va_P (dC, dI) vwCl [(h, .inr (6, [.null, .null, .null, .null, .null, .null, .null, .null, .int 0, .int 0, .int 0]))] s.heap := hP
  have hl := lv_entry ([.ref h]) (n := 1) (Nat.le_of_ble_eq_true rfl)
  rw [lg_entry_eq]
  generalize (lg_sl ([.ref h]) ++ List.replicate (1 - (lg_sl ([.ref h])).length) Slot.unset).toArray = ls at hl ⊢
  have hl : lv_has ls 1 [(0, .ref h)] := hl
  refine lv_aload_n hx hb dX2_init_0 rfl (lv_at hl 0 rfl) ?_
  refine W.objInit hx hb hown (hts (.methodLink RX2 5 objectInit) (by decide +kernel)) (hts (.instanceMethod objectInit) (by decide +kernel)) (hts (.code objectInit ⟨#[0xb1]⟩ 1 none) (by decide +kernel)) rfl (by rw [hml]; exact hl.1) rfl dX2_init_1 (Nat.le_of_ble_eq_true rfl) (Nat.le_of_ble_eq_true rfl) ?_
  refine W.eq (g2 := F0 m 4 ls []) rfl ?_
  refine lv_aload_n hx hb dX2_init_4 rfl (lv_at hl 0 rfl) ?_
  refine lv_sipush (v := 192) hx hb dX2_init_5 (by decide) ?_
  refine va_newa (atype := .int) (ty := .int) (a0 := (192, .inl (fun _ => (0 : Int32)))) (N' := 192) hx hb (hts (.arrayClass .int) (by decide +kernel)) rfl hK hP hD hS hA (fun _ => rfl) (by decide) (by decide) (Nat.le_of_ble_eq_true rfl) (Nat.le_of_ble_eq_true rfl) (Nat.le_of_ble_eq_true rfl) dX2_init_8 (fun q1 cA2 H hK hP hD hS => ?_)
  have hK : va_K (dC, dI) vwCl [(cA2, .int)] s := hK
  have hP : va_P (dC, dI) vwCl [(h, .inr (6, [.null, .null, .null, .null, .null, .null, .null, .null, .int 0, .int 0, .int 0])), (q1, .inl (cA2, 192, .inl (fun _ => (0 : Int32))))] H := hP
  have hD : va_D A [(h, .inr (6, [.null, .null, .null, .null, .null, .null, .null, .null, .int 0, .int 0, .int 0])), (q1, .inl (cA2, 192, .inl (fun _ => (0 : Int32))))] := hD
  refine W.widen (k := 1) (n := 192) (by decide) (by decide) ?_
  refine va_putF (D := (dC, dI)) (ci := 6) (v := .ref q1) (ty := (tyX2 0)) (C := RX2) (T := TX2) (N := 11) hx hb hts (fun w h => (List.mem_cons_of_mem _ (List.mem_append_right _ (List.mem_append_left _ h)))) tyX2 tyX2_ok nmX2 hown hK hP hD hS 0 rfl rfl 0 (by decide) (hts (.fieldLink RX2 11 "Sequencepoint$Memory" "firstCell" "[I") (by decide +kernel)) (fun _ h9 => h9) rfl hin rfl (by decide +kernel) rfl rfl (Nat.le_of_ble_eq_true rfl) dX2_init_10 (fun H locs hP hD hS => ?_)
  have hP : va_P (dC, dI) vwCl [(h, .inr (6, [.ref q1, .null, .null, .null, .null, .null, .null, .null, .int 0, .int 0, .int 0])), (q1, .inl (cA2, 192, .inl (fun _ => (0 : Int32))))] H := hP
  have hD : va_D A [(h, .inr (6, [.ref q1, .null, .null, .null, .null, .null, .null, .null, .int 0, .int 0, .int 0])), (q1, .inl (cA2, 192, .inl (fun _ => (0 : Int32))))] := hD
  refine lv_aload_n hx hb dX2_init_13 rfl (lv_at hl 0 rfl) ?_
  refine lv_sipush (v := 192) hx hb dX2_init_14 (by decide) ?_
  refine va_newa (atype := .int) (ty := .int) (a0 := (192, .inl (fun _ => (0 : Int32)))) (N' := 192) hx hb (hts (.arrayClass .int) (by decide +kernel)) rfl hK hP hD hS hA (fun _ => rfl) (by decide) (by decide) (Nat.le_of_ble_eq_true rfl) (Nat.le_of_ble_eq_true rfl) (Nat.le_of_ble_eq_true rfl) dX2_init_17 (fun q3 cA4 H hK hP hD hS => ?_)
  have hK : va_K (dC, dI) vwCl [(cA2, .int), (cA4, .int)] s := hK
  have hP : va_P (dC, dI) vwCl [(h, .inr (6, [.ref q1, .null, .null, .null, .null, .null, .null, .null, .int 0, .int 0, .int 0])), (q1, .inl (cA2, 192, .inl (fun _ => (0 : Int32)))), (q3, .inl (cA4, 192, .inl (fun _ => (0 : Int32))))] H := hP
  have hD : va_D A [(h, .inr (6, [.ref q1, .null, .null, .null, .null, .null, .null, .null, .int 0, .int 0, .int 0])), (q1, .inl (cA2, 192, .inl (fun _ => (0 : Int32)))), (q3, .inl (cA4, 192, .inl (fun _ => (0 : Int32))))] := hD
  refine W.widen (k := 2) (n := 384) (by decide) (by decide) ?_
  refine va_putF (D := (dC, dI)) (ci := 6) (v := .ref q3) (ty := (tyX2 1)) (C := RX2) (T := TX2) (N := 11) hx hb hts (fun w h => (List.mem_cons_of_mem _ (List.mem_append_right _ (List.mem_append_left _ h)))) tyX2 tyX2_ok nmX2 hown hK hP hD hS 0 rfl rfl 1 (by decide) (hts (.fieldLink RX2 15 "Sequencepoint$Memory" "lastCell" "[I") (by decide +kernel)) (fun _ h9 => h9) rfl hin rfl (by decide +kernel) rfl rfl (Nat.le_of_ble_eq_true rfl) dX2_init_19 (fun H locs hP hD hS => ?_)
  have hP : va_P (dC, dI) vwCl [(h, .inr (6, [.ref q1, .ref q3, .null, .null, .null, .null, .null, .null, .int 0, .int 0, .int 0])), (q1, .inl (cA2, 192, .inl (fun _ => (0 : Int32)))), (q3, .inl (cA4, 192, .inl (fun _ => (0 : Int32))))] H := hP
  have hD : va_D A [(h, .inr (6, [.ref q1, .ref q3, .null, .null, .null, .null, .null, .null, .int 0, .int 0, .int 0])), (q1, .inl (cA2, 192, .inl (fun _ => (0 : Int32)))), (q3, .inl (cA4, 192, .inl (fun _ => (0 : Int32))))] := hD
  refine lv_aload_n hx hb dX2_init_22 rfl (lv_at hl 0 rfl) ?_
  refine lv_sipush (v := 192) hx hb dX2_init_23 (by decide) ?_
  refine va_newa (atype := .boolean) (ty := .boolean) (a0 := (192, .inl (fun _ => (0 : Int32)))) (N' := 192) hx hb (hts (.arrayClass .boolean) (by decide +kernel)) rfl hK hP hD hS hA (fun _ => rfl) (by decide) (by decide) (Nat.le_of_ble_eq_true rfl) (Nat.le_of_ble_eq_true rfl) (Nat.le_of_ble_eq_true rfl) dX2_init_26 (fun q5 cA6 H hK hP hD hS => ?_)
  have hK : va_K (dC, dI) vwCl [(cA2, .int), (cA4, .int), (cA6, .boolean)] s := hK
  have hP : va_P (dC, dI) vwCl [(h, .inr (6, [.ref q1, .ref q3, .null, .null, .null, .null, .null, .null, .int 0, .int 0, .int 0])), (q1, .inl (cA2, 192, .inl (fun _ => (0 : Int32)))), (q3, .inl (cA4, 192, .inl (fun _ => (0 : Int32)))), (q5, .inl (cA6, 192, .inl (fun _ => (0 : Int32))))] H := hP
  have hD : va_D A [(h, .inr (6, [.ref q1, .ref q3, .null, .null, .null, .null, .null, .null, .int 0, .int 0, .int 0])), (q1, .inl (cA2, 192, .inl (fun _ => (0 : Int32)))), (q3, .inl (cA4, 192, .inl (fun _ => (0 : Int32)))), (q5, .inl (cA6, 192, .inl (fun _ => (0 : Int32))))] := hD
  refine W.widen (k := 3) (n := 576) (by decide) (by decide) ?_
  refine va_putF (D := (dC, dI)) (ci := 6) (v := .ref q5) (ty := (tyX2 2)) (C := RX2) (T := TX2) (N := 11) hx hb hts (fun w h => (List.mem_cons_of_mem _ (List.mem_append_right _ (List.mem_append_left _ h)))) tyX2 tyX2_ok nmX2 hown hK hP hD hS 0 rfl rfl 2 (by decide) (hts (.fieldLink RX2 18 "Sequencepoint$Memory" "isAlive" "[Z") (by decide +kernel)) (fun _ h9 => h9) rfl hin rfl (by decide +kernel) rfl rfl (Nat.le_of_ble_eq_true rfl) dX2_init_28 (fun H locs hP hD hS => ?_)
  have hP : va_P (dC, dI) vwCl [(h, .inr (6, [.ref q1, .ref q3, .ref q5, .null, .null, .null, .null, .null, .int 0, .int 0, .int 0])), (q1, .inl (cA2, 192, .inl (fun _ => (0 : Int32)))), (q3, .inl (cA4, 192, .inl (fun _ => (0 : Int32)))), (q5, .inl (cA6, 192, .inl (fun _ => (0 : Int32))))] H := hP
  have hD : va_D A [(h, .inr (6, [.ref q1, .ref q3, .ref q5, .null, .null, .null, .null, .null, .int 0, .int 0, .int 0])), (q1, .inl (cA2, 192, .inl (fun _ => (0 : Int32)))), (q3, .inl (cA4, 192, .inl (fun _ => (0 : Int32)))), (q5, .inl (cA6, 192, .inl (fun _ => (0 : Int32))))] := hD
  refine lv_aload_n hx hb dX2_init_31 rfl (lv_at hl 0 rfl) ?_
  refine lv_sipush (v := 1728) hx hb dX2_init_32 (by decide) ?_
  refine va_newa (atype := .int) (ty := .int) (a0 := (1728, .inl (fun _ => (0 : Int32)))) (N' := 1728) hx hb (hts (.arrayClass .int) (by decide +kernel)) rfl hK hP hD hS hA (fun _ => rfl) (by decide) (by decide) (Nat.le_of_ble_eq_true rfl) (Nat.le_of_ble_eq_true rfl) (Nat.le_of_ble_eq_true rfl) dX2_init_35 (fun q7 cA8 H hK hP hD hS => ?_)
  have hK : va_K (dC, dI) vwCl [(cA2, .int), (cA4, .int), (cA6, .boolean), (cA8, .int)] s := hK
  have hP : va_P (dC, dI) vwCl [(h, .inr (6, [.ref q1, .ref q3, .ref q5, .null, .null, .null, .null, .null, .int 0, .int 0, .int 0])), (q1, .inl (cA2, 192, .inl (fun _ => (0 : Int32)))), (q3, .inl (cA4, 192, .inl (fun _ => (0 : Int32)))), (q5, .inl (cA6, 192, .inl (fun _ => (0 : Int32)))), (q7, .inl (cA8, 1728, .inl (fun _ => (0 : Int32))))] H := hP
  have hD : va_D A [(h, .inr (6, [.ref q1, .ref q3, .ref q5, .null, .null, .null, .null, .null, .int 0, .int 0, .int 0])), (q1, .inl (cA2, 192, .inl (fun _ => (0 : Int32)))), (q3, .inl (cA4, 192, .inl (fun _ => (0 : Int32)))), (q5, .inl (cA6, 192, .inl (fun _ => (0 : Int32)))), (q7, .inl (cA8, 1728, .inl (fun _ => (0 : Int32))))] := hD
  refine W.widen (k := 4) (n := 2304) (by decide) (by decide) ?_
  refine va_putF (D := (dC, dI)) (ci := 6) (v := .ref q7) (ty := (tyX2 3)) (C := RX2) (T := TX2) (N := 11) hx hb hts (fun w h => (List.mem_cons_of_mem _ (List.mem_append_right _ (List.mem_append_left _ h)))) tyX2 tyX2_ok nmX2 hown hK hP hD hS 0 rfl rfl 3 (by decide) (hts (.fieldLink RX2 22 "Sequencepoint$Memory" "owner" "[I") (by decide +kernel)) (fun _ h9 => h9) rfl hin rfl (by decide +kernel) rfl rfl (Nat.le_of_ble_eq_true rfl) dX2_init_37 (fun H locs hP hD hS => ?_)
  have hP : va_P (dC, dI) vwCl [(h, .inr (6, [.ref q1, .ref q3, .ref q5, .ref q7, .null, .null, .null, .null, .int 0, .int 0, .int 0])), (q1, .inl (cA2, 192, .inl (fun _ => (0 : Int32)))), (q3, .inl (cA4, 192, .inl (fun _ => (0 : Int32)))), (q5, .inl (cA6, 192, .inl (fun _ => (0 : Int32)))), (q7, .inl (cA8, 1728, .inl (fun _ => (0 : Int32))))] H := hP
  have hD : va_D A [(h, .inr (6, [.ref q1, .ref q3, .ref q5, .ref q7, .null, .null, .null, .null, .int 0, .int 0, .int 0])), (q1, .inl (cA2, 192, .inl (fun _ => (0 : Int32)))), (q3, .inl (cA4, 192, .inl (fun _ => (0 : Int32)))), (q5, .inl (cA6, 192, .inl (fun _ => (0 : Int32)))), (q7, .inl (cA8, 1728, .inl (fun _ => (0 : Int32))))] := hD
  refine lv_aload_n hx hb dX2_init_40 rfl (lv_at hl 0 rfl) ?_
  refine lv_sipush (v := 1728) hx hb dX2_init_41 (by decide) ?_
  refine va_newa (atype := .long) (ty := .long) (a0 := (1728, .inr (.inl (fun _ => (0 : Int64))))) (N' := 1728) hx hb (hts (.arrayClass .long) (by decide +kernel)) rfl hK hP hD hS hA (fun _ => rfl) (by decide) (by decide) (Nat.le_of_ble_eq_true rfl) (Nat.le_of_ble_eq_true rfl) (Nat.le_of_ble_eq_true rfl) dX2_init_44 (fun q9 cA10 H hK hP hD hS => ?_)
  have hK : va_K (dC, dI) vwCl [(cA2, .int), (cA4, .int), (cA6, .boolean), (cA8, .int), (cA10, .long)] s := hK
  have hP : va_P (dC, dI) vwCl [(h, .inr (6, [.ref q1, .ref q3, .ref q5, .ref q7, .null, .null, .null, .null, .int 0, .int 0, .int 0])), (q1, .inl (cA2, 192, .inl (fun _ => (0 : Int32)))), (q3, .inl (cA4, 192, .inl (fun _ => (0 : Int32)))), (q5, .inl (cA6, 192, .inl (fun _ => (0 : Int32)))), (q7, .inl (cA8, 1728, .inl (fun _ => (0 : Int32)))), (q9, .inl (cA10, 1728, .inr (.inl (fun _ => (0 : Int64)))))] H := hP
  have hD : va_D A [(h, .inr (6, [.ref q1, .ref q3, .ref q5, .ref q7, .null, .null, .null, .null, .int 0, .int 0, .int 0])), (q1, .inl (cA2, 192, .inl (fun _ => (0 : Int32)))), (q3, .inl (cA4, 192, .inl (fun _ => (0 : Int32)))), (q5, .inl (cA6, 192, .inl (fun _ => (0 : Int32)))), (q7, .inl (cA8, 1728, .inl (fun _ => (0 : Int32)))), (q9, .inl (cA10, 1728, .inr (.inl (fun _ => (0 : Int64)))))] := hD
  refine W.widen (k := 5) (n := 4032) (by decide) (by decide) ?_
  refine va_putF (D := (dC, dI)) (ci := 6) (v := .ref q9) (ty := (tyX2 4)) (C := RX2) (T := TX2) (N := 11) hx hb hts (fun w h => (List.mem_cons_of_mem _ (List.mem_append_right _ (List.mem_append_left _ h)))) tyX2 tyX2_ok nmX2 hown hK hP hD hS 0 rfl rfl 4 (by decide) (hts (.fieldLink RX2 25 "Sequencepoint$Memory" "values" "[J") (by decide +kernel)) (fun _ h9 => h9) rfl hin rfl (by decide +kernel) rfl rfl (Nat.le_of_ble_eq_true rfl) dX2_init_46 (fun H locs hP hD hS => ?_)
  have hP : va_P (dC, dI) vwCl [(h, .inr (6, [.ref q1, .ref q3, .ref q5, .ref q7, .ref q9, .null, .null, .null, .int 0, .int 0, .int 0])), (q1, .inl (cA2, 192, .inl (fun _ => (0 : Int32)))), (q3, .inl (cA4, 192, .inl (fun _ => (0 : Int32)))), (q5, .inl (cA6, 192, .inl (fun _ => (0 : Int32)))), (q7, .inl (cA8, 1728, .inl (fun _ => (0 : Int32)))), (q9, .inl (cA10, 1728, .inr (.inl (fun _ => (0 : Int64)))))] H := hP
  have hD : va_D A [(h, .inr (6, [.ref q1, .ref q3, .ref q5, .ref q7, .ref q9, .null, .null, .null, .int 0, .int 0, .int 0])), (q1, .inl (cA2, 192, .inl (fun _ => (0 : Int32)))), (q3, .inl (cA4, 192, .inl (fun _ => (0 : Int32)))), (q5, .inl (cA6, 192, .inl (fun _ => (0 : Int32)))), (q7, .inl (cA8, 1728, .inl (fun _ => (0 : Int32)))), (q9, .inl (cA10, 1728, .inr (.inl (fun _ => (0 : Int64)))))] := hD
  refine lv_aload_n hx hb dX2_init_49 rfl (lv_at hl 0 rfl) ?_
  refine lv_sipush (v := 1728) hx hb dX2_init_50 (by decide) ?_
  refine va_newa (atype := .boolean) (ty := .boolean) (a0 := (1728, .inl (fun _ => (0 : Int32)))) (N' := 1728) hx hb (hts (.arrayClass .boolean) (by decide +kernel)) rfl hK hP hD hS hA (fun _ => rfl) (by decide) (by decide) (Nat.le_of_ble_eq_true rfl) (Nat.le_of_ble_eq_true rfl) (Nat.le_of_ble_eq_true rfl) dX2_init_53 (fun q11 cA12 H hK hP hD hS => ?_)
  have hK : va_K (dC, dI) vwCl [(cA2, .int), (cA4, .int), (cA6, .boolean), (cA8, .int), (cA10, .long), (cA12, .boolean)] s := hK
  have hP : va_P (dC, dI) vwCl [(h, .inr (6, [.ref q1, .ref q3, .ref q5, .ref q7, .ref q9, .null, .null, .null, .int 0, .int 0, .int 0])), (q1, .inl (cA2, 192, .inl (fun _ => (0 : Int32)))), (q3, .inl (cA4, 192, .inl (fun _ => (0 : Int32)))), (q5, .inl (cA6, 192, .inl (fun _ => (0 : Int32)))), (q7, .inl (cA8, 1728, .inl (fun _ => (0 : Int32)))), (q9, .inl (cA10, 1728, .inr (.inl (fun _ => (0 : Int64))))), (q11, .inl (cA12, 1728, .inl (fun _ => (0 : Int32))))] H := hP
  have hD : va_D A [(h, .inr (6, [.ref q1, .ref q3, .ref q5, .ref q7, .ref q9, .null, .null, .null, .int 0, .int 0, .int 0])), (q1, .inl (cA2, 192, .inl (fun _ => (0 : Int32)))), (q3, .inl (cA4, 192, .inl (fun _ => (0 : Int32)))), (q5, .inl (cA6, 192, .inl (fun _ => (0 : Int32)))), (q7, .inl (cA8, 1728, .inl (fun _ => (0 : Int32)))), (q9, .inl (cA10, 1728, .inr (.inl (fun _ => (0 : Int64))))), (q11, .inl (cA12, 1728, .inl (fun _ => (0 : Int32))))] := hD
  refine W.widen (k := 6) (n := 5760) (by decide) (by decide) ?_
  refine va_putF (D := (dC, dI)) (ci := 6) (v := .ref q11) (ty := (tyX2 5)) (C := RX2) (T := TX2) (N := 11) hx hb hts (fun w h => (List.mem_cons_of_mem _ (List.mem_append_right _ (List.mem_append_left _ h)))) tyX2 tyX2_ok nmX2 hown hK hP hD hS 0 rfl rfl 5 (by decide) (hts (.fieldLink RX2 29 "Sequencepoint$Memory" "isDetermined" "[Z") (by decide +kernel)) (fun _ h9 => h9) rfl hin rfl (by decide +kernel) rfl rfl (Nat.le_of_ble_eq_true rfl) dX2_init_55 (fun H locs hP hD hS => ?_)
  have hP : va_P (dC, dI) vwCl [(h, .inr (6, [.ref q1, .ref q3, .ref q5, .ref q7, .ref q9, .ref q11, .null, .null, .int 0, .int 0, .int 0])), (q1, .inl (cA2, 192, .inl (fun _ => (0 : Int32)))), (q3, .inl (cA4, 192, .inl (fun _ => (0 : Int32)))), (q5, .inl (cA6, 192, .inl (fun _ => (0 : Int32)))), (q7, .inl (cA8, 1728, .inl (fun _ => (0 : Int32)))), (q9, .inl (cA10, 1728, .inr (.inl (fun _ => (0 : Int64))))), (q11, .inl (cA12, 1728, .inl (fun _ => (0 : Int32))))] H := hP
  have hD : va_D A [(h, .inr (6, [.ref q1, .ref q3, .ref q5, .ref q7, .ref q9, .ref q11, .null, .null, .int 0, .int 0, .int 0])), (q1, .inl (cA2, 192, .inl (fun _ => (0 : Int32)))), (q3, .inl (cA4, 192, .inl (fun _ => (0 : Int32)))), (q5, .inl (cA6, 192, .inl (fun _ => (0 : Int32)))), (q7, .inl (cA8, 1728, .inl (fun _ => (0 : Int32)))), (q9, .inl (cA10, 1728, .inr (.inl (fun _ => (0 : Int64))))), (q11, .inl (cA12, 1728, .inl (fun _ => (0 : Int32))))] := hD
  refine lv_aload_n hx hb dX2_init_58 rfl (lv_at hl 0 rfl) ?_
  refine lv_sipush (v := 600) hx hb dX2_init_59 (by decide) ?_
  refine va_newa (atype := .int) (ty := .int) (a0 := (600, .inl (fun _ => (0 : Int32)))) (N' := 600) hx hb (hts (.arrayClass .int) (by decide +kernel)) rfl hK hP hD hS hA (fun _ => rfl) (by decide) (by decide) (Nat.le_of_ble_eq_true rfl) (Nat.le_of_ble_eq_true rfl) (Nat.le_of_ble_eq_true rfl) dX2_init_62 (fun q13 cA14 H hK hP hD hS => ?_)
  have hK : va_K (dC, dI) vwCl [(cA2, .int), (cA4, .int), (cA6, .boolean), (cA8, .int), (cA10, .long), (cA12, .boolean), (cA14, .int)] s := hK
  have hP : va_P (dC, dI) vwCl [(h, .inr (6, [.ref q1, .ref q3, .ref q5, .ref q7, .ref q9, .ref q11, .null, .null, .int 0, .int 0, .int 0])), (q1, .inl (cA2, 192, .inl (fun _ => (0 : Int32)))), (q3, .inl (cA4, 192, .inl (fun _ => (0 : Int32)))), (q5, .inl (cA6, 192, .inl (fun _ => (0 : Int32)))), (q7, .inl (cA8, 1728, .inl (fun _ => (0 : Int32)))), (q9, .inl (cA10, 1728, .inr (.inl (fun _ => (0 : Int64))))), (q11, .inl (cA12, 1728, .inl (fun _ => (0 : Int32)))), (q13, .inl (cA14, 600, .inl (fun _ => (0 : Int32))))] H := hP
  have hD : va_D A [(h, .inr (6, [.ref q1, .ref q3, .ref q5, .ref q7, .ref q9, .ref q11, .null, .null, .int 0, .int 0, .int 0])), (q1, .inl (cA2, 192, .inl (fun _ => (0 : Int32)))), (q3, .inl (cA4, 192, .inl (fun _ => (0 : Int32)))), (q5, .inl (cA6, 192, .inl (fun _ => (0 : Int32)))), (q7, .inl (cA8, 1728, .inl (fun _ => (0 : Int32)))), (q9, .inl (cA10, 1728, .inr (.inl (fun _ => (0 : Int64))))), (q11, .inl (cA12, 1728, .inl (fun _ => (0 : Int32)))), (q13, .inl (cA14, 600, .inl (fun _ => (0 : Int32))))] := hD
  refine W.widen (k := 7) (n := 6360) (by decide) (by decide) ?_
  refine va_putF (D := (dC, dI)) (ci := 6) (v := .ref q13) (ty := (tyX2 6)) (C := RX2) (T := TX2) (N := 11) hx hb hts (fun w h => (List.mem_cons_of_mem _ (List.mem_append_right _ (List.mem_append_left _ h)))) tyX2 tyX2_ok nmX2 hown hK hP hD hS 0 rfl rfl 6 (by decide) (hts (.fieldLink RX2 32 "Sequencepoint$Memory" "loggedCell" "[I") (by decide +kernel)) (fun _ h9 => h9) rfl hin rfl (by decide +kernel) rfl rfl (Nat.le_of_ble_eq_true rfl) dX2_init_64 (fun H locs hP hD hS => ?_)
  have hP : va_P (dC, dI) vwCl [(h, .inr (6, [.ref q1, .ref q3, .ref q5, .ref q7, .ref q9, .ref q11, .ref q13, .null, .int 0, .int 0, .int 0])), (q1, .inl (cA2, 192, .inl (fun _ => (0 : Int32)))), (q3, .inl (cA4, 192, .inl (fun _ => (0 : Int32)))), (q5, .inl (cA6, 192, .inl (fun _ => (0 : Int32)))), (q7, .inl (cA8, 1728, .inl (fun _ => (0 : Int32)))), (q9, .inl (cA10, 1728, .inr (.inl (fun _ => (0 : Int64))))), (q11, .inl (cA12, 1728, .inl (fun _ => (0 : Int32)))), (q13, .inl (cA14, 600, .inl (fun _ => (0 : Int32))))] H := hP
  have hD : va_D A [(h, .inr (6, [.ref q1, .ref q3, .ref q5, .ref q7, .ref q9, .ref q11, .ref q13, .null, .int 0, .int 0, .int 0])), (q1, .inl (cA2, 192, .inl (fun _ => (0 : Int32)))), (q3, .inl (cA4, 192, .inl (fun _ => (0 : Int32)))), (q5, .inl (cA6, 192, .inl (fun _ => (0 : Int32)))), (q7, .inl (cA8, 1728, .inl (fun _ => (0 : Int32)))), (q9, .inl (cA10, 1728, .inr (.inl (fun _ => (0 : Int64))))), (q11, .inl (cA12, 1728, .inl (fun _ => (0 : Int32)))), (q13, .inl (cA14, 600, .inl (fun _ => (0 : Int32))))] := hD
  refine lv_aload_n hx hb dX2_init_67 rfl (lv_at hl 0 rfl) ?_
  refine lv_sipush (v := 600) hx hb dX2_init_68 (by decide) ?_
  refine va_newa (atype := .boolean) (ty := .boolean) (a0 := (600, .inl (fun _ => (0 : Int32)))) (N' := 600) hx hb (hts (.arrayClass .boolean) (by decide +kernel)) rfl hK hP hD hS hA (fun _ => rfl) (by decide) (by decide) (Nat.le_of_ble_eq_true rfl) (Nat.le_of_ble_eq_true rfl) (Nat.le_of_ble_eq_true rfl) dX2_init_71 (fun q15 cA16 H hK hP hD hS => ?_)
  have hK : va_K (dC, dI) vwCl [(cA2, .int), (cA4, .int), (cA6, .boolean), (cA8, .int), (cA10, .long), (cA12, .boolean), (cA14, .int), (cA16, .boolean)] s := hK
  have hP : va_P (dC, dI) vwCl [(h, .inr (6, [.ref q1, .ref q3, .ref q5, .ref q7, .ref q9, .ref q11, .ref q13, .null, .int 0, .int 0, .int 0])), (q1, .inl (cA2, 192, .inl (fun _ => (0 : Int32)))), (q3, .inl (cA4, 192, .inl (fun _ => (0 : Int32)))), (q5, .inl (cA6, 192, .inl (fun _ => (0 : Int32)))), (q7, .inl (cA8, 1728, .inl (fun _ => (0 : Int32)))), (q9, .inl (cA10, 1728, .inr (.inl (fun _ => (0 : Int64))))), (q11, .inl (cA12, 1728, .inl (fun _ => (0 : Int32)))), (q13, .inl (cA14, 600, .inl (fun _ => (0 : Int32)))), (q15, .inl (cA16, 600, .inl (fun _ => (0 : Int32))))] H := hP
  have hD : va_D A [(h, .inr (6, [.ref q1, .ref q3, .ref q5, .ref q7, .ref q9, .ref q11, .ref q13, .null, .int 0, .int 0, .int 0])), (q1, .inl (cA2, 192, .inl (fun _ => (0 : Int32)))), (q3, .inl (cA4, 192, .inl (fun _ => (0 : Int32)))), (q5, .inl (cA6, 192, .inl (fun _ => (0 : Int32)))), (q7, .inl (cA8, 1728, .inl (fun _ => (0 : Int32)))), (q9, .inl (cA10, 1728, .inr (.inl (fun _ => (0 : Int64))))), (q11, .inl (cA12, 1728, .inl (fun _ => (0 : Int32)))), (q13, .inl (cA14, 600, .inl (fun _ => (0 : Int32)))), (q15, .inl (cA16, 600, .inl (fun _ => (0 : Int32))))] := hD
  refine W.widen (k := 8) (n := 6960) (by decide) (by decide) ?_
  refine va_putF (D := (dC, dI)) (ci := 6) (v := .ref q15) (ty := (tyX2 7)) (C := RX2) (T := TX2) (N := 11) hx hb hts (fun w h => (List.mem_cons_of_mem _ (List.mem_append_right _ (List.mem_append_left _ h)))) tyX2 tyX2_ok nmX2 hown hK hP hD hS 0 rfl rfl 7 (by decide) (hts (.fieldLink RX2 35 "Sequencepoint$Memory" "loggedWrite" "[Z") (by decide +kernel)) (fun _ h9 => h9) rfl hin rfl (by decide +kernel) rfl rfl (Nat.le_of_ble_eq_true rfl) dX2_init_73 (fun H locs hP hD hS => ?_)
  have hP : va_P (dC, dI) vwCl [(h, .inr (6, [.ref q1, .ref q3, .ref q5, .ref q7, .ref q9, .ref q11, .ref q13, .ref q15, .int 0, .int 0, .int 0])), (q1, .inl (cA2, 192, .inl (fun _ => (0 : Int32)))), (q3, .inl (cA4, 192, .inl (fun _ => (0 : Int32)))), (q5, .inl (cA6, 192, .inl (fun _ => (0 : Int32)))), (q7, .inl (cA8, 1728, .inl (fun _ => (0 : Int32)))), (q9, .inl (cA10, 1728, .inr (.inl (fun _ => (0 : Int64))))), (q11, .inl (cA12, 1728, .inl (fun _ => (0 : Int32)))), (q13, .inl (cA14, 600, .inl (fun _ => (0 : Int32)))), (q15, .inl (cA16, 600, .inl (fun _ => (0 : Int32))))] H := hP
  have hD : va_D A [(h, .inr (6, [.ref q1, .ref q3, .ref q5, .ref q7, .ref q9, .ref q11, .ref q13, .ref q15, .int 0, .int 0, .int 0])), (q1, .inl (cA2, 192, .inl (fun _ => (0 : Int32)))), (q3, .inl (cA4, 192, .inl (fun _ => (0 : Int32)))), (q5, .inl (cA6, 192, .inl (fun _ => (0 : Int32)))), (q7, .inl (cA8, 1728, .inl (fun _ => (0 : Int32)))), (q9, .inl (cA10, 1728, .inr (.inl (fun _ => (0 : Int64))))), (q11, .inl (cA12, 1728, .inl (fun _ => (0 : Int32)))), (q13, .inl (cA14, 600, .inl (fun _ => (0 : Int32)))), (q15, .inl (cA16, 600, .inl (fun _ => (0 : Int32))))] := hD
  exact W.vret hx hb hr (fun t ht hW => ⟨⟨(), rfl, trivial, trivial⟩, hS.F ht⟩) hS.2.2 dX2_init_76

def wc_X1_init : List Cond := .code yX1_init cX1_init 1 none :: ([.methodLink RX1 3 objectInit, .instanceMethod objectInit, .code objectInit ⟨#[0xb1]⟩ 1 none, .classLink RX1 9 RX2, .instantiable RX2 11, .initialized RX2, .instanceMethod yX2_init, .fieldLink RX1 12 "Sequencepoint$Machine" "memory" "LSequencepoint$Memory;", .arrayClass .int, .fieldLink RX1 18 "Sequencepoint$Machine" "rows" "[I"] ++ (wsX20 ++ (wc_X2_init ++ (wsX10 ++ []))))
set_option maxHeartbeats 4000000 in
set_option maxRecDepth 100000 in
theorem c_X1_init (l : Launch) (dC : Nat → ClassId) (dI : Nat → Nat → Nat) (h : Nat) (sz : Nat) : Met l yX1_init wc_X1_init ({ frames := 2, cells := 10, slots := 7061, locals := 32 }) (va_Pc [.ref h] (fun U => U.heap.size = sz ∧ va_P (dC, dI) vwCl [(h, .inr (5, [.null, .null, .null, .null, .int 0, .int 0, .int 0, .long 0]))] U.heap ∧ va_K (dC, dI) vwCl [] U ∧ va_D (fun _ => True) [(h, .inr (5, [.null, .null, .null, .null, .int 0, .int 0, .int 0, .long 0]))] ∧ nw U)) (va_Qv (fun _ : Unit => True) (fun _ t => True) (va_A [(h, .inr (5, [.null, .null, .null, .null, .int 0, .int 0, .int 0, .long 0]))] sz)) 10 7061 (va_A [(h, .inr (5, [.null, .null, .null, .null, .int 0, .int 0, .int 0, .long 0]))] sz) := by
  refine Met.ofW (cc := cX1_init) (maxL := 1) (ret := none) (by decide) rfl ?_
  intro p e s m args below meth c s₁ B hml hv
  obtain ⟨rfl, hsz, hP, hK, hD0, hH⟩ := hv
  have hx := B.exec
  have hb := B.bytes
  have hr := B.returns
  have hts := atoms_spec (ws := wc_X1_init) B.pre
  have hown : s.vm.findClass RX1 = some m.cls := findClass_of_methodNamed B.named
  have hlocks := B.notSynchronized
  have hin : meth.name = "<init>" := (name_of_methodNamed B.named B.method).1
  subst hsz
  have hD := hD0.self (sz := s.heap.size)
  generalize hAe : va_A [(h, .inr (5, [.null, .null, .null, .null, .int 0, .int 0, .int 0, .long 0]))] s.heap.size = A at hD ⊢
  have hA : ∀ q : Nat, s.heap.size ≤ q → A q := fun q h => by rw [← hAe]; exact Or.inr h
  have hS : va_S A s.heap s.heap [] := va_S.rf
  have hP : va_P (dC, dI) vwCl [(h, .inr (5, [.null, .null, .null, .null, .int 0, .int 0, .int 0, .long 0]))] s.heap := hP
  have hl := lv_entry ([.ref h]) (n := 1) (Nat.le_of_ble_eq_true rfl)
  rw [lg_entry_eq]
  generalize (lg_sl ([.ref h]) ++ List.replicate (1 - (lg_sl ([.ref h])).length) Slot.unset).toArray = ls at hl ⊢
  have hl : lv_has ls 1 [(0, .ref h)] := hl
  refine lv_aload_n hx hb dX1_init_0 rfl (lv_at hl 0 rfl) ?_
  refine W.objInit hx hb hown (hts (.methodLink RX1 3 objectInit) (by decide +kernel)) (hts (.instanceMethod objectInit) (by decide +kernel)) (hts (.code objectInit ⟨#[0xb1]⟩ 1 none) (by decide +kernel)) rfl (by rw [hml]; exact hl.1) rfl dX1_init_1 (Nat.le_of_ble_eq_true rfl) (Nat.le_of_ble_eq_true rfl) ?_
  refine W.eq (g2 := F0 m 4 ls []) rfl ?_
  refine lv_aload_n hx hb dX1_init_4 rfl (lv_at hl 0 rfl) ?_
  refine va_new (ci := 6) (fs := [.null, .null, .null, .null, .null, .null, .null, .null, .int 0, .int 0, .int 0]) (C := RX2) (T := TX2) (N := 11) hx hb hts (fun w h => (List.mem_cons_of_mem _ (List.mem_append_right _ (List.mem_append_left _ h)))) tyX2 tyX2_ok hown (hts (.classLink RX1 9 RX2) (by decide +kernel)) (hts (.instantiable RX2 11) (by decide +kernel)) (hts (.initialized RX2) (by decide +kernel)) hK hP hD hS hA rfl (fun j hj => by rcases (show j = 0 ∨ j = 1 ∨ j = 2 ∨ j = 3 ∨ j = 4 ∨ j = 5 ∨ j = 6 ∨ j = 7 ∨ j = 8 ∨ j = 9 ∨ j = 10 by omega) with rfl | rfl | rfl | rfl | rfl | rfl | rfl | rfl | rfl | rfl | rfl <;> rfl) (Nat.le_of_ble_eq_true rfl) (Nat.le_of_ble_eq_true rfl) dX1_init_5 (fun q1 H hP hD hS => ?_)
  have hP : va_P (dC, dI) vwCl [(h, .inr (5, [.null, .null, .null, .null, .int 0, .int 0, .int 0, .long 0])), (q1, .inr (6, [.null, .null, .null, .null, .null, .null, .null, .null, .int 0, .int 0, .int 0]))] H := hP
  have hD : va_D A [(h, .inr (5, [.null, .null, .null, .null, .int 0, .int 0, .int 0, .long 0])), (q1, .inr (6, [.null, .null, .null, .null, .null, .null, .null, .null, .int 0, .int 0, .int 0]))] := hD
  refine W.widen (k := 1) (n := 11) (by decide) (by decide) ?_
  refine lv_dup hx hb dX1_init_8 rfl ?_
  have hPc := hP.sub (ws' := [(q1, .inr (6, [.null, .null, .null, .null, .null, .null, .null, .null, .int 0, .int 0, .int 0]))]) [1] rfl
  have hKc := hK.sub (tys' := []) [] rfl
  have hDc := hD.sub (ws' := [(q1, .inr (6, [.null, .null, .null, .null, .null, .null, .null, .null, .int 0, .int 0, .int 0]))]) [1] (by decide) rfl
  have hFc := va_free (wc := [(q1, .inr (6, [.null, .null, .null, .null, .null, .null, .null, .null, .int 0, .int 0, .int 0]))]) hD hS hA [1] rfl
  refine va_callv (va_runIN (As := []) (rest := [.ref q1, .ref h]) ⟨hx, hb, hml, hown, hts⟩ (c_X2_init l dC dI q1 _) (⟨va_cnB (host := RX11) 0 hts (goodIn_sub (ws := wc_X2_init) (fun w h => (List.mem_cons_of_mem _ (List.mem_append_right _ (List.mem_append_right _ (List.mem_append_left _ h))))) (by decide +kernel)) rfl rfl rfl hH.1.2.2.2 (hts (.initialized RX2) (by decide +kernel)) (by decide +kernel) ⟨Nat.le_of_ble_eq_true rfl, Nat.le_of_ble_eq_true rfl⟩, rfl, (hts (.instanceMethod yX2_init) (by decide +kernel))⟩) ⟨fun a U g mk q => by obtain ⟨q0, q1, qP, qK, qD⟩ := q; exact ⟨q0, q1, qP, va_K.moved (u := U) (U := U.calling g mk a) (Vm.Alike.refl U.vm) qK, qD⟩, fun U hU hW => ⟨rfl, by rw [hU], by rw [hU]; exact hPc, va_K.moved hW.alike hKc, hDc.weaken (fun _ _ _ _ => trivial)⟩⟩ rfl rfl hl.1 rfl (lv_room (Nat.le_of_ble_eq_true rfl)) dX1_init_9 ⟨(Nat.le_of_ble_eq_true rfl), (Nat.le_of_ble_eq_true rfl)⟩) hS (fun q _ h => hFc q h) hFc (fun u t H1 locs ht hvm hw hB hz1 hk1 hS => ?_)
  have hP1 : va_P (dC, dI) vwCl [] H1 := fun k q h => by simp at h
  have hD1 : ∀ B : Nat → Prop, va_D B [] := fun B => ⟨fun i j p q h => by simp at h, fun k q h => by simp at h⟩
  try dsimp only at hw
  obtain ⟨hP, hD⟩ := va_join (wr := [(h, .inr (5, [.null, .null, .null, .null, .int 0, .int 0, .int 0, .long 0]))]) (w1 := []) hP hD [1] [0] rfl rfl (by decide) (by decide) hk1 hFc hP1 (hD1 _)
  generalize H1 = H at hP hS ⊢
  have hP : va_P (dC, dI) vwCl [(h, .inr (5, [.null, .null, .null, .null, .int 0, .int 0, .int 0, .long 0]))] H := hP
  have hD : va_D A [(h, .inr (5, [.null, .null, .null, .null, .int 0, .int 0, .int 0, .long 0]))] := hD
  refine va_putF (D := (dC, dI)) (ci := 5) (v := .ref q1) (ty := (tyX1 0)) (C := RX1) (T := TX1) (N := 8) hx hb hts (fun w h => (List.mem_cons_of_mem _ (List.mem_append_right _ (List.mem_append_right _ (List.mem_append_right _ (List.mem_append_left _ h)))))) tyX1 tyX1_ok nmX1 hown hK hP hD hS 0 rfl rfl 0 (by decide) (hts (.fieldLink RX1 12 "Sequencepoint$Machine" "memory" "LSequencepoint$Memory;") (by decide +kernel)) (fun _ h9 => h9) rfl hin rfl (by decide +kernel) rfl rfl (Nat.le_of_ble_eq_true rfl) dX1_init_12 (fun H locs hP hD hS => ?_)
  have hP : va_P (dC, dI) vwCl [(h, .inr (5, [.ref q1, .null, .null, .null, .int 0, .int 0, .int 0, .long 0]))] H := hP
  have hD : va_D A [(h, .inr (5, [.ref q1, .null, .null, .null, .int 0, .int 0, .int 0, .long 0]))] := hD
  refine lv_aload_n hx hb dX1_init_15 rfl (lv_at hl 0 rfl) ?_
  refine lv_bipush (v := 90) hx hb dX1_init_16 (by decide) ?_
  refine va_newa (atype := .int) (ty := .int) (a0 := (90, .inl (fun _ => (0 : Int32)))) (N' := 90) hx hb (hts (.arrayClass .int) (by decide +kernel)) rfl hK hP hD hS hA (fun _ => rfl) (by decide) (by decide) (Nat.le_of_ble_eq_true rfl) (Nat.le_of_ble_eq_true rfl) (Nat.le_of_ble_eq_true rfl) dX1_init_18 (fun q3 cA4 H hK hP hD hS => ?_)
  have hK : va_K (dC, dI) vwCl [(cA4, .int)] s := hK
  have hP : va_P (dC, dI) vwCl [(h, .inr (5, [.ref q1, .null, .null, .null, .int 0, .int 0, .int 0, .long 0])), (q3, .inl (cA4, 90, .inl (fun _ => (0 : Int32))))] H := hP
  have hD : va_D A [(h, .inr (5, [.ref q1, .null, .null, .null, .int 0, .int 0, .int 0, .long 0])), (q3, .inl (cA4, 90, .inl (fun _ => (0 : Int32))))] := hD
  refine W.widen (k := 10) (n := 7061) (by decide) (by decide) ?_
  refine va_putF (D := (dC, dI)) (ci := 5) (v := .ref q3) (ty := (tyX1 1)) (C := RX1) (T := TX1) (N := 8) hx hb hts (fun w h => (List.mem_cons_of_mem _ (List.mem_append_right _ (List.mem_append_right _ (List.mem_append_right _ (List.mem_append_left _ h)))))) tyX1 tyX1_ok nmX1 hown hK hP hD hS 0 rfl rfl 1 (by decide) (hts (.fieldLink RX1 18 "Sequencepoint$Machine" "rows" "[I") (by decide +kernel)) (fun _ h9 => h9) rfl hin rfl (by decide +kernel) rfl rfl (Nat.le_of_ble_eq_true rfl) dX1_init_20 (fun H locs hP hD hS => ?_)
  have hP : va_P (dC, dI) vwCl [(h, .inr (5, [.ref q1, .ref q3, .null, .null, .int 0, .int 0, .int 0, .long 0])), (q3, .inl (cA4, 90, .inl (fun _ => (0 : Int32))))] H := hP
  have hD : va_D A [(h, .inr (5, [.ref q1, .ref q3, .null, .null, .int 0, .int 0, .int 0, .long 0])), (q3, .inl (cA4, 90, .inl (fun _ => (0 : Int32))))] := hD
  exact W.vret hx hb hr (fun t ht hW => ⟨⟨(), rfl, trivial, trivial⟩, hS.F ht⟩) hS.2.2 dX1_init_23

def wc_X5_init : List Cond := .code yX5_init cX5_init 2 none :: ([.methodLink RX5 3 objectInit, .instanceMethod objectInit, .code objectInit ⟨#[0xb1]⟩ 1 none, .classLink RX5 9 RX8, .fieldLink RX5 11 "Sequencepoint$Optimiser" "bodies" "[LSequencepoint$Statement;", .classLink RX5 17 RX3, .fieldLink RX5 19 "Sequencepoint$Optimiser" "nodes" "[LSequencepoint$Node;", .fieldLink RX5 23 "Sequencepoint$Optimiser" "statements" "[LSequencepoint$Statement;", .fieldLink RX5 26 "Sequencepoint$Optimiser" "became" "[LSequencepoint$Node;", .fieldLink RX5 29 "Sequencepoint$Optimiser" "statementBecame" "[LSequencepoint$Statement;", .arrayClass .boolean, .fieldLink RX5 32 "Sequencepoint$Optimiser" "isUsed" "[Z", .fieldLink RX5 36 "Sequencepoint$Optimiser" "isStatementUsed" "[Z", .instantiable RX8 9, .initialized RX8, .methodLink RX5 42 yX8_init, .instanceMethod yX8_init, .instantiable RX3 14, .initialized RX3, .methodLink RX5 39 yX3_init, .instanceMethod yX3_init] ++ (wsX50 ++ (wsX80 ++ (wc_X8_init ++ (wsX30 ++ (wc_X3_init ++ []))))))
set_option maxHeartbeats 4000000 in
set_option maxRecDepth 100000 in
theorem c_X5_init (l : Launch) (dC : Nat → ClassId) (dI : Nat → Nat → Nat) (h : Nat) (sz : Nat) : Met l yX5_init wc_X5_init ({ frames := 2, cells := 167, slots := 2423, locals := 35 }) (va_Pc [.ref h] (fun U => U.heap.size = sz ∧ va_P (dC, dI) vwCl [(h, .inr (8, [.null, .int 0, .int 0, .null, .null, .null, .null, .null, .null]))] U.heap ∧ va_K (dC, dI) vwCl [] U ∧ va_D (fun _ => True) [(h, .inr (8, [.null, .int 0, .int 0, .null, .null, .null, .null, .null, .null]))] ∧ nw U)) (va_Qv (fun _ : Unit => True) (fun _ t => True) (va_A [(h, .inr (8, [.null, .int 0, .int 0, .null, .null, .null, .null, .null, .null]))] sz)) 167 2423 (va_A [(h, .inr (8, [.null, .int 0, .int 0, .null, .null, .null, .null, .null, .null]))] sz) := by
  refine Met.ofW (cc := cX5_init) (maxL := 2) (ret := none) (by decide) rfl ?_
  intro p e s m args below meth c s₁ B hml hv
  obtain ⟨rfl, hsz, hP, hK, hD0, hH⟩ := hv
  have hx := B.exec
  have hb := B.bytes
  have hr := B.returns
  have hts := atoms_spec (ws := wc_X5_init) B.pre
  have hown : s.vm.findClass RX5 = some m.cls := findClass_of_methodNamed B.named
  have hlocks := B.notSynchronized
  have hin : meth.name = "<init>" := (name_of_methodNamed B.named B.method).1
  subst hsz
  have hD := hD0.self (sz := s.heap.size)
  generalize hAe : va_A [(h, .inr (8, [.null, .int 0, .int 0, .null, .null, .null, .null, .null, .null]))] s.heap.size = A at hD ⊢
  have hA : ∀ q : Nat, s.heap.size ≤ q → A q := fun q h => by rw [← hAe]; exact Or.inr h
  have hS : va_S A s.heap s.heap [] := va_S.rf
  have hP : va_P (dC, dI) vwCl [(h, .inr (8, [.null, .int 0, .int 0, .null, .null, .null, .null, .null, .null]))] s.heap := hP
  have hl := lv_entry ([.ref h]) (n := 2) (Nat.le_of_ble_eq_true rfl)
  rw [lg_entry_eq]
  generalize (lg_sl ([.ref h]) ++ List.replicate (2 - (lg_sl ([.ref h])).length) Slot.unset).toArray = ls at hl ⊢
  have hl : lv_has ls 2 [(0, .ref h)] := hl
  refine lv_aload_n hx hb dX5_init_0 rfl (lv_at hl 0 rfl) ?_
  refine W.objInit hx hb hown (hts (.methodLink RX5 3 objectInit) (by decide +kernel)) (hts (.instanceMethod objectInit) (by decide +kernel)) (hts (.code objectInit ⟨#[0xb1]⟩ 1 none) (by decide +kernel)) rfl (by rw [hml]; exact hl.1) rfl dX5_init_1 (Nat.le_of_ble_eq_true rfl) (Nat.le_of_ble_eq_true rfl) ?_
  refine W.eq (g2 := F0 m 4 ls []) rfl ?_
  refine lv_aload_n hx hb dX5_init_4 rfl (lv_at hl 0 rfl) ?_
  refine lv_iconst (v := 3) hx hb dX5_init_5 (by decide) ?_
  refine va_newq (C := RX8) (N' := 3) hx hb hown (hts (.classLink RX5 9 RX8) (by decide +kernel)) hH.2.2.2.1 hK hP hD hS hA (by decide) (by decide) (Nat.le_of_ble_eq_true rfl) (Nat.le_of_ble_eq_true rfl) (Nat.le_of_ble_eq_true rfl) dX5_init_6 (fun q1 cA2 H hK hP hD hS => ?_)
  have hK : va_K (dC, dI) vwCl [(cA2, .object "Sequencepoint$Statement")] s := hK
  have hP : va_P (dC, dI) vwCl [(h, .inr (8, [.null, .int 0, .int 0, .null, .null, .null, .null, .null, .null])), (q1, .inl (cA2, 3, .inr (.inr (.inr (.inr (fun _ => none))))))] H := hP
  have hD : va_D A [(h, .inr (8, [.null, .int 0, .int 0, .null, .null, .null, .null, .null, .null])), (q1, .inl (cA2, 3, .inr (.inr (.inr (.inr (fun _ => none))))))] := hD
  refine W.widen (k := 1) (n := 3) (by decide) (by decide) ?_
  refine va_putF (D := (dC, dI)) (ci := 8) (v := .ref q1) (ty := (tyX5 0)) (C := RX5) (T := TX5) (N := 9) hx hb hts (fun w h => (List.mem_cons_of_mem _ (List.mem_append_right _ (List.mem_append_left _ h)))) tyX5 tyX5_ok nmX5 hown hK hP hD hS 0 rfl rfl 0 (by decide) (hts (.fieldLink RX5 11 "Sequencepoint$Optimiser" "bodies" "[LSequencepoint$Statement;") (by decide +kernel)) (fun _ h9 => h9) rfl hin rfl (by decide +kernel) rfl rfl (Nat.le_of_ble_eq_true rfl) dX5_init_9 (fun H locs hP hD hS => ?_)
  have hP : va_P (dC, dI) vwCl [(h, .inr (8, [.ref q1, .int 0, .int 0, .null, .null, .null, .null, .null, .null])), (q1, .inl (cA2, 3, .inr (.inr (.inr (.inr (fun _ => none))))))] H := hP
  have hD : va_D A [(h, .inr (8, [.ref q1, .int 0, .int 0, .null, .null, .null, .null, .null, .null])), (q1, .inl (cA2, 3, .inr (.inr (.inr (.inr (fun _ => none))))))] := hD
  refine lv_aload_n hx hb dX5_init_12 rfl (lv_at hl 0 rfl) ?_
  refine lv_bipush (v := 100) hx hb dX5_init_13 (by decide) ?_
  refine va_newq (C := RX3) (N' := 100) hx hb hown (hts (.classLink RX5 17 RX3) (by decide +kernel)) hH.2.2.2.2.1 hK hP hD hS hA (by decide) (by decide) (Nat.le_of_ble_eq_true rfl) (Nat.le_of_ble_eq_true rfl) (Nat.le_of_ble_eq_true rfl) dX5_init_15 (fun q3 cA4 H hK hP hD hS => ?_)
  have hK : va_K (dC, dI) vwCl [(cA2, .object "Sequencepoint$Statement"), (cA4, .object "Sequencepoint$Node")] s := hK
  have hP : va_P (dC, dI) vwCl [(h, .inr (8, [.ref q1, .int 0, .int 0, .null, .null, .null, .null, .null, .null])), (q1, .inl (cA2, 3, .inr (.inr (.inr (.inr (fun _ => none)))))), (q3, .inl (cA4, 100, .inr (.inr (.inr (.inr (fun _ => none))))))] H := hP
  have hD : va_D A [(h, .inr (8, [.ref q1, .int 0, .int 0, .null, .null, .null, .null, .null, .null])), (q1, .inl (cA2, 3, .inr (.inr (.inr (.inr (fun _ => none)))))), (q3, .inl (cA4, 100, .inr (.inr (.inr (.inr (fun _ => none))))))] := hD
  refine W.widen (k := 2) (n := 103) (by decide) (by decide) ?_
  refine va_putF (D := (dC, dI)) (ci := 8) (v := .ref q3) (ty := (tyX5 3)) (C := RX5) (T := TX5) (N := 9) hx hb hts (fun w h => (List.mem_cons_of_mem _ (List.mem_append_right _ (List.mem_append_left _ h)))) tyX5 tyX5_ok nmX5 hown hK hP hD hS 0 rfl rfl 3 (by decide) (hts (.fieldLink RX5 19 "Sequencepoint$Optimiser" "nodes" "[LSequencepoint$Node;") (by decide +kernel)) (fun _ h9 => h9) rfl hin rfl (by decide +kernel) rfl rfl (Nat.le_of_ble_eq_true rfl) dX5_init_18 (fun H locs hP hD hS => ?_)
  have hP : va_P (dC, dI) vwCl [(h, .inr (8, [.ref q1, .int 0, .int 0, .ref q3, .null, .null, .null, .null, .null])), (q1, .inl (cA2, 3, .inr (.inr (.inr (.inr (fun _ => none)))))), (q3, .inl (cA4, 100, .inr (.inr (.inr (.inr (fun _ => none))))))] H := hP
  have hD : va_D A [(h, .inr (8, [.ref q1, .int 0, .int 0, .ref q3, .null, .null, .null, .null, .null])), (q1, .inl (cA2, 3, .inr (.inr (.inr (.inr (fun _ => none)))))), (q3, .inl (cA4, 100, .inr (.inr (.inr (.inr (fun _ => none))))))] := hD
  refine lv_aload_n hx hb dX5_init_21 rfl (lv_at hl 0 rfl) ?_
  refine lv_bipush (v := 60) hx hb dX5_init_22 (by decide) ?_
  refine va_newq (C := RX8) (N' := 60) hx hb hown (hts (.classLink RX5 9 RX8) (by decide +kernel)) hH.2.2.2.1 hK hP hD hS hA (by decide) (by decide) (Nat.le_of_ble_eq_true rfl) (Nat.le_of_ble_eq_true rfl) (Nat.le_of_ble_eq_true rfl) dX5_init_24 (fun q5 cA6 H hK hP hD hS => ?_)
  have hK : va_K (dC, dI) vwCl [(cA2, .object "Sequencepoint$Statement"), (cA4, .object "Sequencepoint$Node"), (cA6, .object "Sequencepoint$Statement")] s := hK
  have hP : va_P (dC, dI) vwCl [(h, .inr (8, [.ref q1, .int 0, .int 0, .ref q3, .null, .null, .null, .null, .null])), (q1, .inl (cA2, 3, .inr (.inr (.inr (.inr (fun _ => none)))))), (q3, .inl (cA4, 100, .inr (.inr (.inr (.inr (fun _ => none)))))), (q5, .inl (cA6, 60, .inr (.inr (.inr (.inr (fun _ => none))))))] H := hP
  have hD : va_D A [(h, .inr (8, [.ref q1, .int 0, .int 0, .ref q3, .null, .null, .null, .null, .null])), (q1, .inl (cA2, 3, .inr (.inr (.inr (.inr (fun _ => none)))))), (q3, .inl (cA4, 100, .inr (.inr (.inr (.inr (fun _ => none)))))), (q5, .inl (cA6, 60, .inr (.inr (.inr (.inr (fun _ => none))))))] := hD
  refine W.widen (k := 3) (n := 163) (by decide) (by decide) ?_
  refine va_putF (D := (dC, dI)) (ci := 8) (v := .ref q5) (ty := (tyX5 4)) (C := RX5) (T := TX5) (N := 9) hx hb hts (fun w h => (List.mem_cons_of_mem _ (List.mem_append_right _ (List.mem_append_left _ h)))) tyX5 tyX5_ok nmX5 hown hK hP hD hS 0 rfl rfl 4 (by decide) (hts (.fieldLink RX5 23 "Sequencepoint$Optimiser" "statements" "[LSequencepoint$Statement;") (by decide +kernel)) (fun _ h9 => h9) rfl hin rfl (by decide +kernel) rfl rfl (Nat.le_of_ble_eq_true rfl) dX5_init_27 (fun H locs hP hD hS => ?_)
  have hP : va_P (dC, dI) vwCl [(h, .inr (8, [.ref q1, .int 0, .int 0, .ref q3, .ref q5, .null, .null, .null, .null])), (q1, .inl (cA2, 3, .inr (.inr (.inr (.inr (fun _ => none)))))), (q3, .inl (cA4, 100, .inr (.inr (.inr (.inr (fun _ => none)))))), (q5, .inl (cA6, 60, .inr (.inr (.inr (.inr (fun _ => none))))))] H := hP
  have hD : va_D A [(h, .inr (8, [.ref q1, .int 0, .int 0, .ref q3, .ref q5, .null, .null, .null, .null])), (q1, .inl (cA2, 3, .inr (.inr (.inr (.inr (fun _ => none)))))), (q3, .inl (cA4, 100, .inr (.inr (.inr (.inr (fun _ => none)))))), (q5, .inl (cA6, 60, .inr (.inr (.inr (.inr (fun _ => none))))))] := hD
  refine lv_aload_n hx hb dX5_init_30 rfl (lv_at hl 0 rfl) ?_
  refine lv_bipush (v := 100) hx hb dX5_init_31 (by decide) ?_
  refine va_newq (C := RX3) (N' := 100) hx hb hown (hts (.classLink RX5 17 RX3) (by decide +kernel)) hH.2.2.2.2.1 hK hP hD hS hA (by decide) (by decide) (Nat.le_of_ble_eq_true rfl) (Nat.le_of_ble_eq_true rfl) (Nat.le_of_ble_eq_true rfl) dX5_init_33 (fun q7 cA8 H hK hP hD hS => ?_)
  have hK : va_K (dC, dI) vwCl [(cA2, .object "Sequencepoint$Statement"), (cA4, .object "Sequencepoint$Node"), (cA6, .object "Sequencepoint$Statement"), (cA8, .object "Sequencepoint$Node")] s := hK
  have hP : va_P (dC, dI) vwCl [(h, .inr (8, [.ref q1, .int 0, .int 0, .ref q3, .ref q5, .null, .null, .null, .null])), (q1, .inl (cA2, 3, .inr (.inr (.inr (.inr (fun _ => none)))))), (q3, .inl (cA4, 100, .inr (.inr (.inr (.inr (fun _ => none)))))), (q5, .inl (cA6, 60, .inr (.inr (.inr (.inr (fun _ => none)))))), (q7, .inl (cA8, 100, .inr (.inr (.inr (.inr (fun _ => none))))))] H := hP
  have hD : va_D A [(h, .inr (8, [.ref q1, .int 0, .int 0, .ref q3, .ref q5, .null, .null, .null, .null])), (q1, .inl (cA2, 3, .inr (.inr (.inr (.inr (fun _ => none)))))), (q3, .inl (cA4, 100, .inr (.inr (.inr (.inr (fun _ => none)))))), (q5, .inl (cA6, 60, .inr (.inr (.inr (.inr (fun _ => none)))))), (q7, .inl (cA8, 100, .inr (.inr (.inr (.inr (fun _ => none))))))] := hD
  refine W.widen (k := 4) (n := 263) (by decide) (by decide) ?_
  refine va_putF (D := (dC, dI)) (ci := 8) (v := .ref q7) (ty := (tyX5 5)) (C := RX5) (T := TX5) (N := 9) hx hb hts (fun w h => (List.mem_cons_of_mem _ (List.mem_append_right _ (List.mem_append_left _ h)))) tyX5 tyX5_ok nmX5 hown hK hP hD hS 0 rfl rfl 5 (by decide) (hts (.fieldLink RX5 26 "Sequencepoint$Optimiser" "became" "[LSequencepoint$Node;") (by decide +kernel)) (fun _ h9 => h9) rfl hin rfl (by decide +kernel) rfl rfl (Nat.le_of_ble_eq_true rfl) dX5_init_36 (fun H locs hP hD hS => ?_)
  have hP : va_P (dC, dI) vwCl [(h, .inr (8, [.ref q1, .int 0, .int 0, .ref q3, .ref q5, .ref q7, .null, .null, .null])), (q1, .inl (cA2, 3, .inr (.inr (.inr (.inr (fun _ => none)))))), (q3, .inl (cA4, 100, .inr (.inr (.inr (.inr (fun _ => none)))))), (q5, .inl (cA6, 60, .inr (.inr (.inr (.inr (fun _ => none)))))), (q7, .inl (cA8, 100, .inr (.inr (.inr (.inr (fun _ => none))))))] H := hP
  have hD : va_D A [(h, .inr (8, [.ref q1, .int 0, .int 0, .ref q3, .ref q5, .ref q7, .null, .null, .null])), (q1, .inl (cA2, 3, .inr (.inr (.inr (.inr (fun _ => none)))))), (q3, .inl (cA4, 100, .inr (.inr (.inr (.inr (fun _ => none)))))), (q5, .inl (cA6, 60, .inr (.inr (.inr (.inr (fun _ => none)))))), (q7, .inl (cA8, 100, .inr (.inr (.inr (.inr (fun _ => none))))))] := hD
  refine lv_aload_n hx hb dX5_init_39 rfl (lv_at hl 0 rfl) ?_
  refine lv_bipush (v := 60) hx hb dX5_init_40 (by decide) ?_
  refine va_newq (C := RX8) (N' := 60) hx hb hown (hts (.classLink RX5 9 RX8) (by decide +kernel)) hH.2.2.2.1 hK hP hD hS hA (by decide) (by decide) (Nat.le_of_ble_eq_true rfl) (Nat.le_of_ble_eq_true rfl) (Nat.le_of_ble_eq_true rfl) dX5_init_42 (fun q9 cA10 H hK hP hD hS => ?_)
  have hK : va_K (dC, dI) vwCl [(cA2, .object "Sequencepoint$Statement"), (cA4, .object "Sequencepoint$Node"), (cA6, .object "Sequencepoint$Statement"), (cA8, .object "Sequencepoint$Node"), (cA10, .object "Sequencepoint$Statement")] s := hK
  have hP : va_P (dC, dI) vwCl [(h, .inr (8, [.ref q1, .int 0, .int 0, .ref q3, .ref q5, .ref q7, .null, .null, .null])), (q1, .inl (cA2, 3, .inr (.inr (.inr (.inr (fun _ => none)))))), (q3, .inl (cA4, 100, .inr (.inr (.inr (.inr (fun _ => none)))))), (q5, .inl (cA6, 60, .inr (.inr (.inr (.inr (fun _ => none)))))), (q7, .inl (cA8, 100, .inr (.inr (.inr (.inr (fun _ => none)))))), (q9, .inl (cA10, 60, .inr (.inr (.inr (.inr (fun _ => none))))))] H := hP
  have hD : va_D A [(h, .inr (8, [.ref q1, .int 0, .int 0, .ref q3, .ref q5, .ref q7, .null, .null, .null])), (q1, .inl (cA2, 3, .inr (.inr (.inr (.inr (fun _ => none)))))), (q3, .inl (cA4, 100, .inr (.inr (.inr (.inr (fun _ => none)))))), (q5, .inl (cA6, 60, .inr (.inr (.inr (.inr (fun _ => none)))))), (q7, .inl (cA8, 100, .inr (.inr (.inr (.inr (fun _ => none)))))), (q9, .inl (cA10, 60, .inr (.inr (.inr (.inr (fun _ => none))))))] := hD
  refine W.widen (k := 5) (n := 323) (by decide) (by decide) ?_
  refine va_putF (D := (dC, dI)) (ci := 8) (v := .ref q9) (ty := (tyX5 6)) (C := RX5) (T := TX5) (N := 9) hx hb hts (fun w h => (List.mem_cons_of_mem _ (List.mem_append_right _ (List.mem_append_left _ h)))) tyX5 tyX5_ok nmX5 hown hK hP hD hS 0 rfl rfl 6 (by decide) (hts (.fieldLink RX5 29 "Sequencepoint$Optimiser" "statementBecame" "[LSequencepoint$Statement;") (by decide +kernel)) (fun _ h9 => h9) rfl hin rfl (by decide +kernel) rfl rfl (Nat.le_of_ble_eq_true rfl) dX5_init_45 (fun H locs hP hD hS => ?_)
  have hP : va_P (dC, dI) vwCl [(h, .inr (8, [.ref q1, .int 0, .int 0, .ref q3, .ref q5, .ref q7, .ref q9, .null, .null])), (q1, .inl (cA2, 3, .inr (.inr (.inr (.inr (fun _ => none)))))), (q3, .inl (cA4, 100, .inr (.inr (.inr (.inr (fun _ => none)))))), (q5, .inl (cA6, 60, .inr (.inr (.inr (.inr (fun _ => none)))))), (q7, .inl (cA8, 100, .inr (.inr (.inr (.inr (fun _ => none)))))), (q9, .inl (cA10, 60, .inr (.inr (.inr (.inr (fun _ => none))))))] H := hP
  have hD : va_D A [(h, .inr (8, [.ref q1, .int 0, .int 0, .ref q3, .ref q5, .ref q7, .ref q9, .null, .null])), (q1, .inl (cA2, 3, .inr (.inr (.inr (.inr (fun _ => none)))))), (q3, .inl (cA4, 100, .inr (.inr (.inr (.inr (fun _ => none)))))), (q5, .inl (cA6, 60, .inr (.inr (.inr (.inr (fun _ => none)))))), (q7, .inl (cA8, 100, .inr (.inr (.inr (.inr (fun _ => none)))))), (q9, .inl (cA10, 60, .inr (.inr (.inr (.inr (fun _ => none))))))] := hD
  refine lv_aload_n hx hb dX5_init_48 rfl (lv_at hl 0 rfl) ?_
  refine lv_bipush (v := 100) hx hb dX5_init_49 (by decide) ?_
  refine va_newa (atype := .boolean) (ty := .boolean) (a0 := (100, .inl (fun _ => (0 : Int32)))) (N' := 100) hx hb (hts (.arrayClass .boolean) (by decide +kernel)) rfl hK hP hD hS hA (fun _ => rfl) (by decide) (by decide) (Nat.le_of_ble_eq_true rfl) (Nat.le_of_ble_eq_true rfl) (Nat.le_of_ble_eq_true rfl) dX5_init_51 (fun q11 cA12 H hK hP hD hS => ?_)
  have hK : va_K (dC, dI) vwCl [(cA2, .object "Sequencepoint$Statement"), (cA4, .object "Sequencepoint$Node"), (cA6, .object "Sequencepoint$Statement"), (cA8, .object "Sequencepoint$Node"), (cA10, .object "Sequencepoint$Statement"), (cA12, .boolean)] s := hK
  have hP : va_P (dC, dI) vwCl [(h, .inr (8, [.ref q1, .int 0, .int 0, .ref q3, .ref q5, .ref q7, .ref q9, .null, .null])), (q1, .inl (cA2, 3, .inr (.inr (.inr (.inr (fun _ => none)))))), (q3, .inl (cA4, 100, .inr (.inr (.inr (.inr (fun _ => none)))))), (q5, .inl (cA6, 60, .inr (.inr (.inr (.inr (fun _ => none)))))), (q7, .inl (cA8, 100, .inr (.inr (.inr (.inr (fun _ => none)))))), (q9, .inl (cA10, 60, .inr (.inr (.inr (.inr (fun _ => none)))))), (q11, .inl (cA12, 100, .inl (fun _ => (0 : Int32))))] H := hP
  have hD : va_D A [(h, .inr (8, [.ref q1, .int 0, .int 0, .ref q3, .ref q5, .ref q7, .ref q9, .null, .null])), (q1, .inl (cA2, 3, .inr (.inr (.inr (.inr (fun _ => none)))))), (q3, .inl (cA4, 100, .inr (.inr (.inr (.inr (fun _ => none)))))), (q5, .inl (cA6, 60, .inr (.inr (.inr (.inr (fun _ => none)))))), (q7, .inl (cA8, 100, .inr (.inr (.inr (.inr (fun _ => none)))))), (q9, .inl (cA10, 60, .inr (.inr (.inr (.inr (fun _ => none)))))), (q11, .inl (cA12, 100, .inl (fun _ => (0 : Int32))))] := hD
  refine W.widen (k := 6) (n := 423) (by decide) (by decide) ?_
  refine va_putF (D := (dC, dI)) (ci := 8) (v := .ref q11) (ty := (tyX5 7)) (C := RX5) (T := TX5) (N := 9) hx hb hts (fun w h => (List.mem_cons_of_mem _ (List.mem_append_right _ (List.mem_append_left _ h)))) tyX5 tyX5_ok nmX5 hown hK hP hD hS 0 rfl rfl 7 (by decide) (hts (.fieldLink RX5 32 "Sequencepoint$Optimiser" "isUsed" "[Z") (by decide +kernel)) (fun _ h9 => h9) rfl hin rfl (by decide +kernel) rfl rfl (Nat.le_of_ble_eq_true rfl) dX5_init_53 (fun H locs hP hD hS => ?_)
  have hP : va_P (dC, dI) vwCl [(h, .inr (8, [.ref q1, .int 0, .int 0, .ref q3, .ref q5, .ref q7, .ref q9, .ref q11, .null])), (q1, .inl (cA2, 3, .inr (.inr (.inr (.inr (fun _ => none)))))), (q3, .inl (cA4, 100, .inr (.inr (.inr (.inr (fun _ => none)))))), (q5, .inl (cA6, 60, .inr (.inr (.inr (.inr (fun _ => none)))))), (q7, .inl (cA8, 100, .inr (.inr (.inr (.inr (fun _ => none)))))), (q9, .inl (cA10, 60, .inr (.inr (.inr (.inr (fun _ => none)))))), (q11, .inl (cA12, 100, .inl (fun _ => (0 : Int32))))] H := hP
  have hD : va_D A [(h, .inr (8, [.ref q1, .int 0, .int 0, .ref q3, .ref q5, .ref q7, .ref q9, .ref q11, .null])), (q1, .inl (cA2, 3, .inr (.inr (.inr (.inr (fun _ => none)))))), (q3, .inl (cA4, 100, .inr (.inr (.inr (.inr (fun _ => none)))))), (q5, .inl (cA6, 60, .inr (.inr (.inr (.inr (fun _ => none)))))), (q7, .inl (cA8, 100, .inr (.inr (.inr (.inr (fun _ => none)))))), (q9, .inl (cA10, 60, .inr (.inr (.inr (.inr (fun _ => none)))))), (q11, .inl (cA12, 100, .inl (fun _ => (0 : Int32))))] := hD
  refine lv_aload_n hx hb dX5_init_56 rfl (lv_at hl 0 rfl) ?_
  refine lv_bipush (v := 60) hx hb dX5_init_57 (by decide) ?_
  refine va_newa (atype := .boolean) (ty := .boolean) (a0 := (60, .inl (fun _ => (0 : Int32)))) (N' := 60) hx hb (hts (.arrayClass .boolean) (by decide +kernel)) rfl hK hP hD hS hA (fun _ => rfl) (by decide) (by decide) (Nat.le_of_ble_eq_true rfl) (Nat.le_of_ble_eq_true rfl) (Nat.le_of_ble_eq_true rfl) dX5_init_59 (fun q13 cA14 H hK hP hD hS => ?_)
  have hK : va_K (dC, dI) vwCl [(cA2, .object "Sequencepoint$Statement"), (cA4, .object "Sequencepoint$Node"), (cA6, .object "Sequencepoint$Statement"), (cA8, .object "Sequencepoint$Node"), (cA10, .object "Sequencepoint$Statement"), (cA12, .boolean), (cA14, .boolean)] s := hK
  have hP : va_P (dC, dI) vwCl [(h, .inr (8, [.ref q1, .int 0, .int 0, .ref q3, .ref q5, .ref q7, .ref q9, .ref q11, .null])), (q1, .inl (cA2, 3, .inr (.inr (.inr (.inr (fun _ => none)))))), (q3, .inl (cA4, 100, .inr (.inr (.inr (.inr (fun _ => none)))))), (q5, .inl (cA6, 60, .inr (.inr (.inr (.inr (fun _ => none)))))), (q7, .inl (cA8, 100, .inr (.inr (.inr (.inr (fun _ => none)))))), (q9, .inl (cA10, 60, .inr (.inr (.inr (.inr (fun _ => none)))))), (q11, .inl (cA12, 100, .inl (fun _ => (0 : Int32)))), (q13, .inl (cA14, 60, .inl (fun _ => (0 : Int32))))] H := hP
  have hD : va_D A [(h, .inr (8, [.ref q1, .int 0, .int 0, .ref q3, .ref q5, .ref q7, .ref q9, .ref q11, .null])), (q1, .inl (cA2, 3, .inr (.inr (.inr (.inr (fun _ => none)))))), (q3, .inl (cA4, 100, .inr (.inr (.inr (.inr (fun _ => none)))))), (q5, .inl (cA6, 60, .inr (.inr (.inr (.inr (fun _ => none)))))), (q7, .inl (cA8, 100, .inr (.inr (.inr (.inr (fun _ => none)))))), (q9, .inl (cA10, 60, .inr (.inr (.inr (.inr (fun _ => none)))))), (q11, .inl (cA12, 100, .inl (fun _ => (0 : Int32)))), (q13, .inl (cA14, 60, .inl (fun _ => (0 : Int32))))] := hD
  refine W.widen (k := 7) (n := 483) (by decide) (by decide) ?_
  refine va_putF (D := (dC, dI)) (ci := 8) (v := .ref q13) (ty := (tyX5 8)) (C := RX5) (T := TX5) (N := 9) hx hb hts (fun w h => (List.mem_cons_of_mem _ (List.mem_append_right _ (List.mem_append_left _ h)))) tyX5 tyX5_ok nmX5 hown hK hP hD hS 0 rfl rfl 8 (by decide) (hts (.fieldLink RX5 36 "Sequencepoint$Optimiser" "isStatementUsed" "[Z") (by decide +kernel)) (fun _ h9 => h9) rfl hin rfl (by decide +kernel) rfl rfl (Nat.le_of_ble_eq_true rfl) dX5_init_61 (fun H locs hP hD hS => ?_)
  have hP : va_P (dC, dI) vwCl [(h, .inr (8, [.ref q1, .int 0, .int 0, .ref q3, .ref q5, .ref q7, .ref q9, .ref q11, .ref q13])), (q1, .inl (cA2, 3, .inr (.inr (.inr (.inr (fun _ => none)))))), (q3, .inl (cA4, 100, .inr (.inr (.inr (.inr (fun _ => none)))))), (q5, .inl (cA6, 60, .inr (.inr (.inr (.inr (fun _ => none)))))), (q7, .inl (cA8, 100, .inr (.inr (.inr (.inr (fun _ => none)))))), (q9, .inl (cA10, 60, .inr (.inr (.inr (.inr (fun _ => none)))))), (q11, .inl (cA12, 100, .inl (fun _ => (0 : Int32)))), (q13, .inl (cA14, 60, .inl (fun _ => (0 : Int32))))] H := hP
  have hD : va_D A [(h, .inr (8, [.ref q1, .int 0, .int 0, .ref q3, .ref q5, .ref q7, .ref q9, .ref q11, .ref q13])), (q1, .inl (cA2, 3, .inr (.inr (.inr (.inr (fun _ => none)))))), (q3, .inl (cA4, 100, .inr (.inr (.inr (.inr (fun _ => none)))))), (q5, .inl (cA6, 60, .inr (.inr (.inr (.inr (fun _ => none)))))), (q7, .inl (cA8, 100, .inr (.inr (.inr (.inr (fun _ => none)))))), (q9, .inl (cA10, 60, .inr (.inr (.inr (.inr (fun _ => none)))))), (q11, .inl (cA12, 100, .inl (fun _ => (0 : Int32)))), (q13, .inl (cA14, 60, .inl (fun _ => (0 : Int32))))] := hD
  refine lv_iconst (v := 0) hx hb dX5_init_64 (by decide) ?_
  refine lv_istore_n (lv' := [(1, .int 0), (0, .ref h)]) hx hb dX5_init_65 rfl hl (by decide) rfl (fun ls hl => ?_)
  generalize hQlp15 : (MQ below _ _ _ _ _ _) = Q
  have lp15 : ∀ (n i : Nat), i + n = 100 → ∀ (f_2 : Nat → Option Nat) (H : Heap) (locs : List Loc) (ls : Array Slot), va_P (dC, dI) vwCl [(h, .inr (8, [.ref q1, .int 0, .int 0, .ref q3, .ref q5, .ref q7, .ref q9, .ref q11, .ref q13])), (q1, .inl (cA2, 3, .inr (.inr (.inr (.inr (fun _ => none)))))), (q3, .inl (cA4, 100, .inr (.inr (.inr (.inr f_2))))), (q5, .inl (cA6, 60, .inr (.inr (.inr (.inr (fun _ => none)))))), (q7, .inl (cA8, 100, .inr (.inr (.inr (.inr (fun _ => none)))))), (q9, .inl (cA10, 60, .inr (.inr (.inr (.inr (fun _ => none)))))), (q11, .inl (cA12, 100, .inl (fun _ => (0 : Int32)))), (q13, .inl (cA14, 60, .inl (fun _ => (0 : Int32))))] H → va_D A [(h, .inr (8, [.ref q1, .int 0, .int 0, .ref q3, .ref q5, .ref q7, .ref q9, .ref q11, .ref q13])), (q1, .inl (cA2, 3, .inr (.inr (.inr (.inr (fun _ => none)))))), (q3, .inl (cA4, 100, .inr (.inr (.inr (.inr f_2))))), (q5, .inl (cA6, 60, .inr (.inr (.inr (.inr (fun _ => none)))))), (q7, .inl (cA8, 100, .inr (.inr (.inr (.inr (fun _ => none)))))), (q9, .inl (cA10, 60, .inr (.inr (.inr (.inr (fun _ => none)))))), (q11, .inl (cA12, 100, .inl (fun _ => (0 : Int32)))), (q13, .inl (cA14, 60, .inl (fun _ => (0 : Int32))))] → va_S A s.heap H locs → lv_has ls 2 [(1, .int (nI i)), (0, .ref h)] → W p l e (headSpec wc_X5_init ({ frames := 2, cells := 167, slots := 2423, locals := 35 })).room s m #[.ref h] below meth c H locs (7 + 1 * i) (483 + 14 * i) Q (F0 m 66 ls []) := by
    intro n
    induction n with
    | zero =>
      intro i hi f_2 H locs ls hP hD hS hl
      obtain rfl : i = 100 := by omega
      rw [show 7 + 1 * 100 = 107 from rfl, show 483 + 14 * 100 = 1883 from rfl]
      rw [← hQlp15]
      refine lv_iload_n hx hb dX5_init_66 rfl (lv_at hl 0 rfl) ?_
      refine lv_bipush (v := 100) hx hb dX5_init_67 (by decide) ?_
      refine lv_icmp_ge (tgt := 95) hx hb dX5_init_69 (by decide) (fun c_16 => ?_) (fun c_16 => absurd (by decide) c_16)
      refine lv_iconst (v := 0) hx hb dX5_init_95 (by decide) ?_
      refine lv_istore_n (lv' := [(1, .int 0), (0, .ref h)]) hx hb dX5_init_96 rfl hl (by decide) rfl (fun ls hl => ?_)
      generalize hQlp17 : (MQ below _ _ _ _ _ _) = Q
      have lp17 : ∀ (n i : Nat), i + n = 60 → ∀ (f_3 : Nat → Option Nat) (H : Heap) (locs : List Loc) (ls : Array Slot), va_P (dC, dI) vwCl [(h, .inr (8, [.ref q1, .int 0, .int 0, .ref q3, .ref q5, .ref q7, .ref q9, .ref q11, .ref q13])), (q1, .inl (cA2, 3, .inr (.inr (.inr (.inr (fun _ => none)))))), (q3, .inl (cA4, 100, .inr (.inr (.inr (.inr f_2))))), (q5, .inl (cA6, 60, .inr (.inr (.inr (.inr f_3))))), (q7, .inl (cA8, 100, .inr (.inr (.inr (.inr (fun _ => none)))))), (q9, .inl (cA10, 60, .inr (.inr (.inr (.inr (fun _ => none)))))), (q11, .inl (cA12, 100, .inl (fun _ => (0 : Int32)))), (q13, .inl (cA14, 60, .inl (fun _ => (0 : Int32))))] H → va_D A [(h, .inr (8, [.ref q1, .int 0, .int 0, .ref q3, .ref q5, .ref q7, .ref q9, .ref q11, .ref q13])), (q1, .inl (cA2, 3, .inr (.inr (.inr (.inr (fun _ => none)))))), (q3, .inl (cA4, 100, .inr (.inr (.inr (.inr f_2))))), (q5, .inl (cA6, 60, .inr (.inr (.inr (.inr f_3))))), (q7, .inl (cA8, 100, .inr (.inr (.inr (.inr (fun _ => none)))))), (q9, .inl (cA10, 60, .inr (.inr (.inr (.inr (fun _ => none)))))), (q11, .inl (cA12, 100, .inl (fun _ => (0 : Int32)))), (q13, .inl (cA14, 60, .inl (fun _ => (0 : Int32))))] → va_S A s.heap H locs → lv_has ls 2 [(1, .int (nI i)), (0, .ref h)] → W p l e (headSpec wc_X5_init ({ frames := 2, cells := 167, slots := 2423, locals := 35 })).room s m #[.ref h] below meth c H locs (107 + 1 * i) (1883 + 9 * i) Q (F0 m 97 ls []) := by
        intro n
        induction n with
        | zero =>
          intro i hi f_3 H locs ls hP hD hS hl
          obtain rfl : i = 60 := by omega
          rw [show 107 + 1 * 60 = 167 from rfl, show 1883 + 9 * 60 = 2423 from rfl]
          rw [← hQlp17]
          refine lv_iload_n hx hb dX5_init_97 rfl (lv_at hl 0 rfl) ?_
          refine lv_bipush (v := 60) hx hb dX5_init_98 (by decide) ?_
          refine lv_icmp_ge (tgt := 126) hx hb dX5_init_100 (by decide) (fun c_18 => ?_) (fun c_18 => absurd (by decide) c_18)
          exact W.vret hx hb hr (fun t ht hW => ⟨⟨(), rfl, trivial, trivial⟩, hS.F ht⟩) hS.2.2 dX5_init_126
        | succ n ih =>
          intro i hi f_3 H locs ls hP hD hS hl
          refine lv_iload_n hx hb dX5_init_97 rfl (lv_at hl 0 rfl) ?_
          refine lv_bipush (v := 60) hx hb dX5_init_98 (by decide) ?_
          refine lv_icmp_ge (tgt := 126) hx hb dX5_init_100 (by decide) (fun c_19 => absurd c_19 (nI_ge (b := 60) (by omega) (by decide))) (fun c_19 => ?_)
          refine lv_aload_n hx hb dX5_init_103 rfl (lv_at hl 1 rfl) ?_
          refine va_get (D := (dC, dI)) (ci := 8) (v := .ref q5) (C := RX5) (T := TX5) (N := 9) hx hb hts (fun w h => (List.mem_cons_of_mem _ (List.mem_append_right _ (List.mem_append_left _ h)))) hown hK hP 0 rfl rfl 4 (by decide) (hts (.fieldLink RX5 23 "Sequencepoint$Optimiser" "statements" "[LSequencepoint$Statement;") (by decide +kernel)) (fun _ h9 => h9) rfl dX5_init_104 ?_
          refine lv_iload_n hx hb dX5_init_107 rfl (lv_at hl 0 rfl) ?_
          refine va_new (ci := 11) (fs := [.int 0, .int 0, .null, .null, .null, .null, .int 0, .int 0, .int 0]) (C := RX8) (T := TX8) (N := 9) hx hb hts (fun w h => (List.mem_cons_of_mem _ (List.mem_append_right _ (List.mem_append_right _ (List.mem_append_left _ h))))) tyX8 tyX8_ok hown (hts (.classLink RX5 9 RX8) (by decide +kernel)) (hts (.instantiable RX8 9) (by decide +kernel)) (hts (.initialized RX8) (by decide +kernel)) hK hP hD hS hA rfl (fun j hj => by rcases (show j = 0 ∨ j = 1 ∨ j = 2 ∨ j = 3 ∨ j = 4 ∨ j = 5 ∨ j = 6 ∨ j = 7 ∨ j = 8 by omega) with rfl | rfl | rfl | rfl | rfl | rfl | rfl | rfl | rfl <;> rfl) (show 107 + 1 * i + 1 ≤ 167 by omega) (show 1883 + 9 * i + 9 ≤ 2423 by omega) dX5_init_108 (fun q20 H hP hD hS => ?_)
          have hP : va_P (dC, dI) vwCl [(h, .inr (8, [.ref q1, .int 0, .int 0, .ref q3, .ref q5, .ref q7, .ref q9, .ref q11, .ref q13])), (q1, .inl (cA2, 3, .inr (.inr (.inr (.inr (fun _ => none)))))), (q3, .inl (cA4, 100, .inr (.inr (.inr (.inr f_2))))), (q5, .inl (cA6, 60, .inr (.inr (.inr (.inr f_3))))), (q7, .inl (cA8, 100, .inr (.inr (.inr (.inr (fun _ => none)))))), (q9, .inl (cA10, 60, .inr (.inr (.inr (.inr (fun _ => none)))))), (q11, .inl (cA12, 100, .inl (fun _ => (0 : Int32)))), (q13, .inl (cA14, 60, .inl (fun _ => (0 : Int32)))), (q20, .inr (11, [.int 0, .int 0, .null, .null, .null, .null, .int 0, .int 0, .int 0]))] H := hP
          have hD : va_D A [(h, .inr (8, [.ref q1, .int 0, .int 0, .ref q3, .ref q5, .ref q7, .ref q9, .ref q11, .ref q13])), (q1, .inl (cA2, 3, .inr (.inr (.inr (.inr (fun _ => none)))))), (q3, .inl (cA4, 100, .inr (.inr (.inr (.inr f_2))))), (q5, .inl (cA6, 60, .inr (.inr (.inr (.inr f_3))))), (q7, .inl (cA8, 100, .inr (.inr (.inr (.inr (fun _ => none)))))), (q9, .inl (cA10, 60, .inr (.inr (.inr (.inr (fun _ => none)))))), (q11, .inl (cA12, 100, .inl (fun _ => (0 : Int32)))), (q13, .inl (cA14, 60, .inl (fun _ => (0 : Int32)))), (q20, .inr (11, [.int 0, .int 0, .null, .null, .null, .null, .int 0, .int 0, .int 0]))] := hD
          refine lv_dup hx hb dX5_init_111 rfl ?_
          refine lv_bipush (v := 101) hx hb dX5_init_112 (by decide) ?_
          refine lv_null hx hb dX5_init_114 ?_
          refine lv_null hx hb dX5_init_115 ?_
          have hPc := hP.sub (ws' := [(q20, .inr (11, [.int 0, .int 0, .null, .null, .null, .null, .int 0, .int 0, .int 0]))]) [8] rfl
          have hKc := hK.sub (tys' := []) [] rfl
          have hDc := hD.sub (ws' := [(q20, .inr (11, [.int 0, .int 0, .null, .null, .null, .null, .int 0, .int 0, .int 0]))]) [8] (by decide) rfl
          have hFc := va_free (wc := [(q20, .inr (11, [.int 0, .int 0, .null, .null, .null, .null, .int 0, .int 0, .int 0]))]) hD hS hA [8] rfl
          refine va_callv (va_runI (As := [.int 101, .null, .null]) (rest := [.ref q20, .int (nI i), .ref q5]) ⟨hx, hb, hml, hown, hts⟩ (c_X8_init l dC dI q20 _) (cwI 3 hts (goodIn_sub (ws := wc_X8_init) (fun w h => (List.mem_cons_of_mem _ (List.mem_append_right _ (List.mem_append_right _ (List.mem_append_right _ (List.mem_append_left _ h)))))) (by decide +kernel)) rfl rfl rfl (hts (.initialized RX8) (by decide +kernel)) (hts (.methodLink RX5 42 yX8_init) (by decide +kernel)) (hts (.instanceMethod yX8_init) (by decide +kernel)) rfl (by decide +kernel) ⟨Nat.le_of_ble_eq_true rfl, Nat.le_of_ble_eq_true rfl⟩) ⟨fun a U g mk q => by obtain ⟨q0, q1, qP, qK, qD⟩ := q; exact ⟨q0, q1, qP, va_K.moved (u := U) (U := U.calling g mk a) (Vm.Alike.refl U.vm) qK, qD⟩, fun U hU hW => ⟨rfl, by rw [hU], by rw [hU]; exact hPc, va_K.moved hW.alike hKc, hDc.weaken (fun _ _ _ _ => trivial)⟩⟩ rfl rfl hl.1 rfl (lv_room (Nat.le_of_ble_eq_true rfl)) dX5_init_116 ⟨(show 107 + 1 * i + 1 + 0 ≤ 167 by omega), (show 1883 + 9 * i + 9 + 0 ≤ 2423 by omega)⟩) hS (fun q _ h => hFc q h) hFc (fun u t H1 locs ht hvm hw hB hz1 hk1 hS => ?_)
          obtain ⟨hP1, hK1, hD1⟩ := hB
          rw [ht] at hP1
          have hK1 := va_K.moved hvm.symm hK1
          try dsimp only at hw
          obtain ⟨hP, hD⟩ := va_join (wr := [(h, .inr (8, [.ref q1, .int 0, .int 0, .ref q3, .ref q5, .ref q7, .ref q9, .ref q11, .ref q13])), (q1, .inl (cA2, 3, .inr (.inr (.inr (.inr (fun _ => none)))))), (q3, .inl (cA4, 100, .inr (.inr (.inr (.inr f_2))))), (q5, .inl (cA6, 60, .inr (.inr (.inr (.inr f_3))))), (q7, .inl (cA8, 100, .inr (.inr (.inr (.inr (fun _ => none)))))), (q9, .inl (cA10, 60, .inr (.inr (.inr (.inr (fun _ => none)))))), (q11, .inl (cA12, 100, .inl (fun _ => (0 : Int32)))), (q13, .inl (cA14, 60, .inl (fun _ => (0 : Int32))))]) (w1 := [(q20, .inr (11, [.int 0, .int 101, .null, .null, .null, .null, .int 0, .int 0, .int 0]))]) hP hD [8] [0, 1, 2, 3, 4, 5, 6, 7] rfl rfl (by decide) (by decide) hk1 hFc hP1 hD1
          generalize H1 = H at hP hS ⊢
          have hP : va_P (dC, dI) vwCl [(h, .inr (8, [.ref q1, .int 0, .int 0, .ref q3, .ref q5, .ref q7, .ref q9, .ref q11, .ref q13])), (q1, .inl (cA2, 3, .inr (.inr (.inr (.inr (fun _ => none)))))), (q3, .inl (cA4, 100, .inr (.inr (.inr (.inr f_2))))), (q5, .inl (cA6, 60, .inr (.inr (.inr (.inr f_3))))), (q7, .inl (cA8, 100, .inr (.inr (.inr (.inr (fun _ => none)))))), (q9, .inl (cA10, 60, .inr (.inr (.inr (.inr (fun _ => none)))))), (q11, .inl (cA12, 100, .inl (fun _ => (0 : Int32)))), (q13, .inl (cA14, 60, .inl (fun _ => (0 : Int32)))), (q20, .inr (11, [.int 0, .int 101, .null, .null, .null, .null, .int 0, .int 0, .int 0]))] H := hP
          have hD : va_D A [(h, .inr (8, [.ref q1, .int 0, .int 0, .ref q3, .ref q5, .ref q7, .ref q9, .ref q11, .ref q13])), (q1, .inl (cA2, 3, .inr (.inr (.inr (.inr (fun _ => none)))))), (q3, .inl (cA4, 100, .inr (.inr (.inr (.inr f_2))))), (q5, .inl (cA6, 60, .inr (.inr (.inr (.inr f_3))))), (q7, .inl (cA8, 100, .inr (.inr (.inr (.inr (fun _ => none)))))), (q9, .inl (cA10, 60, .inr (.inr (.inr (.inr (fun _ => none)))))), (q11, .inl (cA12, 100, .inl (fun _ => (0 : Int32)))), (q13, .inl (cA14, 60, .inl (fun _ => (0 : Int32)))), (q20, .inr (11, [.int 0, .int 101, .null, .null, .null, .null, .int 0, .int 0, .int 0]))] := hD
          refine va_astq hx hb hK hP hD hS 3 2 8 11 rfl rfl rfl rfl (vp_in_nI (by omega) (by decide)) dX5_init_119 (fun H locs hP hD hS => ?_)
          have hP : va_P (dC, dI) vwCl [(h, .inr (8, [.ref q1, .int 0, .int 0, .ref q3, .ref q5, .ref q7, .ref q9, .ref q11, .ref q13])), (q1, .inl (cA2, 3, .inr (.inr (.inr (.inr (fun _ => none)))))), (q3, .inl (cA4, 100, .inr (.inr (.inr (.inr f_2))))), (q5, .inl (cA6, 60, .inr (.inr (.inr (.inr (va_up f_3 ((nI i).toNatClampNeg) (some q20))))))), (q7, .inl (cA8, 100, .inr (.inr (.inr (.inr (fun _ => none)))))), (q9, .inl (cA10, 60, .inr (.inr (.inr (.inr (fun _ => none)))))), (q11, .inl (cA12, 100, .inl (fun _ => (0 : Int32)))), (q13, .inl (cA14, 60, .inl (fun _ => (0 : Int32)))), (q20, .inr (11, [.int 0, .int 101, .null, .null, .null, .null, .int 0, .int 0, .int 0]))] H := hP
          have hD : va_D A [(h, .inr (8, [.ref q1, .int 0, .int 0, .ref q3, .ref q5, .ref q7, .ref q9, .ref q11, .ref q13])), (q1, .inl (cA2, 3, .inr (.inr (.inr (.inr (fun _ => none)))))), (q3, .inl (cA4, 100, .inr (.inr (.inr (.inr f_2))))), (q5, .inl (cA6, 60, .inr (.inr (.inr (.inr (va_up f_3 ((nI i).toNatClampNeg) (some q20))))))), (q7, .inl (cA8, 100, .inr (.inr (.inr (.inr (fun _ => none)))))), (q9, .inl (cA10, 60, .inr (.inr (.inr (.inr (fun _ => none)))))), (q11, .inl (cA12, 100, .inl (fun _ => (0 : Int32)))), (q13, .inl (cA14, 60, .inl (fun _ => (0 : Int32)))), (q20, .inr (11, [.int 0, .int 101, .null, .null, .null, .null, .int 0, .int 0, .int 0]))] := hD
          refine lv_iinc (v := (nI (i + 1))) (lv' := [(1, .int (nI (i + 1))), (0, .ref h)]) hx hb dX5_init_120 hl (k := 0) rfl (nI_1 i) (by decide) rfl (fun ls hl => ?_)
          refine lv_goto (tgt := 97) hx hb dX5_init_123 (by decide) ?_
          refine W.widen (k := 107 + 1 * (i + 1)) (n := 1883 + 9 * (i + 1)) (by omega) (by omega) ?_
          exact ih (i + 1) (by omega) _ _ _ _ (hP.sub [0, 1, 2, 3, 4, 5, 6, 7] rfl) (hD.sub [0, 1, 2, 3, 4, 5, 6, 7] (by decide) rfl) hS (lv_sub hl [0, 1] rfl)
      exact lp17 60 0 (by omega) _ _ _ _ hP hD hS hl
    | succ n ih =>
      intro i hi f_2 H locs ls hP hD hS hl
      refine lv_iload_n hx hb dX5_init_66 rfl (lv_at hl 0 rfl) ?_
      refine lv_bipush (v := 100) hx hb dX5_init_67 (by decide) ?_
      refine lv_icmp_ge (tgt := 95) hx hb dX5_init_69 (by decide) (fun c_22 => absurd c_22 (nI_ge (b := 100) (by omega) (by decide))) (fun c_22 => ?_)
      refine lv_aload_n hx hb dX5_init_72 rfl (lv_at hl 1 rfl) ?_
      refine va_get (D := (dC, dI)) (ci := 8) (v := .ref q3) (C := RX5) (T := TX5) (N := 9) hx hb hts (fun w h => (List.mem_cons_of_mem _ (List.mem_append_right _ (List.mem_append_left _ h)))) hown hK hP 0 rfl rfl 3 (by decide) (hts (.fieldLink RX5 19 "Sequencepoint$Optimiser" "nodes" "[LSequencepoint$Node;") (by decide +kernel)) (fun _ h9 => h9) rfl dX5_init_73 ?_
      refine lv_iload_n hx hb dX5_init_76 rfl (lv_at hl 0 rfl) ?_
      refine va_new (ci := 7) (fs := [.int 0, .int 0, .int 0, .int 0, .long 0, .null, .null, .null, .null, .null, .int 0, .int 0, .int 0, .int 0]) (C := RX3) (T := TX3) (N := 14) hx hb hts (fun w h => (List.mem_cons_of_mem _ (List.mem_append_right _ (List.mem_append_right _ (List.mem_append_right _ (List.mem_append_right _ (List.mem_append_left _ h))))))) tyX3 tyX3_ok hown (hts (.classLink RX5 17 RX3) (by decide +kernel)) (hts (.instantiable RX3 14) (by decide +kernel)) (hts (.initialized RX3) (by decide +kernel)) hK hP hD hS hA rfl (fun j hj => by rcases (show j = 0 ∨ j = 1 ∨ j = 2 ∨ j = 3 ∨ j = 4 ∨ j = 5 ∨ j = 6 ∨ j = 7 ∨ j = 8 ∨ j = 9 ∨ j = 10 ∨ j = 11 ∨ j = 12 ∨ j = 13 by omega) with rfl | rfl | rfl | rfl | rfl | rfl | rfl | rfl | rfl | rfl | rfl | rfl | rfl | rfl <;> rfl) (show 7 + 1 * i + 1 ≤ 167 by omega) (show 483 + 14 * i + 14 ≤ 2423 by omega) dX5_init_77 (fun q23 H hP hD hS => ?_)
      have hP : va_P (dC, dI) vwCl [(h, .inr (8, [.ref q1, .int 0, .int 0, .ref q3, .ref q5, .ref q7, .ref q9, .ref q11, .ref q13])), (q1, .inl (cA2, 3, .inr (.inr (.inr (.inr (fun _ => none)))))), (q3, .inl (cA4, 100, .inr (.inr (.inr (.inr f_2))))), (q5, .inl (cA6, 60, .inr (.inr (.inr (.inr (fun _ => none)))))), (q7, .inl (cA8, 100, .inr (.inr (.inr (.inr (fun _ => none)))))), (q9, .inl (cA10, 60, .inr (.inr (.inr (.inr (fun _ => none)))))), (q11, .inl (cA12, 100, .inl (fun _ => (0 : Int32)))), (q13, .inl (cA14, 60, .inl (fun _ => (0 : Int32)))), (q23, .inr (7, [.int 0, .int 0, .int 0, .int 0, .long 0, .null, .null, .null, .null, .null, .int 0, .int 0, .int 0, .int 0]))] H := hP
      have hD : va_D A [(h, .inr (8, [.ref q1, .int 0, .int 0, .ref q3, .ref q5, .ref q7, .ref q9, .ref q11, .ref q13])), (q1, .inl (cA2, 3, .inr (.inr (.inr (.inr (fun _ => none)))))), (q3, .inl (cA4, 100, .inr (.inr (.inr (.inr f_2))))), (q5, .inl (cA6, 60, .inr (.inr (.inr (.inr (fun _ => none)))))), (q7, .inl (cA8, 100, .inr (.inr (.inr (.inr (fun _ => none)))))), (q9, .inl (cA10, 60, .inr (.inr (.inr (.inr (fun _ => none)))))), (q11, .inl (cA12, 100, .inl (fun _ => (0 : Int32)))), (q13, .inl (cA14, 60, .inl (fun _ => (0 : Int32)))), (q23, .inr (7, [.int 0, .int 0, .int 0, .int 0, .long 0, .null, .null, .null, .null, .null, .int 0, .int 0, .int 0, .int 0]))] := hD
      refine lv_dup hx hb dX5_init_80 rfl ?_
      refine lv_iconst (v := 0) hx hb dX5_init_81 (by decide) ?_
      refine lv_bipush (v := 32) hx hb dX5_init_82 (by decide) ?_
      refine lv_iconst (v := 0) hx hb dX5_init_84 (by decide) ?_
      have hPc := hP.sub (ws' := [(q23, .inr (7, [.int 0, .int 0, .int 0, .int 0, .long 0, .null, .null, .null, .null, .null, .int 0, .int 0, .int 0, .int 0]))]) [8] rfl
      have hKc := hK.sub (tys' := []) [] rfl
      have hDc := hD.sub (ws' := [(q23, .inr (7, [.int 0, .int 0, .int 0, .int 0, .long 0, .null, .null, .null, .null, .null, .int 0, .int 0, .int 0, .int 0]))]) [8] (by decide) rfl
      have hFc := va_free (wc := [(q23, .inr (7, [.int 0, .int 0, .int 0, .int 0, .long 0, .null, .null, .null, .null, .null, .int 0, .int 0, .int 0, .int 0]))]) hD hS hA [8] rfl
      refine va_callv (va_runI (As := [.int 0, .int 32, .int 0]) (rest := [.ref q23, .int (nI i), .ref q3]) ⟨hx, hb, hml, hown, hts⟩ (c_X3_init l dC dI q23 _) (cwI 3 hts (goodIn_sub (ws := wc_X3_init) (fun w h => (List.mem_cons_of_mem _ (List.mem_append_right _ (List.mem_append_right _ (List.mem_append_right _ (List.mem_append_right _ (List.mem_append_right _ (List.mem_append_left _ h)))))))) (by decide +kernel)) rfl rfl rfl (hts (.initialized RX3) (by decide +kernel)) (hts (.methodLink RX5 39 yX3_init) (by decide +kernel)) (hts (.instanceMethod yX3_init) (by decide +kernel)) rfl (by decide +kernel) ⟨Nat.le_of_ble_eq_true rfl, Nat.le_of_ble_eq_true rfl⟩) ⟨fun a U g mk q => by obtain ⟨q0, q1, qP, qK, qD⟩ := q; exact ⟨q0, q1, qP, va_K.moved (u := U) (U := U.calling g mk a) (Vm.Alike.refl U.vm) qK, qD⟩, fun U hU hW => ⟨rfl, by rw [hU], by rw [hU]; exact hPc, va_K.moved hW.alike hKc, hDc.weaken (fun _ _ _ _ => trivial)⟩⟩ rfl rfl hl.1 rfl (lv_room (Nat.le_of_ble_eq_true rfl)) dX5_init_85 ⟨(show 7 + 1 * i + 1 + 0 ≤ 167 by omega), (show 483 + 14 * i + 14 + 0 ≤ 2423 by omega)⟩) hS (fun q _ h => hFc q h) hFc (fun u t H1 locs ht hvm hw hB hz1 hk1 hS => ?_)
      obtain ⟨hP1, hK1, hD1⟩ := hB
      rw [ht] at hP1
      have hK1 := va_K.moved hvm.symm hK1
      try dsimp only at hw
      obtain ⟨hP, hD⟩ := va_join (wr := [(h, .inr (8, [.ref q1, .int 0, .int 0, .ref q3, .ref q5, .ref q7, .ref q9, .ref q11, .ref q13])), (q1, .inl (cA2, 3, .inr (.inr (.inr (.inr (fun _ => none)))))), (q3, .inl (cA4, 100, .inr (.inr (.inr (.inr f_2))))), (q5, .inl (cA6, 60, .inr (.inr (.inr (.inr (fun _ => none)))))), (q7, .inl (cA8, 100, .inr (.inr (.inr (.inr (fun _ => none)))))), (q9, .inl (cA10, 60, .inr (.inr (.inr (.inr (fun _ => none)))))), (q11, .inl (cA12, 100, .inl (fun _ => (0 : Int32)))), (q13, .inl (cA14, 60, .inl (fun _ => (0 : Int32))))]) (w1 := [(q23, .inr (7, [.int 0, .int 0, .int 32, .int 0, .long 0, .null, .null, .null, .null, .null, .int 0, .int 0, .int 0, .int 0]))]) hP hD [8] [0, 1, 2, 3, 4, 5, 6, 7] rfl rfl (by decide) (by decide) hk1 hFc hP1 hD1
      generalize H1 = H at hP hS ⊢
      have hP : va_P (dC, dI) vwCl [(h, .inr (8, [.ref q1, .int 0, .int 0, .ref q3, .ref q5, .ref q7, .ref q9, .ref q11, .ref q13])), (q1, .inl (cA2, 3, .inr (.inr (.inr (.inr (fun _ => none)))))), (q3, .inl (cA4, 100, .inr (.inr (.inr (.inr f_2))))), (q5, .inl (cA6, 60, .inr (.inr (.inr (.inr (fun _ => none)))))), (q7, .inl (cA8, 100, .inr (.inr (.inr (.inr (fun _ => none)))))), (q9, .inl (cA10, 60, .inr (.inr (.inr (.inr (fun _ => none)))))), (q11, .inl (cA12, 100, .inl (fun _ => (0 : Int32)))), (q13, .inl (cA14, 60, .inl (fun _ => (0 : Int32)))), (q23, .inr (7, [.int 0, .int 0, .int 32, .int 0, .long 0, .null, .null, .null, .null, .null, .int 0, .int 0, .int 0, .int 0]))] H := hP
      have hD : va_D A [(h, .inr (8, [.ref q1, .int 0, .int 0, .ref q3, .ref q5, .ref q7, .ref q9, .ref q11, .ref q13])), (q1, .inl (cA2, 3, .inr (.inr (.inr (.inr (fun _ => none)))))), (q3, .inl (cA4, 100, .inr (.inr (.inr (.inr f_2))))), (q5, .inl (cA6, 60, .inr (.inr (.inr (.inr (fun _ => none)))))), (q7, .inl (cA8, 100, .inr (.inr (.inr (.inr (fun _ => none)))))), (q9, .inl (cA10, 60, .inr (.inr (.inr (.inr (fun _ => none)))))), (q11, .inl (cA12, 100, .inl (fun _ => (0 : Int32)))), (q13, .inl (cA14, 60, .inl (fun _ => (0 : Int32)))), (q23, .inr (7, [.int 0, .int 0, .int 32, .int 0, .long 0, .null, .null, .null, .null, .null, .int 0, .int 0, .int 0, .int 0]))] := hD
      refine va_astq hx hb hK hP hD hS 2 1 8 7 rfl rfl rfl rfl (vp_in_nI (by omega) (by decide)) dX5_init_88 (fun H locs hP hD hS => ?_)
      have hP : va_P (dC, dI) vwCl [(h, .inr (8, [.ref q1, .int 0, .int 0, .ref q3, .ref q5, .ref q7, .ref q9, .ref q11, .ref q13])), (q1, .inl (cA2, 3, .inr (.inr (.inr (.inr (fun _ => none)))))), (q3, .inl (cA4, 100, .inr (.inr (.inr (.inr (va_up f_2 ((nI i).toNatClampNeg) (some q23))))))), (q5, .inl (cA6, 60, .inr (.inr (.inr (.inr (fun _ => none)))))), (q7, .inl (cA8, 100, .inr (.inr (.inr (.inr (fun _ => none)))))), (q9, .inl (cA10, 60, .inr (.inr (.inr (.inr (fun _ => none)))))), (q11, .inl (cA12, 100, .inl (fun _ => (0 : Int32)))), (q13, .inl (cA14, 60, .inl (fun _ => (0 : Int32)))), (q23, .inr (7, [.int 0, .int 0, .int 32, .int 0, .long 0, .null, .null, .null, .null, .null, .int 0, .int 0, .int 0, .int 0]))] H := hP
      have hD : va_D A [(h, .inr (8, [.ref q1, .int 0, .int 0, .ref q3, .ref q5, .ref q7, .ref q9, .ref q11, .ref q13])), (q1, .inl (cA2, 3, .inr (.inr (.inr (.inr (fun _ => none)))))), (q3, .inl (cA4, 100, .inr (.inr (.inr (.inr (va_up f_2 ((nI i).toNatClampNeg) (some q23))))))), (q5, .inl (cA6, 60, .inr (.inr (.inr (.inr (fun _ => none)))))), (q7, .inl (cA8, 100, .inr (.inr (.inr (.inr (fun _ => none)))))), (q9, .inl (cA10, 60, .inr (.inr (.inr (.inr (fun _ => none)))))), (q11, .inl (cA12, 100, .inl (fun _ => (0 : Int32)))), (q13, .inl (cA14, 60, .inl (fun _ => (0 : Int32)))), (q23, .inr (7, [.int 0, .int 0, .int 32, .int 0, .long 0, .null, .null, .null, .null, .null, .int 0, .int 0, .int 0, .int 0]))] := hD
      refine lv_iinc (v := (nI (i + 1))) (lv' := [(1, .int (nI (i + 1))), (0, .ref h)]) hx hb dX5_init_89 hl (k := 0) rfl (nI_1 i) (by decide) rfl (fun ls hl => ?_)
      refine lv_goto (tgt := 66) hx hb dX5_init_92 (by decide) ?_
      refine W.widen (k := 7 + 1 * (i + 1)) (n := 483 + 14 * (i + 1)) (by omega) (by omega) ?_
      exact ih (i + 1) (by omega) _ _ _ _ (hP.sub [0, 1, 2, 3, 4, 5, 6, 7] rfl) (hD.sub [0, 1, 2, 3, 4, 5, 6, 7] (by decide) rfl) hS (lv_sub hl [0, 1] rfl)
  exact lp15 100 0 (by omega) _ _ _ _ hP hD hS hl

def wc_X11_init : List Cond := .code yX11_init cX11_init 2 none :: ([.methodLink RX11 1 objectInit, .instanceMethod objectInit, .code objectInit ⟨#[0xb1]⟩ 1 none, .classLink RX11 7 RX7, .instantiable RX7 9, .initialized RX7, .instanceMethod yX7_init, .fieldLink RX11 10 "Sequencepoint" "program" "LSequencepoint$Program;", .classLink RX11 16 RX5, .instantiable RX5 9, .initialized RX5, .methodLink RX11 18 yX5_init, .instanceMethod yX5_init, .fieldLink RX11 19 "Sequencepoint" "optimiser" "LSequencepoint$Optimiser;", .classLink RX11 23 RX1, .instantiable RX1 8, .initialized RX1, .instanceMethod yX1_init, .fieldLink RX11 26 "Sequencepoint" "machine" "LSequencepoint$Machine;", .classLink RX11 30 RX6, .instantiable RX6 7, .initialized RX6, .instanceMethod yX6_init, .fieldLink RX11 33 "Sequencepoint" "last" "LSequencepoint$Outcome;", .fieldLink RX11 37 "Sequencepoint" "tried" "LSequencepoint$Outcome;", .fieldLink RX11 40 "Sequencepoint" "outcomes" "[LSequencepoint$Outcome;"] ++ (wsX70 ++ (wc_X7_init ++ (wsX110 ++ (wsX50 ++ (wc_X5_init ++ (wsX10 ++ (wc_X1_init ++ (wsX60 ++ (wc_X6_init ++ []))))))))))
set_option maxHeartbeats 4000000 in
set_option maxRecDepth 100000 in
theorem c_X11_init (l : Launch) (dC : Nat → ClassId) (dI : Nat → Nat → Nat) (h : Nat) (sz : Nat) : Met l yX11_init wc_X11_init ({ frames := 3, cells := 222, slots := 11368, locals := 56 }) (va_Pc [.ref h] (fun U => U.heap.size = sz ∧ va_P (dC, dI) vwCl [(h, .inr (13, [.null, .null, .null, .null, .null, .null, .long 0]))] U.heap ∧ va_K (dC, dI) vwCl [] U ∧ va_D (fun _ => True) [(h, .inr (13, [.null, .null, .null, .null, .null, .null, .long 0]))] ∧ nw U)) (va_Qv (fun _ : Unit => True) (fun _ t => (∃ a1 : Nat, ∃ a2 : Nat, ∃ a3 : Nat, ∃ a4 : Nat, ∃ a5 : Nat, ∃ a6 : Nat, va_P (dC, dI) vwCl [(h, .inr (13, [.ref a1, .ref a2, .ref a3, .ref a4, .ref a5, .ref a6, .long 0]))] t.heap ∧ va_K (dC, dI) vwCl [] t ∧ va_D (va_A [(h, .inr (13, [.null, .null, .null, .null, .null, .null, .long 0]))] sz) [(h, .inr (13, [.ref a1, .ref a2, .ref a3, .ref a4, .ref a5, .ref a6, .long 0]))])) (va_A [(h, .inr (13, [.null, .null, .null, .null, .null, .null, .long 0]))] sz)) 222 11368 (va_A [(h, .inr (13, [.null, .null, .null, .null, .null, .null, .long 0]))] sz) := by
  refine Met.ofW (cc := cX11_init) (maxL := 2) (ret := none) (by decide) rfl ?_
  intro p e s m args below meth c s₁ B hml hv
  obtain ⟨rfl, hsz, hP, hK, hD0, hH⟩ := hv
  have hx := B.exec
  have hb := B.bytes
  have hr := B.returns
  have hts := atoms_spec (ws := wc_X11_init) B.pre
  have hown : s.vm.findClass RX11 = some m.cls := findClass_of_methodNamed B.named
  have hlocks := B.notSynchronized
  have hin : meth.name = "<init>" := (name_of_methodNamed B.named B.method).1
  subst hsz
  have hD := hD0.self (sz := s.heap.size)
  generalize hAe : va_A [(h, .inr (13, [.null, .null, .null, .null, .null, .null, .long 0]))] s.heap.size = A at hD ⊢
  have hA : ∀ q : Nat, s.heap.size ≤ q → A q := fun q h => by rw [← hAe]; exact Or.inr h
  have hS : va_S A s.heap s.heap [] := va_S.rf
  have hP : va_P (dC, dI) vwCl [(h, .inr (13, [.null, .null, .null, .null, .null, .null, .long 0]))] s.heap := hP
  have hl := lv_entry ([.ref h]) (n := 2) (Nat.le_of_ble_eq_true rfl)
  rw [lg_entry_eq]
  generalize (lg_sl ([.ref h]) ++ List.replicate (2 - (lg_sl ([.ref h])).length) Slot.unset).toArray = ls at hl ⊢
  have hl : lv_has ls 2 [(0, .ref h)] := hl
  refine lv_aload_n hx hb dX11_init_0 rfl (lv_at hl 0 rfl) ?_
  refine W.objInit hx hb hown (hts (.methodLink RX11 1 objectInit) (by decide +kernel)) (hts (.instanceMethod objectInit) (by decide +kernel)) (hts (.code objectInit ⟨#[0xb1]⟩ 1 none) (by decide +kernel)) rfl (by rw [hml]; exact hl.1) rfl dX11_init_1 (Nat.le_of_ble_eq_true rfl) (Nat.le_of_ble_eq_true rfl) ?_
  refine W.eq (g2 := F0 m 4 ls []) rfl ?_
  refine lv_aload_n hx hb dX11_init_4 rfl (lv_at hl 0 rfl) ?_
  refine va_new (ci := 10) (fs := [.null, .null, .null, .null, .null, .int 0, .int 0, .int 0, .int 0]) (C := RX7) (T := TX7) (N := 9) hx hb hts (fun w h => (List.mem_cons_of_mem _ (List.mem_append_right _ (List.mem_append_left _ h)))) tyX7 tyX7_ok hown (hts (.classLink RX11 7 RX7) (by decide +kernel)) (hts (.instantiable RX7 9) (by decide +kernel)) (hts (.initialized RX7) (by decide +kernel)) hK hP hD hS hA rfl (fun j hj => by rcases (show j = 0 ∨ j = 1 ∨ j = 2 ∨ j = 3 ∨ j = 4 ∨ j = 5 ∨ j = 6 ∨ j = 7 ∨ j = 8 by omega) with rfl | rfl | rfl | rfl | rfl | rfl | rfl | rfl | rfl <;> rfl) (Nat.le_of_ble_eq_true rfl) (Nat.le_of_ble_eq_true rfl) dX11_init_5 (fun q1 H hP hD hS => ?_)
  have hP : va_P (dC, dI) vwCl [(h, .inr (13, [.null, .null, .null, .null, .null, .null, .long 0])), (q1, .inr (10, [.null, .null, .null, .null, .null, .int 0, .int 0, .int 0, .int 0]))] H := hP
  have hD : va_D A [(h, .inr (13, [.null, .null, .null, .null, .null, .null, .long 0])), (q1, .inr (10, [.null, .null, .null, .null, .null, .int 0, .int 0, .int 0, .int 0]))] := hD
  refine W.widen (k := 1) (n := 9) (by decide) (by decide) ?_
  refine lv_dup hx hb dX11_init_8 rfl ?_
  have hPc := hP.sub (ws' := [(q1, .inr (10, [.null, .null, .null, .null, .null, .int 0, .int 0, .int 0, .int 0]))]) [1] rfl
  have hKc := hK.sub (tys' := []) [] rfl
  have hDc := hD.sub (ws' := [(q1, .inr (10, [.null, .null, .null, .null, .null, .int 0, .int 0, .int 0, .int 0]))]) [1] (by decide) rfl
  have hFc := va_free (wc := [(q1, .inr (10, [.null, .null, .null, .null, .null, .int 0, .int 0, .int 0, .int 0]))]) hD hS hA [1] rfl
  refine va_callv (va_runIN (As := []) (rest := [.ref q1, .ref h]) ⟨hx, hb, hml, hown, hts⟩ (c_X7_init l dC dI q1 _) (⟨va_cnB (host := RX11) 0 hts (goodIn_sub (ws := wc_X7_init) (fun w h => (List.mem_cons_of_mem _ (List.mem_append_right _ (List.mem_append_right _ (List.mem_append_left _ h))))) (by decide +kernel)) rfl rfl rfl hH.1.1 (hts (.initialized RX7) (by decide +kernel)) (by decide +kernel) ⟨Nat.le_of_ble_eq_true rfl, Nat.le_of_ble_eq_true rfl⟩, rfl, (hts (.instanceMethod yX7_init) (by decide +kernel))⟩) ⟨fun a U g mk q => by obtain ⟨q0, q1, qP, qK, qD, qH⟩ := q; exact ⟨q0, q1, qP, va_K.moved (u := U) (U := U.calling g mk a) (Vm.Alike.refl U.vm) qK, qD, qH.blind a g mk⟩, fun U hU hW => ⟨rfl, by rw [hU], by rw [hU]; exact hPc, va_K.moved hW.alike hKc, hDc.weaken (fun _ _ _ _ => trivial), hH.warm hW⟩⟩ rfl rfl hl.1 rfl (lv_room (Nat.le_of_ble_eq_true rfl)) dX11_init_9 ⟨(Nat.le_of_ble_eq_true rfl), (Nat.le_of_ble_eq_true rfl)⟩) hS (fun q _ h => hFc q h) hFc (fun u t H1 locs ht hvm hw hB hz1 hk1 hS => ?_)
  have hP1 : va_P (dC, dI) vwCl [] H1 := fun k q h => by simp at h
  have hD1 : ∀ B : Nat → Prop, va_D B [] := fun B => ⟨fun i j p q h => by simp at h, fun k q h => by simp at h⟩
  try dsimp only at hw
  obtain ⟨hP, hD⟩ := va_join (wr := [(h, .inr (13, [.null, .null, .null, .null, .null, .null, .long 0]))]) (w1 := []) hP hD [1] [0] rfl rfl (by decide) (by decide) hk1 hFc hP1 (hD1 _)
  generalize H1 = H at hP hS ⊢
  have hP : va_P (dC, dI) vwCl [(h, .inr (13, [.null, .null, .null, .null, .null, .null, .long 0]))] H := hP
  have hD : va_D A [(h, .inr (13, [.null, .null, .null, .null, .null, .null, .long 0]))] := hD
  refine va_putF (D := (dC, dI)) (ci := 13) (v := .ref q1) (ty := (tyX11 0)) (C := RX11) (T := TX11) (N := 7) hx hb hts (fun w h => (List.mem_cons_of_mem _ (List.mem_append_right _ (List.mem_append_right _ (List.mem_append_right _ (List.mem_append_left _ h)))))) tyX11 tyX11_ok nmX11 hown hK hP hD hS 0 rfl rfl 0 (by decide) (hts (.fieldLink RX11 10 "Sequencepoint" "program" "LSequencepoint$Program;") (by decide +kernel)) (fun _ h9 => h9) rfl hin rfl (by decide +kernel) rfl rfl (Nat.le_of_ble_eq_true rfl) dX11_init_12 (fun H locs hP hD hS => ?_)
  have hP : va_P (dC, dI) vwCl [(h, .inr (13, [.ref q1, .null, .null, .null, .null, .null, .long 0]))] H := hP
  have hD : va_D A [(h, .inr (13, [.ref q1, .null, .null, .null, .null, .null, .long 0]))] := hD
  refine lv_aload_n hx hb dX11_init_15 rfl (lv_at hl 0 rfl) ?_
  refine va_new (ci := 8) (fs := [.null, .int 0, .int 0, .null, .null, .null, .null, .null, .null]) (C := RX5) (T := TX5) (N := 9) hx hb hts (fun w h => (List.mem_cons_of_mem _ (List.mem_append_right _ (List.mem_append_right _ (List.mem_append_right _ (List.mem_append_right _ (List.mem_append_left _ h))))))) tyX5 tyX5_ok hown (hts (.classLink RX11 16 RX5) (by decide +kernel)) (hts (.instantiable RX5 9) (by decide +kernel)) (hts (.initialized RX5) (by decide +kernel)) hK hP hD hS hA rfl (fun j hj => by rcases (show j = 0 ∨ j = 1 ∨ j = 2 ∨ j = 3 ∨ j = 4 ∨ j = 5 ∨ j = 6 ∨ j = 7 ∨ j = 8 by omega) with rfl | rfl | rfl | rfl | rfl | rfl | rfl | rfl | rfl <;> rfl) (Nat.le_of_ble_eq_true rfl) (Nat.le_of_ble_eq_true rfl) dX11_init_16 (fun q3 H hP hD hS => ?_)
  have hP : va_P (dC, dI) vwCl [(h, .inr (13, [.ref q1, .null, .null, .null, .null, .null, .long 0])), (q3, .inr (8, [.null, .int 0, .int 0, .null, .null, .null, .null, .null, .null]))] H := hP
  have hD : va_D A [(h, .inr (13, [.ref q1, .null, .null, .null, .null, .null, .long 0])), (q3, .inr (8, [.null, .int 0, .int 0, .null, .null, .null, .null, .null, .null]))] := hD
  refine W.widen (k := 7) (n := 294) (by decide) (by decide) ?_
  refine lv_dup hx hb dX11_init_19 rfl ?_
  have hPc := hP.sub (ws' := [(q3, .inr (8, [.null, .int 0, .int 0, .null, .null, .null, .null, .null, .null]))]) [1] rfl
  have hKc := hK.sub (tys' := []) [] rfl
  have hDc := hD.sub (ws' := [(q3, .inr (8, [.null, .int 0, .int 0, .null, .null, .null, .null, .null, .null]))]) [1] (by decide) rfl
  have hFc := va_free (wc := [(q3, .inr (8, [.null, .int 0, .int 0, .null, .null, .null, .null, .null, .null]))]) hD hS hA [1] rfl
  refine va_callv (va_runI (As := []) (rest := [.ref q3, .ref h]) ⟨hx, hb, hml, hown, hts⟩ (c_X5_init l dC dI q3 _) (cwI 0 hts (goodIn_sub (ws := wc_X5_init) (fun w h => (List.mem_cons_of_mem _ (List.mem_append_right _ (List.mem_append_right _ (List.mem_append_right _ (List.mem_append_right _ (List.mem_append_right _ (List.mem_append_left _ h)))))))) (by decide +kernel)) rfl rfl rfl (hts (.initialized RX5) (by decide +kernel)) (hts (.methodLink RX11 18 yX5_init) (by decide +kernel)) (hts (.instanceMethod yX5_init) (by decide +kernel)) rfl (by decide +kernel) ⟨Nat.le_of_ble_eq_true rfl, Nat.le_of_ble_eq_true rfl⟩) ⟨fun a U g mk q => by obtain ⟨q0, q1, qP, qK, qD, qH⟩ := q; exact ⟨q0, q1, qP, va_K.moved (u := U) (U := U.calling g mk a) (Vm.Alike.refl U.vm) qK, qD, qH.blind a g mk⟩, fun U hU hW => ⟨rfl, by rw [hU], by rw [hU]; exact hPc, va_K.moved hW.alike hKc, hDc.weaken (fun _ _ _ _ => trivial), hH.warm hW⟩⟩ rfl rfl hl.1 rfl (lv_room (Nat.le_of_ble_eq_true rfl)) dX11_init_20 ⟨(Nat.le_of_ble_eq_true rfl), (Nat.le_of_ble_eq_true rfl)⟩) hS (fun q _ h => hFc q h) hFc (fun u t H1 locs ht hvm hw hB hz1 hk1 hS => ?_)
  have hP1 : va_P (dC, dI) vwCl [] H1 := fun k q h => by simp at h
  have hD1 : ∀ B : Nat → Prop, va_D B [] := fun B => ⟨fun i j p q h => by simp at h, fun k q h => by simp at h⟩
  try dsimp only at hw
  obtain ⟨hP, hD⟩ := va_join (wr := [(h, .inr (13, [.ref q1, .null, .null, .null, .null, .null, .long 0]))]) (w1 := []) hP hD [1] [0] rfl rfl (by decide) (by decide) hk1 hFc hP1 (hD1 _)
  generalize H1 = H at hP hS ⊢
  have hP : va_P (dC, dI) vwCl [(h, .inr (13, [.ref q1, .null, .null, .null, .null, .null, .long 0]))] H := hP
  have hD : va_D A [(h, .inr (13, [.ref q1, .null, .null, .null, .null, .null, .long 0]))] := hD
  refine va_putF (D := (dC, dI)) (ci := 13) (v := .ref q3) (ty := (tyX11 1)) (C := RX11) (T := TX11) (N := 7) hx hb hts (fun w h => (List.mem_cons_of_mem _ (List.mem_append_right _ (List.mem_append_right _ (List.mem_append_right _ (List.mem_append_left _ h)))))) tyX11 tyX11_ok nmX11 hown hK hP hD hS 0 rfl rfl 1 (by decide) (hts (.fieldLink RX11 19 "Sequencepoint" "optimiser" "LSequencepoint$Optimiser;") (by decide +kernel)) (fun _ h9 => h9) rfl hin rfl (by decide +kernel) rfl rfl (Nat.le_of_ble_eq_true rfl) dX11_init_23 (fun H locs hP hD hS => ?_)
  have hP : va_P (dC, dI) vwCl [(h, .inr (13, [.ref q1, .ref q3, .null, .null, .null, .null, .long 0]))] H := hP
  have hD : va_D A [(h, .inr (13, [.ref q1, .ref q3, .null, .null, .null, .null, .long 0]))] := hD
  refine lv_aload_n hx hb dX11_init_26 rfl (lv_at hl 0 rfl) ?_
  refine va_new (ci := 5) (fs := [.null, .null, .null, .null, .int 0, .int 0, .int 0, .long 0]) (C := RX1) (T := TX1) (N := 8) hx hb hts (fun w h => (List.mem_cons_of_mem _ (List.mem_append_right _ (List.mem_append_right _ (List.mem_append_right _ (List.mem_append_right _ (List.mem_append_right _ (List.mem_append_right _ (List.mem_append_left _ h))))))))) tyX1 tyX1_ok hown (hts (.classLink RX11 23 RX1) (by decide +kernel)) (hts (.instantiable RX1 8) (by decide +kernel)) (hts (.initialized RX1) (by decide +kernel)) hK hP hD hS hA rfl (fun j hj => by rcases (show j = 0 ∨ j = 1 ∨ j = 2 ∨ j = 3 ∨ j = 4 ∨ j = 5 ∨ j = 6 ∨ j = 7 by omega) with rfl | rfl | rfl | rfl | rfl | rfl | rfl | rfl <;> rfl) (Nat.le_of_ble_eq_true rfl) (Nat.le_of_ble_eq_true rfl) dX11_init_27 (fun q5 H hP hD hS => ?_)
  have hP : va_P (dC, dI) vwCl [(h, .inr (13, [.ref q1, .ref q3, .null, .null, .null, .null, .long 0])), (q5, .inr (5, [.null, .null, .null, .null, .int 0, .int 0, .int 0, .long 0]))] H := hP
  have hD : va_D A [(h, .inr (13, [.ref q1, .ref q3, .null, .null, .null, .null, .long 0])), (q5, .inr (5, [.null, .null, .null, .null, .int 0, .int 0, .int 0, .long 0]))] := hD
  refine W.widen (k := 175) (n := 2725) (by decide) (by decide) ?_
  refine lv_dup hx hb dX11_init_30 rfl ?_
  have hPc := hP.sub (ws' := [(q5, .inr (5, [.null, .null, .null, .null, .int 0, .int 0, .int 0, .long 0]))]) [1] rfl
  have hKc := hK.sub (tys' := []) [] rfl
  have hDc := hD.sub (ws' := [(q5, .inr (5, [.null, .null, .null, .null, .int 0, .int 0, .int 0, .long 0]))]) [1] (by decide) rfl
  have hFc := va_free (wc := [(q5, .inr (5, [.null, .null, .null, .null, .int 0, .int 0, .int 0, .long 0]))]) hD hS hA [1] rfl
  refine va_callv (va_runIN (As := []) (rest := [.ref q5, .ref h]) ⟨hx, hb, hml, hown, hts⟩ (c_X1_init l dC dI q5 _) (⟨va_cnB (host := RX11) 0 hts (goodIn_sub (ws := wc_X1_init) (fun w h => (List.mem_cons_of_mem _ (List.mem_append_right _ (List.mem_append_right _ (List.mem_append_right _ (List.mem_append_right _ (List.mem_append_right _ (List.mem_append_right _ (List.mem_append_right _ (List.mem_append_left _ h)))))))))) (by decide +kernel)) rfl rfl rfl hH.1.2.1 (hts (.initialized RX1) (by decide +kernel)) (by decide +kernel) ⟨Nat.le_of_ble_eq_true rfl, Nat.le_of_ble_eq_true rfl⟩, rfl, (hts (.instanceMethod yX1_init) (by decide +kernel))⟩) ⟨fun a U g mk q => by obtain ⟨q0, q1, qP, qK, qD, qH⟩ := q; exact ⟨q0, q1, qP, va_K.moved (u := U) (U := U.calling g mk a) (Vm.Alike.refl U.vm) qK, qD, qH.blind a g mk⟩, fun U hU hW => ⟨rfl, by rw [hU], by rw [hU]; exact hPc, va_K.moved hW.alike hKc, hDc.weaken (fun _ _ _ _ => trivial), hH.warm hW⟩⟩ rfl rfl hl.1 rfl (lv_room (Nat.le_of_ble_eq_true rfl)) dX11_init_31 ⟨(Nat.le_of_ble_eq_true rfl), (Nat.le_of_ble_eq_true rfl)⟩) hS (fun q _ h => hFc q h) hFc (fun u t H1 locs ht hvm hw hB hz1 hk1 hS => ?_)
  have hP1 : va_P (dC, dI) vwCl [] H1 := fun k q h => by simp at h
  have hD1 : ∀ B : Nat → Prop, va_D B [] := fun B => ⟨fun i j p q h => by simp at h, fun k q h => by simp at h⟩
  try dsimp only at hw
  obtain ⟨hP, hD⟩ := va_join (wr := [(h, .inr (13, [.ref q1, .ref q3, .null, .null, .null, .null, .long 0]))]) (w1 := []) hP hD [1] [0] rfl rfl (by decide) (by decide) hk1 hFc hP1 (hD1 _)
  generalize H1 = H at hP hS ⊢
  have hP : va_P (dC, dI) vwCl [(h, .inr (13, [.ref q1, .ref q3, .null, .null, .null, .null, .long 0]))] H := hP
  have hD : va_D A [(h, .inr (13, [.ref q1, .ref q3, .null, .null, .null, .null, .long 0]))] := hD
  refine va_putF (D := (dC, dI)) (ci := 13) (v := .ref q5) (ty := (tyX11 2)) (C := RX11) (T := TX11) (N := 7) hx hb hts (fun w h => (List.mem_cons_of_mem _ (List.mem_append_right _ (List.mem_append_right _ (List.mem_append_right _ (List.mem_append_left _ h)))))) tyX11 tyX11_ok nmX11 hown hK hP hD hS 0 rfl rfl 2 (by decide) (hts (.fieldLink RX11 26 "Sequencepoint" "machine" "LSequencepoint$Machine;") (by decide +kernel)) (fun _ h9 => h9) rfl hin rfl (by decide +kernel) rfl rfl (Nat.le_of_ble_eq_true rfl) dX11_init_34 (fun H locs hP hD hS => ?_)
  have hP : va_P (dC, dI) vwCl [(h, .inr (13, [.ref q1, .ref q3, .ref q5, .null, .null, .null, .long 0]))] H := hP
  have hD : va_D A [(h, .inr (13, [.ref q1, .ref q3, .ref q5, .null, .null, .null, .long 0]))] := hD
  refine lv_aload_n hx hb dX11_init_37 rfl (lv_at hl 0 rfl) ?_
  refine va_new (ci := 9) (fs := [.int 0, .int 0, .int 0, .int 0, .int 0, .int 0, .null]) (C := RX6) (T := TX6) (N := 7) hx hb hts (fun w h => (List.mem_cons_of_mem _ (List.mem_append_right _ (List.mem_append_right _ (List.mem_append_right _ (List.mem_append_right _ (List.mem_append_right _ (List.mem_append_right _ (List.mem_append_right _ (List.mem_append_right _ (List.mem_append_left _ h))))))))))) tyX6 tyX6_ok hown (hts (.classLink RX11 30 RX6) (by decide +kernel)) (hts (.instantiable RX6 7) (by decide +kernel)) (hts (.initialized RX6) (by decide +kernel)) hK hP hD hS hA rfl (fun j hj => by rcases (show j = 0 ∨ j = 1 ∨ j = 2 ∨ j = 3 ∨ j = 4 ∨ j = 5 ∨ j = 6 by omega) with rfl | rfl | rfl | rfl | rfl | rfl | rfl <;> rfl) (Nat.le_of_ble_eq_true rfl) (Nat.le_of_ble_eq_true rfl) dX11_init_38 (fun q7 H hP hD hS => ?_)
  have hP : va_P (dC, dI) vwCl [(h, .inr (13, [.ref q1, .ref q3, .ref q5, .null, .null, .null, .long 0])), (q7, .inr (9, [.int 0, .int 0, .int 0, .int 0, .int 0, .int 0, .null]))] H := hP
  have hD : va_D A [(h, .inr (13, [.ref q1, .ref q3, .ref q5, .null, .null, .null, .long 0])), (q7, .inr (9, [.int 0, .int 0, .int 0, .int 0, .int 0, .int 0, .null]))] := hD
  refine W.widen (k := 186) (n := 9793) (by decide) (by decide) ?_
  refine lv_dup hx hb dX11_init_41 rfl ?_
  have hPc := hP.sub (ws' := [(q7, .inr (9, [.int 0, .int 0, .int 0, .int 0, .int 0, .int 0, .null]))]) [1] rfl
  have hKc := hK.sub (tys' := []) [] rfl
  have hDc := hD.sub (ws' := [(q7, .inr (9, [.int 0, .int 0, .int 0, .int 0, .int 0, .int 0, .null]))]) [1] (by decide) rfl
  have hFc := va_free (wc := [(q7, .inr (9, [.int 0, .int 0, .int 0, .int 0, .int 0, .int 0, .null]))]) hD hS hA [1] rfl
  refine va_callv (va_runIN (As := []) (rest := [.ref q7, .ref h]) ⟨hx, hb, hml, hown, hts⟩ (c_X6_init l dC dI q7 _) (⟨va_cnB (host := RX11) 0 hts (goodIn_sub (ws := wc_X6_init) (fun w h => (List.mem_cons_of_mem _ (List.mem_append_right _ (List.mem_append_right _ (List.mem_append_right _ (List.mem_append_right _ (List.mem_append_right _ (List.mem_append_right _ (List.mem_append_right _ (List.mem_append_right _ (List.mem_append_right _ (List.mem_append_left _ h)))))))))))) (by decide +kernel)) rfl rfl rfl hH.1.2.2.1 (hts (.initialized RX6) (by decide +kernel)) (by decide +kernel) ⟨Nat.le_of_ble_eq_true rfl, Nat.le_of_ble_eq_true rfl⟩, rfl, (hts (.instanceMethod yX6_init) (by decide +kernel))⟩) ⟨fun a U g mk q => by obtain ⟨q0, q1, qP, qK, qD⟩ := q; exact ⟨q0, q1, qP, va_K.moved (u := U) (U := U.calling g mk a) (Vm.Alike.refl U.vm) qK, qD⟩, fun U hU hW => ⟨rfl, by rw [hU], by rw [hU]; exact hPc, va_K.moved hW.alike hKc, hDc.weaken (fun _ _ _ _ => trivial)⟩⟩ rfl rfl hl.1 rfl (lv_room (Nat.le_of_ble_eq_true rfl)) dX11_init_42 ⟨(Nat.le_of_ble_eq_true rfl), (Nat.le_of_ble_eq_true rfl)⟩) hS (fun q _ h => hFc q h) hFc (fun u t H1 locs ht hvm hw hB hz1 hk1 hS => ?_)
  obtain ⟨tx_9, hP1, hK1, hD1⟩ := hB
  rw [ht] at hP1
  have hK1 := va_K.moved hvm.symm hK1
  try dsimp only at hw
  obtain ⟨hP, hD⟩ := va_join (wr := [(h, .inr (13, [.ref q1, .ref q3, .ref q5, .null, .null, .null, .long 0]))]) (w1 := [(q7, .inr (9, [.int 32, .int 32, .int 0, .int 0, .int 0, .int 0, .ref tx_9]))]) hP hD [1] [0] rfl rfl (by decide) (by decide) hk1 hFc hP1 hD1
  generalize H1 = H at hP hS ⊢
  have hP : va_P (dC, dI) vwCl [(h, .inr (13, [.ref q1, .ref q3, .ref q5, .null, .null, .null, .long 0])), (q7, .inr (9, [.int 32, .int 32, .int 0, .int 0, .int 0, .int 0, .ref tx_9]))] H := hP
  have hD : va_D A [(h, .inr (13, [.ref q1, .ref q3, .ref q5, .null, .null, .null, .long 0])), (q7, .inr (9, [.int 32, .int 32, .int 0, .int 0, .int 0, .int 0, .ref tx_9]))] := hD
  refine va_putF (D := (dC, dI)) (ci := 13) (v := .ref q7) (ty := (tyX11 3)) (C := RX11) (T := TX11) (N := 7) hx hb hts (fun w h => (List.mem_cons_of_mem _ (List.mem_append_right _ (List.mem_append_right _ (List.mem_append_right _ (List.mem_append_left _ h)))))) tyX11 tyX11_ok nmX11 hown hK hP hD hS 0 rfl rfl 3 (by decide) (hts (.fieldLink RX11 33 "Sequencepoint" "last" "LSequencepoint$Outcome;") (by decide +kernel)) (fun _ h9 => h9) rfl hin rfl (by decide +kernel) rfl rfl (Nat.le_of_ble_eq_true rfl) dX11_init_45 (fun H locs hP hD hS => ?_)
  have hP : va_P (dC, dI) vwCl [(h, .inr (13, [.ref q1, .ref q3, .ref q5, .ref q7, .null, .null, .long 0])), (q7, .inr (9, [.int 32, .int 32, .int 0, .int 0, .int 0, .int 0, .ref tx_9]))] H := hP
  have hD : va_D A [(h, .inr (13, [.ref q1, .ref q3, .ref q5, .ref q7, .null, .null, .long 0])), (q7, .inr (9, [.int 32, .int 32, .int 0, .int 0, .int 0, .int 0, .ref tx_9]))] := hD
  refine lv_aload_n hx hb dX11_init_48 rfl (lv_at hl 0 rfl) ?_
  refine va_new (ci := 9) (fs := [.int 0, .int 0, .int 0, .int 0, .int 0, .int 0, .null]) (C := RX6) (T := TX6) (N := 7) hx hb hts (fun w h => (List.mem_cons_of_mem _ (List.mem_append_right _ (List.mem_append_right _ (List.mem_append_right _ (List.mem_append_right _ (List.mem_append_right _ (List.mem_append_right _ (List.mem_append_right _ (List.mem_append_right _ (List.mem_append_left _ h))))))))))) tyX6 tyX6_ok hown (hts (.classLink RX11 30 RX6) (by decide +kernel)) (hts (.instantiable RX6 7) (by decide +kernel)) (hts (.initialized RX6) (by decide +kernel)) hK hP hD hS hA rfl (fun j hj => by rcases (show j = 0 ∨ j = 1 ∨ j = 2 ∨ j = 3 ∨ j = 4 ∨ j = 5 ∨ j = 6 by omega) with rfl | rfl | rfl | rfl | rfl | rfl | rfl <;> rfl) (Nat.le_of_ble_eq_true rfl) (Nat.le_of_ble_eq_true rfl) dX11_init_49 (fun q10 H hP hD hS => ?_)
  have hP : va_P (dC, dI) vwCl [(h, .inr (13, [.ref q1, .ref q3, .ref q5, .ref q7, .null, .null, .long 0])), (q7, .inr (9, [.int 32, .int 32, .int 0, .int 0, .int 0, .int 0, .ref tx_9])), (q10, .inr (9, [.int 0, .int 0, .int 0, .int 0, .int 0, .int 0, .null]))] H := hP
  have hD : va_D A [(h, .inr (13, [.ref q1, .ref q3, .ref q5, .ref q7, .null, .null, .long 0])), (q7, .inr (9, [.int 32, .int 32, .int 0, .int 0, .int 0, .int 0, .ref tx_9])), (q10, .inr (9, [.int 0, .int 0, .int 0, .int 0, .int 0, .int 0, .null]))] := hD
  refine W.widen (k := 188) (n := 9880) (by decide) (by decide) ?_
  refine lv_dup hx hb dX11_init_52 rfl ?_
  have hPc := hP.sub (ws' := [(q10, .inr (9, [.int 0, .int 0, .int 0, .int 0, .int 0, .int 0, .null]))]) [2] rfl
  have hKc := hK.sub (tys' := []) [] rfl
  have hDc := hD.sub (ws' := [(q10, .inr (9, [.int 0, .int 0, .int 0, .int 0, .int 0, .int 0, .null]))]) [2] (by decide) rfl
  have hFc := va_free (wc := [(q10, .inr (9, [.int 0, .int 0, .int 0, .int 0, .int 0, .int 0, .null]))]) hD hS hA [2] rfl
  refine va_callv (va_runIN (As := []) (rest := [.ref q10, .ref h]) ⟨hx, hb, hml, hown, hts⟩ (c_X6_init l dC dI q10 _) (⟨va_cnB (host := RX11) 0 hts (goodIn_sub (ws := wc_X6_init) (fun w h => (List.mem_cons_of_mem _ (List.mem_append_right _ (List.mem_append_right _ (List.mem_append_right _ (List.mem_append_right _ (List.mem_append_right _ (List.mem_append_right _ (List.mem_append_right _ (List.mem_append_right _ (List.mem_append_right _ (List.mem_append_left _ h)))))))))))) (by decide +kernel)) rfl rfl rfl hH.1.2.2.1 (hts (.initialized RX6) (by decide +kernel)) (by decide +kernel) ⟨Nat.le_of_ble_eq_true rfl, Nat.le_of_ble_eq_true rfl⟩, rfl, (hts (.instanceMethod yX6_init) (by decide +kernel))⟩) ⟨fun a U g mk q => by obtain ⟨q0, q1, qP, qK, qD⟩ := q; exact ⟨q0, q1, qP, va_K.moved (u := U) (U := U.calling g mk a) (Vm.Alike.refl U.vm) qK, qD⟩, fun U hU hW => ⟨rfl, by rw [hU], by rw [hU]; exact hPc, va_K.moved hW.alike hKc, hDc.weaken (fun _ _ _ _ => trivial)⟩⟩ rfl rfl hl.1 rfl (lv_room (Nat.le_of_ble_eq_true rfl)) dX11_init_53 ⟨(Nat.le_of_ble_eq_true rfl), (Nat.le_of_ble_eq_true rfl)⟩) hS (fun q _ h => hFc q h) hFc (fun u t H1 locs ht hvm hw hB hz1 hk1 hS => ?_)
  obtain ⟨tx_12, hP1, hK1, hD1⟩ := hB
  rw [ht] at hP1
  have hK1 := va_K.moved hvm.symm hK1
  try dsimp only at hw
  obtain ⟨hP, hD⟩ := va_join (wr := [(h, .inr (13, [.ref q1, .ref q3, .ref q5, .ref q7, .null, .null, .long 0])), (q7, .inr (9, [.int 32, .int 32, .int 0, .int 0, .int 0, .int 0, .ref tx_9]))]) (w1 := [(q10, .inr (9, [.int 32, .int 32, .int 0, .int 0, .int 0, .int 0, .ref tx_12]))]) hP hD [2] [0, 1] rfl rfl (by decide) (by decide) hk1 hFc hP1 hD1
  generalize H1 = H at hP hS ⊢
  have hP : va_P (dC, dI) vwCl [(h, .inr (13, [.ref q1, .ref q3, .ref q5, .ref q7, .null, .null, .long 0])), (q7, .inr (9, [.int 32, .int 32, .int 0, .int 0, .int 0, .int 0, .ref tx_9])), (q10, .inr (9, [.int 32, .int 32, .int 0, .int 0, .int 0, .int 0, .ref tx_12]))] H := hP
  have hD : va_D A [(h, .inr (13, [.ref q1, .ref q3, .ref q5, .ref q7, .null, .null, .long 0])), (q7, .inr (9, [.int 32, .int 32, .int 0, .int 0, .int 0, .int 0, .ref tx_9])), (q10, .inr (9, [.int 32, .int 32, .int 0, .int 0, .int 0, .int 0, .ref tx_12]))] := hD
  refine va_putF (D := (dC, dI)) (ci := 13) (v := .ref q10) (ty := (tyX11 4)) (C := RX11) (T := TX11) (N := 7) hx hb hts (fun w h => (List.mem_cons_of_mem _ (List.mem_append_right _ (List.mem_append_right _ (List.mem_append_right _ (List.mem_append_left _ h)))))) tyX11 tyX11_ok nmX11 hown hK hP hD hS 0 rfl rfl 4 (by decide) (hts (.fieldLink RX11 37 "Sequencepoint" "tried" "LSequencepoint$Outcome;") (by decide +kernel)) (fun _ h9 => h9) rfl hin rfl (by decide +kernel) rfl rfl (Nat.le_of_ble_eq_true rfl) dX11_init_56 (fun H locs hP hD hS => ?_)
  have hP : va_P (dC, dI) vwCl [(h, .inr (13, [.ref q1, .ref q3, .ref q5, .ref q7, .ref q10, .null, .long 0])), (q7, .inr (9, [.int 32, .int 32, .int 0, .int 0, .int 0, .int 0, .ref tx_9])), (q10, .inr (9, [.int 32, .int 32, .int 0, .int 0, .int 0, .int 0, .ref tx_12]))] H := hP
  have hD : va_D A [(h, .inr (13, [.ref q1, .ref q3, .ref q5, .ref q7, .ref q10, .null, .long 0])), (q7, .inr (9, [.int 32, .int 32, .int 0, .int 0, .int 0, .int 0, .ref tx_9])), (q10, .inr (9, [.int 32, .int 32, .int 0, .int 0, .int 0, .int 0, .ref tx_12]))] := hD
  refine lv_aload_n hx hb dX11_init_59 rfl (lv_at hl 0 rfl) ?_
  refine lv_bipush (v := 16) hx hb dX11_init_60 (by decide) ?_
  refine va_newq (C := RX6) (N' := 16) hx hb hown (hts (.classLink RX11 30 RX6) (by decide +kernel)) hH.2.2.2.2.2 hK hP hD hS hA (by decide) (by decide) (Nat.le_of_ble_eq_true rfl) (Nat.le_of_ble_eq_true rfl) (Nat.le_of_ble_eq_true rfl) dX11_init_62 (fun q13 cA14 H hK hP hD hS => ?_)
  have hK : va_K (dC, dI) vwCl [(cA14, .object "Sequencepoint$Outcome")] s := hK
  have hP : va_P (dC, dI) vwCl [(h, .inr (13, [.ref q1, .ref q3, .ref q5, .ref q7, .ref q10, .null, .long 0])), (q7, .inr (9, [.int 32, .int 32, .int 0, .int 0, .int 0, .int 0, .ref tx_9])), (q10, .inr (9, [.int 32, .int 32, .int 0, .int 0, .int 0, .int 0, .ref tx_12])), (q13, .inl (cA14, 16, .inr (.inr (.inr (.inr (fun _ => none))))))] H := hP
  have hD : va_D A [(h, .inr (13, [.ref q1, .ref q3, .ref q5, .ref q7, .ref q10, .null, .long 0])), (q7, .inr (9, [.int 32, .int 32, .int 0, .int 0, .int 0, .int 0, .ref tx_9])), (q10, .inr (9, [.int 32, .int 32, .int 0, .int 0, .int 0, .int 0, .ref tx_12])), (q13, .inl (cA14, 16, .inr (.inr (.inr (.inr (fun _ => none))))))] := hD
  refine W.widen (k := 190) (n := 9976) (by decide) (by decide) ?_
  refine va_putF (D := (dC, dI)) (ci := 13) (v := .ref q13) (ty := (tyX11 5)) (C := RX11) (T := TX11) (N := 7) hx hb hts (fun w h => (List.mem_cons_of_mem _ (List.mem_append_right _ (List.mem_append_right _ (List.mem_append_right _ (List.mem_append_left _ h)))))) tyX11 tyX11_ok nmX11 hown hK hP hD hS 0 rfl rfl 5 (by decide) (hts (.fieldLink RX11 40 "Sequencepoint" "outcomes" "[LSequencepoint$Outcome;") (by decide +kernel)) (fun _ h9 => h9) rfl hin rfl (by decide +kernel) rfl rfl (Nat.le_of_ble_eq_true rfl) dX11_init_65 (fun H locs hP hD hS => ?_)
  have hP : va_P (dC, dI) vwCl [(h, .inr (13, [.ref q1, .ref q3, .ref q5, .ref q7, .ref q10, .ref q13, .long 0])), (q7, .inr (9, [.int 32, .int 32, .int 0, .int 0, .int 0, .int 0, .ref tx_9])), (q10, .inr (9, [.int 32, .int 32, .int 0, .int 0, .int 0, .int 0, .ref tx_12])), (q13, .inl (cA14, 16, .inr (.inr (.inr (.inr (fun _ => none))))))] H := hP
  have hD : va_D A [(h, .inr (13, [.ref q1, .ref q3, .ref q5, .ref q7, .ref q10, .ref q13, .long 0])), (q7, .inr (9, [.int 32, .int 32, .int 0, .int 0, .int 0, .int 0, .ref tx_9])), (q10, .inr (9, [.int 32, .int 32, .int 0, .int 0, .int 0, .int 0, .ref tx_12])), (q13, .inl (cA14, 16, .inr (.inr (.inr (.inr (fun _ => none))))))] := hD
  refine lv_iconst (v := 0) hx hb dX11_init_68 (by decide) ?_
  refine lv_istore_n (lv' := [(1, .int 0), (0, .ref h)]) hx hb dX11_init_69 rfl hl (by decide) rfl (fun ls hl => ?_)
  generalize hQlp15 : (MQ below _ _ _ _ _ _) = Q
  have lp15 : ∀ (n i : Nat), i + n = 16 → ∀ (f_3 : Nat → Option Nat) (H : Heap) (locs : List Loc) (ls : Array Slot), va_P (dC, dI) vwCl [(h, .inr (13, [.ref q1, .ref q3, .ref q5, .ref q7, .ref q10, .ref q13, .long 0])), (q7, .inr (9, [.int 32, .int 32, .int 0, .int 0, .int 0, .int 0, .ref tx_9])), (q10, .inr (9, [.int 32, .int 32, .int 0, .int 0, .int 0, .int 0, .ref tx_12])), (q13, .inl (cA14, 16, .inr (.inr (.inr (.inr f_3)))))] H → va_D A [(h, .inr (13, [.ref q1, .ref q3, .ref q5, .ref q7, .ref q10, .ref q13, .long 0])), (q7, .inr (9, [.int 32, .int 32, .int 0, .int 0, .int 0, .int 0, .ref tx_9])), (q10, .inr (9, [.int 32, .int 32, .int 0, .int 0, .int 0, .int 0, .ref tx_12])), (q13, .inl (cA14, 16, .inr (.inr (.inr (.inr f_3)))))] → va_S A s.heap H locs → lv_has ls 2 [(1, .int (nI i)), (0, .ref h)] → W p l e (headSpec wc_X11_init ({ frames := 3, cells := 222, slots := 11368, locals := 56 })).room s m #[.ref h] below meth c H locs (190 + 2 * i) (9976 + 87 * i) Q (F0 m 70 ls []) := by
    intro n
    induction n with
    | zero =>
      intro i hi f_3 H locs ls hP hD hS hl
      obtain rfl : i = 16 := by omega
      rw [show 190 + 2 * 16 = 222 from rfl, show 9976 + 87 * 16 = 11368 from rfl]
      rw [← hQlp15]
      refine lv_iload_n hx hb dX11_init_70 rfl (lv_at hl 0 rfl) ?_
      refine lv_bipush (v := 16) hx hb dX11_init_71 (by decide) ?_
      refine lv_icmp_ge (tgt := 95) hx hb dX11_init_73 (by decide) (fun c_16 => ?_) (fun c_16 => absurd (by decide) c_16)
      have hP9 := hP.sub (ws' := [(h, .inr (13, [.ref q1, .ref q3, .ref q5, .ref q7, .ref q10, .ref q13, .long 0]))]) [0] rfl
      have hD9 := hD.sub (ws' := [(h, .inr (13, [.ref q1, .ref q3, .ref q5, .ref q7, .ref q10, .ref q13, .long 0]))]) [0] (by decide) rfl
      have hK9 := hK.sub (tys' := []) [] rfl
      exact W.vret hx hb hr (fun t ht hW => ⟨⟨(), rfl, trivial, ⟨q1, q3, q5, q7, q10, q13, by rw [ht]; exact hP9, va_K.moved hW.alike hK9, hD9⟩⟩, hS.F ht⟩) hS.2.2 dX11_init_95
    | succ n ih =>
      intro i hi f_3 H locs ls hP hD hS hl
      refine lv_iload_n hx hb dX11_init_70 rfl (lv_at hl 0 rfl) ?_
      refine lv_bipush (v := 16) hx hb dX11_init_71 (by decide) ?_
      refine lv_icmp_ge (tgt := 95) hx hb dX11_init_73 (by decide) (fun c_17 => absurd c_17 (nI_ge (b := 16) (by omega) (by decide))) (fun c_17 => ?_)
      refine lv_aload_n hx hb dX11_init_76 rfl (lv_at hl 1 rfl) ?_
      refine va_get (D := (dC, dI)) (ci := 13) (v := .ref q13) (C := RX11) (T := TX11) (N := 7) hx hb hts (fun w h => (List.mem_cons_of_mem _ (List.mem_append_right _ (List.mem_append_right _ (List.mem_append_right _ (List.mem_append_left _ h)))))) hown hK hP 0 rfl rfl 5 (by decide) (hts (.fieldLink RX11 40 "Sequencepoint" "outcomes" "[LSequencepoint$Outcome;") (by decide +kernel)) (fun _ h9 => h9) rfl dX11_init_77 ?_
      refine lv_iload_n hx hb dX11_init_80 rfl (lv_at hl 0 rfl) ?_
      refine va_new (ci := 9) (fs := [.int 0, .int 0, .int 0, .int 0, .int 0, .int 0, .null]) (C := RX6) (T := TX6) (N := 7) hx hb hts (fun w h => (List.mem_cons_of_mem _ (List.mem_append_right _ (List.mem_append_right _ (List.mem_append_right _ (List.mem_append_right _ (List.mem_append_right _ (List.mem_append_right _ (List.mem_append_right _ (List.mem_append_right _ (List.mem_append_left _ h))))))))))) tyX6 tyX6_ok hown (hts (.classLink RX11 30 RX6) (by decide +kernel)) (hts (.instantiable RX6 7) (by decide +kernel)) (hts (.initialized RX6) (by decide +kernel)) hK hP hD hS hA rfl (fun j hj => by rcases (show j = 0 ∨ j = 1 ∨ j = 2 ∨ j = 3 ∨ j = 4 ∨ j = 5 ∨ j = 6 by omega) with rfl | rfl | rfl | rfl | rfl | rfl | rfl <;> rfl) (show 190 + 2 * i + 1 ≤ 222 by omega) (show 9976 + 87 * i + 7 ≤ 11368 by omega) dX11_init_81 (fun q18 H hP hD hS => ?_)
      have hP : va_P (dC, dI) vwCl [(h, .inr (13, [.ref q1, .ref q3, .ref q5, .ref q7, .ref q10, .ref q13, .long 0])), (q7, .inr (9, [.int 32, .int 32, .int 0, .int 0, .int 0, .int 0, .ref tx_9])), (q10, .inr (9, [.int 32, .int 32, .int 0, .int 0, .int 0, .int 0, .ref tx_12])), (q13, .inl (cA14, 16, .inr (.inr (.inr (.inr f_3))))), (q18, .inr (9, [.int 0, .int 0, .int 0, .int 0, .int 0, .int 0, .null]))] H := hP
      have hD : va_D A [(h, .inr (13, [.ref q1, .ref q3, .ref q5, .ref q7, .ref q10, .ref q13, .long 0])), (q7, .inr (9, [.int 32, .int 32, .int 0, .int 0, .int 0, .int 0, .ref tx_9])), (q10, .inr (9, [.int 32, .int 32, .int 0, .int 0, .int 0, .int 0, .ref tx_12])), (q13, .inl (cA14, 16, .inr (.inr (.inr (.inr f_3))))), (q18, .inr (9, [.int 0, .int 0, .int 0, .int 0, .int 0, .int 0, .null]))] := hD
      refine lv_dup hx hb dX11_init_84 rfl ?_
      have hPc := hP.sub (ws' := [(q18, .inr (9, [.int 0, .int 0, .int 0, .int 0, .int 0, .int 0, .null]))]) [4] rfl
      have hKc := hK.sub (tys' := []) [] rfl
      have hDc := hD.sub (ws' := [(q18, .inr (9, [.int 0, .int 0, .int 0, .int 0, .int 0, .int 0, .null]))]) [4] (by decide) rfl
      have hFc := va_free (wc := [(q18, .inr (9, [.int 0, .int 0, .int 0, .int 0, .int 0, .int 0, .null]))]) hD hS hA [4] rfl
      refine va_callv (va_runIN (As := []) (rest := [.ref q18, .int (nI i), .ref q13]) ⟨hx, hb, hml, hown, hts⟩ (c_X6_init l dC dI q18 _) (⟨va_cnB (host := RX11) 0 hts (goodIn_sub (ws := wc_X6_init) (fun w h => (List.mem_cons_of_mem _ (List.mem_append_right _ (List.mem_append_right _ (List.mem_append_right _ (List.mem_append_right _ (List.mem_append_right _ (List.mem_append_right _ (List.mem_append_right _ (List.mem_append_right _ (List.mem_append_right _ (List.mem_append_left _ h)))))))))))) (by decide +kernel)) rfl rfl rfl hH.1.2.2.1 (hts (.initialized RX6) (by decide +kernel)) (by decide +kernel) ⟨Nat.le_of_ble_eq_true rfl, Nat.le_of_ble_eq_true rfl⟩, rfl, (hts (.instanceMethod yX6_init) (by decide +kernel))⟩) ⟨fun a U g mk q => by obtain ⟨q0, q1, qP, qK, qD⟩ := q; exact ⟨q0, q1, qP, va_K.moved (u := U) (U := U.calling g mk a) (Vm.Alike.refl U.vm) qK, qD⟩, fun U hU hW => ⟨rfl, by rw [hU], by rw [hU]; exact hPc, va_K.moved hW.alike hKc, hDc.weaken (fun _ _ _ _ => trivial)⟩⟩ rfl rfl hl.1 rfl (lv_room (Nat.le_of_ble_eq_true rfl)) dX11_init_85 ⟨(show 190 + 2 * i + 1 + 1 ≤ 222 by omega), (show 9976 + 87 * i + 7 + 80 ≤ 11368 by omega)⟩) hS (fun q _ h => hFc q h) hFc (fun u t H1 locs ht hvm hw hB hz1 hk1 hS => ?_)
      obtain ⟨tx_20, hP1, hK1, hD1⟩ := hB
      rw [ht] at hP1
      have hK1 := va_K.moved hvm.symm hK1
      try dsimp only at hw
      obtain ⟨hP, hD⟩ := va_join (wr := [(h, .inr (13, [.ref q1, .ref q3, .ref q5, .ref q7, .ref q10, .ref q13, .long 0])), (q7, .inr (9, [.int 32, .int 32, .int 0, .int 0, .int 0, .int 0, .ref tx_9])), (q10, .inr (9, [.int 32, .int 32, .int 0, .int 0, .int 0, .int 0, .ref tx_12])), (q13, .inl (cA14, 16, .inr (.inr (.inr (.inr f_3)))))]) (w1 := [(q18, .inr (9, [.int 32, .int 32, .int 0, .int 0, .int 0, .int 0, .ref tx_20]))]) hP hD [4] [0, 1, 2, 3] rfl rfl (by decide) (by decide) hk1 hFc hP1 hD1
      generalize H1 = H at hP hS ⊢
      have hP : va_P (dC, dI) vwCl [(h, .inr (13, [.ref q1, .ref q3, .ref q5, .ref q7, .ref q10, .ref q13, .long 0])), (q7, .inr (9, [.int 32, .int 32, .int 0, .int 0, .int 0, .int 0, .ref tx_9])), (q10, .inr (9, [.int 32, .int 32, .int 0, .int 0, .int 0, .int 0, .ref tx_12])), (q13, .inl (cA14, 16, .inr (.inr (.inr (.inr f_3))))), (q18, .inr (9, [.int 32, .int 32, .int 0, .int 0, .int 0, .int 0, .ref tx_20]))] H := hP
      have hD : va_D A [(h, .inr (13, [.ref q1, .ref q3, .ref q5, .ref q7, .ref q10, .ref q13, .long 0])), (q7, .inr (9, [.int 32, .int 32, .int 0, .int 0, .int 0, .int 0, .ref tx_9])), (q10, .inr (9, [.int 32, .int 32, .int 0, .int 0, .int 0, .int 0, .ref tx_12])), (q13, .inl (cA14, 16, .inr (.inr (.inr (.inr f_3))))), (q18, .inr (9, [.int 32, .int 32, .int 0, .int 0, .int 0, .int 0, .ref tx_20]))] := hD
      refine va_astq hx hb hK hP hD hS 3 0 4 9 rfl rfl rfl rfl (vp_in_nI (by omega) (by decide)) dX11_init_88 (fun H locs hP hD hS => ?_)
      have hP : va_P (dC, dI) vwCl [(h, .inr (13, [.ref q1, .ref q3, .ref q5, .ref q7, .ref q10, .ref q13, .long 0])), (q7, .inr (9, [.int 32, .int 32, .int 0, .int 0, .int 0, .int 0, .ref tx_9])), (q10, .inr (9, [.int 32, .int 32, .int 0, .int 0, .int 0, .int 0, .ref tx_12])), (q13, .inl (cA14, 16, .inr (.inr (.inr (.inr (va_up f_3 ((nI i).toNatClampNeg) (some q18))))))), (q18, .inr (9, [.int 32, .int 32, .int 0, .int 0, .int 0, .int 0, .ref tx_20]))] H := hP
      have hD : va_D A [(h, .inr (13, [.ref q1, .ref q3, .ref q5, .ref q7, .ref q10, .ref q13, .long 0])), (q7, .inr (9, [.int 32, .int 32, .int 0, .int 0, .int 0, .int 0, .ref tx_9])), (q10, .inr (9, [.int 32, .int 32, .int 0, .int 0, .int 0, .int 0, .ref tx_12])), (q13, .inl (cA14, 16, .inr (.inr (.inr (.inr (va_up f_3 ((nI i).toNatClampNeg) (some q18))))))), (q18, .inr (9, [.int 32, .int 32, .int 0, .int 0, .int 0, .int 0, .ref tx_20]))] := hD
      refine lv_iinc (v := (nI (i + 1))) (lv' := [(1, .int (nI (i + 1))), (0, .ref h)]) hx hb dX11_init_89 hl (k := 0) rfl (nI_1 i) (by decide) rfl (fun ls hl => ?_)
      refine lv_goto (tgt := 70) hx hb dX11_init_92 (by decide) ?_
      refine W.widen (k := 190 + 2 * (i + 1)) (n := 9976 + 87 * (i + 1)) (by omega) (by omega) ?_
      exact ih (i + 1) (by omega) _ _ _ _ (hP.sub [0, 1, 2, 3] rfl) (hD.sub [0, 1, 2, 3] (by decide) rfl) hS (lv_sub hl [0, 1] rfl)
  exact lp15 16 0 (by omega) _ _ _ _ hP hD hS hl

def nm (U : State) : Prop := va_AO RX16 U ∧ va_AO RX14 U
theorem nm.warm {s U : State} (hW : s.WarmedH U.vm) (h : nm s) : nm U := ⟨va_AO.moved hW.alike h.1, va_AO.moved hW.alike h.2⟩
theorem nm.blind {U : State} (a : Array Value) (g : JFrame) (mk : MethodId) (h : nm U) : nm (U.calling g mk a) := ⟨va_AO.moved (u := U) (Vm.Alike.refl U.vm) h.1, va_AO.moved (u := U) (Vm.Alike.refl U.vm) h.2⟩
def wc_X18_init : List Cond := .code yX18_init cX18_init 1 none :: ([.methodLink RX18 1 objectInit, .instanceMethod objectInit, .code objectInit ⟨#[0xb1]⟩ 1 none, .arrayClass .int, .fieldLink RX18 9 "SequencepointModel" "type" "[I", .fieldLink RX18 13 "SequencepointModel" "length" "[I", .arrayClass .boolean, .fieldLink RX18 16 "SequencepointModel" "isGlobal" "[Z", .fieldLink RX18 20 "SequencepointModel" "result" "[I", .fieldLink RX18 23 "SequencepointModel" "first" "[I", .fieldLink RX18 26 "SequencepointModel" "second" "[I", .classLink RX18 29 RX16, .fieldLink RX18 31 "SequencepointModel" "body" "[LSequencepointModel$Statement;", .classLink RX18 35 RX14, .fieldLink RX18 37 "SequencepointModel" "node" "[LSequencepointModel$Node;", .fieldLink RX18 41 "SequencepointModel" "statement" "[LSequencepointModel$Statement;"] ++ (wsX180 ++ []))
set_option maxHeartbeats 4000000 in
set_option maxRecDepth 100000 in
theorem c_X18_init (l : Launch) (dC : Nat → ClassId) (dI : Nat → Nat → Nat) (h : Nat) (sz : Nat) : Met l yX18_init wc_X18_init ({ frames := 1, cells := 9, slots := 202, locals := 12 }) (va_Pc [.ref h] (fun U => U.heap.size = sz ∧ va_P (dC, dI) vwCl [(h, .inr (20, [.null, .null, .null, .int 0, .int 0, .int 0, .int 0, .null, .null, .null, .null, .null, .null, .null, .long 0, .int 0, .int 0, .int 0]))] U.heap ∧ va_K (dC, dI) vwCl [] U ∧ va_D (fun _ => True) [(h, .inr (20, [.null, .null, .null, .int 0, .int 0, .int 0, .int 0, .null, .null, .null, .null, .null, .null, .null, .long 0, .int 0, .int 0, .int 0]))] ∧ nm U)) (va_Qv (fun _ : Unit => True) (fun _ t => (∃ m0 : Nat, ∃ m1 : Nat, ∃ m2 : Nat, ∃ m7 : Nat, ∃ m8 : Nat, ∃ m9 : Nat, ∃ m10 : Nat, ∃ m11 : Nat, ∃ m12 : Nat, va_P (dC, dI) vwCl [(h, .inr (20, [.ref m0, .ref m1, .ref m2, .int 0, .int 0, .int 0, .int 0, .ref m7, .ref m8, .ref m9, .ref m10, .ref m11, .ref m12, .null, .long 0, .int 0, .int 0, .int 0]))] t.heap ∧ va_K (dC, dI) vwCl [] t ∧ va_D (va_A [(h, .inr (20, [.null, .null, .null, .int 0, .int 0, .int 0, .int 0, .null, .null, .null, .null, .null, .null, .null, .long 0, .int 0, .int 0, .int 0]))] sz) [(h, .inr (20, [.ref m0, .ref m1, .ref m2, .int 0, .int 0, .int 0, .int 0, .ref m7, .ref m8, .ref m9, .ref m10, .ref m11, .ref m12, .null, .long 0, .int 0, .int 0, .int 0]))])) (va_A [(h, .inr (20, [.null, .null, .null, .int 0, .int 0, .int 0, .int 0, .null, .null, .null, .null, .null, .null, .null, .long 0, .int 0, .int 0, .int 0]))] sz)) 9 202 (va_A [(h, .inr (20, [.null, .null, .null, .int 0, .int 0, .int 0, .int 0, .null, .null, .null, .null, .null, .null, .null, .long 0, .int 0, .int 0, .int 0]))] sz) := by
  refine Met.ofW (cc := cX18_init) (maxL := 1) (ret := none) (by decide) rfl ?_
  intro p e s m args below meth c s₁ B hml hv
  obtain ⟨rfl, hsz, hP, hK, hD0, hH⟩ := hv
  have hx := B.exec
  have hb := B.bytes
  have hr := B.returns
  have hts := atoms_spec (ws := wc_X18_init) B.pre
  have hown : s.vm.findClass RX18 = some m.cls := findClass_of_methodNamed B.named
  have hlocks := B.notSynchronized
  have hin : meth.name = "<init>" := (name_of_methodNamed B.named B.method).1
  subst hsz
  have hD := hD0.self (sz := s.heap.size)
  generalize hAe : va_A [(h, .inr (20, [.null, .null, .null, .int 0, .int 0, .int 0, .int 0, .null, .null, .null, .null, .null, .null, .null, .long 0, .int 0, .int 0, .int 0]))] s.heap.size = A at hD ⊢
  have hA : ∀ q : Nat, s.heap.size ≤ q → A q := fun q h => by rw [← hAe]; exact Or.inr h
  have hS : va_S A s.heap s.heap [] := va_S.rf
  have hP : va_P (dC, dI) vwCl [(h, .inr (20, [.null, .null, .null, .int 0, .int 0, .int 0, .int 0, .null, .null, .null, .null, .null, .null, .null, .long 0, .int 0, .int 0, .int 0]))] s.heap := hP
  have hl := lv_entry ([.ref h]) (n := 1) (Nat.le_of_ble_eq_true rfl)
  rw [lg_entry_eq]
  generalize (lg_sl ([.ref h]) ++ List.replicate (1 - (lg_sl ([.ref h])).length) Slot.unset).toArray = ls at hl ⊢
  have hl : lv_has ls 1 [(0, .ref h)] := hl
  refine lv_aload_n hx hb dX18_init_0 rfl (lv_at hl 0 rfl) ?_
  refine W.objInit hx hb hown (hts (.methodLink RX18 1 objectInit) (by decide +kernel)) (hts (.instanceMethod objectInit) (by decide +kernel)) (hts (.code objectInit ⟨#[0xb1]⟩ 1 none) (by decide +kernel)) rfl (by rw [hml]; exact hl.1) rfl dX18_init_1 (Nat.le_of_ble_eq_true rfl) (Nat.le_of_ble_eq_true rfl) ?_
  refine W.eq (g2 := F0 m 4 ls []) rfl ?_
  refine lv_aload_n hx hb dX18_init_4 rfl (lv_at hl 0 rfl) ?_
  refine lv_bipush (v := 10) hx hb dX18_init_5 (by decide) ?_
  refine va_newa (atype := .int) (ty := .int) (a0 := (10, .inl (fun _ => (0 : Int32)))) (N' := 10) hx hb (hts (.arrayClass .int) (by decide +kernel)) rfl hK hP hD hS hA (fun _ => rfl) (by decide) (by decide) (Nat.le_of_ble_eq_true rfl) (Nat.le_of_ble_eq_true rfl) (Nat.le_of_ble_eq_true rfl) dX18_init_7 (fun q1 cA2 H hK hP hD hS => ?_)
  have hK : va_K (dC, dI) vwCl [(cA2, .int)] s := hK
  have hP : va_P (dC, dI) vwCl [(h, .inr (20, [.null, .null, .null, .int 0, .int 0, .int 0, .int 0, .null, .null, .null, .null, .null, .null, .null, .long 0, .int 0, .int 0, .int 0])), (q1, .inl (cA2, 10, .inl (fun _ => (0 : Int32))))] H := hP
  have hD : va_D A [(h, .inr (20, [.null, .null, .null, .int 0, .int 0, .int 0, .int 0, .null, .null, .null, .null, .null, .null, .null, .long 0, .int 0, .int 0, .int 0])), (q1, .inl (cA2, 10, .inl (fun _ => (0 : Int32))))] := hD
  refine W.widen (k := 1) (n := 10) (by decide) (by decide) ?_
  refine va_putF (D := (dC, dI)) (ci := 20) (v := .ref q1) (ty := (tyX18 0)) (C := RX18) (T := TX18) (N := 18) hx hb hts (fun w h => (List.mem_cons_of_mem _ (List.mem_append_right _ (List.mem_append_left _ h)))) tyX18 tyX18_ok nmX18 hown hK hP hD hS 0 rfl rfl 0 (by decide) (hts (.fieldLink RX18 9 "SequencepointModel" "type" "[I") (by decide +kernel)) (fun _ h9 => h9) rfl hin rfl (by decide +kernel) rfl rfl (Nat.le_of_ble_eq_true rfl) dX18_init_9 (fun H locs hP hD hS => ?_)
  have hP : va_P (dC, dI) vwCl [(h, .inr (20, [.ref q1, .null, .null, .int 0, .int 0, .int 0, .int 0, .null, .null, .null, .null, .null, .null, .null, .long 0, .int 0, .int 0, .int 0])), (q1, .inl (cA2, 10, .inl (fun _ => (0 : Int32))))] H := hP
  have hD : va_D A [(h, .inr (20, [.ref q1, .null, .null, .int 0, .int 0, .int 0, .int 0, .null, .null, .null, .null, .null, .null, .null, .long 0, .int 0, .int 0, .int 0])), (q1, .inl (cA2, 10, .inl (fun _ => (0 : Int32))))] := hD
  refine lv_aload_n hx hb dX18_init_12 rfl (lv_at hl 0 rfl) ?_
  refine lv_bipush (v := 10) hx hb dX18_init_13 (by decide) ?_
  refine va_newa (atype := .int) (ty := .int) (a0 := (10, .inl (fun _ => (0 : Int32)))) (N' := 10) hx hb (hts (.arrayClass .int) (by decide +kernel)) rfl hK hP hD hS hA (fun _ => rfl) (by decide) (by decide) (Nat.le_of_ble_eq_true rfl) (Nat.le_of_ble_eq_true rfl) (Nat.le_of_ble_eq_true rfl) dX18_init_15 (fun q3 cA4 H hK hP hD hS => ?_)
  have hK : va_K (dC, dI) vwCl [(cA2, .int), (cA4, .int)] s := hK
  have hP : va_P (dC, dI) vwCl [(h, .inr (20, [.ref q1, .null, .null, .int 0, .int 0, .int 0, .int 0, .null, .null, .null, .null, .null, .null, .null, .long 0, .int 0, .int 0, .int 0])), (q1, .inl (cA2, 10, .inl (fun _ => (0 : Int32)))), (q3, .inl (cA4, 10, .inl (fun _ => (0 : Int32))))] H := hP
  have hD : va_D A [(h, .inr (20, [.ref q1, .null, .null, .int 0, .int 0, .int 0, .int 0, .null, .null, .null, .null, .null, .null, .null, .long 0, .int 0, .int 0, .int 0])), (q1, .inl (cA2, 10, .inl (fun _ => (0 : Int32)))), (q3, .inl (cA4, 10, .inl (fun _ => (0 : Int32))))] := hD
  refine W.widen (k := 2) (n := 20) (by decide) (by decide) ?_
  refine va_putF (D := (dC, dI)) (ci := 20) (v := .ref q3) (ty := (tyX18 1)) (C := RX18) (T := TX18) (N := 18) hx hb hts (fun w h => (List.mem_cons_of_mem _ (List.mem_append_right _ (List.mem_append_left _ h)))) tyX18 tyX18_ok nmX18 hown hK hP hD hS 0 rfl rfl 1 (by decide) (hts (.fieldLink RX18 13 "SequencepointModel" "length" "[I") (by decide +kernel)) (fun _ h9 => h9) rfl hin rfl (by decide +kernel) rfl rfl (Nat.le_of_ble_eq_true rfl) dX18_init_17 (fun H locs hP hD hS => ?_)
  have hP : va_P (dC, dI) vwCl [(h, .inr (20, [.ref q1, .ref q3, .null, .int 0, .int 0, .int 0, .int 0, .null, .null, .null, .null, .null, .null, .null, .long 0, .int 0, .int 0, .int 0])), (q1, .inl (cA2, 10, .inl (fun _ => (0 : Int32)))), (q3, .inl (cA4, 10, .inl (fun _ => (0 : Int32))))] H := hP
  have hD : va_D A [(h, .inr (20, [.ref q1, .ref q3, .null, .int 0, .int 0, .int 0, .int 0, .null, .null, .null, .null, .null, .null, .null, .long 0, .int 0, .int 0, .int 0])), (q1, .inl (cA2, 10, .inl (fun _ => (0 : Int32)))), (q3, .inl (cA4, 10, .inl (fun _ => (0 : Int32))))] := hD
  refine lv_aload_n hx hb dX18_init_20 rfl (lv_at hl 0 rfl) ?_
  refine lv_bipush (v := 10) hx hb dX18_init_21 (by decide) ?_
  refine va_newa (atype := .boolean) (ty := .boolean) (a0 := (10, .inl (fun _ => (0 : Int32)))) (N' := 10) hx hb (hts (.arrayClass .boolean) (by decide +kernel)) rfl hK hP hD hS hA (fun _ => rfl) (by decide) (by decide) (Nat.le_of_ble_eq_true rfl) (Nat.le_of_ble_eq_true rfl) (Nat.le_of_ble_eq_true rfl) dX18_init_23 (fun q5 cA6 H hK hP hD hS => ?_)
  have hK : va_K (dC, dI) vwCl [(cA2, .int), (cA4, .int), (cA6, .boolean)] s := hK
  have hP : va_P (dC, dI) vwCl [(h, .inr (20, [.ref q1, .ref q3, .null, .int 0, .int 0, .int 0, .int 0, .null, .null, .null, .null, .null, .null, .null, .long 0, .int 0, .int 0, .int 0])), (q1, .inl (cA2, 10, .inl (fun _ => (0 : Int32)))), (q3, .inl (cA4, 10, .inl (fun _ => (0 : Int32)))), (q5, .inl (cA6, 10, .inl (fun _ => (0 : Int32))))] H := hP
  have hD : va_D A [(h, .inr (20, [.ref q1, .ref q3, .null, .int 0, .int 0, .int 0, .int 0, .null, .null, .null, .null, .null, .null, .null, .long 0, .int 0, .int 0, .int 0])), (q1, .inl (cA2, 10, .inl (fun _ => (0 : Int32)))), (q3, .inl (cA4, 10, .inl (fun _ => (0 : Int32)))), (q5, .inl (cA6, 10, .inl (fun _ => (0 : Int32))))] := hD
  refine W.widen (k := 3) (n := 30) (by decide) (by decide) ?_
  refine va_putF (D := (dC, dI)) (ci := 20) (v := .ref q5) (ty := (tyX18 2)) (C := RX18) (T := TX18) (N := 18) hx hb hts (fun w h => (List.mem_cons_of_mem _ (List.mem_append_right _ (List.mem_append_left _ h)))) tyX18 tyX18_ok nmX18 hown hK hP hD hS 0 rfl rfl 2 (by decide) (hts (.fieldLink RX18 16 "SequencepointModel" "isGlobal" "[Z") (by decide +kernel)) (fun _ h9 => h9) rfl hin rfl (by decide +kernel) rfl rfl (Nat.le_of_ble_eq_true rfl) dX18_init_25 (fun H locs hP hD hS => ?_)
  have hP : va_P (dC, dI) vwCl [(h, .inr (20, [.ref q1, .ref q3, .ref q5, .int 0, .int 0, .int 0, .int 0, .null, .null, .null, .null, .null, .null, .null, .long 0, .int 0, .int 0, .int 0])), (q1, .inl (cA2, 10, .inl (fun _ => (0 : Int32)))), (q3, .inl (cA4, 10, .inl (fun _ => (0 : Int32)))), (q5, .inl (cA6, 10, .inl (fun _ => (0 : Int32))))] H := hP
  have hD : va_D A [(h, .inr (20, [.ref q1, .ref q3, .ref q5, .int 0, .int 0, .int 0, .int 0, .null, .null, .null, .null, .null, .null, .null, .long 0, .int 0, .int 0, .int 0])), (q1, .inl (cA2, 10, .inl (fun _ => (0 : Int32)))), (q3, .inl (cA4, 10, .inl (fun _ => (0 : Int32)))), (q5, .inl (cA6, 10, .inl (fun _ => (0 : Int32))))] := hD
  refine lv_aload_n hx hb dX18_init_28 rfl (lv_at hl 0 rfl) ?_
  refine lv_iconst (v := 3) hx hb dX18_init_29 (by decide) ?_
  refine va_newa (atype := .int) (ty := .int) (a0 := (3, .inl (fun _ => (0 : Int32)))) (N' := 3) hx hb (hts (.arrayClass .int) (by decide +kernel)) rfl hK hP hD hS hA (fun _ => rfl) (by decide) (by decide) (Nat.le_of_ble_eq_true rfl) (Nat.le_of_ble_eq_true rfl) (Nat.le_of_ble_eq_true rfl) dX18_init_30 (fun q7 cA8 H hK hP hD hS => ?_)
  have hK : va_K (dC, dI) vwCl [(cA2, .int), (cA4, .int), (cA6, .boolean), (cA8, .int)] s := hK
  have hP : va_P (dC, dI) vwCl [(h, .inr (20, [.ref q1, .ref q3, .ref q5, .int 0, .int 0, .int 0, .int 0, .null, .null, .null, .null, .null, .null, .null, .long 0, .int 0, .int 0, .int 0])), (q1, .inl (cA2, 10, .inl (fun _ => (0 : Int32)))), (q3, .inl (cA4, 10, .inl (fun _ => (0 : Int32)))), (q5, .inl (cA6, 10, .inl (fun _ => (0 : Int32)))), (q7, .inl (cA8, 3, .inl (fun _ => (0 : Int32))))] H := hP
  have hD : va_D A [(h, .inr (20, [.ref q1, .ref q3, .ref q5, .int 0, .int 0, .int 0, .int 0, .null, .null, .null, .null, .null, .null, .null, .long 0, .int 0, .int 0, .int 0])), (q1, .inl (cA2, 10, .inl (fun _ => (0 : Int32)))), (q3, .inl (cA4, 10, .inl (fun _ => (0 : Int32)))), (q5, .inl (cA6, 10, .inl (fun _ => (0 : Int32)))), (q7, .inl (cA8, 3, .inl (fun _ => (0 : Int32))))] := hD
  refine W.widen (k := 4) (n := 33) (by decide) (by decide) ?_
  refine va_putF (D := (dC, dI)) (ci := 20) (v := .ref q7) (ty := (tyX18 7)) (C := RX18) (T := TX18) (N := 18) hx hb hts (fun w h => (List.mem_cons_of_mem _ (List.mem_append_right _ (List.mem_append_left _ h)))) tyX18 tyX18_ok nmX18 hown hK hP hD hS 0 rfl rfl 7 (by decide) (hts (.fieldLink RX18 20 "SequencepointModel" "result" "[I") (by decide +kernel)) (fun _ h9 => h9) rfl hin rfl (by decide +kernel) rfl rfl (Nat.le_of_ble_eq_true rfl) dX18_init_32 (fun H locs hP hD hS => ?_)
  have hP : va_P (dC, dI) vwCl [(h, .inr (20, [.ref q1, .ref q3, .ref q5, .int 0, .int 0, .int 0, .int 0, .ref q7, .null, .null, .null, .null, .null, .null, .long 0, .int 0, .int 0, .int 0])), (q1, .inl (cA2, 10, .inl (fun _ => (0 : Int32)))), (q3, .inl (cA4, 10, .inl (fun _ => (0 : Int32)))), (q5, .inl (cA6, 10, .inl (fun _ => (0 : Int32)))), (q7, .inl (cA8, 3, .inl (fun _ => (0 : Int32))))] H := hP
  have hD : va_D A [(h, .inr (20, [.ref q1, .ref q3, .ref q5, .int 0, .int 0, .int 0, .int 0, .ref q7, .null, .null, .null, .null, .null, .null, .long 0, .int 0, .int 0, .int 0])), (q1, .inl (cA2, 10, .inl (fun _ => (0 : Int32)))), (q3, .inl (cA4, 10, .inl (fun _ => (0 : Int32)))), (q5, .inl (cA6, 10, .inl (fun _ => (0 : Int32)))), (q7, .inl (cA8, 3, .inl (fun _ => (0 : Int32))))] := hD
  refine lv_aload_n hx hb dX18_init_35 rfl (lv_at hl 0 rfl) ?_
  refine lv_iconst (v := 3) hx hb dX18_init_36 (by decide) ?_
  refine va_newa (atype := .int) (ty := .int) (a0 := (3, .inl (fun _ => (0 : Int32)))) (N' := 3) hx hb (hts (.arrayClass .int) (by decide +kernel)) rfl hK hP hD hS hA (fun _ => rfl) (by decide) (by decide) (Nat.le_of_ble_eq_true rfl) (Nat.le_of_ble_eq_true rfl) (Nat.le_of_ble_eq_true rfl) dX18_init_37 (fun q9 cA10 H hK hP hD hS => ?_)
  have hK : va_K (dC, dI) vwCl [(cA2, .int), (cA4, .int), (cA6, .boolean), (cA8, .int), (cA10, .int)] s := hK
  have hP : va_P (dC, dI) vwCl [(h, .inr (20, [.ref q1, .ref q3, .ref q5, .int 0, .int 0, .int 0, .int 0, .ref q7, .null, .null, .null, .null, .null, .null, .long 0, .int 0, .int 0, .int 0])), (q1, .inl (cA2, 10, .inl (fun _ => (0 : Int32)))), (q3, .inl (cA4, 10, .inl (fun _ => (0 : Int32)))), (q5, .inl (cA6, 10, .inl (fun _ => (0 : Int32)))), (q7, .inl (cA8, 3, .inl (fun _ => (0 : Int32)))), (q9, .inl (cA10, 3, .inl (fun _ => (0 : Int32))))] H := hP
  have hD : va_D A [(h, .inr (20, [.ref q1, .ref q3, .ref q5, .int 0, .int 0, .int 0, .int 0, .ref q7, .null, .null, .null, .null, .null, .null, .long 0, .int 0, .int 0, .int 0])), (q1, .inl (cA2, 10, .inl (fun _ => (0 : Int32)))), (q3, .inl (cA4, 10, .inl (fun _ => (0 : Int32)))), (q5, .inl (cA6, 10, .inl (fun _ => (0 : Int32)))), (q7, .inl (cA8, 3, .inl (fun _ => (0 : Int32)))), (q9, .inl (cA10, 3, .inl (fun _ => (0 : Int32))))] := hD
  refine W.widen (k := 5) (n := 36) (by decide) (by decide) ?_
  refine va_putF (D := (dC, dI)) (ci := 20) (v := .ref q9) (ty := (tyX18 8)) (C := RX18) (T := TX18) (N := 18) hx hb hts (fun w h => (List.mem_cons_of_mem _ (List.mem_append_right _ (List.mem_append_left _ h)))) tyX18 tyX18_ok nmX18 hown hK hP hD hS 0 rfl rfl 8 (by decide) (hts (.fieldLink RX18 23 "SequencepointModel" "first" "[I") (by decide +kernel)) (fun _ h9 => h9) rfl hin rfl (by decide +kernel) rfl rfl (Nat.le_of_ble_eq_true rfl) dX18_init_39 (fun H locs hP hD hS => ?_)
  have hP : va_P (dC, dI) vwCl [(h, .inr (20, [.ref q1, .ref q3, .ref q5, .int 0, .int 0, .int 0, .int 0, .ref q7, .ref q9, .null, .null, .null, .null, .null, .long 0, .int 0, .int 0, .int 0])), (q1, .inl (cA2, 10, .inl (fun _ => (0 : Int32)))), (q3, .inl (cA4, 10, .inl (fun _ => (0 : Int32)))), (q5, .inl (cA6, 10, .inl (fun _ => (0 : Int32)))), (q7, .inl (cA8, 3, .inl (fun _ => (0 : Int32)))), (q9, .inl (cA10, 3, .inl (fun _ => (0 : Int32))))] H := hP
  have hD : va_D A [(h, .inr (20, [.ref q1, .ref q3, .ref q5, .int 0, .int 0, .int 0, .int 0, .ref q7, .ref q9, .null, .null, .null, .null, .null, .long 0, .int 0, .int 0, .int 0])), (q1, .inl (cA2, 10, .inl (fun _ => (0 : Int32)))), (q3, .inl (cA4, 10, .inl (fun _ => (0 : Int32)))), (q5, .inl (cA6, 10, .inl (fun _ => (0 : Int32)))), (q7, .inl (cA8, 3, .inl (fun _ => (0 : Int32)))), (q9, .inl (cA10, 3, .inl (fun _ => (0 : Int32))))] := hD
  refine lv_aload_n hx hb dX18_init_42 rfl (lv_at hl 0 rfl) ?_
  refine lv_iconst (v := 3) hx hb dX18_init_43 (by decide) ?_
  refine va_newa (atype := .int) (ty := .int) (a0 := (3, .inl (fun _ => (0 : Int32)))) (N' := 3) hx hb (hts (.arrayClass .int) (by decide +kernel)) rfl hK hP hD hS hA (fun _ => rfl) (by decide) (by decide) (Nat.le_of_ble_eq_true rfl) (Nat.le_of_ble_eq_true rfl) (Nat.le_of_ble_eq_true rfl) dX18_init_44 (fun q11 cA12 H hK hP hD hS => ?_)
  have hK : va_K (dC, dI) vwCl [(cA2, .int), (cA4, .int), (cA6, .boolean), (cA8, .int), (cA10, .int), (cA12, .int)] s := hK
  have hP : va_P (dC, dI) vwCl [(h, .inr (20, [.ref q1, .ref q3, .ref q5, .int 0, .int 0, .int 0, .int 0, .ref q7, .ref q9, .null, .null, .null, .null, .null, .long 0, .int 0, .int 0, .int 0])), (q1, .inl (cA2, 10, .inl (fun _ => (0 : Int32)))), (q3, .inl (cA4, 10, .inl (fun _ => (0 : Int32)))), (q5, .inl (cA6, 10, .inl (fun _ => (0 : Int32)))), (q7, .inl (cA8, 3, .inl (fun _ => (0 : Int32)))), (q9, .inl (cA10, 3, .inl (fun _ => (0 : Int32)))), (q11, .inl (cA12, 3, .inl (fun _ => (0 : Int32))))] H := hP
  have hD : va_D A [(h, .inr (20, [.ref q1, .ref q3, .ref q5, .int 0, .int 0, .int 0, .int 0, .ref q7, .ref q9, .null, .null, .null, .null, .null, .long 0, .int 0, .int 0, .int 0])), (q1, .inl (cA2, 10, .inl (fun _ => (0 : Int32)))), (q3, .inl (cA4, 10, .inl (fun _ => (0 : Int32)))), (q5, .inl (cA6, 10, .inl (fun _ => (0 : Int32)))), (q7, .inl (cA8, 3, .inl (fun _ => (0 : Int32)))), (q9, .inl (cA10, 3, .inl (fun _ => (0 : Int32)))), (q11, .inl (cA12, 3, .inl (fun _ => (0 : Int32))))] := hD
  refine W.widen (k := 6) (n := 39) (by decide) (by decide) ?_
  refine va_putF (D := (dC, dI)) (ci := 20) (v := .ref q11) (ty := (tyX18 9)) (C := RX18) (T := TX18) (N := 18) hx hb hts (fun w h => (List.mem_cons_of_mem _ (List.mem_append_right _ (List.mem_append_left _ h)))) tyX18 tyX18_ok nmX18 hown hK hP hD hS 0 rfl rfl 9 (by decide) (hts (.fieldLink RX18 26 "SequencepointModel" "second" "[I") (by decide +kernel)) (fun _ h9 => h9) rfl hin rfl (by decide +kernel) rfl rfl (Nat.le_of_ble_eq_true rfl) dX18_init_46 (fun H locs hP hD hS => ?_)
  have hP : va_P (dC, dI) vwCl [(h, .inr (20, [.ref q1, .ref q3, .ref q5, .int 0, .int 0, .int 0, .int 0, .ref q7, .ref q9, .ref q11, .null, .null, .null, .null, .long 0, .int 0, .int 0, .int 0])), (q1, .inl (cA2, 10, .inl (fun _ => (0 : Int32)))), (q3, .inl (cA4, 10, .inl (fun _ => (0 : Int32)))), (q5, .inl (cA6, 10, .inl (fun _ => (0 : Int32)))), (q7, .inl (cA8, 3, .inl (fun _ => (0 : Int32)))), (q9, .inl (cA10, 3, .inl (fun _ => (0 : Int32)))), (q11, .inl (cA12, 3, .inl (fun _ => (0 : Int32))))] H := hP
  have hD : va_D A [(h, .inr (20, [.ref q1, .ref q3, .ref q5, .int 0, .int 0, .int 0, .int 0, .ref q7, .ref q9, .ref q11, .null, .null, .null, .null, .long 0, .int 0, .int 0, .int 0])), (q1, .inl (cA2, 10, .inl (fun _ => (0 : Int32)))), (q3, .inl (cA4, 10, .inl (fun _ => (0 : Int32)))), (q5, .inl (cA6, 10, .inl (fun _ => (0 : Int32)))), (q7, .inl (cA8, 3, .inl (fun _ => (0 : Int32)))), (q9, .inl (cA10, 3, .inl (fun _ => (0 : Int32)))), (q11, .inl (cA12, 3, .inl (fun _ => (0 : Int32))))] := hD
  refine lv_aload_n hx hb dX18_init_49 rfl (lv_at hl 0 rfl) ?_
  refine lv_iconst (v := 3) hx hb dX18_init_50 (by decide) ?_
  refine va_newq (C := RX16) (N' := 3) hx hb hown (hts (.classLink RX18 29 RX16) (by decide +kernel)) hH.1 hK hP hD hS hA (by decide) (by decide) (Nat.le_of_ble_eq_true rfl) (Nat.le_of_ble_eq_true rfl) (Nat.le_of_ble_eq_true rfl) dX18_init_51 (fun q13 cA14 H hK hP hD hS => ?_)
  have hK : va_K (dC, dI) vwCl [(cA2, .int), (cA4, .int), (cA6, .boolean), (cA8, .int), (cA10, .int), (cA12, .int), (cA14, .object "SequencepointModel$Statement")] s := hK
  have hP : va_P (dC, dI) vwCl [(h, .inr (20, [.ref q1, .ref q3, .ref q5, .int 0, .int 0, .int 0, .int 0, .ref q7, .ref q9, .ref q11, .null, .null, .null, .null, .long 0, .int 0, .int 0, .int 0])), (q1, .inl (cA2, 10, .inl (fun _ => (0 : Int32)))), (q3, .inl (cA4, 10, .inl (fun _ => (0 : Int32)))), (q5, .inl (cA6, 10, .inl (fun _ => (0 : Int32)))), (q7, .inl (cA8, 3, .inl (fun _ => (0 : Int32)))), (q9, .inl (cA10, 3, .inl (fun _ => (0 : Int32)))), (q11, .inl (cA12, 3, .inl (fun _ => (0 : Int32)))), (q13, .inl (cA14, 3, .inr (.inr (.inr (.inr (fun _ => none))))))] H := hP
  have hD : va_D A [(h, .inr (20, [.ref q1, .ref q3, .ref q5, .int 0, .int 0, .int 0, .int 0, .ref q7, .ref q9, .ref q11, .null, .null, .null, .null, .long 0, .int 0, .int 0, .int 0])), (q1, .inl (cA2, 10, .inl (fun _ => (0 : Int32)))), (q3, .inl (cA4, 10, .inl (fun _ => (0 : Int32)))), (q5, .inl (cA6, 10, .inl (fun _ => (0 : Int32)))), (q7, .inl (cA8, 3, .inl (fun _ => (0 : Int32)))), (q9, .inl (cA10, 3, .inl (fun _ => (0 : Int32)))), (q11, .inl (cA12, 3, .inl (fun _ => (0 : Int32)))), (q13, .inl (cA14, 3, .inr (.inr (.inr (.inr (fun _ => none))))))] := hD
  refine W.widen (k := 7) (n := 42) (by decide) (by decide) ?_
  refine va_putF (D := (dC, dI)) (ci := 20) (v := .ref q13) (ty := (tyX18 10)) (C := RX18) (T := TX18) (N := 18) hx hb hts (fun w h => (List.mem_cons_of_mem _ (List.mem_append_right _ (List.mem_append_left _ h)))) tyX18 tyX18_ok nmX18 hown hK hP hD hS 0 rfl rfl 10 (by decide) (hts (.fieldLink RX18 31 "SequencepointModel" "body" "[LSequencepointModel$Statement;") (by decide +kernel)) (fun _ h9 => h9) rfl hin rfl (by decide +kernel) rfl rfl (Nat.le_of_ble_eq_true rfl) dX18_init_54 (fun H locs hP hD hS => ?_)
  have hP : va_P (dC, dI) vwCl [(h, .inr (20, [.ref q1, .ref q3, .ref q5, .int 0, .int 0, .int 0, .int 0, .ref q7, .ref q9, .ref q11, .ref q13, .null, .null, .null, .long 0, .int 0, .int 0, .int 0])), (q1, .inl (cA2, 10, .inl (fun _ => (0 : Int32)))), (q3, .inl (cA4, 10, .inl (fun _ => (0 : Int32)))), (q5, .inl (cA6, 10, .inl (fun _ => (0 : Int32)))), (q7, .inl (cA8, 3, .inl (fun _ => (0 : Int32)))), (q9, .inl (cA10, 3, .inl (fun _ => (0 : Int32)))), (q11, .inl (cA12, 3, .inl (fun _ => (0 : Int32)))), (q13, .inl (cA14, 3, .inr (.inr (.inr (.inr (fun _ => none))))))] H := hP
  have hD : va_D A [(h, .inr (20, [.ref q1, .ref q3, .ref q5, .int 0, .int 0, .int 0, .int 0, .ref q7, .ref q9, .ref q11, .ref q13, .null, .null, .null, .long 0, .int 0, .int 0, .int 0])), (q1, .inl (cA2, 10, .inl (fun _ => (0 : Int32)))), (q3, .inl (cA4, 10, .inl (fun _ => (0 : Int32)))), (q5, .inl (cA6, 10, .inl (fun _ => (0 : Int32)))), (q7, .inl (cA8, 3, .inl (fun _ => (0 : Int32)))), (q9, .inl (cA10, 3, .inl (fun _ => (0 : Int32)))), (q11, .inl (cA12, 3, .inl (fun _ => (0 : Int32)))), (q13, .inl (cA14, 3, .inr (.inr (.inr (.inr (fun _ => none))))))] := hD
  refine lv_aload_n hx hb dX18_init_57 rfl (lv_at hl 0 rfl) ?_
  refine lv_bipush (v := 100) hx hb dX18_init_58 (by decide) ?_
  refine va_newq (C := RX14) (N' := 100) hx hb hown (hts (.classLink RX18 35 RX14) (by decide +kernel)) hH.2 hK hP hD hS hA (by decide) (by decide) (Nat.le_of_ble_eq_true rfl) (Nat.le_of_ble_eq_true rfl) (Nat.le_of_ble_eq_true rfl) dX18_init_60 (fun q15 cA16 H hK hP hD hS => ?_)
  have hK : va_K (dC, dI) vwCl [(cA2, .int), (cA4, .int), (cA6, .boolean), (cA8, .int), (cA10, .int), (cA12, .int), (cA14, .object "SequencepointModel$Statement"), (cA16, .object "SequencepointModel$Node")] s := hK
  have hP : va_P (dC, dI) vwCl [(h, .inr (20, [.ref q1, .ref q3, .ref q5, .int 0, .int 0, .int 0, .int 0, .ref q7, .ref q9, .ref q11, .ref q13, .null, .null, .null, .long 0, .int 0, .int 0, .int 0])), (q1, .inl (cA2, 10, .inl (fun _ => (0 : Int32)))), (q3, .inl (cA4, 10, .inl (fun _ => (0 : Int32)))), (q5, .inl (cA6, 10, .inl (fun _ => (0 : Int32)))), (q7, .inl (cA8, 3, .inl (fun _ => (0 : Int32)))), (q9, .inl (cA10, 3, .inl (fun _ => (0 : Int32)))), (q11, .inl (cA12, 3, .inl (fun _ => (0 : Int32)))), (q13, .inl (cA14, 3, .inr (.inr (.inr (.inr (fun _ => none)))))), (q15, .inl (cA16, 100, .inr (.inr (.inr (.inr (fun _ => none))))))] H := hP
  have hD : va_D A [(h, .inr (20, [.ref q1, .ref q3, .ref q5, .int 0, .int 0, .int 0, .int 0, .ref q7, .ref q9, .ref q11, .ref q13, .null, .null, .null, .long 0, .int 0, .int 0, .int 0])), (q1, .inl (cA2, 10, .inl (fun _ => (0 : Int32)))), (q3, .inl (cA4, 10, .inl (fun _ => (0 : Int32)))), (q5, .inl (cA6, 10, .inl (fun _ => (0 : Int32)))), (q7, .inl (cA8, 3, .inl (fun _ => (0 : Int32)))), (q9, .inl (cA10, 3, .inl (fun _ => (0 : Int32)))), (q11, .inl (cA12, 3, .inl (fun _ => (0 : Int32)))), (q13, .inl (cA14, 3, .inr (.inr (.inr (.inr (fun _ => none)))))), (q15, .inl (cA16, 100, .inr (.inr (.inr (.inr (fun _ => none))))))] := hD
  refine W.widen (k := 8) (n := 142) (by decide) (by decide) ?_
  refine va_putF (D := (dC, dI)) (ci := 20) (v := .ref q15) (ty := (tyX18 11)) (C := RX18) (T := TX18) (N := 18) hx hb hts (fun w h => (List.mem_cons_of_mem _ (List.mem_append_right _ (List.mem_append_left _ h)))) tyX18 tyX18_ok nmX18 hown hK hP hD hS 0 rfl rfl 11 (by decide) (hts (.fieldLink RX18 37 "SequencepointModel" "node" "[LSequencepointModel$Node;") (by decide +kernel)) (fun _ h9 => h9) rfl hin rfl (by decide +kernel) rfl rfl (Nat.le_of_ble_eq_true rfl) dX18_init_63 (fun H locs hP hD hS => ?_)
  have hP : va_P (dC, dI) vwCl [(h, .inr (20, [.ref q1, .ref q3, .ref q5, .int 0, .int 0, .int 0, .int 0, .ref q7, .ref q9, .ref q11, .ref q13, .ref q15, .null, .null, .long 0, .int 0, .int 0, .int 0])), (q1, .inl (cA2, 10, .inl (fun _ => (0 : Int32)))), (q3, .inl (cA4, 10, .inl (fun _ => (0 : Int32)))), (q5, .inl (cA6, 10, .inl (fun _ => (0 : Int32)))), (q7, .inl (cA8, 3, .inl (fun _ => (0 : Int32)))), (q9, .inl (cA10, 3, .inl (fun _ => (0 : Int32)))), (q11, .inl (cA12, 3, .inl (fun _ => (0 : Int32)))), (q13, .inl (cA14, 3, .inr (.inr (.inr (.inr (fun _ => none)))))), (q15, .inl (cA16, 100, .inr (.inr (.inr (.inr (fun _ => none))))))] H := hP
  have hD : va_D A [(h, .inr (20, [.ref q1, .ref q3, .ref q5, .int 0, .int 0, .int 0, .int 0, .ref q7, .ref q9, .ref q11, .ref q13, .ref q15, .null, .null, .long 0, .int 0, .int 0, .int 0])), (q1, .inl (cA2, 10, .inl (fun _ => (0 : Int32)))), (q3, .inl (cA4, 10, .inl (fun _ => (0 : Int32)))), (q5, .inl (cA6, 10, .inl (fun _ => (0 : Int32)))), (q7, .inl (cA8, 3, .inl (fun _ => (0 : Int32)))), (q9, .inl (cA10, 3, .inl (fun _ => (0 : Int32)))), (q11, .inl (cA12, 3, .inl (fun _ => (0 : Int32)))), (q13, .inl (cA14, 3, .inr (.inr (.inr (.inr (fun _ => none)))))), (q15, .inl (cA16, 100, .inr (.inr (.inr (.inr (fun _ => none))))))] := hD
  refine lv_aload_n hx hb dX18_init_66 rfl (lv_at hl 0 rfl) ?_
  refine lv_bipush (v := 60) hx hb dX18_init_67 (by decide) ?_
  refine va_newq (C := RX16) (N' := 60) hx hb hown (hts (.classLink RX18 29 RX16) (by decide +kernel)) hH.1 hK hP hD hS hA (by decide) (by decide) (Nat.le_of_ble_eq_true rfl) (Nat.le_of_ble_eq_true rfl) (Nat.le_of_ble_eq_true rfl) dX18_init_69 (fun q17 cA18 H hK hP hD hS => ?_)
  have hK : va_K (dC, dI) vwCl [(cA2, .int), (cA4, .int), (cA6, .boolean), (cA8, .int), (cA10, .int), (cA12, .int), (cA14, .object "SequencepointModel$Statement"), (cA16, .object "SequencepointModel$Node"), (cA18, .object "SequencepointModel$Statement")] s := hK
  have hP : va_P (dC, dI) vwCl [(h, .inr (20, [.ref q1, .ref q3, .ref q5, .int 0, .int 0, .int 0, .int 0, .ref q7, .ref q9, .ref q11, .ref q13, .ref q15, .null, .null, .long 0, .int 0, .int 0, .int 0])), (q1, .inl (cA2, 10, .inl (fun _ => (0 : Int32)))), (q3, .inl (cA4, 10, .inl (fun _ => (0 : Int32)))), (q5, .inl (cA6, 10, .inl (fun _ => (0 : Int32)))), (q7, .inl (cA8, 3, .inl (fun _ => (0 : Int32)))), (q9, .inl (cA10, 3, .inl (fun _ => (0 : Int32)))), (q11, .inl (cA12, 3, .inl (fun _ => (0 : Int32)))), (q13, .inl (cA14, 3, .inr (.inr (.inr (.inr (fun _ => none)))))), (q15, .inl (cA16, 100, .inr (.inr (.inr (.inr (fun _ => none)))))), (q17, .inl (cA18, 60, .inr (.inr (.inr (.inr (fun _ => none))))))] H := hP
  have hD : va_D A [(h, .inr (20, [.ref q1, .ref q3, .ref q5, .int 0, .int 0, .int 0, .int 0, .ref q7, .ref q9, .ref q11, .ref q13, .ref q15, .null, .null, .long 0, .int 0, .int 0, .int 0])), (q1, .inl (cA2, 10, .inl (fun _ => (0 : Int32)))), (q3, .inl (cA4, 10, .inl (fun _ => (0 : Int32)))), (q5, .inl (cA6, 10, .inl (fun _ => (0 : Int32)))), (q7, .inl (cA8, 3, .inl (fun _ => (0 : Int32)))), (q9, .inl (cA10, 3, .inl (fun _ => (0 : Int32)))), (q11, .inl (cA12, 3, .inl (fun _ => (0 : Int32)))), (q13, .inl (cA14, 3, .inr (.inr (.inr (.inr (fun _ => none)))))), (q15, .inl (cA16, 100, .inr (.inr (.inr (.inr (fun _ => none)))))), (q17, .inl (cA18, 60, .inr (.inr (.inr (.inr (fun _ => none))))))] := hD
  refine W.widen (k := 9) (n := 202) (by decide) (by decide) ?_
  refine va_putF (D := (dC, dI)) (ci := 20) (v := .ref q17) (ty := (tyX18 12)) (C := RX18) (T := TX18) (N := 18) hx hb hts (fun w h => (List.mem_cons_of_mem _ (List.mem_append_right _ (List.mem_append_left _ h)))) tyX18 tyX18_ok nmX18 hown hK hP hD hS 0 rfl rfl 12 (by decide) (hts (.fieldLink RX18 41 "SequencepointModel" "statement" "[LSequencepointModel$Statement;") (by decide +kernel)) (fun _ h9 => h9) rfl hin rfl (by decide +kernel) rfl rfl (Nat.le_of_ble_eq_true rfl) dX18_init_72 (fun H locs hP hD hS => ?_)
  have hP : va_P (dC, dI) vwCl [(h, .inr (20, [.ref q1, .ref q3, .ref q5, .int 0, .int 0, .int 0, .int 0, .ref q7, .ref q9, .ref q11, .ref q13, .ref q15, .ref q17, .null, .long 0, .int 0, .int 0, .int 0])), (q1, .inl (cA2, 10, .inl (fun _ => (0 : Int32)))), (q3, .inl (cA4, 10, .inl (fun _ => (0 : Int32)))), (q5, .inl (cA6, 10, .inl (fun _ => (0 : Int32)))), (q7, .inl (cA8, 3, .inl (fun _ => (0 : Int32)))), (q9, .inl (cA10, 3, .inl (fun _ => (0 : Int32)))), (q11, .inl (cA12, 3, .inl (fun _ => (0 : Int32)))), (q13, .inl (cA14, 3, .inr (.inr (.inr (.inr (fun _ => none)))))), (q15, .inl (cA16, 100, .inr (.inr (.inr (.inr (fun _ => none)))))), (q17, .inl (cA18, 60, .inr (.inr (.inr (.inr (fun _ => none))))))] H := hP
  have hD : va_D A [(h, .inr (20, [.ref q1, .ref q3, .ref q5, .int 0, .int 0, .int 0, .int 0, .ref q7, .ref q9, .ref q11, .ref q13, .ref q15, .ref q17, .null, .long 0, .int 0, .int 0, .int 0])), (q1, .inl (cA2, 10, .inl (fun _ => (0 : Int32)))), (q3, .inl (cA4, 10, .inl (fun _ => (0 : Int32)))), (q5, .inl (cA6, 10, .inl (fun _ => (0 : Int32)))), (q7, .inl (cA8, 3, .inl (fun _ => (0 : Int32)))), (q9, .inl (cA10, 3, .inl (fun _ => (0 : Int32)))), (q11, .inl (cA12, 3, .inl (fun _ => (0 : Int32)))), (q13, .inl (cA14, 3, .inr (.inr (.inr (.inr (fun _ => none)))))), (q15, .inl (cA16, 100, .inr (.inr (.inr (.inr (fun _ => none)))))), (q17, .inl (cA18, 60, .inr (.inr (.inr (.inr (fun _ => none))))))] := hD
  have hP9 := hP.sub (ws' := [(h, .inr (20, [.ref q1, .ref q3, .ref q5, .int 0, .int 0, .int 0, .int 0, .ref q7, .ref q9, .ref q11, .ref q13, .ref q15, .ref q17, .null, .long 0, .int 0, .int 0, .int 0]))]) [0] rfl
  have hD9 := hD.sub (ws' := [(h, .inr (20, [.ref q1, .ref q3, .ref q5, .int 0, .int 0, .int 0, .int 0, .ref q7, .ref q9, .ref q11, .ref q13, .ref q15, .ref q17, .null, .long 0, .int 0, .int 0, .int 0]))]) [0] (by decide) rfl
  have hK9 := hK.sub (tys' := []) [] rfl
  exact W.vret hx hb hr (fun t ht hW => ⟨⟨(), rfl, trivial, ⟨q1, q3, q5, q7, q9, q11, q13, q15, q17, by rw [ht]; exact hP9, va_K.moved hW.alike hK9, hD9⟩⟩, hS.F ht⟩) hS.2.2 dX18_init_75
end
section
theorem dJ0_coder_7d493_0 : decode cJ0_coder_7d493 0 = .ok (.getstatic 38, 3) := by decide +kernel
theorem dJ0_coder_7d493_3 : decode cJ0_coder_7d493 3 = .ok (.ifCond .eq 10, 3) := by decide +kernel
theorem dJ0_coder_7d493_6 : decode cJ0_coder_7d493 6 = .ok (.aload_n 0, 1) := by decide +kernel
theorem dJ0_coder_7d493_7 : decode cJ0_coder_7d493 7 = .ok (.getfield 15, 3) := by decide +kernel
theorem dJ0_coder_7d493_10 : decode cJ0_coder_7d493 10 = .ok (.goto 4, 3) := by decide +kernel
theorem dJ0_coder_7d493_14 : decode cJ0_coder_7d493 14 = .ok (.ireturn, 1) := by decide +kernel
theorem dJ0_isLatin1_aae02_0 : decode cJ0_isLatin1_aae02 0 = .ok (.getstatic 38, 3) := by decide +kernel
theorem dJ0_isLatin1_aae02_3 : decode cJ0_isLatin1_aae02 3 = .ok (.ifCond .eq 14, 3) := by decide +kernel
theorem dJ0_isLatin1_aae02_6 : decode cJ0_isLatin1_aae02 6 = .ok (.aload_n 0, 1) := by decide +kernel
theorem dJ0_isLatin1_aae02_7 : decode cJ0_isLatin1_aae02 7 = .ok (.getfield 15, 3) := by decide +kernel
theorem dJ0_isLatin1_aae02_10 : decode cJ0_isLatin1_aae02 10 = .ok (.ifCond .ne 7, 3) := by decide +kernel
theorem dJ0_isLatin1_aae02_13 : decode cJ0_isLatin1_aae02 13 = .ok (.iconst 1, 1) := by decide +kernel
theorem dJ0_isLatin1_aae02_14 : decode cJ0_isLatin1_aae02 14 = .ok (.goto 4, 3) := by decide +kernel
theorem dJ0_isLatin1_aae02_18 : decode cJ0_isLatin1_aae02 18 = .ok (.ireturn, 1) := by decide +kernel
theorem dJ0_length_8abf5_0 : decode cJ0_length_8abf5 0 = .ok (.aload_n 0, 1) := by decide +kernel
theorem dJ0_length_8abf5_1 : decode cJ0_length_8abf5 1 = .ok (.getfield 9, 3) := by decide +kernel
theorem dJ0_length_8abf5_4 : decode cJ0_length_8abf5 4 = .ok (.arraylength, 1) := by decide +kernel
theorem dJ0_length_8abf5_5 : decode cJ0_length_8abf5 5 = .ok (.aload_n 0, 1) := by decide +kernel
theorem dJ0_length_8abf5_6 : decode cJ0_length_8abf5 6 = .ok (.invokevirtual 335, 3) := by decide +kernel
theorem dJ0_length_8abf5_9 : decode cJ0_length_8abf5 9 = .ok (.ishr, 1) := by decide +kernel
theorem dJ0_length_8abf5_10 : decode cJ0_length_8abf5 10 = .ok (.ireturn, 1) := by decide +kernel
theorem dJ1_canEncode_9a6ad_0 : decode cJ1_canEncode_9a6ad 0 = .ok (.iload_n 0, 1) := by decide +kernel
theorem dJ1_canEncode_9a6ad_1 : decode cJ1_canEncode_9a6ad 1 = .ok (.ifCond .lt 14, 3) := by decide +kernel
theorem dJ1_canEncode_9a6ad_4 : decode cJ1_canEncode_9a6ad 4 = .ok (.iload_n 0, 1) := by decide +kernel
theorem dJ1_canEncode_9a6ad_5 : decode cJ1_canEncode_9a6ad 5 = .ok (.sipush 255, 3) := by decide +kernel
theorem dJ1_canEncode_9a6ad_8 : decode cJ1_canEncode_9a6ad 8 = .ok (.if_icmp .gt 7, 3) := by decide +kernel
theorem dJ1_canEncode_9a6ad_11 : decode cJ1_canEncode_9a6ad 11 = .ok (.iconst 1, 1) := by decide +kernel
theorem dJ1_canEncode_9a6ad_12 : decode cJ1_canEncode_9a6ad 12 = .ok (.goto 4, 3) := by decide +kernel
theorem dJ1_canEncode_9a6ad_15 : decode cJ1_canEncode_9a6ad 15 = .ok (.iconst 0, 1) := by decide +kernel
theorem dJ1_canEncode_9a6ad_16 : decode cJ1_canEncode_9a6ad 16 = .ok (.ireturn, 1) := by decide +kernel
theorem dJ1_indexOfChar_4cfef_0 : decode cJ1_indexOfChar_4cfef 0 = .ok (.iload_n 1, 1) := by decide +kernel
theorem dJ1_indexOfChar_4cfef_1 : decode cJ1_indexOfChar_4cfef 1 = .ok (.i2b, 1) := by decide +kernel
theorem dJ1_indexOfChar_4cfef_2 : decode cJ1_indexOfChar_4cfef 2 = .ok (.istore 4, 2) := by decide +kernel
theorem dJ1_indexOfChar_4cfef_4 : decode cJ1_indexOfChar_4cfef 4 = .ok (.iload_n 2, 1) := by decide +kernel
theorem dJ1_indexOfChar_4cfef_5 : decode cJ1_indexOfChar_4cfef 5 = .ok (.istore 5, 2) := by decide +kernel
theorem dJ1_indexOfChar_4cfef_7 : decode cJ1_indexOfChar_4cfef 7 = .ok (.iload 5, 2) := by decide +kernel
theorem dJ1_indexOfChar_4cfef_9 : decode cJ1_indexOfChar_4cfef 9 = .ok (.iload_n 3, 1) := by decide +kernel
theorem dJ1_indexOfChar_4cfef_10 : decode cJ1_indexOfChar_4cfef 10 = .ok (.if_icmp .ge 21, 3) := by decide +kernel
theorem dJ1_indexOfChar_4cfef_13 : decode cJ1_indexOfChar_4cfef 13 = .ok (.aload_n 0, 1) := by decide +kernel
theorem dJ1_indexOfChar_4cfef_14 : decode cJ1_indexOfChar_4cfef 14 = .ok (.iload 5, 2) := by decide +kernel
theorem dJ1_indexOfChar_4cfef_16 : decode cJ1_indexOfChar_4cfef 16 = .ok (.baload, 1) := by decide +kernel
theorem dJ1_indexOfChar_4cfef_17 : decode cJ1_indexOfChar_4cfef 17 = .ok (.iload 4, 2) := by decide +kernel
theorem dJ1_indexOfChar_4cfef_19 : decode cJ1_indexOfChar_4cfef 19 = .ok (.if_icmp .ne 6, 3) := by decide +kernel
theorem dJ1_indexOfChar_4cfef_25 : decode cJ1_indexOfChar_4cfef 25 = .ok (.iinc 5 1, 3) := by decide +kernel
theorem dJ1_indexOfChar_4cfef_28 : decode cJ1_indexOfChar_4cfef 28 = .ok (.goto (-21), 3) := by decide +kernel
theorem dJ1_indexOfChar_4cfef_31 : decode cJ1_indexOfChar_4cfef 31 = .ok (.iconst (-1), 1) := by decide +kernel
theorem dJ1_indexOfChar_4cfef_32 : decode cJ1_indexOfChar_4cfef 32 = .ok (.ireturn, 1) := by decide +kernel
theorem dJ1_indexOf_4cfef_0 : decode cJ1_indexOf_4cfef 0 = .ok (.iload_n 1, 1) := by decide +kernel
theorem dJ1_indexOf_4cfef_1 : decode cJ1_indexOf_4cfef 1 = .ok (.invokestatic 88, 3) := by decide +kernel
theorem dJ1_indexOf_4cfef_4 : decode cJ1_indexOf_4cfef 4 = .ok (.ifCond .ne 5, 3) := by decide +kernel
theorem dJ1_indexOf_4cfef_9 : decode cJ1_indexOf_4cfef 9 = .ok (.iload_n 2, 1) := by decide +kernel
theorem dJ1_indexOf_4cfef_10 : decode cJ1_indexOf_4cfef 10 = .ok (.iconst 0, 1) := by decide +kernel
theorem dJ1_indexOf_4cfef_11 : decode cJ1_indexOf_4cfef 11 = .ok (.invokestatic 92, 3) := by decide +kernel
theorem dJ1_indexOf_4cfef_14 : decode cJ1_indexOf_4cfef 14 = .ok (.istore_n 2, 1) := by decide +kernel
theorem dJ1_indexOf_4cfef_15 : decode cJ1_indexOf_4cfef 15 = .ok (.iload_n 3, 1) := by decide +kernel
theorem dJ1_indexOf_4cfef_16 : decode cJ1_indexOf_4cfef 16 = .ok (.aload_n 0, 1) := by decide +kernel
theorem dJ1_indexOf_4cfef_17 : decode cJ1_indexOf_4cfef 17 = .ok (.arraylength, 1) := by decide +kernel
theorem dJ1_indexOf_4cfef_18 : decode cJ1_indexOf_4cfef 18 = .ok (.invokestatic 38, 3) := by decide +kernel
theorem dJ1_indexOf_4cfef_21 : decode cJ1_indexOf_4cfef 21 = .ok (.istore_n 3, 1) := by decide +kernel
theorem dJ1_indexOf_4cfef_22 : decode cJ1_indexOf_4cfef 22 = .ok (.iload_n 2, 1) := by decide +kernel
theorem dJ1_indexOf_4cfef_23 : decode cJ1_indexOf_4cfef 23 = .ok (.iload_n 3, 1) := by decide +kernel
theorem dJ1_indexOf_4cfef_24 : decode cJ1_indexOf_4cfef 24 = .ok (.if_icmp .lt 5, 3) := by decide +kernel
theorem dJ1_indexOf_4cfef_29 : decode cJ1_indexOf_4cfef 29 = .ok (.aload_n 0, 1) := by decide +kernel
theorem dJ1_indexOf_4cfef_30 : decode cJ1_indexOf_4cfef 30 = .ok (.iload_n 1, 1) := by decide +kernel
theorem dJ1_indexOf_4cfef_31 : decode cJ1_indexOf_4cfef 31 = .ok (.iload_n 2, 1) := by decide +kernel
theorem dJ1_indexOf_4cfef_32 : decode cJ1_indexOf_4cfef 32 = .ok (.iload_n 3, 1) := by decide +kernel
theorem dJ1_indexOf_4cfef_33 : decode cJ1_indexOf_4cfef 33 = .ok (.invokestatic 95, 3) := by decide +kernel
theorem dJ1_indexOf_4cfef_36 : decode cJ1_indexOf_4cfef 36 = .ok (.ireturn, 1) := by decide +kernel
theorem dJ0_indexOf_7cf53_0 : decode cJ0_indexOf_7cf53 0 = .ok (.aload_n 0, 1) := by decide +kernel
theorem dJ0_indexOf_7cf53_1 : decode cJ0_indexOf_7cf53 1 = .ok (.invokevirtual 492, 3) := by decide +kernel
theorem dJ0_indexOf_7cf53_4 : decode cJ0_indexOf_7cf53 4 = .ok (.ifCond .eq 19, 3) := by decide +kernel
theorem dJ0_indexOf_7cf53_7 : decode cJ0_indexOf_7cf53 7 = .ok (.aload_n 0, 1) := by decide +kernel
theorem dJ0_indexOf_7cf53_8 : decode cJ0_indexOf_7cf53 8 = .ok (.getfield 9, 3) := by decide +kernel
theorem dJ0_indexOf_7cf53_11 : decode cJ0_indexOf_7cf53 11 = .ok (.iload_n 1, 1) := by decide +kernel
theorem dJ0_indexOf_7cf53_12 : decode cJ0_indexOf_7cf53 12 = .ok (.iload_n 2, 1) := by decide +kernel
theorem dJ0_indexOf_7cf53_13 : decode cJ0_indexOf_7cf53 13 = .ok (.aload_n 0, 1) := by decide +kernel
theorem dJ0_indexOf_7cf53_14 : decode cJ0_indexOf_7cf53 14 = .ok (.invokevirtual 505, 3) := by decide +kernel
theorem dJ0_indexOf_7cf53_17 : decode cJ0_indexOf_7cf53 17 = .ok (.invokestatic 637, 3) := by decide +kernel
theorem dJ0_indexOf_7cf53_20 : decode cJ0_indexOf_7cf53 20 = .ok (.goto 16, 3) := by decide +kernel
theorem dJ0_indexOf_7cf53_36 : decode cJ0_indexOf_7cf53 36 = .ok (.ireturn, 1) := by decide +kernel
theorem dJ0_indexOf_0f7a4_0 : decode cJ0_indexOf_0f7a4 0 = .ok (.aload_n 0, 1) := by decide +kernel
theorem dJ0_indexOf_0f7a4_1 : decode cJ0_indexOf_0f7a4 1 = .ok (.iload_n 1, 1) := by decide +kernel
theorem dJ0_indexOf_0f7a4_2 : decode cJ0_indexOf_0f7a4 2 = .ok (.iconst 0, 1) := by decide +kernel
theorem dJ0_indexOf_0f7a4_3 : decode cJ0_indexOf_0f7a4 3 = .ok (.invokevirtual 633, 3) := by decide +kernel
theorem dJ0_indexOf_0f7a4_6 : decode cJ0_indexOf_0f7a4 6 = .ok (.ireturn, 1) := by decide +kernel
/-! the text "-~!*&idID" as the class and the check hold it, and the methods of String that look into it for the sign 0 -/
def sb_9 : List Int32 := [45, 126, 33, 42, 38, 105, 100, 73, 68]
abbrev nf : Nat → Prop := fun _ => False
def sC (A : Nat → Prop) (U : State) (H : Heap) : Prop := va_Z "java/lang/String" "COMPACT_STRINGS" "Z" (.int 1) A U H
def sK (A : Nat → Prop) (U : State) (H : Heap) (a v : Nat) : Prop := va_O "java/lang/String" a A U H ∧ va_OF "java/lang/String" "coder" "B" (.int 0) a A U H ∧ va_OF "java/lang/String" "value" "[B" (.ref v) a A U H ∧ va_T .byte v 9 (fun j => .int (sb_9.getD j 0)) A U H
def sB (A : Nat → Prop) (U : State) (H : Heap) (a v : Nat) : Prop := sC A U H ∧ sK A U H a v
def sW (own : String) (idx : Nat) (A : Nat → Prop) (U : State) (H : Heap) : Prop := ∃ a v : Nat, vk_R own idx "-~!*&idID" a U ∧ sB A U H a v
theorem sB.call {A B : Nat → Prop} {s U : State} {H : Heap} {locs : List Loc} {a v : Nat} (h : sB A s s.heap a v) (hS : va_S A s.heap H locs) (hAB : ∀ q, B q → A q) (hW : s.WarmedH U.vm) (hU : U.heap = H) : sB B U U.heap a v := by
  obtain ⟨h0, h1, h2, h3, h4⟩ := h
  rw [hU]
  exact ⟨((h0.kept hS.2.1).narrow hAB).moved hW.alike, ((h1.kept hS.2.1).narrow hAB).moved hW.alike, ((h2.kept hS.2.1).narrow hAB).moved hW.alike, ((h3.kept hS.2.1).narrow hAB).moved hW.alike, ((h4.kept hS.2.1).narrow hAB).moved hW.alike⟩
theorem sB.blind {A : Nat → Prop} {U : State} {b v : Nat} (a : Array Value) (g : JFrame) (mk : MethodId) (h : sB A U U.heap b v) : sB A (U.calling g mk a) (U.calling g mk a).heap b v := by
  obtain ⟨h0, h1, h2, h3, h4⟩ := h
  exact ⟨h0.moved (u := U) (Vm.Alike.refl U.vm), h1.moved (u := U) (Vm.Alike.refl U.vm), h2.moved (u := U) (Vm.Alike.refl U.vm), h3.moved (u := U) (Vm.Alike.refl U.vm), h4.moved (u := U) (Vm.Alike.refl U.vm)⟩
theorem sB.recv {A : Nat → Prop} {s : State} {H : Heap} {locs : List Loc} {a v : Nat} (h : sB A s s.heap a v) (hS : va_S A s.heap H locs) : ∃ cell : Cell, H[a]? = some cell ∧ cell.vm.isStatics = false ∧ s.vm.findClass "java/lang/String" = some cell.cls := by
  obtain ⟨cell, h1, h2, h3, -⟩ := h.2.1.kept hS.2.1
  exact ⟨cell, h1, h2, h3⟩
theorem sW.call {own : String} {idx : Nat} {A B : Nat → Prop} {s U : State} {H : Heap} {locs : List Loc} (h : sW own idx A s s.heap) (hS : va_S A s.heap H locs) (hAB : ∀ q, B q → A q) (hW : s.WarmedH U.vm) (hU : U.heap = H) : sW own idx B U U.heap := by
  obtain ⟨a, v, h1, h2⟩ := h
  exact ⟨a, v, vk_R.warm hW h1, h2.call hS hAB hW hU⟩
theorem sW.blind {own : String} {idx : Nat} {A : Nat → Prop} {U : State} (a : Array Value) (g : JFrame) (mk : MethodId) (h : sW own idx A U U.heap) : sW own idx A (U.calling g mk a) (U.calling g mk a).heap := by
  obtain ⟨b, v, h1, h2⟩ := h
  exact ⟨b, v, vk_R.same (u := U) rfl h1, h2.blind a g mk⟩
def ws_J0_coder_7d493 : List Cond := .code yJ0_coder_7d493 cJ0_coder_7d493 1 (some .byte) :: ([.fieldLink RJ0 38 "java/lang/String" "COMPACT_STRINGS" "Z", .fieldLink RJ0 15 "java/lang/String" "coder" "B"] ++ ([]))
set_option maxHeartbeats 4000000 in
set_option maxRecDepth 100000 in
theorem s_J0_coder_7d493 (l : Launch) (dC : Nat → ClassId) (dI : Nat → Nat → Nat) (a : Nat) (v : Nat) : Met l yJ0_coder_7d493 ws_J0_coder_7d493 ({ frames := 0, cells := 0, slots := 0, locals := 0 }) (va_Pc [.ref a] (fun U => va_P (dC, dI) vwCl [] U.heap ∧ va_K (dC, dI) vwCl [] U ∧ sB nf U U.heap a v)) (vp_Si (fun r => r = 0)) 0 0 (fun _ => False) := by
  refine Met.ofW (cc := cJ0_coder_7d493) (maxL := 1) (ret := (some .byte)) (by decide) rfl ?_
  intro p e s m args below meth c s₁ B hml hv
  obtain ⟨rfl, hP, hK, hH⟩ := hv
  have hx := B.exec
  have hb := B.bytes
  have hr := B.returns
  have hts := atoms_spec (ws := ws_J0_coder_7d493) B.pre
  have hown : s.vm.findClass RJ0 = some m.cls := findClass_of_methodNamed B.named
  have hlocks := B.notSynchronized
  have hl := lv_entry ([.ref a]) (n := 1) (Nat.le_of_ble_eq_true rfl)
  rw [lg_entry_eq]
  generalize (lg_sl ([.ref a]) ++ List.replicate (1 - (lg_sl ([.ref a])).length) Slot.unset).toArray = ls at hl ⊢
  have hl : lv_has ls 1 [(0, .ref a)] := hl
  have hP : va_P (dC, dI) vwCl [] s.heap := hP
  refine va_gets hx hb hH.1 va_S.rf hown (hts (.fieldLink RJ0 38 "java/lang/String" "COMPACT_STRINGS" "Z") (by decide +kernel)) (fun _ h9 => h9) dJ0_coder_7d493_0 ?_
  refine lv_if_eq (tgt := 13) hx hb dJ0_coder_7d493_3 (by decide) (fun c_1 => absurd c_1 (by decide)) (fun c_1 => ?_)
  refine lv_aload_n hx hb dJ0_coder_7d493_6 rfl (lv_at hl 0 rfl) ?_
  refine vk_getf hx hb hH.2.2.1 va_S.rf hown (hts (.fieldLink RJ0 15 "java/lang/String" "coder" "B") (by decide +kernel)) (fun _ h9 => h9) dJ0_coder_7d493_7 ?_
  refine lv_goto (tgt := 14) hx hb dJ0_coder_7d493_10 (by decide) ?_
  exact W.zret (v := 0) hx hb hr (by decide) (fun t ht hW => ⟨0, rfl, rfl, ht⟩) (fun q h => nomatch h) dJ0_coder_7d493_14

def ws_J0_isLatin1_aae02 : List Cond := .code yJ0_isLatin1_aae02 cJ0_isLatin1_aae02 1 (some .boolean) :: ([.fieldLink RJ0 38 "java/lang/String" "COMPACT_STRINGS" "Z", .fieldLink RJ0 15 "java/lang/String" "coder" "B"] ++ ([]))
set_option maxHeartbeats 4000000 in
set_option maxRecDepth 100000 in
theorem s_J0_isLatin1_aae02 (l : Launch) (dC : Nat → ClassId) (dI : Nat → Nat → Nat) (a : Nat) (v : Nat) : Met l yJ0_isLatin1_aae02 ws_J0_isLatin1_aae02 ({ frames := 0, cells := 0, slots := 0, locals := 0 }) (va_Pc [.ref a] (fun U => va_P (dC, dI) vwCl [] U.heap ∧ va_K (dC, dI) vwCl [] U ∧ sB nf U U.heap a v)) (vp_Si (fun r => r = 1)) 0 0 (fun _ => False) := by
  refine Met.ofW (cc := cJ0_isLatin1_aae02) (maxL := 1) (ret := (some .boolean)) (by decide) rfl ?_
  intro p e s m args below meth c s₁ B hml hv
  obtain ⟨rfl, hP, hK, hH⟩ := hv
  have hx := B.exec
  have hb := B.bytes
  have hr := B.returns
  have hts := atoms_spec (ws := ws_J0_isLatin1_aae02) B.pre
  have hown : s.vm.findClass RJ0 = some m.cls := findClass_of_methodNamed B.named
  have hlocks := B.notSynchronized
  have hl := lv_entry ([.ref a]) (n := 1) (Nat.le_of_ble_eq_true rfl)
  rw [lg_entry_eq]
  generalize (lg_sl ([.ref a]) ++ List.replicate (1 - (lg_sl ([.ref a])).length) Slot.unset).toArray = ls at hl ⊢
  have hl : lv_has ls 1 [(0, .ref a)] := hl
  have hP : va_P (dC, dI) vwCl [] s.heap := hP
  refine va_gets hx hb hH.1 va_S.rf hown (hts (.fieldLink RJ0 38 "java/lang/String" "COMPACT_STRINGS" "Z") (by decide +kernel)) (fun _ h9 => h9) dJ0_isLatin1_aae02_0 ?_
  refine lv_if_eq (tgt := 17) hx hb dJ0_isLatin1_aae02_3 (by decide) (fun c_1 => absurd c_1 (by decide)) (fun c_1 => ?_)
  refine lv_aload_n hx hb dJ0_isLatin1_aae02_6 rfl (lv_at hl 0 rfl) ?_
  refine vk_getf hx hb hH.2.2.1 va_S.rf hown (hts (.fieldLink RJ0 15 "java/lang/String" "coder" "B") (by decide +kernel)) (fun _ h9 => h9) dJ0_isLatin1_aae02_7 ?_
  refine lv_if_ne (tgt := 17) hx hb dJ0_isLatin1_aae02_10 (by decide) (fun c_2 => absurd (by decide) c_2) (fun c_2 => ?_)
  refine lv_iconst (v := 1) hx hb dJ0_isLatin1_aae02_13 (by decide) ?_
  refine lv_goto (tgt := 18) hx hb dJ0_isLatin1_aae02_14 (by decide) ?_
  exact W.zret (v := 1) hx hb hr (by decide) (fun t ht hW => ⟨1, rfl, rfl, ht⟩) (fun q h => nomatch h) dJ0_isLatin1_aae02_18

def ws_J0_length_8abf5 : List Cond := .code yJ0_length_8abf5 cJ0_length_8abf5 1 (some .int) :: ([.fieldLink RJ0 9 "java/lang/String" "value" "[B"] ++ ((wsV RJ0 335 RJ0 yJ0_coder_7d493 ws_J0_coder_7d493) ++ []))
set_option maxHeartbeats 4000000 in
set_option maxRecDepth 100000 in
theorem s_J0_length_8abf5 (l : Launch) (dC : Nat → ClassId) (dI : Nat → Nat → Nat) (a : Nat) (v : Nat) : Met l yJ0_length_8abf5 ws_J0_length_8abf5 ({ frames := 1, cells := 0, slots := 0, locals := 20 }) (va_Pc [.ref a] (fun U => va_P (dC, dI) vwCl [] U.heap ∧ va_K (dC, dI) vwCl [] U ∧ sB nf U U.heap a v)) (vp_Si (fun r => r = 9)) 0 0 (fun _ => False) := by
  refine Met.ofW (cc := cJ0_length_8abf5) (maxL := 1) (ret := (some .int)) (by decide) rfl ?_
  intro p e s m args below meth c s₁ B hml hv
  obtain ⟨rfl, hP, hK, hH⟩ := hv
  have hx := B.exec
  have hb := B.bytes
  have hr := B.returns
  have hts := atoms_spec (ws := ws_J0_length_8abf5) B.pre
  have hown : s.vm.findClass RJ0 = some m.cls := findClass_of_methodNamed B.named
  have hlocks := B.notSynchronized
  have hl := lv_entry ([.ref a]) (n := 1) (Nat.le_of_ble_eq_true rfl)
  rw [lg_entry_eq]
  generalize (lg_sl ([.ref a]) ++ List.replicate (1 - (lg_sl ([.ref a])).length) Slot.unset).toArray = ls at hl ⊢
  have hl : lv_has ls 1 [(0, .ref a)] := hl
  have hP : va_P (dC, dI) vwCl [] s.heap := hP
  refine lv_aload_n hx hb dJ0_length_8abf5_0 rfl (lv_at hl 0 rfl) ?_
  refine vk_getf hx hb hH.2.2.2.1 va_S.rf hown (hts (.fieldLink RJ0 9 "java/lang/String" "value" "[B") (by decide +kernel)) (fun _ h9 => h9) dJ0_length_8abf5_1 ?_
  refine va_tlen (v := 9) hx hb hH.2.2.2.2 va_S.rf (by decide) dJ0_length_8abf5_4 ?_
  refine lv_aload_n hx hb dJ0_length_8abf5_5 rfl (lv_at hl 0 rfl) ?_
  have hPc := hP.sub (ws' := []) [] rfl
  have hKc := hK.sub (tys' := []) [] rfl
  refine vp_callSi (va_Run.run (va_runV (As := []) (rest := [.int 9]) ⟨hx, hb, hml, hown, hts⟩ (s_J0_coder_7d493 l dC dI a v) (cwV 0 hts (goodIn_sub (ws := wsV RJ0 335 RJ0 yJ0_coder_7d493 ws_J0_coder_7d493) (fun w h => (List.mem_cons_of_mem _ (List.mem_append_right _ (List.mem_append_left _ h)))) (by decide +kernel)) rfl rfl rfl (by decide +kernel) ⟨Nat.le_of_ble_eq_true rfl, Nat.le_of_ble_eq_true rfl⟩) ⟨fun a U g mk q => by obtain ⟨q0, qP, qK, qH⟩ := q; exact ⟨q0, qP, va_K.moved (u := U) (U := U.calling g mk a) (Vm.Alike.refl U.vm) qK, qH.blind a g mk⟩, sB.recv hH va_S.rf, fun U hU hW => ⟨rfl, by rw [hU]; exact hPc, va_K.moved hW.alike hKc, hH.call va_S.rf (fun _ q => q) hW hU⟩⟩ rfl rfl hl.1 rfl (lv_room (Nat.le_of_ble_eq_true rfl)) dJ0_length_8abf5_6 ⟨(Nat.le_of_ble_eq_true rfl), (Nat.le_of_ble_eq_true rfl)⟩)) (fun r_1 hr_1 => ?_)
  subst hr_1
  refine lv_ishr hx hb dJ0_length_8abf5_9 ?_
  refine lv_topi (fun x2 ex2 => ?_)
  obtain rfl : x2 = 9 := ex2.trans (by decide)
  exact W.iret (v := 9) hx hb hr (fun t ht hW => ⟨9, rfl, rfl, ht⟩) (fun q h => nomatch h) dJ0_length_8abf5_10

def f_J1_canEncode (x0 : Int32) : Int32 := if x0 < 0 then 0 else if 255 < x0 then 0 else 1
def wc_J1_canEncode_9a6ad : List Cond := .code yJ1_canEncode_9a6ad cJ1_canEncode_9a6ad 1 (some .boolean) :: ([] ++ ([]))
set_option maxHeartbeats 4000000 in
set_option maxRecDepth 100000 in
theorem c_J1_canEncode_9a6ad (l : Launch) (x0 : Int32) : Met l yJ1_canEncode_9a6ad wc_J1_canEncode_9a6ad ({ frames := 0, cells := 0, slots := 0, locals := 0 }) (va_Pc [.int x0] (fun _ => True)) (vp_Si (fun r => r = f_J1_canEncode x0)) 0 0 (fun _ => False) := by
  refine Met.ofW (cc := cJ1_canEncode_9a6ad) (maxL := 1) (ret := (some .boolean)) (by decide) rfl ?_
  intro p e s m args below meth c s₁ B hml hv
  obtain ⟨rfl, -⟩ := hv
  have hx := B.exec
  have hb := B.bytes
  have hr := B.returns
  have hts := atoms_spec (ws := wc_J1_canEncode_9a6ad) B.pre
  have hown : s.vm.findClass RJ1 = some m.cls := findClass_of_methodNamed B.named
  have hlocks := B.notSynchronized
  have hl := lv_entry ([.int x0]) (n := 1) (Nat.le_of_ble_eq_true rfl)
  rw [lg_entry_eq]
  generalize (lg_sl ([.int x0]) ++ List.replicate (1 - (lg_sl ([.int x0])).length) Slot.unset).toArray = ls at hl ⊢
  have hl : lv_has ls 1 [(0, .int x0)] := hl
  refine lv_iload_n hx hb dJ1_canEncode_9a6ad_0 rfl (lv_at hl 0 rfl) ?_
  refine lv_if_lt (tgt := 15) hx hb dJ1_canEncode_9a6ad_1 (by decide) (fun c_1 => ?_) (fun c_1 => ?_)
  · refine lv_iconst (v := 0) hx hb dJ1_canEncode_9a6ad_15 (by decide) ?_
    exact W.zret (v := 0) hx hb hr (by decide) (fun t ht hW => ⟨0, rfl, by simp only [f_J1_canEncode, if_pos c_1], ht⟩) (fun q h => nomatch h) dJ1_canEncode_9a6ad_16
  · refine lv_iload_n hx hb dJ1_canEncode_9a6ad_4 rfl (lv_at hl 0 rfl) ?_
    refine lv_sipush (v := 255) hx hb dJ1_canEncode_9a6ad_5 (by decide) ?_
    refine lv_icmp_gt (tgt := 15) hx hb dJ1_canEncode_9a6ad_8 (by decide) (fun c_2 => ?_) (fun c_2 => ?_)
    · refine lv_iconst (v := 0) hx hb dJ1_canEncode_9a6ad_15 (by decide) ?_
      exact W.zret (v := 0) hx hb hr (by decide) (fun t ht hW => ⟨0, rfl, by simp only [f_J1_canEncode, if_neg c_1, if_pos c_2], ht⟩) (fun q h => nomatch h) dJ1_canEncode_9a6ad_16
    · refine lv_iconst (v := 1) hx hb dJ1_canEncode_9a6ad_11 (by decide) ?_
      refine lv_goto (tgt := 16) hx hb dJ1_canEncode_9a6ad_12 (by decide) ?_
      exact W.zret (v := 1) hx hb hr (by decide) (fun t ht hW => ⟨1, rfl, by simp only [f_J1_canEncode, if_neg c_1, if_neg c_2], ht⟩) (fun q h => nomatch h) dJ1_canEncode_9a6ad_16

def ws_J1_indexOfChar_4cfef : List Cond := .code yJ1_indexOfChar_4cfef cJ1_indexOfChar_4cfef 6 (some .int) :: ([] ++ ([]))
set_option maxHeartbeats 4000000 in
set_option maxRecDepth 100000 in
theorem s_J1_indexOfChar_4cfef (l : Launch) (dC : Nat → ClassId) (dI : Nat → Nat → Nat) (a : Nat) (v : Nat) : Met l yJ1_indexOfChar_4cfef ws_J1_indexOfChar_4cfef ({ frames := 0, cells := 0, slots := 0, locals := 0 }) (va_Pc [.ref v, .int 0, .int 0, .int 9] (fun U => va_P (dC, dI) vwCl [] U.heap ∧ va_K (dC, dI) vwCl [] U ∧ sB nf U U.heap a v)) (vp_Si (fun r => r = (-1))) 0 0 (fun _ => False) := by
  refine Met.ofW (cc := cJ1_indexOfChar_4cfef) (maxL := 6) (ret := (some .int)) (by decide) rfl ?_
  intro p e s m args below meth c s₁ B hml hv
  obtain ⟨rfl, hP, hK, hH⟩ := hv
  have hx := B.exec
  have hb := B.bytes
  have hr := B.returns
  have hts := atoms_spec (ws := ws_J1_indexOfChar_4cfef) B.pre
  have hown : s.vm.findClass RJ1 = some m.cls := findClass_of_methodNamed B.named
  have hlocks := B.notSynchronized
  have hl := lv_entry ([.ref v, .int 0, .int 0, .int 9]) (n := 6) (Nat.le_of_ble_eq_true rfl)
  rw [lg_entry_eq]
  generalize (lg_sl ([.ref v, .int 0, .int 0, .int 9]) ++ List.replicate (6 - (lg_sl ([.ref v, .int 0, .int 0, .int 9])).length) Slot.unset).toArray = ls at hl ⊢
  have hl : lv_has ls 6 [(0, .ref v), (1, .int 0), (2, .int 0), (3, .int 9)] := hl
  have hP : va_P (dC, dI) vwCl [] s.heap := hP
  refine lv_iload_n hx hb dJ1_indexOfChar_4cfef_0 rfl (lv_at hl 1 rfl) ?_
  refine lv_i2b (v := 0) hx hb dJ1_indexOfChar_4cfef_1 (by decide) ?_
  refine lv_istore (lv' := [(4, .int 0), (0, .ref v), (1, .int 0), (2, .int 0), (3, .int 9)]) hx hb dJ1_indexOfChar_4cfef_2 hl (by decide) rfl (fun ls hl => ?_)
  refine lv_iload_n hx hb dJ1_indexOfChar_4cfef_4 rfl (lv_at hl 3 rfl) ?_
  refine lv_istore (lv' := [(5, .int 0), (4, .int 0), (0, .ref v), (1, .int 0), (2, .int 0), (3, .int 9)]) hx hb dJ1_indexOfChar_4cfef_5 hl (by decide) rfl (fun ls hl => ?_)
  refine lv_iload hx hb dJ1_indexOfChar_4cfef_7 (lv_at hl 0 rfl) ?_
  refine lv_iload_n hx hb dJ1_indexOfChar_4cfef_9 rfl (lv_at hl 5 rfl) ?_
  refine lv_icmp_ge (tgt := 31) hx hb dJ1_indexOfChar_4cfef_10 (by decide) (fun c_1 => absurd c_1 (by decide)) (fun c_1 => ?_)
  refine lv_aload_n hx hb dJ1_indexOfChar_4cfef_13 rfl (lv_at hl 2 rfl) ?_
  refine lv_iload hx hb dJ1_indexOfChar_4cfef_14 (lv_at hl 0 rfl) ?_
  refine va_tb (v := .int 45) hx hb hH.2.2.2.2 va_S.rf (by unfold vp_in; decide) (by rfl) dJ1_indexOfChar_4cfef_16 ?_
  refine lv_iload hx hb dJ1_indexOfChar_4cfef_17 (lv_at hl 1 rfl) ?_
  refine lv_icmp_ne (tgt := 25) hx hb dJ1_indexOfChar_4cfef_19 (by decide) (fun c_2 => ?_) (fun c_2 => absurd c_2 (by decide))
  refine lv_iinc (v := 1) (lv' := [(5, .int 1), (4, .int 0), (0, .ref v), (1, .int 0), (2, .int 0), (3, .int 9)]) hx hb dJ1_indexOfChar_4cfef_25 hl (k := 0) rfl (by decide) (by decide) rfl (fun ls hl => ?_)
  refine lv_goto (tgt := 7) hx hb dJ1_indexOfChar_4cfef_28 (by decide) ?_
  refine lv_iload hx hb dJ1_indexOfChar_4cfef_7 (lv_at hl 0 rfl) ?_
  refine lv_iload_n hx hb dJ1_indexOfChar_4cfef_9 rfl (lv_at hl 5 rfl) ?_
  refine lv_icmp_ge (tgt := 31) hx hb dJ1_indexOfChar_4cfef_10 (by decide) (fun c_3 => absurd c_3 (by decide)) (fun c_3 => ?_)
  refine lv_aload_n hx hb dJ1_indexOfChar_4cfef_13 rfl (lv_at hl 2 rfl) ?_
  refine lv_iload hx hb dJ1_indexOfChar_4cfef_14 (lv_at hl 0 rfl) ?_
  refine va_tb (v := .int 126) hx hb hH.2.2.2.2 va_S.rf (by unfold vp_in; decide) (by rfl) dJ1_indexOfChar_4cfef_16 ?_
  refine lv_iload hx hb dJ1_indexOfChar_4cfef_17 (lv_at hl 1 rfl) ?_
  refine lv_icmp_ne (tgt := 25) hx hb dJ1_indexOfChar_4cfef_19 (by decide) (fun c_4 => ?_) (fun c_4 => absurd c_4 (by decide))
  refine lv_iinc (v := 2) (lv' := [(5, .int 2), (4, .int 0), (0, .ref v), (1, .int 0), (2, .int 0), (3, .int 9)]) hx hb dJ1_indexOfChar_4cfef_25 hl (k := 0) rfl (by decide) (by decide) rfl (fun ls hl => ?_)
  refine lv_goto (tgt := 7) hx hb dJ1_indexOfChar_4cfef_28 (by decide) ?_
  refine lv_iload hx hb dJ1_indexOfChar_4cfef_7 (lv_at hl 0 rfl) ?_
  refine lv_iload_n hx hb dJ1_indexOfChar_4cfef_9 rfl (lv_at hl 5 rfl) ?_
  refine lv_icmp_ge (tgt := 31) hx hb dJ1_indexOfChar_4cfef_10 (by decide) (fun c_5 => absurd c_5 (by decide)) (fun c_5 => ?_)
  refine lv_aload_n hx hb dJ1_indexOfChar_4cfef_13 rfl (lv_at hl 2 rfl) ?_
  refine lv_iload hx hb dJ1_indexOfChar_4cfef_14 (lv_at hl 0 rfl) ?_
  refine va_tb (v := .int 33) hx hb hH.2.2.2.2 va_S.rf (by unfold vp_in; decide) (by rfl) dJ1_indexOfChar_4cfef_16 ?_
  refine lv_iload hx hb dJ1_indexOfChar_4cfef_17 (lv_at hl 1 rfl) ?_
  refine lv_icmp_ne (tgt := 25) hx hb dJ1_indexOfChar_4cfef_19 (by decide) (fun c_6 => ?_) (fun c_6 => absurd c_6 (by decide))
  refine lv_iinc (v := 3) (lv' := [(5, .int 3), (4, .int 0), (0, .ref v), (1, .int 0), (2, .int 0), (3, .int 9)]) hx hb dJ1_indexOfChar_4cfef_25 hl (k := 0) rfl (by decide) (by decide) rfl (fun ls hl => ?_)
  refine lv_goto (tgt := 7) hx hb dJ1_indexOfChar_4cfef_28 (by decide) ?_
  refine lv_iload hx hb dJ1_indexOfChar_4cfef_7 (lv_at hl 0 rfl) ?_
  refine lv_iload_n hx hb dJ1_indexOfChar_4cfef_9 rfl (lv_at hl 5 rfl) ?_
  refine lv_icmp_ge (tgt := 31) hx hb dJ1_indexOfChar_4cfef_10 (by decide) (fun c_7 => absurd c_7 (by decide)) (fun c_7 => ?_)
  refine lv_aload_n hx hb dJ1_indexOfChar_4cfef_13 rfl (lv_at hl 2 rfl) ?_
  refine lv_iload hx hb dJ1_indexOfChar_4cfef_14 (lv_at hl 0 rfl) ?_
  refine va_tb (v := .int 42) hx hb hH.2.2.2.2 va_S.rf (by unfold vp_in; decide) (by rfl) dJ1_indexOfChar_4cfef_16 ?_
  refine lv_iload hx hb dJ1_indexOfChar_4cfef_17 (lv_at hl 1 rfl) ?_
  refine lv_icmp_ne (tgt := 25) hx hb dJ1_indexOfChar_4cfef_19 (by decide) (fun c_8 => ?_) (fun c_8 => absurd c_8 (by decide))
  refine lv_iinc (v := 4) (lv' := [(5, .int 4), (4, .int 0), (0, .ref v), (1, .int 0), (2, .int 0), (3, .int 9)]) hx hb dJ1_indexOfChar_4cfef_25 hl (k := 0) rfl (by decide) (by decide) rfl (fun ls hl => ?_)
  refine lv_goto (tgt := 7) hx hb dJ1_indexOfChar_4cfef_28 (by decide) ?_
  refine lv_iload hx hb dJ1_indexOfChar_4cfef_7 (lv_at hl 0 rfl) ?_
  refine lv_iload_n hx hb dJ1_indexOfChar_4cfef_9 rfl (lv_at hl 5 rfl) ?_
  refine lv_icmp_ge (tgt := 31) hx hb dJ1_indexOfChar_4cfef_10 (by decide) (fun c_9 => absurd c_9 (by decide)) (fun c_9 => ?_)
  refine lv_aload_n hx hb dJ1_indexOfChar_4cfef_13 rfl (lv_at hl 2 rfl) ?_
  refine lv_iload hx hb dJ1_indexOfChar_4cfef_14 (lv_at hl 0 rfl) ?_
  refine va_tb (v := .int 38) hx hb hH.2.2.2.2 va_S.rf (by unfold vp_in; decide) (by rfl) dJ1_indexOfChar_4cfef_16 ?_
  refine lv_iload hx hb dJ1_indexOfChar_4cfef_17 (lv_at hl 1 rfl) ?_
  refine lv_icmp_ne (tgt := 25) hx hb dJ1_indexOfChar_4cfef_19 (by decide) (fun c_10 => ?_) (fun c_10 => absurd c_10 (by decide))
  refine lv_iinc (v := 5) (lv' := [(5, .int 5), (4, .int 0), (0, .ref v), (1, .int 0), (2, .int 0), (3, .int 9)]) hx hb dJ1_indexOfChar_4cfef_25 hl (k := 0) rfl (by decide) (by decide) rfl (fun ls hl => ?_)
  refine lv_goto (tgt := 7) hx hb dJ1_indexOfChar_4cfef_28 (by decide) ?_
  refine lv_iload hx hb dJ1_indexOfChar_4cfef_7 (lv_at hl 0 rfl) ?_
  refine lv_iload_n hx hb dJ1_indexOfChar_4cfef_9 rfl (lv_at hl 5 rfl) ?_
  refine lv_icmp_ge (tgt := 31) hx hb dJ1_indexOfChar_4cfef_10 (by decide) (fun c_11 => absurd c_11 (by decide)) (fun c_11 => ?_)
  refine lv_aload_n hx hb dJ1_indexOfChar_4cfef_13 rfl (lv_at hl 2 rfl) ?_
  refine lv_iload hx hb dJ1_indexOfChar_4cfef_14 (lv_at hl 0 rfl) ?_
  refine va_tb (v := .int 105) hx hb hH.2.2.2.2 va_S.rf (by unfold vp_in; decide) (by rfl) dJ1_indexOfChar_4cfef_16 ?_
  refine lv_iload hx hb dJ1_indexOfChar_4cfef_17 (lv_at hl 1 rfl) ?_
  refine lv_icmp_ne (tgt := 25) hx hb dJ1_indexOfChar_4cfef_19 (by decide) (fun c_12 => ?_) (fun c_12 => absurd c_12 (by decide))
  refine lv_iinc (v := 6) (lv' := [(5, .int 6), (4, .int 0), (0, .ref v), (1, .int 0), (2, .int 0), (3, .int 9)]) hx hb dJ1_indexOfChar_4cfef_25 hl (k := 0) rfl (by decide) (by decide) rfl (fun ls hl => ?_)
  refine lv_goto (tgt := 7) hx hb dJ1_indexOfChar_4cfef_28 (by decide) ?_
  refine lv_iload hx hb dJ1_indexOfChar_4cfef_7 (lv_at hl 0 rfl) ?_
  refine lv_iload_n hx hb dJ1_indexOfChar_4cfef_9 rfl (lv_at hl 5 rfl) ?_
  refine lv_icmp_ge (tgt := 31) hx hb dJ1_indexOfChar_4cfef_10 (by decide) (fun c_13 => absurd c_13 (by decide)) (fun c_13 => ?_)
  refine lv_aload_n hx hb dJ1_indexOfChar_4cfef_13 rfl (lv_at hl 2 rfl) ?_
  refine lv_iload hx hb dJ1_indexOfChar_4cfef_14 (lv_at hl 0 rfl) ?_
  refine va_tb (v := .int 100) hx hb hH.2.2.2.2 va_S.rf (by unfold vp_in; decide) (by rfl) dJ1_indexOfChar_4cfef_16 ?_
  refine lv_iload hx hb dJ1_indexOfChar_4cfef_17 (lv_at hl 1 rfl) ?_
  refine lv_icmp_ne (tgt := 25) hx hb dJ1_indexOfChar_4cfef_19 (by decide) (fun c_14 => ?_) (fun c_14 => absurd c_14 (by decide))
  refine lv_iinc (v := 7) (lv' := [(5, .int 7), (4, .int 0), (0, .ref v), (1, .int 0), (2, .int 0), (3, .int 9)]) hx hb dJ1_indexOfChar_4cfef_25 hl (k := 0) rfl (by decide) (by decide) rfl (fun ls hl => ?_)
  refine lv_goto (tgt := 7) hx hb dJ1_indexOfChar_4cfef_28 (by decide) ?_
  refine lv_iload hx hb dJ1_indexOfChar_4cfef_7 (lv_at hl 0 rfl) ?_
  refine lv_iload_n hx hb dJ1_indexOfChar_4cfef_9 rfl (lv_at hl 5 rfl) ?_
  refine lv_icmp_ge (tgt := 31) hx hb dJ1_indexOfChar_4cfef_10 (by decide) (fun c_15 => absurd c_15 (by decide)) (fun c_15 => ?_)
  refine lv_aload_n hx hb dJ1_indexOfChar_4cfef_13 rfl (lv_at hl 2 rfl) ?_
  refine lv_iload hx hb dJ1_indexOfChar_4cfef_14 (lv_at hl 0 rfl) ?_
  refine va_tb (v := .int 73) hx hb hH.2.2.2.2 va_S.rf (by unfold vp_in; decide) (by rfl) dJ1_indexOfChar_4cfef_16 ?_
  refine lv_iload hx hb dJ1_indexOfChar_4cfef_17 (lv_at hl 1 rfl) ?_
  refine lv_icmp_ne (tgt := 25) hx hb dJ1_indexOfChar_4cfef_19 (by decide) (fun c_16 => ?_) (fun c_16 => absurd c_16 (by decide))
  refine lv_iinc (v := 8) (lv' := [(5, .int 8), (4, .int 0), (0, .ref v), (1, .int 0), (2, .int 0), (3, .int 9)]) hx hb dJ1_indexOfChar_4cfef_25 hl (k := 0) rfl (by decide) (by decide) rfl (fun ls hl => ?_)
  refine lv_goto (tgt := 7) hx hb dJ1_indexOfChar_4cfef_28 (by decide) ?_
  refine lv_iload hx hb dJ1_indexOfChar_4cfef_7 (lv_at hl 0 rfl) ?_
  refine lv_iload_n hx hb dJ1_indexOfChar_4cfef_9 rfl (lv_at hl 5 rfl) ?_
  refine lv_icmp_ge (tgt := 31) hx hb dJ1_indexOfChar_4cfef_10 (by decide) (fun c_17 => absurd c_17 (by decide)) (fun c_17 => ?_)
  refine lv_aload_n hx hb dJ1_indexOfChar_4cfef_13 rfl (lv_at hl 2 rfl) ?_
  refine lv_iload hx hb dJ1_indexOfChar_4cfef_14 (lv_at hl 0 rfl) ?_
  refine va_tb (v := .int 68) hx hb hH.2.2.2.2 va_S.rf (by unfold vp_in; decide) (by rfl) dJ1_indexOfChar_4cfef_16 ?_
  refine lv_iload hx hb dJ1_indexOfChar_4cfef_17 (lv_at hl 1 rfl) ?_
  refine lv_icmp_ne (tgt := 25) hx hb dJ1_indexOfChar_4cfef_19 (by decide) (fun c_18 => ?_) (fun c_18 => absurd c_18 (by decide))
  refine lv_iinc (v := 9) (lv' := [(5, .int 9), (4, .int 0), (0, .ref v), (1, .int 0), (2, .int 0), (3, .int 9)]) hx hb dJ1_indexOfChar_4cfef_25 hl (k := 0) rfl (by decide) (by decide) rfl (fun ls hl => ?_)
  refine lv_goto (tgt := 7) hx hb dJ1_indexOfChar_4cfef_28 (by decide) ?_
  refine lv_iload hx hb dJ1_indexOfChar_4cfef_7 (lv_at hl 0 rfl) ?_
  refine lv_iload_n hx hb dJ1_indexOfChar_4cfef_9 rfl (lv_at hl 5 rfl) ?_
  refine lv_icmp_ge (tgt := 31) hx hb dJ1_indexOfChar_4cfef_10 (by decide) (fun c_19 => ?_) (fun c_19 => absurd (by decide) c_19)
  refine lv_iconst (v := (-1)) hx hb dJ1_indexOfChar_4cfef_31 (by decide) ?_
  exact W.iret (v := (-1)) hx hb hr (fun t ht hW => ⟨(-1), rfl, rfl, ht⟩) (fun q h => nomatch h) dJ1_indexOfChar_4cfef_32

def ws_J1_indexOf_4cfef : List Cond := .code yJ1_indexOf_4cfef cJ1_indexOf_4cfef 4 (some .int) :: ([.methodLink RJ1 92 Lib.Math.max.name, .static Lib.Math.max.name, .initialized "java/lang/Math", .code Lib.Math.max.name Lib.Math.max.code 2 (some .int), .methodLink RJ1 38 Lib.Math.min.name, .static Lib.Math.min.name, .code Lib.Math.min.name Lib.Math.min.code 2 (some .int)] ++ ((va_wsS RJ1 88 yJ1_canEncode_9a6ad wc_J1_canEncode_9a6ad) ++ ((va_wsS RJ1 95 yJ1_indexOfChar_4cfef ws_J1_indexOfChar_4cfef) ++ [])))
set_option maxHeartbeats 4000000 in
set_option maxRecDepth 100000 in
theorem s_J1_indexOf_4cfef (l : Launch) (dC : Nat → ClassId) (dI : Nat → Nat → Nat) (a : Nat) (v : Nat) : Met l yJ1_indexOf_4cfef ws_J1_indexOf_4cfef ({ frames := 1, cells := 0, slots := 0, locals := 25 }) (va_Pc [.ref v, .int 0, .int 0, .int 9] (fun U => va_P (dC, dI) vwCl [] U.heap ∧ va_K (dC, dI) vwCl [] U ∧ sB nf U U.heap a v)) (vp_Si (fun r => r = (-1))) 0 0 (fun _ => False) := by
  refine Met.ofW (cc := cJ1_indexOf_4cfef) (maxL := 4) (ret := (some .int)) (by decide) rfl ?_
  intro p e s m args below meth c s₁ B hml hv
  obtain ⟨rfl, hP, hK, hH⟩ := hv
  have hx := B.exec
  have hb := B.bytes
  have hr := B.returns
  have hts := atoms_spec (ws := ws_J1_indexOf_4cfef) B.pre
  have hown : s.vm.findClass RJ1 = some m.cls := findClass_of_methodNamed B.named
  have hlocks := B.notSynchronized
  have hl := lv_entry ([.ref v, .int 0, .int 0, .int 9]) (n := 4) (Nat.le_of_ble_eq_true rfl)
  rw [lg_entry_eq]
  generalize (lg_sl ([.ref v, .int 0, .int 0, .int 9]) ++ List.replicate (4 - (lg_sl ([.ref v, .int 0, .int 0, .int 9])).length) Slot.unset).toArray = ls at hl ⊢
  have hl : lv_has ls 4 [(0, .ref v), (1, .int 0), (2, .int 0), (3, .int 9)] := hl
  have hP : va_P (dC, dI) vwCl [] s.heap := hP
  refine lv_iload_n hx hb dJ1_indexOf_4cfef_0 rfl (lv_at hl 1 rfl) ?_
  refine vp_callSi (va_Run.run (va_runS (As := [.int 0]) (rest := []) ⟨hx, hb, hml, hown, hts⟩ (c_J1_canEncode_9a6ad l 0) (va_cwS 1 hts (goodIn_sub (ws := va_wsS RJ1 88 yJ1_canEncode_9a6ad wc_J1_canEncode_9a6ad) (fun w h => (List.mem_cons_of_mem _ (List.mem_append_right _ (List.mem_append_left _ h)))) (by decide +kernel)) rfl rfl rfl (by decide +kernel) ⟨(Nat.le_of_ble_eq_true rfl), (Nat.le_of_ble_eq_true rfl)⟩) ⟨fun _ _ _ _ q => q, fun U hU hW => ⟨rfl, trivial⟩⟩ rfl rfl hl.1 rfl (lv_room (Nat.le_of_ble_eq_true rfl)) dJ1_indexOf_4cfef_1 ⟨(Nat.zero_le _), (Nat.zero_le _)⟩)) (fun r_1 hr_1 => ?_)
  subst hr_1
  refine lv_if_ne (tgt := 9) hx hb dJ1_indexOf_4cfef_4 (by decide) (fun c_2 => ?_) (fun c_2 => absurd c_2 (by decide))
  refine lv_iload_n hx hb dJ1_indexOf_4cfef_9 rfl (lv_at hl 2 rfl) ?_
  refine lv_iconst (v := 0) hx hb dJ1_indexOf_4cfef_10 (by decide) ?_
  refine va_mmax hx hb (by rw [hml]; exact hl.1.symm) hown (hts (.methodLink RJ1 92 Lib.Math.max.name) (by decide +kernel)) (hts (.static Lib.Math.max.name) (by decide +kernel)) (hts (.initialized "java/lang/Math") (by decide +kernel)) (hts (.code Lib.Math.max.name Lib.Math.max.code 2 (some .int)) (by decide +kernel)) (Nat.le_of_ble_eq_true rfl) (Nat.le_of_ble_eq_true rfl) (Nat.le_of_ble_eq_true rfl) (Nat.le_of_ble_eq_true rfl) dJ1_indexOf_4cfef_11 ?_
  refine lv_topi (fun x3 ex3 => ?_)
  obtain rfl : x3 = 0 := ex3.trans (by decide)
  refine lv_istore_n (lv' := [(2, .int 0), (0, .ref v), (1, .int 0), (3, .int 9)]) hx hb dJ1_indexOf_4cfef_14 rfl hl (by decide) rfl (fun ls hl => ?_)
  refine lv_iload_n hx hb dJ1_indexOf_4cfef_15 rfl (lv_at hl 3 rfl) ?_
  refine lv_aload_n hx hb dJ1_indexOf_4cfef_16 rfl (lv_at hl 1 rfl) ?_
  refine va_tlen (v := 9) hx hb hH.2.2.2.2 va_S.rf (by decide) dJ1_indexOf_4cfef_17 ?_
  refine va_mmin hx hb (by rw [hml]; exact hl.1.symm) hown (hts (.methodLink RJ1 38 Lib.Math.min.name) (by decide +kernel)) (hts (.static Lib.Math.min.name) (by decide +kernel)) (hts (.initialized "java/lang/Math") (by decide +kernel)) (hts (.code Lib.Math.min.name Lib.Math.min.code 2 (some .int)) (by decide +kernel)) (Nat.le_of_ble_eq_true rfl) (Nat.le_of_ble_eq_true rfl) (Nat.le_of_ble_eq_true rfl) (Nat.le_of_ble_eq_true rfl) dJ1_indexOf_4cfef_18 ?_
  refine lv_topi (fun x4 ex4 => ?_)
  obtain rfl : x4 = 9 := ex4.trans (by decide)
  refine lv_istore_n (lv' := [(3, .int 9), (2, .int 0), (0, .ref v), (1, .int 0)]) hx hb dJ1_indexOf_4cfef_21 rfl hl (by decide) rfl (fun ls hl => ?_)
  refine lv_iload_n hx hb dJ1_indexOf_4cfef_22 rfl (lv_at hl 1 rfl) ?_
  refine lv_iload_n hx hb dJ1_indexOf_4cfef_23 rfl (lv_at hl 0 rfl) ?_
  refine lv_icmp_lt (tgt := 29) hx hb dJ1_indexOf_4cfef_24 (by decide) (fun c_5 => ?_) (fun c_5 => absurd (by decide) c_5)
  refine lv_aload_n hx hb dJ1_indexOf_4cfef_29 rfl (lv_at hl 2 rfl) ?_
  refine lv_iload_n hx hb dJ1_indexOf_4cfef_30 rfl (lv_at hl 3 rfl) ?_
  refine lv_iload_n hx hb dJ1_indexOf_4cfef_31 rfl (lv_at hl 1 rfl) ?_
  refine lv_iload_n hx hb dJ1_indexOf_4cfef_32 rfl (lv_at hl 0 rfl) ?_
  have hPc := hP.sub (ws' := []) [] rfl
  have hKc := hK.sub (tys' := []) [] rfl
  refine vp_callSi (va_Run.run (va_runS (As := [.ref v, .int 0, .int 0, .int 9]) (rest := []) ⟨hx, hb, hml, hown, hts⟩ (s_J1_indexOfChar_4cfef l dC dI a v) (va_cwS 4 hts (goodIn_sub (ws := va_wsS RJ1 95 yJ1_indexOfChar_4cfef ws_J1_indexOfChar_4cfef) (fun w h => (List.mem_cons_of_mem _ (List.mem_append_right _ (List.mem_append_right _ (List.mem_append_left _ h))))) (by decide +kernel)) rfl rfl rfl (by decide +kernel) ⟨Nat.le_of_ble_eq_true rfl, Nat.le_of_ble_eq_true rfl⟩) ⟨fun a U g mk q => by obtain ⟨q0, qP, qK, qH⟩ := q; exact ⟨q0, qP, va_K.moved (u := U) (U := U.calling g mk a) (Vm.Alike.refl U.vm) qK, qH.blind a g mk⟩, fun U hU hW => ⟨rfl, by rw [hU]; exact hPc, va_K.moved hW.alike hKc, hH.call va_S.rf (fun _ q => q) hW hU⟩⟩ rfl rfl hl.1 rfl (lv_room (Nat.le_of_ble_eq_true rfl)) dJ1_indexOf_4cfef_33 ⟨(Nat.le_of_ble_eq_true rfl), (Nat.le_of_ble_eq_true rfl)⟩)) (fun r_6 hr_6 => ?_)
  subst hr_6
  exact W.iret (v := (-1)) hx hb hr (fun t ht hW => ⟨(-1), rfl, rfl, ht⟩) (fun q h => nomatch h) dJ1_indexOf_4cfef_36

def ws_J0_indexOf_7cf53 : List Cond := .code yJ0_indexOf_7cf53 cJ0_indexOf_7cf53 3 (some .int) :: ([.fieldLink RJ0 9 "java/lang/String" "value" "[B"] ++ ((wsV RJ0 492 RJ0 yJ0_isLatin1_aae02 ws_J0_isLatin1_aae02) ++ ((wsV RJ0 505 RJ0 yJ0_length_8abf5 ws_J0_length_8abf5) ++ ((va_wsS RJ0 637 yJ1_indexOf_4cfef ws_J1_indexOf_4cfef) ++ []))))
set_option maxHeartbeats 4000000 in
set_option maxRecDepth 100000 in
theorem s_J0_indexOf_7cf53 (l : Launch) (dC : Nat → ClassId) (dI : Nat → Nat → Nat) (a : Nat) (v : Nat) : Met l yJ0_indexOf_7cf53 ws_J0_indexOf_7cf53 ({ frames := 2, cells := 0, slots := 0, locals := 48 }) (va_Pc [.ref a, .int 0, .int 0] (fun U => va_P (dC, dI) vwCl [] U.heap ∧ va_K (dC, dI) vwCl [] U ∧ sB nf U U.heap a v)) (vp_Si (fun r => r = (-1))) 0 0 (fun _ => False) := by
  refine Met.ofW (cc := cJ0_indexOf_7cf53) (maxL := 3) (ret := (some .int)) (by decide) rfl ?_
  intro p e s m args below meth c s₁ B hml hv
  obtain ⟨rfl, hP, hK, hH⟩ := hv
  have hx := B.exec
  have hb := B.bytes
  have hr := B.returns
  have hts := atoms_spec (ws := ws_J0_indexOf_7cf53) B.pre
  have hown : s.vm.findClass RJ0 = some m.cls := findClass_of_methodNamed B.named
  have hlocks := B.notSynchronized
  have hl := lv_entry ([.ref a, .int 0, .int 0]) (n := 3) (Nat.le_of_ble_eq_true rfl)
  rw [lg_entry_eq]
  generalize (lg_sl ([.ref a, .int 0, .int 0]) ++ List.replicate (3 - (lg_sl ([.ref a, .int 0, .int 0])).length) Slot.unset).toArray = ls at hl ⊢
  have hl : lv_has ls 3 [(0, .ref a), (1, .int 0), (2, .int 0)] := hl
  have hP : va_P (dC, dI) vwCl [] s.heap := hP
  refine lv_aload_n hx hb dJ0_indexOf_7cf53_0 rfl (lv_at hl 0 rfl) ?_
  have hPc := hP.sub (ws' := []) [] rfl
  have hKc := hK.sub (tys' := []) [] rfl
  refine vp_callSi (va_Run.run (va_runV (As := []) (rest := []) ⟨hx, hb, hml, hown, hts⟩ (s_J0_isLatin1_aae02 l dC dI a v) (cwV 0 hts (goodIn_sub (ws := wsV RJ0 492 RJ0 yJ0_isLatin1_aae02 ws_J0_isLatin1_aae02) (fun w h => (List.mem_cons_of_mem _ (List.mem_append_right _ (List.mem_append_left _ h)))) (by decide +kernel)) rfl rfl rfl (by decide +kernel) ⟨Nat.le_of_ble_eq_true rfl, Nat.le_of_ble_eq_true rfl⟩) ⟨fun a U g mk q => by obtain ⟨q0, qP, qK, qH⟩ := q; exact ⟨q0, qP, va_K.moved (u := U) (U := U.calling g mk a) (Vm.Alike.refl U.vm) qK, qH.blind a g mk⟩, sB.recv hH va_S.rf, fun U hU hW => ⟨rfl, by rw [hU]; exact hPc, va_K.moved hW.alike hKc, hH.call va_S.rf (fun _ q => q) hW hU⟩⟩ rfl rfl hl.1 rfl (lv_room (Nat.le_of_ble_eq_true rfl)) dJ0_indexOf_7cf53_1 ⟨(Nat.le_of_ble_eq_true rfl), (Nat.le_of_ble_eq_true rfl)⟩)) (fun r_1 hr_1 => ?_)
  subst hr_1
  refine lv_if_eq (tgt := 23) hx hb dJ0_indexOf_7cf53_4 (by decide) (fun c_2 => absurd c_2 (by decide)) (fun c_2 => ?_)
  refine lv_aload_n hx hb dJ0_indexOf_7cf53_7 rfl (lv_at hl 0 rfl) ?_
  refine vk_getf hx hb hH.2.2.2.1 va_S.rf hown (hts (.fieldLink RJ0 9 "java/lang/String" "value" "[B") (by decide +kernel)) (fun _ h9 => h9) dJ0_indexOf_7cf53_8 ?_
  refine lv_iload_n hx hb dJ0_indexOf_7cf53_11 rfl (lv_at hl 1 rfl) ?_
  refine lv_iload_n hx hb dJ0_indexOf_7cf53_12 rfl (lv_at hl 2 rfl) ?_
  refine lv_aload_n hx hb dJ0_indexOf_7cf53_13 rfl (lv_at hl 0 rfl) ?_
  have hPc := hP.sub (ws' := []) [] rfl
  have hKc := hK.sub (tys' := []) [] rfl
  refine vp_callSi (va_Run.run (va_runV (As := []) (rest := [.int 0, .int 0, .ref v]) ⟨hx, hb, hml, hown, hts⟩ (s_J0_length_8abf5 l dC dI a v) (cwV 0 hts (goodIn_sub (ws := wsV RJ0 505 RJ0 yJ0_length_8abf5 ws_J0_length_8abf5) (fun w h => (List.mem_cons_of_mem _ (List.mem_append_right _ (List.mem_append_right _ (List.mem_append_left _ h))))) (by decide +kernel)) rfl rfl rfl (by decide +kernel) ⟨Nat.le_of_ble_eq_true rfl, Nat.le_of_ble_eq_true rfl⟩) ⟨fun a U g mk q => by obtain ⟨q0, qP, qK, qH⟩ := q; exact ⟨q0, qP, va_K.moved (u := U) (U := U.calling g mk a) (Vm.Alike.refl U.vm) qK, qH.blind a g mk⟩, sB.recv hH va_S.rf, fun U hU hW => ⟨rfl, by rw [hU]; exact hPc, va_K.moved hW.alike hKc, hH.call va_S.rf (fun _ q => q) hW hU⟩⟩ rfl rfl hl.1 rfl (lv_room (Nat.le_of_ble_eq_true rfl)) dJ0_indexOf_7cf53_14 ⟨(Nat.le_of_ble_eq_true rfl), (Nat.le_of_ble_eq_true rfl)⟩)) (fun r_3 hr_3 => ?_)
  subst hr_3
  have hPc := hP.sub (ws' := []) [] rfl
  have hKc := hK.sub (tys' := []) [] rfl
  refine vp_callSi (va_Run.run (va_runS (As := [.ref v, .int 0, .int 0, .int 9]) (rest := []) ⟨hx, hb, hml, hown, hts⟩ (s_J1_indexOf_4cfef l dC dI a v) (va_cwS 4 hts (goodIn_sub (ws := va_wsS RJ0 637 yJ1_indexOf_4cfef ws_J1_indexOf_4cfef) (fun w h => (List.mem_cons_of_mem _ (List.mem_append_right _ (List.mem_append_right _ (List.mem_append_right _ (List.mem_append_left _ h)))))) (by decide +kernel)) rfl rfl rfl (by decide +kernel) ⟨Nat.le_of_ble_eq_true rfl, Nat.le_of_ble_eq_true rfl⟩) ⟨fun a U g mk q => by obtain ⟨q0, qP, qK, qH⟩ := q; exact ⟨q0, qP, va_K.moved (u := U) (U := U.calling g mk a) (Vm.Alike.refl U.vm) qK, qH.blind a g mk⟩, fun U hU hW => ⟨rfl, by rw [hU]; exact hPc, va_K.moved hW.alike hKc, hH.call va_S.rf (fun _ q => q) hW hU⟩⟩ rfl rfl hl.1 rfl (lv_room (Nat.le_of_ble_eq_true rfl)) dJ0_indexOf_7cf53_17 ⟨(Nat.le_of_ble_eq_true rfl), (Nat.le_of_ble_eq_true rfl)⟩)) (fun r_4 hr_4 => ?_)
  subst hr_4
  refine lv_goto (tgt := 36) hx hb dJ0_indexOf_7cf53_20 (by decide) ?_
  exact W.iret (v := (-1)) hx hb hr (fun t ht hW => ⟨(-1), rfl, rfl, ht⟩) (fun q h => nomatch h) dJ0_indexOf_7cf53_36

def ws_J0_indexOf_0f7a4 : List Cond := .code yJ0_indexOf_0f7a4 cJ0_indexOf_0f7a4 2 (some .int) :: ([] ++ ((wsV RJ0 633 RJ0 yJ0_indexOf_7cf53 ws_J0_indexOf_7cf53) ++ []))
set_option maxHeartbeats 4000000 in
set_option maxRecDepth 100000 in
theorem s_J0_indexOf_0f7a4 (l : Launch) (dC : Nat → ClassId) (dI : Nat → Nat → Nat) (a : Nat) (v : Nat) : Met l yJ0_indexOf_0f7a4 ws_J0_indexOf_0f7a4 ({ frames := 3, cells := 0, slots := 0, locals := 70 }) (va_Pc [.ref a, .int 0] (fun U => va_P (dC, dI) vwCl [] U.heap ∧ va_K (dC, dI) vwCl [] U ∧ sB nf U U.heap a v)) (vp_Si (fun r => r = (-1))) 0 0 (fun _ => False) := by
  refine Met.ofW (cc := cJ0_indexOf_0f7a4) (maxL := 2) (ret := (some .int)) (by decide) rfl ?_
  intro p e s m args below meth c s₁ B hml hv
  obtain ⟨rfl, hP, hK, hH⟩ := hv
  have hx := B.exec
  have hb := B.bytes
  have hr := B.returns
  have hts := atoms_spec (ws := ws_J0_indexOf_0f7a4) B.pre
  have hown : s.vm.findClass RJ0 = some m.cls := findClass_of_methodNamed B.named
  have hlocks := B.notSynchronized
  have hl := lv_entry ([.ref a, .int 0]) (n := 2) (Nat.le_of_ble_eq_true rfl)
  rw [lg_entry_eq]
  generalize (lg_sl ([.ref a, .int 0]) ++ List.replicate (2 - (lg_sl ([.ref a, .int 0])).length) Slot.unset).toArray = ls at hl ⊢
  have hl : lv_has ls 2 [(0, .ref a), (1, .int 0)] := hl
  have hP : va_P (dC, dI) vwCl [] s.heap := hP
  refine lv_aload_n hx hb dJ0_indexOf_0f7a4_0 rfl (lv_at hl 0 rfl) ?_
  refine lv_iload_n hx hb dJ0_indexOf_0f7a4_1 rfl (lv_at hl 1 rfl) ?_
  refine lv_iconst (v := 0) hx hb dJ0_indexOf_0f7a4_2 (by decide) ?_
  have hPc := hP.sub (ws' := []) [] rfl
  have hKc := hK.sub (tys' := []) [] rfl
  refine vp_callSi (va_Run.run (va_runV (As := [.int 0, .int 0]) (rest := []) ⟨hx, hb, hml, hown, hts⟩ (s_J0_indexOf_7cf53 l dC dI a v) (cwV 2 hts (goodIn_sub (ws := wsV RJ0 633 RJ0 yJ0_indexOf_7cf53 ws_J0_indexOf_7cf53) (fun w h => (List.mem_cons_of_mem _ (List.mem_append_right _ (List.mem_append_left _ h)))) (by decide +kernel)) rfl rfl rfl (by decide +kernel) ⟨Nat.le_of_ble_eq_true rfl, Nat.le_of_ble_eq_true rfl⟩) ⟨fun a U g mk q => by obtain ⟨q0, qP, qK, qH⟩ := q; exact ⟨q0, qP, va_K.moved (u := U) (U := U.calling g mk a) (Vm.Alike.refl U.vm) qK, qH.blind a g mk⟩, sB.recv hH va_S.rf, fun U hU hW => ⟨rfl, by rw [hU]; exact hPc, va_K.moved hW.alike hKc, hH.call va_S.rf (fun _ q => q) hW hU⟩⟩ rfl rfl hl.1 rfl (lv_room (Nat.le_of_ble_eq_true rfl)) dJ0_indexOf_0f7a4_3 ⟨(Nat.le_of_ble_eq_true rfl), (Nat.le_of_ble_eq_true rfl)⟩)) (fun r_1 hr_1 => ?_)
  subst hr_1
  exact W.iret (v := (-1)) hx hb hr (fun t ht hW => ⟨(-1), rfl, rfl, ht⟩) (fun q h => nomatch h) dJ0_indexOf_0f7a4_6
end
section
theorem dX18_isOneOf_0 : decode cX18_isOneOf 0 = .ok (.iconst 0, 1) := by decide +kernel
theorem dX18_isOneOf_1 : decode cX18_isOneOf 1 = .ok (.istore_n 2, 1) := by decide +kernel
theorem dX18_isOneOf_2 : decode cX18_isOneOf 2 = .ok (.iconst 0, 1) := by decide +kernel
theorem dX18_isOneOf_3 : decode cX18_isOneOf 3 = .ok (.istore_n 3, 1) := by decide +kernel
theorem dX18_isOneOf_4 : decode cX18_isOneOf 4 = .ok (.iload_n 3, 1) := by decide +kernel
theorem dX18_isOneOf_5 : decode cX18_isOneOf 5 = .ok (.aload_n 0, 1) := by decide +kernel
theorem dX18_isOneOf_6 : decode cX18_isOneOf 6 = .ok (.invokeinterface 128 1, 5) := by decide +kernel
theorem dX18_isOneOf_11 : decode cX18_isOneOf 11 = .ok (.if_icmp .ge 28, 3) := by decide +kernel
theorem dX18_isOneOf_14 : decode cX18_isOneOf 14 = .ok (.iload_n 2, 1) := by decide +kernel
theorem dX18_isOneOf_15 : decode cX18_isOneOf 15 = .ok (.aload_n 0, 1) := by decide +kernel
theorem dX18_isOneOf_16 : decode cX18_isOneOf 16 = .ok (.iload_n 3, 1) := by decide +kernel
theorem dX18_isOneOf_17 : decode cX18_isOneOf 17 = .ok (.invokeinterface 133 2, 5) := by decide +kernel
theorem dX18_unary_0 : decode cX18_unary 0 = .ok (.aload_n 0, 1) := by decide +kernel
theorem dX18_unary_1 : decode cX18_unary 1 = .ok (.ldc 137, 2) := by decide +kernel
theorem dX18_unary_3 : decode cX18_unary 3 = .ok (.iload_n 1, 1) := by decide +kernel
theorem dX18_unary_4 : decode cX18_unary 4 = .ok (.invokestatic 139, 3) := by decide +kernel
theorem dX11_unary_0 : decode cX11_unary 0 = .ok (.ldc 176, 2) := by decide +kernel
theorem dX11_unary_2 : decode cX11_unary 2 = .ok (.iload_n 1, 1) := by decide +kernel
theorem dX11_unary_3 : decode cX11_unary 3 = .ok (.invokevirtual 178, 3) := by decide +kernel
theorem dX11_unary_6 : decode cX11_unary 6 = .ok (.ifCond .ge 13, 3) := by decide +kernel
theorem dX11_unary_9 : decode cX11_unary 9 = .ok (.new 50, 3) := by decide +kernel
theorem dX11_unary_12 : decode cX11_unary 12 = .ok (.dup, 1) := by decide +kernel
theorem dX11_unary_13 : decode cX11_unary 13 = .ok (.ldc 184, 2) := by decide +kernel
theorem dX11_unary_15 : decode cX11_unary 15 = .ok (.invokespecial 54, 3) := by decide +kernel
theorem dX11_unary_18 : decode cX11_unary 18 = .ok (.athrow, 1) := by decide +kernel
/-! A START WITH ANOTHER String.charAt: the words of the claim say nothing of it. Here its code throws an IllegalStateException. -/
def od_y : MethodName := ⟨"java/lang/String", "charAt", "(I)C"⟩
/-- new 1157; dup; ldc_w 1163; invokespecial 1159; athrow -/
def od_c : ByteArray := ⟨#[0xbb, 0x04, 0x85, 0x59, 0x13, 0x04, 0x8b, 0xb7, 0x04, 0x87, 0xbf]⟩
theorem od_d0 : decode od_c 0 = .ok (.new 1157, 3) := by decide +kernel
theorem od_d3 : decode od_c 3 = .ok (.dup, 1) := by decide +kernel
theorem od_d4 : decode od_c 4 = .ok (.ldc_w 1163, 3) := by decide +kernel
theorem od_d7 : decode od_c 7 = .ok (.invokespecial 1159, 3) := by decide +kernel
theorem od_d10 : decode od_c 10 = .ok (.athrow, 1) := by decide +kernel
def od_len : MethodName := ⟨"java/lang/CharSequence", "length", "()I"⟩
def od_chr : MethodName := ⟨"java/lang/CharSequence", "charAt", "(I)C"⟩
def od (U : State) : Prop := (∃ cC : ClassId, ClassAt U "java/lang/String" cC) ∧ va_Fw "java/lang/String" od_len yJ0_length_8abf5 U ∧ va_Fw "java/lang/String" od_chr od_y U ∧ ∃ sa : Nat, vk_R RJ0 1163 "no such node" sa U
theorem od_at {u U : State} {C : String} {cC : ClassId} (hvm : u.vm.Alike U.vm) (h : ClassAt u C cC) : ClassAt U C cC := (u_Kn_moved (T := fun _ => ("", "", "", false)) (N := 0) (iS := fun _ => 0) hvm ⟨fun k hk => absurd hk (Nat.not_lt_zero k), h⟩).2
theorem od.warm {s U : State} (hW : s.WarmedH U.vm) (h : od s) : od U := by
  obtain ⟨⟨cC, h1⟩, h2, h3, sa, h4⟩ := h
  exact ⟨⟨cC, od_at hW.alike h1⟩, va_Fw.moved ⟨by decide +kernel, by decide +kernel⟩ hW.alike h2, va_Fw.moved ⟨by decide +kernel, by decide +kernel⟩ hW.alike h3, sa, vk_R.warm hW h4⟩
theorem od.blind {U : State} (a : Array Value) (g : JFrame) (mk : MethodId) (h : od U) : od (U.calling g mk a) := by
  obtain ⟨⟨cC, h1⟩, h2, h3, sa, h4⟩ := h
  exact ⟨⟨cC, od_at (u := U) (Vm.Alike.refl U.vm) h1⟩, va_Fw.moved (u := U) ⟨by decide +kernel, by decide +kernel⟩ (Vm.Alike.refl U.vm) h2, va_Fw.moved (u := U) ⟨by decide +kernel, by decide +kernel⟩ (Vm.Alike.refl U.vm) h3, sa, vk_R.same (u := U) rfl h4⟩
theorem od_b : ∀ w ∈ (vx_atS RJ0 1159 "java/lang/IllegalStateException" xw_N).filter (fun w => !goodWord w), w ∈ xw_B "java/lang/IllegalStateException" := by decide +kernel
theorem od_g : ∀ w ∈ Cond.classLink RJ0 1157 "java/lang/IllegalStateException" :: Cond.initialized "java/lang/IllegalStateException" :: vx_atS RJ0 1159 "java/lang/IllegalStateException" xw_N, vx_ot w = true := by decide +kernel
def wod : List Cond := .code od_y od_c 2 (some .char) :: ([.classLink RJ0 1157 "java/lang/IllegalStateException", .initialized "java/lang/IllegalStateException"] ++ (vx_atS RJ0 1159 "java/lang/IllegalStateException" xw_N).filter goodWord)
set_option maxHeartbeats 4000000 in
set_option maxRecDepth 100000 in
theorem od_met (l : Launch) (hlt : l.stackTraces = false) (a : Nat) (i : Int32) (sz : Nat) : vx_Met l od_y wod ({ frames := 6, cells := 1, slots := 6, locals := 100 }) (va_Pc [.ref a, .int i] (fun U => U.heap.size = sz ∧ xw (va_A [] sz) U U.heap ∧ od U)) (va_Qi (fun (_ : Int32) (_ : Unit) => False) (fun _ _ => True) (va_A [] sz)) (vx_X (fun _ : Unit => True) (fun E _ _ => E = "java/lang/IllegalStateException") (va_A [] sz)) 1 6 (va_A [] sz) := by
  refine vx_ofW (cc := od_c) (maxL := 2) (ret := some .char) (by decide +kernel) rfl ?_
  intro p e s m args below meth c s₁ B hml hno hv
  obtain ⟨rfl, hsz, hX, hH⟩ := hv
  have hx := B.exec
  have hb := B.bytes
  have hts := atoms_spec (ws := wod) B.pre
  have hown : s.vm.findClass RJ0 = some m.cls := findClass_of_methodNamed B.named
  have hlocks := B.notSynchronized
  subst hsz
  generalize hAe : va_A [] s.heap.size = A at hX ⊢
  have hS : va_S A s.heap s.heap [] := va_S.rf
  have hl := lv_entry ([.ref a, .int i]) (n := 2) (Nat.le_of_ble_eq_true rfl)
  rw [lg_entry_eq]
  generalize (lg_sl ([.ref a, .int i]) ++ List.replicate (2 - (lg_sl ([.ref a, .int i])).length) Slot.unset).toArray = ls at hl ⊢
  obtain ⟨-, -, -, sa, hsa⟩ := hH
  exact vx_throwSW (names := xw_N) (A := A) (sa := sa) hx hb hlt hown (by decide +kernel) (by decide +kernel) (hts (.classLink RJ0 1157 "java/lang/IllegalStateException") (by decide +kernel)) (hts (.initialized "java/lang/IllegalStateException") (by decide +kernel)) hsa (vx_hat (fun w h => hts w (List.mem_cons_of_mem _ (List.mem_append_right _ h))) od_b (hX.bad (by decide +kernel))) od_g hX.1.1 hX.1.2 hS (by rw [hml]; exact hl.1) od_d0 od_d3 od_d4 od_d7 od_d10 (fun x h => (hno x h).elim) (Nat.le_of_ble_eq_true rfl) (Nat.le_of_ble_eq_true rfl) (Nat.le_of_ble_eq_true rfl) (Nat.le_of_ble_eq_true rfl) hlocks (fun t h1 h2 h3 => ⟨(), trivial, rfl, xw_F hS h2 h3⟩) hS.2.2 (Nat.le_of_ble_eq_true rfl) (Nat.le_of_ble_eq_true rfl)
def wo_X18_isOneOf : List Cond := .code yX18_isOneOf cX18_isOneOf 4 (some .boolean) :: ([] ++ ((va_wsF RX18 128 "java/lang/String" od_len yJ0_length_8abf5 ws_J0_length_8abf5) ++ ((va_wsF RX18 133 "java/lang/String" od_chr od_y wod) ++ [])))
set_option maxHeartbeats 4000000 in
set_option maxRecDepth 100000 in
theorem o_X18_isOneOf (l : Launch) (hlt : l.stackTraces = false) (dC : Nat → ClassId) (dI : Nat → Nat → Nat) (a : Nat) (v : Nat) (k : Int32) (sz : Nat) : vx_Met l yX18_isOneOf wo_X18_isOneOf ({ frames := 7, cells := 1, slots := 6, locals := 130 }) (va_Pc [.ref a, .int k] (fun U => U.heap.size = sz ∧ va_P (dC, dI) vwCl [] U.heap ∧ va_K (dC, dI) vwCl [] U ∧ va_D (fun _ => True) [] ∧ xw (va_A [] sz) U U.heap ∧ sB (va_A [] sz) U U.heap a v ∧ od U)) (va_Qi (fun (r : Int32) (_ : Unit) => "java/lang/IllegalStateException" = "" ∧ True) (fun _ t => True) (va_A [] sz)) (vx_X (fun _ : Unit => True) (fun E _ _ => E = "java/lang/IllegalStateException") (va_A [] sz)) 1 6 (va_A [] sz) := by
  refine vx_ofW (cc := cX18_isOneOf) (maxL := 4) (ret := (some .boolean)) (by decide +kernel) rfl ?_
  intro p e s m args below meth c s₁ B hml hno hv
  obtain ⟨rfl, hsz, hP, hK, hD0, hX, hH⟩ := hv
  have hx := B.exec
  have hb := B.bytes
  have hr := B.returns
  have hts := atoms_spec (ws := wo_X18_isOneOf) B.pre
  have hown : s.vm.findClass RX18 = some m.cls := findClass_of_methodNamed B.named
  have hlocks := B.notSynchronized
  subst hsz
  have hD := hD0.self (sz := s.heap.size)
  generalize hAe : va_A [] s.heap.size = A at hD hX hH ⊢
  have hA : ∀ q : Nat, s.heap.size ≤ q → A q := fun q h => by rw [← hAe]; exact Or.inr h
  have hS : va_S A s.heap s.heap [] := va_S.rf
  have hP : va_P (dC, dI) vwCl [] s.heap := hP
  have hl := lv_entry ([.ref a, .int k]) (n := 4) (Nat.le_of_ble_eq_true rfl)
  rw [lg_entry_eq]
  generalize (lg_sl ([.ref a, .int k]) ++ List.replicate (4 - (lg_sl ([.ref a, .int k])).length) Slot.unset).toArray = ls at hl ⊢
  have hl : lv_has ls 4 [(0, .ref a), (1, .int k)] := hl
  obtain ⟨hH, hO⟩ := hH
  refine lv_iconst (v := 0) hx hb dX18_isOneOf_0 (by decide) ?_
  refine lv_istore_n (lv' := [(2, .int 0), (0, .ref a), (1, .int k)]) hx hb dX18_isOneOf_1 rfl hl (by decide) rfl (fun ls hl => ?_)
  refine lv_iconst (v := 0) hx hb dX18_isOneOf_2 (by decide) ?_
  refine lv_istore_n (lv' := [(3, .int 0), (2, .int 0), (0, .ref a), (1, .int k)]) hx hb dX18_isOneOf_3 rfl hl (by decide) rfl (fun ls hl => ?_)
  refine lv_iload_n hx hb dX18_isOneOf_4 rfl (lv_at hl 0 rfl) ?_
  refine lv_aload_n hx hb dX18_isOneOf_5 rfl (lv_at hl 2 rfl) ?_
  obtain ⟨⟨cC, hat⟩, hf1, hf2, hf3⟩ := id hO
  refine va_csFi (va_runF (As := []) (rest := [.int 0]) hat ⟨hx, hb, hml, hown, hts⟩ (s_J0_length_8abf5 l dC dI a v) (va_cwF 0 hts (goodIn_sub (ws := va_wsF RX18 128 "java/lang/String" od_len yJ0_length_8abf5 ws_J0_length_8abf5) (fun w h => (List.mem_cons_of_mem _ (List.mem_append_right _ (List.mem_append_left _ h)))) (by decide +kernel)) rfl rfl rfl hf1 ⟨by decide +kernel, by decide +kernel, by decide +kernel⟩ ⟨Nat.le_of_ble_eq_true rfl, Nat.le_of_ble_eq_true rfl⟩) ⟨fun a9 U g mk q => by obtain ⟨q0, qP, qK, qH⟩ := q; exact ⟨q0, qP, va_K.moved (u := U) (U := U.calling g mk a9) (Vm.Alike.refl U.vm) qK, qH.blind a9 g mk⟩, hH.recv hS, fun U hU hW => ⟨rfl, fun k q h => by simp at h, va_K.moved hW.alike (hK.sub (tys' := []) [] rfl), hH.call hS (fun q h => h.elim) hW hU⟩⟩ rfl rfl hl.1 rfl (lv_room (Nat.le_of_ble_eq_true rfl)) dX18_isOneOf_6 ⟨(Nat.le_of_ble_eq_true rfl), (Nat.le_of_ble_eq_true rfl)⟩) (fun r_1 hr_1 => ?_)
  subst hr_1
  refine lv_icmp_ge (tgt := 39) hx hb dX18_isOneOf_11 (by decide) (fun c_2 => absurd c_2 (by decide)) (fun c_2 => ?_)
  refine lv_iload_n hx hb dX18_isOneOf_14 rfl (lv_at hl 1 rfl) ?_
  refine lv_aload_n hx hb dX18_isOneOf_15 rfl (lv_at hl 2 rfl) ?_
  refine lv_iload_n hx hb dX18_isOneOf_16 rfl (lv_at hl 0 rfl) ?_
  have hFc : ∀ q, va_A [] s.heap.size q → A q := fun q h => h.elim (fun ⟨k, e, h⟩ => by simp at h) (hA q)
  refine vx_callFi (vx_runF (As := [.int 0]) (rest := [.int 0]) hat ⟨hx, hb, hml, hown, hts⟩ (od_met l hlt a 0 _) (va_cwF 1 hts (goodIn_sub (ws := va_wsF RX18 133 "java/lang/String" od_chr od_y wod) (fun w h => (List.mem_cons_of_mem _ (List.mem_append_right _ (List.mem_append_right _ (List.mem_append_left _ h))))) (by decide +kernel)) rfl rfl rfl hf2 ⟨by decide +kernel, by decide +kernel, by decide +kernel⟩ ⟨Nat.le_of_ble_eq_true rfl, Nat.le_of_ble_eq_true rfl⟩) ⟨fun a9 U g mk q => by obtain ⟨q0, q1, qX, qO⟩ := q; exact ⟨q0, q1, qX.blind a9 g mk, qO.blind a9 g mk⟩, hH.recv hS, fun U hU hW => ⟨rfl, by rw [hU], hX.call hS hFc hW hU, hO.warm hW⟩⟩ rfl rfl hl.1 rfl (lv_room (Nat.le_of_ble_eq_true rfl)) dX18_isOneOf_17 ⟨(Nat.le_of_ble_eq_true rfl), (Nat.le_of_ble_eq_true rfl)⟩) hS (fun q _ h => hFc q h) hFc (fun q _ h => hFc q h) (fun E ce q9 u t H1 locs ht hvm hw hB hz1 hk1 hS hq9 hcv hcl => ?_) (fun r u t H1 locs ht hvm hw hB hz1 hk1 hS => hw.elim)
  exact vx_out (fun x h => (hno x h).elim) hlocks hq9 hcv hcl (fun t ht hA => ⟨(), trivial, hB, hS.F ht⟩) hS.2.2 (Nat.le_of_ble_eq_true rfl) (Nat.le_of_ble_eq_true rfl)

def wo_X18_unary : List Cond := .code yX18_unary cX18_unary 6 (some .int) :: ([] ++ ((va_wsS RX18 139 yX18_isOneOf wo_X18_isOneOf) ++ []))
set_option maxHeartbeats 4000000 in
set_option maxRecDepth 100000 in
theorem o_X18_unary (l : Launch) (hlt : l.stackTraces = false) (dC : Nat → ClassId) (dI : Nat → Nat → Nat) (h : Nat) (k : Int32) (j : Int32) (sz : Nat) : vx_Met l yX18_unary wo_X18_unary ({ frames := 8, cells := 1, slots := 6, locals := 160 }) (va_Pc [.ref h, .int k, .int j] (fun U => U.heap.size = sz ∧ va_P (dC, dI) vwCl [] U.heap ∧ va_K (dC, dI) vwCl [] U ∧ va_D (fun _ => True) [] ∧ xw (va_A [] sz) U U.heap ∧ sW RX18 137 (va_A [] sz) U U.heap ∧ od U)) (va_Qi (fun (r : Int32) (_ : Unit) => "java/lang/IllegalStateException" = "" ∧ True) (fun _ t => True) (va_A [] sz)) (vx_X (fun _ : Unit => True) (fun E _ _ => E = "java/lang/IllegalStateException") (va_A [] sz)) 1 6 (va_A [] sz) := by
  refine vx_ofW (cc := cX18_unary) (maxL := 6) (ret := (some .int)) (by decide +kernel) rfl ?_
  intro p e s m args below meth c s₁ B hml hno hv
  obtain ⟨rfl, hsz, hP, hK, hD0, hX, hH⟩ := hv
  have hx := B.exec
  have hb := B.bytes
  have hr := B.returns
  have hts := atoms_spec (ws := wo_X18_unary) B.pre
  have hown : s.vm.findClass RX18 = some m.cls := findClass_of_methodNamed B.named
  have hlocks := B.notSynchronized
  subst hsz
  have hD := hD0.self (sz := s.heap.size)
  generalize hAe : va_A [] s.heap.size = A at hD hX hH ⊢
  have hA : ∀ q : Nat, s.heap.size ≤ q → A q := fun q h => by rw [← hAe]; exact Or.inr h
  have hS : va_S A s.heap s.heap [] := va_S.rf
  have hP : va_P (dC, dI) vwCl [] s.heap := hP
  have hl := lv_entry ([.ref h, .int k, .int j]) (n := 6) (Nat.le_of_ble_eq_true rfl)
  rw [lg_entry_eq]
  generalize (lg_sl ([.ref h, .int k, .int j]) ++ List.replicate (6 - (lg_sl ([.ref h, .int k, .int j])).length) Slot.unset).toArray = ls at hl ⊢
  have hl : lv_has ls 6 [(0, .ref h), (1, .int k), (2, .int j)] := hl
  obtain ⟨hH, hO⟩ := hH
  refine lv_aload_n hx hb dX18_unary_0 rfl (lv_at hl 0 rfl) ?_
  obtain ⟨sa, sv, hsR, hsB⟩ := hH
  refine va_ldcS hx hb hown hsR dX18_unary_1 ?_
  refine lv_iload_n hx hb dX18_unary_3 rfl (lv_at hl 1 rfl) ?_
  have hPc := hP.sub (ws' := []) [] rfl
  have hKc := hK.sub (tys' := []) [] rfl
  have hDc := hD.sub (ws' := []) [] (by decide) rfl
  have hFc := va_free (wc := []) hD hS hA [] rfl
  refine vx_calli (vx_runS (As := [.ref sa, .int k]) (rest := [.ref h]) ⟨hx, hb, hml, hown, hts⟩ (o_X18_isOneOf l hlt dC dI sa sv k _) (va_cwS 2 hts (goodIn_sub (ws := va_wsS RX18 139 yX18_isOneOf wo_X18_isOneOf) (fun w h => (List.mem_cons_of_mem _ (List.mem_append_right _ (List.mem_append_left _ h)))) (by decide +kernel)) rfl rfl rfl (by decide +kernel) ⟨Nat.le_of_ble_eq_true rfl, Nat.le_of_ble_eq_true rfl⟩) ⟨fun a U g mk q => by obtain ⟨q0, q1, qP, qK, qD, qX, qH⟩ := q; exact ⟨q0, q1, qP, va_K.moved (u := U) (U := U.calling g mk a) (Vm.Alike.refl U.vm) qK, qD, xw.blind a g mk qX, ⟨qH.1.blind a g mk, qH.2.blind a g mk⟩⟩, fun U hU hW => ⟨rfl, by rw [hU], by rw [hU]; exact hPc, va_K.moved hW.alike hKc, hDc.weaken (fun _ _ _ _ => trivial), xw.call hX hS hFc hW hU, ⟨hsB.call hS hFc hW hU, hO.warm hW⟩⟩⟩ rfl rfl hl.1 rfl (lv_room (Nat.le_of_ble_eq_true rfl)) dX18_unary_4 ⟨(Nat.le_of_ble_eq_true rfl), (Nat.le_of_ble_eq_true rfl)⟩) hS (fun q _ h => hFc q h) hFc (fun q _ h => hFc q h) (fun E ce q9 u t H1 locs ht hvm hw hB hz1 hk1 hS hq9 hcv hcl => ?_) (fun r_1 u t H1 locs ht hvm hw hB hz1 hk1 hS => ?_)
  · have hK1 : va_K (dC, dI) vwCl _ s := hK
    exact vx_out (fun x h => (hno x h).elim) hlocks hq9 hcv hcl (fun t ht hA => ⟨(), trivial, hB, hS.F ht⟩) hS.2.2 (Nat.le_of_ble_eq_true rfl) (Nat.le_of_ble_eq_true rfl)
  · exact absurd hw.1 (by decide)

def wo_X11_unary : List Cond := .code yX11_unary cX11_unary 5 (some .int) :: ([.classLink RX11 50 "java/lang/IllegalArgumentException", .initialized "java/lang/IllegalArgumentException"] ++ ((wsV RX11 178 RJ0 yJ0_indexOf_0f7a4 ws_J0_indexOf_0f7a4) ++ (((vx_atS RX11 54 "java/lang/IllegalArgumentException" xw_N).filter goodWord) ++ [])))
set_option maxHeartbeats 4000000 in
set_option maxRecDepth 100000 in
theorem o_X11_unary (l : Launch) (hlt : l.stackTraces = false) (dC : Nat → ClassId) (dI : Nat → Nat → Nat) (x : Nat) (j : Int32) (sz : Nat) : vx_Met l yX11_unary wo_X11_unary ({ frames := 6, cells := 1, slots := 6, locals := 130 }) (va_Pc [.ref x, .int 0, .int j] (fun U => U.heap.size = sz ∧ va_P (dC, dI) vwCl [] U.heap ∧ va_K (dC, dI) vwCl [] U ∧ va_D (fun _ => True) [] ∧ xw (va_A [] sz) U U.heap ∧ sW RX11 176 (va_A [] sz) U U.heap)) (va_Qi (fun (r : Int32) (_ : Unit) => "java/lang/IllegalArgumentException" = "" ∧ True) (fun _ t => True) (va_A [] sz)) (vx_X (fun _ : Unit => True) (fun E _ _ => E = "java/lang/IllegalArgumentException") (va_A [] sz)) 1 6 (va_A [] sz) := by
  refine vx_ofW (cc := cX11_unary) (maxL := 5) (ret := (some .int)) (by decide +kernel) rfl ?_
  intro p e s m args below meth c s₁ B hml hno hv
  obtain ⟨rfl, hsz, hP, hK, hD0, hX, hH⟩ := hv
  have hx := B.exec
  have hb := B.bytes
  have hr := B.returns
  have hts := atoms_spec (ws := wo_X11_unary) B.pre
  have hown : s.vm.findClass RX11 = some m.cls := findClass_of_methodNamed B.named
  have hlocks := B.notSynchronized
  subst hsz
  have hD := hD0.self (sz := s.heap.size)
  generalize hAe : va_A [] s.heap.size = A at hD hX hH ⊢
  have hA : ∀ q : Nat, s.heap.size ≤ q → A q := fun q h => by rw [← hAe]; exact Or.inr h
  have hS : va_S A s.heap s.heap [] := va_S.rf
  have hP : va_P (dC, dI) vwCl [] s.heap := hP
  have hl := lv_entry ([.ref x, .int 0, .int j]) (n := 5) (Nat.le_of_ble_eq_true rfl)
  rw [lg_entry_eq]
  generalize (lg_sl ([.ref x, .int 0, .int j]) ++ List.replicate (5 - (lg_sl ([.ref x, .int 0, .int j])).length) Slot.unset).toArray = ls at hl ⊢
  have hl : lv_has ls 5 [(0, .ref x), (1, .int 0), (2, .int j)] := hl
  obtain ⟨sa, sv, hsR, hsB⟩ := hH
  refine va_ldcS hx hb hown hsR dX11_unary_0 ?_
  refine lv_iload_n hx hb dX11_unary_2 rfl (lv_at hl 1 rfl) ?_
  have hPc := hP.sub (ws' := []) [] rfl
  have hKc := hK.sub (tys' := []) [] rfl
  refine vp_callSi (va_Run.run (va_runV (As := [.int 0]) (rest := []) ⟨hx, hb, hml, hown, hts⟩ (s_J0_indexOf_0f7a4 l dC dI sa sv) (cwV 1 hts (goodIn_sub (ws := wsV RX11 178 RJ0 yJ0_indexOf_0f7a4 ws_J0_indexOf_0f7a4) (fun w h => (List.mem_cons_of_mem _ (List.mem_append_right _ (List.mem_append_left _ h)))) (by decide +kernel)) rfl rfl rfl (by decide +kernel) ⟨Nat.le_of_ble_eq_true rfl, Nat.le_of_ble_eq_true rfl⟩) ⟨fun a U g mk q => by obtain ⟨q0, qP, qK, qH⟩ := q; exact ⟨q0, qP, va_K.moved (u := U) (U := U.calling g mk a) (Vm.Alike.refl U.vm) qK, qH.blind a g mk⟩, sB.recv hsB hS, fun U hU hW => ⟨rfl, by rw [hU]; exact hPc, va_K.moved hW.alike hKc, hsB.call hS (fun q h => h.elim) hW hU⟩⟩ rfl rfl hl.1 rfl (lv_room (Nat.le_of_ble_eq_true rfl)) dX11_unary_3 ⟨(Nat.le_of_ble_eq_true rfl), (Nat.le_of_ble_eq_true rfl)⟩)) (fun r_1 hr_1 => ?_)
  subst hr_1
  refine lv_if_ge (tgt := 19) hx hb dX11_unary_6 (by decide) (fun c_2 => absurd c_2 (by decide)) (fun c_2 => ?_)
  exact xw_throw (E := "java/lang/IllegalArgumentException") (text := "no such kind") (ik := 50) (is := 184) (ic := 54) hx hb hlt hown (by decide +kernel) (by decide +kernel) (hts (.classLink RX11 50 "java/lang/IllegalArgumentException") (by decide +kernel)) (hts (.initialized "java/lang/IllegalArgumentException") (by decide +kernel)) (by decide +kernel) (fun w h => hts w (List.mem_cons_of_mem _ (List.mem_append_right _ (List.mem_append_right _ (List.mem_append_left _ h))))) xw_bIAE xw_gIAE hX hS (by rw [hml]; exact hl.1) dX11_unary_9 dX11_unary_12 dX11_unary_13 dX11_unary_15 dX11_unary_18 hno (Nat.le_of_ble_eq_true rfl) (Nat.le_of_ble_eq_true rfl) (Nat.le_of_ble_eq_true rfl) (Nat.le_of_ble_eq_true rfl) hlocks (fun t h1 h2 => ⟨(), trivial, rfl, h2⟩) hS.2.2 (Nat.le_of_ble_eq_true rfl) (Nat.le_of_ble_eq_true rfl)
end
section
theorem dL_unary_0 : decode cL_unary 0 = .ok (.aload_n 3, 1) := by decide +kernel
theorem dL_unary_1 : decode cL_unary 1 = .ok (.iconst 0, 1) := by decide +kernel
theorem dL_unary_2 : decode cL_unary 2 = .ok (.aload_n 0, 1) := by decide +kernel
theorem dL_unary_3 : decode cL_unary 3 = .ok (.iload_n 1, 1) := by decide +kernel
theorem dL_unary_4 : decode cL_unary 4 = .ok (.iload_n 2, 1) := by decide +kernel
theorem dL_unary_5 : decode cL_unary 5 = .ok (.invokevirtual 36, 3) := by decide +kernel
theorem dL_unary_8 : decode cL_unary 8 = .ok (.i2l, 1) := by decide +kernel
theorem dL_unary_9 : decode cL_unary 9 = .ok (.lastore, 1) := by decide +kernel
theorem dL_unary_10 : decode cL_unary 10 = .ok (.goto 19, 3) := by decide +kernel
theorem dL_unary_13 : decode cL_unary 13 = .ok (.astore 4, 2) := by decide +kernel
theorem dL_unary_15 : decode cL_unary 15 = .ok (.iconst 1, 1) := by decide +kernel
theorem dL_unary_16 : decode cL_unary 16 = .ok (.ireturn, 1) := by decide +kernel
theorem dL_unary_17 : decode cL_unary 17 = .ok (.astore 4, 2) := by decide +kernel
theorem dL_unary_19 : decode cL_unary 19 = .ok (.iconst 2, 1) := by decide +kernel
theorem dL_unary_20 : decode cL_unary 20 = .ok (.ireturn, 1) := by decide +kernel
theorem dL_unary_21 : decode cL_unary 21 = .ok (.astore 4, 2) := by decide +kernel
theorem dL_unary_23 : decode cL_unary 23 = .ok (.iconst 3, 1) := by decide +kernel
theorem dL_unary_24 : decode cL_unary 24 = .ok (.ireturn, 1) := by decide +kernel
theorem dL_unary_25 : decode cL_unary 25 = .ok (.astore 4, 2) := by decide +kernel
theorem dL_unary_27 : decode cL_unary 27 = .ok (.iconst 4, 1) := by decide +kernel
theorem dL_unary_28 : decode cL_unary 28 = .ok (.ireturn, 1) := by decide +kernel
theorem dL_unary_29 : decode cL_unary 29 = .ok (.iconst 0, 1) := by decide +kernel
theorem dL_unary_30 : decode cL_unary 30 = .ok (.ireturn, 1) := by decide +kernel
section
theorem dL_law_0 : decode cL_law 0 = .ok (.new 8, 3) := by decide +kernel
theorem dL_law_3 : decode cL_law 3 = .ok (.dup, 1) := by decide +kernel
theorem dL_law_4 : decode cL_law 4 = .ok (.invokespecial 117, 3) := by decide +kernel
theorem dL_law_7 : decode cL_law 7 = .ok (.astore_n 1, 1) := by decide +kernel
theorem dL_law_8 : decode cL_law 8 = .ok (.new 118, 3) := by decide +kernel
theorem dL_law_11 : decode cL_law 11 = .ok (.dup, 1) := by decide +kernel
theorem dL_law_12 : decode cL_law 12 = .ok (.invokespecial 120, 3) := by decide +kernel
theorem dL_law_15 : decode cL_law 15 = .ok (.astore_n 2, 1) := by decide +kernel
theorem dL_law_16 : decode cL_law 16 = .ok (.iconst 1, 1) := by decide +kernel
theorem dL_law_17 : decode cL_law 17 = .ok (.newarray .long, 2) := by decide +kernel
theorem dL_law_19 : decode cL_law 19 = .ok (.astore_n 3, 1) := by decide +kernel
theorem dL_law_20 : decode cL_law 20 = .ok (.iconst 1, 1) := by decide +kernel
theorem dL_law_21 : decode cL_law 21 = .ok (.newarray .double, 2) := by decide +kernel
theorem dL_law_23 : decode cL_law 23 = .ok (.astore 4, 2) := by decide +kernel
theorem dL_law_25 : decode cL_law 25 = .ok (.iconst 0, 1) := by decide +kernel
theorem dL_law_26 : decode cL_law 26 = .ok (.istore 5, 2) := by decide +kernel
theorem dL_law_28 : decode cL_law 28 = .ok (.iload 5, 2) := by decide +kernel
theorem dL_law_30 : decode cL_law 30 = .ok (.aload_n 0, 1) := by decide +kernel
theorem dL_law_31 : decode cL_law 31 = .ok (.arraylength, 1) := by decide +kernel
theorem dL_law_32 : decode cL_law 32 = .ok (.iconst 4, 1) := by decide +kernel
theorem dL_law_33 : decode cL_law 33 = .ok (.isub, 1) := by decide +kernel
theorem dL_law_34 : decode cL_law 34 = .ok (.if_icmp .gt 1244, 3) := by decide +kernel
theorem dL_law_37 : decode cL_law 37 = .ok (.aload_n 0, 1) := by decide +kernel
theorem dL_law_38 : decode cL_law 38 = .ok (.iload 5, 2) := by decide +kernel
theorem dL_law_40 : decode cL_law 40 = .ok (.iaload, 1) := by decide +kernel
theorem dL_law_41 : decode cL_law 41 = .ok (.bipush 63, 2) := by decide +kernel
theorem dL_law_43 : decode cL_law 43 = .ok (.iand, 1) := by decide +kernel
theorem dL_law_44 : decode cL_law 44 = .ok (.tableswitch 1228 0 32 #[148, 216, 268, 308, 348, 376, 418, 458, 512, 564, 618, 670, 698, 740, 768, 820, 860, 900, 928, 956, 984, 1000, 1016, 1029, 1042, 1055, 1083, 1099, 1115, 1131, 1147, 1198, 1215], 148) := by decide +kernel
theorem dL_law_420 : decode cL_law 420 = .ok (.aload_n 1, 1) := by decide +kernel
theorem dL_law_421 : decode cL_law 421 = .ok (.aload_n 0, 1) := by decide +kernel
theorem dL_law_422 : decode cL_law 422 = .ok (.iload 5, 2) := by decide +kernel
theorem dL_law_424 : decode cL_law 424 = .ok (.iconst 1, 1) := by decide +kernel
theorem dL_law_425 : decode cL_law 425 = .ok (.iadd, 1) := by decide +kernel
theorem dL_law_426 : decode cL_law 426 = .ok (.iaload, 1) := by decide +kernel
theorem dL_law_427 : decode cL_law 427 = .ok (.i2c, 1) := by decide +kernel
theorem dL_law_428 : decode cL_law 428 = .ok (.aload_n 0, 1) := by decide +kernel
theorem dL_law_429 : decode cL_law 429 = .ok (.iload 5, 2) := by decide +kernel
theorem dL_law_431 : decode cL_law 431 = .ok (.iconst 2, 1) := by decide +kernel
theorem dL_law_432 : decode cL_law 432 = .ok (.iadd, 1) := by decide +kernel
theorem dL_law_433 : decode cL_law 433 = .ok (.iaload, 1) := by decide +kernel
theorem dL_law_434 : decode cL_law 434 = .ok (.aload_n 3, 1) := by decide +kernel
theorem dL_law_435 : decode cL_law 435 = .ok (.invokestatic 142, 3) := by decide +kernel
theorem dL_law_438 : decode cL_law 438 = .ok (.istore 6, 2) := by decide +kernel
theorem dL_law_440 : decode cL_law 440 = .ok (.aload_n 2, 1) := by decide +kernel
theorem dL_law_441 : decode cL_law 441 = .ok (.aload_n 0, 1) := by decide +kernel
theorem dL_law_442 : decode cL_law 442 = .ok (.iload 5, 2) := by decide +kernel
theorem dL_law_444 : decode cL_law 444 = .ok (.iconst 1, 1) := by decide +kernel
theorem dL_law_445 : decode cL_law 445 = .ok (.iadd, 1) := by decide +kernel
theorem dL_law_446 : decode cL_law 446 = .ok (.iaload, 1) := by decide +kernel
theorem dL_law_447 : decode cL_law 447 = .ok (.i2c, 1) := by decide +kernel
theorem dL_law_448 : decode cL_law 448 = .ok (.aload_n 0, 1) := by decide +kernel
theorem dL_law_449 : decode cL_law 449 = .ok (.iload 5, 2) := by decide +kernel
theorem dL_law_451 : decode cL_law 451 = .ok (.iconst 2, 1) := by decide +kernel
theorem dL_law_452 : decode cL_law 452 = .ok (.iadd, 1) := by decide +kernel
theorem dL_law_453 : decode cL_law 453 = .ok (.iaload, 1) := by decide +kernel
theorem dL_law_454 : decode cL_law 454 = .ok (.invokevirtual 145, 3) := by decide +kernel
end
def wo_L_unary : List Cond := .codeWith yL_unary cL_unary 5 (some .int) [(0, 10, 13, 13), (0, 10, 17, 21), (0, 10, 21, 23), (0, 10, 25, 15)] :: ([.classLink RL 13 "java/lang/IllegalArgumentException"] ++ ((wsV RL 36 RX11 yX11_unary wo_X11_unary) ++ []))
set_option maxHeartbeats 4000000 in
set_option maxRecDepth 100000 in
theorem o_L_unary (l : Launch) (hlt : l.stackTraces = false) (dC : Nat → ClassId) (dI : Nat → Nat → Nat) (x : Nat) (j : Int32) (o : Nat) (a1 : Nat) (a2 : Nat) (a3 : Nat) (a4 : Nat) (a5 : Nat) (a6 : Nat) (sz : Nat) : Met l yL_unary wo_L_unary ({ frames := 8, cells := 1, slots := 6, locals := 180 }) (va_Pc [.ref x, .int 0, .int j, .ref o] (fun U => U.heap.size = sz ∧ va_P (dC, dI) vwCl [(x, .inr (13, [.ref a1, .ref a2, .ref a3, .ref a4, .ref a5, .ref a6, .long 0]))] U.heap ∧ va_K (dC, dI) vwCl [] U ∧ va_D (fun _ => True) [(x, .inr (13, [.ref a1, .ref a2, .ref a3, .ref a4, .ref a5, .ref a6, .long 0]))] ∧ xw (va_A [(x, .inr (13, [.ref a1, .ref a2, .ref a3, .ref a4, .ref a5, .ref a6, .long 0]))] sz) U U.heap ∧ sW RX11 176 (va_A [(x, .inr (13, [.ref a1, .ref a2, .ref a3, .ref a4, .ref a5, .ref a6, .long 0]))] sz) U U.heap)) (va_Qi (fun (r : Int32) (_ : Unit) => r = 1) (fun _ t => True) (va_A [(x, .inr (13, [.ref a1, .ref a2, .ref a3, .ref a4, .ref a5, .ref a6, .long 0]))] sz)) 1 6 (va_A [(x, .inr (13, [.ref a1, .ref a2, .ref a3, .ref a4, .ref a5, .ref a6, .long 0]))] sz) := by
  refine va_MetW (cc := cL_unary) (maxL := 5) (ret := (some .int)) (by decide +kernel) rfl ?_
  intro p e s m args below meth c s₁ B hml hv
  obtain ⟨rfl, hsz, hP, hK, hD0, hH⟩ := hv
  have hx := B.exec
  have hb := B.bytes
  have hr := B.returns
  have hts := atoms_spec (ws := wo_L_unary) B.pre
  have hown : s.vm.findClass RL = some m.cls := findClass_of_methodNamed B.named
  have hlocks := B.notSynchronized
  subst hsz
  have hD := hD0.self (sz := s.heap.size)
  generalize hAe : va_A [(x, .inr (13, [.ref a1, .ref a2, .ref a3, .ref a4, .ref a5, .ref a6, .long 0]))] s.heap.size = A at hD hH ⊢
  have hA : ∀ q : Nat, s.heap.size ≤ q → A q := fun q h => by rw [← hAe]; exact Or.inr h
  have hS : va_S A s.heap s.heap [] := va_S.rf
  have hP : va_P (dC, dI) vwCl [(x, .inr (13, [.ref a1, .ref a2, .ref a3, .ref a4, .ref a5, .ref a6, .long 0]))] s.heap := hP
  have hl := lv_entry ([.ref x, .int 0, .int j, .ref o]) (n := 5) (Nat.le_of_ble_eq_true rfl)
  rw [lg_entry_eq]
  generalize (lg_sl ([.ref x, .int 0, .int j, .ref o]) ++ List.replicate (5 - (lg_sl ([.ref x, .int 0, .int j, .ref o])).length) Slot.unset).toArray = ls at hl ⊢
  have hl : lv_has ls 5 [(0, .ref x), (1, .int 0), (2, .int j), (3, .ref o)] := hl
  obtain ⟨hX, hH⟩ := hH
  refine lv_aload_n hx hb dL_unary_0 rfl (lv_at hl 3 rfl) ?_
  refine lv_iconst (v := 0) hx hb dL_unary_1 (by decide) ?_
  refine lv_aload_n hx hb dL_unary_2 rfl (lv_at hl 0 rfl) ?_
  refine lv_iload_n hx hb dL_unary_3 rfl (lv_at hl 1 rfl) ?_
  refine lv_iload_n hx hb dL_unary_4 rfl (lv_at hl 2 rfl) ?_
  have hPc := hP.sub (ws' := []) [] rfl
  have hKc := hK.sub (tys' := []) [] rfl
  have hDc := hD.sub (ws' := []) [] (by decide) rfl
  have hFc := va_free (wc := []) hD hS hA [] rfl
  refine vx_calli (vx_runV (As := [.int 0, .int j]) (rest := [.int 0, .ref o]) ⟨hx, hb, hml, hown, hts⟩ (o_X11_unary l hlt dC dI x j _) (cwV 2 hts (goodIn_sub (ws := wsV RL 36 RX11 yX11_unary wo_X11_unary) (fun w h => (List.mem_cons_of_mem _ (List.mem_append_right _ (List.mem_append_left _ h)))) (by decide +kernel)) rfl rfl rfl (by decide +kernel) ⟨Nat.le_of_ble_eq_true rfl, Nat.le_of_ble_eq_true rfl⟩) ⟨fun a U g mk q => by obtain ⟨q0, q1, qP, qK, qD, qX, qH⟩ := q; exact ⟨q0, q1, qP, va_K.moved (u := U) (U := U.calling g mk a) (Vm.Alike.refl U.vm) qK, qD, xw.blind a g mk qX, qH.blind a g mk⟩, va_recv hK hP (ci := 13) (q0 := 0) rfl rfl, fun U hU hW => ⟨rfl, by rw [hU], by rw [hU]; exact hPc, va_K.moved hW.alike hKc, hDc.weaken (fun _ _ _ _ => trivial), xw.call hX hS hFc hW hU, hH.call hS hFc hW hU⟩⟩ rfl rfl hl.1 rfl (lv_room (Nat.le_of_ble_eq_true rfl)) dL_unary_5 ⟨(Nat.le_of_ble_eq_true rfl), (Nat.le_of_ble_eq_true rfl)⟩) hS (fun q _ h => hFc q h) hFc (fun q _ h => hFc q h) (fun E ce q9 u t H1 locs ht hvm hw hB hz1 hk1 hS hq9 hcv hcl => ?_) (fun r_1 u t H1 locs ht hvm hw hB hz1 hk1 hS => ?_)
  · have hK1 : va_K (dC, dI) vwCl _ s := hK
    subst hB
    refine vx_catch hown [] ⟨0, 10, 13, 13⟩ _ ((vx_table (x := yL_unary) B (hts _ List.mem_cons_self)).trans rfl) (fun z hz => nomatch hz) (by decide) (by decide) (hts (.classLink RL 13 "java/lang/IllegalArgumentException") (by decide +kernel)) (va_Nw.use rfl (hX.2.1.1 _ (by decide +kernel))) hq9 hcv hcl ?_
    refine lv_astore (lv' := [(4, .ref q9), (0, .ref x), (1, .int 0), (2, .int j), (3, .ref o)]) hx hb dL_unary_13 hl (by decide) rfl (fun ls hl => ?_)
    refine lv_iconst (v := 1) hx hb dL_unary_15 (by decide) ?_
    exact W.iret (v := 1) hx hb hr (fun t ht hW => ⟨⟨1, (), rfl, rfl, trivial⟩, hS.F ht⟩) hS.2.2 dL_unary_16
  · exact absurd hw.1 (by decide)

def od_xs : Nat → Int32 := fun j => if j = 0 then 5 else 0
def wo_law : List Cond := .code yL_law cL_law 8 (some .boolean) :: ([.classLink RL 8 RX11, .instantiable RX11 7, .initialized RX11, .methodLink RL 117 yX11_init, .instanceMethod yX11_init, .classLink RL 118 RX18, .instantiable RX18 18, .initialized RX18, .methodLink RL 120 yX18_init, .instanceMethod yX18_init, .arrayClass .long, .arrayClass .double] ++ (wsX110 ++ (wc_X11_init ++ (wsX180 ++ (wc_X18_init ++ ((va_wsS RL 142 yL_unary wo_L_unary) ++ ((wsV RL 145 RX18 yX18_unary wo_X18_unary) ++ [])))))))
set_option maxHeartbeats 4000000 in
set_option maxRecDepth 100000 in
theorem o_law (l : Launch) (hlt : l.stackTraces = false) (dC : Nat → ClassId) (dI : Nat → Nat → Nat) (b : Nat) (sz : Nat) : vx_Met l yL_law wo_law ({ frames := 12, cells := 240, slots := 16200, locals := 300 }) (va_Pc [.ref b] (fun U => U.heap.size = sz ∧ va_P (dC, dI) vwCl [] U.heap ∧ va_K (dC, dI) vwCl [] U ∧ va_D (fun _ => True) [] ∧ xw (va_A [] sz) U U.heap ∧ (b < U.heap.size ∧ va_X b 4 od_xs U U.heap) ∧ sW RX11 176 (va_A [] sz) U U.heap ∧ sW RX18 137 (va_A [] sz) U U.heap ∧ nw U ∧ nm U ∧ od U)) (va_Qi (fun (r : Int32) (_ : Unit) => "java/lang/IllegalStateException" = "" ∧ True) (fun _ t => True) (va_A [] sz)) (vx_X (fun _ : Unit => True) (fun E _ _ => E = "java/lang/IllegalStateException") (va_A [] sz)) 240 16200 (va_A [] sz) := by
  refine vx_ofW (cc := cL_law) (maxL := 8) (ret := (some .boolean)) (by decide +kernel) rfl ?_
  intro p e s m args below meth c s₁ B hml hno hv
  obtain ⟨rfl, hsz, hP, hK, hD0, hX, hH⟩ := hv
  have hx := B.exec
  have hb := B.bytes
  have hr := B.returns
  have hts := atoms_spec (ws := wo_law) B.pre
  have hown : s.vm.findClass RL = some m.cls := findClass_of_methodNamed B.named
  have hlocks := B.notSynchronized
  subst hsz
  have hD := hD0.self (sz := s.heap.size)
  generalize hAe : va_A [] s.heap.size = A at hD hX hH ⊢
  have hA : ∀ q : Nat, s.heap.size ≤ q → A q := fun q h => by rw [← hAe]; exact Or.inr h
  have hS : va_S A s.heap s.heap [] := va_S.rf
  have hP : va_P (dC, dI) vwCl [] s.heap := hP
  have hl := lv_entry ([.ref b]) (n := 8) (Nat.le_of_ble_eq_true rfl)
  rw [lg_entry_eq]
  generalize (lg_sl ([.ref b]) ++ List.replicate (8 - (lg_sl ([.ref b])).length) Slot.unset).toArray = ls at hl ⊢
  have hl : lv_has ls 8 [(0, .ref b)] := hl
  obtain ⟨⟨hbl, hXs⟩, hW176, hW137, hN, hM, hO⟩ := hH
  have hbA : ¬ A b := by rw [← hAe]; exact fun h => h.elim (fun ⟨k, e, h⟩ => by simp at h) (fun h => Nat.not_le.mpr hbl h)
  refine va_new (ci := 13) (fs := [.null, .null, .null, .null, .null, .null, .long 0]) (C := RX11) (T := TX11) (N := 7) hx hb hts (fun w h => (List.mem_cons_of_mem _ (List.mem_append_right _ (List.mem_append_left _ h)))) tyX11 tyX11_ok hown (hts (.classLink RL 8 RX11) (by decide +kernel)) (hts (.instantiable RX11 7) (by decide +kernel)) (hts (.initialized RX11) (by decide +kernel)) hK hP hD hS hA rfl (fun j hj => by rcases (show j = 0 ∨ j = 1 ∨ j = 2 ∨ j = 3 ∨ j = 4 ∨ j = 5 ∨ j = 6 by omega) with rfl | rfl | rfl | rfl | rfl | rfl | rfl <;> rfl) (Nat.le_of_ble_eq_true rfl) (Nat.le_of_ble_eq_true rfl) dL_law_0 (fun q1 H hP hD hS => ?_)
  have hP : va_P (dC, dI) vwCl [(q1, .inr (13, [.null, .null, .null, .null, .null, .null, .long 0]))] H := hP
  have hD : va_D A [(q1, .inr (13, [.null, .null, .null, .null, .null, .null, .long 0]))] := hD
  refine W.widen (k := 1) (n := 7) (by decide) (by decide) ?_
  refine lv_dup hx hb dL_law_3 rfl ?_
  have hPc := hP.sub (ws' := [(q1, .inr (13, [.null, .null, .null, .null, .null, .null, .long 0]))]) [0] rfl
  have hKc := hK.sub (tys' := []) [] rfl
  have hDc := hD.sub (ws' := [(q1, .inr (13, [.null, .null, .null, .null, .null, .null, .long 0]))]) [0] (by decide) rfl
  have hFc := va_free (wc := [(q1, .inr (13, [.null, .null, .null, .null, .null, .null, .long 0]))]) hD hS hA [0] rfl
  refine va_callv (va_runI (As := []) (rest := [.ref q1]) ⟨hx, hb, hml, hown, hts⟩ (c_X11_init l dC dI q1 _) (cwI 0 hts (goodIn_sub (ws := wc_X11_init) (fun w h => (List.mem_cons_of_mem _ (List.mem_append_right _ (List.mem_append_right _ (List.mem_append_left _ h))))) (by decide +kernel)) rfl rfl rfl (hts (.initialized RX11) (by decide +kernel)) (hts (.methodLink RL 117 yX11_init) (by decide +kernel)) (hts (.instanceMethod yX11_init) (by decide +kernel)) rfl (by decide +kernel) ⟨Nat.le_of_ble_eq_true rfl, Nat.le_of_ble_eq_true rfl⟩) ⟨fun a U g mk q => by obtain ⟨q0, q1, qP, qK, qD, qH⟩ := q; exact ⟨q0, q1, qP, va_K.moved (u := U) (U := U.calling g mk a) (Vm.Alike.refl U.vm) qK, qD, qH.blind a g mk⟩, fun U hU hW => ⟨rfl, by rw [hU], by rw [hU]; exact hPc, va_K.moved hW.alike hKc, hDc.weaken (fun _ _ _ _ => trivial), hN.warm hW⟩⟩ rfl rfl hl.1 rfl (lv_room (Nat.le_of_ble_eq_true rfl)) dL_law_4 ⟨(Nat.le_of_ble_eq_true rfl), (Nat.le_of_ble_eq_true rfl)⟩) hS (fun q _ h => hFc q h) hFc (fun u t H1 locs ht hvm hw hB hz1 hk1 hS => ?_)
  obtain ⟨a1_3, a2_4, a3_5, a4_6, a5_7, a6_8, hP1, hK1, hD1⟩ := hB
  rw [ht] at hP1
  have hK1 := va_K.moved hvm.symm hK1
  try dsimp only at hw
  obtain ⟨hP, hD⟩ := va_join (wr := []) (w1 := [(q1, .inr (13, [.ref a1_3, .ref a2_4, .ref a3_5, .ref a4_6, .ref a5_7, .ref a6_8, .long 0]))]) hP hD [0] [] rfl rfl (by decide) (by decide) hk1 hFc hP1 hD1
  generalize H1 = H at hP hS ⊢
  have hP : va_P (dC, dI) vwCl [(q1, .inr (13, [.ref a1_3, .ref a2_4, .ref a3_5, .ref a4_6, .ref a5_7, .ref a6_8, .long 0]))] H := hP
  have hD : va_D A [(q1, .inr (13, [.ref a1_3, .ref a2_4, .ref a3_5, .ref a4_6, .ref a5_7, .ref a6_8, .long 0]))] := hD
  refine lv_astore_n (lv' := [(1, .ref q1), (0, .ref b)]) hx hb dL_law_7 rfl hl (by decide) rfl (fun ls hl => ?_)
  refine va_new (ci := 20) (fs := [.null, .null, .null, .int 0, .int 0, .int 0, .int 0, .null, .null, .null, .null, .null, .null, .null, .long 0, .int 0, .int 0, .int 0]) (C := RX18) (T := TX18) (N := 18) hx hb hts (fun w h => (List.mem_cons_of_mem _ (List.mem_append_right _ (List.mem_append_right _ (List.mem_append_right _ (List.mem_append_left _ h)))))) tyX18 tyX18_ok hown (hts (.classLink RL 118 RX18) (by decide +kernel)) (hts (.instantiable RX18 18) (by decide +kernel)) (hts (.initialized RX18) (by decide +kernel)) hK hP hD hS hA rfl (fun j hj => by rcases (show j = 0 ∨ j = 1 ∨ j = 2 ∨ j = 3 ∨ j = 4 ∨ j = 5 ∨ j = 6 ∨ j = 7 ∨ j = 8 ∨ j = 9 ∨ j = 10 ∨ j = 11 ∨ j = 12 ∨ j = 13 ∨ j = 14 ∨ j = 15 ∨ j = 16 ∨ j = 17 by omega) with rfl | rfl | rfl | rfl | rfl | rfl | rfl | rfl | rfl | rfl | rfl | rfl | rfl | rfl | rfl | rfl | rfl | rfl <;> rfl) (Nat.le_of_ble_eq_true rfl) (Nat.le_of_ble_eq_true rfl) dL_law_8 (fun q9 H hP hD hS => ?_)
  have hP : va_P (dC, dI) vwCl [(q1, .inr (13, [.ref a1_3, .ref a2_4, .ref a3_5, .ref a4_6, .ref a5_7, .ref a6_8, .long 0])), (q9, .inr (20, [.null, .null, .null, .int 0, .int 0, .int 0, .int 0, .null, .null, .null, .null, .null, .null, .null, .long 0, .int 0, .int 0, .int 0]))] H := hP
  have hD : va_D A [(q1, .inr (13, [.ref a1_3, .ref a2_4, .ref a3_5, .ref a4_6, .ref a5_7, .ref a6_8, .long 0])), (q9, .inr (20, [.null, .null, .null, .int 0, .int 0, .int 0, .int 0, .null, .null, .null, .null, .null, .null, .null, .long 0, .int 0, .int 0, .int 0]))] := hD
  refine W.widen (k := 224) (n := 11393) (by decide) (by decide) ?_
  refine lv_dup hx hb dL_law_11 rfl ?_
  have hPc := hP.sub (ws' := [(q9, .inr (20, [.null, .null, .null, .int 0, .int 0, .int 0, .int 0, .null, .null, .null, .null, .null, .null, .null, .long 0, .int 0, .int 0, .int 0]))]) [1] rfl
  have hKc := hK.sub (tys' := []) [] rfl
  have hDc := hD.sub (ws' := [(q9, .inr (20, [.null, .null, .null, .int 0, .int 0, .int 0, .int 0, .null, .null, .null, .null, .null, .null, .null, .long 0, .int 0, .int 0, .int 0]))]) [1] (by decide) rfl
  have hFc := va_free (wc := [(q9, .inr (20, [.null, .null, .null, .int 0, .int 0, .int 0, .int 0, .null, .null, .null, .null, .null, .null, .null, .long 0, .int 0, .int 0, .int 0]))]) hD hS hA [1] rfl
  refine va_callv (va_runI (As := []) (rest := [.ref q9]) ⟨hx, hb, hml, hown, hts⟩ (c_X18_init l dC dI q9 _) (cwI 0 hts (goodIn_sub (ws := wc_X18_init) (fun w h => (List.mem_cons_of_mem _ (List.mem_append_right _ (List.mem_append_right _ (List.mem_append_right _ (List.mem_append_right _ (List.mem_append_left _ h))))))) (by decide +kernel)) rfl rfl rfl (hts (.initialized RX18) (by decide +kernel)) (hts (.methodLink RL 120 yX18_init) (by decide +kernel)) (hts (.instanceMethod yX18_init) (by decide +kernel)) rfl (by decide +kernel) ⟨Nat.le_of_ble_eq_true rfl, Nat.le_of_ble_eq_true rfl⟩) ⟨fun a U g mk q => by obtain ⟨q0, q1, qP, qK, qD, qH⟩ := q; exact ⟨q0, q1, qP, va_K.moved (u := U) (U := U.calling g mk a) (Vm.Alike.refl U.vm) qK, qD, qH.blind a g mk⟩, fun U hU hW => ⟨rfl, by rw [hU], by rw [hU]; exact hPc, va_K.moved hW.alike hKc, hDc.weaken (fun _ _ _ _ => trivial), hM.warm hW⟩⟩ rfl rfl hl.1 rfl (lv_room (Nat.le_of_ble_eq_true rfl)) dL_law_12 ⟨(Nat.le_of_ble_eq_true rfl), (Nat.le_of_ble_eq_true rfl)⟩) hS (fun q _ h => hFc q h) hFc (fun u t H1 locs ht hvm hw hB hz1 hk1 hS => ?_)
  obtain ⟨m0_11, m1_12, m2_13, m7_14, m8_15, m9_16, m10_17, m11_18, m12_19, hP1, hK1, hD1⟩ := hB
  rw [ht] at hP1
  have hK1 := va_K.moved hvm.symm hK1
  try dsimp only at hw
  obtain ⟨hP, hD⟩ := va_join (wr := [(q1, .inr (13, [.ref a1_3, .ref a2_4, .ref a3_5, .ref a4_6, .ref a5_7, .ref a6_8, .long 0]))]) (w1 := [(q9, .inr (20, [.ref m0_11, .ref m1_12, .ref m2_13, .int 0, .int 0, .int 0, .int 0, .ref m7_14, .ref m8_15, .ref m9_16, .ref m10_17, .ref m11_18, .ref m12_19, .null, .long 0, .int 0, .int 0, .int 0]))]) hP hD [1] [0] rfl rfl (by decide) (by decide) hk1 hFc hP1 hD1
  generalize H1 = H at hP hS ⊢
  have hP : va_P (dC, dI) vwCl [(q1, .inr (13, [.ref a1_3, .ref a2_4, .ref a3_5, .ref a4_6, .ref a5_7, .ref a6_8, .long 0])), (q9, .inr (20, [.ref m0_11, .ref m1_12, .ref m2_13, .int 0, .int 0, .int 0, .int 0, .ref m7_14, .ref m8_15, .ref m9_16, .ref m10_17, .ref m11_18, .ref m12_19, .null, .long 0, .int 0, .int 0, .int 0]))] H := hP
  have hD : va_D A [(q1, .inr (13, [.ref a1_3, .ref a2_4, .ref a3_5, .ref a4_6, .ref a5_7, .ref a6_8, .long 0])), (q9, .inr (20, [.ref m0_11, .ref m1_12, .ref m2_13, .int 0, .int 0, .int 0, .int 0, .ref m7_14, .ref m8_15, .ref m9_16, .ref m10_17, .ref m11_18, .ref m12_19, .null, .long 0, .int 0, .int 0, .int 0]))] := hD
  refine lv_astore_n (lv' := [(2, .ref q9), (1, .ref q1), (0, .ref b)]) hx hb dL_law_15 rfl hl (by decide) rfl (fun ls hl => ?_)
  refine lv_iconst (v := 1) hx hb dL_law_16 (by decide) ?_
  refine va_newa (atype := .long) (ty := .long) (a0 := (1, .inr (.inl (fun _ => (0 : Int64))))) (N' := 1) hx hb (hts (.arrayClass .long) (by decide +kernel)) rfl hK hP hD hS hA (fun _ => rfl) (by decide) (by decide) (Nat.le_of_ble_eq_true rfl) (Nat.le_of_ble_eq_true rfl) (Nat.le_of_ble_eq_true rfl) dL_law_17 (fun q20 cA21 H hK hP hD hS => ?_)
  have hK : va_K (dC, dI) vwCl [(cA21, .long)] s := hK
  have hP : va_P (dC, dI) vwCl [(q1, .inr (13, [.ref a1_3, .ref a2_4, .ref a3_5, .ref a4_6, .ref a5_7, .ref a6_8, .long 0])), (q9, .inr (20, [.ref m0_11, .ref m1_12, .ref m2_13, .int 0, .int 0, .int 0, .int 0, .ref m7_14, .ref m8_15, .ref m9_16, .ref m10_17, .ref m11_18, .ref m12_19, .null, .long 0, .int 0, .int 0, .int 0])), (q20, .inl (cA21, 1, .inr (.inl (fun _ => (0 : Int64)))))] H := hP
  have hD : va_D A [(q1, .inr (13, [.ref a1_3, .ref a2_4, .ref a3_5, .ref a4_6, .ref a5_7, .ref a6_8, .long 0])), (q9, .inr (20, [.ref m0_11, .ref m1_12, .ref m2_13, .int 0, .int 0, .int 0, .int 0, .ref m7_14, .ref m8_15, .ref m9_16, .ref m10_17, .ref m11_18, .ref m12_19, .null, .long 0, .int 0, .int 0, .int 0])), (q20, .inl (cA21, 1, .inr (.inl (fun _ => (0 : Int64)))))] := hD
  refine W.widen (k := 234) (n := 11596) (by decide) (by decide) ?_
  refine lv_astore_n (lv' := [(3, .ref q20), (2, .ref q9), (1, .ref q1), (0, .ref b)]) hx hb dL_law_19 rfl hl (by decide) rfl (fun ls hl => ?_)
  refine lv_iconst (v := 1) hx hb dL_law_20 (by decide) ?_
  refine va_newa (atype := .double) (ty := .double) (a0 := (1, .inr (.inr (.inr (.inl (fun _ => (0 : UInt64))))))) (N' := 1) hx hb (hts (.arrayClass .double) (by decide +kernel)) rfl hK hP hD hS hA (fun _ => rfl) (by decide) (by decide) (Nat.le_of_ble_eq_true rfl) (Nat.le_of_ble_eq_true rfl) (Nat.le_of_ble_eq_true rfl) dL_law_21 (fun q22 cA23 H hK hP hD hS => ?_)
  have hK : va_K (dC, dI) vwCl [(cA21, .long), (cA23, .double)] s := hK
  have hP : va_P (dC, dI) vwCl [(q1, .inr (13, [.ref a1_3, .ref a2_4, .ref a3_5, .ref a4_6, .ref a5_7, .ref a6_8, .long 0])), (q9, .inr (20, [.ref m0_11, .ref m1_12, .ref m2_13, .int 0, .int 0, .int 0, .int 0, .ref m7_14, .ref m8_15, .ref m9_16, .ref m10_17, .ref m11_18, .ref m12_19, .null, .long 0, .int 0, .int 0, .int 0])), (q20, .inl (cA21, 1, .inr (.inl (fun _ => (0 : Int64))))), (q22, .inl (cA23, 1, .inr (.inr (.inr (.inl (fun _ => (0 : UInt64)))))))] H := hP
  have hD : va_D A [(q1, .inr (13, [.ref a1_3, .ref a2_4, .ref a3_5, .ref a4_6, .ref a5_7, .ref a6_8, .long 0])), (q9, .inr (20, [.ref m0_11, .ref m1_12, .ref m2_13, .int 0, .int 0, .int 0, .int 0, .ref m7_14, .ref m8_15, .ref m9_16, .ref m10_17, .ref m11_18, .ref m12_19, .null, .long 0, .int 0, .int 0, .int 0])), (q20, .inl (cA21, 1, .inr (.inl (fun _ => (0 : Int64))))), (q22, .inl (cA23, 1, .inr (.inr (.inr (.inl (fun _ => (0 : UInt64)))))))] := hD
  refine W.widen (k := 235) (n := 11597) (by decide) (by decide) ?_
  refine lv_astore (lv' := [(4, .ref q22), (3, .ref q20), (2, .ref q9), (1, .ref q1), (0, .ref b)]) hx hb dL_law_23 hl (by decide) rfl (fun ls hl => ?_)
  refine lv_iconst (v := 0) hx hb dL_law_25 (by decide) ?_
  refine lv_istore (lv' := [(5, .int 0), (4, .ref q22), (3, .ref q20), (2, .ref q9), (1, .ref q1), (0, .ref b)]) hx hb dL_law_26 hl (by decide) rfl (fun ls hl => ?_)
  refine lv_iload hx hb dL_law_28 (lv_at hl 0 rfl) ?_
  refine lv_aload_n hx hb dL_law_30 rfl (lv_at hl 5 rfl) ?_
  refine va_slen hx hb hXs hbl hbA hS dL_law_31 ?_
  refine lv_topi (fun x24 ex24 => ?_)
  obtain rfl : x24 = 4 := ex24.trans (by decide)
  refine lv_iconst (v := 4) hx hb dL_law_32 (by decide) ?_
  refine lv_isub hx hb dL_law_33 ?_
  refine lv_topi (fun x25 ex25 => ?_)
  obtain rfl : x25 = 0 := ex25.trans (by decide)
  refine lv_icmp_gt (tgt := 1278) hx hb dL_law_34 (by decide) (fun c_26 => absurd c_26 (by decide)) (fun c_26 => ?_)
  refine lv_aload_n hx hb dL_law_37 rfl (lv_at hl 5 rfl) ?_
  refine lv_iload hx hb dL_law_38 (lv_at hl 0 rfl) ?_
  refine va_sld hx hb hXs hbl hbA hS (by unfold vp_in; decide) dL_law_40 ?_
  refine lv_topi (fun x27 ex27 => ?_)
  obtain rfl : x27 = 5 := ex27.trans (by decide)
  refine lv_bipush (v := 63) hx hb dL_law_41 (by decide) ?_
  refine lv_iand hx hb dL_law_43 ?_
  refine lv_topi (fun x28 ex28 => ?_)
  obtain rfl : x28 = 5 := ex28.trans (by decide)
  refine lv_tableIn (off := 376) (tgt := 420) hx hb dL_law_44 (by decide) (by decide) (by decide) (by decide) ?_
  refine lv_aload_n hx hb dL_law_420 rfl (lv_at hl 4 rfl) ?_
  refine lv_aload_n hx hb dL_law_421 rfl (lv_at hl 5 rfl) ?_
  refine lv_iload hx hb dL_law_422 (lv_at hl 0 rfl) ?_
  refine lv_iconst (v := 1) hx hb dL_law_424 (by decide) ?_
  refine lv_iadd hx hb dL_law_425 ?_
  refine lv_topi (fun x29 ex29 => ?_)
  obtain rfl : x29 = 1 := ex29.trans (by decide)
  refine va_sld hx hb hXs hbl hbA hS (by unfold vp_in; decide) dL_law_426 ?_
  refine lv_topi (fun x30 ex30 => ?_)
  obtain rfl : x30 = 0 := ex30.trans (by decide)
  refine lv_i2c (v := 0) hx hb dL_law_427 (by decide) ?_
  refine lv_aload_n hx hb dL_law_428 rfl (lv_at hl 5 rfl) ?_
  refine lv_iload hx hb dL_law_429 (lv_at hl 0 rfl) ?_
  refine lv_iconst (v := 2) hx hb dL_law_431 (by decide) ?_
  refine lv_iadd hx hb dL_law_432 ?_
  refine lv_topi (fun x31 ex31 => ?_)
  obtain rfl : x31 = 2 := ex31.trans (by decide)
  refine va_sld hx hb hXs hbl hbA hS (by unfold vp_in; decide) dL_law_433 ?_
  refine lv_topi (fun x32 ex32 => ?_)
  obtain rfl : x32 = 0 := ex32.trans (by decide)
  refine lv_aload_n hx hb dL_law_434 rfl (lv_at hl 2 rfl) ?_
  have hPc := hP.sub (ws' := [(q1, .inr (13, [.ref a1_3, .ref a2_4, .ref a3_5, .ref a4_6, .ref a5_7, .ref a6_8, .long 0]))]) [0] rfl
  have hKc := hK.sub (tys' := []) [] rfl
  have hDc := hD.sub (ws' := [(q1, .inr (13, [.ref a1_3, .ref a2_4, .ref a3_5, .ref a4_6, .ref a5_7, .ref a6_8, .long 0]))]) [0] (by decide) rfl
  have hFc := va_free (wc := [(q1, .inr (13, [.ref a1_3, .ref a2_4, .ref a3_5, .ref a4_6, .ref a5_7, .ref a6_8, .long 0]))]) hD hS hA [0] rfl
  refine va_calli (vx_runSW (As := [.ref q1, .int 0, .int 0, .ref q20]) (rest := []) ⟨hx, hb, hml, hown, hts⟩ (o_L_unary l hlt dC dI q1 0 q20 a1_3 a2_4 a3_5 a4_6 a5_7 a6_8 _) (vx_cwSW 4 hts (goodIn_sub (ws := va_wsS RL 142 yL_unary wo_L_unary) (fun w h => (List.mem_cons_of_mem _ (List.mem_append_right _ (List.mem_append_right _ (List.mem_append_right _ (List.mem_append_right _ (List.mem_append_right _ (List.mem_append_left _ h)))))))) (by decide +kernel)) rfl rfl rfl (by decide +kernel) ⟨Nat.le_of_ble_eq_true rfl, Nat.le_of_ble_eq_true rfl⟩) ⟨fun a U g mk q => by obtain ⟨q0, q1, qP, qK, qD, qH⟩ := q; exact ⟨q0, q1, qP, va_K.moved (u := U) (U := U.calling g mk a) (Vm.Alike.refl U.vm) qK, qD, ⟨xw.blind a g mk qH.1, qH.2.blind a g mk⟩⟩, fun U hU hW => ⟨rfl, by rw [hU], by rw [hU]; exact hPc, va_K.moved hW.alike hKc, hDc.weaken (fun _ _ _ _ => trivial), ⟨hX.call hS hFc hW hU, hW176.call hS hFc hW hU⟩⟩⟩ rfl rfl hl.1 rfl (lv_room (Nat.le_of_ble_eq_true rfl)) dL_law_435 ⟨(Nat.le_of_ble_eq_true rfl), (Nat.le_of_ble_eq_true rfl)⟩) hS (fun q _ h => hFc q h) hFc (fun r_33 u t H1 locs ht hvm hw hB hz1 hk1 hS => ?_)
  have hP1 : va_P (dC, dI) vwCl [] H1 := fun k q h => by simp at h
  have hD1 : ∀ B : Nat → Prop, va_D B [] := fun B => ⟨fun i j p q h => by simp at h, fun k q h => by simp at h⟩
  try dsimp only at hw
  obtain ⟨hP, hD⟩ := va_join (wr := [(q9, .inr (20, [.ref m0_11, .ref m1_12, .ref m2_13, .int 0, .int 0, .int 0, .int 0, .ref m7_14, .ref m8_15, .ref m9_16, .ref m10_17, .ref m11_18, .ref m12_19, .null, .long 0, .int 0, .int 0, .int 0])), (q20, .inl (cA21, 1, .inr (.inl (fun _ => (0 : Int64))))), (q22, .inl (cA23, 1, .inr (.inr (.inr (.inl (fun _ => (0 : UInt64)))))))]) (w1 := []) hP hD [0] [1, 2, 3] rfl rfl (by decide) (by decide) hk1 hFc hP1 (hD1 _)
  generalize H1 = H at hP hS ⊢
  have hP : va_P (dC, dI) vwCl [(q9, .inr (20, [.ref m0_11, .ref m1_12, .ref m2_13, .int 0, .int 0, .int 0, .int 0, .ref m7_14, .ref m8_15, .ref m9_16, .ref m10_17, .ref m11_18, .ref m12_19, .null, .long 0, .int 0, .int 0, .int 0])), (q20, .inl (cA21, 1, .inr (.inl (fun _ => (0 : Int64))))), (q22, .inl (cA23, 1, .inr (.inr (.inr (.inl (fun _ => (0 : UInt64)))))))] H := hP
  have hD : va_D A [(q9, .inr (20, [.ref m0_11, .ref m1_12, .ref m2_13, .int 0, .int 0, .int 0, .int 0, .ref m7_14, .ref m8_15, .ref m9_16, .ref m10_17, .ref m11_18, .ref m12_19, .null, .long 0, .int 0, .int 0, .int 0])), (q20, .inl (cA21, 1, .inr (.inl (fun _ => (0 : Int64))))), (q22, .inl (cA23, 1, .inr (.inr (.inr (.inl (fun _ => (0 : UInt64)))))))] := hD
  obtain rfl := hw
  refine lv_istore (lv' := [(6, .int 1), (5, .int 0), (4, .ref q22), (3, .ref q20), (2, .ref q9), (1, .ref q1), (0, .ref b)]) hx hb dL_law_438 hl (by decide) rfl (fun ls hl => ?_)
  refine lv_aload_n hx hb dL_law_440 rfl (lv_at hl 4 rfl) ?_
  refine lv_aload_n hx hb dL_law_441 rfl (lv_at hl 6 rfl) ?_
  refine lv_iload hx hb dL_law_442 (lv_at hl 1 rfl) ?_
  refine lv_iconst (v := 1) hx hb dL_law_444 (by decide) ?_
  refine lv_iadd hx hb dL_law_445 ?_
  refine lv_topi (fun x34 ex34 => ?_)
  obtain rfl : x34 = 1 := ex34.trans (by decide)
  refine va_sld hx hb hXs hbl hbA hS (by unfold vp_in; decide) dL_law_446 ?_
  refine lv_topi (fun x35 ex35 => ?_)
  obtain rfl : x35 = 0 := ex35.trans (by decide)
  refine lv_i2c (v := 0) hx hb dL_law_447 (by decide) ?_
  refine lv_aload_n hx hb dL_law_448 rfl (lv_at hl 6 rfl) ?_
  refine lv_iload hx hb dL_law_449 (lv_at hl 1 rfl) ?_
  refine lv_iconst (v := 2) hx hb dL_law_451 (by decide) ?_
  refine lv_iadd hx hb dL_law_452 ?_
  refine lv_topi (fun x36 ex36 => ?_)
  obtain rfl : x36 = 2 := ex36.trans (by decide)
  refine va_sld hx hb hXs hbl hbA hS (by unfold vp_in; decide) dL_law_453 ?_
  refine lv_topi (fun x37 ex37 => ?_)
  obtain rfl : x37 = 0 := ex37.trans (by decide)
  have hPc := hP.sub (ws' := []) [] rfl
  have hKc := hK.sub (tys' := []) [] rfl
  have hDc := hD.sub (ws' := []) [] (by decide) rfl
  have hFc := va_free (wc := []) hD hS hA [] rfl
  refine vx_calli (vx_runV (As := [.int 0, .int 0]) (rest := []) ⟨hx, hb, hml, hown, hts⟩ (o_X18_unary l hlt dC dI q9 0 0 _) (cwV 2 hts (goodIn_sub (ws := wsV RL 145 RX18 yX18_unary wo_X18_unary) (fun w h => (List.mem_cons_of_mem _ (List.mem_append_right _ (List.mem_append_right _ (List.mem_append_right _ (List.mem_append_right _ (List.mem_append_right _ (List.mem_append_right _ (List.mem_append_left _ h))))))))) (by decide +kernel)) rfl rfl rfl (by decide +kernel) ⟨Nat.le_of_ble_eq_true rfl, Nat.le_of_ble_eq_true rfl⟩) ⟨fun a U g mk q => by obtain ⟨q0, q1, qP, qK, qD, qX, qH⟩ := q; exact ⟨q0, q1, qP, va_K.moved (u := U) (U := U.calling g mk a) (Vm.Alike.refl U.vm) qK, qD, xw.blind a g mk qX, ⟨qH.1.blind a g mk, qH.2.blind a g mk⟩⟩, va_recv hK hP (ci := 20) (q0 := 0) rfl rfl, fun U hU hW => ⟨rfl, by rw [hU], by rw [hU]; exact hPc, va_K.moved hW.alike hKc, hDc.weaken (fun _ _ _ _ => trivial), xw.call hX hS hFc hW hU, ⟨hW137.call hS hFc hW hU, hO.warm hW⟩⟩⟩ rfl rfl hl.1 rfl (lv_room (Nat.le_of_ble_eq_true rfl)) dL_law_454 ⟨(Nat.le_of_ble_eq_true rfl), (Nat.le_of_ble_eq_true rfl)⟩) hS (fun q _ h => hFc q h) hFc (fun q _ h => hFc q h) (fun E ce q9 u t H1 locs ht hvm hw hB hz1 hk1 hS hq9 hcv hcl => ?_) (fun r_38 u t H1 locs ht hvm hw hB hz1 hk1 hS => ?_)
  · have hK1 : va_K (dC, dI) vwCl _ s := hK
    exact vx_out (fun x h => (hno x h).elim) hlocks hq9 hcv hcl (fun t ht hA => ⟨(), trivial, hB, hS.F ht⟩) hS.2.2 (Nat.le_of_ble_eq_true rfl) (Nat.le_of_ble_eq_true rfl)
  · exact absurd hw.1 (by decide)
end
section
/-! a start that the claim allows, but for one thing just as its own witness: the class String has, behind the methods that the claim's words speak of, a method charAt, with the code od_c -/
def od1.c40 : Class := { start1.c40 with
  methods := start1.c40.methods ++ #[Lib.HandJ.method "charAt" "(I)C" [.int] (some .char) 0x1 2 od_c],
  cf := start1.c40.cf.map fun f => { f with constantPool := f.constantPool ++ #[CpInfo.class_ 1158, CpInfo.utf8 (stringToUtf16 "java/lang/IllegalStateException"), CpInfo.methodref 1157 1160, CpInfo.nameAndType 1161 1162, CpInfo.utf8 (stringToUtf16 "<init>"), CpInfo.utf8 (stringToUtf16 "(Ljava/lang/String;)V"), CpInfo.string 1164, CpInfo.utf8 (stringToUtf16 "no such node")] },
  resolved := start1.c40.resolved ++ #[some (Resolved.cls 56), none, some (Resolved.method ⟨56, 0⟩), none, none, none, some (Resolved.string 294), none] }
def od1.args0 : Array Value := start1.args0
def od1.cells0 : Array Value := #[.int 5, .int 0, .int 0, .int 0]
def od1.about : State := { start1.aboutOf od1.cells0 with vm := { (start1.aboutOf od1.cells0).vm with classes := (start1.aboutOf od1.cells0).vm.classes.setIfInBounds 40 od1.c40 } }
def od1.p0 : Program := start1.p0
def od1.e0 : Env := start1.e0
theorem od1.cls_ne {j : Nat} (h : j ≠ 40) : od1.about.vm.classes[j]? = start1.about.vm.classes[j]? := by
  show ((start1.aboutOf od1.cells0).vm.classes.setIfInBounds 40 od1.c40)[j]? = (start1.aboutOf od1.cells0).vm.classes[j]?
  rw [Array.getElem?_setIfInBounds_ne (fun h9 => h h9.symm)]
set_option maxRecDepth 16384 in
theorem od1.cls_at : start1.about.vm.classes[40]? = some start1.c40 := by rfl
set_option maxRecDepth 16384 in
theorem od1.cls_lt : 40 < (start1.aboutOf od1.cells0).vm.classes.size := by decide +kernel
theorem od1.cls_od : od1.about.vm.classes[40]? = some od1.c40 := by
  show ((start1.aboutOf od1.cells0).vm.classes.setIfInBounds 40 od1.c40)[40]? = some od1.c40
  rw [Array.getElem?_setIfInBounds_self_of_lt od1.cls_lt]
theorem od1.find_same (xs ys : Array Class) (p : Class → Bool) (h : ∀ j : Nat, (xs[j]?).map p = (ys[j]?).map p) : xs.findIdx? p = ys.findIdx? p := by
  have one : ∀ (xs ys : Array Class), (∀ j : Nat, (xs[j]?).map p = (ys[j]?).map p) → ∀ i : Nat, xs.findIdx? p = some i → ys.findIdx? p = some i := by
    intro xs ys h i hi
    have h9 : ∀ j (hj : j < xs.size), ∃ hj' : j < ys.size, p ys[j] = p xs[j] := by
      intro j hj
      have h1 := h j
      rw [Array.getElem?_eq_getElem hj] at h1
      cases h2 : ys[j]? with
      | none => rw [h2] at h1; cases h1
      | some z =>
        obtain ⟨h3, h4⟩ := Array.getElem?_eq_some_iff.mp h2
        rw [h2] at h1
        exact ⟨h3, by rw [h4]; exact (Option.some.inj h1).symm⟩
    obtain ⟨h1, h2, h3⟩ := Array.findIdx?_eq_some_iff_getElem.mp hi
    obtain ⟨k1, k2⟩ := h9 i h1
    refine Array.findIdx?_eq_some_iff_getElem.mpr ⟨k1, by rw [k2]; exact h2, fun j hj => ?_⟩
    obtain ⟨m1, m2⟩ := h9 j (Nat.lt_trans hj h1)
    rw [m2]
    exact h3 j hj
  cases hx : xs.findIdx? p with
  | some i => exact (one xs ys h i hx).symm
  | none =>
    cases hy : ys.findIdx? p with
    | none => rfl
    | some i => rw [one ys xs (fun j => (h j).symm) i hy] at hx; cases hx
set_option maxRecDepth 16384 in
theorem od1.findClass (nm : String) : od1.about.vm.findClass nm = start1.about.vm.findClass nm := by
  unfold Vm.findClass
  refine od1.find_same _ _ _ fun j => ?_
  by_cases h : j = 40
  · subst h
    rw [od1.cls_od, od1.cls_at]
    rfl
  · rw [od1.cls_ne h]
set_option maxRecDepth 16384 in
theorem od1.c40_name : start1.c40.name = "java/lang/String" := by rfl
/-- the code that a name finds: as in the printed start, but for String's -/
theorem od1.code_at {x : MethodName} (hx : x.cls ≠ "java/lang/String") : (od1.about.methodNamed? x).bind od1.about.vm.method? = (start1.about.methodNamed? x).bind start1.about.vm.method? := by
  unfold State.methodNamed?
  rw [od1.findClass]
  cases hc : start1.about.vm.findClass x.cls with
  | none => simp only [Option.bind_eq_bind, Option.bind_none]
  | some c =>
    have hne : c ≠ 40 := fun h => by
      subst h
      obtain ⟨k, hk, hn⟩ := Vm.findClass_spec hc
      rw [od1.cls_at] at hk
      cases hk
      exact hx (hn.symm.trans od1.c40_name)
    have h1 := od1.cls_ne hne
    simp only [Option.bind_eq_bind, Option.bind_some, h1]
    cases hk : start1.about.vm.classes[c]? with
    | none => simp only [Option.bind_none]
    | some k =>
      simp only [Option.bind_some]
      cases k.findMethod x.name x.desc with
      | none => simp only [Option.bind_none]
      | some i =>
        simp only [Option.bind_some, Option.pure_def, Vm.method?, Option.bind_eq_bind, h1]
theorem od1.code_of {y : MethodName} {b : ByteArray} {n : Nat} {r : Option FieldType} {a : Array Value} (hx : y.cls ≠ "java/lang/String") (h : (Cond.code y b n r).before a start1.about = true) : (Cond.code y b n r).before od1.args0 od1.about = true := by
  have e : (Cond.code y b n r).before od1.args0 od1.about = (Cond.code y b n r).before a start1.about := by
    simp only [Cond.before, Cond.holds, Cond.value, od1.code_at hx]
  rw [e]; exact h
/-- a link of a method, but for what the pool's entries name -/
def tk_ml (s : State) (cls : String) (index : Nat) (x : MethodName) : Bool :=
  match s.memberEntry? cls index, s.vm.findClass cls, s.vm.findClass x.cls, s.methodFound? x.cls x.name x.desc with
  | some (ci, via), some d, some c, some m => match s.vm.classes[d]?, s.vm.classes[c]?, s.vm.classes[m.cls]?, s.vm.method? m with
    | some dk, some ck, some mk9, some meth => (s.openOr cls ci (.cls c) && s.vm.classAccessible {} ck dk) && (s.openOr cls index (.method m) && ck.isInterface == via &&
        x.cls != "java/lang/invoke/MethodHandle" && x.cls != "java/lang/invoke/VarHandle" && mk9.loader.isNone && (plainAccess s.vm meth.accessFlags m.cls mk9 c d dk || (ck.isArray && x.name == "clone" && m.cls != c)))
    | _, _, _, _ => false
  | _, _, _, _ => false
theorem tk_ml_ok {s : State} {cls : String} {index : Nat} {x : MethodName} {a : Array Value} (h : tk_ml s cls index x = true) (hn : s.names cls index (.method x.cls x.name x.desc) = true) (hc : ∀ (ci : Nat) (via : Bool), s.memberEntry? cls index = some (ci, via) → s.names cls ci (.cls x.cls) = true) : (Cond.methodLink cls index x).before a s = true := by
  unfold tk_ml at h
  split at h
  · rename_i ci via d c m e1 e2 e3 e4
    split at h
    · rename_i dk ck mk9 meth f1 f2 f3 f4
      obtain ⟨h1, h2⟩ := Bool.and_eq_true_iff.mp h
      have h0 : (s.names cls ci (.cls x.cls) && s.openOr cls ci (.cls c) && s.vm.classAccessible {} ck dk) = true := by
        rw [hc ci via e1, Bool.true_and]; exact h1
      have hcl : s.classLinks cls ci x.cls = some true := by
        unfold State.classLinks
        rw [e2, e3]
        simp only [Option.bind_eq_bind, Option.pure_def, f1, f2, Option.bind_some, h0]
      simp only [Cond.before, Cond.holds, Cond.value, e1, e2, e3, e4, hcl, f1, f2, f3, f4, hn, Option.bind_eq_bind, Option.pure_def, Option.bind_some, Bool.true_and, h2]
      rfl
    · cases h
  · cases h
theorem tk_ml_names {s : State} {cls : String} {index : Nat} {x : MethodName} {a : Array Value} (h : (Cond.methodLink cls index x).before a s = true) : s.names cls index (.method x.cls x.name x.desc) = true ∧ ∀ (ci : Nat) (via : Bool), s.memberEntry? cls index = some (ci, via) → s.names cls ci (.cls x.cls) = true := by
  simp only [Cond.before, Cond.holds, Cond.value] at h
  split at h
  · rename_i ci via d c m e1 e2 e3 e4
    cases hcl : s.classLinks cls ci x.cls with
    | none => rw [hcl] at h; simp only [Option.bind_eq_bind, Option.bind_none] at h; cases h
    | some linked =>
      rw [hcl] at h
      cases f1 : s.vm.classes[d]? with
      | none => rw [f1] at h; simp only [Option.bind_eq_bind, Option.bind_some, Option.bind_none] at h; cases h
      | some dk =>
        cases f2 : s.vm.classes[c]? with
        | none => rw [f1, f2] at h; simp only [Option.bind_eq_bind, Option.bind_some, Option.bind_none] at h; cases h
        | some ck =>
          cases f3 : s.vm.classes[m.cls]? with
          | none => rw [f1, f2, f3] at h; simp only [Option.bind_eq_bind, Option.bind_some, Option.bind_none] at h; cases h
          | some mk9 =>
            cases f4 : s.vm.method? m with
            | none => rw [f1, f2, f3, f4] at h; simp only [Option.bind_eq_bind, Option.bind_some, Option.bind_none] at h; cases h
            | some meth =>
              rw [f1, f2, f3, f4] at h
              simp only [Option.bind_eq_bind, Option.bind_some, Option.pure_def, beq_iff_eq, Option.some.injEq, Bool.and_eq_true] at h
              refine ⟨h.1.1.1.1.1.1.2, fun ci2 via2 hm => ?_⟩
              rw [e1] at hm
              cases hm
              have hl := h.1.1.1.1.1.1.1
              rw [hl] at hcl
              unfold State.classLinks at hcl
              rw [e2, e3] at hcl
              simp only [Option.bind_eq_bind, Option.pure_def, f1, f2, Option.bind_some, Option.some.injEq, Bool.and_eq_true] at hcl
              exact hcl.1.1
  · cases h
def tk_fl (s : State) (cls : String) (index : Nat) (ref name desc : String) : Bool :=
  match s.memberEntry? cls index, s.vm.findClass cls, s.fieldFound? ref name desc, s.vm.findClass ref with
  | some (ci, _), some d, some (c, k, i, f), some t => match s.vm.classes[d]?, s.vm.classes[t]? with
    | some dk, some tk => (s.openOr cls ci (.cls t) && s.vm.classAccessible {} tk dk) && (s.openOr cls index (.field c i) && k.loader.isNone && plainAccess s.vm f.accessFlags c k t d dk)
    | _, _ => false
  | _, _, _, _ => false
theorem tk_fl_ok {s : State} {cls : String} {index : Nat} {ref name desc : String} {a : Array Value} (h : tk_fl s cls index ref name desc = true) (hn : s.names cls index (.field ref name desc) = true) (hc : ∀ (ci : Nat) (via : Bool), s.memberEntry? cls index = some (ci, via) → s.names cls ci (.cls ref) = true) : (Cond.fieldLink cls index ref name desc).before a s = true := by
  unfold tk_fl at h
  split at h
  · rename_i ci via d c k i f t e1 e2 e3 e4
    split at h
    · rename_i dk tk f1 f2
      obtain ⟨h1, h2⟩ := Bool.and_eq_true_iff.mp h
      have h0 : (s.names cls ci (.cls ref) && s.openOr cls ci (.cls t) && s.vm.classAccessible {} tk dk) = true := by
        rw [hc ci _ e1, Bool.true_and]; exact h1
      have hcl : s.classLinks cls ci ref = some true := by
        unfold State.classLinks
        rw [e2, e4]
        simp only [Option.bind_eq_bind, Option.pure_def, f1, f2, Option.bind_some, h0]
      simp only [Cond.before, Cond.holds, Cond.value, e1, e2, e3, e4, hcl, f1, hn, Option.bind_eq_bind, Option.pure_def, Option.bind_some, Bool.true_and, h2]
      rfl
    · cases h
  · cases h
theorem tk_fl_names {s : State} {cls : String} {index : Nat} {ref name desc : String} {a : Array Value} (h : (Cond.fieldLink cls index ref name desc).before a s = true) : s.names cls index (.field ref name desc) = true ∧ ∀ (ci : Nat) (via : Bool), s.memberEntry? cls index = some (ci, via) → s.names cls ci (.cls ref) = true := by
  simp only [Cond.before, Cond.holds, Cond.value] at h
  split at h
  · rename_i ci via d c k i f t e1 e2 e3 e4
    cases hcl : s.classLinks cls ci ref with
    | none => rw [hcl] at h; simp only [Option.bind_eq_bind, Option.bind_none] at h; cases h
    | some linked =>
      rw [hcl] at h
      cases f1 : s.vm.classes[d]? with
      | none => rw [f1] at h; simp only [Option.bind_eq_bind, Option.bind_some, Option.bind_none] at h; cases h
      | some dk =>
        rw [f1] at h
        simp only [Option.bind_eq_bind, Option.bind_some, Option.pure_def, beq_iff_eq, Option.some.injEq, Bool.and_eq_true] at h
        refine ⟨h.1.1.1.2, fun ci2 via2 hm => ?_⟩
        rw [e1] at hm
        cases hm
        have hl := h.1.1.1.1
        rw [hl] at hcl
        unfold State.classLinks at hcl
        rw [e2, e4] at hcl
        cases f2 : s.vm.classes[t]? with
        | none => simp only [Option.bind_eq_bind, f1, f2, Option.bind_some, Option.bind_none] at hcl; cases hcl
        | some tk =>
          simp only [Option.bind_eq_bind, Option.pure_def, f1, f2, Option.bind_some, Option.some.injEq, Bool.and_eq_true] at hcl
          exact hcl.1.1
  · cases h
theorem od1.pool_eq {cls : String} (hx : cls ≠ "java/lang/String") : od1.about.poolOf? cls = start1.about.poolOf? cls := by
  unfold State.poolOf?
  rw [od1.findClass]
  cases hc : start1.about.vm.findClass cls with
  | none => simp only [Option.bind_eq_bind, Option.bind_none]
  | some c =>
    have hne : c ≠ 40 := fun h => by
      subst h
      obtain ⟨k, hk, hn⟩ := Vm.findClass_spec hc
      rw [od1.cls_at] at hk
      cases hk
      exact hx (hn.symm.trans od1.c40_name)
    simp only [Option.bind_eq_bind, Option.bind_some, od1.cls_ne hne]
theorem od1.names_eq {cls : String} (hx : cls ≠ "java/lang/String") (i : Nat) (w : Names) : od1.about.names cls i w = start1.about.names cls i w := by
  unfold State.names
  rw [od1.pool_eq hx]
theorem od1.entry_eq {cls : String} (hx : cls ≠ "java/lang/String") (i : Nat) : od1.about.memberEntry? cls i = start1.about.memberEntry? cls i := by
  unfold State.memberEntry?
  rw [od1.pool_eq hx]
def od1.chk (c : Cond) : Bool := match c with
  | .methodLink cls i x => cls != "java/lang/String" && tk_ml od1.about cls i x || (Cond.methodLink cls i x).before od1.args0 od1.about
  | .fieldLink cls i ref name desc => cls != "java/lang/String" && tk_fl od1.about cls i ref name desc || (Cond.fieldLink cls i ref name desc).before od1.args0 od1.about
  | c => su_isCode c || c.before od1.args0 od1.about
theorem od1.from_chk {l : List Cond} (hs : ∀ c ∈ l, c.before start1.args0 start1.about = true) (h : l.all od1.chk = true) : l.all (fun c => su_isCode c || c.before od1.args0 od1.about) = true := List.all_eq_true.mpr fun c hc => by
  have h1 := List.all_eq_true.mp h c hc
  have h2 := hs c hc
  clear h hs hc
  unfold od1.chk at h1
  split at h1
  · rename_i cls i x
    rcases Bool.or_eq_true_iff.mp h1 with h3 | h3
    · obtain ⟨h4, h5⟩ := Bool.and_eq_true_iff.mp h3
      have hx : cls ≠ "java/lang/String" := bne_iff_ne.mp h4
      have h6 : (Cond.methodLink cls i x).before od1.args0 od1.about = true := tk_ml_ok h5 (by rw [od1.names_eq hx]; exact (tk_ml_names h2).1) (fun ci via hm => by rw [od1.names_eq hx]; exact (tk_ml_names h2).2 ci via (by rw [← od1.entry_eq hx]; exact hm))
      show (su_isCode (Cond.methodLink cls i x) || (Cond.methodLink cls i x).before od1.args0 od1.about) = true
      rw [h6, Bool.or_true]
    · show (su_isCode (Cond.methodLink cls i x) || (Cond.methodLink cls i x).before od1.args0 od1.about) = true
      rw [h3, Bool.or_true]
  · rename_i cls i ref name desc
    rcases Bool.or_eq_true_iff.mp h1 with h3 | h3
    · obtain ⟨h4, h5⟩ := Bool.and_eq_true_iff.mp h3
      have hx : cls ≠ "java/lang/String" := bne_iff_ne.mp h4
      have h6 : (Cond.fieldLink cls i ref name desc).before od1.args0 od1.about = true := tk_fl_ok h5 (by rw [od1.names_eq hx]; exact (tk_fl_names h2).1) (fun ci via hm => by rw [od1.names_eq hx]; exact (tk_fl_names h2).2 ci via (by rw [← od1.entry_eq hx]; exact hm))
      show (su_isCode (Cond.fieldLink cls i ref name desc) || (Cond.fieldLink cls i ref name desc).before od1.args0 od1.about) = true
      rw [h6, Bool.or_true]
    · show (su_isCode (Cond.fieldLink cls i ref name desc) || (Cond.fieldLink cls i ref name desc).before od1.args0 od1.about) = true
      rw [h3, Bool.or_true]
  · exact h1
end
section
theorem od1.word_code : (Cond.code x code maxLocals ret).before args0 about = true := od1.code_of (by decide +kernel) start1.word_code
set_option maxRecDepth 16384 in
theorem od1.su_all_split {α : Type} (p : α → Bool) (n : Nat) (l : List α) (h1 : (l.take n).all p = true) (h2 : (l.drop n).all p = true) : l.all p = true := by
  apply List.all_eq_true.mpr
  intro x hx
  have hx' : x ∈ l.take n ++ l.drop n := by rw [List.take_append_drop]; exact hx
  rcases List.mem_append.mp hx' with h | h
  · exact List.all_eq_true.mp h1 x h
  · exact List.all_eq_true.mp h2 x h
theorem od1.code0 : (Jvm.Cond.code (⟨"Sequencepoint", "<init>", "()V"⟩ : Jvm.MethodName) prog_1_method_1_code 2 none).before args0 about = true := od1.code_of (by decide +kernel) start1.code0
theorem od1.code1 : (Jvm.Cond.code (⟨"java/lang/Object", "<init>", "()V"⟩ : Jvm.MethodName) object_method_1_code 1 none).before args0 about = true := od1.code_of (by decide +kernel) start1.code1
theorem od1.code2 : (Jvm.Cond.code (⟨"Sequencepoint$Program", "<init>", "()V"⟩ : Jvm.MethodName) prog_9_method_1_code 1 none).before args0 about = true := od1.code_of (by decide +kernel) start1.code2
theorem od1.code3 : (Jvm.Cond.code (⟨"Sequencepoint$Optimiser", "<init>", "()V"⟩ : Jvm.MethodName) prog_7_method_1_code 2 none).before args0 about = true := od1.code_of (by decide +kernel) start1.code3
theorem od1.code4 : (Jvm.Cond.code (⟨"Sequencepoint$Node", "<init>", "(ICI)V"⟩ : Jvm.MethodName) prog_5_method_1_code 4 none).before args0 about = true := od1.code_of (by decide +kernel) start1.code4
theorem od1.code5 : (Jvm.Cond.code (⟨"Sequencepoint$Statement", "<init>", "(CLSequencepoint$Node;LSequencepoint$Variable;)V"⟩ : Jvm.MethodName) prog_10_method_1_code 4 none).before args0 about = true := od1.code_of (by decide +kernel) start1.code5
set_option maxRecDepth 16384 in
theorem od1.codes_are_1 : tables_1_1.filter su_isCode = [Jvm.Cond.code (⟨"Sequencepoint", "<init>", "()V"⟩ : Jvm.MethodName) prog_1_method_1_code 2 none,
    Jvm.Cond.code (⟨"java/lang/Object", "<init>", "()V"⟩ : Jvm.MethodName) object_method_1_code 1 none,
    Jvm.Cond.code (⟨"Sequencepoint$Program", "<init>", "()V"⟩ : Jvm.MethodName) prog_9_method_1_code 1 none,
    Jvm.Cond.code (⟨"Sequencepoint$Optimiser", "<init>", "()V"⟩ : Jvm.MethodName) prog_7_method_1_code 2 none,
    Jvm.Cond.code (⟨"Sequencepoint$Node", "<init>", "(ICI)V"⟩ : Jvm.MethodName) prog_5_method_1_code 4 none,
    Jvm.Cond.code (⟨"Sequencepoint$Statement", "<init>", "(CLSequencepoint$Node;LSequencepoint$Variable;)V"⟩ : Jvm.MethodName) prog_10_method_1_code 4 none] := by
  first
  | rfl
  | simp only [tables_1_1, List.filter, su_isCode]
set_option maxRecDepth 16384 in
theorem od1.codes_hold_1 : ∀ c ∈ tables_1_1.filter su_isCode, c.before args0 about = true := by
  rw [codes_are_1]
  exact List.forall_mem_cons.mpr ⟨code0, List.forall_mem_cons.mpr ⟨code1, List.forall_mem_cons.mpr ⟨code2, List.forall_mem_cons.mpr ⟨code3, List.forall_mem_cons.mpr ⟨code4, List.forall_mem_cons.mpr ⟨code5, List.forall_mem_nil _⟩⟩⟩⟩⟩⟩
set_option maxRecDepth 100000 in
theorem od1.others_1_0 : (tables_1_1.take 120).all od1.chk = true := by decide +kernel
set_option maxRecDepth 100000 in
theorem od1.others_1_1 : (tables_1_1.drop 120).all od1.chk = true := by decide +kernel
theorem od1.others_hold_1 : tables_1_1.all (fun c => su_isCode c || c.before args0 about) = true := od1.from_chk start1.words_1 (od1.su_all_split _ 120 tables_1_1 od1.others_1_0 od1.others_1_1)
set_option maxRecDepth 16384 in
theorem od1.words_1 : ∀ c ∈ tables_1_1, c.before args0 about = true := fun c h => su_words others_hold_1 codes_hold_1 c h
theorem od1.code6 : (Jvm.Cond.code (⟨"Sequencepoint$Machine", "<init>", "()V"⟩ : Jvm.MethodName) prog_3_method_1_code 1 none).before args0 about = true := od1.code_of (by decide +kernel) start1.code6
theorem od1.code7 : (Jvm.Cond.code (⟨"Sequencepoint$Memory", "<init>", "()V"⟩ : Jvm.MethodName) prog_4_method_1_code 1 none).before args0 about = true := od1.code_of (by decide +kernel) start1.code7
theorem od1.code8 : (Jvm.Cond.code (⟨"Sequencepoint$Outcome", "<init>", "()V"⟩ : Jvm.MethodName) prog_8_method_1_code 1 none).before args0 about = true := od1.code_of (by decide +kernel) start1.code8
theorem od1.code9 : (Jvm.Cond.code (⟨"Sequencepoint", "steps", "()I"⟩ : Jvm.MethodName) prog_1_method_31_code 1 (some .int)).before args0 about = true := od1.code_of (by decide +kernel) start1.code9
theorem od1.code10 : (Jvm.Cond.code (⟨"Sequencepoint", "choices", "()I"⟩ : Jvm.MethodName) prog_1_method_32_code 1 (some .int)).before args0 about = true := od1.code_of (by decide +kernel) start1.code10
theorem od1.code11 : (Jvm.Cond.code (⟨"Sequencepoint", "printed", "()I"⟩ : Jvm.MethodName) prog_1_method_33_code 1 (some .int)).before args0 about = true := od1.code_of (by decide +kernel) start1.code11
theorem od1.code12 : (Jvm.Cond.code (⟨"Sequencepoint", "allSteps", "()J"⟩ : Jvm.MethodName) prog_1_method_41_code 1 (some .long)).before args0 about = true := od1.code_of (by decide +kernel) start1.code12
theorem od1.code13 : (Jvm.Cond.code (⟨"Sequencepoint", "addVariable", "(IIZ)I"⟩ : Jvm.MethodName) prog_1_method_2_code 4 (some .int)).before args0 about = true := od1.code_of (by decide +kernel) start1.code13
theorem od1.code14 : (Jvm.Cond.code (⟨"Sequencepoint$Numbers", "isType", "(I)Z"⟩ : Jvm.MethodName) prog_6_method_3_code 1 (some .boolean)).before args0 about = true := od1.code_of (by decide +kernel) start1.code14
theorem od1.code15 : (Jvm.Cond.code (⟨"Sequencepoint$Numbers", "isNumber", "(I)Z"⟩ : Jvm.MethodName) prog_6_method_2_code 1 (some .boolean)).before args0 about = true := od1.code_of (by decide +kernel) start1.code15
theorem od1.code16 : (Jvm.Cond.code (⟨"java/lang/Throwable", "<init>", "()V"⟩ : Jvm.MethodName) prog_44_method_1_code 1 none).before args0 about = true := od1.code_of (by decide +kernel) start1.code16
theorem od1.code17 : (Jvm.Cond.code (⟨"java/lang/IllegalArgumentException", "<init>", "(Ljava/lang/String;)V"⟩ : Jvm.MethodName) prog_29_method_2_code 2 none).before args0 about = true := od1.code_of (by decide +kernel) start1.code17
set_option maxRecDepth 16384 in
theorem od1.codes_are_2 : tables_1_2.filter su_isCode = [Jvm.Cond.code (⟨"Sequencepoint$Machine", "<init>", "()V"⟩ : Jvm.MethodName) prog_3_method_1_code 1 none,
    Jvm.Cond.code (⟨"Sequencepoint$Memory", "<init>", "()V"⟩ : Jvm.MethodName) prog_4_method_1_code 1 none,
    Jvm.Cond.code (⟨"Sequencepoint$Outcome", "<init>", "()V"⟩ : Jvm.MethodName) prog_8_method_1_code 1 none,
    Jvm.Cond.code (⟨"Sequencepoint", "steps", "()I"⟩ : Jvm.MethodName) prog_1_method_31_code 1 (some .int),
    Jvm.Cond.code (⟨"Sequencepoint", "choices", "()I"⟩ : Jvm.MethodName) prog_1_method_32_code 1 (some .int),
    Jvm.Cond.code (⟨"Sequencepoint", "printed", "()I"⟩ : Jvm.MethodName) prog_1_method_33_code 1 (some .int),
    Jvm.Cond.code (⟨"Sequencepoint", "allSteps", "()J"⟩ : Jvm.MethodName) prog_1_method_41_code 1 (some .long),
    Jvm.Cond.code (⟨"Sequencepoint", "addVariable", "(IIZ)I"⟩ : Jvm.MethodName) prog_1_method_2_code 4 (some .int),
    Jvm.Cond.code (⟨"Sequencepoint$Numbers", "isType", "(I)Z"⟩ : Jvm.MethodName) prog_6_method_3_code 1 (some .boolean),
    Jvm.Cond.code (⟨"Sequencepoint$Numbers", "isNumber", "(I)Z"⟩ : Jvm.MethodName) prog_6_method_2_code 1 (some .boolean),
    Jvm.Cond.code (⟨"java/lang/Throwable", "<init>", "()V"⟩ : Jvm.MethodName) prog_44_method_1_code 1 none,
    Jvm.Cond.code (⟨"java/lang/IllegalArgumentException", "<init>", "(Ljava/lang/String;)V"⟩ : Jvm.MethodName) prog_29_method_2_code 2 none] := by
  first
  | rfl
  | simp only [tables_1_2, List.filter, su_isCode]
set_option maxRecDepth 16384 in
theorem od1.codes_hold_2 : ∀ c ∈ tables_1_2.filter su_isCode, c.before args0 about = true := by
  rw [codes_are_2]
  exact List.forall_mem_cons.mpr ⟨code6, List.forall_mem_cons.mpr ⟨code7, List.forall_mem_cons.mpr ⟨code8, List.forall_mem_cons.mpr ⟨code9, List.forall_mem_cons.mpr ⟨code10, List.forall_mem_cons.mpr ⟨code11, List.forall_mem_cons.mpr ⟨code12, List.forall_mem_cons.mpr ⟨code13, List.forall_mem_cons.mpr ⟨code14, List.forall_mem_cons.mpr ⟨code15, List.forall_mem_cons.mpr ⟨code16, List.forall_mem_cons.mpr ⟨code17, List.forall_mem_nil _⟩⟩⟩⟩⟩⟩⟩⟩⟩⟩⟩⟩
set_option maxRecDepth 100000 in
theorem od1.others_2_0 : (tables_1_2.take 120).all od1.chk = true := by decide +kernel
set_option maxRecDepth 100000 in
theorem od1.others_2_1 : (tables_1_2.drop 120).all od1.chk = true := by decide +kernel
theorem od1.others_hold_2 : tables_1_2.all (fun c => su_isCode c || c.before args0 about) = true := od1.from_chk start1.words_2 (od1.su_all_split _ 120 tables_1_2 od1.others_2_0 od1.others_2_1)
set_option maxRecDepth 16384 in
theorem od1.words_2 : ∀ c ∈ tables_1_2, c.before args0 about = true := fun c h => su_words others_hold_2 codes_hold_2 c h
theorem od1.code18 : (Jvm.Cond.code (⟨"java/lang/RuntimeException", "<init>", "(Ljava/lang/String;)V"⟩ : Jvm.MethodName) prog_38_method_2_code 2 none).before args0 about = true := od1.code_of (by decide +kernel) start1.code18
theorem od1.code19 : (Jvm.Cond.code (⟨"java/lang/Exception", "<init>", "(Ljava/lang/String;)V"⟩ : Jvm.MethodName) prog_28_method_2_code 2 none).before args0 about = true := od1.code_of (by decide +kernel) start1.code19
theorem od1.code20 : (Jvm.Cond.code (⟨"java/lang/Throwable", "<init>", "(Ljava/lang/String;)V"⟩ : Jvm.MethodName) prog_44_method_2_code 2 none).before args0 about = true := od1.code_of (by decide +kernel) start1.code20
theorem od1.code21 : (Jvm.Cond.code (⟨"java/lang/IllegalStateException", "<init>", "(Ljava/lang/String;)V"⟩ : Jvm.MethodName) prog_30_method_2_code 2 none).before args0 about = true := od1.code_of (by decide +kernel) start1.code21
theorem od1.code22 : (Jvm.Cond.code (⟨"Sequencepoint$Variable", "<init>", "(IIZ)V"⟩ : Jvm.MethodName) prog_12_method_1_code 4 none).before args0 about = true := od1.code_of (by decide +kernel) start1.code22
theorem od1.code23 : (Jvm.Cond.code (⟨"Sequencepoint$Program", "keepVariable", "(LSequencepoint$Variable;)I"⟩ : Jvm.MethodName) prog_9_method_6_code 2 (some .int)).before args0 about = true := od1.code_of (by decide +kernel) start1.code23
theorem od1.code24 : (Jvm.Cond.code (⟨"Sequencepoint", "addFunction", "(III)I"⟩ : Jvm.MethodName) prog_1_method_3_code 6 (some .int)).before args0 about = true := od1.code_of (by decide +kernel) start1.code24
theorem od1.code25 : (Jvm.Cond.code (⟨"Sequencepoint$Program", "variableAt", "(I)LSequencepoint$Variable;"⟩ : Jvm.MethodName) prog_9_method_2_code 2 (some (.object "Sequencepoint$Variable"))).before args0 about = true := od1.code_of (by decide +kernel) start1.code25
theorem od1.code26 : (Jvm.Cond.code (⟨"java/lang/IndexOutOfBoundsException", "<init>", "(Ljava/lang/String;)V"⟩ : Jvm.MethodName) prog_31_method_2_code 2 none).before args0 about = true := od1.code_of (by decide +kernel) start1.code26
theorem od1.code27 : (Jvm.Cond.code (⟨"Sequencepoint", "canBeParameter", "(LSequencepoint$Variable;)Z"⟩ : Jvm.MethodName) prog_1_method_4_code 1 (some .boolean)).before args0 about = true := od1.code_of (by decide +kernel) start1.code27
theorem od1.code28 : (Jvm.Cond.code (⟨"Sequencepoint$Variable", "isArray", "()Z"⟩ : Jvm.MethodName) prog_12_method_2_code 1 (some .boolean)).before args0 about = true := od1.code_of (by decide +kernel) start1.code28
theorem od1.code29 : (Jvm.Cond.code (⟨"java/lang/UnsupportedOperationException", "<init>", "(Ljava/lang/String;)V"⟩ : Jvm.MethodName) prog_45_method_2_code 2 none).before args0 about = true := od1.code_of (by decide +kernel) start1.code29
theorem od1.code30 : (Jvm.Cond.code (⟨"Sequencepoint$Function", "<init>", "(ILSequencepoint$Variable;LSequencepoint$Variable;)V"⟩ : Jvm.MethodName) prog_2_method_1_code 4 none).before args0 about = true := od1.code_of (by decide +kernel) start1.code30
theorem od1.code31 : (Jvm.Cond.code (⟨"Sequencepoint$Program", "keepFunction", "(LSequencepoint$Function;)I"⟩ : Jvm.MethodName) prog_9_method_7_code 2 (some .int)).before args0 about = true := od1.code_of (by decide +kernel) start1.code31
theorem od1.code32 : (Jvm.Cond.code (⟨"Sequencepoint", "setBody", "(II)I"⟩ : Jvm.MethodName) prog_1_method_5_code 5 (some .int)).before args0 about = true := od1.code_of (by decide +kernel) start1.code32
theorem od1.code33 : (Jvm.Cond.code (⟨"Sequencepoint$Program", "functionAt", "(I)LSequencepoint$Function;"⟩ : Jvm.MethodName) prog_9_method_3_code 2 (some (.object "Sequencepoint$Function"))).before args0 about = true := od1.code_of (by decide +kernel) start1.code33
theorem od1.code34 : (Jvm.Cond.code (⟨"Sequencepoint$Program", "statementAt", "(I)LSequencepoint$Statement;"⟩ : Jvm.MethodName) prog_9_method_5_code 2 (some (.object "Sequencepoint$Statement"))).before args0 about = true := od1.code_of (by decide +kernel) start1.code34
theorem od1.code35 : (Jvm.Cond.code (⟨"Sequencepoint$Program", "putBody", "(LSequencepoint$Function;LSequencepoint$Statement;)V"⟩ : Jvm.MethodName) prog_9_method_16_code 4 none).before args0 about = true := od1.code_of (by decide +kernel) start1.code35
theorem od1.code36 : (Jvm.Cond.code (⟨"Sequencepoint$Program", "bodyCount", "()I"⟩ : Jvm.MethodName) prog_9_method_17_code 3 (some .int)).before args0 about = true := od1.code_of (by decide +kernel) start1.code36
theorem od1.code37 : (Jvm.Cond.code (⟨"Sequencepoint", "number", "(II)I"⟩ : Jvm.MethodName) prog_1_method_6_code 4 (some .int)).before args0 about = true := od1.code_of (by decide +kernel) start1.code37
theorem od1.code38 : (Jvm.Cond.code (⟨"Sequencepoint$Numbers", "has", "(IJ)Z"⟩ : Jvm.MethodName) prog_6_method_4_code 3 (some .boolean)).before args0 about = true := od1.code_of (by decide +kernel) start1.code38
theorem od1.code39 : (Jvm.Cond.code (⟨"Sequencepoint$Numbers", "convert", "(JI)J"⟩ : Jvm.MethodName) prog_6_method_5_code 4 (some .long)).before args0 about = true := od1.code_of (by decide +kernel) start1.code39
theorem od1.code40 : (Jvm.Cond.code (⟨"Sequencepoint", "refuseNodesBeyondLimit", "()V"⟩ : Jvm.MethodName) prog_1_method_14_code 1 none).before args0 about = true := od1.code_of (by decide +kernel) start1.code40
theorem od1.code41 : (Jvm.Cond.code (⟨"Sequencepoint$Program", "keepNode", "(LSequencepoint$Node;LSequencepoint$Node;LSequencepoint$Node;LSequencepoint$Node;)I"⟩ : Jvm.MethodName) prog_9_method_8_code 5 (some .int)).before args0 about = true := od1.code_of (by decide +kernel) start1.code41
theorem od1.code42 : (Jvm.Cond.code (⟨"Sequencepoint$Node", "setParts", "(LSequencepoint$Node;LSequencepoint$Node;LSequencepoint$Node;)V"⟩ : Jvm.MethodName) prog_5_method_3_code 4 none).before args0 about = true := od1.code_of (by decide +kernel) start1.code42
theorem od1.code43 : (Jvm.Cond.code (⟨"Sequencepoint$Node", "depthOf", "(LSequencepoint$Node;)I"⟩ : Jvm.MethodName) prog_5_method_4_code 1 (some .int)).before args0 about = true := od1.code_of (by decide +kernel) start1.code43
theorem od1.code44 : (Jvm.Cond.code (⟨"java/lang/Math", "max", "(II)I"⟩ : Jvm.MethodName) prog_36_method_65_code 2 (some .int)).before args0 about = true := od1.code_of (by decide +kernel) start1.code44
theorem od1.code45 : (Jvm.Cond.code (⟨"Sequencepoint$Node", "sizeOf", "(LSequencepoint$Node;)I"⟩ : Jvm.MethodName) prog_5_method_5_code 1 (some .int)).before args0 about = true := od1.code_of (by decide +kernel) start1.code45
theorem od1.code46 : (Jvm.Cond.code (⟨"Sequencepoint$Node", "isCalling", "(LSequencepoint$Node;)Z"⟩ : Jvm.MethodName) prog_5_method_6_code 1 (some .boolean)).before args0 about = true := od1.code_of (by decide +kernel) start1.code46
theorem od1.code47 : (Jvm.Cond.code (⟨"Sequencepoint$Program", "take", "(LSequencepoint$Node;)V"⟩ : Jvm.MethodName) prog_9_method_10_code 1 none).before args0 about = true := od1.code_of (by decide +kernel) start1.code47
theorem od1.code48 : (Jvm.Cond.code (⟨"Sequencepoint", "name", "(I)I"⟩ : Jvm.MethodName) prog_1_method_7_code 4 (some .int)).before args0 about = true := od1.code_of (by decide +kernel) start1.code48
theorem od1.code49 : (Jvm.Cond.code (⟨"Sequencepoint", "unary", "(CI)I"⟩ : Jvm.MethodName) prog_1_method_8_code 5 (some .int)).before args0 about = true := od1.code_of (by decide +kernel) start1.code49
set_option maxRecDepth 16384 in
theorem od1.codes_are_3 : tables_1_3.filter su_isCode = [Jvm.Cond.code (⟨"java/lang/RuntimeException", "<init>", "(Ljava/lang/String;)V"⟩ : Jvm.MethodName) prog_38_method_2_code 2 none,
    Jvm.Cond.code (⟨"java/lang/Exception", "<init>", "(Ljava/lang/String;)V"⟩ : Jvm.MethodName) prog_28_method_2_code 2 none,
    Jvm.Cond.code (⟨"java/lang/Throwable", "<init>", "(Ljava/lang/String;)V"⟩ : Jvm.MethodName) prog_44_method_2_code 2 none,
    Jvm.Cond.code (⟨"java/lang/IllegalStateException", "<init>", "(Ljava/lang/String;)V"⟩ : Jvm.MethodName) prog_30_method_2_code 2 none,
    Jvm.Cond.code (⟨"Sequencepoint$Variable", "<init>", "(IIZ)V"⟩ : Jvm.MethodName) prog_12_method_1_code 4 none,
    Jvm.Cond.code (⟨"Sequencepoint$Program", "keepVariable", "(LSequencepoint$Variable;)I"⟩ : Jvm.MethodName) prog_9_method_6_code 2 (some .int),
    Jvm.Cond.code (⟨"Sequencepoint", "addFunction", "(III)I"⟩ : Jvm.MethodName) prog_1_method_3_code 6 (some .int),
    Jvm.Cond.code (⟨"Sequencepoint$Program", "variableAt", "(I)LSequencepoint$Variable;"⟩ : Jvm.MethodName) prog_9_method_2_code 2 (some (.object "Sequencepoint$Variable")),
    Jvm.Cond.code (⟨"java/lang/IndexOutOfBoundsException", "<init>", "(Ljava/lang/String;)V"⟩ : Jvm.MethodName) prog_31_method_2_code 2 none,
    Jvm.Cond.code (⟨"Sequencepoint", "canBeParameter", "(LSequencepoint$Variable;)Z"⟩ : Jvm.MethodName) prog_1_method_4_code 1 (some .boolean),
    Jvm.Cond.code (⟨"Sequencepoint$Variable", "isArray", "()Z"⟩ : Jvm.MethodName) prog_12_method_2_code 1 (some .boolean),
    Jvm.Cond.code (⟨"java/lang/UnsupportedOperationException", "<init>", "(Ljava/lang/String;)V"⟩ : Jvm.MethodName) prog_45_method_2_code 2 none,
    Jvm.Cond.code (⟨"Sequencepoint$Function", "<init>", "(ILSequencepoint$Variable;LSequencepoint$Variable;)V"⟩ : Jvm.MethodName) prog_2_method_1_code 4 none,
    Jvm.Cond.code (⟨"Sequencepoint$Program", "keepFunction", "(LSequencepoint$Function;)I"⟩ : Jvm.MethodName) prog_9_method_7_code 2 (some .int),
    Jvm.Cond.code (⟨"Sequencepoint", "setBody", "(II)I"⟩ : Jvm.MethodName) prog_1_method_5_code 5 (some .int),
    Jvm.Cond.code (⟨"Sequencepoint$Program", "functionAt", "(I)LSequencepoint$Function;"⟩ : Jvm.MethodName) prog_9_method_3_code 2 (some (.object "Sequencepoint$Function")),
    Jvm.Cond.code (⟨"Sequencepoint$Program", "statementAt", "(I)LSequencepoint$Statement;"⟩ : Jvm.MethodName) prog_9_method_5_code 2 (some (.object "Sequencepoint$Statement")),
    Jvm.Cond.code (⟨"Sequencepoint$Program", "putBody", "(LSequencepoint$Function;LSequencepoint$Statement;)V"⟩ : Jvm.MethodName) prog_9_method_16_code 4 none,
    Jvm.Cond.code (⟨"Sequencepoint$Program", "bodyCount", "()I"⟩ : Jvm.MethodName) prog_9_method_17_code 3 (some .int),
    Jvm.Cond.code (⟨"Sequencepoint", "number", "(II)I"⟩ : Jvm.MethodName) prog_1_method_6_code 4 (some .int),
    Jvm.Cond.code (⟨"Sequencepoint$Numbers", "has", "(IJ)Z"⟩ : Jvm.MethodName) prog_6_method_4_code 3 (some .boolean),
    Jvm.Cond.code (⟨"Sequencepoint$Numbers", "convert", "(JI)J"⟩ : Jvm.MethodName) prog_6_method_5_code 4 (some .long),
    Jvm.Cond.code (⟨"Sequencepoint", "refuseNodesBeyondLimit", "()V"⟩ : Jvm.MethodName) prog_1_method_14_code 1 none,
    Jvm.Cond.code (⟨"Sequencepoint$Program", "keepNode", "(LSequencepoint$Node;LSequencepoint$Node;LSequencepoint$Node;LSequencepoint$Node;)I"⟩ : Jvm.MethodName) prog_9_method_8_code 5 (some .int),
    Jvm.Cond.code (⟨"Sequencepoint$Node", "setParts", "(LSequencepoint$Node;LSequencepoint$Node;LSequencepoint$Node;)V"⟩ : Jvm.MethodName) prog_5_method_3_code 4 none,
    Jvm.Cond.code (⟨"Sequencepoint$Node", "depthOf", "(LSequencepoint$Node;)I"⟩ : Jvm.MethodName) prog_5_method_4_code 1 (some .int),
    Jvm.Cond.code (⟨"java/lang/Math", "max", "(II)I"⟩ : Jvm.MethodName) prog_36_method_65_code 2 (some .int),
    Jvm.Cond.code (⟨"Sequencepoint$Node", "sizeOf", "(LSequencepoint$Node;)I"⟩ : Jvm.MethodName) prog_5_method_5_code 1 (some .int),
    Jvm.Cond.code (⟨"Sequencepoint$Node", "isCalling", "(LSequencepoint$Node;)Z"⟩ : Jvm.MethodName) prog_5_method_6_code 1 (some .boolean),
    Jvm.Cond.code (⟨"Sequencepoint$Program", "take", "(LSequencepoint$Node;)V"⟩ : Jvm.MethodName) prog_9_method_10_code 1 none,
    Jvm.Cond.code (⟨"Sequencepoint", "name", "(I)I"⟩ : Jvm.MethodName) prog_1_method_7_code 4 (some .int),
    Jvm.Cond.code (⟨"Sequencepoint", "unary", "(CI)I"⟩ : Jvm.MethodName) prog_1_method_8_code 5 (some .int)] := by
  first
  | rfl
  | simp only [tables_1_3, List.filter, su_isCode]
set_option maxRecDepth 16384 in
theorem od1.codes_hold_3 : ∀ c ∈ tables_1_3.filter su_isCode, c.before args0 about = true := by
  rw [codes_are_3]
  exact List.forall_mem_cons.mpr ⟨code18, List.forall_mem_cons.mpr ⟨code19, List.forall_mem_cons.mpr ⟨code20, List.forall_mem_cons.mpr ⟨code21, List.forall_mem_cons.mpr ⟨code22, List.forall_mem_cons.mpr ⟨code23, List.forall_mem_cons.mpr ⟨code24, List.forall_mem_cons.mpr ⟨code25, List.forall_mem_cons.mpr ⟨code26, List.forall_mem_cons.mpr ⟨code27, List.forall_mem_cons.mpr ⟨code28, List.forall_mem_cons.mpr ⟨code29, List.forall_mem_cons.mpr ⟨code30, List.forall_mem_cons.mpr ⟨code31, List.forall_mem_cons.mpr ⟨code32, List.forall_mem_cons.mpr ⟨code33, List.forall_mem_cons.mpr ⟨code34, List.forall_mem_cons.mpr ⟨code35, List.forall_mem_cons.mpr ⟨code36, List.forall_mem_cons.mpr ⟨code37, List.forall_mem_cons.mpr ⟨code38, List.forall_mem_cons.mpr ⟨code39, List.forall_mem_cons.mpr ⟨code40, List.forall_mem_cons.mpr ⟨code41, List.forall_mem_cons.mpr ⟨code42, List.forall_mem_cons.mpr ⟨code43, List.forall_mem_cons.mpr ⟨code44, List.forall_mem_cons.mpr ⟨code45, List.forall_mem_cons.mpr ⟨code46, List.forall_mem_cons.mpr ⟨code47, List.forall_mem_cons.mpr ⟨code48, List.forall_mem_cons.mpr ⟨code49, List.forall_mem_nil _⟩⟩⟩⟩⟩⟩⟩⟩⟩⟩⟩⟩⟩⟩⟩⟩⟩⟩⟩⟩⟩⟩⟩⟩⟩⟩⟩⟩⟩⟩⟩⟩
set_option maxRecDepth 100000 in
theorem od1.others_3_0 : (tables_1_3.take 120).all od1.chk = true := by decide +kernel
set_option maxRecDepth 100000 in
theorem od1.others_3_1 : (tables_1_3.drop 120).all od1.chk = true := by decide +kernel
theorem od1.others_hold_3 : tables_1_3.all (fun c => su_isCode c || c.before args0 about) = true := od1.from_chk start1.words_3 (od1.su_all_split _ 120 tables_1_3 od1.others_3_0 od1.others_3_1)
set_option maxRecDepth 16384 in
theorem od1.words_3 : ∀ c ∈ tables_1_3, c.before args0 about = true := fun c h => su_words others_hold_3 codes_hold_3 c h
set_option maxRecDepth 16384 in
theorem od1.code50 : (Jvm.Cond.code (⟨"java/lang/String", "indexOf", "(I)I"⟩ : Jvm.MethodName) prog_39_method_79_code 2 (some .int)).before args0 about = true :=
  su_hand_word (m := ⟨40, 1⟩) (by decide +kernel) rfl (by decide +kernel) (by decide +kernel)
set_option maxRecDepth 16384 in
theorem od1.code51 : (Jvm.Cond.code (⟨"java/lang/String", "indexOf", "(II)I"⟩ : Jvm.MethodName) prog_39_method_80_code 3 (some .int)).before args0 about = true :=
  su_hand_word (m := ⟨40, 2⟩) (by decide +kernel) rfl (by decide +kernel) (by decide +kernel)
set_option maxRecDepth 16384 in
theorem od1.code52 : (Jvm.Cond.code (⟨"java/lang/String", "isLatin1", "()Z"⟩ : Jvm.MethodName) prog_39_method_154_code 1 (some .boolean)).before args0 about = true :=
  su_hand_word (m := ⟨40, 4⟩) (by decide +kernel) rfl (by decide +kernel) (by decide +kernel)
set_option maxRecDepth 16384 in
theorem od1.code53 : (Jvm.Cond.code (⟨"java/lang/String", "length", "()I"⟩ : Jvm.MethodName) prog_39_method_54_code 1 (some .int)).before args0 about = true :=
  su_hand_word (m := ⟨40, 0⟩) (by decide +kernel) rfl (by decide +kernel) (by decide +kernel)
set_option maxRecDepth 16384 in
theorem od1.code54 : (Jvm.Cond.code (⟨"java/lang/String", "coder", "()B"⟩ : Jvm.MethodName) prog_39_method_152_code 1 (some .byte)).before args0 about = true :=
  su_hand_word (m := ⟨40, 3⟩) (by decide +kernel) rfl (by decide +kernel) (by decide +kernel)
theorem od1.code55 : (Jvm.Cond.code (⟨"java/lang/StringLatin1", "indexOf", "([BIII)I"⟩ : Jvm.MethodName) prog_41_method_22_code 4 (some .int)).before args0 about = true := od1.code_of (by decide +kernel) start1.code55
theorem od1.code56 : (Jvm.Cond.code (⟨"java/lang/StringLatin1", "canEncode", "(I)Z"⟩ : Jvm.MethodName) prog_41_method_4_code 1 (some .boolean)).before args0 about = true := od1.code_of (by decide +kernel) start1.code56
theorem od1.code57 : (Jvm.Cond.code (⟨"java/lang/Math", "min", "(II)I"⟩ : Jvm.MethodName) prog_36_method_69_code 2 (some .int)).before args0 about = true := od1.code_of (by decide +kernel) start1.code57
theorem od1.code58 : (Jvm.Cond.code (⟨"java/lang/StringLatin1", "indexOfChar", "([BIII)I"⟩ : Jvm.MethodName) prog_41_method_23_code 6 (some .int)).before args0 about = true := od1.code_of (by decide +kernel) start1.code58
theorem od1.code59 : (Jvm.Cond.code (⟨"java/lang/StringUTF16", "indexOf", "([BIII)I"⟩ : Jvm.MethodName) prog_42_method_40_code 4 (some .int)).before args0 about = true := od1.code_of (by decide +kernel) start1.code59
theorem od1.code60 : (Jvm.Cond.code (⟨"java/lang/StringUTF16", "indexOfChar", "([BIII)I"⟩ : Jvm.MethodName) prog_42_method_47_code 4 (some .int)).before args0 about = true := od1.code_of (by decide +kernel) start1.code60
theorem od1.code61 : (Jvm.Cond.code (⟨"java/lang/StringUTF16", "checkBoundsBeginEnd", "(II[B)V"⟩ : Jvm.MethodName) prog_42_method_93_code 3 none).before args0 about = true := od1.code_of (by decide +kernel) start1.code61
theorem od1.code62 : (Jvm.Cond.code (⟨"java/lang/StringUTF16", "length", "([B)I"⟩ : Jvm.MethodName) prog_42_method_6_code 1 (some .int)).before args0 about = true := od1.code_of (by decide +kernel) start1.code62
set_option maxRecDepth 16384 in
theorem od1.code63 : (Jvm.Cond.code (⟨"java/lang/String", "checkBoundsBeginEnd", "(III)V"⟩ : Jvm.MethodName) prog_39_method_158_code 3 none).before args0 about = true :=
  su_hand_word (m := ⟨40, 7⟩) (by decide +kernel) rfl (by decide +kernel) (by decide +kernel)
theorem od1.code64 : (Jvm.Cond.code (⟨"jdk/internal/util/Preconditions", "checkFromToIndex", "(IIILjava/util/function/BiFunction;)I"⟩ : Jvm.MethodName) prog_61_method_12_code 4 (some .int)).before args0 about = true := od1.code_of (by decide +kernel) start1.code64
theorem od1.code65 : (Jvm.Cond.code (⟨"java/lang/StringUTF16", "indexOfCharUnsafe", "([BIII)I"⟩ : Jvm.MethodName) prog_42_method_48_code 5 (some .int)).before args0 about = true := od1.code_of (by decide +kernel) start1.code65
theorem od1.code66 : (Jvm.Cond.code (⟨"java/lang/StringUTF16", "getChar", "([BI)C"⟩ : Jvm.MethodName) prog_42_method_5_code 2 (some .char)).before args0 about = true := od1.code_of (by decide +kernel) start1.code66
theorem od1.code67 : (Jvm.Cond.code (⟨"java/lang/StringUTF16", "indexOfSupplementary", "([BIII)I"⟩ : Jvm.MethodName) prog_42_method_49_code 7 (some .int)).before args0 about = true := od1.code_of (by decide +kernel) start1.code67
theorem od1.code68 : (Jvm.Cond.code (⟨"java/lang/Character", "isValidCodePoint", "(I)Z"⟩ : Jvm.MethodName) prog_25_method_11_code 2 (some .boolean)).before args0 about = true := od1.code_of (by decide +kernel) start1.code68
theorem od1.code69 : (Jvm.Cond.code (⟨"java/lang/Character", "highSurrogate", "(I)C"⟩ : Jvm.MethodName) prog_25_method_28_code 1 (some .char)).before args0 about = true := od1.code_of (by decide +kernel) start1.code69
theorem od1.code70 : (Jvm.Cond.code (⟨"java/lang/Character", "lowSurrogate", "(I)C"⟩ : Jvm.MethodName) prog_25_method_29_code 1 (some .char)).before args0 about = true := od1.code_of (by decide +kernel) start1.code70
theorem od1.code71 : (Jvm.Cond.code (⟨"Sequencepoint$Program", "nodeAt", "(I)LSequencepoint$Node;"⟩ : Jvm.MethodName) prog_9_method_4_code 2 (some (.object "Sequencepoint$Node"))).before args0 about = true := od1.code_of (by decide +kernel) start1.code71
theorem od1.code72 : (Jvm.Cond.code (⟨"Sequencepoint$Typing", "ofUnary", "(CLSequencepoint$Node;)I"⟩ : Jvm.MethodName) prog_11_method_2_code 3 (some .int)).before args0 about = true := od1.code_of (by decide +kernel) start1.code72
theorem od1.code73 : (Jvm.Cond.code (⟨"Sequencepoint$Numbers", "promoted", "(I)I"⟩ : Jvm.MethodName) prog_6_method_6_code 1 (some .int)).before args0 about = true := od1.code_of (by decide +kernel) start1.code73
theorem od1.code74 : (Jvm.Cond.code (⟨"Sequencepoint$Node", "isPlace", "()Z"⟩ : Jvm.MethodName) prog_5_method_8_code 1 (some .boolean)).before args0 about = true := od1.code_of (by decide +kernel) start1.code74
theorem od1.code75 : (Jvm.Cond.code (⟨"Sequencepoint$Program", "canJoin", "(LSequencepoint$Node;LSequencepoint$Node;LSequencepoint$Node;)Z"⟩ : Jvm.MethodName) prog_9_method_12_code 5 (some .boolean)).before args0 about = true := od1.code_of (by decide +kernel) start1.code75
theorem od1.code76 : (Jvm.Cond.code (⟨"Sequencepoint$Program", "isFree", "(LSequencepoint$Node;)Z"⟩ : Jvm.MethodName) prog_9_method_14_code 1 (some .boolean)).before args0 about = true := od1.code_of (by decide +kernel) start1.code76
theorem od1.code77 : (Jvm.Cond.code (⟨"Sequencepoint", "cast", "(II)I"⟩ : Jvm.MethodName) prog_1_method_9_code 4 (some .int)).before args0 about = true := od1.code_of (by decide +kernel) start1.code77
theorem od1.code78 : (Jvm.Cond.code (⟨"Sequencepoint", "binary", "(CII)I"⟩ : Jvm.MethodName) prog_1_method_10_code 7 (some .int)).before args0 about = true := od1.code_of (by decide +kernel) start1.code78
theorem od1.code79 : (Jvm.Cond.code (⟨"Sequencepoint$Typing", "ofBinary", "(CII)I"⟩ : Jvm.MethodName) prog_11_method_3_code 5 (some .int)).before args0 about = true := od1.code_of (by decide +kernel) start1.code79
theorem od1.code80 : (Jvm.Cond.code (⟨"Sequencepoint$Numbers", "common", "(II)I"⟩ : Jvm.MethodName) prog_6_method_7_code 2 (some .int)).before args0 about = true := od1.code_of (by decide +kernel) start1.code80
theorem od1.code81 : (Jvm.Cond.code (⟨"Sequencepoint", "choose", "(III)I"⟩ : Jvm.MethodName) prog_1_method_11_code 8 (some .int)).before args0 about = true := od1.code_of (by decide +kernel) start1.code81
theorem od1.code82 : (Jvm.Cond.code (⟨"Sequencepoint$Typing", "ofChoice", "(II)I"⟩ : Jvm.MethodName) prog_11_method_4_code 2 (some .int)).before args0 about = true := od1.code_of (by decide +kernel) start1.code82
theorem od1.code83 : (Jvm.Cond.code (⟨"Sequencepoint", "assign", "(CII)I"⟩ : Jvm.MethodName) prog_1_method_12_code 6 (some .int)).before args0 about = true := od1.code_of (by decide +kernel) start1.code83
theorem od1.code84 : (Jvm.Cond.code (⟨"Sequencepoint$Typing", "canAssign", "(CLSequencepoint$Node;I)Z"⟩ : Jvm.MethodName) prog_11_method_5_code 4 (some .boolean)).before args0 about = true := od1.code_of (by decide +kernel) start1.code84
theorem od1.code85 : (Jvm.Cond.code (⟨"Sequencepoint", "call", "(III)I"⟩ : Jvm.MethodName) prog_1_method_13_code 9 (some .int)).before args0 about = true := od1.code_of (by decide +kernel) start1.code85
theorem od1.code86 : (Jvm.Cond.code (⟨"Sequencepoint$Typing", "canPass", "(LSequencepoint$Variable;LSequencepoint$Node;)Z"⟩ : Jvm.MethodName) prog_11_method_6_code 2 (some .boolean)).before args0 about = true := od1.code_of (by decide +kernel) start1.code86
theorem od1.code87 : (Jvm.Cond.code (⟨"Sequencepoint", "typeOf", "(I)I"⟩ : Jvm.MethodName) prog_1_method_15_code 3 (some .int)).before args0 about = true := od1.code_of (by decide +kernel) start1.code87
theorem od1.code88 : (Jvm.Cond.code (⟨"Sequencepoint", "simple", "(CI)I"⟩ : Jvm.MethodName) prog_1_method_16_code 4 (some .int)).before args0 about = true := od1.code_of (by decide +kernel) start1.code88
theorem od1.code89 : (Jvm.Cond.code (⟨"Sequencepoint", "refuseStatementsBeyondLimit", "()V"⟩ : Jvm.MethodName) prog_1_method_23_code 1 none).before args0 about = true := od1.code_of (by decide +kernel) start1.code89
theorem od1.code90 : (Jvm.Cond.code (⟨"Sequencepoint$Program", "keepStatement", "(LSequencepoint$Statement;LSequencepoint$Statement;LSequencepoint$Statement;)I"⟩ : Jvm.MethodName) prog_9_method_9_code 4 (some .int)).before args0 about = true := od1.code_of (by decide +kernel) start1.code90
theorem od1.code91 : (Jvm.Cond.code (⟨"Sequencepoint$Statement", "setParts", "(LSequencepoint$Statement;LSequencepoint$Statement;)V"⟩ : Jvm.MethodName) prog_10_method_2_code 3 none).before args0 about = true := od1.code_of (by decide +kernel) start1.code91
theorem od1.code92 : (Jvm.Cond.code (⟨"Sequencepoint$Statement", "depthOf", "(LSequencepoint$Statement;)I"⟩ : Jvm.MethodName) prog_10_method_3_code 1 (some .int)).before args0 about = true := od1.code_of (by decide +kernel) start1.code92
theorem od1.code93 : (Jvm.Cond.code (⟨"Sequencepoint$Statement", "sizeOf", "(LSequencepoint$Statement;)I"⟩ : Jvm.MethodName) prog_10_method_4_code 1 (some .int)).before args0 about = true := od1.code_of (by decide +kernel) start1.code93
theorem od1.code94 : (Jvm.Cond.code (⟨"Sequencepoint$Program", "takeStatement", "(LSequencepoint$Statement;)V"⟩ : Jvm.MethodName) prog_9_method_11_code 1 none).before args0 about = true := od1.code_of (by decide +kernel) start1.code94
theorem od1.code95 : (Jvm.Cond.code (⟨"Sequencepoint", "declare", "(I)I"⟩ : Jvm.MethodName) prog_1_method_17_code 3 (some .int)).before args0 about = true := od1.code_of (by decide +kernel) start1.code95
theorem od1.code96 : (Jvm.Cond.code (⟨"Sequencepoint", "branch", "(III)I"⟩ : Jvm.MethodName) prog_1_method_18_code 7 (some .int)).before args0 about = true := od1.code_of (by decide +kernel) start1.code96
theorem od1.code97 : (Jvm.Cond.code (⟨"Sequencepoint", "addWhole", "(CLSequencepoint$Node;LSequencepoint$Statement;LSequencepoint$Statement;)I"⟩ : Jvm.MethodName) prog_1_method_22_code 5 (some .int)).before args0 about = true := od1.code_of (by decide +kernel) start1.code97
theorem od1.code98 : (Jvm.Cond.code (⟨"Sequencepoint$Program", "canJoinStatements", "(LSequencepoint$Node;LSequencepoint$Statement;LSequencepoint$Statement;)Z"⟩ : Jvm.MethodName) prog_9_method_13_code 6 (some .boolean)).before args0 about = true := od1.code_of (by decide +kernel) start1.code98
theorem od1.code99 : (Jvm.Cond.code (⟨"Sequencepoint$Program", "isFreeStatement", "(LSequencepoint$Statement;)Z"⟩ : Jvm.MethodName) prog_9_method_15_code 1 (some .boolean)).before args0 about = true := od1.code_of (by decide +kernel) start1.code99
set_option maxRecDepth 16384 in
theorem od1.codes_are_4 : tables_1_4.filter su_isCode = [Jvm.Cond.code (⟨"java/lang/String", "indexOf", "(I)I"⟩ : Jvm.MethodName) prog_39_method_79_code 2 (some .int),
    Jvm.Cond.code (⟨"java/lang/String", "indexOf", "(II)I"⟩ : Jvm.MethodName) prog_39_method_80_code 3 (some .int),
    Jvm.Cond.code (⟨"java/lang/String", "isLatin1", "()Z"⟩ : Jvm.MethodName) prog_39_method_154_code 1 (some .boolean),
    Jvm.Cond.code (⟨"java/lang/String", "length", "()I"⟩ : Jvm.MethodName) prog_39_method_54_code 1 (some .int),
    Jvm.Cond.code (⟨"java/lang/String", "coder", "()B"⟩ : Jvm.MethodName) prog_39_method_152_code 1 (some .byte),
    Jvm.Cond.code (⟨"java/lang/StringLatin1", "indexOf", "([BIII)I"⟩ : Jvm.MethodName) prog_41_method_22_code 4 (some .int),
    Jvm.Cond.code (⟨"java/lang/StringLatin1", "canEncode", "(I)Z"⟩ : Jvm.MethodName) prog_41_method_4_code 1 (some .boolean),
    Jvm.Cond.code (⟨"java/lang/Math", "min", "(II)I"⟩ : Jvm.MethodName) prog_36_method_69_code 2 (some .int),
    Jvm.Cond.code (⟨"java/lang/StringLatin1", "indexOfChar", "([BIII)I"⟩ : Jvm.MethodName) prog_41_method_23_code 6 (some .int),
    Jvm.Cond.code (⟨"java/lang/StringUTF16", "indexOf", "([BIII)I"⟩ : Jvm.MethodName) prog_42_method_40_code 4 (some .int),
    Jvm.Cond.code (⟨"java/lang/StringUTF16", "indexOfChar", "([BIII)I"⟩ : Jvm.MethodName) prog_42_method_47_code 4 (some .int),
    Jvm.Cond.code (⟨"java/lang/StringUTF16", "checkBoundsBeginEnd", "(II[B)V"⟩ : Jvm.MethodName) prog_42_method_93_code 3 none,
    Jvm.Cond.code (⟨"java/lang/StringUTF16", "length", "([B)I"⟩ : Jvm.MethodName) prog_42_method_6_code 1 (some .int),
    Jvm.Cond.code (⟨"java/lang/String", "checkBoundsBeginEnd", "(III)V"⟩ : Jvm.MethodName) prog_39_method_158_code 3 none,
    Jvm.Cond.code (⟨"jdk/internal/util/Preconditions", "checkFromToIndex", "(IIILjava/util/function/BiFunction;)I"⟩ : Jvm.MethodName) prog_61_method_12_code 4 (some .int),
    Jvm.Cond.code (⟨"java/lang/StringUTF16", "indexOfCharUnsafe", "([BIII)I"⟩ : Jvm.MethodName) prog_42_method_48_code 5 (some .int),
    Jvm.Cond.code (⟨"java/lang/StringUTF16", "getChar", "([BI)C"⟩ : Jvm.MethodName) prog_42_method_5_code 2 (some .char),
    Jvm.Cond.code (⟨"java/lang/StringUTF16", "indexOfSupplementary", "([BIII)I"⟩ : Jvm.MethodName) prog_42_method_49_code 7 (some .int),
    Jvm.Cond.code (⟨"java/lang/Character", "isValidCodePoint", "(I)Z"⟩ : Jvm.MethodName) prog_25_method_11_code 2 (some .boolean),
    Jvm.Cond.code (⟨"java/lang/Character", "highSurrogate", "(I)C"⟩ : Jvm.MethodName) prog_25_method_28_code 1 (some .char),
    Jvm.Cond.code (⟨"java/lang/Character", "lowSurrogate", "(I)C"⟩ : Jvm.MethodName) prog_25_method_29_code 1 (some .char),
    Jvm.Cond.code (⟨"Sequencepoint$Program", "nodeAt", "(I)LSequencepoint$Node;"⟩ : Jvm.MethodName) prog_9_method_4_code 2 (some (.object "Sequencepoint$Node")),
    Jvm.Cond.code (⟨"Sequencepoint$Typing", "ofUnary", "(CLSequencepoint$Node;)I"⟩ : Jvm.MethodName) prog_11_method_2_code 3 (some .int),
    Jvm.Cond.code (⟨"Sequencepoint$Numbers", "promoted", "(I)I"⟩ : Jvm.MethodName) prog_6_method_6_code 1 (some .int),
    Jvm.Cond.code (⟨"Sequencepoint$Node", "isPlace", "()Z"⟩ : Jvm.MethodName) prog_5_method_8_code 1 (some .boolean),
    Jvm.Cond.code (⟨"Sequencepoint$Program", "canJoin", "(LSequencepoint$Node;LSequencepoint$Node;LSequencepoint$Node;)Z"⟩ : Jvm.MethodName) prog_9_method_12_code 5 (some .boolean),
    Jvm.Cond.code (⟨"Sequencepoint$Program", "isFree", "(LSequencepoint$Node;)Z"⟩ : Jvm.MethodName) prog_9_method_14_code 1 (some .boolean),
    Jvm.Cond.code (⟨"Sequencepoint", "cast", "(II)I"⟩ : Jvm.MethodName) prog_1_method_9_code 4 (some .int),
    Jvm.Cond.code (⟨"Sequencepoint", "binary", "(CII)I"⟩ : Jvm.MethodName) prog_1_method_10_code 7 (some .int),
    Jvm.Cond.code (⟨"Sequencepoint$Typing", "ofBinary", "(CII)I"⟩ : Jvm.MethodName) prog_11_method_3_code 5 (some .int),
    Jvm.Cond.code (⟨"Sequencepoint$Numbers", "common", "(II)I"⟩ : Jvm.MethodName) prog_6_method_7_code 2 (some .int),
    Jvm.Cond.code (⟨"Sequencepoint", "choose", "(III)I"⟩ : Jvm.MethodName) prog_1_method_11_code 8 (some .int),
    Jvm.Cond.code (⟨"Sequencepoint$Typing", "ofChoice", "(II)I"⟩ : Jvm.MethodName) prog_11_method_4_code 2 (some .int),
    Jvm.Cond.code (⟨"Sequencepoint", "assign", "(CII)I"⟩ : Jvm.MethodName) prog_1_method_12_code 6 (some .int),
    Jvm.Cond.code (⟨"Sequencepoint$Typing", "canAssign", "(CLSequencepoint$Node;I)Z"⟩ : Jvm.MethodName) prog_11_method_5_code 4 (some .boolean),
    Jvm.Cond.code (⟨"Sequencepoint", "call", "(III)I"⟩ : Jvm.MethodName) prog_1_method_13_code 9 (some .int),
    Jvm.Cond.code (⟨"Sequencepoint$Typing", "canPass", "(LSequencepoint$Variable;LSequencepoint$Node;)Z"⟩ : Jvm.MethodName) prog_11_method_6_code 2 (some .boolean),
    Jvm.Cond.code (⟨"Sequencepoint", "typeOf", "(I)I"⟩ : Jvm.MethodName) prog_1_method_15_code 3 (some .int),
    Jvm.Cond.code (⟨"Sequencepoint", "simple", "(CI)I"⟩ : Jvm.MethodName) prog_1_method_16_code 4 (some .int),
    Jvm.Cond.code (⟨"Sequencepoint", "refuseStatementsBeyondLimit", "()V"⟩ : Jvm.MethodName) prog_1_method_23_code 1 none,
    Jvm.Cond.code (⟨"Sequencepoint$Program", "keepStatement", "(LSequencepoint$Statement;LSequencepoint$Statement;LSequencepoint$Statement;)I"⟩ : Jvm.MethodName) prog_9_method_9_code 4 (some .int),
    Jvm.Cond.code (⟨"Sequencepoint$Statement", "setParts", "(LSequencepoint$Statement;LSequencepoint$Statement;)V"⟩ : Jvm.MethodName) prog_10_method_2_code 3 none,
    Jvm.Cond.code (⟨"Sequencepoint$Statement", "depthOf", "(LSequencepoint$Statement;)I"⟩ : Jvm.MethodName) prog_10_method_3_code 1 (some .int),
    Jvm.Cond.code (⟨"Sequencepoint$Statement", "sizeOf", "(LSequencepoint$Statement;)I"⟩ : Jvm.MethodName) prog_10_method_4_code 1 (some .int),
    Jvm.Cond.code (⟨"Sequencepoint$Program", "takeStatement", "(LSequencepoint$Statement;)V"⟩ : Jvm.MethodName) prog_9_method_11_code 1 none,
    Jvm.Cond.code (⟨"Sequencepoint", "declare", "(I)I"⟩ : Jvm.MethodName) prog_1_method_17_code 3 (some .int),
    Jvm.Cond.code (⟨"Sequencepoint", "branch", "(III)I"⟩ : Jvm.MethodName) prog_1_method_18_code 7 (some .int),
    Jvm.Cond.code (⟨"Sequencepoint", "addWhole", "(CLSequencepoint$Node;LSequencepoint$Statement;LSequencepoint$Statement;)I"⟩ : Jvm.MethodName) prog_1_method_22_code 5 (some .int),
    Jvm.Cond.code (⟨"Sequencepoint$Program", "canJoinStatements", "(LSequencepoint$Node;LSequencepoint$Statement;LSequencepoint$Statement;)Z"⟩ : Jvm.MethodName) prog_9_method_13_code 6 (some .boolean),
    Jvm.Cond.code (⟨"Sequencepoint$Program", "isFreeStatement", "(LSequencepoint$Statement;)Z"⟩ : Jvm.MethodName) prog_9_method_15_code 1 (some .boolean)] := by
  first
  | rfl
  | simp only [tables_1_4, List.filter, su_isCode]
set_option maxRecDepth 16384 in
theorem od1.codes_hold_4 : ∀ c ∈ tables_1_4.filter su_isCode, c.before args0 about = true := by
  rw [codes_are_4]
  exact List.forall_mem_cons.mpr ⟨code50, List.forall_mem_cons.mpr ⟨code51, List.forall_mem_cons.mpr ⟨code52, List.forall_mem_cons.mpr ⟨code53, List.forall_mem_cons.mpr ⟨code54, List.forall_mem_cons.mpr ⟨code55, List.forall_mem_cons.mpr ⟨code56, List.forall_mem_cons.mpr ⟨code57, List.forall_mem_cons.mpr ⟨code58, List.forall_mem_cons.mpr ⟨code59, List.forall_mem_cons.mpr ⟨code60, List.forall_mem_cons.mpr ⟨code61, List.forall_mem_cons.mpr ⟨code62, List.forall_mem_cons.mpr ⟨code63, List.forall_mem_cons.mpr ⟨code64, List.forall_mem_cons.mpr ⟨code65, List.forall_mem_cons.mpr ⟨code66, List.forall_mem_cons.mpr ⟨code67, List.forall_mem_cons.mpr ⟨code68, List.forall_mem_cons.mpr ⟨code69, List.forall_mem_cons.mpr ⟨code70, List.forall_mem_cons.mpr ⟨code71, List.forall_mem_cons.mpr ⟨code72, List.forall_mem_cons.mpr ⟨code73, List.forall_mem_cons.mpr ⟨code74, List.forall_mem_cons.mpr ⟨code75, List.forall_mem_cons.mpr ⟨code76, List.forall_mem_cons.mpr ⟨code77, List.forall_mem_cons.mpr ⟨code78, List.forall_mem_cons.mpr ⟨code79, List.forall_mem_cons.mpr ⟨code80, List.forall_mem_cons.mpr ⟨code81, List.forall_mem_cons.mpr ⟨code82, List.forall_mem_cons.mpr ⟨code83, List.forall_mem_cons.mpr ⟨code84, List.forall_mem_cons.mpr ⟨code85, List.forall_mem_cons.mpr ⟨code86, List.forall_mem_cons.mpr ⟨code87, List.forall_mem_cons.mpr ⟨code88, List.forall_mem_cons.mpr ⟨code89, List.forall_mem_cons.mpr ⟨code90, List.forall_mem_cons.mpr ⟨code91, List.forall_mem_cons.mpr ⟨code92, List.forall_mem_cons.mpr ⟨code93, List.forall_mem_cons.mpr ⟨code94, List.forall_mem_cons.mpr ⟨code95, List.forall_mem_cons.mpr ⟨code96, List.forall_mem_cons.mpr ⟨code97, List.forall_mem_cons.mpr ⟨code98, List.forall_mem_cons.mpr ⟨code99, List.forall_mem_nil _⟩⟩⟩⟩⟩⟩⟩⟩⟩⟩⟩⟩⟩⟩⟩⟩⟩⟩⟩⟩⟩⟩⟩⟩⟩⟩⟩⟩⟩⟩⟩⟩⟩⟩⟩⟩⟩⟩⟩⟩⟩⟩⟩⟩⟩⟩⟩⟩⟩⟩
set_option maxRecDepth 100000 in
theorem od1.others_4_0 : (tables_1_4.take 120).all od1.chk = true := by decide +kernel
set_option maxRecDepth 100000 in
theorem od1.others_4_1 : ((tables_1_4.drop 120).take 120).all od1.chk = true := by decide +kernel
set_option maxRecDepth 100000 in
theorem od1.others_4_2 : ((tables_1_4.drop 120).drop 120).all od1.chk = true := by decide +kernel
theorem od1.others_hold_4 : tables_1_4.all (fun c => su_isCode c || c.before args0 about) = true := od1.from_chk start1.words_4 (od1.su_all_split _ 120 tables_1_4 od1.others_4_0 (od1.su_all_split _ 120 (tables_1_4.drop 120) od1.others_4_1 od1.others_4_2))
set_option maxRecDepth 16384 in
theorem od1.words_4 : ∀ c ∈ tables_1_4, c.before args0 about = true := fun c h => su_words others_hold_4 codes_hold_4 c h
theorem od1.code100 : (Jvm.Cond.code (⟨"Sequencepoint", "repeat", "(II)I"⟩ : Jvm.MethodName) prog_1_method_19_code 5 (some .int)).before args0 about = true := od1.code_of (by decide +kernel) start1.code100
theorem od1.code101 : (Jvm.Cond.code (⟨"Sequencepoint", "then", "(II)I"⟩ : Jvm.MethodName) prog_1_method_20_code 5 (some .int)).before args0 about = true := od1.code_of (by decide +kernel) start1.code101
theorem od1.code102 : (Jvm.Cond.code (⟨"Sequencepoint", "block", "(I)I"⟩ : Jvm.MethodName) prog_1_method_21_code 3 (some .int)).before args0 about = true := od1.code_of (by decide +kernel) start1.code102
theorem od1.code103 : (Jvm.Cond.code (⟨"Sequencepoint", "run", "(I)C"⟩ : Jvm.MethodName) prog_1_method_24_code 2 (some .char)).before args0 about = true := od1.code_of (by decide +kernel) start1.code103
theorem od1.code104 : (Jvm.Cond.code (⟨"Sequencepoint", "refuseProgramWithoutStart", "()V"⟩ : Jvm.MethodName) prog_1_method_26_code 1 none).before args0 about = true := od1.code_of (by decide +kernel) start1.code104
theorem od1.code105 : (Jvm.Cond.code (⟨"Sequencepoint$Program", "canStart", "()Z"⟩ : Jvm.MethodName) prog_9_method_18_code 2 (some .boolean)).before args0 about = true := od1.code_of (by decide +kernel) start1.code105
theorem od1.code106 : (Jvm.Cond.code (⟨"Sequencepoint", "refuseNegativeOrder", "(I)V"⟩ : Jvm.MethodName) prog_1_method_27_code 1 none).before args0 about = true := od1.code_of (by decide +kernel) start1.code106
theorem od1.code107 : (Jvm.Cond.code (⟨"Sequencepoint$Machine", "perform", "(LSequencepoint$Program;[LSequencepoint$Statement;ILSequencepoint$Outcome;)V"⟩ : Jvm.MethodName) prog_3_method_2_code 7 none).before args0 about = true := od1.code_of (by decide +kernel) start1.code107
theorem od1.code108 : (Jvm.Cond.code (⟨"Sequencepoint$Outcome", "clear", "()V"⟩ : Jvm.MethodName) prog_8_method_2_code 1 none).before args0 about = true := od1.code_of (by decide +kernel) start1.code108
theorem od1.code109 : (Jvm.Cond.code (⟨"Sequencepoint$Memory", "clear", "()V"⟩ : Jvm.MethodName) prog_4_method_2_code 1 none).before args0 about = true := od1.code_of (by decide +kernel) start1.code109
theorem od1.code110 : (Jvm.Cond.code (⟨"Sequencepoint$Machine", "openRow", "(I)V"⟩ : Jvm.MethodName) prog_3_method_21_code 4 none).before args0 about = true := od1.code_of (by decide +kernel) start1.code110
theorem od1.code111 : (Jvm.Cond.code (⟨"Sequencepoint$Machine", "bring", "(LSequencepoint$Variable;)V"⟩ : Jvm.MethodName) prog_3_method_24_code 3 none).before args0 about = true := od1.code_of (by decide +kernel) start1.code111
theorem od1.code112 : (Jvm.Cond.code (⟨"Sequencepoint$Machine", "slotOf", "(LSequencepoint$Variable;)I"⟩ : Jvm.MethodName) prog_3_method_22_code 3 (some .int)).before args0 about = true := od1.code_of (by decide +kernel) start1.code112
theorem od1.code113 : (Jvm.Cond.code (⟨"Sequencepoint$Memory", "end", "(I)V"⟩ : Jvm.MethodName) prog_4_method_5_code 2 none).before args0 about = true := od1.code_of (by decide +kernel) start1.code113
theorem od1.code114 : (Jvm.Cond.code (⟨"Sequencepoint$Variable", "parts", "()I"⟩ : Jvm.MethodName) prog_12_method_3_code 1 (some .int)).before args0 about = true := od1.code_of (by decide +kernel) start1.code114
theorem od1.code115 : (Jvm.Cond.code (⟨"Sequencepoint$Memory", "bear", "(I)I"⟩ : Jvm.MethodName) prog_4_method_4_code 3 (some .int)).before args0 about = true := od1.code_of (by decide +kernel) start1.code115
theorem od1.code116 : (Jvm.Cond.code (⟨"Sequencepoint$Machine", "bodyOf", "(I)LSequencepoint$Statement;"⟩ : Jvm.MethodName) prog_3_method_3_code 2 (some (.object "Sequencepoint$Statement"))).before args0 about = true := od1.code_of (by decide +kernel) start1.code116
theorem od1.code117 : (Jvm.Cond.code (⟨"Sequencepoint$Machine", "execute", "(LSequencepoint$Statement;)V"⟩ : Jvm.MethodName) prog_3_method_7_code 3 none).before args0 about = true := od1.code_of (by decide +kernel) start1.code117
end
section
theorem od1.code118 : (Jvm.Cond.code (⟨"Sequencepoint$Machine", "takeStep", "()Z"⟩ : Jvm.MethodName) prog_3_method_5_code 1 (some .boolean)).before args0 about = true := od1.code_of (by decide +kernel) start1.code118
theorem od1.code119 : (Jvm.Cond.code (⟨"Sequencepoint$Machine", "isOver", "()Z"⟩ : Jvm.MethodName) prog_3_method_4_code 1 (some .boolean)).before args0 about = true := od1.code_of (by decide +kernel) start1.code119
theorem od1.code120 : (Jvm.Cond.code (⟨"Sequencepoint$Machine", "evaluate", "(LSequencepoint$Node;)J"⟩ : Jvm.MethodName) prog_3_method_8_code 8 (some .long)).before args0 about = true := od1.code_of (by decide +kernel) start1.code120
theorem od1.code121 : (Jvm.Cond.code (⟨"Sequencepoint$Memory", "logged", "()I"⟩ : Jvm.MethodName) prog_4_method_16_code 1 (some .int)).before args0 about = true := od1.code_of (by decide +kernel) start1.code121
theorem od1.code122 : (Jvm.Cond.code (⟨"Sequencepoint$Node", "isChosen", "()Z"⟩ : Jvm.MethodName) prog_5_method_11_code 1 (some .boolean)).before args0 about = true := od1.code_of (by decide +kernel) start1.code122
theorem od1.code123 : (Jvm.Cond.code (⟨"Sequencepoint$Node", "isUnsequenced", "()Z"⟩ : Jvm.MethodName) prog_5_method_10_code 1 (some .boolean)).before args0 about = true := od1.code_of (by decide +kernel) start1.code123
theorem od1.code124 : (Jvm.Cond.code (⟨"Sequencepoint$Machine", "isSecondAhead", "()Z"⟩ : Jvm.MethodName) prog_3_method_10_code 2 (some .boolean)).before args0 about = true := od1.code_of (by decide +kernel) start1.code124
theorem od1.code125 : (Jvm.Cond.code (⟨"Sequencepoint$Node", "firstToEvaluate", "()LSequencepoint$Node;"⟩ : Jvm.MethodName) prog_5_method_12_code 1 (some (.object "Sequencepoint$Node"))).before args0 about = true := od1.code_of (by decide +kernel) start1.code125
theorem od1.code126 : (Jvm.Cond.code (⟨"Sequencepoint$Node", "takesPlace", "()Z"⟩ : Jvm.MethodName) prog_5_method_9_code 1 (some .boolean)).before args0 about = true := od1.code_of (by decide +kernel) start1.code126
theorem od1.code127 : (Jvm.Cond.code (⟨"Sequencepoint$Node", "secondToEvaluate", "(J)LSequencepoint$Node;"⟩ : Jvm.MethodName) prog_5_method_13_code 3 (some (.object "Sequencepoint$Node"))).before args0 about = true := od1.code_of (by decide +kernel) start1.code127
theorem od1.code128 : (Jvm.Cond.code (⟨"Sequencepoint$Node", "decides", "(J)Z"⟩ : Jvm.MethodName) prog_5_method_14_code 3 (some .boolean)).before args0 about = true := od1.code_of (by decide +kernel) start1.code128
theorem od1.code129 : (Jvm.Cond.code (⟨"Sequencepoint$Memory", "isClash", "(II)Z"⟩ : Jvm.MethodName) prog_4_method_18_code 5 (some .boolean)).before args0 about = true := od1.code_of (by decide +kernel) start1.code129
theorem od1.code130 : (Jvm.Cond.code (⟨"Sequencepoint$Machine", "fail", "(CLSequencepoint$Node;)J"⟩ : Jvm.MethodName) prog_3_method_6_code 3 (some .long)).before args0 about = true := od1.code_of (by decide +kernel) start1.code130
theorem od1.code131 : (Jvm.Cond.code (⟨"Sequencepoint$Machine", "enter", "(LSequencepoint$Node;JJ)J"⟩ : Jvm.MethodName) prog_3_method_9_code 9 (some .long)).before args0 about = true := od1.code_of (by decide +kernel) start1.code131
theorem od1.code132 : (Jvm.Cond.code (⟨"Sequencepoint$Memory", "lives", "()I"⟩ : Jvm.MethodName) prog_4_method_3_code 1 (some .int)).before args0 about = true := od1.code_of (by decide +kernel) start1.code132
theorem od1.code133 : (Jvm.Cond.code (⟨"Sequencepoint$Machine", "bringWith", "(LSequencepoint$Variable;J)V"⟩ : Jvm.MethodName) prog_3_method_25_code 4 none).before args0 about = true := od1.code_of (by decide +kernel) start1.code133
theorem od1.code134 : (Jvm.Cond.code (⟨"Sequencepoint$Machine", "pointerTo", "(LSequencepoint$Variable;)J"⟩ : Jvm.MethodName) prog_3_method_23_code 3 (some .long)).before args0 about = true := od1.code_of (by decide +kernel) start1.code134
theorem od1.code135 : (Jvm.Cond.code (⟨"Sequencepoint$Memory", "pointerTo", "(I)J"⟩ : Jvm.MethodName) prog_4_method_8_code 2 (some .long)).before args0 about = true := od1.code_of (by decide +kernel) start1.code135
theorem od1.code136 : (Jvm.Cond.code (⟨"Sequencepoint$Machine", "converted", "(JI)J"⟩ : Jvm.MethodName) prog_3_method_17_code 3 (some .long)).before args0 about = true := od1.code_of (by decide +kernel) start1.code136
theorem od1.code137 : (Jvm.Cond.code (⟨"Sequencepoint$Memory", "write", "(JJ)V"⟩ : Jvm.MethodName) prog_4_method_14_code 5 none).before args0 about = true := od1.code_of (by decide +kernel) start1.code137
theorem od1.code138 : (Jvm.Cond.code (⟨"Sequencepoint$Memory", "isCell", "(J)Z"⟩ : Jvm.MethodName) prog_4_method_7_code 3 (some .boolean)).before args0 about = true := od1.code_of (by decide +kernel) start1.code138
theorem od1.code139 : (Jvm.Cond.code (⟨"Sequencepoint$Memory", "log", "(IZ)V"⟩ : Jvm.MethodName) prog_4_method_15_code 3 none).before args0 about = true := od1.code_of (by decide +kernel) start1.code139
theorem od1.code140 : (Jvm.Cond.code (⟨"Sequencepoint$Memory", "endSince", "(I)V"⟩ : Jvm.MethodName) prog_4_method_6_code 3 none).before args0 about = true := od1.code_of (by decide +kernel) start1.code140
theorem od1.code141 : (Jvm.Cond.code (⟨"Sequencepoint$Memory", "forgetSince", "(I)V"⟩ : Jvm.MethodName) prog_4_method_17_code 2 none).before args0 about = true := od1.code_of (by decide +kernel) start1.code141
theorem od1.code142 : (Jvm.Cond.code (⟨"Sequencepoint$Machine", "finishAtPlace", "(LSequencepoint$Node;JJI)J"⟩ : Jvm.MethodName) prog_3_method_15_code 17 (some .long)).before args0 about = true := od1.code_of (by decide +kernel) start1.code142
theorem od1.code143 : (Jvm.Cond.code (⟨"Sequencepoint$Memory", "isLiving", "(J)Z"⟩ : Jvm.MethodName) prog_4_method_10_code 4 (some .boolean)).before args0 about = true := od1.code_of (by decide +kernel) start1.code143
theorem od1.code144 : (Jvm.Cond.code (⟨"Sequencepoint$Memory", "lifeOf", "(J)I"⟩ : Jvm.MethodName) prog_4_method_9_code 3 (some .int)).before args0 about = true := od1.code_of (by decide +kernel) start1.code144
theorem od1.code145 : (Jvm.Cond.code (⟨"Sequencepoint$Memory", "isWrittenSince", "(IJ)Z"⟩ : Jvm.MethodName) prog_4_method_19_code 5 (some .boolean)).before args0 about = true := od1.code_of (by decide +kernel) start1.code145
theorem od1.code146 : (Jvm.Cond.code (⟨"Sequencepoint$Machine", "write", "(LSequencepoint$Node;JJ)J"⟩ : Jvm.MethodName) prog_3_method_20_code 7 (some .long)).before args0 about = true := od1.code_of (by decide +kernel) start1.code146
theorem od1.code147 : (Jvm.Cond.code (⟨"Sequencepoint$Memory", "faultOfUsing", "(JZ)C"⟩ : Jvm.MethodName) prog_4_method_11_code 6 (some .char)).before args0 about = true := od1.code_of (by decide +kernel) start1.code147
theorem od1.code148 : (Jvm.Cond.code (⟨"Sequencepoint$Machine", "read", "(LSequencepoint$Node;J)J"⟩ : Jvm.MethodName) prog_3_method_19_code 5 (some .long)).before args0 about = true := od1.code_of (by decide +kernel) start1.code148
theorem od1.code149 : (Jvm.Cond.code (⟨"Sequencepoint$Memory", "read", "(J)J"⟩ : Jvm.MethodName) prog_4_method_13_code 3 (some .long)).before args0 about = true := od1.code_of (by decide +kernel) start1.code149
theorem od1.code150 : (Jvm.Cond.code (⟨"Sequencepoint$Machine", "changed", "(LSequencepoint$Node;JJ)J"⟩ : Jvm.MethodName) prog_3_method_16_code 13 (some .long)).before args0 about = true := od1.code_of (by decide +kernel) start1.code150
theorem od1.code151 : (Jvm.Cond.code (⟨"Sequencepoint$Machine", "move", "(LSequencepoint$Node;JJ)J"⟩ : Jvm.MethodName) prog_3_method_18_code 7 (some .long)).before args0 about = true := od1.code_of (by decide +kernel) start1.code151
theorem od1.code152 : (Jvm.Cond.code (⟨"Sequencepoint$Memory", "faultOfMoving", "(JJ)C"⟩ : Jvm.MethodName) prog_4_method_12_code 8 (some .char)).before args0 about = true := od1.code_of (by decide +kernel) start1.code152
theorem od1.code153 : (Jvm.Cond.code (⟨"Sequencepoint$Numbers", "faultOf", "(CIJJ)C"⟩ : Jvm.MethodName) prog_6_method_8_code 9 (some .char)).before args0 about = true := od1.code_of (by decide +kernel) start1.code153
theorem od1.code154 : (Jvm.Cond.code (⟨"Sequencepoint$Numbers", "rawOf", "(CJJ)J"⟩ : Jvm.MethodName) prog_6_method_10_code 5 (some .long)).before args0 about = true := od1.code_of (by decide +kernel) start1.code154
theorem od1.code155 : (Jvm.Cond.code (⟨"Sequencepoint$Numbers", "resultOf", "(CIJJ)J"⟩ : Jvm.MethodName) prog_6_method_9_code 8 (some .long)).before args0 about = true := od1.code_of (by decide +kernel) start1.code155
set_option maxRecDepth 16384 in
theorem od1.codes_are_5 : tables_1_5.filter su_isCode = [Jvm.Cond.code (⟨"Sequencepoint", "repeat", "(II)I"⟩ : Jvm.MethodName) prog_1_method_19_code 5 (some .int),
    Jvm.Cond.code (⟨"Sequencepoint", "then", "(II)I"⟩ : Jvm.MethodName) prog_1_method_20_code 5 (some .int),
    Jvm.Cond.code (⟨"Sequencepoint", "block", "(I)I"⟩ : Jvm.MethodName) prog_1_method_21_code 3 (some .int),
    Jvm.Cond.code (⟨"Sequencepoint", "run", "(I)C"⟩ : Jvm.MethodName) prog_1_method_24_code 2 (some .char),
    Jvm.Cond.code (⟨"Sequencepoint", "refuseProgramWithoutStart", "()V"⟩ : Jvm.MethodName) prog_1_method_26_code 1 none,
    Jvm.Cond.code (⟨"Sequencepoint$Program", "canStart", "()Z"⟩ : Jvm.MethodName) prog_9_method_18_code 2 (some .boolean),
    Jvm.Cond.code (⟨"Sequencepoint", "refuseNegativeOrder", "(I)V"⟩ : Jvm.MethodName) prog_1_method_27_code 1 none,
    Jvm.Cond.code (⟨"Sequencepoint$Machine", "perform", "(LSequencepoint$Program;[LSequencepoint$Statement;ILSequencepoint$Outcome;)V"⟩ : Jvm.MethodName) prog_3_method_2_code 7 none,
    Jvm.Cond.code (⟨"Sequencepoint$Outcome", "clear", "()V"⟩ : Jvm.MethodName) prog_8_method_2_code 1 none,
    Jvm.Cond.code (⟨"Sequencepoint$Memory", "clear", "()V"⟩ : Jvm.MethodName) prog_4_method_2_code 1 none,
    Jvm.Cond.code (⟨"Sequencepoint$Machine", "openRow", "(I)V"⟩ : Jvm.MethodName) prog_3_method_21_code 4 none,
    Jvm.Cond.code (⟨"Sequencepoint$Machine", "bring", "(LSequencepoint$Variable;)V"⟩ : Jvm.MethodName) prog_3_method_24_code 3 none,
    Jvm.Cond.code (⟨"Sequencepoint$Machine", "slotOf", "(LSequencepoint$Variable;)I"⟩ : Jvm.MethodName) prog_3_method_22_code 3 (some .int),
    Jvm.Cond.code (⟨"Sequencepoint$Memory", "end", "(I)V"⟩ : Jvm.MethodName) prog_4_method_5_code 2 none,
    Jvm.Cond.code (⟨"Sequencepoint$Variable", "parts", "()I"⟩ : Jvm.MethodName) prog_12_method_3_code 1 (some .int),
    Jvm.Cond.code (⟨"Sequencepoint$Memory", "bear", "(I)I"⟩ : Jvm.MethodName) prog_4_method_4_code 3 (some .int),
    Jvm.Cond.code (⟨"Sequencepoint$Machine", "bodyOf", "(I)LSequencepoint$Statement;"⟩ : Jvm.MethodName) prog_3_method_3_code 2 (some (.object "Sequencepoint$Statement")),
    Jvm.Cond.code (⟨"Sequencepoint$Machine", "execute", "(LSequencepoint$Statement;)V"⟩ : Jvm.MethodName) prog_3_method_7_code 3 none,
    Jvm.Cond.code (⟨"Sequencepoint$Machine", "takeStep", "()Z"⟩ : Jvm.MethodName) prog_3_method_5_code 1 (some .boolean),
    Jvm.Cond.code (⟨"Sequencepoint$Machine", "isOver", "()Z"⟩ : Jvm.MethodName) prog_3_method_4_code 1 (some .boolean),
    Jvm.Cond.code (⟨"Sequencepoint$Machine", "evaluate", "(LSequencepoint$Node;)J"⟩ : Jvm.MethodName) prog_3_method_8_code 8 (some .long),
    Jvm.Cond.code (⟨"Sequencepoint$Memory", "logged", "()I"⟩ : Jvm.MethodName) prog_4_method_16_code 1 (some .int),
    Jvm.Cond.code (⟨"Sequencepoint$Node", "isChosen", "()Z"⟩ : Jvm.MethodName) prog_5_method_11_code 1 (some .boolean),
    Jvm.Cond.code (⟨"Sequencepoint$Node", "isUnsequenced", "()Z"⟩ : Jvm.MethodName) prog_5_method_10_code 1 (some .boolean),
    Jvm.Cond.code (⟨"Sequencepoint$Machine", "isSecondAhead", "()Z"⟩ : Jvm.MethodName) prog_3_method_10_code 2 (some .boolean),
    Jvm.Cond.code (⟨"Sequencepoint$Node", "firstToEvaluate", "()LSequencepoint$Node;"⟩ : Jvm.MethodName) prog_5_method_12_code 1 (some (.object "Sequencepoint$Node")),
    Jvm.Cond.code (⟨"Sequencepoint$Node", "takesPlace", "()Z"⟩ : Jvm.MethodName) prog_5_method_9_code 1 (some .boolean),
    Jvm.Cond.code (⟨"Sequencepoint$Node", "secondToEvaluate", "(J)LSequencepoint$Node;"⟩ : Jvm.MethodName) prog_5_method_13_code 3 (some (.object "Sequencepoint$Node")),
    Jvm.Cond.code (⟨"Sequencepoint$Node", "decides", "(J)Z"⟩ : Jvm.MethodName) prog_5_method_14_code 3 (some .boolean),
    Jvm.Cond.code (⟨"Sequencepoint$Memory", "isClash", "(II)Z"⟩ : Jvm.MethodName) prog_4_method_18_code 5 (some .boolean),
    Jvm.Cond.code (⟨"Sequencepoint$Machine", "fail", "(CLSequencepoint$Node;)J"⟩ : Jvm.MethodName) prog_3_method_6_code 3 (some .long),
    Jvm.Cond.code (⟨"Sequencepoint$Machine", "enter", "(LSequencepoint$Node;JJ)J"⟩ : Jvm.MethodName) prog_3_method_9_code 9 (some .long),
    Jvm.Cond.code (⟨"Sequencepoint$Memory", "lives", "()I"⟩ : Jvm.MethodName) prog_4_method_3_code 1 (some .int),
    Jvm.Cond.code (⟨"Sequencepoint$Machine", "bringWith", "(LSequencepoint$Variable;J)V"⟩ : Jvm.MethodName) prog_3_method_25_code 4 none,
    Jvm.Cond.code (⟨"Sequencepoint$Machine", "pointerTo", "(LSequencepoint$Variable;)J"⟩ : Jvm.MethodName) prog_3_method_23_code 3 (some .long),
    Jvm.Cond.code (⟨"Sequencepoint$Memory", "pointerTo", "(I)J"⟩ : Jvm.MethodName) prog_4_method_8_code 2 (some .long),
    Jvm.Cond.code (⟨"Sequencepoint$Machine", "converted", "(JI)J"⟩ : Jvm.MethodName) prog_3_method_17_code 3 (some .long),
    Jvm.Cond.code (⟨"Sequencepoint$Memory", "write", "(JJ)V"⟩ : Jvm.MethodName) prog_4_method_14_code 5 none,
    Jvm.Cond.code (⟨"Sequencepoint$Memory", "isCell", "(J)Z"⟩ : Jvm.MethodName) prog_4_method_7_code 3 (some .boolean),
    Jvm.Cond.code (⟨"Sequencepoint$Memory", "log", "(IZ)V"⟩ : Jvm.MethodName) prog_4_method_15_code 3 none,
    Jvm.Cond.code (⟨"Sequencepoint$Memory", "endSince", "(I)V"⟩ : Jvm.MethodName) prog_4_method_6_code 3 none,
    Jvm.Cond.code (⟨"Sequencepoint$Memory", "forgetSince", "(I)V"⟩ : Jvm.MethodName) prog_4_method_17_code 2 none,
    Jvm.Cond.code (⟨"Sequencepoint$Machine", "finishAtPlace", "(LSequencepoint$Node;JJI)J"⟩ : Jvm.MethodName) prog_3_method_15_code 17 (some .long),
    Jvm.Cond.code (⟨"Sequencepoint$Memory", "isLiving", "(J)Z"⟩ : Jvm.MethodName) prog_4_method_10_code 4 (some .boolean),
    Jvm.Cond.code (⟨"Sequencepoint$Memory", "lifeOf", "(J)I"⟩ : Jvm.MethodName) prog_4_method_9_code 3 (some .int),
    Jvm.Cond.code (⟨"Sequencepoint$Memory", "isWrittenSince", "(IJ)Z"⟩ : Jvm.MethodName) prog_4_method_19_code 5 (some .boolean),
    Jvm.Cond.code (⟨"Sequencepoint$Machine", "write", "(LSequencepoint$Node;JJ)J"⟩ : Jvm.MethodName) prog_3_method_20_code 7 (some .long),
    Jvm.Cond.code (⟨"Sequencepoint$Memory", "faultOfUsing", "(JZ)C"⟩ : Jvm.MethodName) prog_4_method_11_code 6 (some .char),
    Jvm.Cond.code (⟨"Sequencepoint$Machine", "read", "(LSequencepoint$Node;J)J"⟩ : Jvm.MethodName) prog_3_method_19_code 5 (some .long),
    Jvm.Cond.code (⟨"Sequencepoint$Memory", "read", "(J)J"⟩ : Jvm.MethodName) prog_4_method_13_code 3 (some .long),
    Jvm.Cond.code (⟨"Sequencepoint$Machine", "changed", "(LSequencepoint$Node;JJ)J"⟩ : Jvm.MethodName) prog_3_method_16_code 13 (some .long),
    Jvm.Cond.code (⟨"Sequencepoint$Machine", "move", "(LSequencepoint$Node;JJ)J"⟩ : Jvm.MethodName) prog_3_method_18_code 7 (some .long),
    Jvm.Cond.code (⟨"Sequencepoint$Memory", "faultOfMoving", "(JJ)C"⟩ : Jvm.MethodName) prog_4_method_12_code 8 (some .char),
    Jvm.Cond.code (⟨"Sequencepoint$Numbers", "faultOf", "(CIJJ)C"⟩ : Jvm.MethodName) prog_6_method_8_code 9 (some .char),
    Jvm.Cond.code (⟨"Sequencepoint$Numbers", "rawOf", "(CJJ)J"⟩ : Jvm.MethodName) prog_6_method_10_code 5 (some .long),
    Jvm.Cond.code (⟨"Sequencepoint$Numbers", "resultOf", "(CIJJ)J"⟩ : Jvm.MethodName) prog_6_method_9_code 8 (some .long)] := by
  first
  | rfl
  | simp only [tables_1_5, List.filter, su_isCode]
set_option maxRecDepth 16384 in
theorem od1.codes_hold_5 : ∀ c ∈ tables_1_5.filter su_isCode, c.before args0 about = true := by
  rw [codes_are_5]
  exact List.forall_mem_cons.mpr ⟨code100, List.forall_mem_cons.mpr ⟨code101, List.forall_mem_cons.mpr ⟨code102, List.forall_mem_cons.mpr ⟨code103, List.forall_mem_cons.mpr ⟨code104, List.forall_mem_cons.mpr ⟨code105, List.forall_mem_cons.mpr ⟨code106, List.forall_mem_cons.mpr ⟨code107, List.forall_mem_cons.mpr ⟨code108, List.forall_mem_cons.mpr ⟨code109, List.forall_mem_cons.mpr ⟨code110, List.forall_mem_cons.mpr ⟨code111, List.forall_mem_cons.mpr ⟨code112, List.forall_mem_cons.mpr ⟨code113, List.forall_mem_cons.mpr ⟨code114, List.forall_mem_cons.mpr ⟨code115, List.forall_mem_cons.mpr ⟨code116, List.forall_mem_cons.mpr ⟨code117, List.forall_mem_cons.mpr ⟨code118, List.forall_mem_cons.mpr ⟨code119, List.forall_mem_cons.mpr ⟨code120, List.forall_mem_cons.mpr ⟨code121, List.forall_mem_cons.mpr ⟨code122, List.forall_mem_cons.mpr ⟨code123, List.forall_mem_cons.mpr ⟨code124, List.forall_mem_cons.mpr ⟨code125, List.forall_mem_cons.mpr ⟨code126, List.forall_mem_cons.mpr ⟨code127, List.forall_mem_cons.mpr ⟨code128, List.forall_mem_cons.mpr ⟨code129, List.forall_mem_cons.mpr ⟨code130, List.forall_mem_cons.mpr ⟨code131, List.forall_mem_cons.mpr ⟨code132, List.forall_mem_cons.mpr ⟨code133, List.forall_mem_cons.mpr ⟨code134, List.forall_mem_cons.mpr ⟨code135, List.forall_mem_cons.mpr ⟨code136, List.forall_mem_cons.mpr ⟨code137, List.forall_mem_cons.mpr ⟨code138, List.forall_mem_cons.mpr ⟨code139, List.forall_mem_cons.mpr ⟨code140, List.forall_mem_cons.mpr ⟨code141, List.forall_mem_cons.mpr ⟨code142, List.forall_mem_cons.mpr ⟨code143, List.forall_mem_cons.mpr ⟨code144, List.forall_mem_cons.mpr ⟨code145, List.forall_mem_cons.mpr ⟨code146, List.forall_mem_cons.mpr ⟨code147, List.forall_mem_cons.mpr ⟨code148, List.forall_mem_cons.mpr ⟨code149, List.forall_mem_cons.mpr ⟨code150, List.forall_mem_cons.mpr ⟨code151, List.forall_mem_cons.mpr ⟨code152, List.forall_mem_cons.mpr ⟨code153, List.forall_mem_cons.mpr ⟨code154, List.forall_mem_cons.mpr ⟨code155, List.forall_mem_nil _⟩⟩⟩⟩⟩⟩⟩⟩⟩⟩⟩⟩⟩⟩⟩⟩⟩⟩⟩⟩⟩⟩⟩⟩⟩⟩⟩⟩⟩⟩⟩⟩⟩⟩⟩⟩⟩⟩⟩⟩⟩⟩⟩⟩⟩⟩⟩⟩⟩⟩⟩⟩⟩⟩⟩⟩
set_option maxRecDepth 100000 in
theorem od1.others_5_0 : (tables_1_5.take 120).all od1.chk = true := by decide +kernel
set_option maxRecDepth 100000 in
theorem od1.others_5_1 : (tables_1_5.drop 120).all od1.chk = true := by decide +kernel
theorem od1.others_hold_5 : tables_1_5.all (fun c => su_isCode c || c.before args0 about) = true := od1.from_chk start1.words_5 (od1.su_all_split _ 120 tables_1_5 od1.others_5_0 od1.others_5_1)
set_option maxRecDepth 16384 in
theorem od1.words_5 : ∀ c ∈ tables_1_5, c.before args0 about = true := fun c h => su_words others_hold_5 codes_hold_5 c h
theorem od1.code156 : (Jvm.Cond.code (⟨"Sequencepoint$Node", "isReckoned", "()Z"⟩ : Jvm.MethodName) prog_5_method_15_code 1 (some .boolean)).before args0 about = true := od1.code_of (by decide +kernel) start1.code156
theorem od1.code157 : (Jvm.Cond.code (⟨"Sequencepoint$Machine", "reckon", "(LSequencepoint$Node;JJ)J"⟩ : Jvm.MethodName) prog_3_method_11_code 7 (some .long)).before args0 about = true := od1.code_of (by decide +kernel) start1.code157
theorem od1.code158 : (Jvm.Cond.code (⟨"Sequencepoint$Node", "faultOf", "(JJ)C"⟩ : Jvm.MethodName) prog_5_method_18_code 6 (some .char)).before args0 about = true := od1.code_of (by decide +kernel) start1.code158
theorem od1.code159 : (Jvm.Cond.code (⟨"Sequencepoint$Node", "operandType", "()I"⟩ : Jvm.MethodName) prog_5_method_17_code 1 (some .int)).before args0 about = true := od1.code_of (by decide +kernel) start1.code159
theorem od1.code160 : (Jvm.Cond.code (⟨"Sequencepoint$Node", "isShift", "()Z"⟩ : Jvm.MethodName) prog_5_method_16_code 1 (some .boolean)).before args0 about = true := od1.code_of (by decide +kernel) start1.code160
theorem od1.code161 : (Jvm.Cond.code (⟨"Sequencepoint$Node", "resultOf", "(JJ)J"⟩ : Jvm.MethodName) prog_5_method_19_code 6 (some .long)).before args0 about = true := od1.code_of (by decide +kernel) start1.code161
theorem od1.code162 : (Jvm.Cond.code (⟨"Sequencepoint$Machine", "finish", "(LSequencepoint$Node;JJ)J"⟩ : Jvm.MethodName) prog_3_method_12_code 6 (some .long)).before args0 about = true := od1.code_of (by decide +kernel) start1.code162
theorem od1.code163 : (Jvm.Cond.code (⟨"Sequencepoint$Machine", "finishName", "(LSequencepoint$Node;J)J"⟩ : Jvm.MethodName) prog_3_method_13_code 4 (some .long)).before args0 about = true := od1.code_of (by decide +kernel) start1.code163
theorem od1.code164 : (Jvm.Cond.code (⟨"Sequencepoint$Machine", "finishBinary", "(LSequencepoint$Node;JJ)J"⟩ : Jvm.MethodName) prog_3_method_14_code 6 (some .long)).before args0 about = true := od1.code_of (by decide +kernel) start1.code164
theorem od1.code165 : (Jvm.Cond.code (⟨"Sequencepoint$Machine", "print", "(J)V"⟩ : Jvm.MethodName) prog_3_method_26_code 9 none).before args0 about = true := od1.code_of (by decide +kernel) start1.code165
theorem od1.code166 : (Jvm.Cond.code (⟨"Sequencepoint$Outcome", "print", "(C)V"⟩ : Jvm.MethodName) prog_8_method_4_code 2 none).before args0 about = true := od1.code_of (by decide +kernel) start1.code166
theorem od1.code167 : (Jvm.Cond.code (⟨"java/lang/Math", "abs", "(J)J"⟩ : Jvm.MethodName) prog_36_method_61_code 2 (some .long)).before args0 about = true := od1.code_of (by decide +kernel) start1.code167
theorem od1.code168 : (Jvm.Cond.code (⟨"Sequencepoint", "runOptimised", "(I)C"⟩ : Jvm.MethodName) prog_1_method_25_code 2 (some .char)).before args0 about = true := od1.code_of (by decide +kernel) start1.code168
theorem od1.code169 : (Jvm.Cond.code (⟨"Sequencepoint$Optimiser", "improve", "(LSequencepoint$Program;)V"⟩ : Jvm.MethodName) prog_7_method_2_code 3 none).before args0 about = true := od1.code_of (by decide +kernel) start1.code169
theorem od1.code170 : (Jvm.Cond.code (⟨"Sequencepoint$Optimiser", "markUsed", "(LSequencepoint$Program;)V"⟩ : Jvm.MethodName) prog_7_method_3_code 4 none).before args0 about = true := od1.code_of (by decide +kernel) start1.code170
theorem od1.code171 : (Jvm.Cond.code (⟨"Sequencepoint$Optimiser", "useStatement", "(LSequencepoint$Statement;)V"⟩ : Jvm.MethodName) prog_7_method_5_code 2 none).before args0 about = true := od1.code_of (by decide +kernel) start1.code171
theorem od1.code172 : (Jvm.Cond.code (⟨"Sequencepoint$Optimiser", "use", "(LSequencepoint$Node;)V"⟩ : Jvm.MethodName) prog_7_method_4_code 2 none).before args0 about = true := od1.code_of (by decide +kernel) start1.code172
theorem od1.code173 : (Jvm.Cond.code (⟨"Sequencepoint$Optimiser", "copyOf", "(LSequencepoint$Node;LSequencepoint$Node;)LSequencepoint$Node;"⟩ : Jvm.MethodName) prog_7_method_6_code 3 (some (.object "Sequencepoint$Node"))).before args0 about = true := od1.code_of (by decide +kernel) start1.code173
theorem od1.code174 : (Jvm.Cond.code (⟨"Sequencepoint$Node", "copyFrom", "(LSequencepoint$Node;)V"⟩ : Jvm.MethodName) prog_5_method_2_code 2 none).before args0 about = true := od1.code_of (by decide +kernel) start1.code174
theorem od1.code175 : (Jvm.Cond.code (⟨"Sequencepoint$Optimiser", "folded", "(LSequencepoint$Node;)LSequencepoint$Node;"⟩ : Jvm.MethodName) prog_7_method_8_code 2 (some (.object "Sequencepoint$Node"))).before args0 about = true := od1.code_of (by decide +kernel) start1.code175
theorem od1.code176 : (Jvm.Cond.code (⟨"Sequencepoint$Optimiser", "reduce", "(LSequencepoint$Node;)LSequencepoint$Node;"⟩ : Jvm.MethodName) prog_7_method_10_code 6 (some (.object "Sequencepoint$Node"))).before args0 about = true := od1.code_of (by decide +kernel) start1.code176
theorem od1.code177 : (Jvm.Cond.code (⟨"Sequencepoint$Node", "isTold", "(LSequencepoint$Node;)Z"⟩ : Jvm.MethodName) prog_5_method_7_code 1 (some .boolean)).before args0 about = true := od1.code_of (by decide +kernel) start1.code177
theorem od1.code178 : (Jvm.Cond.code (⟨"Sequencepoint$Optimiser", "take", "(LSequencepoint$Node;LSequencepoint$Node;)LSequencepoint$Node;"⟩ : Jvm.MethodName) prog_7_method_12_code 3 (some (.object "Sequencepoint$Node"))).before args0 about = true := od1.code_of (by decide +kernel) start1.code178
theorem od1.code179 : (Jvm.Cond.code (⟨"Sequencepoint$Optimiser", "tell", "(LSequencepoint$Node;J)LSequencepoint$Node;"⟩ : Jvm.MethodName) prog_7_method_11_code 4 (some (.object "Sequencepoint$Node"))).before args0 about = true := od1.code_of (by decide +kernel) start1.code179
theorem od1.code180 : (Jvm.Cond.code (⟨"Sequencepoint$Optimiser", "copyOfStatement", "(LSequencepoint$Statement;LSequencepoint$Statement;)LSequencepoint$Statement;"⟩ : Jvm.MethodName) prog_7_method_7_code 3 (some (.object "Sequencepoint$Statement"))).before args0 about = true := od1.code_of (by decide +kernel) start1.code180
theorem od1.code181 : (Jvm.Cond.code (⟨"Sequencepoint$Optimiser", "shortened", "(LSequencepoint$Statement;)LSequencepoint$Statement;"⟩ : Jvm.MethodName) prog_7_method_9_code 3 (some (.object "Sequencepoint$Statement"))).before args0 about = true := od1.code_of (by decide +kernel) start1.code181
theorem od1.code182 : (Jvm.Cond.code (⟨"Sequencepoint$Optimiser", "reduceStatement", "(LSequencepoint$Statement;)LSequencepoint$Statement;"⟩ : Jvm.MethodName) prog_7_method_13_code 4 (some (.object "Sequencepoint$Statement"))).before args0 about = true := od1.code_of (by decide +kernel) start1.code182
theorem od1.code183 : (Jvm.Cond.code (⟨"Sequencepoint$Optimiser", "shorten", "(LSequencepoint$Statement;)LSequencepoint$Statement;"⟩ : Jvm.MethodName) prog_7_method_14_code 2 (some (.object "Sequencepoint$Statement"))).before args0 about = true := od1.code_of (by decide +kernel) start1.code183
theorem od1.code184 : (Jvm.Cond.code (⟨"Sequencepoint", "kindOf", "()C"⟩ : Jvm.MethodName) prog_1_method_28_code 1 (some .char)).before args0 about = true := od1.code_of (by decide +kernel) start1.code184
theorem od1.code185 : (Jvm.Cond.code (⟨"Sequencepoint", "refuseRunWithMeaning", "()V"⟩ : Jvm.MethodName) prog_1_method_30_code 1 none).before args0 about = true := od1.code_of (by decide +kernel) start1.code185
theorem od1.code186 : (Jvm.Cond.code (⟨"java/util/NoSuchElementException", "<init>", "(Ljava/lang/String;)V"⟩ : Jvm.MethodName) prog_56_method_4_code 2 none).before args0 about = true := od1.code_of (by decide +kernel) start1.code186
theorem od1.code187 : (Jvm.Cond.code (⟨"Sequencepoint", "placeOf", "()I"⟩ : Jvm.MethodName) prog_1_method_29_code 1 (some .int)).before args0 about = true := od1.code_of (by decide +kernel) start1.code187
theorem od1.code188 : (Jvm.Cond.code (⟨"Sequencepoint", "printedAt", "(I)C"⟩ : Jvm.MethodName) prog_1_method_34_code 2 (some .char)).before args0 about = true := od1.code_of (by decide +kernel) start1.code188
theorem od1.code189 : (Jvm.Cond.code (⟨"Sequencepoint", "behaviours", "()I"⟩ : Jvm.MethodName) prog_1_method_35_code 3 (some .int)).before args0 about = true := od1.code_of (by decide +kernel) start1.code189
theorem od1.code190 : (Jvm.Cond.code (⟨"Sequencepoint", "gatherOutcomes", "()I"⟩ : Jvm.MethodName) prog_1_method_42_code 3 (some .int)).before args0 about = true := od1.code_of (by decide +kernel) start1.code190
theorem od1.code191 : (Jvm.Cond.code (⟨"Sequencepoint$Outcome", "copyFrom", "(LSequencepoint$Outcome;)V"⟩ : Jvm.MethodName) prog_8_method_3_code 3 none).before args0 about = true := od1.code_of (by decide +kernel) start1.code191
theorem od1.code192 : (Jvm.Cond.code (⟨"Sequencepoint", "isAmongFirst", "(ILSequencepoint$Outcome;)Z"⟩ : Jvm.MethodName) prog_1_method_43_code 4 (some .boolean)).before args0 about = true := od1.code_of (by decide +kernel) start1.code192
theorem od1.code193 : (Jvm.Cond.code (⟨"Sequencepoint$Outcome", "isSameBehaviour", "(LSequencepoint$Outcome;)Z"⟩ : Jvm.MethodName) prog_8_method_5_code 3 (some .boolean)).before args0 about = true := od1.code_of (by decide +kernel) start1.code193
theorem od1.code194 : (Jvm.Cond.code (⟨"Sequencepoint", "undefinedOrders", "()I"⟩ : Jvm.MethodName) prog_1_method_36_code 1 (some .int)).before args0 about = true := od1.code_of (by decide +kernel) start1.code194
theorem od1.code195 : (Jvm.Cond.code (⟨"Sequencepoint", "optimised", "()I"⟩ : Jvm.MethodName) prog_1_method_37_code 1 (some .int)).before args0 about = true := od1.code_of (by decide +kernel) start1.code195
theorem od1.code196 : (Jvm.Cond.code (⟨"Sequencepoint", "optimisedSize", "()I"⟩ : Jvm.MethodName) prog_1_method_38_code 1 (some .int)).before args0 about = true := od1.code_of (by decide +kernel) start1.code196
theorem od1.code197 : (Jvm.Cond.code (⟨"Sequencepoint", "isAsIf", "()Z"⟩ : Jvm.MethodName) prog_1_method_39_code 2 (some .boolean)).before args0 about = true := od1.code_of (by decide +kernel) start1.code197
theorem od1.code198 : (Jvm.Cond.code (⟨"Sequencepoint", "definedShare", "()F"⟩ : Jvm.MethodName) prog_1_method_40_code 1 (some .float)).before args0 about = true := od1.code_of (by decide +kernel) start1.code198
set_option maxRecDepth 16384 in
theorem od1.codes_are_6 : tables_1_6.filter su_isCode = [Jvm.Cond.code (⟨"Sequencepoint$Node", "isReckoned", "()Z"⟩ : Jvm.MethodName) prog_5_method_15_code 1 (some .boolean),
    Jvm.Cond.code (⟨"Sequencepoint$Machine", "reckon", "(LSequencepoint$Node;JJ)J"⟩ : Jvm.MethodName) prog_3_method_11_code 7 (some .long),
    Jvm.Cond.code (⟨"Sequencepoint$Node", "faultOf", "(JJ)C"⟩ : Jvm.MethodName) prog_5_method_18_code 6 (some .char),
    Jvm.Cond.code (⟨"Sequencepoint$Node", "operandType", "()I"⟩ : Jvm.MethodName) prog_5_method_17_code 1 (some .int),
    Jvm.Cond.code (⟨"Sequencepoint$Node", "isShift", "()Z"⟩ : Jvm.MethodName) prog_5_method_16_code 1 (some .boolean),
    Jvm.Cond.code (⟨"Sequencepoint$Node", "resultOf", "(JJ)J"⟩ : Jvm.MethodName) prog_5_method_19_code 6 (some .long),
    Jvm.Cond.code (⟨"Sequencepoint$Machine", "finish", "(LSequencepoint$Node;JJ)J"⟩ : Jvm.MethodName) prog_3_method_12_code 6 (some .long),
    Jvm.Cond.code (⟨"Sequencepoint$Machine", "finishName", "(LSequencepoint$Node;J)J"⟩ : Jvm.MethodName) prog_3_method_13_code 4 (some .long),
    Jvm.Cond.code (⟨"Sequencepoint$Machine", "finishBinary", "(LSequencepoint$Node;JJ)J"⟩ : Jvm.MethodName) prog_3_method_14_code 6 (some .long),
    Jvm.Cond.code (⟨"Sequencepoint$Machine", "print", "(J)V"⟩ : Jvm.MethodName) prog_3_method_26_code 9 none,
    Jvm.Cond.code (⟨"Sequencepoint$Outcome", "print", "(C)V"⟩ : Jvm.MethodName) prog_8_method_4_code 2 none,
    Jvm.Cond.code (⟨"java/lang/Math", "abs", "(J)J"⟩ : Jvm.MethodName) prog_36_method_61_code 2 (some .long),
    Jvm.Cond.code (⟨"Sequencepoint", "runOptimised", "(I)C"⟩ : Jvm.MethodName) prog_1_method_25_code 2 (some .char),
    Jvm.Cond.code (⟨"Sequencepoint$Optimiser", "improve", "(LSequencepoint$Program;)V"⟩ : Jvm.MethodName) prog_7_method_2_code 3 none,
    Jvm.Cond.code (⟨"Sequencepoint$Optimiser", "markUsed", "(LSequencepoint$Program;)V"⟩ : Jvm.MethodName) prog_7_method_3_code 4 none,
    Jvm.Cond.code (⟨"Sequencepoint$Optimiser", "useStatement", "(LSequencepoint$Statement;)V"⟩ : Jvm.MethodName) prog_7_method_5_code 2 none,
    Jvm.Cond.code (⟨"Sequencepoint$Optimiser", "use", "(LSequencepoint$Node;)V"⟩ : Jvm.MethodName) prog_7_method_4_code 2 none,
    Jvm.Cond.code (⟨"Sequencepoint$Optimiser", "copyOf", "(LSequencepoint$Node;LSequencepoint$Node;)LSequencepoint$Node;"⟩ : Jvm.MethodName) prog_7_method_6_code 3 (some (.object "Sequencepoint$Node")),
    Jvm.Cond.code (⟨"Sequencepoint$Node", "copyFrom", "(LSequencepoint$Node;)V"⟩ : Jvm.MethodName) prog_5_method_2_code 2 none,
    Jvm.Cond.code (⟨"Sequencepoint$Optimiser", "folded", "(LSequencepoint$Node;)LSequencepoint$Node;"⟩ : Jvm.MethodName) prog_7_method_8_code 2 (some (.object "Sequencepoint$Node")),
    Jvm.Cond.code (⟨"Sequencepoint$Optimiser", "reduce", "(LSequencepoint$Node;)LSequencepoint$Node;"⟩ : Jvm.MethodName) prog_7_method_10_code 6 (some (.object "Sequencepoint$Node")),
    Jvm.Cond.code (⟨"Sequencepoint$Node", "isTold", "(LSequencepoint$Node;)Z"⟩ : Jvm.MethodName) prog_5_method_7_code 1 (some .boolean),
    Jvm.Cond.code (⟨"Sequencepoint$Optimiser", "take", "(LSequencepoint$Node;LSequencepoint$Node;)LSequencepoint$Node;"⟩ : Jvm.MethodName) prog_7_method_12_code 3 (some (.object "Sequencepoint$Node")),
    Jvm.Cond.code (⟨"Sequencepoint$Optimiser", "tell", "(LSequencepoint$Node;J)LSequencepoint$Node;"⟩ : Jvm.MethodName) prog_7_method_11_code 4 (some (.object "Sequencepoint$Node")),
    Jvm.Cond.code (⟨"Sequencepoint$Optimiser", "copyOfStatement", "(LSequencepoint$Statement;LSequencepoint$Statement;)LSequencepoint$Statement;"⟩ : Jvm.MethodName) prog_7_method_7_code 3 (some (.object "Sequencepoint$Statement")),
    Jvm.Cond.code (⟨"Sequencepoint$Optimiser", "shortened", "(LSequencepoint$Statement;)LSequencepoint$Statement;"⟩ : Jvm.MethodName) prog_7_method_9_code 3 (some (.object "Sequencepoint$Statement")),
    Jvm.Cond.code (⟨"Sequencepoint$Optimiser", "reduceStatement", "(LSequencepoint$Statement;)LSequencepoint$Statement;"⟩ : Jvm.MethodName) prog_7_method_13_code 4 (some (.object "Sequencepoint$Statement")),
    Jvm.Cond.code (⟨"Sequencepoint$Optimiser", "shorten", "(LSequencepoint$Statement;)LSequencepoint$Statement;"⟩ : Jvm.MethodName) prog_7_method_14_code 2 (some (.object "Sequencepoint$Statement")),
    Jvm.Cond.code (⟨"Sequencepoint", "kindOf", "()C"⟩ : Jvm.MethodName) prog_1_method_28_code 1 (some .char),
    Jvm.Cond.code (⟨"Sequencepoint", "refuseRunWithMeaning", "()V"⟩ : Jvm.MethodName) prog_1_method_30_code 1 none,
    Jvm.Cond.code (⟨"java/util/NoSuchElementException", "<init>", "(Ljava/lang/String;)V"⟩ : Jvm.MethodName) prog_56_method_4_code 2 none,
    Jvm.Cond.code (⟨"Sequencepoint", "placeOf", "()I"⟩ : Jvm.MethodName) prog_1_method_29_code 1 (some .int),
    Jvm.Cond.code (⟨"Sequencepoint", "printedAt", "(I)C"⟩ : Jvm.MethodName) prog_1_method_34_code 2 (some .char),
    Jvm.Cond.code (⟨"Sequencepoint", "behaviours", "()I"⟩ : Jvm.MethodName) prog_1_method_35_code 3 (some .int),
    Jvm.Cond.code (⟨"Sequencepoint", "gatherOutcomes", "()I"⟩ : Jvm.MethodName) prog_1_method_42_code 3 (some .int),
    Jvm.Cond.code (⟨"Sequencepoint$Outcome", "copyFrom", "(LSequencepoint$Outcome;)V"⟩ : Jvm.MethodName) prog_8_method_3_code 3 none,
    Jvm.Cond.code (⟨"Sequencepoint", "isAmongFirst", "(ILSequencepoint$Outcome;)Z"⟩ : Jvm.MethodName) prog_1_method_43_code 4 (some .boolean),
    Jvm.Cond.code (⟨"Sequencepoint$Outcome", "isSameBehaviour", "(LSequencepoint$Outcome;)Z"⟩ : Jvm.MethodName) prog_8_method_5_code 3 (some .boolean),
    Jvm.Cond.code (⟨"Sequencepoint", "undefinedOrders", "()I"⟩ : Jvm.MethodName) prog_1_method_36_code 1 (some .int),
    Jvm.Cond.code (⟨"Sequencepoint", "optimised", "()I"⟩ : Jvm.MethodName) prog_1_method_37_code 1 (some .int),
    Jvm.Cond.code (⟨"Sequencepoint", "optimisedSize", "()I"⟩ : Jvm.MethodName) prog_1_method_38_code 1 (some .int),
    Jvm.Cond.code (⟨"Sequencepoint", "isAsIf", "()Z"⟩ : Jvm.MethodName) prog_1_method_39_code 2 (some .boolean),
    Jvm.Cond.code (⟨"Sequencepoint", "definedShare", "()F"⟩ : Jvm.MethodName) prog_1_method_40_code 1 (some .float)] := by
  first
  | rfl
  | simp only [tables_1_6, List.filter, su_isCode]
set_option maxRecDepth 16384 in
theorem od1.codes_hold_6 : ∀ c ∈ tables_1_6.filter su_isCode, c.before args0 about = true := by
  rw [codes_are_6]
  exact List.forall_mem_cons.mpr ⟨code156, List.forall_mem_cons.mpr ⟨code157, List.forall_mem_cons.mpr ⟨code158, List.forall_mem_cons.mpr ⟨code159, List.forall_mem_cons.mpr ⟨code160, List.forall_mem_cons.mpr ⟨code161, List.forall_mem_cons.mpr ⟨code162, List.forall_mem_cons.mpr ⟨code163, List.forall_mem_cons.mpr ⟨code164, List.forall_mem_cons.mpr ⟨code165, List.forall_mem_cons.mpr ⟨code166, List.forall_mem_cons.mpr ⟨code167, List.forall_mem_cons.mpr ⟨code168, List.forall_mem_cons.mpr ⟨code169, List.forall_mem_cons.mpr ⟨code170, List.forall_mem_cons.mpr ⟨code171, List.forall_mem_cons.mpr ⟨code172, List.forall_mem_cons.mpr ⟨code173, List.forall_mem_cons.mpr ⟨code174, List.forall_mem_cons.mpr ⟨code175, List.forall_mem_cons.mpr ⟨code176, List.forall_mem_cons.mpr ⟨code177, List.forall_mem_cons.mpr ⟨code178, List.forall_mem_cons.mpr ⟨code179, List.forall_mem_cons.mpr ⟨code180, List.forall_mem_cons.mpr ⟨code181, List.forall_mem_cons.mpr ⟨code182, List.forall_mem_cons.mpr ⟨code183, List.forall_mem_cons.mpr ⟨code184, List.forall_mem_cons.mpr ⟨code185, List.forall_mem_cons.mpr ⟨code186, List.forall_mem_cons.mpr ⟨code187, List.forall_mem_cons.mpr ⟨code188, List.forall_mem_cons.mpr ⟨code189, List.forall_mem_cons.mpr ⟨code190, List.forall_mem_cons.mpr ⟨code191, List.forall_mem_cons.mpr ⟨code192, List.forall_mem_cons.mpr ⟨code193, List.forall_mem_cons.mpr ⟨code194, List.forall_mem_cons.mpr ⟨code195, List.forall_mem_cons.mpr ⟨code196, List.forall_mem_cons.mpr ⟨code197, List.forall_mem_cons.mpr ⟨code198, List.forall_mem_nil _⟩⟩⟩⟩⟩⟩⟩⟩⟩⟩⟩⟩⟩⟩⟩⟩⟩⟩⟩⟩⟩⟩⟩⟩⟩⟩⟩⟩⟩⟩⟩⟩⟩⟩⟩⟩⟩⟩⟩⟩⟩⟩⟩
set_option maxRecDepth 100000 in
theorem od1.others_6_0 : (tables_1_6.take 120).all od1.chk = true := by decide +kernel
set_option maxRecDepth 100000 in
theorem od1.others_6_1 : (tables_1_6.drop 120).all od1.chk = true := by decide +kernel
theorem od1.others_hold_6 : tables_1_6.all (fun c => su_isCode c || c.before args0 about) = true := od1.from_chk start1.words_6 (od1.su_all_split _ 120 tables_1_6 od1.others_6_0 od1.others_6_1)
set_option maxRecDepth 16384 in
theorem od1.words_6 : ∀ c ∈ tables_1_6, c.before args0 about = true := fun c h => su_words others_hold_6 codes_hold_6 c h
theorem od1.code199 : (Jvm.Cond.code (⟨"SequencepointModel", "<init>", "()V"⟩ : Jvm.MethodName) prog_14_method_1_code 1 none).before args0 about = true := od1.code_of (by decide +kernel) start1.code199
theorem od1.code200 : (Jvm.Cond.code (⟨"SequencepointModel", "thrown", "()I"⟩ : Jvm.MethodName) prog_14_method_2_code 1 (some .int)).before args0 about = true := od1.code_of (by decide +kernel) start1.code200
theorem od1.code201 : (Jvm.Cond.code (⟨"SequencepointModel", "addVariable", "(IIZ)I"⟩ : Jvm.MethodName) prog_14_method_14_code 4 (some .int)).before args0 about = true := od1.code_of (by decide +kernel) start1.code201
theorem od1.code202 : (Jvm.Cond.code (⟨"SequencepointModel", "isType", "(I)Z"⟩ : Jvm.MethodName) prog_14_method_7_code 1 (some .boolean)).before args0 about = true := od1.code_of (by decide +kernel) start1.code202
theorem od1.code203 : (Jvm.Cond.code (⟨"SequencepointModel", "isNumber", "(I)Z"⟩ : Jvm.MethodName) prog_14_method_5_code 1 (some .boolean)).before args0 about = true := od1.code_of (by decide +kernel) start1.code203
theorem od1.code204 : (Jvm.Cond.code (⟨"SequencepointModel", "isIn", "(III)Z"⟩ : Jvm.MethodName) prog_14_method_3_code 3 (some .boolean)).before args0 about = true := od1.code_of (by decide +kernel) start1.code204
theorem od1.code205 : (Jvm.Cond.code (⟨"SequencepointModel", "isPointer", "(I)Z"⟩ : Jvm.MethodName) prog_14_method_6_code 1 (some .boolean)).before args0 about = true := od1.code_of (by decide +kernel) start1.code205
theorem od1.code206 : (Jvm.Cond.code (⟨"SequencepointModel", "isThrown", "(ZI)Z"⟩ : Jvm.MethodName) prog_14_method_4_code 3 (some .boolean)).before args0 about = true := od1.code_of (by decide +kernel) start1.code206
theorem od1.code207 : (Jvm.Cond.code (⟨"SequencepointModel", "addFunction", "(III)I"⟩ : Jvm.MethodName) prog_14_method_16_code 4 (some .int)).before args0 about = true := od1.code_of (by decide +kernel) start1.code207
theorem od1.code208 : (Jvm.Cond.code (⟨"SequencepointModel", "isNoParameter", "(I)Z"⟩ : Jvm.MethodName) prog_14_method_15_code 2 (some .boolean)).before args0 about = true := od1.code_of (by decide +kernel) start1.code208
theorem od1.code209 : (Jvm.Cond.code (⟨"SequencepointModel", "setBody", "(II)I"⟩ : Jvm.MethodName) prog_14_method_17_code 9 (some .int)).before args0 about = true := od1.code_of (by decide +kernel) start1.code209
theorem od1.code210 : (Jvm.Cond.code (⟨"SequencepointModel", "number", "(II)I"⟩ : Jvm.MethodName) prog_14_method_19_code 4 (some .int)).before args0 about = true := od1.code_of (by decide +kernel) start1.code210
theorem od1.code211 : (Jvm.Cond.code (⟨"SequencepointModel", "holds", "(IJ)Z"⟩ : Jvm.MethodName) prog_14_method_10_code 5 (some .boolean)).before args0 about = true := od1.code_of (by decide +kernel) start1.code211
theorem od1.code212 : (Jvm.Cond.code (⟨"SequencepointModel", "bits", "(I)I"⟩ : Jvm.MethodName) prog_14_method_9_code 1 (some .int)).before args0 about = true := od1.code_of (by decide +kernel) start1.code212
theorem od1.code213 : (Jvm.Cond.code (⟨"SequencepointModel", "isSigned", "(I)Z"⟩ : Jvm.MethodName) prog_14_method_8_code 1 (some .boolean)).before args0 about = true := od1.code_of (by decide +kernel) start1.code213
theorem od1.code214 : (Jvm.Cond.code (⟨"SequencepointModel$Node", "<init>", "(ICI[LSequencepointModel$Node;)V"⟩ : Jvm.MethodName) prog_17_method_1_code 9 none).before args0 about = true := od1.code_of (by decide +kernel) start1.code214
theorem od1.code215 : (Jvm.Cond.code (⟨"SequencepointModel", "added", "(LSequencepointModel$Node;)I"⟩ : Jvm.MethodName) prog_14_method_18_code 6 (some .int)).before args0 about = true := od1.code_of (by decide +kernel) start1.code215
theorem od1.code216 : (Jvm.Cond.code (⟨"SequencepointModel", "name", "(I)I"⟩ : Jvm.MethodName) prog_14_method_20_code 4 (some .int)).before args0 about = true := od1.code_of (by decide +kernel) start1.code216
theorem od1.code217 : (Jvm.Cond.code (⟨"SequencepointModel", "unary", "(CI)I"⟩ : Jvm.MethodName) prog_14_method_24_code 6 (some .int)).before args0 about = true := od1.code_of (by decide +kernel) start1.code217
theorem od1.code218 : (Jvm.Cond.code (⟨"SequencepointModel", "isOneOf", "(Ljava/lang/CharSequence;C)Z"⟩ : Jvm.MethodName) prog_14_method_23_code 4 (some .boolean)).before args0 about = true := od1.code_of (by decide +kernel) start1.code218
theorem od1.code219 : (Jvm.Cond.code (⟨"java/lang/StringBuilder", "length", "()I"⟩ : Jvm.MethodName) prog_40_method_93_code 1 (some .int)).before args0 about = true := od1.code_of (by decide +kernel) start1.code219
theorem od1.code220 : (Jvm.Cond.code (⟨"java/lang/AbstractStringBuilder", "length", "()I"⟩ : Jvm.MethodName) prog_22_method_6_code 1 (some .int)).before args0 about = true := od1.code_of (by decide +kernel) start1.code220
theorem od1.code221 : (Jvm.Cond.code (⟨"java/lang/StringBuilder", "charAt", "(I)C"⟩ : Jvm.MethodName) prog_40_method_88_code 2 (some .char)).before args0 about = true := od1.code_of (by decide +kernel) start1.code221
theorem od1.code222 : (Jvm.Cond.code (⟨"java/lang/AbstractStringBuilder", "charAt", "(I)C"⟩ : Jvm.MethodName) prog_22_method_14_code 5 (some .char)).before args0 about = true := od1.code_of (by decide +kernel) start1.code222
set_option maxRecDepth 16384 in
theorem od1.code223 : (Jvm.Cond.code (⟨"java/lang/String", "checkIndex", "(II)V"⟩ : Jvm.MethodName) prog_39_method_155_code 2 none).before args0 about = true :=
  su_hand_word (m := ⟨40, 5⟩) (by decide +kernel) rfl (by decide +kernel) (by decide +kernel)
theorem od1.code224 : (Jvm.Cond.code (⟨"jdk/internal/util/Preconditions", "checkIndex", "(IILjava/util/function/BiFunction;)I"⟩ : Jvm.MethodName) prog_61_method_11_code 3 (some .int)).before args0 about = true := od1.code_of (by decide +kernel) start1.code224
theorem od1.code225 : (Jvm.Cond.code (⟨"SequencepointModel", "isNoNode", "(I)Z"⟩ : Jvm.MethodName) prog_14_method_21_code 2 (some .boolean)).before args0 about = true := od1.code_of (by decide +kernel) start1.code225
theorem od1.code226 : (Jvm.Cond.code (⟨"SequencepointModel$Node", "isPlace", "()Z"⟩ : Jvm.MethodName) prog_17_method_2_code 1 (some .boolean)).before args0 about = true := od1.code_of (by decide +kernel) start1.code226
theorem od1.code227 : (Jvm.Cond.code (⟨"SequencepointModel", "areFree", "([LSequencepointModel$Node;)Z"⟩ : Jvm.MethodName) prog_14_method_22_code 5 (some .boolean)).before args0 about = true := od1.code_of (by decide +kernel) start1.code227
theorem od1.code228 : (Jvm.Cond.code (⟨"SequencepointModel", "promoted", "(I)I"⟩ : Jvm.MethodName) prog_14_method_12_code 1 (some .int)).before args0 about = true := od1.code_of (by decide +kernel) start1.code228
theorem od1.code229 : (Jvm.Cond.code (⟨"SequencepointModel", "cast", "(II)I"⟩ : Jvm.MethodName) prog_14_method_25_code 3 (some .int)).before args0 about = true := od1.code_of (by decide +kernel) start1.code229
theorem od1.code230 : (Jvm.Cond.code (⟨"SequencepointModel", "binary", "(CII)I"⟩ : Jvm.MethodName) prog_14_method_27_code 5 (some .int)).before args0 about = true := od1.code_of (by decide +kernel) start1.code230
theorem od1.code231 : (Jvm.Cond.code (⟨"SequencepointModel", "fitting", "(CII)I"⟩ : Jvm.MethodName) prog_14_method_26_code 4 (some .int)).before args0 about = true := od1.code_of (by decide +kernel) start1.code231
set_option maxRecDepth 16384 in
theorem od1.codes_are_7 : tables_1_7.filter su_isCode = [Jvm.Cond.code (⟨"SequencepointModel", "<init>", "()V"⟩ : Jvm.MethodName) prog_14_method_1_code 1 none,
    Jvm.Cond.code (⟨"SequencepointModel", "thrown", "()I"⟩ : Jvm.MethodName) prog_14_method_2_code 1 (some .int),
    Jvm.Cond.code (⟨"SequencepointModel", "addVariable", "(IIZ)I"⟩ : Jvm.MethodName) prog_14_method_14_code 4 (some .int),
    Jvm.Cond.code (⟨"SequencepointModel", "isType", "(I)Z"⟩ : Jvm.MethodName) prog_14_method_7_code 1 (some .boolean),
    Jvm.Cond.code (⟨"SequencepointModel", "isNumber", "(I)Z"⟩ : Jvm.MethodName) prog_14_method_5_code 1 (some .boolean),
    Jvm.Cond.code (⟨"SequencepointModel", "isIn", "(III)Z"⟩ : Jvm.MethodName) prog_14_method_3_code 3 (some .boolean),
    Jvm.Cond.code (⟨"SequencepointModel", "isPointer", "(I)Z"⟩ : Jvm.MethodName) prog_14_method_6_code 1 (some .boolean),
    Jvm.Cond.code (⟨"SequencepointModel", "isThrown", "(ZI)Z"⟩ : Jvm.MethodName) prog_14_method_4_code 3 (some .boolean),
    Jvm.Cond.code (⟨"SequencepointModel", "addFunction", "(III)I"⟩ : Jvm.MethodName) prog_14_method_16_code 4 (some .int),
    Jvm.Cond.code (⟨"SequencepointModel", "isNoParameter", "(I)Z"⟩ : Jvm.MethodName) prog_14_method_15_code 2 (some .boolean),
    Jvm.Cond.code (⟨"SequencepointModel", "setBody", "(II)I"⟩ : Jvm.MethodName) prog_14_method_17_code 9 (some .int),
    Jvm.Cond.code (⟨"SequencepointModel", "number", "(II)I"⟩ : Jvm.MethodName) prog_14_method_19_code 4 (some .int),
    Jvm.Cond.code (⟨"SequencepointModel", "holds", "(IJ)Z"⟩ : Jvm.MethodName) prog_14_method_10_code 5 (some .boolean),
    Jvm.Cond.code (⟨"SequencepointModel", "bits", "(I)I"⟩ : Jvm.MethodName) prog_14_method_9_code 1 (some .int),
    Jvm.Cond.code (⟨"SequencepointModel", "isSigned", "(I)Z"⟩ : Jvm.MethodName) prog_14_method_8_code 1 (some .boolean),
    Jvm.Cond.code (⟨"SequencepointModel$Node", "<init>", "(ICI[LSequencepointModel$Node;)V"⟩ : Jvm.MethodName) prog_17_method_1_code 9 none,
    Jvm.Cond.code (⟨"SequencepointModel", "added", "(LSequencepointModel$Node;)I"⟩ : Jvm.MethodName) prog_14_method_18_code 6 (some .int),
    Jvm.Cond.code (⟨"SequencepointModel", "name", "(I)I"⟩ : Jvm.MethodName) prog_14_method_20_code 4 (some .int),
    Jvm.Cond.code (⟨"SequencepointModel", "unary", "(CI)I"⟩ : Jvm.MethodName) prog_14_method_24_code 6 (some .int),
    Jvm.Cond.code (⟨"SequencepointModel", "isOneOf", "(Ljava/lang/CharSequence;C)Z"⟩ : Jvm.MethodName) prog_14_method_23_code 4 (some .boolean),
    Jvm.Cond.code (⟨"java/lang/StringBuilder", "length", "()I"⟩ : Jvm.MethodName) prog_40_method_93_code 1 (some .int),
    Jvm.Cond.code (⟨"java/lang/AbstractStringBuilder", "length", "()I"⟩ : Jvm.MethodName) prog_22_method_6_code 1 (some .int),
    Jvm.Cond.code (⟨"java/lang/StringBuilder", "charAt", "(I)C"⟩ : Jvm.MethodName) prog_40_method_88_code 2 (some .char),
    Jvm.Cond.code (⟨"java/lang/AbstractStringBuilder", "charAt", "(I)C"⟩ : Jvm.MethodName) prog_22_method_14_code 5 (some .char),
    Jvm.Cond.code (⟨"java/lang/String", "checkIndex", "(II)V"⟩ : Jvm.MethodName) prog_39_method_155_code 2 none,
    Jvm.Cond.code (⟨"jdk/internal/util/Preconditions", "checkIndex", "(IILjava/util/function/BiFunction;)I"⟩ : Jvm.MethodName) prog_61_method_11_code 3 (some .int),
    Jvm.Cond.code (⟨"SequencepointModel", "isNoNode", "(I)Z"⟩ : Jvm.MethodName) prog_14_method_21_code 2 (some .boolean),
    Jvm.Cond.code (⟨"SequencepointModel$Node", "isPlace", "()Z"⟩ : Jvm.MethodName) prog_17_method_2_code 1 (some .boolean),
    Jvm.Cond.code (⟨"SequencepointModel", "areFree", "([LSequencepointModel$Node;)Z"⟩ : Jvm.MethodName) prog_14_method_22_code 5 (some .boolean),
    Jvm.Cond.code (⟨"SequencepointModel", "promoted", "(I)I"⟩ : Jvm.MethodName) prog_14_method_12_code 1 (some .int),
    Jvm.Cond.code (⟨"SequencepointModel", "cast", "(II)I"⟩ : Jvm.MethodName) prog_14_method_25_code 3 (some .int),
    Jvm.Cond.code (⟨"SequencepointModel", "binary", "(CII)I"⟩ : Jvm.MethodName) prog_14_method_27_code 5 (some .int),
    Jvm.Cond.code (⟨"SequencepointModel", "fitting", "(CII)I"⟩ : Jvm.MethodName) prog_14_method_26_code 4 (some .int)] := by
  first
  | rfl
  | simp only [tables_1_7, List.filter, su_isCode]
set_option maxRecDepth 16384 in
theorem od1.codes_hold_7 : ∀ c ∈ tables_1_7.filter su_isCode, c.before args0 about = true := by
  rw [codes_are_7]
  exact List.forall_mem_cons.mpr ⟨code199, List.forall_mem_cons.mpr ⟨code200, List.forall_mem_cons.mpr ⟨code201, List.forall_mem_cons.mpr ⟨code202, List.forall_mem_cons.mpr ⟨code203, List.forall_mem_cons.mpr ⟨code204, List.forall_mem_cons.mpr ⟨code205, List.forall_mem_cons.mpr ⟨code206, List.forall_mem_cons.mpr ⟨code207, List.forall_mem_cons.mpr ⟨code208, List.forall_mem_cons.mpr ⟨code209, List.forall_mem_cons.mpr ⟨code210, List.forall_mem_cons.mpr ⟨code211, List.forall_mem_cons.mpr ⟨code212, List.forall_mem_cons.mpr ⟨code213, List.forall_mem_cons.mpr ⟨code214, List.forall_mem_cons.mpr ⟨code215, List.forall_mem_cons.mpr ⟨code216, List.forall_mem_cons.mpr ⟨code217, List.forall_mem_cons.mpr ⟨code218, List.forall_mem_cons.mpr ⟨code219, List.forall_mem_cons.mpr ⟨code220, List.forall_mem_cons.mpr ⟨code221, List.forall_mem_cons.mpr ⟨code222, List.forall_mem_cons.mpr ⟨code223, List.forall_mem_cons.mpr ⟨code224, List.forall_mem_cons.mpr ⟨code225, List.forall_mem_cons.mpr ⟨code226, List.forall_mem_cons.mpr ⟨code227, List.forall_mem_cons.mpr ⟨code228, List.forall_mem_cons.mpr ⟨code229, List.forall_mem_cons.mpr ⟨code230, List.forall_mem_cons.mpr ⟨code231, List.forall_mem_nil _⟩⟩⟩⟩⟩⟩⟩⟩⟩⟩⟩⟩⟩⟩⟩⟩⟩⟩⟩⟩⟩⟩⟩⟩⟩⟩⟩⟩⟩⟩⟩⟩⟩
set_option maxRecDepth 100000 in
theorem od1.others_7_0 : (tables_1_7.take 120).all od1.chk = true := by decide +kernel
set_option maxRecDepth 100000 in
theorem od1.others_7_1 : ((tables_1_7.drop 120).take 120).all od1.chk = true := by decide +kernel
set_option maxRecDepth 100000 in
theorem od1.others_7_2 : ((tables_1_7.drop 120).drop 120).all od1.chk = true := by decide +kernel
theorem od1.others_hold_7 : tables_1_7.all (fun c => su_isCode c || c.before args0 about) = true := od1.from_chk start1.words_7 (od1.su_all_split _ 120 tables_1_7 od1.others_7_0 (od1.su_all_split _ 120 (tables_1_7.drop 120) od1.others_7_1 od1.others_7_2))
set_option maxRecDepth 16384 in
theorem od1.words_7 : ∀ c ∈ tables_1_7, c.before args0 about = true := fun c h => su_words others_hold_7 codes_hold_7 c h
theorem od1.code232 : (Jvm.Cond.code (⟨"SequencepointModel", "common", "(II)I"⟩ : Jvm.MethodName) prog_14_method_13_code 4 (some .int)).before args0 about = true := od1.code_of (by decide +kernel) start1.code232
theorem od1.code233 : (Jvm.Cond.code (⟨"SequencepointModel", "choose", "(III)I"⟩ : Jvm.MethodName) prog_14_method_28_code 7 (some .int)).before args0 about = true := od1.code_of (by decide +kernel) start1.code233
theorem od1.code234 : (Jvm.Cond.code (⟨"SequencepointModel", "assign", "(CII)I"⟩ : Jvm.MethodName) prog_14_method_29_code 7 (some .int)).before args0 about = true := od1.code_of (by decide +kernel) start1.code234
theorem od1.code235 : (Jvm.Cond.code (⟨"SequencepointModel", "call", "(III)I"⟩ : Jvm.MethodName) prog_14_method_31_code 8 (some .int)).before args0 about = true := od1.code_of (by decide +kernel) start1.code235
theorem od1.code236 : (Jvm.Cond.code (⟨"SequencepointModel", "fitsParameter", "(II)Z"⟩ : Jvm.MethodName) prog_14_method_30_code 3 (some .boolean)).before args0 about = true := od1.code_of (by decide +kernel) start1.code236
theorem od1.code237 : (Jvm.Cond.code (⟨"SequencepointModel", "typeOf", "(I)I"⟩ : Jvm.MethodName) prog_14_method_32_code 2 (some .int)).before args0 about = true := od1.code_of (by decide +kernel) start1.code237
end
section
theorem od1.code238 : (Jvm.Cond.code (⟨"SequencepointModel", "simple", "(CI)I"⟩ : Jvm.MethodName) prog_14_method_36_code 3 (some .int)).before args0 about = true := od1.code_of (by decide +kernel) start1.code238
theorem od1.code239 : (Jvm.Cond.code (⟨"SequencepointModel$Statement", "<init>", "(CLSequencepointModel$Node;LSequencepointModel$Statement;LSequencepointModel$Statement;)V"⟩ : Jvm.MethodName) prog_19_method_1_code 5 none).before args0 about = true := od1.code_of (by decide +kernel) start1.code239
theorem od1.code240 : (Jvm.Cond.code (⟨"SequencepointModel", "added", "(LSequencepointModel$Statement;)I"⟩ : Jvm.MethodName) prog_14_method_33_code 2 (some .int)).before args0 about = true := od1.code_of (by decide +kernel) start1.code240
theorem od1.code241 : (Jvm.Cond.code (⟨"SequencepointModel", "declare", "(I)I"⟩ : Jvm.MethodName) prog_14_method_37_code 3 (some .int)).before args0 about = true := od1.code_of (by decide +kernel) start1.code241
theorem od1.code242 : (Jvm.Cond.code (⟨"SequencepointModel", "branch", "(III)I"⟩ : Jvm.MethodName) prog_14_method_38_code 6 (some .int)).before args0 about = true := od1.code_of (by decide +kernel) start1.code242
theorem od1.code243 : (Jvm.Cond.code (⟨"SequencepointModel", "isNoStatement", "(I)Z"⟩ : Jvm.MethodName) prog_14_method_35_code 2 (some .boolean)).before args0 about = true := od1.code_of (by decide +kernel) start1.code243
theorem od1.code244 : (Jvm.Cond.code (⟨"SequencepointModel", "isFree", "(LSequencepointModel$Statement;)Z"⟩ : Jvm.MethodName) prog_14_method_34_code 1 (some .boolean)).before args0 about = true := od1.code_of (by decide +kernel) start1.code244
theorem od1.code245 : (Jvm.Cond.code (⟨"SequencepointModel", "repeat", "(II)I"⟩ : Jvm.MethodName) prog_14_method_39_code 3 (some .int)).before args0 about = true := od1.code_of (by decide +kernel) start1.code245
theorem od1.code246 : (Jvm.Cond.code (⟨"SequencepointModel", "then", "(II)I"⟩ : Jvm.MethodName) prog_14_method_40_code 3 (some .int)).before args0 about = true := od1.code_of (by decide +kernel) start1.code246
theorem od1.code247 : (Jvm.Cond.code (⟨"SequencepointModel", "block", "(I)I"⟩ : Jvm.MethodName) prog_14_method_41_code 2 (some .int)).before args0 about = true := od1.code_of (by decide +kernel) start1.code247
theorem od1.code248 : (Jvm.Cond.code (⟨"SequencepointModel", "run", "(I)C"⟩ : Jvm.MethodName) prog_14_method_48_code 2 (some .char)).before args0 about = true := od1.code_of (by decide +kernel) start1.code248
theorem od1.code249 : (Jvm.Cond.code (⟨"SequencepointModel", "isNoProgram", "()Z"⟩ : Jvm.MethodName) prog_14_method_45_code 1 (some .boolean)).before args0 about = true := od1.code_of (by decide +kernel) start1.code249
theorem od1.code250 : (Jvm.Cond.code (⟨"SequencepointModel", "runs", "([LSequencepointModel$Statement;I)C"⟩ : Jvm.MethodName) prog_14_method_47_code 3 (some .char)).before args0 about = true := od1.code_of (by decide +kernel) start1.code250
theorem od1.code251 : (Jvm.Cond.code (⟨"SequencepointModel", "ran", "([LSequencepointModel$Statement;I)LSequencepointModel$Run;"⟩ : Jvm.MethodName) prog_14_method_46_code 4 (some (.object "SequencepointModel$Run"))).before args0 about = true := od1.code_of (by decide +kernel) start1.code251
theorem od1.code252 : (Jvm.Cond.code (⟨"SequencepointModel$Run", "<init>", "(LSequencepointModel;[LSequencepointModel$Statement;I)V"⟩ : Jvm.MethodName) prog_18_method_1_code 4 none).before args0 about = true := od1.code_of (by decide +kernel) start1.code252
theorem od1.code253 : (Jvm.Cond.code (⟨"java/util/ArrayList", "<init>", "()V"⟩ : Jvm.MethodName) prog_50_method_2_code 1 none).before args0 about = true := od1.code_of (by decide +kernel) start1.code253
theorem od1.code254 : (Jvm.Cond.code (⟨"java/util/AbstractList", "<init>", "()V"⟩ : Jvm.MethodName) prog_49_method_1_code 1 none).before args0 about = true := od1.code_of (by decide +kernel) start1.code254
theorem od1.code255 : (Jvm.Cond.code (⟨"java/util/AbstractCollection", "<init>", "()V"⟩ : Jvm.MethodName) prog_48_method_1_code 1 none).before args0 about = true := od1.code_of (by decide +kernel) start1.code255
theorem od1.code256 : (Jvm.Cond.code (⟨"SequencepointModel$Run", "comes", "(I)I"⟩ : Jvm.MethodName) prog_18_method_3_code 2 (some .int)).before args0 about = true := od1.code_of (by decide +kernel) start1.code256
theorem od1.code257 : (Jvm.Cond.code (⟨"SequencepointModel$Thing", "<init>", "(I)V"⟩ : Jvm.MethodName) prog_20_method_1_code 2 none).before args0 about = true := od1.code_of (by decide +kernel) start1.code257
theorem od1.code258 : (Jvm.Cond.code (⟨"java/util/ArrayList", "add", "(Ljava/lang/Object;)Z"⟩ : Jvm.MethodName) prog_50_method_25_code 2 (some .boolean)).before args0 about = true := od1.code_of (by decide +kernel) start1.code258
set_option maxRecDepth 16384 in
theorem od1.codes_are_8 : tables_1_8.filter su_isCode = [Jvm.Cond.code (⟨"SequencepointModel", "common", "(II)I"⟩ : Jvm.MethodName) prog_14_method_13_code 4 (some .int),
    Jvm.Cond.code (⟨"SequencepointModel", "choose", "(III)I"⟩ : Jvm.MethodName) prog_14_method_28_code 7 (some .int),
    Jvm.Cond.code (⟨"SequencepointModel", "assign", "(CII)I"⟩ : Jvm.MethodName) prog_14_method_29_code 7 (some .int),
    Jvm.Cond.code (⟨"SequencepointModel", "call", "(III)I"⟩ : Jvm.MethodName) prog_14_method_31_code 8 (some .int),
    Jvm.Cond.code (⟨"SequencepointModel", "fitsParameter", "(II)Z"⟩ : Jvm.MethodName) prog_14_method_30_code 3 (some .boolean),
    Jvm.Cond.code (⟨"SequencepointModel", "typeOf", "(I)I"⟩ : Jvm.MethodName) prog_14_method_32_code 2 (some .int),
    Jvm.Cond.code (⟨"SequencepointModel", "simple", "(CI)I"⟩ : Jvm.MethodName) prog_14_method_36_code 3 (some .int),
    Jvm.Cond.code (⟨"SequencepointModel$Statement", "<init>", "(CLSequencepointModel$Node;LSequencepointModel$Statement;LSequencepointModel$Statement;)V"⟩ : Jvm.MethodName) prog_19_method_1_code 5 none,
    Jvm.Cond.code (⟨"SequencepointModel", "added", "(LSequencepointModel$Statement;)I"⟩ : Jvm.MethodName) prog_14_method_33_code 2 (some .int),
    Jvm.Cond.code (⟨"SequencepointModel", "declare", "(I)I"⟩ : Jvm.MethodName) prog_14_method_37_code 3 (some .int),
    Jvm.Cond.code (⟨"SequencepointModel", "branch", "(III)I"⟩ : Jvm.MethodName) prog_14_method_38_code 6 (some .int),
    Jvm.Cond.code (⟨"SequencepointModel", "isNoStatement", "(I)Z"⟩ : Jvm.MethodName) prog_14_method_35_code 2 (some .boolean),
    Jvm.Cond.code (⟨"SequencepointModel", "isFree", "(LSequencepointModel$Statement;)Z"⟩ : Jvm.MethodName) prog_14_method_34_code 1 (some .boolean),
    Jvm.Cond.code (⟨"SequencepointModel", "repeat", "(II)I"⟩ : Jvm.MethodName) prog_14_method_39_code 3 (some .int),
    Jvm.Cond.code (⟨"SequencepointModel", "then", "(II)I"⟩ : Jvm.MethodName) prog_14_method_40_code 3 (some .int),
    Jvm.Cond.code (⟨"SequencepointModel", "block", "(I)I"⟩ : Jvm.MethodName) prog_14_method_41_code 2 (some .int),
    Jvm.Cond.code (⟨"SequencepointModel", "run", "(I)C"⟩ : Jvm.MethodName) prog_14_method_48_code 2 (some .char),
    Jvm.Cond.code (⟨"SequencepointModel", "isNoProgram", "()Z"⟩ : Jvm.MethodName) prog_14_method_45_code 1 (some .boolean),
    Jvm.Cond.code (⟨"SequencepointModel", "runs", "([LSequencepointModel$Statement;I)C"⟩ : Jvm.MethodName) prog_14_method_47_code 3 (some .char),
    Jvm.Cond.code (⟨"SequencepointModel", "ran", "([LSequencepointModel$Statement;I)LSequencepointModel$Run;"⟩ : Jvm.MethodName) prog_14_method_46_code 4 (some (.object "SequencepointModel$Run")),
    Jvm.Cond.code (⟨"SequencepointModel$Run", "<init>", "(LSequencepointModel;[LSequencepointModel$Statement;I)V"⟩ : Jvm.MethodName) prog_18_method_1_code 4 none,
    Jvm.Cond.code (⟨"java/util/ArrayList", "<init>", "()V"⟩ : Jvm.MethodName) prog_50_method_2_code 1 none,
    Jvm.Cond.code (⟨"java/util/AbstractList", "<init>", "()V"⟩ : Jvm.MethodName) prog_49_method_1_code 1 none,
    Jvm.Cond.code (⟨"java/util/AbstractCollection", "<init>", "()V"⟩ : Jvm.MethodName) prog_48_method_1_code 1 none,
    Jvm.Cond.code (⟨"SequencepointModel$Run", "comes", "(I)I"⟩ : Jvm.MethodName) prog_18_method_3_code 2 (some .int),
    Jvm.Cond.code (⟨"SequencepointModel$Thing", "<init>", "(I)V"⟩ : Jvm.MethodName) prog_20_method_1_code 2 none,
    Jvm.Cond.code (⟨"java/util/ArrayList", "add", "(Ljava/lang/Object;)Z"⟩ : Jvm.MethodName) prog_50_method_25_code 2 (some .boolean)] := by
  first
  | rfl
  | simp only [tables_1_8, List.filter, su_isCode]
set_option maxRecDepth 16384 in
theorem od1.codes_hold_8 : ∀ c ∈ tables_1_8.filter su_isCode, c.before args0 about = true := by
  rw [codes_are_8]
  exact List.forall_mem_cons.mpr ⟨code232, List.forall_mem_cons.mpr ⟨code233, List.forall_mem_cons.mpr ⟨code234, List.forall_mem_cons.mpr ⟨code235, List.forall_mem_cons.mpr ⟨code236, List.forall_mem_cons.mpr ⟨code237, List.forall_mem_cons.mpr ⟨code238, List.forall_mem_cons.mpr ⟨code239, List.forall_mem_cons.mpr ⟨code240, List.forall_mem_cons.mpr ⟨code241, List.forall_mem_cons.mpr ⟨code242, List.forall_mem_cons.mpr ⟨code243, List.forall_mem_cons.mpr ⟨code244, List.forall_mem_cons.mpr ⟨code245, List.forall_mem_cons.mpr ⟨code246, List.forall_mem_cons.mpr ⟨code247, List.forall_mem_cons.mpr ⟨code248, List.forall_mem_cons.mpr ⟨code249, List.forall_mem_cons.mpr ⟨code250, List.forall_mem_cons.mpr ⟨code251, List.forall_mem_cons.mpr ⟨code252, List.forall_mem_cons.mpr ⟨code253, List.forall_mem_cons.mpr ⟨code254, List.forall_mem_cons.mpr ⟨code255, List.forall_mem_cons.mpr ⟨code256, List.forall_mem_cons.mpr ⟨code257, List.forall_mem_cons.mpr ⟨code258, List.forall_mem_nil _⟩⟩⟩⟩⟩⟩⟩⟩⟩⟩⟩⟩⟩⟩⟩⟩⟩⟩⟩⟩⟩⟩⟩⟩⟩⟩⟩
set_option maxRecDepth 100000 in
theorem od1.others_8_0 : (tables_1_8.take 120).all od1.chk = true := by decide +kernel
set_option maxRecDepth 100000 in
theorem od1.others_8_1 : ((tables_1_8.drop 120).take 120).all od1.chk = true := by decide +kernel
set_option maxRecDepth 100000 in
theorem od1.others_8_2 : ((tables_1_8.drop 120).drop 120).all od1.chk = true := by decide +kernel
theorem od1.others_hold_8 : tables_1_8.all (fun c => su_isCode c || c.before args0 about) = true := od1.from_chk start1.words_8 (od1.su_all_split _ 120 tables_1_8 od1.others_8_0 (od1.su_all_split _ 120 (tables_1_8.drop 120) od1.others_8_1 od1.others_8_2))
set_option maxRecDepth 16384 in
theorem od1.words_8 : ∀ c ∈ tables_1_8, c.before args0 about = true := fun c h => su_words others_hold_8 codes_hold_8 c h
theorem od1.code259 : (Jvm.Cond.code (⟨"java/util/ArrayList", "add", "(Ljava/lang/Object;[Ljava/lang/Object;I)V"⟩ : Jvm.MethodName) prog_50_method_24_code 4 none).before args0 about = true := od1.code_of (by decide +kernel) start1.code259
theorem od1.code260 : (Jvm.Cond.code (⟨"java/util/ArrayList", "grow", "()[Ljava/lang/Object;"⟩ : Jvm.MethodName) prog_50_method_7_code 1 (some (.array (.object "java/lang/Object")))).before args0 about = true := od1.code_of (by decide +kernel) start1.code260
theorem od1.code261 : (Jvm.Cond.code (⟨"java/util/ArrayList", "grow", "(I)[Ljava/lang/Object;"⟩ : Jvm.MethodName) prog_50_method_6_code 4 (some (.array (.object "java/lang/Object")))).before args0 about = true := od1.code_of (by decide +kernel) start1.code261
theorem od1.code262 : (Jvm.Cond.code (⟨"jdk/internal/util/ArraysSupport", "newLength", "(III)I"⟩ : Jvm.MethodName) prog_60_method_27_code 4 (some .int)).before args0 about = true := od1.code_of (by decide +kernel) start1.code262
theorem od1.code263 : (Jvm.Cond.code (⟨"jdk/internal/util/ArraysSupport", "hugeLength", "(II)I"⟩ : Jvm.MethodName) prog_60_method_28_code 3 (some .int)).before args0 about = true := od1.code_of (by decide +kernel) start1.code263
theorem od1.code264 : (Jvm.Cond.code (⟨"java/util/Arrays", "copyOf", "([Ljava/lang/Object;I)[Ljava/lang/Object;"⟩ : Jvm.MethodName) prog_52_method_119_code 2 (some (.array (.object "java/lang/Object")))).before args0 about = true := od1.code_of (by decide +kernel) start1.code264
theorem od1.code265 : (Jvm.Cond.code (⟨"java/util/Arrays", "copyOf", "([Ljava/lang/Object;ILjava/lang/Class;)[Ljava/lang/Object;"⟩ : Jvm.MethodName) prog_52_method_120_code 4 (some (.array (.object "java/lang/Object")))).before args0 about = true := od1.code_of (by decide +kernel) start1.code265
theorem od1.code266 : (Jvm.Cond.code (⟨"java/util/ArrayList", "size", "()I"⟩ : Jvm.MethodName) prog_50_method_8_code 1 (some .int)).before args0 about = true := od1.code_of (by decide +kernel) start1.code266
theorem od1.code267 : (Jvm.Cond.code (⟨"SequencepointModel$Frame", "<init>", "(I)V"⟩ : Jvm.MethodName) prog_16_method_1_code 3 none).before args0 about = true := od1.code_of (by decide +kernel) start1.code267
theorem od1.code268 : (Jvm.Cond.code (⟨"SequencepointModel$Run", "does", "(LSequencepointModel$Statement;)Z"⟩ : Jvm.MethodName) prog_18_method_29_code 7 (some .boolean)).before args0 about = true := od1.code_of (by decide +kernel) start1.code268
theorem od1.code269 : (Jvm.Cond.code (⟨"SequencepointModel$Run", "steps", "()V"⟩ : Jvm.MethodName) prog_18_method_4_code 1 none).before args0 about = true := od1.code_of (by decide +kernel) start1.code269
theorem od1.code270 : (Jvm.Cond.code (⟨"SequencepointModel$End", "<init>", "(CCLSequencepointModel$Node;)V"⟩ : Jvm.MethodName) prog_15_method_1_code 4 none).before args0 about = true := od1.code_of (by decide +kernel) start1.code270
theorem od1.code271 : (Jvm.Cond.code (⟨"java/lang/Exception", "<init>", "(Ljava/lang/String;Ljava/lang/Throwable;)V"⟩ : Jvm.MethodName) prog_28_method_3_code 3 none).before args0 about = true := od1.code_of (by decide +kernel) start1.code271
theorem od1.code272 : (Jvm.Cond.code (⟨"java/lang/Throwable", "<init>", "(Ljava/lang/String;Ljava/lang/Throwable;)V"⟩ : Jvm.MethodName) prog_44_method_3_code 3 none).before args0 about = true := od1.code_of (by decide +kernel) start1.code272
theorem od1.code273 : (Jvm.Cond.code (⟨"SequencepointModel$Run", "full", "(LSequencepointModel$Node;)J"⟩ : Jvm.MethodName) prog_18_method_28_code 5 (some .long)).before args0 about = true := od1.code_of (by decide +kernel) start1.code273
theorem od1.code274 : (Jvm.Cond.code (⟨"SequencepointModel$Run", "value", "(LSequencepointModel$Node;)J"⟩ : Jvm.MethodName) prog_18_method_21_code 6 (some .long)).before args0 about = true := od1.code_of (by decide +kernel) start1.code274
theorem od1.code275 : (Jvm.Cond.code (⟨"SequencepointModel$Run", "lifeOf", "(I)J"⟩ : Jvm.MethodName) prog_18_method_10_code 3 (some .long)).before args0 about = true := od1.code_of (by decide +kernel) start1.code275
theorem od1.code276 : (Jvm.Cond.code (⟨"java/util/ArrayList", "get", "(I)Ljava/lang/Object;"⟩ : Jvm.MethodName) prog_50_method_20_code 2 (some (.object "java/lang/Object"))).before args0 about = true := od1.code_of (by decide +kernel) start1.code276
theorem od1.code277 : (Jvm.Cond.code (⟨"java/util/Objects", "checkIndex", "(II)I"⟩ : Jvm.MethodName) prog_57_method_17_code 2 (some .int)).before args0 about = true := od1.code_of (by decide +kernel) start1.code277
theorem od1.code278 : (Jvm.Cond.code (⟨"java/util/ArrayList", "elementData", "(I)Ljava/lang/Object;"⟩ : Jvm.MethodName) prog_50_method_18_code 2 (some (.object "java/lang/Object"))).before args0 about = true := od1.code_of (by decide +kernel) start1.code278
theorem od1.code279 : (Jvm.Cond.code (⟨"SequencepointModel$Run", "reads", "(JLSequencepointModel$Node;)J"⟩ : Jvm.MethodName) prog_18_method_12_code 5 (some .long)).before args0 about = true := od1.code_of (by decide +kernel) start1.code279
theorem od1.code280 : (Jvm.Cond.code (⟨"SequencepointModel$Run", "reached", "(JLSequencepointModel$Node;)LSequencepointModel$Thing;"⟩ : Jvm.MethodName) prog_18_method_11_code 5 (some (.object "SequencepointModel$Thing"))).before args0 about = true := od1.code_of (by decide +kernel) start1.code280
theorem od1.code281 : (Jvm.Cond.code (⟨"SequencepointModel$Run", "thing", "(J)LSequencepointModel$Thing;"⟩ : Jvm.MethodName) prog_18_method_7_code 3 (some (.object "SequencepointModel$Thing"))).before args0 about = true := od1.code_of (by decide +kernel) start1.code281
theorem od1.code282 : (Jvm.Cond.code (⟨"SequencepointModel$Run", "none", "(CLSequencepointModel$Node;)LSequencepointModel$End;"⟩ : Jvm.MethodName) prog_18_method_5_code 3 (some (.object "SequencepointModel$End"))).before args0 about = true := od1.code_of (by decide +kernel) start1.code282
theorem od1.code283 : (Jvm.Cond.code (⟨"SequencepointModel$Run", "partOf", "(J)I"⟩ : Jvm.MethodName) prog_18_method_8_code 2 (some .int)).before args0 about = true := od1.code_of (by decide +kernel) start1.code283
theorem od1.code284 : (Jvm.Cond.code (⟨"SequencepointModel$Run", "cellOf", "(J)I"⟩ : Jvm.MethodName) prog_18_method_9_code 2 (some .int)).before args0 about = true := od1.code_of (by decide +kernel) start1.code284
theorem od1.code285 : (Jvm.Cond.code (⟨"SequencepointModel$Run", "notes", "(IZ)V"⟩ : Jvm.MethodName) prog_18_method_6_code 5 none).before args0 about = true := od1.code_of (by decide +kernel) start1.code285
theorem od1.code286 : (Jvm.Cond.code (⟨"SequencepointModel$Run", "holds", "(LSequencepointModel$Node;)Z"⟩ : Jvm.MethodName) prog_18_method_20_code 2 (some .boolean)).before args0 about = true := od1.code_of (by decide +kernel) start1.code286
theorem od1.code287 : (Jvm.Cond.code (⟨"SequencepointModel", "convert", "(IJ)J"⟩ : Jvm.MethodName) prog_14_method_11_code 5 (some .long)).before args0 about = true := od1.code_of (by decide +kernel) start1.code287
theorem od1.code288 : (Jvm.Cond.code (⟨"SequencepointModel$Run", "called", "(LSequencepointModel$Node;)J"⟩ : Jvm.MethodName) prog_18_method_27_code 9 (some .long)).before args0 about = true := od1.code_of (by decide +kernel) start1.code288
theorem od1.code289 : (Jvm.Cond.code (⟨"SequencepointModel$Run", "two", "(LSequencepointModel$Node;Z)[J"⟩ : Jvm.MethodName) prog_18_method_17_code 12 (some (.array .long))).before args0 about = true := od1.code_of (by decide +kernel) start1.code289
theorem od1.code290 : (Jvm.Cond.code (⟨"SequencepointModel$Node", "hasCall", "()Z"⟩ : Jvm.MethodName) prog_17_method_3_code 6 (some .boolean)).before args0 about = true := od1.code_of (by decide +kernel) start1.code290
theorem od1.code291 : (Jvm.Cond.code (⟨"SequencepointModel$Run", "part", "(LSequencepointModel$Node;Z)J"⟩ : Jvm.MethodName) prog_18_method_16_code 3 (some .long)).before args0 about = true := od1.code_of (by decide +kernel) start1.code291
theorem od1.code292 : (Jvm.Cond.code (⟨"SequencepointModel$Run", "place", "(LSequencepointModel$Node;)J"⟩ : Jvm.MethodName) prog_18_method_19_code 2 (some .long)).before args0 about = true := od1.code_of (by decide +kernel) start1.code292
theorem od1.code293 : (Jvm.Cond.code (⟨"SequencepointModel$Run", "clash", "(IIII)Z"⟩ : Jvm.MethodName) prog_18_method_15_code 8 (some .boolean)).before args0 about = true := od1.code_of (by decide +kernel) start1.code293
theorem od1.code294 : (Jvm.Cond.code (⟨"java/lang/Integer", "valueOf", "(I)Ljava/lang/Integer;"⟩ : Jvm.MethodName) prog_32_method_22_code 1 (some (.object "java/lang/Integer"))).before args0 about = true := od1.code_of (by decide +kernel) start1.code294
theorem od1.code295 : (Jvm.Cond.code (⟨"java/lang/Integer", "<init>", "(I)V"⟩ : Jvm.MethodName) prog_32_method_23_code 2 none).before args0 about = true := od1.code_of (by decide +kernel) start1.code295
theorem od1.code296 : (Jvm.Cond.code (⟨"java/lang/Number", "<init>", "()V"⟩ : Jvm.MethodName) prog_37_method_1_code 1 none).before args0 about = true := od1.code_of (by decide +kernel) start1.code296
theorem od1.code297 : (Jvm.Cond.code (⟨"java/util/ArrayList", "iterator", "()Ljava/util/Iterator;"⟩ : Jvm.MethodName) prog_50_method_55_code 1 (some (.object "java/util/Iterator"))).before args0 about = true := od1.code_of (by decide +kernel) start1.code297
set_option maxRecDepth 16384 in
theorem od1.codes_are_9 : tables_1_9.filter su_isCode = [Jvm.Cond.code (⟨"java/util/ArrayList", "add", "(Ljava/lang/Object;[Ljava/lang/Object;I)V"⟩ : Jvm.MethodName) prog_50_method_24_code 4 none,
    Jvm.Cond.code (⟨"java/util/ArrayList", "grow", "()[Ljava/lang/Object;"⟩ : Jvm.MethodName) prog_50_method_7_code 1 (some (.array (.object "java/lang/Object"))),
    Jvm.Cond.code (⟨"java/util/ArrayList", "grow", "(I)[Ljava/lang/Object;"⟩ : Jvm.MethodName) prog_50_method_6_code 4 (some (.array (.object "java/lang/Object"))),
    Jvm.Cond.code (⟨"jdk/internal/util/ArraysSupport", "newLength", "(III)I"⟩ : Jvm.MethodName) prog_60_method_27_code 4 (some .int),
    Jvm.Cond.code (⟨"jdk/internal/util/ArraysSupport", "hugeLength", "(II)I"⟩ : Jvm.MethodName) prog_60_method_28_code 3 (some .int),
    Jvm.Cond.code (⟨"java/util/Arrays", "copyOf", "([Ljava/lang/Object;I)[Ljava/lang/Object;"⟩ : Jvm.MethodName) prog_52_method_119_code 2 (some (.array (.object "java/lang/Object"))),
    Jvm.Cond.code (⟨"java/util/Arrays", "copyOf", "([Ljava/lang/Object;ILjava/lang/Class;)[Ljava/lang/Object;"⟩ : Jvm.MethodName) prog_52_method_120_code 4 (some (.array (.object "java/lang/Object"))),
    Jvm.Cond.code (⟨"java/util/ArrayList", "size", "()I"⟩ : Jvm.MethodName) prog_50_method_8_code 1 (some .int),
    Jvm.Cond.code (⟨"SequencepointModel$Frame", "<init>", "(I)V"⟩ : Jvm.MethodName) prog_16_method_1_code 3 none,
    Jvm.Cond.code (⟨"SequencepointModel$Run", "does", "(LSequencepointModel$Statement;)Z"⟩ : Jvm.MethodName) prog_18_method_29_code 7 (some .boolean),
    Jvm.Cond.code (⟨"SequencepointModel$Run", "steps", "()V"⟩ : Jvm.MethodName) prog_18_method_4_code 1 none,
    Jvm.Cond.code (⟨"SequencepointModel$End", "<init>", "(CCLSequencepointModel$Node;)V"⟩ : Jvm.MethodName) prog_15_method_1_code 4 none,
    Jvm.Cond.code (⟨"java/lang/Exception", "<init>", "(Ljava/lang/String;Ljava/lang/Throwable;)V"⟩ : Jvm.MethodName) prog_28_method_3_code 3 none,
    Jvm.Cond.code (⟨"java/lang/Throwable", "<init>", "(Ljava/lang/String;Ljava/lang/Throwable;)V"⟩ : Jvm.MethodName) prog_44_method_3_code 3 none,
    Jvm.Cond.code (⟨"SequencepointModel$Run", "full", "(LSequencepointModel$Node;)J"⟩ : Jvm.MethodName) prog_18_method_28_code 5 (some .long),
    Jvm.Cond.code (⟨"SequencepointModel$Run", "value", "(LSequencepointModel$Node;)J"⟩ : Jvm.MethodName) prog_18_method_21_code 6 (some .long),
    Jvm.Cond.code (⟨"SequencepointModel$Run", "lifeOf", "(I)J"⟩ : Jvm.MethodName) prog_18_method_10_code 3 (some .long),
    Jvm.Cond.code (⟨"java/util/ArrayList", "get", "(I)Ljava/lang/Object;"⟩ : Jvm.MethodName) prog_50_method_20_code 2 (some (.object "java/lang/Object")),
    Jvm.Cond.code (⟨"java/util/Objects", "checkIndex", "(II)I"⟩ : Jvm.MethodName) prog_57_method_17_code 2 (some .int),
    Jvm.Cond.code (⟨"java/util/ArrayList", "elementData", "(I)Ljava/lang/Object;"⟩ : Jvm.MethodName) prog_50_method_18_code 2 (some (.object "java/lang/Object")),
    Jvm.Cond.code (⟨"SequencepointModel$Run", "reads", "(JLSequencepointModel$Node;)J"⟩ : Jvm.MethodName) prog_18_method_12_code 5 (some .long),
    Jvm.Cond.code (⟨"SequencepointModel$Run", "reached", "(JLSequencepointModel$Node;)LSequencepointModel$Thing;"⟩ : Jvm.MethodName) prog_18_method_11_code 5 (some (.object "SequencepointModel$Thing")),
    Jvm.Cond.code (⟨"SequencepointModel$Run", "thing", "(J)LSequencepointModel$Thing;"⟩ : Jvm.MethodName) prog_18_method_7_code 3 (some (.object "SequencepointModel$Thing")),
    Jvm.Cond.code (⟨"SequencepointModel$Run", "none", "(CLSequencepointModel$Node;)LSequencepointModel$End;"⟩ : Jvm.MethodName) prog_18_method_5_code 3 (some (.object "SequencepointModel$End")),
    Jvm.Cond.code (⟨"SequencepointModel$Run", "partOf", "(J)I"⟩ : Jvm.MethodName) prog_18_method_8_code 2 (some .int),
    Jvm.Cond.code (⟨"SequencepointModel$Run", "cellOf", "(J)I"⟩ : Jvm.MethodName) prog_18_method_9_code 2 (some .int),
    Jvm.Cond.code (⟨"SequencepointModel$Run", "notes", "(IZ)V"⟩ : Jvm.MethodName) prog_18_method_6_code 5 none,
    Jvm.Cond.code (⟨"SequencepointModel$Run", "holds", "(LSequencepointModel$Node;)Z"⟩ : Jvm.MethodName) prog_18_method_20_code 2 (some .boolean),
    Jvm.Cond.code (⟨"SequencepointModel", "convert", "(IJ)J"⟩ : Jvm.MethodName) prog_14_method_11_code 5 (some .long),
    Jvm.Cond.code (⟨"SequencepointModel$Run", "called", "(LSequencepointModel$Node;)J"⟩ : Jvm.MethodName) prog_18_method_27_code 9 (some .long),
    Jvm.Cond.code (⟨"SequencepointModel$Run", "two", "(LSequencepointModel$Node;Z)[J"⟩ : Jvm.MethodName) prog_18_method_17_code 12 (some (.array .long)),
    Jvm.Cond.code (⟨"SequencepointModel$Node", "hasCall", "()Z"⟩ : Jvm.MethodName) prog_17_method_3_code 6 (some .boolean),
    Jvm.Cond.code (⟨"SequencepointModel$Run", "part", "(LSequencepointModel$Node;Z)J"⟩ : Jvm.MethodName) prog_18_method_16_code 3 (some .long),
    Jvm.Cond.code (⟨"SequencepointModel$Run", "place", "(LSequencepointModel$Node;)J"⟩ : Jvm.MethodName) prog_18_method_19_code 2 (some .long),
    Jvm.Cond.code (⟨"SequencepointModel$Run", "clash", "(IIII)Z"⟩ : Jvm.MethodName) prog_18_method_15_code 8 (some .boolean),
    Jvm.Cond.code (⟨"java/lang/Integer", "valueOf", "(I)Ljava/lang/Integer;"⟩ : Jvm.MethodName) prog_32_method_22_code 1 (some (.object "java/lang/Integer")),
    Jvm.Cond.code (⟨"java/lang/Integer", "<init>", "(I)V"⟩ : Jvm.MethodName) prog_32_method_23_code 2 none,
    Jvm.Cond.code (⟨"java/lang/Number", "<init>", "()V"⟩ : Jvm.MethodName) prog_37_method_1_code 1 none,
    Jvm.Cond.code (⟨"java/util/ArrayList", "iterator", "()Ljava/util/Iterator;"⟩ : Jvm.MethodName) prog_50_method_55_code 1 (some (.object "java/util/Iterator"))] := by
  first
  | rfl
  | simp only [tables_1_9, List.filter, su_isCode]
set_option maxRecDepth 16384 in
theorem od1.codes_hold_9 : ∀ c ∈ tables_1_9.filter su_isCode, c.before args0 about = true := by
  rw [codes_are_9]
  exact List.forall_mem_cons.mpr ⟨code259, List.forall_mem_cons.mpr ⟨code260, List.forall_mem_cons.mpr ⟨code261, List.forall_mem_cons.mpr ⟨code262, List.forall_mem_cons.mpr ⟨code263, List.forall_mem_cons.mpr ⟨code264, List.forall_mem_cons.mpr ⟨code265, List.forall_mem_cons.mpr ⟨code266, List.forall_mem_cons.mpr ⟨code267, List.forall_mem_cons.mpr ⟨code268, List.forall_mem_cons.mpr ⟨code269, List.forall_mem_cons.mpr ⟨code270, List.forall_mem_cons.mpr ⟨code271, List.forall_mem_cons.mpr ⟨code272, List.forall_mem_cons.mpr ⟨code273, List.forall_mem_cons.mpr ⟨code274, List.forall_mem_cons.mpr ⟨code275, List.forall_mem_cons.mpr ⟨code276, List.forall_mem_cons.mpr ⟨code277, List.forall_mem_cons.mpr ⟨code278, List.forall_mem_cons.mpr ⟨code279, List.forall_mem_cons.mpr ⟨code280, List.forall_mem_cons.mpr ⟨code281, List.forall_mem_cons.mpr ⟨code282, List.forall_mem_cons.mpr ⟨code283, List.forall_mem_cons.mpr ⟨code284, List.forall_mem_cons.mpr ⟨code285, List.forall_mem_cons.mpr ⟨code286, List.forall_mem_cons.mpr ⟨code287, List.forall_mem_cons.mpr ⟨code288, List.forall_mem_cons.mpr ⟨code289, List.forall_mem_cons.mpr ⟨code290, List.forall_mem_cons.mpr ⟨code291, List.forall_mem_cons.mpr ⟨code292, List.forall_mem_cons.mpr ⟨code293, List.forall_mem_cons.mpr ⟨code294, List.forall_mem_cons.mpr ⟨code295, List.forall_mem_cons.mpr ⟨code296, List.forall_mem_cons.mpr ⟨code297, List.forall_mem_nil _⟩⟩⟩⟩⟩⟩⟩⟩⟩⟩⟩⟩⟩⟩⟩⟩⟩⟩⟩⟩⟩⟩⟩⟩⟩⟩⟩⟩⟩⟩⟩⟩⟩⟩⟩⟩⟩⟩⟩
set_option maxRecDepth 100000 in
theorem od1.others_9_0 : (tables_1_9.take 120).all od1.chk = true := by decide +kernel
set_option maxRecDepth 100000 in
theorem od1.others_9_1 : ((tables_1_9.drop 120).take 120).all od1.chk = true := by decide +kernel
set_option maxRecDepth 100000 in
theorem od1.others_9_2 : ((tables_1_9.drop 120).drop 120).all od1.chk = true := by decide +kernel
theorem od1.others_hold_9 : tables_1_9.all (fun c => su_isCode c || c.before args0 about) = true := od1.from_chk start1.words_9 (od1.su_all_split _ 120 tables_1_9 od1.others_9_0 (od1.su_all_split _ 120 (tables_1_9.drop 120) od1.others_9_1 od1.others_9_2))
set_option maxRecDepth 16384 in
theorem od1.words_9 : ∀ c ∈ tables_1_9, c.before args0 about = true := fun c h => su_words others_hold_9 codes_hold_9 c h
theorem od1.code298 : (Jvm.Cond.code (⟨"java/util/ArrayList$Itr", "<init>", "(Ljava/util/ArrayList;)V"⟩ : Jvm.MethodName) prog_51_method_1_code 2 none).before args0 about = true := od1.code_of (by decide +kernel) start1.code298
theorem od1.code299 : (Jvm.Cond.code (⟨"java/util/ArrayList$Itr", "hasNext", "()Z"⟩ : Jvm.MethodName) prog_51_method_2_code 1 (some .boolean)).before args0 about = true := od1.code_of (by decide +kernel) start1.code299
theorem od1.code300 : (Jvm.Cond.code (⟨"java/util/ArrayList$Itr", "next", "()Ljava/lang/Object;"⟩ : Jvm.MethodName) prog_51_method_3_code 3 (some (.object "java/lang/Object"))).before args0 about = true := od1.code_of (by decide +kernel) start1.code300
theorem od1.code301 : (Jvm.Cond.code (⟨"java/util/ArrayList$Itr", "checkForComodification", "()V"⟩ : Jvm.MethodName) prog_51_method_6_code 1 none).before args0 about = true := od1.code_of (by decide +kernel) start1.code301
theorem od1.code302 : (Jvm.Cond.code (⟨"java/util/NoSuchElementException", "<init>", "()V"⟩ : Jvm.MethodName) prog_56_method_1_code 1 none).before args0 about = true := od1.code_of (by decide +kernel) start1.code302
theorem od1.code303 : (Jvm.Cond.code (⟨"java/lang/RuntimeException", "<init>", "()V"⟩ : Jvm.MethodName) prog_38_method_1_code 1 none).before args0 about = true := od1.code_of (by decide +kernel) start1.code303
theorem od1.code304 : (Jvm.Cond.code (⟨"java/lang/Exception", "<init>", "()V"⟩ : Jvm.MethodName) prog_28_method_1_code 1 none).before args0 about = true := od1.code_of (by decide +kernel) start1.code304
theorem od1.code305 : (Jvm.Cond.code (⟨"java/lang/Integer", "intValue", "()I"⟩ : Jvm.MethodName) prog_32_method_27_code 1 (some .int)).before args0 about = true := od1.code_of (by decide +kernel) start1.code305
theorem od1.code306 : (Jvm.Cond.code (⟨"SequencepointModel$Run", "assigned", "(LSequencepointModel$Node;)J"⟩ : Jvm.MethodName) prog_18_method_26_code 8 (some .long)).before args0 about = true := od1.code_of (by decide +kernel) start1.code306
theorem od1.code307 : (Jvm.Cond.code (⟨"SequencepointModel$Run", "isWritten", "(IJ)Z"⟩ : Jvm.MethodName) prog_18_method_18_code 6 (some .boolean)).before args0 about = true := od1.code_of (by decide +kernel) start1.code307
theorem od1.code308 : (Jvm.Cond.code (⟨"SequencepointModel$Run", "moved", "(JJLSequencepointModel$Node;)J"⟩ : Jvm.MethodName) prog_18_method_14_code 9 (some .long)).before args0 about = true := od1.code_of (by decide +kernel) start1.code308
theorem od1.code309 : (Jvm.Cond.code (⟨"SequencepointModel", "reckon", "(CIJJ)J"⟩ : Jvm.MethodName) prog_14_method_42_code 10 (some .long)).before args0 about = true := od1.code_of (by decide +kernel) start1.code309
theorem od1.code310 : (Jvm.Cond.code (⟨"SequencepointModel", "fits", "(IJ)J"⟩ : Jvm.MethodName) prog_14_method_43_code 4 (some .long)).before args0 about = true := od1.code_of (by decide +kernel) start1.code310
theorem od1.code311 : (Jvm.Cond.code (⟨"SequencepointModel$Run", "known", "(LSequencepointModel$Node;J)J"⟩ : Jvm.MethodName) prog_18_method_23_code 4 (some .long)).before args0 about = true := od1.code_of (by decide +kernel) start1.code311
theorem od1.code312 : (Jvm.Cond.code (⟨"SequencepointModel$Run", "writes", "(JJLSequencepointModel$Node;)V"⟩ : Jvm.MethodName) prog_18_method_13_code 7 none).before args0 about = true := od1.code_of (by decide +kernel) start1.code312
theorem od1.code313 : (Jvm.Cond.code (⟨"SequencepointModel$Run", "one", "(LSequencepointModel$Node;)J"⟩ : Jvm.MethodName) prog_18_method_22_code 4 (some .long)).before args0 about = true := od1.code_of (by decide +kernel) start1.code313
theorem od1.code314 : (Jvm.Cond.code (⟨"SequencepointModel$Run", "counted", "(LSequencepointModel$Node;)J"⟩ : Jvm.MethodName) prog_18_method_25_code 11 (some .long)).before args0 about = true := od1.code_of (by decide +kernel) start1.code314
theorem od1.code315 : (Jvm.Cond.code (⟨"SequencepointModel", "gives", "(LSequencepointModel$Node;JJ)J"⟩ : Jvm.MethodName) prog_14_method_44_code 12 (some .long)).before args0 about = true := od1.code_of (by decide +kernel) start1.code315
theorem od1.code316 : (Jvm.Cond.code (⟨"SequencepointModel$Run", "both", "(LSequencepointModel$Node;)J"⟩ : Jvm.MethodName) prog_18_method_24_code 3 (some .long)).before args0 about = true := od1.code_of (by decide +kernel) start1.code316
theorem od1.code317 : (Jvm.Cond.code (⟨"SequencepointModel$Run", "prints", "(J)V"⟩ : Jvm.MethodName) prog_18_method_32_code 5 none).before args0 about = true := od1.code_of (by decide +kernel) start1.code317
theorem od1.code318 : (Jvm.Cond.code (⟨"java/lang/StringBuilder", "<init>", "()V"⟩ : Jvm.MethodName) prog_40_method_1_code 1 none).before args0 about = true := od1.code_of (by decide +kernel) start1.code318
theorem od1.code319 : (Jvm.Cond.code (⟨"java/lang/AbstractStringBuilder", "<init>", "(I)V"⟩ : Jvm.MethodName) prog_22_method_2_code 2 none).before args0 about = true := od1.code_of (by decide +kernel) start1.code319
theorem od1.code320 : (Jvm.Cond.code (⟨"java/lang/StringUTF16", "newBytesFor", "(I)[B"⟩ : Jvm.MethodName) prog_42_method_2_code 1 (some (.array .byte))).before args0 about = true := od1.code_of (by decide +kernel) start1.code320
theorem od1.code321 : (Jvm.Cond.code (⟨"java/lang/StringUTF16", "newBytesLength", "(I)I"⟩ : Jvm.MethodName) prog_42_method_3_code 1 (some .int)).before args0 about = true := od1.code_of (by decide +kernel) start1.code321
theorem od1.code322 : (Jvm.Cond.code (⟨"java/lang/StringBuilder", "append", "(J)Ljava/lang/StringBuilder;"⟩ : Jvm.MethodName) prog_40_method_16_code 3 (some (.object "java/lang/StringBuilder"))).before args0 about = true := od1.code_of (by decide +kernel) start1.code322
theorem od1.code323 : (Jvm.Cond.code (⟨"java/lang/AbstractStringBuilder", "append", "(J)Ljava/lang/AbstractStringBuilder;"⟩ : Jvm.MethodName) prog_22_method_33_code 5 (some (.object "java/lang/AbstractStringBuilder"))).before args0 about = true := od1.code_of (by decide +kernel) start1.code323
theorem od1.code324 : (Jvm.Cond.code (⟨"java/lang/Long", "stringSize", "(J)I"⟩ : Jvm.MethodName) prog_35_method_15_code 6 (some .int)).before args0 about = true := od1.code_of (by decide +kernel) start1.code324
theorem od1.code325 : (Jvm.Cond.code (⟨"java/lang/AbstractStringBuilder", "ensureCapacityInternal", "(I)V"⟩ : Jvm.MethodName) prog_22_method_9_code 3 none).before args0 about = true := od1.code_of (by decide +kernel) start1.code325
theorem od1.code326 : (Jvm.Cond.code (⟨"java/lang/AbstractStringBuilder", "newCapacity", "(I)I"⟩ : Jvm.MethodName) prog_22_method_10_code 6 (some .int)).before args0 about = true := od1.code_of (by decide +kernel) start1.code326
theorem od1.code327 : (Jvm.Cond.code (⟨"java/util/Arrays", "copyOf", "([BI)[B"⟩ : Jvm.MethodName) prog_52_method_121_code 3 (some (.array .byte))).before args0 about = true := od1.code_of (by decide +kernel) start1.code327
theorem od1.code328 : (Jvm.Cond.code (⟨"java/lang/AbstractStringBuilder", "isLatin1", "()Z"⟩ : Jvm.MethodName) prog_22_method_68_code 1 (some .boolean)).before args0 about = true := od1.code_of (by decide +kernel) start1.code328
theorem od1.code329 : (Jvm.Cond.code (⟨"java/lang/Long", "getChars", "(JI[B)I"⟩ : Jvm.MethodName) prog_35_method_14_code 11 (some .int)).before args0 about = true := od1.code_of (by decide +kernel) start1.code329
theorem od1.code330 : (Jvm.Cond.code (⟨"java/lang/StringUTF16", "getChars", "(JII[B)I"⟩ : Jvm.MethodName) prog_42_method_78_code 6 (some .int)).before args0 about = true := od1.code_of (by decide +kernel) start1.code330
theorem od1.code331 : (Jvm.Cond.code (⟨"java/lang/StringUTF16", "getChars", "(JI[B)I"⟩ : Jvm.MethodName) prog_42_method_90_code 11 (some .int)).before args0 about = true := od1.code_of (by decide +kernel) start1.code331
theorem od1.code332 : (Jvm.Cond.code (⟨"java/lang/StringUTF16", "putChar", "([BII)V"⟩ : Jvm.MethodName) prog_42_method_4_code 3 none).before args0 about = true := od1.code_of (by decide +kernel) start1.code332
theorem od1.code333 : (Jvm.Cond.code (⟨"java/lang/StringBuilder", "append", "(C)Ljava/lang/StringBuilder;"⟩ : Jvm.MethodName) prog_40_method_14_code 2 (some (.object "java/lang/StringBuilder"))).before args0 about = true := od1.code_of (by decide +kernel) start1.code333
theorem od1.code334 : (Jvm.Cond.code (⟨"java/lang/AbstractStringBuilder", "append", "(C)Ljava/lang/AbstractStringBuilder;"⟩ : Jvm.MethodName) prog_22_method_31_code 2 (some (.object "java/lang/AbstractStringBuilder"))).before args0 about = true := od1.code_of (by decide +kernel) start1.code334
theorem od1.code335 : (Jvm.Cond.code (⟨"java/lang/StringLatin1", "canEncode", "(C)Z"⟩ : Jvm.MethodName) prog_41_method_3_code 1 (some .boolean)).before args0 about = true := od1.code_of (by decide +kernel) start1.code335
theorem od1.code336 : (Jvm.Cond.code (⟨"java/lang/AbstractStringBuilder", "inflate", "()V"⟩ : Jvm.MethodName) prog_22_method_11_code 2 none).before args0 about = true := od1.code_of (by decide +kernel) start1.code336
theorem od1.code337 : (Jvm.Cond.code (⟨"java/lang/StringLatin1", "inflate", "([BI[BII)V"⟩ : Jvm.MethodName) prog_41_method_50_code 5 none).before args0 about = true := od1.code_of (by decide +kernel) start1.code337
theorem od1.code338 : (Jvm.Cond.code (⟨"java/lang/StringUTF16", "inflate", "([BI[BII)V"⟩ : Jvm.MethodName) prog_42_method_86_code 6 none).before args0 about = true := od1.code_of (by decide +kernel) start1.code338
theorem od1.code339 : (Jvm.Cond.code (⟨"java/lang/StringUTF16", "checkBoundsOffCount", "(II[B)V"⟩ : Jvm.MethodName) prog_42_method_94_code 3 none).before args0 about = true := od1.code_of (by decide +kernel) start1.code339
set_option maxRecDepth 16384 in
theorem od1.code340 : (Jvm.Cond.code (⟨"java/lang/String", "checkBoundsOffCount", "(III)I"⟩ : Jvm.MethodName) prog_39_method_157_code 3 (some .int)).before args0 about = true :=
  su_hand_word (m := ⟨40, 6⟩) (by decide +kernel) rfl (by decide +kernel) (by decide +kernel)
theorem od1.code341 : (Jvm.Cond.code (⟨"jdk/internal/util/Preconditions", "checkFromIndexSize", "(IIILjava/util/function/BiFunction;)I"⟩ : Jvm.MethodName) prog_61_method_13_code 4 (some .int)).before args0 about = true := od1.code_of (by decide +kernel) start1.code341
theorem od1.code342 : (Jvm.Cond.code (⟨"java/lang/StringUTF16", "putCharSB", "([BII)V"⟩ : Jvm.MethodName) prog_42_method_71_code 3 none).before args0 about = true := od1.code_of (by decide +kernel) start1.code342
theorem od1.code343 : (Jvm.Cond.code (⟨"java/lang/StringUTF16", "checkIndex", "(I[B)V"⟩ : Jvm.MethodName) prog_42_method_91_code 2 none).before args0 about = true := od1.code_of (by decide +kernel) start1.code343
theorem od1.code344 : (Jvm.Cond.code (⟨"SequencepointModel$Run", "prints", "(C)V"⟩ : Jvm.MethodName) prog_18_method_31_code 2 none).before args0 about = true := od1.code_of (by decide +kernel) start1.code344
set_option maxRecDepth 16384 in
theorem od1.codes_are_10 : tables_1_10.filter su_isCode = [Jvm.Cond.code (⟨"java/util/ArrayList$Itr", "<init>", "(Ljava/util/ArrayList;)V"⟩ : Jvm.MethodName) prog_51_method_1_code 2 none,
    Jvm.Cond.code (⟨"java/util/ArrayList$Itr", "hasNext", "()Z"⟩ : Jvm.MethodName) prog_51_method_2_code 1 (some .boolean),
    Jvm.Cond.code (⟨"java/util/ArrayList$Itr", "next", "()Ljava/lang/Object;"⟩ : Jvm.MethodName) prog_51_method_3_code 3 (some (.object "java/lang/Object")),
    Jvm.Cond.code (⟨"java/util/ArrayList$Itr", "checkForComodification", "()V"⟩ : Jvm.MethodName) prog_51_method_6_code 1 none,
    Jvm.Cond.code (⟨"java/util/NoSuchElementException", "<init>", "()V"⟩ : Jvm.MethodName) prog_56_method_1_code 1 none,
    Jvm.Cond.code (⟨"java/lang/RuntimeException", "<init>", "()V"⟩ : Jvm.MethodName) prog_38_method_1_code 1 none,
    Jvm.Cond.code (⟨"java/lang/Exception", "<init>", "()V"⟩ : Jvm.MethodName) prog_28_method_1_code 1 none,
    Jvm.Cond.code (⟨"java/lang/Integer", "intValue", "()I"⟩ : Jvm.MethodName) prog_32_method_27_code 1 (some .int),
    Jvm.Cond.code (⟨"SequencepointModel$Run", "assigned", "(LSequencepointModel$Node;)J"⟩ : Jvm.MethodName) prog_18_method_26_code 8 (some .long),
    Jvm.Cond.code (⟨"SequencepointModel$Run", "isWritten", "(IJ)Z"⟩ : Jvm.MethodName) prog_18_method_18_code 6 (some .boolean),
    Jvm.Cond.code (⟨"SequencepointModel$Run", "moved", "(JJLSequencepointModel$Node;)J"⟩ : Jvm.MethodName) prog_18_method_14_code 9 (some .long),
    Jvm.Cond.code (⟨"SequencepointModel", "reckon", "(CIJJ)J"⟩ : Jvm.MethodName) prog_14_method_42_code 10 (some .long),
    Jvm.Cond.code (⟨"SequencepointModel", "fits", "(IJ)J"⟩ : Jvm.MethodName) prog_14_method_43_code 4 (some .long),
    Jvm.Cond.code (⟨"SequencepointModel$Run", "known", "(LSequencepointModel$Node;J)J"⟩ : Jvm.MethodName) prog_18_method_23_code 4 (some .long),
    Jvm.Cond.code (⟨"SequencepointModel$Run", "writes", "(JJLSequencepointModel$Node;)V"⟩ : Jvm.MethodName) prog_18_method_13_code 7 none,
    Jvm.Cond.code (⟨"SequencepointModel$Run", "one", "(LSequencepointModel$Node;)J"⟩ : Jvm.MethodName) prog_18_method_22_code 4 (some .long),
    Jvm.Cond.code (⟨"SequencepointModel$Run", "counted", "(LSequencepointModel$Node;)J"⟩ : Jvm.MethodName) prog_18_method_25_code 11 (some .long),
    Jvm.Cond.code (⟨"SequencepointModel", "gives", "(LSequencepointModel$Node;JJ)J"⟩ : Jvm.MethodName) prog_14_method_44_code 12 (some .long),
    Jvm.Cond.code (⟨"SequencepointModel$Run", "both", "(LSequencepointModel$Node;)J"⟩ : Jvm.MethodName) prog_18_method_24_code 3 (some .long),
    Jvm.Cond.code (⟨"SequencepointModel$Run", "prints", "(J)V"⟩ : Jvm.MethodName) prog_18_method_32_code 5 none,
    Jvm.Cond.code (⟨"java/lang/StringBuilder", "<init>", "()V"⟩ : Jvm.MethodName) prog_40_method_1_code 1 none,
    Jvm.Cond.code (⟨"java/lang/AbstractStringBuilder", "<init>", "(I)V"⟩ : Jvm.MethodName) prog_22_method_2_code 2 none,
    Jvm.Cond.code (⟨"java/lang/StringUTF16", "newBytesFor", "(I)[B"⟩ : Jvm.MethodName) prog_42_method_2_code 1 (some (.array .byte)),
    Jvm.Cond.code (⟨"java/lang/StringUTF16", "newBytesLength", "(I)I"⟩ : Jvm.MethodName) prog_42_method_3_code 1 (some .int),
    Jvm.Cond.code (⟨"java/lang/StringBuilder", "append", "(J)Ljava/lang/StringBuilder;"⟩ : Jvm.MethodName) prog_40_method_16_code 3 (some (.object "java/lang/StringBuilder")),
    Jvm.Cond.code (⟨"java/lang/AbstractStringBuilder", "append", "(J)Ljava/lang/AbstractStringBuilder;"⟩ : Jvm.MethodName) prog_22_method_33_code 5 (some (.object "java/lang/AbstractStringBuilder")),
    Jvm.Cond.code (⟨"java/lang/Long", "stringSize", "(J)I"⟩ : Jvm.MethodName) prog_35_method_15_code 6 (some .int),
    Jvm.Cond.code (⟨"java/lang/AbstractStringBuilder", "ensureCapacityInternal", "(I)V"⟩ : Jvm.MethodName) prog_22_method_9_code 3 none,
    Jvm.Cond.code (⟨"java/lang/AbstractStringBuilder", "newCapacity", "(I)I"⟩ : Jvm.MethodName) prog_22_method_10_code 6 (some .int),
    Jvm.Cond.code (⟨"java/util/Arrays", "copyOf", "([BI)[B"⟩ : Jvm.MethodName) prog_52_method_121_code 3 (some (.array .byte)),
    Jvm.Cond.code (⟨"java/lang/AbstractStringBuilder", "isLatin1", "()Z"⟩ : Jvm.MethodName) prog_22_method_68_code 1 (some .boolean),
    Jvm.Cond.code (⟨"java/lang/Long", "getChars", "(JI[B)I"⟩ : Jvm.MethodName) prog_35_method_14_code 11 (some .int),
    Jvm.Cond.code (⟨"java/lang/StringUTF16", "getChars", "(JII[B)I"⟩ : Jvm.MethodName) prog_42_method_78_code 6 (some .int),
    Jvm.Cond.code (⟨"java/lang/StringUTF16", "getChars", "(JI[B)I"⟩ : Jvm.MethodName) prog_42_method_90_code 11 (some .int),
    Jvm.Cond.code (⟨"java/lang/StringUTF16", "putChar", "([BII)V"⟩ : Jvm.MethodName) prog_42_method_4_code 3 none,
    Jvm.Cond.code (⟨"java/lang/StringBuilder", "append", "(C)Ljava/lang/StringBuilder;"⟩ : Jvm.MethodName) prog_40_method_14_code 2 (some (.object "java/lang/StringBuilder")),
    Jvm.Cond.code (⟨"java/lang/AbstractStringBuilder", "append", "(C)Ljava/lang/AbstractStringBuilder;"⟩ : Jvm.MethodName) prog_22_method_31_code 2 (some (.object "java/lang/AbstractStringBuilder")),
    Jvm.Cond.code (⟨"java/lang/StringLatin1", "canEncode", "(C)Z"⟩ : Jvm.MethodName) prog_41_method_3_code 1 (some .boolean),
    Jvm.Cond.code (⟨"java/lang/AbstractStringBuilder", "inflate", "()V"⟩ : Jvm.MethodName) prog_22_method_11_code 2 none,
    Jvm.Cond.code (⟨"java/lang/StringLatin1", "inflate", "([BI[BII)V"⟩ : Jvm.MethodName) prog_41_method_50_code 5 none,
    Jvm.Cond.code (⟨"java/lang/StringUTF16", "inflate", "([BI[BII)V"⟩ : Jvm.MethodName) prog_42_method_86_code 6 none,
    Jvm.Cond.code (⟨"java/lang/StringUTF16", "checkBoundsOffCount", "(II[B)V"⟩ : Jvm.MethodName) prog_42_method_94_code 3 none,
    Jvm.Cond.code (⟨"java/lang/String", "checkBoundsOffCount", "(III)I"⟩ : Jvm.MethodName) prog_39_method_157_code 3 (some .int),
    Jvm.Cond.code (⟨"jdk/internal/util/Preconditions", "checkFromIndexSize", "(IIILjava/util/function/BiFunction;)I"⟩ : Jvm.MethodName) prog_61_method_13_code 4 (some .int),
    Jvm.Cond.code (⟨"java/lang/StringUTF16", "putCharSB", "([BII)V"⟩ : Jvm.MethodName) prog_42_method_71_code 3 none,
    Jvm.Cond.code (⟨"java/lang/StringUTF16", "checkIndex", "(I[B)V"⟩ : Jvm.MethodName) prog_42_method_91_code 2 none,
    Jvm.Cond.code (⟨"SequencepointModel$Run", "prints", "(C)V"⟩ : Jvm.MethodName) prog_18_method_31_code 2 none] := by
  first
  | rfl
  | simp only [tables_1_10, List.filter, su_isCode]
set_option maxRecDepth 16384 in
theorem od1.codes_hold_10 : ∀ c ∈ tables_1_10.filter su_isCode, c.before args0 about = true := by
  rw [codes_are_10]
  exact List.forall_mem_cons.mpr ⟨code298, List.forall_mem_cons.mpr ⟨code299, List.forall_mem_cons.mpr ⟨code300, List.forall_mem_cons.mpr ⟨code301, List.forall_mem_cons.mpr ⟨code302, List.forall_mem_cons.mpr ⟨code303, List.forall_mem_cons.mpr ⟨code304, List.forall_mem_cons.mpr ⟨code305, List.forall_mem_cons.mpr ⟨code306, List.forall_mem_cons.mpr ⟨code307, List.forall_mem_cons.mpr ⟨code308, List.forall_mem_cons.mpr ⟨code309, List.forall_mem_cons.mpr ⟨code310, List.forall_mem_cons.mpr ⟨code311, List.forall_mem_cons.mpr ⟨code312, List.forall_mem_cons.mpr ⟨code313, List.forall_mem_cons.mpr ⟨code314, List.forall_mem_cons.mpr ⟨code315, List.forall_mem_cons.mpr ⟨code316, List.forall_mem_cons.mpr ⟨code317, List.forall_mem_cons.mpr ⟨code318, List.forall_mem_cons.mpr ⟨code319, List.forall_mem_cons.mpr ⟨code320, List.forall_mem_cons.mpr ⟨code321, List.forall_mem_cons.mpr ⟨code322, List.forall_mem_cons.mpr ⟨code323, List.forall_mem_cons.mpr ⟨code324, List.forall_mem_cons.mpr ⟨code325, List.forall_mem_cons.mpr ⟨code326, List.forall_mem_cons.mpr ⟨code327, List.forall_mem_cons.mpr ⟨code328, List.forall_mem_cons.mpr ⟨code329, List.forall_mem_cons.mpr ⟨code330, List.forall_mem_cons.mpr ⟨code331, List.forall_mem_cons.mpr ⟨code332, List.forall_mem_cons.mpr ⟨code333, List.forall_mem_cons.mpr ⟨code334, List.forall_mem_cons.mpr ⟨code335, List.forall_mem_cons.mpr ⟨code336, List.forall_mem_cons.mpr ⟨code337, List.forall_mem_cons.mpr ⟨code338, List.forall_mem_cons.mpr ⟨code339, List.forall_mem_cons.mpr ⟨code340, List.forall_mem_cons.mpr ⟨code341, List.forall_mem_cons.mpr ⟨code342, List.forall_mem_cons.mpr ⟨code343, List.forall_mem_cons.mpr ⟨code344, List.forall_mem_nil _⟩⟩⟩⟩⟩⟩⟩⟩⟩⟩⟩⟩⟩⟩⟩⟩⟩⟩⟩⟩⟩⟩⟩⟩⟩⟩⟩⟩⟩⟩⟩⟩⟩⟩⟩⟩⟩⟩⟩⟩⟩⟩⟩⟩⟩⟩⟩
set_option maxRecDepth 100000 in
theorem od1.others_10_0 : (tables_1_10.take 120).all od1.chk = true := by decide +kernel
set_option maxRecDepth 100000 in
theorem od1.others_10_1 : ((tables_1_10.drop 120).take 120).all od1.chk = true := by decide +kernel
set_option maxRecDepth 100000 in
theorem od1.others_10_2 : ((tables_1_10.drop 120).drop 120).all od1.chk = true := by decide +kernel
theorem od1.others_hold_10 : tables_1_10.all (fun c => su_isCode c || c.before args0 about) = true := od1.from_chk start1.words_10 (od1.su_all_split _ 120 tables_1_10 od1.others_10_0 (od1.su_all_split _ 120 (tables_1_10.drop 120) od1.others_10_1 od1.others_10_2))
set_option maxRecDepth 16384 in
theorem od1.words_10 : ∀ c ∈ tables_1_10, c.before args0 about = true := fun c h => su_words others_hold_10 codes_hold_10 c h
theorem od1.code345 : (Jvm.Cond.code (⟨"SequencepointModel$Run", "repeats", "(LSequencepointModel$Statement;)Z"⟩ : Jvm.MethodName) prog_18_method_30_code 2 (some .boolean)).before args0 about = true := od1.code_of (by decide +kernel) start1.code345
theorem od1.code346 : (Jvm.Cond.code (⟨"SequencepointModel", "runOptimised", "(I)C"⟩ : Jvm.MethodName) prog_14_method_49_code 2 (some .char)).before args0 about = true := od1.code_of (by decide +kernel) start1.code346
theorem od1.code347 : (Jvm.Cond.code (⟨"SequencepointModel", "optimise", "()[LSequencepointModel$Statement;"⟩ : Jvm.MethodName) prog_14_method_62_code 3 (some (.array (.object "SequencepointModel$Statement")))).before args0 about = true := od1.code_of (by decide +kernel) start1.code347
theorem od1.code348 : (Jvm.Cond.code (⟨"SequencepointModel", "optimised", "(LSequencepointModel$Statement;)LSequencepointModel$Statement;"⟩ : Jvm.MethodName) prog_14_method_68_code 7 (some (.object "SequencepointModel$Statement"))).before args0 about = true := od1.code_of (by decide +kernel) start1.code348
theorem od1.code349 : (Jvm.Cond.code (⟨"SequencepointModel", "optimised", "(LSequencepointModel$Node;)LSequencepointModel$Node;"⟩ : Jvm.MethodName) prog_14_method_65_code 5 (some (.object "SequencepointModel$Node"))).before args0 about = true := od1.code_of (by decide +kernel) start1.code349
theorem od1.code350 : (Jvm.Cond.code (⟨"SequencepointModel", "isTold", "(LSequencepointModel$Node;)Z"⟩ : Jvm.MethodName) prog_14_method_63_code 1 (some .boolean)).before args0 about = true := od1.code_of (by decide +kernel) start1.code350
theorem od1.code351 : (Jvm.Cond.code (⟨"SequencepointModel", "chosen", "(LSequencepointModel$Node;LSequencepointModel$Node;)LSequencepointModel$Node;"⟩ : Jvm.MethodName) prog_14_method_66_code 3 (some (.object "SequencepointModel$Node"))).before args0 about = true := od1.code_of (by decide +kernel) start1.code351
theorem od1.code352 : (Jvm.Cond.code (⟨"SequencepointModel", "told", "(LSequencepointModel$Node;IJ)LSequencepointModel$Node;"⟩ : Jvm.MethodName) prog_14_method_64_code 6 (some (.object "SequencepointModel$Node"))).before args0 about = true := od1.code_of (by decide +kernel) start1.code352
theorem od1.code353 : (Jvm.Cond.code (⟨"SequencepointModel", "folded", "(LSequencepointModel$Node;)LSequencepointModel$Node;"⟩ : Jvm.MethodName) prog_14_method_67_code 7 (some (.object "SequencepointModel$Node"))).before args0 about = true := od1.code_of (by decide +kernel) start1.code353
theorem od1.code354 : (Jvm.Cond.code (⟨"SequencepointModel", "kindOf", "()C"⟩ : Jvm.MethodName) prog_14_method_50_code 1 (some .char)).before args0 about = true := od1.code_of (by decide +kernel) start1.code354
theorem od1.code355 : (Jvm.Cond.code (⟨"SequencepointModel", "placeOf", "()I"⟩ : Jvm.MethodName) prog_14_method_51_code 1 (some .int)).before args0 about = true := od1.code_of (by decide +kernel) start1.code355
theorem od1.code356 : (Jvm.Cond.code (⟨"SequencepointModel", "steps", "()I"⟩ : Jvm.MethodName) prog_14_method_52_code 1 (some .int)).before args0 about = true := od1.code_of (by decide +kernel) start1.code356
theorem od1.code357 : (Jvm.Cond.code (⟨"SequencepointModel", "choices", "()I"⟩ : Jvm.MethodName) prog_14_method_53_code 1 (some .int)).before args0 about = true := od1.code_of (by decide +kernel) start1.code357
theorem od1.code358 : (Jvm.Cond.code (⟨"SequencepointModel", "printed", "()I"⟩ : Jvm.MethodName) prog_14_method_54_code 1 (some .int)).before args0 about = true := od1.code_of (by decide +kernel) start1.code358
theorem od1.code359 : (Jvm.Cond.code (⟨"SequencepointModel", "printedAt", "(I)C"⟩ : Jvm.MethodName) prog_14_method_55_code 2 (some .char)).before args0 about = true := od1.code_of (by decide +kernel) start1.code359
theorem od1.code360 : (Jvm.Cond.code (⟨"SequencepointModel", "behaviours", "()I"⟩ : Jvm.MethodName) prog_14_method_57_code 6 (some .int)).before args0 about = true := od1.code_of (by decide +kernel) start1.code360
theorem od1.code361 : (Jvm.Cond.code (⟨"SequencepointModel", "all", "([LSequencepointModel$Statement;)[LSequencepointModel$Run;"⟩ : Jvm.MethodName) prog_14_method_56_code 4 (some (.array (.object "SequencepointModel$Run")))).before args0 about = true := od1.code_of (by decide +kernel) start1.code361
theorem od1.code362 : (Jvm.Cond.code (⟨"SequencepointModel$Run", "isLike", "(LSequencepointModel$Run;)Z"⟩ : Jvm.MethodName) prog_18_method_33_code 4 (some .boolean)).before args0 about = true := od1.code_of (by decide +kernel) start1.code362
theorem od1.code363 : (Jvm.Cond.code (⟨"SequencepointModel", "undefinedOrders", "()I"⟩ : Jvm.MethodName) prog_14_method_59_code 1 (some .int)).before args0 about = true := od1.code_of (by decide +kernel) start1.code363
theorem od1.code364 : (Jvm.Cond.code (⟨"SequencepointModel", "undefined", "([LSequencepointModel$Run;)I"⟩ : Jvm.MethodName) prog_14_method_58_code 6 (some .int)).before args0 about = true := od1.code_of (by decide +kernel) start1.code364
theorem od1.code365 : (Jvm.Cond.code (⟨"SequencepointModel", "definedShare", "()F"⟩ : Jvm.MethodName) prog_14_method_60_code 1 (some .float)).before args0 about = true := od1.code_of (by decide +kernel) start1.code365
theorem od1.code366 : (Jvm.Cond.code (⟨"SequencepointModel", "allSteps", "()J"⟩ : Jvm.MethodName) prog_14_method_61_code 1 (some .long)).before args0 about = true := od1.code_of (by decide +kernel) start1.code366
theorem od1.code367 : (Jvm.Cond.code (⟨"SequencepointModel", "optimised", "()I"⟩ : Jvm.MethodName) prog_14_method_69_code 2 (some .int)).before args0 about = true := od1.code_of (by decide +kernel) start1.code367
theorem od1.code368 : (Jvm.Cond.code (⟨"SequencepointModel", "optimisedSize", "()I"⟩ : Jvm.MethodName) prog_14_method_70_code 6 (some .int)).before args0 about = true := od1.code_of (by decide +kernel) start1.code368
theorem od1.code369 : (Jvm.Cond.code (⟨"SequencepointModel$Statement", "size", "()I"⟩ : Jvm.MethodName) prog_19_method_2_code 1 (some .int)).before args0 about = true := od1.code_of (by decide +kernel) start1.code369
theorem od1.code370 : (Jvm.Cond.code (⟨"SequencepointModel$Node", "size", "()I"⟩ : Jvm.MethodName) prog_17_method_4_code 6 (some .int)).before args0 about = true := od1.code_of (by decide +kernel) start1.code370
theorem od1.code371 : (Jvm.Cond.code (⟨"SequencepointModel", "isAsIf", "()Z"⟩ : Jvm.MethodName) prog_14_method_71_code 12 (some .boolean)).before args0 about = true := od1.code_of (by decide +kernel) start1.code371
set_option maxRecDepth 16384 in
theorem od1.codes_are_11 : tables_1_11.filter su_isCode = [Jvm.Cond.code (⟨"SequencepointModel$Run", "repeats", "(LSequencepointModel$Statement;)Z"⟩ : Jvm.MethodName) prog_18_method_30_code 2 (some .boolean),
    Jvm.Cond.code (⟨"SequencepointModel", "runOptimised", "(I)C"⟩ : Jvm.MethodName) prog_14_method_49_code 2 (some .char),
    Jvm.Cond.code (⟨"SequencepointModel", "optimise", "()[LSequencepointModel$Statement;"⟩ : Jvm.MethodName) prog_14_method_62_code 3 (some (.array (.object "SequencepointModel$Statement"))),
    Jvm.Cond.code (⟨"SequencepointModel", "optimised", "(LSequencepointModel$Statement;)LSequencepointModel$Statement;"⟩ : Jvm.MethodName) prog_14_method_68_code 7 (some (.object "SequencepointModel$Statement")),
    Jvm.Cond.code (⟨"SequencepointModel", "optimised", "(LSequencepointModel$Node;)LSequencepointModel$Node;"⟩ : Jvm.MethodName) prog_14_method_65_code 5 (some (.object "SequencepointModel$Node")),
    Jvm.Cond.code (⟨"SequencepointModel", "isTold", "(LSequencepointModel$Node;)Z"⟩ : Jvm.MethodName) prog_14_method_63_code 1 (some .boolean),
    Jvm.Cond.code (⟨"SequencepointModel", "chosen", "(LSequencepointModel$Node;LSequencepointModel$Node;)LSequencepointModel$Node;"⟩ : Jvm.MethodName) prog_14_method_66_code 3 (some (.object "SequencepointModel$Node")),
    Jvm.Cond.code (⟨"SequencepointModel", "told", "(LSequencepointModel$Node;IJ)LSequencepointModel$Node;"⟩ : Jvm.MethodName) prog_14_method_64_code 6 (some (.object "SequencepointModel$Node")),
    Jvm.Cond.code (⟨"SequencepointModel", "folded", "(LSequencepointModel$Node;)LSequencepointModel$Node;"⟩ : Jvm.MethodName) prog_14_method_67_code 7 (some (.object "SequencepointModel$Node")),
    Jvm.Cond.code (⟨"SequencepointModel", "kindOf", "()C"⟩ : Jvm.MethodName) prog_14_method_50_code 1 (some .char),
    Jvm.Cond.code (⟨"SequencepointModel", "placeOf", "()I"⟩ : Jvm.MethodName) prog_14_method_51_code 1 (some .int),
    Jvm.Cond.code (⟨"SequencepointModel", "steps", "()I"⟩ : Jvm.MethodName) prog_14_method_52_code 1 (some .int),
    Jvm.Cond.code (⟨"SequencepointModel", "choices", "()I"⟩ : Jvm.MethodName) prog_14_method_53_code 1 (some .int),
    Jvm.Cond.code (⟨"SequencepointModel", "printed", "()I"⟩ : Jvm.MethodName) prog_14_method_54_code 1 (some .int),
    Jvm.Cond.code (⟨"SequencepointModel", "printedAt", "(I)C"⟩ : Jvm.MethodName) prog_14_method_55_code 2 (some .char),
    Jvm.Cond.code (⟨"SequencepointModel", "behaviours", "()I"⟩ : Jvm.MethodName) prog_14_method_57_code 6 (some .int),
    Jvm.Cond.code (⟨"SequencepointModel", "all", "([LSequencepointModel$Statement;)[LSequencepointModel$Run;"⟩ : Jvm.MethodName) prog_14_method_56_code 4 (some (.array (.object "SequencepointModel$Run"))),
    Jvm.Cond.code (⟨"SequencepointModel$Run", "isLike", "(LSequencepointModel$Run;)Z"⟩ : Jvm.MethodName) prog_18_method_33_code 4 (some .boolean),
    Jvm.Cond.code (⟨"SequencepointModel", "undefinedOrders", "()I"⟩ : Jvm.MethodName) prog_14_method_59_code 1 (some .int),
    Jvm.Cond.code (⟨"SequencepointModel", "undefined", "([LSequencepointModel$Run;)I"⟩ : Jvm.MethodName) prog_14_method_58_code 6 (some .int),
    Jvm.Cond.code (⟨"SequencepointModel", "definedShare", "()F"⟩ : Jvm.MethodName) prog_14_method_60_code 1 (some .float),
    Jvm.Cond.code (⟨"SequencepointModel", "allSteps", "()J"⟩ : Jvm.MethodName) prog_14_method_61_code 1 (some .long),
    Jvm.Cond.code (⟨"SequencepointModel", "optimised", "()I"⟩ : Jvm.MethodName) prog_14_method_69_code 2 (some .int),
    Jvm.Cond.code (⟨"SequencepointModel", "optimisedSize", "()I"⟩ : Jvm.MethodName) prog_14_method_70_code 6 (some .int),
    Jvm.Cond.code (⟨"SequencepointModel$Statement", "size", "()I"⟩ : Jvm.MethodName) prog_19_method_2_code 1 (some .int),
    Jvm.Cond.code (⟨"SequencepointModel$Node", "size", "()I"⟩ : Jvm.MethodName) prog_17_method_4_code 6 (some .int),
    Jvm.Cond.code (⟨"SequencepointModel", "isAsIf", "()Z"⟩ : Jvm.MethodName) prog_14_method_71_code 12 (some .boolean)] := by
  first
  | rfl
  | simp only [tables_1_11, List.filter, su_isCode]
end
section
set_option maxRecDepth 16384 in
theorem od1.codes_hold_11 : ∀ c ∈ tables_1_11.filter su_isCode, c.before args0 about = true := by
  rw [codes_are_11]
  exact List.forall_mem_cons.mpr ⟨code345, List.forall_mem_cons.mpr ⟨code346, List.forall_mem_cons.mpr ⟨code347, List.forall_mem_cons.mpr ⟨code348, List.forall_mem_cons.mpr ⟨code349, List.forall_mem_cons.mpr ⟨code350, List.forall_mem_cons.mpr ⟨code351, List.forall_mem_cons.mpr ⟨code352, List.forall_mem_cons.mpr ⟨code353, List.forall_mem_cons.mpr ⟨code354, List.forall_mem_cons.mpr ⟨code355, List.forall_mem_cons.mpr ⟨code356, List.forall_mem_cons.mpr ⟨code357, List.forall_mem_cons.mpr ⟨code358, List.forall_mem_cons.mpr ⟨code359, List.forall_mem_cons.mpr ⟨code360, List.forall_mem_cons.mpr ⟨code361, List.forall_mem_cons.mpr ⟨code362, List.forall_mem_cons.mpr ⟨code363, List.forall_mem_cons.mpr ⟨code364, List.forall_mem_cons.mpr ⟨code365, List.forall_mem_cons.mpr ⟨code366, List.forall_mem_cons.mpr ⟨code367, List.forall_mem_cons.mpr ⟨code368, List.forall_mem_cons.mpr ⟨code369, List.forall_mem_cons.mpr ⟨code370, List.forall_mem_cons.mpr ⟨code371, List.forall_mem_nil _⟩⟩⟩⟩⟩⟩⟩⟩⟩⟩⟩⟩⟩⟩⟩⟩⟩⟩⟩⟩⟩⟩⟩⟩⟩⟩⟩
set_option maxRecDepth 100000 in
theorem od1.others_11_0 : (tables_1_11.take 120).all od1.chk = true := by decide +kernel
set_option maxRecDepth 100000 in
theorem od1.others_11_1 : (tables_1_11.drop 120).all od1.chk = true := by decide +kernel
theorem od1.others_hold_11 : tables_1_11.all (fun c => su_isCode c || c.before args0 about) = true := od1.from_chk start1.words_11 (od1.su_all_split _ 120 tables_1_11 od1.others_11_0 od1.others_11_1)
set_option maxRecDepth 16384 in
theorem od1.words_11 : ∀ c ∈ tables_1_11, c.before args0 about = true := fun c h => su_words others_hold_11 codes_hold_11 c h
set_option maxRecDepth 16384 in
theorem od1.words : ∀ c ∈ (Cond.code x code maxLocals ret :: tables_1), c.before args0 about = true := by
  intro c hc
  rcases List.mem_cons.mp hc with h | h
  · rw [h]; exact word_code
  · have h1 : c ∈ tables_1_1 ++ (tables_1_2 ++ (tables_1_3 ++ (tables_1_4 ++ (tables_1_5 ++ (tables_1_6 ++ (tables_1_7 ++ (tables_1_8 ++ (tables_1_9 ++ (tables_1_10 ++ tables_1_11))))))))) := h
    rcases List.mem_append.mp h1 with h2 | h1
    · exact words_1 c h2
    rcases List.mem_append.mp h1 with h2 | h1
    · exact words_2 c h2
    rcases List.mem_append.mp h1 with h2 | h1
    · exact words_3 c h2
    rcases List.mem_append.mp h1 with h2 | h1
    · exact words_4 c h2
    rcases List.mem_append.mp h1 with h2 | h1
    · exact words_5 c h2
    rcases List.mem_append.mp h1 with h2 | h1
    · exact words_6 c h2
    rcases List.mem_append.mp h1 with h2 | h1
    · exact words_7 c h2
    rcases List.mem_append.mp h1 with h2 | h1
    · exact words_8 c h2
    rcases List.mem_append.mp h1 with h2 | h1
    · exact words_9 c h2
    rcases List.mem_append.mp h1 with h2 | h1
    · exact words_10 c h2
    exact words_11 c h1
set_option maxRecDepth 16384 in
theorem od1.su_and {a b : Jvm.Cond} (h1 : a.before args0 about = true) (h2 : b.before args0 about = true) : (Jvm.Cond.and a b).before args0 about = true := by rw [Cond.before_and, Bool.and_eq_true]; exact ⟨h1, h2⟩
set_option maxRecDepth 16384 in
theorem od1.narrow_hold_1 : narrow_1_1.before args0 about = true := by decide +kernel
set_option maxRecDepth 16384 in
theorem od1.narrow_hold_2 : narrow_1_2.before args0 about = true := by decide +kernel
set_option maxRecDepth 16384 in
theorem od1.narrow_hold_3 : narrow_1_3.before args0 about = true := by decide +kernel
set_option maxRecDepth 16384 in
theorem od1.narrow_hold_4 : narrow_1_4.before args0 about = true := by decide +kernel
set_option maxRecDepth 16384 in
theorem od1.narrow_holds : narrow_1.before args0 about = true := by
  unfold narrow_1
  exact (su_and (su_and narrow_hold_1 narrow_hold_2) (su_and narrow_hold_3 narrow_hold_4))
set_option maxRecDepth 16384 in
theorem od1.atStart : AtStart classFile x code maxLocals ret World_1 tables_1 room_1 Calls_1 rest_1 Pre_1 launch0 p0 e0 about ⟨0, 0⟩ args0 Lib.HandBits.below0 :=
  ⟨lists_1, trivial, launch0.admits_env _ _ _, launch0.least_env, fairChoices_fair.cas, fairChoices_fair.clock, rfl, by decide +kernel, by decide +kernel,
    (Spec.applies_iff rfl).mpr ⟨rfl, rfl, rfl, by decide +kernel, by decide +kernel, by decide +kernel, launch0.hasRoom_least _ room_1 (by decide +kernel) (by decide +kernel) (by decide +kernel) (by decide +kernel) (by decide +kernel) (by decide +kernel), atoms_intro words⟩,
    trivial, (show rest_1_c.before args0 about = true by decide +kernel), su_and (show given_1.before args0 about = true by decide +kernel) narrow_holds⟩
end
section
/-! THE END: the claim is false at a start that it allows, od1's, with the script [5, 0, 0, 0]: the law throws there -/
set_option maxRecDepth 100000 in
theorem od1.lawo_0 : (wo_law.take 160).all (fun c => su_isCode c || c.before od1.args0 od1.about) = true := by decide +kernel
set_option maxRecDepth 100000 in
theorem od1.lawo_1 : ((wo_law.drop 160).take 160).all (fun c => su_isCode c || c.before od1.args0 od1.about) = true := by decide +kernel
set_option maxRecDepth 100000 in
theorem od1.lawo_2 : (((wo_law.drop 160).drop 160).take 160).all (fun c => su_isCode c || c.before od1.args0 od1.about) = true := by decide +kernel
set_option maxRecDepth 100000 in
theorem od1.lawo_3 : ((((wo_law.drop 160).drop 160).drop 160)).all (fun c => su_isCode c || c.before od1.args0 od1.about) = true := by decide +kernel
set_option maxRecDepth 100000 in
theorem od1.law_others : wo_law.all (fun c => su_isCode c || c.before od1.args0 od1.about) = true := (od1.su_all_split _ 160 wo_law od1.lawo_0 (od1.su_all_split _ 160 (wo_law.drop 160) od1.lawo_1 (od1.su_all_split _ 160 ((wo_law.drop 160).drop 160) od1.lawo_2 od1.lawo_3)))
set_option maxRecDepth 100000 in
theorem od1.own_code : (Cond.code od_y od_c 2 (some .char)).before od1.args0 od1.about = true := su_hand_word (m := ⟨40, start1.c40.methods.size⟩) (by decide +kernel) rfl (by decide +kernel) (by decide +kernel)
def od1.big : List Cond := Cond.code od_y od_c 2 (some .char) :: Cond.code x code maxLocals ret :: tables_1
set_option maxRecDepth 100000 in
theorem od1.law_at : wo_law.filter su_isCode = ([1, 54, 57, 62, 57, 112, 57, 192, 57, 119, 57, 270, 57, 276, 57, 343, 57, 1443, 57, 719, 724, 728, 732, 738, 742, 745, 696, 752, 748, 755, 458, 57, 490, 481, 484, 487, 1615, 1619, 738, 742, 0, 458, 57, 490, 519, 484, 487] : List Nat).filterMap (fun i => od1.big[i]?) := by rfl
set_option maxRecDepth 100000 in
theorem od1.law_codes : ∀ c ∈ wo_law.filter su_isCode, c.before od1.args0 od1.about = true := by
  intro c hc
  rw [od1.law_at] at hc
  obtain ⟨i, -, hi⟩ := List.mem_filterMap.mp hc
  rcases List.mem_cons.mp (List.mem_of_getElem? hi) with h1 | h1
  · rw [h1]; exact od1.own_code
  · exact od1.words c h1
theorem od1.law_words : ∀ c ∈ wo_law, c.before od1.args0 od1.about = true := su_words od1.law_others od1.law_codes
set_option maxRecDepth 100000 in
theorem od1.law_applies : (headSpec wo_law ({ frames := 12, cells := 240, slots := 16200, locals := 300 } : Jvm.Room)).appliesLoose yL_law od1.e0.platform od1.about = true :=
  (Spec.appliesLoose_iff (m := ⟨0, 0⟩) (args := od1.args0) (below := Lib.HandBits.below0) rfl).mpr ⟨rfl, rfl, rfl, by decide +kernel, by decide +kernel, by decide +kernel, launch0.hasRoom_least _ ({ frames := 12, cells := 240, slots := 16200, locals := 300 } : Jvm.Room) (by decide +kernel) (by decide +kernel) (by decide +kernel) (by decide +kernel) (by decide +kernel) (by decide +kernel), atoms_intro od1.law_words⟩
theorem od1.hA : ∀ a : Nat, a < od1.about.heap.size → ¬ va_A [] od1.about.heap.size a := fun a h q => q.elim (fun ⟨k, e, h⟩ => by simp at h) (fun h2 => Nat.not_le.mpr h h2)
set_option maxRecDepth 100000 in
theorem od1.known_0 : ∃ (cC : ClassId) (iS : Nat → Nat), u_Kn od1.about RJ4 TJ4 4 cC iS := by
  have h : (u_ws RJ4 TJ4 4).all (fun w => w.before od1.args0 od1.about) = true := by decide +kernel
  exact u_known (ws := u_ws RJ4 TJ4 4) (args := od1.args0) (n := 4) (fun w hw => List.all_eq_true.mp h w hw) (fun w hw => hw) (by decide +kernel)
set_option maxRecDepth 100000 in
theorem od1.known_1 : ∃ (cC : ClassId) (iS : Nat → Nat), u_Kn od1.about RJ6 TJ6 1 cC iS := by
  have h : (u_ws RJ6 TJ6 1).all (fun w => w.before od1.args0 od1.about) = true := by decide +kernel
  exact u_known (ws := u_ws RJ6 TJ6 1) (args := od1.args0) (n := 1) (fun w hw => List.all_eq_true.mp h w hw) (fun w hw => hw) (by decide +kernel)
set_option maxRecDepth 100000 in
theorem od1.known_2 : ∃ (cC : ClassId) (iS : Nat → Nat), u_Kn od1.about RJx35411 TJx35411 4 cC iS := by
  have h : (u_ws RJx35411 TJx35411 4).all (fun w => w.before od1.args0 od1.about) = true := by decide +kernel
  exact u_known (ws := u_ws RJx35411 TJx35411 4) (args := od1.args0) (n := 4) (fun w hw => List.all_eq_true.mp h w hw) (fun w hw => hw) (by decide +kernel)
set_option maxRecDepth 100000 in
theorem od1.known_3 : ∃ (cC : ClassId) (iS : Nat → Nat), u_Kn od1.about RJx4a65c TJx4a65c 3 cC iS := by
  have h : (u_ws RJx4a65c TJx4a65c 3).all (fun w => w.before od1.args0 od1.about) = true := by decide +kernel
  exact u_known (ws := u_ws RJx4a65c TJx4a65c 3) (args := od1.args0) (n := 3) (fun w hw => List.all_eq_true.mp h w hw) (fun w hw => hw) (by decide +kernel)
set_option maxRecDepth 100000 in
theorem od1.known_4 : ∃ (cC : ClassId) (iS : Nat → Nat), u_Kn od1.about RX0 TX0 4 cC iS := by
  have h : (u_ws RX0 TX0 4).all (fun w => w.before od1.args0 od1.about) = true := by decide +kernel
  exact u_known (ws := u_ws RX0 TX0 4) (args := od1.args0) (n := 4) (fun w hw => List.all_eq_true.mp h w hw) (fun w hw => hw) (by decide +kernel)
set_option maxRecDepth 100000 in
theorem od1.known_5 : ∃ (cC : ClassId) (iS : Nat → Nat), u_Kn od1.about RX1 TX1 8 cC iS := by
  have h : (u_ws RX1 TX1 8).all (fun w => w.before od1.args0 od1.about) = true := by decide +kernel
  exact u_known (ws := u_ws RX1 TX1 8) (args := od1.args0) (n := 8) (fun w hw => List.all_eq_true.mp h w hw) (fun w hw => hw) (by decide +kernel)
set_option maxRecDepth 100000 in
theorem od1.known_6 : ∃ (cC : ClassId) (iS : Nat → Nat), u_Kn od1.about RX2 TX2 11 cC iS := by
  have h : (u_ws RX2 TX2 11).all (fun w => w.before od1.args0 od1.about) = true := by decide +kernel
  exact u_known (ws := u_ws RX2 TX2 11) (args := od1.args0) (n := 11) (fun w hw => List.all_eq_true.mp h w hw) (fun w hw => hw) (by decide +kernel)
set_option maxRecDepth 100000 in
theorem od1.known_7 : ∃ (cC : ClassId) (iS : Nat → Nat), u_Kn od1.about RX3 TX3 14 cC iS := by
  have h : (u_ws RX3 TX3 14).all (fun w => w.before od1.args0 od1.about) = true := by decide +kernel
  exact u_known (ws := u_ws RX3 TX3 14) (args := od1.args0) (n := 14) (fun w hw => List.all_eq_true.mp h w hw) (fun w hw => hw) (by decide +kernel)
set_option maxRecDepth 100000 in
theorem od1.known_8 : ∃ (cC : ClassId) (iS : Nat → Nat), u_Kn od1.about RX5 TX5 9 cC iS := by
  have h : (u_ws RX5 TX5 9).all (fun w => w.before od1.args0 od1.about) = true := by decide +kernel
  exact u_known (ws := u_ws RX5 TX5 9) (args := od1.args0) (n := 9) (fun w hw => List.all_eq_true.mp h w hw) (fun w hw => hw) (by decide +kernel)
set_option maxRecDepth 100000 in
theorem od1.known_9 : ∃ (cC : ClassId) (iS : Nat → Nat), u_Kn od1.about RX6 TX6 7 cC iS := by
  have h : (u_ws RX6 TX6 7).all (fun w => w.before od1.args0 od1.about) = true := by decide +kernel
  exact u_known (ws := u_ws RX6 TX6 7) (args := od1.args0) (n := 7) (fun w hw => List.all_eq_true.mp h w hw) (fun w hw => hw) (by decide +kernel)
set_option maxRecDepth 100000 in
theorem od1.known_10 : ∃ (cC : ClassId) (iS : Nat → Nat), u_Kn od1.about RX7 TX7 9 cC iS := by
  have h : (u_ws RX7 TX7 9).all (fun w => w.before od1.args0 od1.about) = true := by decide +kernel
  exact u_known (ws := u_ws RX7 TX7 9) (args := od1.args0) (n := 9) (fun w hw => List.all_eq_true.mp h w hw) (fun w hw => hw) (by decide +kernel)
set_option maxRecDepth 100000 in
theorem od1.known_11 : ∃ (cC : ClassId) (iS : Nat → Nat), u_Kn od1.about RX8 TX8 9 cC iS := by
  have h : (u_ws RX8 TX8 9).all (fun w => w.before od1.args0 od1.about) = true := by decide +kernel
  exact u_known (ws := u_ws RX8 TX8 9) (args := od1.args0) (n := 9) (fun w hw => List.all_eq_true.mp h w hw) (fun w hw => hw) (by decide +kernel)
set_option maxRecDepth 100000 in
theorem od1.known_12 : ∃ (cC : ClassId) (iS : Nat → Nat), u_Kn od1.about RX10 TX10 4 cC iS := by
  have h : (u_ws RX10 TX10 4).all (fun w => w.before od1.args0 od1.about) = true := by decide +kernel
  exact u_known (ws := u_ws RX10 TX10 4) (args := od1.args0) (n := 4) (fun w hw => List.all_eq_true.mp h w hw) (fun w hw => hw) (by decide +kernel)
set_option maxRecDepth 100000 in
theorem od1.known_13 : ∃ (cC : ClassId) (iS : Nat → Nat), u_Kn od1.about RX11 TX11 7 cC iS := by
  have h : (u_ws RX11 TX11 7).all (fun w => w.before od1.args0 od1.about) = true := by decide +kernel
  exact u_known (ws := u_ws RX11 TX11 7) (args := od1.args0) (n := 7) (fun w hw => List.all_eq_true.mp h w hw) (fun w hw => hw) (by decide +kernel)
set_option maxRecDepth 100000 in
theorem od1.known_14 : ∃ (cC : ClassId) (iS : Nat → Nat), u_Kn od1.about RX12 TX12 9 cC iS := by
  have h : (u_ws RX12 TX12 9).all (fun w => w.before od1.args0 od1.about) = true := by decide +kernel
  exact u_known (ws := u_ws RX12 TX12 9) (args := od1.args0) (n := 9) (fun w hw => List.all_eq_true.mp h w hw) (fun w hw => hw) (by decide +kernel)
set_option maxRecDepth 100000 in
theorem od1.known_15 : ∃ (cC : ClassId) (iS : Nat → Nat), u_Kn od1.about RX13 TX13 4 cC iS := by
  have h : (u_ws RX13 TX13 4).all (fun w => w.before od1.args0 od1.about) = true := by decide +kernel
  exact u_known (ws := u_ws RX13 TX13 4) (args := od1.args0) (n := 4) (fun w hw => List.all_eq_true.mp h w hw) (fun w hw => hw) (by decide +kernel)
set_option maxRecDepth 100000 in
theorem od1.known_16 : ∃ (cC : ClassId) (iS : Nat → Nat), u_Kn od1.about RX14 TX14 8 cC iS := by
  have h : (u_ws RX14 TX14 8).all (fun w => w.before od1.args0 od1.about) = true := by decide +kernel
  exact u_known (ws := u_ws RX14 TX14 8) (args := od1.args0) (n := 8) (fun w hw => List.all_eq_true.mp h w hw) (fun w hw => hw) (by decide +kernel)
set_option maxRecDepth 100000 in
theorem od1.known_17 : ∃ (cC : ClassId) (iS : Nat → Nat), u_Kn od1.about RX15 TX15 16 cC iS := by
  have h : (u_ws RX15 TX15 16).all (fun w => w.before od1.args0 od1.about) = true := by decide +kernel
  exact u_known (ws := u_ws RX15 TX15 16) (args := od1.args0) (n := 16) (fun w hw => List.all_eq_true.mp h w hw) (fun w hw => hw) (by decide +kernel)
set_option maxRecDepth 100000 in
theorem od1.known_18 : ∃ (cC : ClassId) (iS : Nat → Nat), u_Kn od1.about RX16 TX16 7 cC iS := by
  have h : (u_ws RX16 TX16 7).all (fun w => w.before od1.args0 od1.about) = true := by decide +kernel
  exact u_known (ws := u_ws RX16 TX16 7) (args := od1.args0) (n := 7) (fun w hw => List.all_eq_true.mp h w hw) (fun w hw => hw) (by decide +kernel)
set_option maxRecDepth 100000 in
theorem od1.known_19 : ∃ (cC : ClassId) (iS : Nat → Nat), u_Kn od1.about RX17 TX17 3 cC iS := by
  have h : (u_ws RX17 TX17 3).all (fun w => w.before od1.args0 od1.about) = true := by decide +kernel
  exact u_known (ws := u_ws RX17 TX17 3) (args := od1.args0) (n := 3) (fun w hw => List.all_eq_true.mp h w hw) (fun w hw => hw) (by decide +kernel)
set_option maxRecDepth 100000 in
theorem od1.known_20 : ∃ (cC : ClassId) (iS : Nat → Nat), u_Kn od1.about RX18 TX18 18 cC iS := by
  have h : (u_ws RX18 TX18 18).all (fun w => w.before od1.args0 od1.about) = true := by decide +kernel
  exact u_known (ws := u_ws RX18 TX18 18) (args := od1.args0) (n := 18) (fun w hw => List.all_eq_true.mp h w hw) (fun w hw => hw) (by decide +kernel)
theorem od1.allKnown : ∃ (dC : Nat → ClassId) (dI : Nat → Nat → Nat), ∀ (k : Nat) (q : vw_C), vwCl[k]? = some q → u_Kn od1.about q.1 q.2.1 q.2.2 (dC k) (dI k) := by
  obtain ⟨c0, i0, h0⟩ := od1.known_0
  obtain ⟨c1, i1, h1⟩ := od1.known_1
  obtain ⟨c2, i2, h2⟩ := od1.known_2
  obtain ⟨c3, i3, h3⟩ := od1.known_3
  obtain ⟨c4, i4, h4⟩ := od1.known_4
  obtain ⟨c5, i5, h5⟩ := od1.known_5
  obtain ⟨c6, i6, h6⟩ := od1.known_6
  obtain ⟨c7, i7, h7⟩ := od1.known_7
  obtain ⟨c8, i8, h8⟩ := od1.known_8
  obtain ⟨c9, i9, h9⟩ := od1.known_9
  obtain ⟨c10, i10, h10⟩ := od1.known_10
  obtain ⟨c11, i11, h11⟩ := od1.known_11
  obtain ⟨c12, i12, h12⟩ := od1.known_12
  obtain ⟨c13, i13, h13⟩ := od1.known_13
  obtain ⟨c14, i14, h14⟩ := od1.known_14
  obtain ⟨c15, i15, h15⟩ := od1.known_15
  obtain ⟨c16, i16, h16⟩ := od1.known_16
  obtain ⟨c17, i17, h17⟩ := od1.known_17
  obtain ⟨c18, i18, h18⟩ := od1.known_18
  obtain ⟨c19, i19, h19⟩ := od1.known_19
  obtain ⟨c20, i20, h20⟩ := od1.known_20
  refine ⟨fun k => ([c0, c1, c2, c3, c4, c5, c6, c7, c8, c9, c10, c11, c12, c13, c14, c15, c16, c17, c18, c19, c20] : List ClassId).getD k c0, fun k => ([i0, i1, i2, i3, i4, i5, i6, i7, i8, i9, i10, i11, i12, i13, i14, i15, i16, i17, i18, i19, i20] : List (Nat → Nat)).getD k i0, ?_⟩
  intro k q hq
  match k, hq with
  | 0, hq => cases hq; exact h0
  | 1, hq => cases hq; exact h1
  | 2, hq => cases hq; exact h2
  | 3, hq => cases hq; exact h3
  | 4, hq => cases hq; exact h4
  | 5, hq => cases hq; exact h5
  | 6, hq => cases hq; exact h6
  | 7, hq => cases hq; exact h7
  | 8, hq => cases hq; exact h8
  | 9, hq => cases hq; exact h9
  | 10, hq => cases hq; exact h10
  | 11, hq => cases hq; exact h11
  | 12, hq => cases hq; exact h12
  | 13, hq => cases hq; exact h13
  | 14, hq => cases hq; exact h14
  | 15, hq => cases hq; exact h15
  | 16, hq => cases hq; exact h16
  | 17, hq => cases hq; exact h17
  | 18, hq => cases hq; exact h18
  | 19, hq => cases hq; exact h19
  | 20, hq => cases hq; exact h20
  | k + 21, hq => simp [vwCl] at hq
set_option maxRecDepth 100000 in
theorem od1.xw : xw (va_A [] od1.about.heap.size) od1.about od1.about.heap := by
  refine ⟨⟨vx_Zqof (args := #[]) (by decide +kernel) (by decide +kernel) (by decide +kernel) od1.hA, vx_Zqof (args := #[]) (by decide +kernel) (by decide +kernel) (by decide +kernel) od1.hA⟩, ⟨?_, ?_⟩, ?_⟩
  · have h : (xw_E.all fun E => (Cond.castable E E).before #[] od1.about) = true := by decide +kernel
    exact fun E hE => List.all_eq_true.mp h E hE
  · have h : ((xw_N ++ [Bundle.tN]).all fun n => (Cond.declares (Bundle.initS n)).before #[] od1.about) = true := by decide +kernel
    exact fun n hn => List.all_eq_true.mp h n hn
  · have h : (xw_T.all fun q => (Cond.stringRef RX11 q.1 q.2).before #[] od1.about && (match (Term.string RX11 q.1).eval #[] od1.about none [] od1.about with | some (.ref _) => true | _ => false)) = true := by decide +kernel
    intro q hq
    obtain ⟨h1, h2⟩ := Bool.and_eq_true_iff.mp (List.all_eq_true.mp h q hq)
    split at h2
    · rename_i a ha
      exact ⟨a, h1, ha⟩
    · exact absurd h2 (by decide)
set_option maxRecDepth 100000 in
theorem od1.ref (own : String) (k : Nat) (tx : String) (h : ((Cond.stringRef own k tx).before #[] od1.about && (match (Term.string own k).eval #[] od1.about none [] od1.about with | some (.ref _) => true | _ => false)) = true) : ∃ a : Nat, vk_R own k tx a od1.about := by
  obtain ⟨h1, h2⟩ := Bool.and_eq_true_iff.mp h
  split at h2
  · rename_i a ha
    exact ⟨a, h1, ha⟩
  · exact absurd h2 (by decide)
set_option maxRecDepth 100000 in
theorem od1.sW_RX11 : sW RX11 176 (va_A [] od1.about.heap.size) od1.about od1.about.heap := by
  obtain ⟨a, ha⟩ := od1.ref RX11 176 "-~!*&idID" (by decide +kernel)
  obtain ⟨v, hv, hT⟩ := va_Tof (args := #[]) (s := od1.about) (tm := .field (.string RX11 176) "java/lang/String" "value" "[B") (ty := .byte) (N := 9) (f := fun j => .int (sb_9.getD j 0)) (by decide) (by decide +kernel) (by decide +kernel) (by
    have h : ((List.range 9).all fun j => decide ((Term.elem (.field (.string RX11 176) "java/lang/String" "value" "[B") (.int (Int32.ofNat j))).eval #[] od1.about none [] od1.about = some (.int (sb_9.getD j 0)))) = true := by decide +kernel
    exact fun j hj => of_decide_eq_true (List.all_eq_true.mp h j (List.mem_range.mpr hj))) od1.hA
  exact ⟨a, v, ha, va_Zof (args := #[]) (by decide +kernel) (by decide +kernel) (by decide +kernel) od1.hA, va_Oof (args := #[]) (t := .string RX11 176) (by decide +kernel) ha.2 od1.hA, vk_OFof (args := #[]) (t := .string RX11 176) ha.2 (by decide +kernel) od1.hA, vk_OFof (args := #[]) (t := .string RX11 176) ha.2 hv od1.hA, hT⟩
set_option maxRecDepth 100000 in
theorem od1.sW_RX18 : sW RX18 137 (va_A [] od1.about.heap.size) od1.about od1.about.heap := by
  obtain ⟨a, ha⟩ := od1.ref RX18 137 "-~!*&idID" (by decide +kernel)
  obtain ⟨v, hv, hT⟩ := va_Tof (args := #[]) (s := od1.about) (tm := .field (.string RX18 137) "java/lang/String" "value" "[B") (ty := .byte) (N := 9) (f := fun j => .int (sb_9.getD j 0)) (by decide) (by decide +kernel) (by decide +kernel) (by
    have h : ((List.range 9).all fun j => decide ((Term.elem (.field (.string RX18 137) "java/lang/String" "value" "[B") (.int (Int32.ofNat j))).eval #[] od1.about none [] od1.about = some (.int (sb_9.getD j 0)))) = true := by decide +kernel
    exact fun j hj => of_decide_eq_true (List.all_eq_true.mp h j (List.mem_range.mpr hj))) od1.hA
  exact ⟨a, v, ha, va_Zof (args := #[]) (by decide +kernel) (by decide +kernel) (by decide +kernel) od1.hA, va_Oof (args := #[]) (t := .string RX18 137) (by decide +kernel) ha.2 od1.hA, vk_OFof (args := #[]) (t := .string RX18 137) ha.2 (by decide +kernel) od1.hA, vk_OFof (args := #[]) (t := .string RX18 137) ha.2 hv od1.hA, hT⟩
theorem od1.isNw {w : Cond} (h : w.before #[] od1.about = true) : va_Nw w od1.about := h
theorem od1.isAO {C : String} (h : (Cond.arrayOver (.object C)).before #[] od1.about = true) : va_AO C od1.about := h
set_option maxRecDepth 100000 in
theorem od1.nw : nw od1.about := ⟨⟨od1.isNw (by decide +kernel), od1.isNw (by decide +kernel), od1.isNw (by decide +kernel), od1.isNw (by decide +kernel)⟩, od1.isAO (by decide +kernel), od1.isAO (by decide +kernel), od1.isAO (by decide +kernel), od1.isAO (by decide +kernel), od1.isAO (by decide +kernel)⟩
set_option maxRecDepth 100000 in
theorem od1.nm : nm od1.about := ⟨od1.isAO (by decide +kernel), od1.isAO (by decide +kernel)⟩
set_option maxRecDepth 100000 in
theorem od1.od : od od1.about := by
  refine ⟨⟨40, by decide +kernel, ?_⟩, ⟨by decide +kernel, by decide +kernel, by decide +kernel, by decide +kernel, by decide +kernel⟩, ⟨by decide +kernel, by decide +kernel, by decide +kernel, by decide +kernel, by decide +kernel⟩, od1.ref RJ0 1163 "no such node" (by decide +kernel)⟩
  exact ⟨od1.c40, by rfl, by rfl⟩
set_option maxRecDepth 100000 in
theorem od1.script : 0 < od1.about.heap.size ∧ va_X 0 4 od_xs od1.about od1.about.heap := by
  have hcell : ∃ (scr : Cell), od1.about.heap[0]? = some scr ∧ scr.slots = #[.int 5, .int 0, .int 0, .int 0] ∧ scr.vm ≠ .unknown := ⟨_, rfl, rfl, by decide⟩
  have harr : (Cond.arrayOf (.arg 0) .int).before od1.args0 od1.about = true := by decide +kernel
  obtain ⟨scr, h1, h2, h3⟩ := hcell
  obtain ⟨hof, -⟩ := Cond.arrayOf_spec harr (show (Term.arg 0).eval od1.args0 od1.about none [] od1.about = some (.ref 0) from rfl) h1
  refine ⟨(Array.getElem?_eq_some_iff.mp h1).1, scr, h1, hof, h3, by rw [h2]; rfl, fun j hj => ?_⟩
  rw [h2]
  match j, hj with
  | 0, _ => rfl
  | 1, _ => rfl
  | 2, _ => rfl
  | 3, _ => rfl
/-- the machine comes to the law's end at od1, and this end is none of those that the claim allows -/
theorem whole_end : ∃ (n : Nat) (o : Outcome), (∀ k, k < n → Within (stepsAlone od1.p0.tables od1.e0 k od1.about) Lib.HandBits.below0) ∧ (stepsAlone od1.p0.tables od1.e0 n od1.about).status = .running ∧ Ended (stepsAlone od1.p0.tables od1.e0 n od1.about) Lib.HandBits.below0 o ∧ ∃ q : Addr, o = .threw q := by
  obtain ⟨hL, hW, hadm, hleast, hcas, hclk, hf, hfit, hheap, happ, hcalls, hrest, hpre⟩ := od1.atStart
  obtain ⟨dC, dI, hKc⟩ := od1.allKnown
  obtain ⟨n, o, h1, h2, h3, h4⟩ := o_law launch0 (by decide) dC dI 0 od1.about.heap.size od1.p0 od1.e0 hadm hcas hclk od1.about ⟨0, 0⟩ od1.args0 Lib.HandBits.below0 hf od1.law_applies
    ⟨rfl, rfl, fun k q h => by simp at h, ⟨hKc, fun k q h => by simp at h⟩, ⟨fun i j p q h => by simp at h, fun k q h => by simp at h⟩, od1.xw, od1.script, od1.sW_RX11, od1.sW_RX18, od1.nw, od1.nm, od1.od⟩ trivial
  refine ⟨n, o, h1, h2, h3, ?_⟩
  rcases h4 with ⟨⟨⟨r, u, -, hp, -⟩, -⟩, -⟩ | ⟨q, hq, -⟩
  · exact absurd hp.1 (by decide)
  · exact ⟨q, hq⟩
/-- THE CLAIM IS FALSE -/
theorem whole_false : ¬ Claimed_1_1 := by
  intro h
  obtain ⟨hL, hW, hadm, hleast, hcas, hclk, hf, hfit, hheap, happ, hcalls, hrest, hpre⟩ := od1.atStart
  obtain ⟨n, o, h1, h2, h3, h4⟩ := h launch0 rfl hL hW od1.p0 od1.e0 hadm hcas hclk od1.about ⟨0, 0⟩ od1.args0 Lib.HandBits.below0 hf hfit hheap happ ⟨hcalls, hrest, hpre⟩
  obtain ⟨n', o', k1, k2, k3, q, rfl⟩ := whole_end
  have hn : n = n' := by
    rcases Nat.lt_trichotomy n n' with hlt | he | hlt
    · exact absurd (k1 n hlt) h3.not_within
    · exact he
    · exact absurd (h1 n' hlt) k3.not_within
  subst hn
  have ho := Ended.outcome_unique h3 k3
  subst ho
  obtain ⟨v, hv⟩ := h4.2.1.1
  cases hv
theorem whole_no_vc : ¬ (Claimed_1_1 ∧ Claimed_1_2) := fun h => whole_false h.1
/-- the statement's own refuted forms: a start that it allows, an end of the law there, and that end is not the one that is owed -/
theorem whole_falls_1 : RefutedClaimed_1_1 := by
  obtain ⟨n, o, k1, k2, k3, q, rfl⟩ := whole_end
  exact ⟨launch0, od1.p0, od1.e0, od1.about, ⟨0, 0⟩, od1.args0, Lib.HandBits.below0, rfl, od1.atStart, n, _, k1, k2, k3, fun h => Bool.noConfusion (show false = true from h.1)⟩
theorem whole_falls_2 : RefutedClaimed_1_2 := by
  obtain ⟨n, o, k1, k2, k3, q, rfl⟩ := whole_end
  refine ⟨launch0, od1.p0, od1.e0, od1.about, ⟨0, 0⟩, od1.args0, Lib.HandBits.below0, rfl, od1.atStart, n, _, k1, k2, k3, fun h => ?_⟩
  have h5 : Cond.after limb_1_2 od1.args0 od1.about (Outcome.threw q) (stepsAlone od1.p0.tables od1.e0 n od1.about) = true := h.1
  have h6 : Cond.after limb_1_2 od1.args0 od1.about (Outcome.threw q) (stepsAlone od1.p0.tables od1.e0 n od1.about) = false := rfl
  rw [h6] at h5
  exact Bool.noConfusion h5
end
