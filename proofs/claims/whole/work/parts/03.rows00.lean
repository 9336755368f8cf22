theorem dX4_isNumber_0 : decode cX4_isNumber 0 = .ok (.iload_n 0, 1) := by decide +kernel
theorem dX4_isNumber_1 : decode cX4_isNumber 1 = .ok (.ifCond .lt 12, 3) := by decide +kernel
theorem dX4_isNumber_4 : decode cX4_isNumber 4 = .ok (.iload_n 0, 1) := by decide +kernel
theorem dX4_isNumber_5 : decode cX4_isNumber 5 = .ok (.iconst 5, 1) := by decide +kernel
theorem dX4_isNumber_6 : decode cX4_isNumber 6 = .ok (.if_icmp .gt 7, 3) := by decide +kernel
theorem dX4_isNumber_9 : decode cX4_isNumber 9 = .ok (.iconst 1, 1) := by decide +kernel
theorem dX4_isNumber_10 : decode cX4_isNumber 10 = .ok (.goto 4, 3) := by decide +kernel
theorem dX4_isNumber_13 : decode cX4_isNumber 13 = .ok (.iconst 0, 1) := by decide +kernel
theorem dX4_isNumber_14 : decode cX4_isNumber 14 = .ok (.ireturn, 1) := by decide +kernel
set_option maxRecDepth 20000 in
theorem ggX4_isType_X4_isNumber : GoodIn wsX4_isType wsX4_isNumber := goodIn_r _ [4] (by decide +kernel) (by decide +kernel)
set_option maxRecDepth 20000 in
theorem gX4_isType_X4_isNumber : GoodIn wsX4_isType (va_wsS RX4 9 yX4_isNumber wsX4_isNumber) := goodIn_app (goodIn_of _ (by decide +kernel)) ggX4_isType_X4_isNumber
theorem dX4_isType_0 : decode cX4_isType 0 = .ok (.iload_n 0, 1) := by decide +kernel
theorem dX4_isType_1 : decode cX4_isType 1 = .ok (.invokestatic 9, 3) := by decide +kernel
theorem dX4_isType_4 : decode cX4_isType 4 = .ok (.ifCond .ne 19, 3) := by decide +kernel
theorem dX4_isType_7 : decode cX4_isType 7 = .ok (.iload_n 0, 1) := by decide +kernel
theorem dX4_isType_8 : decode cX4_isType 8 = .ok (.bipush 10, 2) := by decide +kernel
theorem dX4_isType_10 : decode cX4_isType 10 = .ok (.if_icmp .lt 17, 3) := by decide +kernel
theorem dX4_isType_13 : decode cX4_isType 13 = .ok (.iload_n 0, 1) := by decide +kernel
theorem dX4_isType_14 : decode cX4_isType 14 = .ok (.bipush 10, 2) := by decide +kernel
theorem dX4_isType_16 : decode cX4_isType 16 = .ok (.isub, 1) := by decide +kernel
theorem dX4_isType_17 : decode cX4_isType 17 = .ok (.invokestatic 9, 3) := by decide +kernel
theorem dX4_isType_20 : decode cX4_isType 20 = .ok (.ifCond .eq 7, 3) := by decide +kernel
theorem dX4_isType_23 : decode cX4_isType 23 = .ok (.iconst 1, 1) := by decide +kernel
theorem dX4_isType_24 : decode cX4_isType 24 = .ok (.goto 4, 3) := by decide +kernel
theorem dX4_isType_27 : decode cX4_isType 27 = .ok (.iconst 0, 1) := by decide +kernel
theorem dX4_isType_28 : decode cX4_isType 28 = .ok (.ireturn, 1) := by decide +kernel
set_option maxRecDepth 20000 in
theorem ggX4_has_X4_convert : GoodIn wsX4_has wsX4_convert := goodIn_r _ [4] (by decide +kernel) (by decide +kernel)
set_option maxRecDepth 20000 in
theorem gX4_has_X4_convert : GoodIn wsX4_has (va_wsS RX4 15 yX4_convert wsX4_convert) := goodIn_app (goodIn_of _ (by decide +kernel)) ggX4_has_X4_convert
theorem dX4_has_0 : decode cX4_has 0 = .ok (.lload_n 1, 1) := by decide +kernel
theorem dX4_has_1 : decode cX4_has 1 = .ok (.iload_n 0, 1) := by decide +kernel
theorem dX4_has_2 : decode cX4_has 2 = .ok (.invokestatic 15, 3) := by decide +kernel
theorem dX4_has_5 : decode cX4_has 5 = .ok (.lload_n 1, 1) := by decide +kernel
theorem dX4_has_6 : decode cX4_has 6 = .ok (.lcmp, 1) := by decide +kernel
theorem dX4_has_7 : decode cX4_has 7 = .ok (.ifCond .ne 7, 3) := by decide +kernel
theorem dX4_has_10 : decode cX4_has 10 = .ok (.iconst 1, 1) := by decide +kernel
theorem dX4_has_11 : decode cX4_has 11 = .ok (.goto 4, 3) := by decide +kernel
theorem dX4_has_14 : decode cX4_has 14 = .ok (.iconst 0, 1) := by decide +kernel
theorem dX4_has_15 : decode cX4_has 15 = .ok (.ireturn, 1) := by decide +kernel
theorem dX4_convert_0 : decode cX4_convert 0 = .ok (.bipush 64, 2) := by decide +kernel
theorem dX4_convert_2 : decode cX4_convert 2 = .ok (.bipush 8, 2) := by decide +kernel
theorem dX4_convert_4 : decode cX4_convert 4 = .ok (.iload_n 2, 1) := by decide +kernel
theorem dX4_convert_5 : decode cX4_convert 5 = .ok (.iconst 1, 1) := by decide +kernel
theorem dX4_convert_6 : decode cX4_convert 6 = .ok (.ishr, 1) := by decide +kernel
theorem dX4_convert_7 : decode cX4_convert 7 = .ok (.ishl, 1) := by decide +kernel
theorem dX4_convert_8 : decode cX4_convert 8 = .ok (.isub, 1) := by decide +kernel
theorem dX4_convert_9 : decode cX4_convert 9 = .ok (.istore_n 3, 1) := by decide +kernel
theorem dX4_convert_10 : decode cX4_convert 10 = .ok (.iload_n 2, 1) := by decide +kernel
theorem dX4_convert_11 : decode cX4_convert 11 = .ok (.iconst 1, 1) := by decide +kernel
theorem dX4_convert_12 : decode cX4_convert 12 = .ok (.iand, 1) := by decide +kernel
theorem dX4_convert_13 : decode cX4_convert 13 = .ok (.ifCond .ne 11, 3) := by decide +kernel
theorem dX4_convert_16 : decode cX4_convert 16 = .ok (.lload_n 0, 1) := by decide +kernel
theorem dX4_convert_17 : decode cX4_convert 17 = .ok (.iload_n 3, 1) := by decide +kernel
theorem dX4_convert_18 : decode cX4_convert 18 = .ok (.lshl, 1) := by decide +kernel
theorem dX4_convert_19 : decode cX4_convert 19 = .ok (.iload_n 3, 1) := by decide +kernel
theorem dX4_convert_20 : decode cX4_convert 20 = .ok (.lshr, 1) := by decide +kernel
theorem dX4_convert_21 : decode cX4_convert 21 = .ok (.goto 8, 3) := by decide +kernel
theorem dX4_convert_24 : decode cX4_convert 24 = .ok (.lload_n 0, 1) := by decide +kernel
theorem dX4_convert_25 : decode cX4_convert 25 = .ok (.iload_n 3, 1) := by decide +kernel
theorem dX4_convert_26 : decode cX4_convert 26 = .ok (.lshl, 1) := by decide +kernel
theorem dX4_convert_27 : decode cX4_convert 27 = .ok (.iload_n 3, 1) := by decide +kernel
theorem dX4_convert_28 : decode cX4_convert 28 = .ok (.lushr, 1) := by decide +kernel
theorem dX4_convert_29 : decode cX4_convert 29 = .ok (.lreturn, 1) := by decide +kernel
theorem dX7_variableAt_0 : decode cX7_variableAt 0 = .ok (.iload_n 1, 1) := by decide +kernel
theorem dX7_variableAt_1 : decode cX7_variableAt 1 = .ok (.ifCond .lt 29, 3) := by decide +kernel
theorem dX7_variableAt_4 : decode cX7_variableAt 4 = .ok (.iload_n 1, 1) := by decide +kernel
theorem dX7_variableAt_5 : decode cX7_variableAt 5 = .ok (.aload_n 0, 1) := by decide +kernel
theorem dX7_variableAt_6 : decode cX7_variableAt 6 = .ok (.getfield 38, 3) := by decide +kernel
theorem dX7_variableAt_9 : decode cX7_variableAt 9 = .ok (.if_icmp .ge 21, 3) := by decide +kernel
theorem dX7_variableAt_12 : decode cX7_variableAt 12 = .ok (.iload_n 1, 1) := by decide +kernel
theorem dX7_variableAt_13 : decode cX7_variableAt 13 = .ok (.aload_n 0, 1) := by decide +kernel
theorem dX7_variableAt_14 : decode cX7_variableAt 14 = .ok (.getfield 11, 3) := by decide +kernel
theorem dX7_variableAt_17 : decode cX7_variableAt 17 = .ok (.arraylength, 1) := by decide +kernel
theorem dX7_variableAt_18 : decode cX7_variableAt 18 = .ok (.if_icmp .ge 12, 3) := by decide +kernel
theorem dX7_variableAt_21 : decode cX7_variableAt 21 = .ok (.aload_n 0, 1) := by decide +kernel
theorem dX7_variableAt_22 : decode cX7_variableAt 22 = .ok (.getfield 11, 3) := by decide +kernel
theorem dX7_variableAt_25 : decode cX7_variableAt 25 = .ok (.iload_n 1, 1) := by decide +kernel
theorem dX7_variableAt_26 : decode cX7_variableAt 26 = .ok (.aaload, 1) := by decide +kernel
theorem dX7_variableAt_27 : decode cX7_variableAt 27 = .ok (.goto 4, 3) := by decide +kernel
theorem dX7_variableAt_30 : decode cX7_variableAt 30 = .ok (.aconst_null, 1) := by decide +kernel
theorem dX7_variableAt_31 : decode cX7_variableAt 31 = .ok (.areturn, 1) := by decide +kernel
theorem dX7_functionAt_0 : decode cX7_functionAt 0 = .ok (.iload_n 1, 1) := by decide +kernel
theorem dX7_functionAt_1 : decode cX7_functionAt 1 = .ok (.ifCond .lt 29, 3) := by decide +kernel
theorem dX7_functionAt_4 : decode cX7_functionAt 4 = .ok (.iload_n 1, 1) := by decide +kernel
theorem dX7_functionAt_5 : decode cX7_functionAt 5 = .ok (.aload_n 0, 1) := by decide +kernel
theorem dX7_functionAt_6 : decode cX7_functionAt 6 = .ok (.getfield 42, 3) := by decide +kernel
theorem dX7_functionAt_9 : decode cX7_functionAt 9 = .ok (.if_icmp .ge 21, 3) := by decide +kernel
theorem dX7_functionAt_12 : decode cX7_functionAt 12 = .ok (.iload_n 1, 1) := by decide +kernel
theorem dX7_functionAt_13 : decode cX7_functionAt 13 = .ok (.aload_n 0, 1) := by decide +kernel
theorem dX7_functionAt_14 : decode cX7_functionAt 14 = .ok (.getfield 19, 3) := by decide +kernel
theorem dX7_functionAt_17 : decode cX7_functionAt 17 = .ok (.arraylength, 1) := by decide +kernel
theorem dX7_functionAt_18 : decode cX7_functionAt 18 = .ok (.if_icmp .ge 12, 3) := by decide +kernel
theorem dX7_functionAt_21 : decode cX7_functionAt 21 = .ok (.aload_n 0, 1) := by decide +kernel
theorem dX7_functionAt_22 : decode cX7_functionAt 22 = .ok (.getfield 19, 3) := by decide +kernel
theorem dX7_functionAt_25 : decode cX7_functionAt 25 = .ok (.iload_n 1, 1) := by decide +kernel
theorem dX7_functionAt_26 : decode cX7_functionAt 26 = .ok (.aaload, 1) := by decide +kernel
theorem dX7_functionAt_27 : decode cX7_functionAt 27 = .ok (.goto 4, 3) := by decide +kernel
theorem dX7_functionAt_30 : decode cX7_functionAt 30 = .ok (.aconst_null, 1) := by decide +kernel
theorem dX7_functionAt_31 : decode cX7_functionAt 31 = .ok (.areturn, 1) := by decide +kernel
theorem dX7_nodeAt_0 : decode cX7_nodeAt 0 = .ok (.iload_n 1, 1) := by decide +kernel
theorem dX7_nodeAt_1 : decode cX7_nodeAt 1 = .ok (.ifCond .lt 29, 3) := by decide +kernel
theorem dX7_nodeAt_4 : decode cX7_nodeAt 4 = .ok (.iload_n 1, 1) := by decide +kernel
theorem dX7_nodeAt_5 : decode cX7_nodeAt 5 = .ok (.aload_n 0, 1) := by decide +kernel
theorem dX7_nodeAt_6 : decode cX7_nodeAt 6 = .ok (.getfield 45, 3) := by decide +kernel
theorem dX7_nodeAt_9 : decode cX7_nodeAt 9 = .ok (.if_icmp .ge 21, 3) := by decide +kernel
theorem dX7_nodeAt_12 : decode cX7_nodeAt 12 = .ok (.iload_n 1, 1) := by decide +kernel
theorem dX7_nodeAt_13 : decode cX7_nodeAt 13 = .ok (.aload_n 0, 1) := by decide +kernel
theorem dX7_nodeAt_14 : decode cX7_nodeAt 14 = .ok (.getfield 31, 3) := by decide +kernel
theorem dX7_nodeAt_17 : decode cX7_nodeAt 17 = .ok (.arraylength, 1) := by decide +kernel
theorem dX7_nodeAt_18 : decode cX7_nodeAt 18 = .ok (.if_icmp .ge 12, 3) := by decide +kernel
theorem dX7_nodeAt_21 : decode cX7_nodeAt 21 = .ok (.aload_n 0, 1) := by decide +kernel
theorem dX7_nodeAt_22 : decode cX7_nodeAt 22 = .ok (.getfield 31, 3) := by decide +kernel
theorem dX7_nodeAt_25 : decode cX7_nodeAt 25 = .ok (.iload_n 1, 1) := by decide +kernel
theorem dX7_nodeAt_26 : decode cX7_nodeAt 26 = .ok (.aaload, 1) := by decide +kernel
theorem dX7_nodeAt_27 : decode cX7_nodeAt 27 = .ok (.goto 4, 3) := by decide +kernel
theorem dX7_nodeAt_30 : decode cX7_nodeAt 30 = .ok (.aconst_null, 1) := by decide +kernel
theorem dX7_nodeAt_31 : decode cX7_nodeAt 31 = .ok (.areturn, 1) := by decide +kernel
theorem dX7_statementAt_0 : decode cX7_statementAt 0 = .ok (.iload_n 1, 1) := by decide +kernel
theorem dX7_statementAt_1 : decode cX7_statementAt 1 = .ok (.ifCond .lt 29, 3) := by decide +kernel
theorem dX7_statementAt_4 : decode cX7_statementAt 4 = .ok (.iload_n 1, 1) := by decide +kernel
theorem dX7_statementAt_5 : decode cX7_statementAt 5 = .ok (.aload_n 0, 1) := by decide +kernel
theorem dX7_statementAt_6 : decode cX7_statementAt 6 = .ok (.getfield 48, 3) := by decide +kernel
theorem dX7_statementAt_9 : decode cX7_statementAt 9 = .ok (.if_icmp .ge 21, 3) := by decide +kernel
theorem dX7_statementAt_12 : decode cX7_statementAt 12 = .ok (.iload_n 1, 1) := by decide +kernel
theorem dX7_statementAt_13 : decode cX7_statementAt 13 = .ok (.aload_n 0, 1) := by decide +kernel
theorem dX7_statementAt_14 : decode cX7_statementAt 14 = .ok (.getfield 35, 3) := by decide +kernel
theorem dX7_statementAt_17 : decode cX7_statementAt 17 = .ok (.arraylength, 1) := by decide +kernel
theorem dX7_statementAt_18 : decode cX7_statementAt 18 = .ok (.if_icmp .ge 12, 3) := by decide +kernel
theorem dX7_statementAt_21 : decode cX7_statementAt 21 = .ok (.aload_n 0, 1) := by decide +kernel
theorem dX7_statementAt_22 : decode cX7_statementAt 22 = .ok (.getfield 35, 3) := by decide +kernel
theorem dX7_statementAt_25 : decode cX7_statementAt 25 = .ok (.iload_n 1, 1) := by decide +kernel
theorem dX7_statementAt_26 : decode cX7_statementAt 26 = .ok (.aaload, 1) := by decide +kernel
theorem dX7_statementAt_27 : decode cX7_statementAt 27 = .ok (.goto 4, 3) := by decide +kernel
theorem dX7_statementAt_30 : decode cX7_statementAt 30 = .ok (.aconst_null, 1) := by decide +kernel
theorem dX7_statementAt_31 : decode cX7_statementAt 31 = .ok (.areturn, 1) := by decide +kernel
set_option maxRecDepth 20000 in
theorem ggX11_typeOf_X7_nodeAt : GoodIn wsX11_typeOf wsX7_nodeAt := goodIn_r _ [9, 10, 11, 33, 34, 35, 36, 37, 38, 39, 40, 41] (by decide +kernel) (by decide +kernel)
set_option maxRecDepth 20000 in
theorem gX11_typeOf_X7_nodeAt : GoodIn wsX11_typeOf (wsV RX11 186 RX7 yX7_nodeAt wsX7_nodeAt) := goodIn_app (goodIn_of _ (by decide +kernel)) ggX11_typeOf_X7_nodeAt
theorem dX11_typeOf_0 : decode cX11_typeOf 0 = .ok (.aload_n 0, 1) := by decide +kernel
theorem dX11_typeOf_1 : decode cX11_typeOf 1 = .ok (.getfield 10, 3) := by decide +kernel
theorem dX11_typeOf_4 : decode cX11_typeOf 4 = .ok (.iload_n 1, 1) := by decide +kernel
theorem dX11_typeOf_5 : decode cX11_typeOf 5 = .ok (.invokevirtual 186, 3) := by decide +kernel
theorem dX11_typeOf_8 : decode cX11_typeOf 8 = .ok (.astore_n 2, 1) := by decide +kernel
theorem dX11_typeOf_9 : decode cX11_typeOf 9 = .ok (.aload_n 2, 1) := by decide +kernel
theorem dX11_typeOf_10 : decode cX11_typeOf 10 = .ok (.ifnonnull 13, 3) := by decide +kernel
theorem dX11_typeOf_13 : decode cX11_typeOf 13 = .ok (.new 86, 3) := by decide +kernel
theorem dX11_typeOf_16 : decode cX11_typeOf 16 = .ok (.dup, 1) := by decide +kernel
theorem dX11_typeOf_17 : decode cX11_typeOf 17 = .ok (.ldc 190, 2) := by decide +kernel
theorem dX11_typeOf_19 : decode cX11_typeOf 19 = .ok (.invokespecial 90, 3) := by decide +kernel
theorem dX11_typeOf_22 : decode cX11_typeOf 22 = .ok (.athrow, 1) := by decide +kernel
theorem dX11_typeOf_23 : decode cX11_typeOf 23 = .ok (.aload_n 2, 1) := by decide +kernel
theorem dX11_typeOf_24 : decode cX11_typeOf 24 = .ok (.getfield 206, 3) := by decide +kernel
theorem dX11_typeOf_27 : decode cX11_typeOf 27 = .ok (.ireturn, 1) := by decide +kernel
theorem dX18_isIn_0 : decode cX18_isIn 0 = .ok (.iload_n 0, 1) := by decide +kernel
theorem dX18_isIn_1 : decode cX18_isIn 1 = .ok (.iload_n 1, 1) := by decide +kernel
theorem dX18_isIn_2 : decode cX18_isIn 2 = .ok (.if_icmp .lt 12, 3) := by decide +kernel
theorem dX18_isIn_5 : decode cX18_isIn 5 = .ok (.iload_n 0, 1) := by decide +kernel
theorem dX18_isIn_6 : decode cX18_isIn 6 = .ok (.iload_n 2, 1) := by decide +kernel
theorem dX18_isIn_7 : decode cX18_isIn 7 = .ok (.if_icmp .gt 7, 3) := by decide +kernel
theorem dX18_isIn_10 : decode cX18_isIn 10 = .ok (.iconst 1, 1) := by decide +kernel
theorem dX18_isIn_11 : decode cX18_isIn 11 = .ok (.goto 4, 3) := by decide +kernel
theorem dX18_isIn_14 : decode cX18_isIn 14 = .ok (.iconst 0, 1) := by decide +kernel
theorem dX18_isIn_15 : decode cX18_isIn 15 = .ok (.ireturn, 1) := by decide +kernel
