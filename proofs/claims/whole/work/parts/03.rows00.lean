theorem dX4_isNumber_0 : decode cX4_isNumber 0 = .ok (.iload_n 0, 1) := by decide +kernel
theorem dX4_isNumber_1 : decode cX4_isNumber 1 = .ok (.ifCond .lt 12, 3) := by decide +kernel
theorem dX4_isNumber_4 : decode cX4_isNumber 4 = .ok (.iload_n 0, 1) := by decide +kernel
theorem dX4_isNumber_5 : decode cX4_isNumber 5 = .ok (.iconst 5, 1) := by decide +kernel
theorem dX4_isNumber_6 : decode cX4_isNumber 6 = .ok (.if_icmp .gt 7, 3) := by decide +kernel
theorem dX4_isNumber_9 : decode cX4_isNumber 9 = .ok (.iconst 1, 1) := by decide +kernel
theorem dX4_isNumber_10 : decode cX4_isNumber 10 = .ok (.goto 4, 3) := by decide +kernel
theorem dX4_isNumber_13 : decode cX4_isNumber 13 = .ok (.iconst 0, 1) := by decide +kernel
theorem dX4_isNumber_14 : decode cX4_isNumber 14 = .ok (.ireturn, 1) := by decide +kernel
theorem dX4_isType_0 : decode cX4_isType 0 = .ok (.iload_n 0, 1) := by decide +kernel
theorem dX4_isType_1 : decode cX4_isType 1 = .ok (.invokestatic 9, 3) := by decide +kernel
theorem dX4_isType_4 : decode cX4_isType 4 = .ok (.ifCond .ne 19, 3) := by decide +kernel
theorem dX4_isType_7 : decode cX4_isType 7 = .ok (.iload_n 0, 1) := by decide +kernel
theorem dX4_isType_8 : decode cX4_isType 8 = .ok (.bipush 10, 2) := by decide +kernel
theorem dX4_isType_10 : decode cX4_isType 10 = .ok (.if_icmp .lt 17, 3) := by decide +kernel
theorem dX4_isType_13 : decode cX4_isType 13 = .ok (.iload_n 0, 1) := by decide +kernel
theorem dX4_isType_14 : decode cX4_isType 14 = .ok (.bipush 10, 2) := by decide +kernel
theorem dX4_isType_16 : decode cX4_isType 16 = .ok (.isub, 1) := by decide +kernel
theorem dX4_isType_17 : decode cX4_isType 17 = .ok (.invokestatic 9, 3) := by decide +kernel
theorem dX4_isType_20 : decode cX4_isType 20 = .ok (.ifCond .eq 7, 3) := by decide +kernel
theorem dX4_isType_23 : decode cX4_isType 23 = .ok (.iconst 1, 1) := by decide +kernel
theorem dX4_isType_24 : decode cX4_isType 24 = .ok (.goto 4, 3) := by decide +kernel
theorem dX4_isType_27 : decode cX4_isType 27 = .ok (.iconst 0, 1) := by decide +kernel
theorem dX4_isType_28 : decode cX4_isType 28 = .ok (.ireturn, 1) := by decide +kernel
theorem dX4_has_0 : decode cX4_has 0 = .ok (.lload_n 1, 1) := by decide +kernel
theorem dX4_has_1 : decode cX4_has 1 = .ok (.iload_n 0, 1) := by decide +kernel
theorem dX4_has_2 : decode cX4_has 2 = .ok (.invokestatic 15, 3) := by decide +kernel
theorem dX4_has_5 : decode cX4_has 5 = .ok (.lload_n 1, 1) := by decide +kernel
theorem dX4_has_6 : decode cX4_has 6 = .ok (.lcmp, 1) := by decide +kernel
theorem dX4_has_7 : decode cX4_has 7 = .ok (.ifCond .ne 7, 3) := by decide +kernel
theorem dX4_has_10 : decode cX4_has 10 = .ok (.iconst 1, 1) := by decide +kernel
theorem dX4_has_11 : decode cX4_has 11 = .ok (.goto 4, 3) := by decide +kernel
theorem dX4_has_14 : decode cX4_has 14 = .ok (.iconst 0, 1) := by decide +kernel
theorem dX4_has_15 : decode cX4_has 15 = .ok (.ireturn, 1) := by decide +kernel
theorem dX4_convert_0 : decode cX4_convert 0 = .ok (.bipush 64, 2) := by decide +kernel
theorem dX4_convert_2 : decode cX4_convert 2 = .ok (.bipush 8, 2) := by decide +kernel
theorem dX4_convert_4 : decode cX4_convert 4 = .ok (.iload_n 2, 1) := by decide +kernel
theorem dX4_convert_5 : decode cX4_convert 5 = .ok (.iconst 1, 1) := by decide +kernel
theorem dX4_convert_6 : decode cX4_convert 6 = .ok (.ishr, 1) := by decide +kernel
theorem dX4_convert_7 : decode cX4_convert 7 = .ok (.ishl, 1) := by decide +kernel
theorem dX4_convert_8 : decode cX4_convert 8 = .ok (.isub, 1) := by decide +kernel
theorem dX4_convert_9 : decode cX4_convert 9 = .ok (.istore_n 3, 1) := by decide +kernel
theorem dX4_convert_10 : decode cX4_convert 10 = .ok (.iload_n 2, 1) := by decide +kernel
theorem dX4_convert_11 : decode cX4_convert 11 = .ok (.iconst 1, 1) := by decide +kernel
theorem dX4_convert_12 : decode cX4_convert 12 = .ok (.iand, 1) := by decide +kernel
theorem dX4_convert_13 : decode cX4_convert 13 = .ok (.ifCond .ne 11, 3) := by decide +kernel
theorem dX4_convert_16 : decode cX4_convert 16 = .ok (.lload_n 0, 1) := by decide +kernel
theorem dX4_convert_17 : decode cX4_convert 17 = .ok (.iload_n 3, 1) := by decide +kernel
theorem dX4_convert_18 : decode cX4_convert 18 = .ok (.lshl, 1) := by decide +kernel
theorem dX4_convert_19 : decode cX4_convert 19 = .ok (.iload_n 3, 1) := by decide +kernel
theorem dX4_convert_20 : decode cX4_convert 20 = .ok (.lshr, 1) := by decide +kernel
theorem dX4_convert_21 : decode cX4_convert 21 = .ok (.goto 8, 3) := by decide +kernel
theorem dX4_convert_24 : decode cX4_convert 24 = .ok (.lload_n 0, 1) := by decide +kernel
theorem dX4_convert_25 : decode cX4_convert 25 = .ok (.iload_n 3, 1) := by decide +kernel
theorem dX4_convert_26 : decode cX4_convert 26 = .ok (.lshl, 1) := by decide +kernel
theorem dX4_convert_27 : decode cX4_convert 27 = .ok (.iload_n 3, 1) := by decide +kernel
theorem dX4_convert_28 : decode cX4_convert 28 = .ok (.lushr, 1) := by decide +kernel
theorem dX4_convert_29 : decode cX4_convert 29 = .ok (.lreturn, 1) := by decide +kernel
theorem dX7_variableAt_0 : decode cX7_variableAt 0 = .ok (.iload_n 1, 1) := by decide +kernel
theorem dX7_variableAt_1 : decode cX7_variableAt 1 = .ok (.ifCond .lt 29, 3) := by decide +kernel
theorem dX7_variableAt_4 : decode cX7_variableAt 4 = .ok (.iload_n 1, 1) := by decide +kernel
theorem dX7_variableAt_5 : decode cX7_variableAt 5 = .ok (.aload_n 0, 1) := by decide +kernel
theorem dX7_variableAt_6 : decode cX7_variableAt 6 = .ok (.getfield 38, 3) := by decide +kernel
theorem dX7_variableAt_9 : decode cX7_variableAt 9 = .ok (.if_icmp .ge 21, 3) := by decide +kernel
theorem dX7_variableAt_12 : decode cX7_variableAt 12 = .ok (.iload_n 1, 1) := by decide +kernel
theorem dX7_variableAt_13 : decode cX7_variableAt 13 = .ok (.aload_n 0, 1) := by decide +kernel
theorem dX7_variableAt_14 : decode cX7_variableAt 14 = .ok (.getfield 11, 3) := by decide +kernel
theorem dX7_variableAt_17 : decode cX7_variableAt 17 = .ok (.arraylength, 1) := by decide +kernel
theorem dX7_variableAt_18 : decode cX7_variableAt 18 = .ok (.if_icmp .ge 12, 3) := by decide +kernel
theorem dX7_variableAt_21 : decode cX7_variableAt 21 = .ok (.aload_n 0, 1) := by decide +kernel
theorem dX7_variableAt_22 : decode cX7_variableAt 22 = .ok (.getfield 11, 3) := by decide +kernel
theorem dX7_variableAt_25 : decode cX7_variableAt 25 = .ok (.iload_n 1, 1) := by decide +kernel
theorem dX7_variableAt_26 : decode cX7_variableAt 26 = .ok (.aaload, 1) := by decide +kernel
theorem dX7_variableAt_27 : decode cX7_variableAt 27 = .ok (.goto 4, 3) := by decide +kernel
theorem dX7_variableAt_30 : decode cX7_variableAt 30 = .ok (.aconst_null, 1) := by decide +kernel
theorem dX7_variableAt_31 : decode cX7_variableAt 31 = .ok (.areturn, 1) := by decide +kernel
theorem dX7_functionAt_0 : decode cX7_functionAt 0 = .ok (.iload_n 1, 1) := by decide +kernel
theorem dX7_functionAt_1 : decode cX7_functionAt 1 = .ok (.ifCond .lt 29, 3) := by decide +kernel
theorem dX7_functionAt_4 : decode cX7_functionAt 4 = .ok (.iload_n 1, 1) := by decide +kernel
theorem dX7_functionAt_5 : decode cX7_functionAt 5 = .ok (.aload_n 0, 1) := by decide +kernel
theorem dX7_functionAt_6 : decode cX7_functionAt 6 = .ok (.getfield 42, 3) := by decide +kernel
theorem dX7_functionAt_9 : decode cX7_functionAt 9 = .ok (.if_icmp .ge 21, 3) := by decide +kernel
theorem dX7_functionAt_12 : decode cX7_functionAt 12 = .ok (.iload_n 1, 1) := by decide +kernel
theorem dX7_functionAt_13 : decode cX7_functionAt 13 = .ok (.aload_n 0, 1) := by decide +kernel
theorem dX7_functionAt_14 : decode cX7_functionAt 14 = .ok (.getfield 19, 3) := by decide +kernel
theorem dX7_functionAt_17 : decode cX7_functionAt 17 = .ok (.arraylength, 1) := by decide +kernel
theorem dX7_functionAt_18 : decode cX7_functionAt 18 = .ok (.if_icmp .ge 12, 3) := by decide +kernel
theorem dX7_functionAt_21 : decode cX7_functionAt 21 = .ok (.aload_n 0, 1) := by decide +kernel
theorem dX7_functionAt_22 : decode cX7_functionAt 22 = .ok (.getfield 19, 3) := by decide +kernel
theorem dX7_functionAt_25 : decode cX7_functionAt 25 = .ok (.iload_n 1, 1) := by decide +kernel
theorem dX7_functionAt_26 : decode cX7_functionAt 26 = .ok (.aaload, 1) := by decide +kernel
theorem dX7_functionAt_27 : decode cX7_functionAt 27 = .ok (.goto 4, 3) := by decide +kernel
theorem dX7_functionAt_30 : decode cX7_functionAt 30 = .ok (.aconst_null, 1) := by decide +kernel
theorem dX7_functionAt_31 : decode cX7_functionAt 31 = .ok (.areturn, 1) := by decide +kernel
theorem dX7_nodeAt_0 : decode cX7_nodeAt 0 = .ok (.iload_n 1, 1) := by decide +kernel
theorem dX7_nodeAt_1 : decode cX7_nodeAt 1 = .ok (.ifCond .lt 29, 3) := by decide +kernel
theorem dX7_nodeAt_4 : decode cX7_nodeAt 4 = .ok (.iload_n 1, 1) := by decide +kernel
theorem dX7_nodeAt_5 : decode cX7_nodeAt 5 = .ok (.aload_n 0, 1) := by decide +kernel
theorem dX7_nodeAt_6 : decode cX7_nodeAt 6 = .ok (.getfield 45, 3) := by decide +kernel
theorem dX7_nodeAt_9 : decode cX7_nodeAt 9 = .ok (.if_icmp .ge 21, 3) := by decide +kernel
theorem dX7_nodeAt_12 : decode cX7_nodeAt 12 = .ok (.iload_n 1, 1) := by decide +kernel
theorem dX7_nodeAt_13 : decode cX7_nodeAt 13 = .ok (.aload_n 0, 1) := by decide +kernel
theorem dX7_nodeAt_14 : decode cX7_nodeAt 14 = .ok (.getfield 31, 3) := by decide +kernel
theorem dX7_nodeAt_17 : decode cX7_nodeAt 17 = .ok (.arraylength, 1) := by decide +kernel
theorem dX7_nodeAt_18 : decode cX7_nodeAt 18 = .ok (.if_icmp .ge 12, 3) := by decide +kernel
theorem dX7_nodeAt_21 : decode cX7_nodeAt 21 = .ok (.aload_n 0, 1) := by decide +kernel
theorem dX7_nodeAt_22 : decode cX7_nodeAt 22 = .ok (.getfield 31, 3) := by decide +kernel
theorem dX7_nodeAt_25 : decode cX7_nodeAt 25 = .ok (.iload_n 1, 1) := by decide +kernel
theorem dX7_nodeAt_26 : decode cX7_nodeAt 26 = .ok (.aaload, 1) := by decide +kernel
theorem dX7_nodeAt_27 : decode cX7_nodeAt 27 = .ok (.goto 4, 3) := by decide +kernel
theorem dX7_nodeAt_30 : decode cX7_nodeAt 30 = .ok (.aconst_null, 1) := by decide +kernel
theorem dX7_nodeAt_31 : decode cX7_nodeAt 31 = .ok (.areturn, 1) := by decide +kernel
theorem dX7_statementAt_0 : decode cX7_statementAt 0 = .ok (.iload_n 1, 1) := by decide +kernel
theorem dX7_statementAt_1 : decode cX7_statementAt 1 = .ok (.ifCond .lt 29, 3) := by decide +kernel
theorem dX7_statementAt_4 : decode cX7_statementAt 4 = .ok (.iload_n 1, 1) := by decide +kernel
theorem dX7_statementAt_5 : decode cX7_statementAt 5 = .ok (.aload_n 0, 1) := by decide +kernel
theorem dX7_statementAt_6 : decode cX7_statementAt 6 = .ok (.getfield 48, 3) := by decide +kernel
theorem dX7_statementAt_9 : decode cX7_statementAt 9 = .ok (.if_icmp .ge 21, 3) := by decide +kernel
theorem dX7_statementAt_12 : decode cX7_statementAt 12 = .ok (.iload_n 1, 1) := by decide +kernel
theorem dX7_statementAt_13 : decode cX7_statementAt 13 = .ok (.aload_n 0, 1) := by decide +kernel
theorem dX7_statementAt_14 : decode cX7_statementAt 14 = .ok (.getfield 35, 3) := by decide +kernel
theorem dX7_statementAt_17 : decode cX7_statementAt 17 = .ok (.arraylength, 1) := by decide +kernel
theorem dX7_statementAt_18 : decode cX7_statementAt 18 = .ok (.if_icmp .ge 12, 3) := by decide +kernel
theorem dX7_statementAt_21 : decode cX7_statementAt 21 = .ok (.aload_n 0, 1) := by decide +kernel
theorem dX7_statementAt_22 : decode cX7_statementAt 22 = .ok (.getfield 35, 3) := by decide +kernel
theorem dX7_statementAt_25 : decode cX7_statementAt 25 = .ok (.iload_n 1, 1) := by decide +kernel
theorem dX7_statementAt_26 : decode cX7_statementAt 26 = .ok (.aaload, 1) := by decide +kernel
theorem dX7_statementAt_27 : decode cX7_statementAt 27 = .ok (.goto 4, 3) := by decide +kernel
theorem dX7_statementAt_30 : decode cX7_statementAt 30 = .ok (.aconst_null, 1) := by decide +kernel
theorem dX7_statementAt_31 : decode cX7_statementAt 31 = .ok (.areturn, 1) := by decide +kernel
theorem dX7_canStart_0 : decode cX7_canStart 0 = .ok (.aload_n 0, 1) := by decide +kernel
theorem dX7_canStart_1 : decode cX7_canStart 1 = .ok (.iconst 0, 1) := by decide +kernel
theorem dX7_canStart_2 : decode cX7_canStart 2 = .ok (.invokevirtual 102, 3) := by decide +kernel
theorem dX7_canStart_5 : decode cX7_canStart 5 = .ok (.astore_n 1, 1) := by decide +kernel
theorem dX7_canStart_6 : decode cX7_canStart 6 = .ok (.aload_n 1, 1) := by decide +kernel
theorem dX7_canStart_7 : decode cX7_canStart 7 = .ok (.ifnull 23, 3) := by decide +kernel
theorem dX7_canStart_10 : decode cX7_canStart 10 = .ok (.aload_n 1, 1) := by decide +kernel
theorem dX7_canStart_11 : decode cX7_canStart 11 = .ok (.getfield 106, 3) := by decide +kernel
theorem dX7_canStart_14 : decode cX7_canStart 14 = .ok (.ifnonnull 16, 3) := by decide +kernel
theorem dX7_canStart_17 : decode cX7_canStart 17 = .ok (.aload_n 0, 1) := by decide +kernel
theorem dX7_canStart_18 : decode cX7_canStart 18 = .ok (.getfield 25, 3) := by decide +kernel
theorem dX7_canStart_21 : decode cX7_canStart 21 = .ok (.iconst 0, 1) := by decide +kernel
theorem dX7_canStart_22 : decode cX7_canStart 22 = .ok (.aaload, 1) := by decide +kernel
theorem dX7_canStart_23 : decode cX7_canStart 23 = .ok (.ifnull 7, 3) := by decide +kernel
theorem dX7_canStart_26 : decode cX7_canStart 26 = .ok (.iconst 1, 1) := by decide +kernel
theorem dX7_canStart_27 : decode cX7_canStart 27 = .ok (.goto 4, 3) := by decide +kernel
theorem dX7_canStart_30 : decode cX7_canStart 30 = .ok (.iconst 0, 1) := by decide +kernel
theorem dX7_canStart_31 : decode cX7_canStart 31 = .ok (.ireturn, 1) := by decide +kernel
theorem dX11_setBody_0 : decode cX11_setBody 0 = .ok (.aload_n 0, 1) := by decide +kernel
theorem dX11_setBody_1 : decode cX11_setBody 1 = .ok (.getfield 10, 3) := by decide +kernel
theorem dX11_setBody_4 : decode cX11_setBody 4 = .ok (.iload_n 1, 1) := by decide +kernel
theorem dX11_setBody_5 : decode cX11_setBody 5 = .ok (.invokevirtual 122, 3) := by decide +kernel
theorem dX11_setBody_8 : decode cX11_setBody 8 = .ok (.astore_n 3, 1) := by decide +kernel
theorem dX11_setBody_9 : decode cX11_setBody 9 = .ok (.aload_n 0, 1) := by decide +kernel
theorem dX11_setBody_10 : decode cX11_setBody 10 = .ok (.getfield 10, 3) := by decide +kernel
theorem dX11_setBody_13 : decode cX11_setBody 13 = .ok (.iload_n 2, 1) := by decide +kernel
theorem dX11_setBody_14 : decode cX11_setBody 14 = .ok (.invokevirtual 126, 3) := by decide +kernel
theorem dX11_setBody_17 : decode cX11_setBody 17 = .ok (.astore 4, 2) := by decide +kernel
theorem dX11_setBody_19 : decode cX11_setBody 19 = .ok (.aload_n 3, 1) := by decide +kernel
theorem dX11_setBody_20 : decode cX11_setBody 20 = .ok (.ifnull 8, 3) := by decide +kernel
theorem dX11_setBody_23 : decode cX11_setBody 23 = .ok (.aload 4, 2) := by decide +kernel
theorem dX11_setBody_25 : decode cX11_setBody 25 = .ok (.ifnonnull 13, 3) := by decide +kernel
theorem dX11_setBody_28 : decode cX11_setBody 28 = .ok (.new 86, 3) := by decide +kernel
theorem dX11_setBody_31 : decode cX11_setBody 31 = .ok (.dup, 1) := by decide +kernel
theorem dX11_setBody_32 : decode cX11_setBody 32 = .ok (.ldc 130, 2) := by decide +kernel
theorem dX11_setBody_34 : decode cX11_setBody 34 = .ok (.invokespecial 90, 3) := by decide +kernel
theorem dX11_setBody_37 : decode cX11_setBody 37 = .ok (.athrow, 1) := by decide +kernel
theorem dX11_setBody_38 : decode cX11_setBody 38 = .ok (.aload 4, 2) := by decide +kernel
theorem dX11_setBody_40 : decode cX11_setBody 40 = .ok (.getfield 132, 3) := by decide +kernel
theorem dX11_setBody_43 : decode cX11_setBody 43 = .ok (.ifCond .eq 13, 3) := by decide +kernel
theorem dX11_setBody_46 : decode cX11_setBody 46 = .ok (.new 95, 3) := by decide +kernel
theorem dX11_setBody_49 : decode cX11_setBody 49 = .ok (.dup, 1) := by decide +kernel
theorem dX11_setBody_50 : decode cX11_setBody 50 = .ok (.ldc 137, 2) := by decide +kernel
theorem dX11_setBody_52 : decode cX11_setBody 52 = .ok (.invokespecial 99, 3) := by decide +kernel
theorem dX11_setBody_55 : decode cX11_setBody 55 = .ok (.athrow, 1) := by decide +kernel
theorem dX11_setBody_56 : decode cX11_setBody 56 = .ok (.aload_n 0, 1) := by decide +kernel
theorem dX11_setBody_57 : decode cX11_setBody 57 = .ok (.getfield 10, 3) := by decide +kernel
theorem dX11_setBody_60 : decode cX11_setBody 60 = .ok (.aload_n 3, 1) := by decide +kernel
theorem dX11_setBody_61 : decode cX11_setBody 61 = .ok (.aload 4, 2) := by decide +kernel
theorem dX11_setBody_63 : decode cX11_setBody 63 = .ok (.invokevirtual 139, 3) := by decide +kernel
theorem dX11_setBody_66 : decode cX11_setBody 66 = .ok (.aload_n 0, 1) := by decide +kernel
theorem dX11_setBody_67 : decode cX11_setBody 67 = .ok (.getfield 10, 3) := by decide +kernel
theorem dX11_setBody_70 : decode cX11_setBody 70 = .ok (.invokevirtual 143, 3) := by decide +kernel
theorem dX11_setBody_73 : decode cX11_setBody 73 = .ok (.ireturn, 1) := by decide +kernel
theorem dX11_name_0 : decode cX11_name 0 = .ok (.aload_n 0, 1) := by decide +kernel
theorem dX11_name_1 : decode cX11_name 1 = .ok (.getfield 10, 3) := by decide +kernel
theorem dX11_name_4 : decode cX11_name 4 = .ok (.iload_n 1, 1) := by decide +kernel
theorem dX11_name_5 : decode cX11_name 5 = .ok (.invokevirtual 82, 3) := by decide +kernel
theorem dX11_name_8 : decode cX11_name 8 = .ok (.astore_n 2, 1) := by decide +kernel
theorem dX11_name_9 : decode cX11_name 9 = .ok (.aload_n 2, 1) := by decide +kernel
theorem dX11_name_10 : decode cX11_name 10 = .ok (.ifnonnull 13, 3) := by decide +kernel
theorem dX11_name_13 : decode cX11_name 13 = .ok (.new 86, 3) := by decide +kernel
theorem dX11_name_16 : decode cX11_name 16 = .ok (.dup, 1) := by decide +kernel
theorem dX11_name_17 : decode cX11_name 17 = .ok (.ldc 88, 2) := by decide +kernel
theorem dX11_name_19 : decode cX11_name 19 = .ok (.invokespecial 90, 3) := by decide +kernel
theorem dX11_name_22 : decode cX11_name 22 = .ok (.athrow, 1) := by decide +kernel
theorem dX11_name_23 : decode cX11_name 23 = .ok (.aload_n 0, 1) := by decide +kernel
theorem dX11_name_24 : decode cX11_name 24 = .ok (.invokevirtual 153, 3) := by decide +kernel
theorem dX11_name_27 : decode cX11_name 27 = .ok (.new 156, 3) := by decide +kernel
theorem dX11_name_30 : decode cX11_name 30 = .ok (.dup, 1) := by decide +kernel
theorem dX11_name_31 : decode cX11_name 31 = .ok (.iconst 1, 1) := by decide +kernel
theorem dX11_name_32 : decode cX11_name 32 = .ok (.bipush 32, 2) := by decide +kernel
theorem dX11_name_34 : decode cX11_name 34 = .ok (.aload_n 2, 1) := by decide +kernel
theorem dX11_name_35 : decode cX11_name 35 = .ok (.invokevirtual 118, 3) := by decide +kernel
theorem dX11_name_38 : decode cX11_name 38 = .ok (.ifCond .eq 13, 3) := by decide +kernel
theorem dX11_name_41 : decode cX11_name 41 = .ok (.bipush 10, 2) := by decide +kernel
theorem dX11_name_43 : decode cX11_name 43 = .ok (.aload_n 2, 1) := by decide +kernel
theorem dX11_name_44 : decode cX11_name 44 = .ok (.getfield 169, 3) := by decide +kernel
theorem dX11_name_47 : decode cX11_name 47 = .ok (.iadd, 1) := by decide +kernel
theorem dX11_name_48 : decode cX11_name 48 = .ok (.goto 7, 3) := by decide +kernel
theorem dX11_name_51 : decode cX11_name 51 = .ok (.aload_n 2, 1) := by decide +kernel
theorem dX11_name_52 : decode cX11_name 52 = .ok (.getfield 169, 3) := by decide +kernel
theorem dX11_name_55 : decode cX11_name 55 = .ok (.invokespecial 158, 3) := by decide +kernel
theorem dX11_name_58 : decode cX11_name 58 = .ok (.astore_n 3, 1) := by decide +kernel
theorem dX11_name_59 : decode cX11_name 59 = .ok (.aload_n 3, 1) := by decide +kernel
theorem dX11_name_60 : decode cX11_name 60 = .ok (.aload_n 2, 1) := by decide +kernel
theorem dX11_name_61 : decode cX11_name 61 = .ok (.putfield 172, 3) := by decide +kernel
theorem dX11_name_64 : decode cX11_name 64 = .ok (.aload_n 0, 1) := by decide +kernel
theorem dX11_name_65 : decode cX11_name 65 = .ok (.getfield 10, 3) := by decide +kernel
theorem dX11_name_68 : decode cX11_name 68 = .ok (.aload_n 3, 1) := by decide +kernel
theorem dX11_name_69 : decode cX11_name 69 = .ok (.aconst_null, 1) := by decide +kernel
theorem dX11_name_70 : decode cX11_name 70 = .ok (.aconst_null, 1) := by decide +kernel
theorem dX11_name_71 : decode cX11_name 71 = .ok (.aconst_null, 1) := by decide +kernel
theorem dX11_name_72 : decode cX11_name 72 = .ok (.invokevirtual 165, 3) := by decide +kernel
theorem dX11_name_75 : decode cX11_name 75 = .ok (.ireturn, 1) := by decide +kernel
theorem dX11_cast_0 : decode cX11_cast 0 = .ok (.iload_n 1, 1) := by decide +kernel
theorem dX11_cast_1 : decode cX11_cast 1 = .ok (.invokestatic 57, 3) := by decide +kernel
theorem dX11_cast_4 : decode cX11_cast 4 = .ok (.ifCond .ne 13, 3) := by decide +kernel
theorem dX11_cast_7 : decode cX11_cast 7 = .ok (.new 50, 3) := by decide +kernel
theorem dX11_cast_10 : decode cX11_cast 10 = .ok (.dup, 1) := by decide +kernel
theorem dX11_cast_11 : decode cX11_cast 11 = .ok (.ldc 204, 2) := by decide +kernel
theorem dX11_cast_13 : decode cX11_cast 13 = .ok (.invokespecial 54, 3) := by decide +kernel
theorem dX11_cast_16 : decode cX11_cast 16 = .ok (.athrow, 1) := by decide +kernel
theorem dX11_cast_17 : decode cX11_cast 17 = .ok (.aload_n 0, 1) := by decide +kernel
theorem dX11_cast_18 : decode cX11_cast 18 = .ok (.getfield 10, 3) := by decide +kernel
theorem dX11_cast_21 : decode cX11_cast 21 = .ok (.iload_n 2, 1) := by decide +kernel
theorem dX11_cast_22 : decode cX11_cast 22 = .ok (.invokevirtual 186, 3) := by decide +kernel
theorem dX11_cast_25 : decode cX11_cast 25 = .ok (.astore_n 3, 1) := by decide +kernel
theorem dX11_cast_26 : decode cX11_cast 26 = .ok (.aload_n 3, 1) := by decide +kernel
theorem dX11_cast_27 : decode cX11_cast 27 = .ok (.ifnonnull 13, 3) := by decide +kernel
theorem dX11_cast_30 : decode cX11_cast 30 = .ok (.new 86, 3) := by decide +kernel
theorem dX11_cast_33 : decode cX11_cast 33 = .ok (.dup, 1) := by decide +kernel
theorem dX11_cast_34 : decode cX11_cast 34 = .ok (.ldc 190, 2) := by decide +kernel
theorem dX11_cast_36 : decode cX11_cast 36 = .ok (.invokespecial 90, 3) := by decide +kernel
theorem dX11_cast_39 : decode cX11_cast 39 = .ok (.athrow, 1) := by decide +kernel
theorem dX11_cast_40 : decode cX11_cast 40 = .ok (.aload_n 3, 1) := by decide +kernel
theorem dX11_cast_41 : decode cX11_cast 41 = .ok (.getfield 206, 3) := by decide +kernel
theorem dX11_cast_44 : decode cX11_cast 44 = .ok (.invokestatic 57, 3) := by decide +kernel
theorem dX11_cast_47 : decode cX11_cast 47 = .ok (.ifCond .eq 12, 3) := by decide +kernel
theorem dX11_cast_50 : decode cX11_cast 50 = .ok (.aload_n 3, 1) := by decide +kernel
theorem dX11_cast_51 : decode cX11_cast 51 = .ok (.aconst_null, 1) := by decide +kernel
theorem dX11_cast_52 : decode cX11_cast 52 = .ok (.aconst_null, 1) := by decide +kernel
theorem dX11_cast_53 : decode cX11_cast 53 = .ok (.invokestatic 198, 3) := by decide +kernel
theorem dX11_cast_56 : decode cX11_cast 56 = .ok (.ifCond .ne 13, 3) := by decide +kernel
theorem dX11_cast_59 : decode cX11_cast 59 = .ok (.new 95, 3) := by decide +kernel
theorem dX11_cast_62 : decode cX11_cast 62 = .ok (.dup, 1) := by decide +kernel
theorem dX11_cast_63 : decode cX11_cast 63 = .ok (.ldc 202, 2) := by decide +kernel
theorem dX11_cast_65 : decode cX11_cast 65 = .ok (.invokespecial 99, 3) := by decide +kernel
theorem dX11_cast_68 : decode cX11_cast 68 = .ok (.athrow, 1) := by decide +kernel
theorem dX11_cast_69 : decode cX11_cast 69 = .ok (.aload_n 0, 1) := by decide +kernel
theorem dX11_cast_70 : decode cX11_cast 70 = .ok (.invokevirtual 153, 3) := by decide +kernel
theorem dX11_cast_73 : decode cX11_cast 73 = .ok (.aload_n 0, 1) := by decide +kernel
theorem dX11_cast_74 : decode cX11_cast 74 = .ok (.getfield 10, 3) := by decide +kernel
theorem dX11_cast_77 : decode cX11_cast 77 = .ok (.new 156, 3) := by decide +kernel
theorem dX11_cast_80 : decode cX11_cast 80 = .ok (.dup, 1) := by decide +kernel
theorem dX11_cast_81 : decode cX11_cast 81 = .ok (.iconst 3, 1) := by decide +kernel
theorem dX11_cast_82 : decode cX11_cast 82 = .ok (.bipush 32, 2) := by decide +kernel
theorem dX11_cast_84 : decode cX11_cast 84 = .ok (.iload_n 1, 1) := by decide +kernel
theorem dX11_cast_85 : decode cX11_cast 85 = .ok (.invokespecial 158, 3) := by decide +kernel
theorem dX11_cast_88 : decode cX11_cast 88 = .ok (.aload_n 3, 1) := by decide +kernel
theorem dX11_cast_89 : decode cX11_cast 89 = .ok (.aconst_null, 1) := by decide +kernel
theorem dX11_cast_90 : decode cX11_cast 90 = .ok (.aconst_null, 1) := by decide +kernel
theorem dX11_cast_91 : decode cX11_cast 91 = .ok (.invokevirtual 165, 3) := by decide +kernel
theorem dX11_cast_94 : decode cX11_cast 94 = .ok (.ireturn, 1) := by decide +kernel
theorem dX11_choose_0 : decode cX11_choose 0 = .ok (.aload_n 0, 1) := by decide +kernel
theorem dX11_choose_1 : decode cX11_choose 1 = .ok (.getfield 10, 3) := by decide +kernel
theorem dX11_choose_4 : decode cX11_choose 4 = .ok (.iload_n 1, 1) := by decide +kernel
theorem dX11_choose_5 : decode cX11_choose 5 = .ok (.invokevirtual 186, 3) := by decide +kernel
theorem dX11_choose_8 : decode cX11_choose 8 = .ok (.astore 4, 2) := by decide +kernel
theorem dX11_choose_10 : decode cX11_choose 10 = .ok (.aload_n 0, 1) := by decide +kernel
theorem dX11_choose_11 : decode cX11_choose 11 = .ok (.getfield 10, 3) := by decide +kernel
theorem dX11_choose_14 : decode cX11_choose 14 = .ok (.iload_n 2, 1) := by decide +kernel
theorem dX11_choose_15 : decode cX11_choose 15 = .ok (.invokevirtual 186, 3) := by decide +kernel
theorem dX11_choose_18 : decode cX11_choose 18 = .ok (.astore 5, 2) := by decide +kernel
theorem dX11_choose_20 : decode cX11_choose 20 = .ok (.aload_n 0, 1) := by decide +kernel
theorem dX11_choose_21 : decode cX11_choose 21 = .ok (.getfield 10, 3) := by decide +kernel
theorem dX11_choose_24 : decode cX11_choose 24 = .ok (.iload_n 3, 1) := by decide +kernel
theorem dX11_choose_25 : decode cX11_choose 25 = .ok (.invokevirtual 186, 3) := by decide +kernel
theorem dX11_choose_28 : decode cX11_choose 28 = .ok (.astore 6, 2) := by decide +kernel
theorem dX11_choose_30 : decode cX11_choose 30 = .ok (.aload 4, 2) := by decide +kernel
theorem dX11_choose_32 : decode cX11_choose 32 = .ok (.ifnull 13, 3) := by decide +kernel
theorem dX11_choose_35 : decode cX11_choose 35 = .ok (.aload 5, 2) := by decide +kernel
theorem dX11_choose_37 : decode cX11_choose 37 = .ok (.ifnull 8, 3) := by decide +kernel
theorem dX11_choose_40 : decode cX11_choose 40 = .ok (.aload 6, 2) := by decide +kernel
theorem dX11_choose_42 : decode cX11_choose 42 = .ok (.ifnonnull 13, 3) := by decide +kernel
theorem dX11_choose_45 : decode cX11_choose 45 = .ok (.new 86, 3) := by decide +kernel
theorem dX11_choose_48 : decode cX11_choose 48 = .ok (.dup, 1) := by decide +kernel
theorem dX11_choose_49 : decode cX11_choose 49 = .ok (.ldc 190, 2) := by decide +kernel
theorem dX11_choose_51 : decode cX11_choose 51 = .ok (.invokespecial 90, 3) := by decide +kernel
theorem dX11_choose_54 : decode cX11_choose 54 = .ok (.athrow, 1) := by decide +kernel
theorem dX11_choose_55 : decode cX11_choose 55 = .ok (.aload 5, 2) := by decide +kernel
theorem dX11_choose_57 : decode cX11_choose 57 = .ok (.getfield 206, 3) := by decide +kernel
theorem dX11_choose_60 : decode cX11_choose 60 = .ok (.aload 6, 2) := by decide +kernel
theorem dX11_choose_62 : decode cX11_choose 62 = .ok (.getfield 206, 3) := by decide +kernel
theorem dX11_choose_65 : decode cX11_choose 65 = .ok (.invokestatic 213, 3) := by decide +kernel
theorem dX11_choose_68 : decode cX11_choose 68 = .ok (.istore 7, 2) := by decide +kernel
theorem dX11_choose_70 : decode cX11_choose 70 = .ok (.iload 7, 2) := by decide +kernel
theorem dX11_choose_72 : decode cX11_choose 72 = .ok (.iconst (-1), 1) := by decide +kernel
theorem dX11_choose_73 : decode cX11_choose 73 = .ok (.if_icmp .eq 15, 3) := by decide +kernel
theorem dX11_choose_76 : decode cX11_choose 76 = .ok (.aload 4, 2) := by decide +kernel
theorem dX11_choose_78 : decode cX11_choose 78 = .ok (.aload 5, 2) := by decide +kernel
theorem dX11_choose_80 : decode cX11_choose 80 = .ok (.aload 6, 2) := by decide +kernel
theorem dX11_choose_82 : decode cX11_choose 82 = .ok (.invokestatic 198, 3) := by decide +kernel
theorem dX11_choose_85 : decode cX11_choose 85 = .ok (.ifCond .ne 13, 3) := by decide +kernel
theorem dX11_choose_88 : decode cX11_choose 88 = .ok (.new 95, 3) := by decide +kernel
theorem dX11_choose_91 : decode cX11_choose 91 = .ok (.dup, 1) := by decide +kernel
theorem dX11_choose_92 : decode cX11_choose 92 = .ok (.ldc 202, 2) := by decide +kernel
theorem dX11_choose_94 : decode cX11_choose 94 = .ok (.invokespecial 99, 3) := by decide +kernel
theorem dX11_choose_97 : decode cX11_choose 97 = .ok (.athrow, 1) := by decide +kernel
theorem dX11_choose_98 : decode cX11_choose 98 = .ok (.aload_n 0, 1) := by decide +kernel
theorem dX11_choose_99 : decode cX11_choose 99 = .ok (.invokevirtual 153, 3) := by decide +kernel
theorem dX11_choose_102 : decode cX11_choose 102 = .ok (.aload_n 0, 1) := by decide +kernel
theorem dX11_choose_103 : decode cX11_choose 103 = .ok (.getfield 10, 3) := by decide +kernel
theorem dX11_choose_106 : decode cX11_choose 106 = .ok (.new 156, 3) := by decide +kernel
theorem dX11_choose_109 : decode cX11_choose 109 = .ok (.dup, 1) := by decide +kernel
theorem dX11_choose_110 : decode cX11_choose 110 = .ok (.iconst 5, 1) := by decide +kernel
theorem dX11_choose_111 : decode cX11_choose 111 = .ok (.bipush 32, 2) := by decide +kernel
theorem dX11_choose_113 : decode cX11_choose 113 = .ok (.iload 7, 2) := by decide +kernel
theorem dX11_choose_115 : decode cX11_choose 115 = .ok (.invokespecial 158, 3) := by decide +kernel
theorem dX11_choose_118 : decode cX11_choose 118 = .ok (.aload 4, 2) := by decide +kernel
theorem dX11_choose_120 : decode cX11_choose 120 = .ok (.aload 5, 2) := by decide +kernel
theorem dX11_choose_122 : decode cX11_choose 122 = .ok (.aload 6, 2) := by decide +kernel
theorem dX11_choose_124 : decode cX11_choose 124 = .ok (.invokevirtual 165, 3) := by decide +kernel
theorem dX11_choose_127 : decode cX11_choose 127 = .ok (.ireturn, 1) := by decide +kernel
theorem dX11_call_0 : decode cX11_call 0 = .ok (.aload_n 0, 1) := by decide +kernel
theorem dX11_call_1 : decode cX11_call 1 = .ok (.getfield 10, 3) := by decide +kernel
theorem dX11_call_4 : decode cX11_call 4 = .ok (.iload_n 1, 1) := by decide +kernel
theorem dX11_call_5 : decode cX11_call 5 = .ok (.invokevirtual 122, 3) := by decide +kernel
theorem dX11_call_8 : decode cX11_call 8 = .ok (.astore 4, 2) := by decide +kernel
theorem dX11_call_10 : decode cX11_call 10 = .ok (.aload_n 0, 1) := by decide +kernel
theorem dX11_call_11 : decode cX11_call 11 = .ok (.getfield 10, 3) := by decide +kernel
theorem dX11_call_14 : decode cX11_call 14 = .ok (.iload_n 2, 1) := by decide +kernel
theorem dX11_call_15 : decode cX11_call 15 = .ok (.invokevirtual 186, 3) := by decide +kernel
theorem dX11_call_18 : decode cX11_call 18 = .ok (.astore 5, 2) := by decide +kernel
theorem dX11_call_20 : decode cX11_call 20 = .ok (.aload_n 0, 1) := by decide +kernel
theorem dX11_call_21 : decode cX11_call 21 = .ok (.getfield 10, 3) := by decide +kernel
theorem dX11_call_24 : decode cX11_call 24 = .ok (.iload_n 3, 1) := by decide +kernel
theorem dX11_call_25 : decode cX11_call 25 = .ok (.invokevirtual 186, 3) := by decide +kernel
theorem dX11_call_28 : decode cX11_call 28 = .ok (.astore 6, 2) := by decide +kernel
theorem dX11_call_30 : decode cX11_call 30 = .ok (.aload 4, 2) := by decide +kernel
theorem dX11_call_32 : decode cX11_call 32 = .ok (.ifnull 23, 3) := by decide +kernel
theorem dX11_call_35 : decode cX11_call 35 = .ok (.aload 5, 2) := by decide +kernel
theorem dX11_call_37 : decode cX11_call 37 = .ok (.ifnonnull 8, 3) := by decide +kernel
theorem dX11_call_40 : decode cX11_call 40 = .ok (.iload_n 2, 1) := by decide +kernel
theorem dX11_call_41 : decode cX11_call 41 = .ok (.iconst (-1), 1) := by decide +kernel
theorem dX11_call_42 : decode cX11_call 42 = .ok (.if_icmp .ne 13, 3) := by decide +kernel
theorem dX11_call_45 : decode cX11_call 45 = .ok (.aload 6, 2) := by decide +kernel
theorem dX11_call_47 : decode cX11_call 47 = .ok (.ifnonnull 18, 3) := by decide +kernel
theorem dX11_call_50 : decode cX11_call 50 = .ok (.iload_n 3, 1) := by decide +kernel
theorem dX11_call_51 : decode cX11_call 51 = .ok (.iconst (-1), 1) := by decide +kernel
theorem dX11_call_52 : decode cX11_call 52 = .ok (.if_icmp .eq 13, 3) := by decide +kernel
theorem dX11_call_55 : decode cX11_call 55 = .ok (.new 86, 3) := by decide +kernel
theorem dX11_call_58 : decode cX11_call 58 = .ok (.dup, 1) := by decide +kernel
theorem dX11_call_59 : decode cX11_call 59 = .ok (.ldc 223, 2) := by decide +kernel
theorem dX11_call_61 : decode cX11_call 61 = .ok (.invokespecial 90, 3) := by decide +kernel
theorem dX11_call_64 : decode cX11_call 64 = .ok (.athrow, 1) := by decide +kernel
theorem dX11_call_65 : decode cX11_call 65 = .ok (.aload 4, 2) := by decide +kernel
theorem dX11_call_67 : decode cX11_call 67 = .ok (.getfield 225, 3) := by decide +kernel
theorem dX11_call_70 : decode cX11_call 70 = .ok (.aload 5, 2) := by decide +kernel
theorem dX11_call_72 : decode cX11_call 72 = .ok (.invokestatic 228, 3) := by decide +kernel
theorem dX11_call_75 : decode cX11_call 75 = .ok (.ifCond .eq 20, 3) := by decide +kernel
theorem dX11_call_78 : decode cX11_call 78 = .ok (.aload 4, 2) := by decide +kernel
theorem dX11_call_80 : decode cX11_call 80 = .ok (.getfield 232, 3) := by decide +kernel
theorem dX11_call_83 : decode cX11_call 83 = .ok (.aload 6, 2) := by decide +kernel
theorem dX11_call_85 : decode cX11_call 85 = .ok (.invokestatic 228, 3) := by decide +kernel
theorem dX11_call_88 : decode cX11_call 88 = .ok (.ifCond .eq 7, 3) := by decide +kernel
theorem dX11_call_91 : decode cX11_call 91 = .ok (.iconst 1, 1) := by decide +kernel
theorem dX11_call_92 : decode cX11_call 92 = .ok (.goto 4, 3) := by decide +kernel
theorem dX11_call_95 : decode cX11_call 95 = .ok (.iconst 0, 1) := by decide +kernel
theorem dX11_call_96 : decode cX11_call 96 = .ok (.istore 7, 2) := by decide +kernel
theorem dX11_call_98 : decode cX11_call 98 = .ok (.iload 7, 2) := by decide +kernel
theorem dX11_call_100 : decode cX11_call 100 = .ok (.ifCond .eq 14, 3) := by decide +kernel
theorem dX11_call_103 : decode cX11_call 103 = .ok (.aload 5, 2) := by decide +kernel
theorem dX11_call_105 : decode cX11_call 105 = .ok (.aload 6, 2) := by decide +kernel
theorem dX11_call_107 : decode cX11_call 107 = .ok (.aconst_null, 1) := by decide +kernel
theorem dX11_call_108 : decode cX11_call 108 = .ok (.invokestatic 198, 3) := by decide +kernel
theorem dX11_call_111 : decode cX11_call 111 = .ok (.ifCond .ne 13, 3) := by decide +kernel
theorem dX11_call_114 : decode cX11_call 114 = .ok (.new 95, 3) := by decide +kernel
theorem dX11_call_117 : decode cX11_call 117 = .ok (.dup, 1) := by decide +kernel
theorem dX11_call_118 : decode cX11_call 118 = .ok (.ldc 202, 2) := by decide +kernel
theorem dX11_call_120 : decode cX11_call 120 = .ok (.invokespecial 99, 3) := by decide +kernel
theorem dX11_call_123 : decode cX11_call 123 = .ok (.athrow, 1) := by decide +kernel
theorem dX11_call_124 : decode cX11_call 124 = .ok (.aload_n 0, 1) := by decide +kernel
theorem dX11_call_125 : decode cX11_call 125 = .ok (.invokevirtual 153, 3) := by decide +kernel
theorem dX11_call_128 : decode cX11_call 128 = .ok (.new 156, 3) := by decide +kernel
theorem dX11_call_131 : decode cX11_call 131 = .ok (.dup, 1) := by decide +kernel
theorem dX11_call_132 : decode cX11_call 132 = .ok (.bipush 7, 2) := by decide +kernel
theorem dX11_call_134 : decode cX11_call 134 = .ok (.bipush 32, 2) := by decide +kernel
theorem dX11_call_136 : decode cX11_call 136 = .ok (.aload 4, 2) := by decide +kernel
theorem dX11_call_138 : decode cX11_call 138 = .ok (.getfield 235, 3) := by decide +kernel
theorem dX11_call_141 : decode cX11_call 141 = .ok (.invokespecial 158, 3) := by decide +kernel
theorem dX11_call_144 : decode cX11_call 144 = .ok (.astore 8, 2) := by decide +kernel
theorem dX11_call_146 : decode cX11_call 146 = .ok (.aload 8, 2) := by decide +kernel
theorem dX11_call_148 : decode cX11_call 148 = .ok (.aload 4, 2) := by decide +kernel
theorem dX11_call_150 : decode cX11_call 150 = .ok (.putfield 238, 3) := by decide +kernel
theorem dX11_call_153 : decode cX11_call 153 = .ok (.aload_n 0, 1) := by decide +kernel
theorem dX11_call_154 : decode cX11_call 154 = .ok (.getfield 10, 3) := by decide +kernel
theorem dX11_call_157 : decode cX11_call 157 = .ok (.aload 8, 2) := by decide +kernel
theorem dX11_call_159 : decode cX11_call 159 = .ok (.aload 5, 2) := by decide +kernel
theorem dX11_call_161 : decode cX11_call 161 = .ok (.aload 6, 2) := by decide +kernel
theorem dX11_call_163 : decode cX11_call 163 = .ok (.aconst_null, 1) := by decide +kernel
theorem dX11_call_164 : decode cX11_call 164 = .ok (.invokevirtual 165, 3) := by decide +kernel
theorem dX11_call_167 : decode cX11_call 167 = .ok (.ireturn, 1) := by decide +kernel
theorem dX11_typeOf_0 : decode cX11_typeOf 0 = .ok (.aload_n 0, 1) := by decide +kernel
theorem dX11_typeOf_1 : decode cX11_typeOf 1 = .ok (.getfield 10, 3) := by decide +kernel
theorem dX11_typeOf_4 : decode cX11_typeOf 4 = .ok (.iload_n 1, 1) := by decide +kernel
theorem dX11_typeOf_5 : decode cX11_typeOf 5 = .ok (.invokevirtual 186, 3) := by decide +kernel
theorem dX11_typeOf_8 : decode cX11_typeOf 8 = .ok (.astore_n 2, 1) := by decide +kernel
theorem dX11_typeOf_9 : decode cX11_typeOf 9 = .ok (.aload_n 2, 1) := by decide +kernel
theorem dX11_typeOf_10 : decode cX11_typeOf 10 = .ok (.ifnonnull 13, 3) := by decide +kernel
theorem dX11_typeOf_13 : decode cX11_typeOf 13 = .ok (.new 86, 3) := by decide +kernel
theorem dX11_typeOf_16 : decode cX11_typeOf 16 = .ok (.dup, 1) := by decide +kernel
theorem dX11_typeOf_17 : decode cX11_typeOf 17 = .ok (.ldc 190, 2) := by decide +kernel
theorem dX11_typeOf_19 : decode cX11_typeOf 19 = .ok (.invokespecial 90, 3) := by decide +kernel
theorem dX11_typeOf_22 : decode cX11_typeOf 22 = .ok (.athrow, 1) := by decide +kernel
theorem dX11_typeOf_23 : decode cX11_typeOf 23 = .ok (.aload_n 2, 1) := by decide +kernel
theorem dX11_typeOf_24 : decode cX11_typeOf 24 = .ok (.getfield 206, 3) := by decide +kernel
theorem dX11_typeOf_27 : decode cX11_typeOf 27 = .ok (.ireturn, 1) := by decide +kernel
theorem dX11_declare_0 : decode cX11_declare 0 = .ok (.aload_n 0, 1) := by decide +kernel
theorem dX11_declare_1 : decode cX11_declare 1 = .ok (.getfield 10, 3) := by decide +kernel
theorem dX11_declare_4 : decode cX11_declare 4 = .ok (.iload_n 1, 1) := by decide +kernel
theorem dX11_declare_5 : decode cX11_declare 5 = .ok (.invokevirtual 82, 3) := by decide +kernel
theorem dX11_declare_8 : decode cX11_declare 8 = .ok (.astore_n 2, 1) := by decide +kernel
theorem dX11_declare_9 : decode cX11_declare 9 = .ok (.aload_n 2, 1) := by decide +kernel
theorem dX11_declare_10 : decode cX11_declare 10 = .ok (.ifnonnull 13, 3) := by decide +kernel
theorem dX11_declare_13 : decode cX11_declare 13 = .ok (.new 86, 3) := by decide +kernel
theorem dX11_declare_16 : decode cX11_declare 16 = .ok (.dup, 1) := by decide +kernel
theorem dX11_declare_17 : decode cX11_declare 17 = .ok (.ldc 88, 2) := by decide +kernel
theorem dX11_declare_19 : decode cX11_declare 19 = .ok (.invokespecial 90, 3) := by decide +kernel
theorem dX11_declare_22 : decode cX11_declare 22 = .ok (.athrow, 1) := by decide +kernel
theorem dX11_declare_23 : decode cX11_declare 23 = .ok (.aload_n 2, 1) := by decide +kernel
theorem dX11_declare_24 : decode cX11_declare 24 = .ok (.getfield 114, 3) := by decide +kernel
theorem dX11_declare_27 : decode cX11_declare 27 = .ok (.ifCond .eq 14, 3) := by decide +kernel
theorem dX11_declare_30 : decode cX11_declare 30 = .ok (.new 95, 3) := by decide +kernel
theorem dX11_declare_33 : decode cX11_declare 33 = .ok (.dup, 1) := by decide +kernel
theorem dX11_declare_34 : decode cX11_declare 34 = .ok (.ldc_w 262, 3) := by decide +kernel
theorem dX11_declare_37 : decode cX11_declare 37 = .ok (.invokespecial 99, 3) := by decide +kernel
theorem dX11_declare_40 : decode cX11_declare 40 = .ok (.athrow, 1) := by decide +kernel
theorem dX11_declare_41 : decode cX11_declare 41 = .ok (.aload_n 0, 1) := by decide +kernel
theorem dX11_declare_42 : decode cX11_declare 42 = .ok (.invokevirtual 252, 3) := by decide +kernel
theorem dX11_declare_45 : decode cX11_declare 45 = .ok (.aload_n 0, 1) := by decide +kernel
theorem dX11_declare_46 : decode cX11_declare 46 = .ok (.getfield 10, 3) := by decide +kernel
theorem dX11_declare_49 : decode cX11_declare 49 = .ok (.new 133, 3) := by decide +kernel
theorem dX11_declare_52 : decode cX11_declare 52 = .ok (.dup, 1) := by decide +kernel
theorem dX11_declare_53 : decode cX11_declare 53 = .ok (.bipush 100, 2) := by decide +kernel
theorem dX11_declare_55 : decode cX11_declare 55 = .ok (.aconst_null, 1) := by decide +kernel
theorem dX11_declare_56 : decode cX11_declare 56 = .ok (.aload_n 2, 1) := by decide +kernel
theorem dX11_declare_57 : decode cX11_declare 57 = .ok (.invokespecial 255, 3) := by decide +kernel
theorem dX11_declare_60 : decode cX11_declare 60 = .ok (.aconst_null, 1) := by decide +kernel
theorem dX11_declare_61 : decode cX11_declare 61 = .ok (.aconst_null, 1) := by decide +kernel
theorem dX11_declare_62 : decode cX11_declare 62 = .ok (.invokevirtual 258, 3) := by decide +kernel
theorem dX11_declare_65 : decode cX11_declare 65 = .ok (.ireturn, 1) := by decide +kernel
theorem dX11_branch_0 : decode cX11_branch 0 = .ok (.aload_n 0, 1) := by decide +kernel
theorem dX11_branch_1 : decode cX11_branch 1 = .ok (.getfield 10, 3) := by decide +kernel
theorem dX11_branch_4 : decode cX11_branch 4 = .ok (.iload_n 1, 1) := by decide +kernel
theorem dX11_branch_5 : decode cX11_branch 5 = .ok (.invokevirtual 186, 3) := by decide +kernel
theorem dX11_branch_8 : decode cX11_branch 8 = .ok (.astore 4, 2) := by decide +kernel
theorem dX11_branch_10 : decode cX11_branch 10 = .ok (.aload_n 0, 1) := by decide +kernel
theorem dX11_branch_11 : decode cX11_branch 11 = .ok (.getfield 10, 3) := by decide +kernel
theorem dX11_branch_14 : decode cX11_branch 14 = .ok (.iload_n 2, 1) := by decide +kernel
theorem dX11_branch_15 : decode cX11_branch 15 = .ok (.invokevirtual 126, 3) := by decide +kernel
theorem dX11_branch_18 : decode cX11_branch 18 = .ok (.astore 5, 2) := by decide +kernel
theorem dX11_branch_20 : decode cX11_branch 20 = .ok (.aload_n 0, 1) := by decide +kernel
theorem dX11_branch_21 : decode cX11_branch 21 = .ok (.getfield 10, 3) := by decide +kernel
theorem dX11_branch_24 : decode cX11_branch 24 = .ok (.iload_n 3, 1) := by decide +kernel
theorem dX11_branch_25 : decode cX11_branch 25 = .ok (.invokevirtual 126, 3) := by decide +kernel
theorem dX11_branch_28 : decode cX11_branch 28 = .ok (.astore 6, 2) := by decide +kernel
theorem dX11_branch_30 : decode cX11_branch 30 = .ok (.aload 4, 2) := by decide +kernel
theorem dX11_branch_32 : decode cX11_branch 32 = .ok (.ifnull 18, 3) := by decide +kernel
theorem dX11_branch_35 : decode cX11_branch 35 = .ok (.aload 5, 2) := by decide +kernel
theorem dX11_branch_37 : decode cX11_branch 37 = .ok (.ifnull 13, 3) := by decide +kernel
theorem dX11_branch_40 : decode cX11_branch 40 = .ok (.aload 6, 2) := by decide +kernel
theorem dX11_branch_42 : decode cX11_branch 42 = .ok (.ifnonnull 19, 3) := by decide +kernel
theorem dX11_branch_45 : decode cX11_branch 45 = .ok (.iload_n 3, 1) := by decide +kernel
theorem dX11_branch_46 : decode cX11_branch 46 = .ok (.iconst (-1), 1) := by decide +kernel
theorem dX11_branch_47 : decode cX11_branch 47 = .ok (.if_icmp .eq 14, 3) := by decide +kernel
theorem dX11_branch_50 : decode cX11_branch 50 = .ok (.new 86, 3) := by decide +kernel
theorem dX11_branch_53 : decode cX11_branch 53 = .ok (.dup, 1) := by decide +kernel
theorem dX11_branch_54 : decode cX11_branch 54 = .ok (.ldc_w 264, 3) := by decide +kernel
theorem dX11_branch_57 : decode cX11_branch 57 = .ok (.invokespecial 90, 3) := by decide +kernel
theorem dX11_branch_60 : decode cX11_branch 60 = .ok (.athrow, 1) := by decide +kernel
theorem dX11_branch_61 : decode cX11_branch 61 = .ok (.aload_n 0, 1) := by decide +kernel
theorem dX11_branch_62 : decode cX11_branch 62 = .ok (.bipush 105, 2) := by decide +kernel
theorem dX11_branch_64 : decode cX11_branch 64 = .ok (.aload 4, 2) := by decide +kernel
theorem dX11_branch_66 : decode cX11_branch 66 = .ok (.aload 5, 2) := by decide +kernel
theorem dX11_branch_68 : decode cX11_branch 68 = .ok (.aload 6, 2) := by decide +kernel
theorem dX11_branch_70 : decode cX11_branch 70 = .ok (.invokevirtual 266, 3) := by decide +kernel
theorem dX11_branch_73 : decode cX11_branch 73 = .ok (.ireturn, 1) := by decide +kernel
theorem dX11_repeat_0 : decode cX11_repeat 0 = .ok (.aload_n 0, 1) := by decide +kernel
theorem dX11_repeat_1 : decode cX11_repeat 1 = .ok (.getfield 10, 3) := by decide +kernel
theorem dX11_repeat_4 : decode cX11_repeat 4 = .ok (.iload_n 1, 1) := by decide +kernel
theorem dX11_repeat_5 : decode cX11_repeat 5 = .ok (.invokevirtual 186, 3) := by decide +kernel
theorem dX11_repeat_8 : decode cX11_repeat 8 = .ok (.astore_n 3, 1) := by decide +kernel
theorem dX11_repeat_9 : decode cX11_repeat 9 = .ok (.aload_n 0, 1) := by decide +kernel
theorem dX11_repeat_10 : decode cX11_repeat 10 = .ok (.getfield 10, 3) := by decide +kernel
theorem dX11_repeat_13 : decode cX11_repeat 13 = .ok (.iload_n 2, 1) := by decide +kernel
theorem dX11_repeat_14 : decode cX11_repeat 14 = .ok (.invokevirtual 126, 3) := by decide +kernel
theorem dX11_repeat_17 : decode cX11_repeat 17 = .ok (.astore 4, 2) := by decide +kernel
theorem dX11_repeat_19 : decode cX11_repeat 19 = .ok (.aload_n 3, 1) := by decide +kernel
theorem dX11_repeat_20 : decode cX11_repeat 20 = .ok (.ifnull 8, 3) := by decide +kernel
theorem dX11_repeat_23 : decode cX11_repeat 23 = .ok (.aload 4, 2) := by decide +kernel
theorem dX11_repeat_25 : decode cX11_repeat 25 = .ok (.ifnonnull 14, 3) := by decide +kernel
theorem dX11_repeat_28 : decode cX11_repeat 28 = .ok (.new 86, 3) := by decide +kernel
theorem dX11_repeat_31 : decode cX11_repeat 31 = .ok (.dup, 1) := by decide +kernel
theorem dX11_repeat_32 : decode cX11_repeat 32 = .ok (.ldc_w 264, 3) := by decide +kernel
theorem dX11_repeat_35 : decode cX11_repeat 35 = .ok (.invokespecial 90, 3) := by decide +kernel
theorem dX11_repeat_38 : decode cX11_repeat 38 = .ok (.athrow, 1) := by decide +kernel
theorem dX11_repeat_39 : decode cX11_repeat 39 = .ok (.aload_n 0, 1) := by decide +kernel
theorem dX11_repeat_40 : decode cX11_repeat 40 = .ok (.bipush 119, 2) := by decide +kernel
theorem dX11_repeat_42 : decode cX11_repeat 42 = .ok (.aload_n 3, 1) := by decide +kernel
theorem dX11_repeat_43 : decode cX11_repeat 43 = .ok (.aload 4, 2) := by decide +kernel
theorem dX11_repeat_45 : decode cX11_repeat 45 = .ok (.aconst_null, 1) := by decide +kernel
theorem dX11_repeat_46 : decode cX11_repeat 46 = .ok (.invokevirtual 266, 3) := by decide +kernel
theorem dX11_repeat_49 : decode cX11_repeat 49 = .ok (.ireturn, 1) := by decide +kernel
theorem dX11_then_0 : decode cX11_then 0 = .ok (.aload_n 0, 1) := by decide +kernel
theorem dX11_then_1 : decode cX11_then 1 = .ok (.getfield 10, 3) := by decide +kernel
theorem dX11_then_4 : decode cX11_then 4 = .ok (.iload_n 1, 1) := by decide +kernel
theorem dX11_then_5 : decode cX11_then 5 = .ok (.invokevirtual 126, 3) := by decide +kernel
theorem dX11_then_8 : decode cX11_then 8 = .ok (.astore_n 3, 1) := by decide +kernel
theorem dX11_then_9 : decode cX11_then 9 = .ok (.aload_n 0, 1) := by decide +kernel
theorem dX11_then_10 : decode cX11_then 10 = .ok (.getfield 10, 3) := by decide +kernel
theorem dX11_then_13 : decode cX11_then 13 = .ok (.iload_n 2, 1) := by decide +kernel
theorem dX11_then_14 : decode cX11_then 14 = .ok (.invokevirtual 126, 3) := by decide +kernel
theorem dX11_then_17 : decode cX11_then 17 = .ok (.astore 4, 2) := by decide +kernel
theorem dX11_then_19 : decode cX11_then 19 = .ok (.aload_n 3, 1) := by decide +kernel
theorem dX11_then_20 : decode cX11_then 20 = .ok (.ifnull 8, 3) := by decide +kernel
theorem dX11_then_23 : decode cX11_then 23 = .ok (.aload 4, 2) := by decide +kernel
theorem dX11_then_25 : decode cX11_then 25 = .ok (.ifnonnull 14, 3) := by decide +kernel
theorem dX11_then_28 : decode cX11_then 28 = .ok (.new 86, 3) := by decide +kernel
theorem dX11_then_31 : decode cX11_then 31 = .ok (.dup, 1) := by decide +kernel
theorem dX11_then_32 : decode cX11_then 32 = .ok (.ldc_w 270, 3) := by decide +kernel
theorem dX11_then_35 : decode cX11_then 35 = .ok (.invokespecial 90, 3) := by decide +kernel
theorem dX11_then_38 : decode cX11_then 38 = .ok (.athrow, 1) := by decide +kernel
theorem dX11_then_39 : decode cX11_then 39 = .ok (.aload_n 0, 1) := by decide +kernel
theorem dX11_then_40 : decode cX11_then 40 = .ok (.bipush 115, 2) := by decide +kernel
theorem dX11_then_42 : decode cX11_then 42 = .ok (.aconst_null, 1) := by decide +kernel
theorem dX11_then_43 : decode cX11_then 43 = .ok (.aload_n 3, 1) := by decide +kernel
theorem dX11_then_44 : decode cX11_then 44 = .ok (.aload 4, 2) := by decide +kernel
theorem dX11_then_46 : decode cX11_then 46 = .ok (.invokevirtual 266, 3) := by decide +kernel
theorem dX11_then_49 : decode cX11_then 49 = .ok (.ireturn, 1) := by decide +kernel
theorem dX11_block_0 : decode cX11_block 0 = .ok (.aload_n 0, 1) := by decide +kernel
theorem dX11_block_1 : decode cX11_block 1 = .ok (.getfield 10, 3) := by decide +kernel
theorem dX11_block_4 : decode cX11_block 4 = .ok (.iload_n 1, 1) := by decide +kernel
theorem dX11_block_5 : decode cX11_block 5 = .ok (.invokevirtual 126, 3) := by decide +kernel
theorem dX11_block_8 : decode cX11_block 8 = .ok (.astore_n 2, 1) := by decide +kernel
theorem dX11_block_9 : decode cX11_block 9 = .ok (.aload_n 2, 1) := by decide +kernel
theorem dX11_block_10 : decode cX11_block 10 = .ok (.ifnonnull 14, 3) := by decide +kernel
theorem dX11_block_13 : decode cX11_block 13 = .ok (.new 86, 3) := by decide +kernel
theorem dX11_block_16 : decode cX11_block 16 = .ok (.dup, 1) := by decide +kernel
theorem dX11_block_17 : decode cX11_block 17 = .ok (.ldc_w 270, 3) := by decide +kernel
theorem dX11_block_20 : decode cX11_block 20 = .ok (.invokespecial 90, 3) := by decide +kernel
theorem dX11_block_23 : decode cX11_block 23 = .ok (.athrow, 1) := by decide +kernel
theorem dX11_block_24 : decode cX11_block 24 = .ok (.aload_n 0, 1) := by decide +kernel
theorem dX11_block_25 : decode cX11_block 25 = .ok (.bipush 98, 2) := by decide +kernel
theorem dX11_block_27 : decode cX11_block 27 = .ok (.aconst_null, 1) := by decide +kernel
theorem dX11_block_28 : decode cX11_block 28 = .ok (.aload_n 2, 1) := by decide +kernel
theorem dX11_block_29 : decode cX11_block 29 = .ok (.aconst_null, 1) := by decide +kernel
theorem dX11_block_30 : decode cX11_block 30 = .ok (.invokevirtual 266, 3) := by decide +kernel
theorem dX11_block_33 : decode cX11_block 33 = .ok (.ireturn, 1) := by decide +kernel
theorem dX11_run_0 : decode cX11_run 0 = .ok (.aload_n 0, 1) := by decide +kernel
theorem dX11_run_1 : decode cX11_run 1 = .ok (.invokevirtual 281, 3) := by decide +kernel
theorem dX11_run_4 : decode cX11_run 4 = .ok (.iload_n 1, 1) := by decide +kernel
theorem dX11_run_5 : decode cX11_run 5 = .ok (.invokestatic 284, 3) := by decide +kernel
theorem dX11_run_8 : decode cX11_run 8 = .ok (.aload_n 0, 1) := by decide +kernel
theorem dX11_run_9 : decode cX11_run 9 = .ok (.getfield 26, 3) := by decide +kernel
theorem dX11_run_12 : decode cX11_run 12 = .ok (.aload_n 0, 1) := by decide +kernel
theorem dX11_run_13 : decode cX11_run 13 = .ok (.getfield 10, 3) := by decide +kernel
theorem dX11_run_16 : decode cX11_run 16 = .ok (.aload_n 0, 1) := by decide +kernel
theorem dX11_run_17 : decode cX11_run 17 = .ok (.getfield 10, 3) := by decide +kernel
theorem dX11_run_20 : decode cX11_run 20 = .ok (.getfield 288, 3) := by decide +kernel
theorem dX11_run_23 : decode cX11_run 23 = .ok (.iload_n 1, 1) := by decide +kernel
theorem dX11_run_24 : decode cX11_run 24 = .ok (.aload_n 0, 1) := by decide +kernel
theorem dX11_run_25 : decode cX11_run 25 = .ok (.getfield 33, 3) := by decide +kernel
theorem dX11_run_28 : decode cX11_run 28 = .ok (.invokevirtual 292, 3) := by decide +kernel
theorem dX11_run_31 : decode cX11_run 31 = .ok (.aload_n 0, 1) := by decide +kernel
theorem dX11_run_32 : decode cX11_run 32 = .ok (.dup, 1) := by decide +kernel
theorem dX11_run_33 : decode cX11_run 33 = .ok (.getfield 296, 3) := by decide +kernel
theorem dX11_run_36 : decode cX11_run 36 = .ok (.aload_n 0, 1) := by decide +kernel
theorem dX11_run_37 : decode cX11_run 37 = .ok (.getfield 33, 3) := by decide +kernel
theorem dX11_run_40 : decode cX11_run 40 = .ok (.getfield 299, 3) := by decide +kernel
theorem dX11_run_43 : decode cX11_run 43 = .ok (.i2l, 1) := by decide +kernel
theorem dX11_run_44 : decode cX11_run 44 = .ok (.ladd, 1) := by decide +kernel
theorem dX11_run_45 : decode cX11_run 45 = .ok (.putfield 296, 3) := by decide +kernel
theorem dX11_run_48 : decode cX11_run 48 = .ok (.aload_n 0, 1) := by decide +kernel
theorem dX11_run_49 : decode cX11_run 49 = .ok (.getfield 33, 3) := by decide +kernel
theorem dX11_run_52 : decode cX11_run 52 = .ok (.getfield 302, 3) := by decide +kernel
theorem dX11_run_55 : decode cX11_run 55 = .ok (.ireturn, 1) := by decide +kernel
theorem dX11_runOptimised_0 : decode cX11_runOptimised 0 = .ok (.aload_n 0, 1) := by decide +kernel
theorem dX11_runOptimised_1 : decode cX11_runOptimised 1 = .ok (.invokevirtual 281, 3) := by decide +kernel
theorem dX11_runOptimised_4 : decode cX11_runOptimised 4 = .ok (.iload_n 1, 1) := by decide +kernel
theorem dX11_runOptimised_5 : decode cX11_runOptimised 5 = .ok (.invokestatic 284, 3) := by decide +kernel
theorem dX11_runOptimised_8 : decode cX11_runOptimised 8 = .ok (.aload_n 0, 1) := by decide +kernel
theorem dX11_runOptimised_9 : decode cX11_runOptimised 9 = .ok (.getfield 19, 3) := by decide +kernel
theorem dX11_runOptimised_12 : decode cX11_runOptimised 12 = .ok (.aload_n 0, 1) := by decide +kernel
theorem dX11_runOptimised_13 : decode cX11_runOptimised 13 = .ok (.getfield 10, 3) := by decide +kernel
theorem dX11_runOptimised_16 : decode cX11_runOptimised 16 = .ok (.invokevirtual 306, 3) := by decide +kernel
theorem dX11_runOptimised_19 : decode cX11_runOptimised 19 = .ok (.aload_n 0, 1) := by decide +kernel
theorem dX11_runOptimised_20 : decode cX11_runOptimised 20 = .ok (.getfield 26, 3) := by decide +kernel
theorem dX11_runOptimised_23 : decode cX11_runOptimised 23 = .ok (.aload_n 0, 1) := by decide +kernel
theorem dX11_runOptimised_24 : decode cX11_runOptimised 24 = .ok (.getfield 10, 3) := by decide +kernel
theorem dX11_runOptimised_27 : decode cX11_runOptimised 27 = .ok (.aload_n 0, 1) := by decide +kernel
theorem dX11_runOptimised_28 : decode cX11_runOptimised 28 = .ok (.getfield 19, 3) := by decide +kernel
theorem dX11_runOptimised_31 : decode cX11_runOptimised 31 = .ok (.getfield 310, 3) := by decide +kernel
theorem dX11_runOptimised_34 : decode cX11_runOptimised 34 = .ok (.iload_n 1, 1) := by decide +kernel
theorem dX11_runOptimised_35 : decode cX11_runOptimised 35 = .ok (.aload_n 0, 1) := by decide +kernel
theorem dX11_runOptimised_36 : decode cX11_runOptimised 36 = .ok (.getfield 33, 3) := by decide +kernel
theorem dX11_runOptimised_39 : decode cX11_runOptimised 39 = .ok (.invokevirtual 292, 3) := by decide +kernel
theorem dX11_runOptimised_42 : decode cX11_runOptimised 42 = .ok (.aload_n 0, 1) := by decide +kernel
theorem dX11_runOptimised_43 : decode cX11_runOptimised 43 = .ok (.dup, 1) := by decide +kernel
theorem dX11_runOptimised_44 : decode cX11_runOptimised 44 = .ok (.getfield 296, 3) := by decide +kernel
theorem dX11_runOptimised_47 : decode cX11_runOptimised 47 = .ok (.aload_n 0, 1) := by decide +kernel
theorem dX11_runOptimised_48 : decode cX11_runOptimised 48 = .ok (.getfield 33, 3) := by decide +kernel
theorem dX11_runOptimised_51 : decode cX11_runOptimised 51 = .ok (.getfield 299, 3) := by decide +kernel
theorem dX11_runOptimised_54 : decode cX11_runOptimised 54 = .ok (.i2l, 1) := by decide +kernel
theorem dX11_runOptimised_55 : decode cX11_runOptimised 55 = .ok (.ladd, 1) := by decide +kernel
theorem dX11_runOptimised_56 : decode cX11_runOptimised 56 = .ok (.putfield 296, 3) := by decide +kernel
theorem dX11_runOptimised_59 : decode cX11_runOptimised 59 = .ok (.aload_n 0, 1) := by decide +kernel
theorem dX11_runOptimised_60 : decode cX11_runOptimised 60 = .ok (.getfield 33, 3) := by decide +kernel
theorem dX11_runOptimised_63 : decode cX11_runOptimised 63 = .ok (.getfield 302, 3) := by decide +kernel
theorem dX11_runOptimised_66 : decode cX11_runOptimised 66 = .ok (.ireturn, 1) := by decide +kernel
theorem dX11_refuseProgramWithoutStart_0 : decode cX11_refuseProgramWithoutStart 0 = .ok (.aload_n 0, 1) := by decide +kernel
theorem dX11_refuseProgramWithoutStart_1 : decode cX11_refuseProgramWithoutStart 1 = .ok (.getfield 10, 3) := by decide +kernel
theorem dX11_refuseProgramWithoutStart_4 : decode cX11_refuseProgramWithoutStart 4 = .ok (.invokevirtual 311, 3) := by decide +kernel
theorem dX11_refuseProgramWithoutStart_7 : decode cX11_refuseProgramWithoutStart 7 = .ok (.ifCond .ne 14, 3) := by decide +kernel
theorem dX11_refuseProgramWithoutStart_10 : decode cX11_refuseProgramWithoutStart 10 = .ok (.new 66, 3) := by decide +kernel
theorem dX11_refuseProgramWithoutStart_13 : decode cX11_refuseProgramWithoutStart 13 = .ok (.dup, 1) := by decide +kernel
theorem dX11_refuseProgramWithoutStart_14 : decode cX11_refuseProgramWithoutStart 14 = .ok (.ldc_w 314, 3) := by decide +kernel
theorem dX11_refuseProgramWithoutStart_17 : decode cX11_refuseProgramWithoutStart 17 = .ok (.invokespecial 70, 3) := by decide +kernel
theorem dX11_refuseProgramWithoutStart_20 : decode cX11_refuseProgramWithoutStart 20 = .ok (.athrow, 1) := by decide +kernel
theorem dX11_refuseProgramWithoutStart_21 : decode cX11_refuseProgramWithoutStart 21 = .ok (.return_, 1) := by decide +kernel
theorem dX11_kindOf_0 : decode cX11_kindOf 0 = .ok (.aload_n 0, 1) := by decide +kernel
theorem dX11_kindOf_1 : decode cX11_kindOf 1 = .ok (.invokevirtual 318, 3) := by decide +kernel
theorem dX11_kindOf_4 : decode cX11_kindOf 4 = .ok (.aload_n 0, 1) := by decide +kernel
theorem dX11_kindOf_5 : decode cX11_kindOf 5 = .ok (.getfield 33, 3) := by decide +kernel
theorem dX11_kindOf_8 : decode cX11_kindOf 8 = .ok (.getfield 321, 3) := by decide +kernel
theorem dX11_kindOf_11 : decode cX11_kindOf 11 = .ok (.ireturn, 1) := by decide +kernel
theorem dX11_placeOf_0 : decode cX11_placeOf 0 = .ok (.aload_n 0, 1) := by decide +kernel
theorem dX11_placeOf_1 : decode cX11_placeOf 1 = .ok (.invokevirtual 318, 3) := by decide +kernel
theorem dX11_placeOf_4 : decode cX11_placeOf 4 = .ok (.aload_n 0, 1) := by decide +kernel
theorem dX11_placeOf_5 : decode cX11_placeOf 5 = .ok (.getfield 33, 3) := by decide +kernel
theorem dX11_placeOf_8 : decode cX11_placeOf 8 = .ok (.getfield 324, 3) := by decide +kernel
theorem dX11_placeOf_11 : decode cX11_placeOf 11 = .ok (.ireturn, 1) := by decide +kernel
theorem dX11_refuseRunWithMeaning_0 : decode cX11_refuseRunWithMeaning 0 = .ok (.aload_n 0, 1) := by decide +kernel
theorem dX11_refuseRunWithMeaning_1 : decode cX11_refuseRunWithMeaning 1 = .ok (.getfield 33, 3) := by decide +kernel
theorem dX11_refuseRunWithMeaning_4 : decode cX11_refuseRunWithMeaning 4 = .ok (.getfield 302, 3) := by decide +kernel
theorem dX11_refuseRunWithMeaning_7 : decode cX11_refuseRunWithMeaning 7 = .ok (.bipush 120, 2) := by decide +kernel
theorem dX11_refuseRunWithMeaning_9 : decode cX11_refuseRunWithMeaning 9 = .ok (.if_icmp .eq 14, 3) := by decide +kernel
theorem dX11_refuseRunWithMeaning_12 : decode cX11_refuseRunWithMeaning 12 = .ok (.new 327, 3) := by decide +kernel
theorem dX11_refuseRunWithMeaning_15 : decode cX11_refuseRunWithMeaning 15 = .ok (.dup, 1) := by decide +kernel
theorem dX11_refuseRunWithMeaning_16 : decode cX11_refuseRunWithMeaning 16 = .ok (.ldc_w 329, 3) := by decide +kernel
theorem dX11_refuseRunWithMeaning_19 : decode cX11_refuseRunWithMeaning 19 = .ok (.invokespecial 331, 3) := by decide +kernel
theorem dX11_refuseRunWithMeaning_22 : decode cX11_refuseRunWithMeaning 22 = .ok (.athrow, 1) := by decide +kernel
theorem dX11_refuseRunWithMeaning_23 : decode cX11_refuseRunWithMeaning 23 = .ok (.return_, 1) := by decide +kernel
theorem dX11_steps_0 : decode cX11_steps 0 = .ok (.aload_n 0, 1) := by decide +kernel
theorem dX11_steps_1 : decode cX11_steps 1 = .ok (.getfield 33, 3) := by decide +kernel
theorem dX11_steps_4 : decode cX11_steps 4 = .ok (.getfield 299, 3) := by decide +kernel
theorem dX11_steps_7 : decode cX11_steps 7 = .ok (.ireturn, 1) := by decide +kernel
theorem dX11_choices_0 : decode cX11_choices 0 = .ok (.aload_n 0, 1) := by decide +kernel
theorem dX11_choices_1 : decode cX11_choices 1 = .ok (.getfield 33, 3) := by decide +kernel
theorem dX11_choices_4 : decode cX11_choices 4 = .ok (.getfield 332, 3) := by decide +kernel
theorem dX11_choices_7 : decode cX11_choices 7 = .ok (.ireturn, 1) := by decide +kernel
theorem dX11_printed_0 : decode cX11_printed 0 = .ok (.aload_n 0, 1) := by decide +kernel
theorem dX11_printed_1 : decode cX11_printed 1 = .ok (.getfield 33, 3) := by decide +kernel
theorem dX11_printed_4 : decode cX11_printed 4 = .ok (.getfield 335, 3) := by decide +kernel
theorem dX11_printed_7 : decode cX11_printed 7 = .ok (.ireturn, 1) := by decide +kernel
theorem dX11_printedAt_0 : decode cX11_printedAt 0 = .ok (.iload_n 1, 1) := by decide +kernel
theorem dX11_printedAt_1 : decode cX11_printedAt 1 = .ok (.ifCond .lt 14, 3) := by decide +kernel
theorem dX11_printedAt_4 : decode cX11_printedAt 4 = .ok (.iload_n 1, 1) := by decide +kernel
theorem dX11_printedAt_5 : decode cX11_printedAt 5 = .ok (.aload_n 0, 1) := by decide +kernel
theorem dX11_printedAt_6 : decode cX11_printedAt 6 = .ok (.getfield 33, 3) := by decide +kernel
theorem dX11_printedAt_9 : decode cX11_printedAt 9 = .ok (.getfield 335, 3) := by decide +kernel
theorem dX11_printedAt_12 : decode cX11_printedAt 12 = .ok (.if_icmp .lt 14, 3) := by decide +kernel
theorem dX11_printedAt_15 : decode cX11_printedAt 15 = .ok (.new 86, 3) := by decide +kernel
theorem dX11_printedAt_18 : decode cX11_printedAt 18 = .ok (.dup, 1) := by decide +kernel
theorem dX11_printedAt_19 : decode cX11_printedAt 19 = .ok (.ldc_w 338, 3) := by decide +kernel
theorem dX11_printedAt_22 : decode cX11_printedAt 22 = .ok (.invokespecial 90, 3) := by decide +kernel
theorem dX11_printedAt_25 : decode cX11_printedAt 25 = .ok (.athrow, 1) := by decide +kernel
theorem dX11_printedAt_26 : decode cX11_printedAt 26 = .ok (.aload_n 0, 1) := by decide +kernel
theorem dX11_printedAt_27 : decode cX11_printedAt 27 = .ok (.getfield 33, 3) := by decide +kernel
theorem dX11_printedAt_30 : decode cX11_printedAt 30 = .ok (.getfield 340, 3) := by decide +kernel
theorem dX11_printedAt_33 : decode cX11_printedAt 33 = .ok (.iload_n 1, 1) := by decide +kernel
theorem dX11_printedAt_34 : decode cX11_printedAt 34 = .ok (.caload, 1) := by decide +kernel
theorem dX11_printedAt_35 : decode cX11_printedAt 35 = .ok (.ireturn, 1) := by decide +kernel
theorem dX11_behaviours_0 : decode cX11_behaviours 0 = .ok (.aload_n 0, 1) := by decide +kernel
theorem dX11_behaviours_1 : decode cX11_behaviours 1 = .ok (.invokevirtual 281, 3) := by decide +kernel
theorem dX11_behaviours_4 : decode cX11_behaviours 4 = .ok (.aload_n 0, 1) := by decide +kernel
theorem dX11_behaviours_5 : decode cX11_behaviours 5 = .ok (.invokevirtual 344, 3) := by decide +kernel
theorem dX11_behaviours_8 : decode cX11_behaviours 8 = .ok (.pop, 1) := by decide +kernel
theorem dX11_behaviours_9 : decode cX11_behaviours 9 = .ok (.iconst 0, 1) := by decide +kernel
theorem dX11_behaviours_10 : decode cX11_behaviours 10 = .ok (.istore_n 1, 1) := by decide +kernel
theorem dX11_behaviours_11 : decode cX11_behaviours 11 = .ok (.iconst 0, 1) := by decide +kernel
theorem dX11_behaviours_12 : decode cX11_behaviours 12 = .ok (.istore_n 2, 1) := by decide +kernel
theorem dX11_behaviours_13 : decode cX11_behaviours 13 = .ok (.iload_n 2, 1) := by decide +kernel
theorem dX11_behaviours_14 : decode cX11_behaviours 14 = .ok (.bipush 16, 2) := by decide +kernel
theorem dX11_behaviours_16 : decode cX11_behaviours 16 = .ok (.if_icmp .ge 26, 3) := by decide +kernel
theorem dX11_behaviours_19 : decode cX11_behaviours 19 = .ok (.aload_n 0, 1) := by decide +kernel
theorem dX11_behaviours_20 : decode cX11_behaviours 20 = .ok (.iload_n 2, 1) := by decide +kernel
theorem dX11_behaviours_21 : decode cX11_behaviours 21 = .ok (.aload_n 0, 1) := by decide +kernel
theorem dX11_behaviours_22 : decode cX11_behaviours 22 = .ok (.getfield 40, 3) := by decide +kernel
theorem dX11_behaviours_25 : decode cX11_behaviours 25 = .ok (.iload_n 2, 1) := by decide +kernel
theorem dX11_behaviours_26 : decode cX11_behaviours 26 = .ok (.aaload, 1) := by decide +kernel
theorem dX11_behaviours_27 : decode cX11_behaviours 27 = .ok (.invokevirtual 347, 3) := by decide +kernel
theorem dX11_behaviours_30 : decode cX11_behaviours 30 = .ok (.ifCond .ne 6, 3) := by decide +kernel
theorem dX11_behaviours_33 : decode cX11_behaviours 33 = .ok (.iinc 1 1, 3) := by decide +kernel
theorem dX11_behaviours_36 : decode cX11_behaviours 36 = .ok (.iinc 2 1, 3) := by decide +kernel
theorem dX11_behaviours_39 : decode cX11_behaviours 39 = .ok (.goto (-26), 3) := by decide +kernel
theorem dX11_behaviours_42 : decode cX11_behaviours 42 = .ok (.iload_n 1, 1) := by decide +kernel
theorem dX11_behaviours_43 : decode cX11_behaviours 43 = .ok (.ireturn, 1) := by decide +kernel
theorem dX11_undefinedOrders_0 : decode cX11_undefinedOrders 0 = .ok (.aload_n 0, 1) := by decide +kernel
theorem dX11_undefinedOrders_1 : decode cX11_undefinedOrders 1 = .ok (.invokevirtual 281, 3) := by decide +kernel
theorem dX11_undefinedOrders_4 : decode cX11_undefinedOrders 4 = .ok (.aload_n 0, 1) := by decide +kernel
theorem dX11_undefinedOrders_5 : decode cX11_undefinedOrders 5 = .ok (.invokevirtual 344, 3) := by decide +kernel
theorem dX11_undefinedOrders_8 : decode cX11_undefinedOrders 8 = .ok (.ireturn, 1) := by decide +kernel
theorem dX11_optimised_0 : decode cX11_optimised 0 = .ok (.aload_n 0, 1) := by decide +kernel
theorem dX11_optimised_1 : decode cX11_optimised 1 = .ok (.invokevirtual 281, 3) := by decide +kernel
theorem dX11_optimised_4 : decode cX11_optimised 4 = .ok (.aload_n 0, 1) := by decide +kernel
theorem dX11_optimised_5 : decode cX11_optimised 5 = .ok (.getfield 19, 3) := by decide +kernel
theorem dX11_optimised_8 : decode cX11_optimised 8 = .ok (.aload_n 0, 1) := by decide +kernel
theorem dX11_optimised_9 : decode cX11_optimised 9 = .ok (.getfield 10, 3) := by decide +kernel
theorem dX11_optimised_12 : decode cX11_optimised 12 = .ok (.invokevirtual 306, 3) := by decide +kernel
theorem dX11_optimised_15 : decode cX11_optimised 15 = .ok (.aload_n 0, 1) := by decide +kernel
theorem dX11_optimised_16 : decode cX11_optimised 16 = .ok (.getfield 19, 3) := by decide +kernel
theorem dX11_optimised_19 : decode cX11_optimised 19 = .ok (.getfield 351, 3) := by decide +kernel
theorem dX11_optimised_22 : decode cX11_optimised 22 = .ok (.ireturn, 1) := by decide +kernel
theorem dX11_optimisedSize_0 : decode cX11_optimisedSize 0 = .ok (.aload_n 0, 1) := by decide +kernel
theorem dX11_optimisedSize_1 : decode cX11_optimisedSize 1 = .ok (.invokevirtual 281, 3) := by decide +kernel
theorem dX11_optimisedSize_4 : decode cX11_optimisedSize 4 = .ok (.aload_n 0, 1) := by decide +kernel
theorem dX11_optimisedSize_5 : decode cX11_optimisedSize 5 = .ok (.getfield 19, 3) := by decide +kernel
theorem dX11_optimisedSize_8 : decode cX11_optimisedSize 8 = .ok (.aload_n 0, 1) := by decide +kernel
theorem dX11_optimisedSize_9 : decode cX11_optimisedSize 9 = .ok (.getfield 10, 3) := by decide +kernel
theorem dX11_optimisedSize_12 : decode cX11_optimisedSize 12 = .ok (.invokevirtual 306, 3) := by decide +kernel
theorem dX11_optimisedSize_15 : decode cX11_optimisedSize 15 = .ok (.aload_n 0, 1) := by decide +kernel
theorem dX11_optimisedSize_16 : decode cX11_optimisedSize 16 = .ok (.getfield 19, 3) := by decide +kernel
theorem dX11_optimisedSize_19 : decode cX11_optimisedSize 19 = .ok (.getfield 352, 3) := by decide +kernel
theorem dX11_optimisedSize_22 : decode cX11_optimisedSize 22 = .ok (.ireturn, 1) := by decide +kernel
theorem dX11_isAsIf_0 : decode cX11_isAsIf 0 = .ok (.aload_n 0, 1) := by decide +kernel
theorem dX11_isAsIf_1 : decode cX11_isAsIf 1 = .ok (.invokevirtual 281, 3) := by decide +kernel
theorem dX11_isAsIf_4 : decode cX11_isAsIf 4 = .ok (.aload_n 0, 1) := by decide +kernel
theorem dX11_isAsIf_5 : decode cX11_isAsIf 5 = .ok (.invokevirtual 344, 3) := by decide +kernel
theorem dX11_isAsIf_8 : decode cX11_isAsIf 8 = .ok (.ifCond .le 5, 3) := by decide +kernel
theorem dX11_isAsIf_11 : decode cX11_isAsIf 11 = .ok (.iconst 1, 1) := by decide +kernel
theorem dX11_isAsIf_12 : decode cX11_isAsIf 12 = .ok (.ireturn, 1) := by decide +kernel
theorem dX11_isAsIf_13 : decode cX11_isAsIf 13 = .ok (.aload_n 0, 1) := by decide +kernel
theorem dX11_isAsIf_14 : decode cX11_isAsIf 14 = .ok (.getfield 19, 3) := by decide +kernel
theorem dX11_isAsIf_17 : decode cX11_isAsIf 17 = .ok (.aload_n 0, 1) := by decide +kernel
theorem dX11_isAsIf_18 : decode cX11_isAsIf 18 = .ok (.getfield 10, 3) := by decide +kernel
theorem dX11_isAsIf_21 : decode cX11_isAsIf 21 = .ok (.invokevirtual 306, 3) := by decide +kernel
theorem dX11_isAsIf_24 : decode cX11_isAsIf 24 = .ok (.iconst 0, 1) := by decide +kernel
theorem dX11_isAsIf_25 : decode cX11_isAsIf 25 = .ok (.istore_n 1, 1) := by decide +kernel
theorem dX11_isAsIf_26 : decode cX11_isAsIf 26 = .ok (.iload_n 1, 1) := by decide +kernel
theorem dX11_isAsIf_27 : decode cX11_isAsIf 27 = .ok (.bipush 16, 2) := by decide +kernel
theorem dX11_isAsIf_29 : decode cX11_isAsIf 29 = .ok (.if_icmp .ge 47, 3) := by decide +kernel
theorem dX11_isAsIf_32 : decode cX11_isAsIf 32 = .ok (.aload_n 0, 1) := by decide +kernel
theorem dX11_isAsIf_33 : decode cX11_isAsIf 33 = .ok (.getfield 26, 3) := by decide +kernel
theorem dX11_isAsIf_36 : decode cX11_isAsIf 36 = .ok (.aload_n 0, 1) := by decide +kernel
theorem dX11_isAsIf_37 : decode cX11_isAsIf 37 = .ok (.getfield 10, 3) := by decide +kernel
theorem dX11_isAsIf_40 : decode cX11_isAsIf 40 = .ok (.aload_n 0, 1) := by decide +kernel
theorem dX11_isAsIf_41 : decode cX11_isAsIf 41 = .ok (.getfield 19, 3) := by decide +kernel
theorem dX11_isAsIf_44 : decode cX11_isAsIf 44 = .ok (.getfield 310, 3) := by decide +kernel
theorem dX11_isAsIf_47 : decode cX11_isAsIf 47 = .ok (.iload_n 1, 1) := by decide +kernel
theorem dX11_isAsIf_48 : decode cX11_isAsIf 48 = .ok (.aload_n 0, 1) := by decide +kernel
theorem dX11_isAsIf_49 : decode cX11_isAsIf 49 = .ok (.getfield 37, 3) := by decide +kernel
theorem dX11_isAsIf_52 : decode cX11_isAsIf 52 = .ok (.invokevirtual 292, 3) := by decide +kernel
theorem dX11_isAsIf_55 : decode cX11_isAsIf 55 = .ok (.aload_n 0, 1) := by decide +kernel
theorem dX11_isAsIf_56 : decode cX11_isAsIf 56 = .ok (.bipush 16, 2) := by decide +kernel
theorem dX11_isAsIf_58 : decode cX11_isAsIf 58 = .ok (.aload_n 0, 1) := by decide +kernel
theorem dX11_isAsIf_59 : decode cX11_isAsIf 59 = .ok (.getfield 37, 3) := by decide +kernel
theorem dX11_isAsIf_62 : decode cX11_isAsIf 62 = .ok (.invokevirtual 347, 3) := by decide +kernel
theorem dX11_isAsIf_65 : decode cX11_isAsIf 65 = .ok (.ifCond .ne 5, 3) := by decide +kernel
theorem dX11_isAsIf_68 : decode cX11_isAsIf 68 = .ok (.iconst 0, 1) := by decide +kernel
theorem dX11_isAsIf_69 : decode cX11_isAsIf 69 = .ok (.ireturn, 1) := by decide +kernel
theorem dX11_isAsIf_70 : decode cX11_isAsIf 70 = .ok (.iinc 1 1, 3) := by decide +kernel
theorem dX11_isAsIf_73 : decode cX11_isAsIf 73 = .ok (.goto (-47), 3) := by decide +kernel
theorem dX11_isAsIf_76 : decode cX11_isAsIf 76 = .ok (.iconst 1, 1) := by decide +kernel
theorem dX11_isAsIf_77 : decode cX11_isAsIf 77 = .ok (.ireturn, 1) := by decide +kernel
theorem dX11_definedShare_0 : decode cX11_definedShare 0 = .ok (.aload_n 0, 1) := by decide +kernel
theorem dX11_definedShare_1 : decode cX11_definedShare 1 = .ok (.invokevirtual 281, 3) := by decide +kernel
theorem dX11_definedShare_4 : decode cX11_definedShare 4 = .ok (.bipush 16, 2) := by decide +kernel
theorem dX11_definedShare_6 : decode cX11_definedShare 6 = .ok (.aload_n 0, 1) := by decide +kernel
theorem dX11_definedShare_7 : decode cX11_definedShare 7 = .ok (.invokevirtual 344, 3) := by decide +kernel
theorem dX11_definedShare_10 : decode cX11_definedShare 10 = .ok (.isub, 1) := by decide +kernel
theorem dX11_definedShare_11 : decode cX11_definedShare 11 = .ok (.i2f, 1) := by decide +kernel
theorem dX11_definedShare_12 : decode cX11_definedShare 12 = .ok (.ldc_w 355, 3) := by decide +kernel
theorem dX11_definedShare_15 : decode cX11_definedShare 15 = .ok (.fdiv, 1) := by decide +kernel
theorem dX11_definedShare_16 : decode cX11_definedShare 16 = .ok (.freturn, 1) := by decide +kernel
theorem dX11_allSteps_0 : decode cX11_allSteps 0 = .ok (.aload_n 0, 1) := by decide +kernel
theorem dX11_allSteps_1 : decode cX11_allSteps 1 = .ok (.getfield 296, 3) := by decide +kernel
theorem dX11_allSteps_4 : decode cX11_allSteps 4 = .ok (.lreturn, 1) := by decide +kernel
theorem dX18_isIn_0 : decode cX18_isIn 0 = .ok (.iload_n 0, 1) := by decide +kernel
theorem dX18_isIn_1 : decode cX18_isIn 1 = .ok (.iload_n 1, 1) := by decide +kernel
theorem dX18_isIn_2 : decode cX18_isIn 2 = .ok (.if_icmp .lt 12, 3) := by decide +kernel
theorem dX18_isIn_5 : decode cX18_isIn 5 = .ok (.iload_n 0, 1) := by decide +kernel
theorem dX18_isIn_6 : decode cX18_isIn 6 = .ok (.iload_n 2, 1) := by decide +kernel
theorem dX18_isIn_7 : decode cX18_isIn 7 = .ok (.if_icmp .gt 7, 3) := by decide +kernel
theorem dX18_isIn_10 : decode cX18_isIn 10 = .ok (.iconst 1, 1) := by decide +kernel
theorem dX18_isIn_11 : decode cX18_isIn 11 = .ok (.goto 4, 3) := by decide +kernel
theorem dX18_isIn_14 : decode cX18_isIn 14 = .ok (.iconst 0, 1) := by decide +kernel
theorem dX18_isIn_15 : decode cX18_isIn 15 = .ok (.ireturn, 1) := by decide +kernel
