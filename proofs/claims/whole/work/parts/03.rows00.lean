theorem dX4_isNumber_0 : decode cX4_isNumber 0 = .ok (.iload_n 0, 1) := by decide +kernel
theorem dX4_isNumber_1 : decode cX4_isNumber 1 = .ok (.ifCond .lt 12, 3) := by decide +kernel
theorem dX4_isNumber_4 : decode cX4_isNumber 4 = .ok (.iload_n 0, 1) := by decide +kernel
theorem dX4_isNumber_5 : decode cX4_isNumber 5 = .ok (.iconst 5, 1) := by decide +kernel
theorem dX4_isNumber_6 : decode cX4_isNumber 6 = .ok (.if_icmp .gt 7, 3) := by decide +kernel
theorem dX4_isNumber_9 : decode cX4_isNumber 9 = .ok (.iconst 1, 1) := by decide +kernel
theorem dX4_isNumber_10 : decode cX4_isNumber 10 = .ok (.goto 4, 3) := by decide +kernel
theorem dX4_isNumber_13 : decode cX4_isNumber 13 = .ok (.iconst 0, 1) := by decide +kernel
theorem dX4_isNumber_14 : decode cX4_isNumber 14 = .ok (.ireturn, 1) := by decide +kernel
set_option maxRecDepth 20000 in
theorem ggX4_isType_X4_isNumber : GoodIn wsX4_isType wsX4_isNumber := goodIn_r _ [4] (by decide +kernel) (by decide +kernel)
set_option maxRecDepth 20000 in
theorem gX4_isType_X4_isNumber : GoodIn wsX4_isType (va_wsS RX4 9 yX4_isNumber wsX4_isNumber) := goodIn_app (goodIn_of _ (by decide +kernel)) ggX4_isType_X4_isNumber
theorem dX4_isType_0 : decode cX4_isType 0 = .ok (.iload_n 0, 1) := by decide +kernel
theorem dX4_isType_1 : decode cX4_isType 1 = .ok (.invokestatic 9, 3) := by decide +kernel
theorem dX4_isType_4 : decode cX4_isType 4 = .ok (.ifCond .ne 19, 3) := by decide +kernel
theorem dX4_isType_7 : decode cX4_isType 7 = .ok (.iload_n 0, 1) := by decide +kernel
theorem dX4_isType_8 : decode cX4_isType 8 = .ok (.bipush 10, 2) := by decide +kernel
theorem dX4_isType_10 : decode cX4_isType 10 = .ok (.if_icmp .lt 17, 3) := by decide +kernel
theorem dX4_isType_13 : decode cX4_isType 13 = .ok (.iload_n 0, 1) := by decide +kernel
theorem dX4_isType_14 : decode cX4_isType 14 = .ok (.bipush 10, 2) := by decide +kernel
theorem dX4_isType_16 : decode cX4_isType 16 = .ok (.isub, 1) := by decide +kernel
theorem dX4_isType_17 : decode cX4_isType 17 = .ok (.invokestatic 9, 3) := by decide +kernel
theorem dX4_isType_20 : decode cX4_isType 20 = .ok (.ifCond .eq 7, 3) := by decide +kernel
theorem dX4_isType_23 : decode cX4_isType 23 = .ok (.iconst 1, 1) := by decide +kernel
theorem dX4_isType_24 : decode cX4_isType 24 = .ok (.goto 4, 3) := by decide +kernel
theorem dX4_isType_27 : decode cX4_isType 27 = .ok (.iconst 0, 1) := by decide +kernel
theorem dX4_isType_28 : decode cX4_isType 28 = .ok (.ireturn, 1) := by decide +kernel
set_option maxRecDepth 20000 in
theorem ggX4_has_X4_convert : GoodIn wsX4_has wsX4_convert := goodIn_r _ [4] (by decide +kernel) (by decide +kernel)
set_option maxRecDepth 20000 in
theorem gX4_has_X4_convert : GoodIn wsX4_has (va_wsS RX4 15 yX4_convert wsX4_convert) := goodIn_app (goodIn_of _ (by decide +kernel)) ggX4_has_X4_convert
theorem dX4_has_0 : decode cX4_has 0 = .ok (.lload_n 1, 1) := by decide +kernel
theorem dX4_has_1 : decode cX4_has 1 = .ok (.iload_n 0, 1) := by decide +kernel
theorem dX4_has_2 : decode cX4_has 2 = .ok (.invokestatic 15, 3) := by decide +kernel
theorem dX4_has_5 : decode cX4_has 5 = .ok (.lload_n 1, 1) := by decide +kernel
theorem dX4_has_6 : decode cX4_has 6 = .ok (.lcmp, 1) := by decide +kernel
theorem dX4_has_7 : decode cX4_has 7 = .ok (.ifCond .ne 7, 3) := by decide +kernel
theorem dX4_has_10 : decode cX4_has 10 = .ok (.iconst 1, 1) := by decide +kernel
theorem dX4_has_11 : decode cX4_has 11 = .ok (.goto 4, 3) := by decide +kernel
theorem dX4_has_14 : decode cX4_has 14 = .ok (.iconst 0, 1) := by decide +kernel
theorem dX4_has_15 : decode cX4_has 15 = .ok (.ireturn, 1) := by decide +kernel
theorem dX4_convert_0 : decode cX4_convert 0 = .ok (.bipush 64, 2) := by decide +kernel
theorem dX4_convert_2 : decode cX4_convert 2 = .ok (.bipush 8, 2) := by decide +kernel
theorem dX4_convert_4 : decode cX4_convert 4 = .ok (.iload_n 2, 1) := by decide +kernel
theorem dX4_convert_5 : decode cX4_convert 5 = .ok (.iconst 1, 1) := by decide +kernel
theorem dX4_convert_6 : decode cX4_convert 6 = .ok (.ishr, 1) := by decide +kernel
theorem dX4_convert_7 : decode cX4_convert 7 = .ok (.ishl, 1) := by decide +kernel
theorem dX4_convert_8 : decode cX4_convert 8 = .ok (.isub, 1) := by decide +kernel
theorem dX4_convert_9 : decode cX4_convert 9 = .ok (.istore_n 3, 1) := by decide +kernel
theorem dX4_convert_10 : decode cX4_convert 10 = .ok (.iload_n 2, 1) := by decide +kernel
theorem dX4_convert_11 : decode cX4_convert 11 = .ok (.iconst 1, 1) := by decide +kernel
theorem dX4_convert_12 : decode cX4_convert 12 = .ok (.iand, 1) := by decide +kernel
theorem dX4_convert_13 : decode cX4_convert 13 = .ok (.ifCond .ne 11, 3) := by decide +kernel
theorem dX4_convert_16 : decode cX4_convert 16 = .ok (.lload_n 0, 1) := by decide +kernel
theorem dX4_convert_17 : decode cX4_convert 17 = .ok (.iload_n 3, 1) := by decide +kernel
theorem dX4_convert_18 : decode cX4_convert 18 = .ok (.lshl, 1) := by decide +kernel
theorem dX4_convert_19 : decode cX4_convert 19 = .ok (.iload_n 3, 1) := by decide +kernel
theorem dX4_convert_20 : decode cX4_convert 20 = .ok (.lshr, 1) := by decide +kernel
theorem dX4_convert_21 : decode cX4_convert 21 = .ok (.goto 8, 3) := by decide +kernel
theorem dX4_convert_24 : decode cX4_convert 24 = .ok (.lload_n 0, 1) := by decide +kernel
theorem dX4_convert_25 : decode cX4_convert 25 = .ok (.iload_n 3, 1) := by decide +kernel
theorem dX4_convert_26 : decode cX4_convert 26 = .ok (.lshl, 1) := by decide +kernel
theorem dX4_convert_27 : decode cX4_convert 27 = .ok (.iload_n 3, 1) := by decide +kernel
theorem dX4_convert_28 : decode cX4_convert 28 = .ok (.lushr, 1) := by decide +kernel
theorem dX4_convert_29 : decode cX4_convert 29 = .ok (.lreturn, 1) := by decide +kernel
theorem dX18_isIn_0 : decode cX18_isIn 0 = .ok (.iload_n 0, 1) := by decide +kernel
theorem dX18_isIn_1 : decode cX18_isIn 1 = .ok (.iload_n 1, 1) := by decide +kernel
theorem dX18_isIn_2 : decode cX18_isIn 2 = .ok (.if_icmp .lt 12, 3) := by decide +kernel
theorem dX18_isIn_5 : decode cX18_isIn 5 = .ok (.iload_n 0, 1) := by decide +kernel
theorem dX18_isIn_6 : decode cX18_isIn 6 = .ok (.iload_n 2, 1) := by decide +kernel
theorem dX18_isIn_7 : decode cX18_isIn 7 = .ok (.if_icmp .gt 7, 3) := by decide +kernel
theorem dX18_isIn_10 : decode cX18_isIn 10 = .ok (.iconst 1, 1) := by decide +kernel
theorem dX18_isIn_11 : decode cX18_isIn 11 = .ok (.goto 4, 3) := by decide +kernel
theorem dX18_isIn_14 : decode cX18_isIn 14 = .ok (.iconst 0, 1) := by decide +kernel
theorem dX18_isIn_15 : decode cX18_isIn 15 = .ok (.ireturn, 1) := by decide +kernel
