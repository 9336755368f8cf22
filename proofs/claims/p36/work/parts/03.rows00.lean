theorem dX0_init_0 : decode cX0_init 0 = .ok (.aload_n 0, 1) := by decide +kernel
theorem dX0_init_1 : decode cX0_init 1 = .ok (.invokespecial 1, 3) := by decide +kernel
theorem dX0_init_4 : decode cX0_init 4 = .ok (.aload_n 0, 1) := by decide +kernel
theorem dX0_init_5 : decode cX0_init 5 = .ok (.iload_n 1, 1) := by decide +kernel
theorem dX0_init_6 : decode cX0_init 6 = .ok (.putfield 7, 3) := by decide +kernel
theorem dX0_init_9 : decode cX0_init 9 = .ok (.aload_n 0, 1) := by decide +kernel
theorem dX0_init_10 : decode cX0_init 10 = .ok (.aload_n 2, 1) := by decide +kernel
theorem dX0_init_11 : decode cX0_init 11 = .ok (.putfield 13, 3) := by decide +kernel
theorem dX0_init_14 : decode cX0_init 14 = .ok (.aload_n 0, 1) := by decide +kernel
theorem dX0_init_15 : decode cX0_init 15 = .ok (.aload_n 3, 1) := by decide +kernel
theorem dX0_init_16 : decode cX0_init 16 = .ok (.putfield 17, 3) := by decide +kernel
theorem dX0_init_19 : decode cX0_init 19 = .ok (.return_, 1) := by decide +kernel
theorem dX1_init_0 : decode cX1_init 0 = .ok (.aload_n 0, 1) := by decide +kernel
theorem dX1_init_1 : decode cX1_init 1 = .ok (.invokespecial 3, 3) := by decide +kernel
theorem dX1_init_4 : decode cX1_init 4 = .ok (.aload_n 0, 1) := by decide +kernel
theorem dX1_init_5 : decode cX1_init 5 = .ok (.new 9, 3) := by decide +kernel
theorem dX1_init_8 : decode cX1_init 8 = .ok (.dup, 1) := by decide +kernel
theorem dX1_init_9 : decode cX1_init 9 = .ok (.invokespecial 11, 3) := by decide +kernel
theorem dX1_init_12 : decode cX1_init 12 = .ok (.putfield 12, 3) := by decide +kernel
theorem dX1_init_15 : decode cX1_init 15 = .ok (.aload_n 0, 1) := by decide +kernel
theorem dX1_init_16 : decode cX1_init 16 = .ok (.bipush 90, 2) := by decide +kernel
theorem dX1_init_18 : decode cX1_init 18 = .ok (.newarray .int, 2) := by decide +kernel
theorem dX1_init_20 : decode cX1_init 20 = .ok (.putfield 18, 3) := by decide +kernel
theorem dX1_init_23 : decode cX1_init 23 = .ok (.return_, 1) := by decide +kernel
theorem dX1_perform_0 : decode cX1_perform 0 = .ok (.aload_n 0, 1) := by decide +kernel
theorem dX1_perform_1 : decode cX1_perform 1 = .ok (.aload_n 2, 1) := by decide +kernel
theorem dX1_perform_2 : decode cX1_perform 2 = .ok (.putfield 22, 3) := by decide +kernel
theorem dX1_perform_5 : decode cX1_perform 5 = .ok (.aload_n 0, 1) := by decide +kernel
theorem dX1_perform_6 : decode cX1_perform 6 = .ok (.iload_n 3, 1) := by decide +kernel
theorem dX1_perform_7 : decode cX1_perform 7 = .ok (.putfield 26, 3) := by decide +kernel
theorem dX1_perform_10 : decode cX1_perform 10 = .ok (.aload_n 0, 1) := by decide +kernel
theorem dX1_perform_11 : decode cX1_perform 11 = .ok (.aload 4, 2) := by decide +kernel
theorem dX1_perform_13 : decode cX1_perform 13 = .ok (.putfield 30, 3) := by decide +kernel
theorem dX1_perform_16 : decode cX1_perform 16 = .ok (.aload_n 0, 1) := by decide +kernel
theorem dX1_perform_17 : decode cX1_perform 17 = .ok (.getfield 30, 3) := by decide +kernel
theorem dX1_perform_20 : decode cX1_perform 20 = .ok (.invokevirtual 34, 3) := by decide +kernel
theorem dX1_perform_23 : decode cX1_perform 23 = .ok (.aload_n 0, 1) := by decide +kernel
theorem dX1_perform_24 : decode cX1_perform 24 = .ok (.getfield 12, 3) := by decide +kernel
theorem dX1_perform_27 : decode cX1_perform 27 = .ok (.invokevirtual 39, 3) := by decide +kernel
theorem dX1_perform_30 : decode cX1_perform 30 = .ok (.aload_n 0, 1) := by decide +kernel
theorem dX1_perform_31 : decode cX1_perform 31 = .ok (.iconst 0, 1) := by decide +kernel
theorem dX1_perform_32 : decode cX1_perform 32 = .ok (.putfield 40, 3) := by decide +kernel
theorem dX1_perform_35 : decode cX1_perform 35 = .ok (.aload_n 0, 1) := by decide +kernel
theorem dX1_perform_36 : decode cX1_perform 36 = .ok (.iconst 0, 1) := by decide +kernel
theorem dX1_perform_37 : decode cX1_perform 37 = .ok (.invokevirtual 44, 3) := by decide +kernel
theorem dX1_perform_40 : decode cX1_perform 40 = .ok (.iconst 0, 1) := by decide +kernel
theorem dX1_perform_41 : decode cX1_perform 41 = .ok (.istore 5, 2) := by decide +kernel
theorem dX1_perform_43 : decode cX1_perform 43 = .ok (.iload 5, 2) := by decide +kernel
theorem dX1_perform_45 : decode cX1_perform 45 = .ok (.bipush 10, 2) := by decide +kernel
theorem dX1_perform_47 : decode cX1_perform 47 = .ok (.if_icmp .ge 36, 3) := by decide +kernel
theorem dX1_perform_50 : decode cX1_perform 50 = .ok (.aload_n 1, 1) := by decide +kernel
theorem dX1_perform_51 : decode cX1_perform 51 = .ok (.iload 5, 2) := by decide +kernel
theorem dX1_perform_53 : decode cX1_perform 53 = .ok (.invokevirtual 48, 3) := by decide +kernel
theorem dX1_perform_56 : decode cX1_perform 56 = .ok (.astore 6, 2) := by decide +kernel
theorem dX1_perform_58 : decode cX1_perform 58 = .ok (.aload 6, 2) := by decide +kernel
theorem dX1_perform_60 : decode cX1_perform 60 = .ok (.ifnull 17, 3) := by decide +kernel
theorem dX1_perform_63 : decode cX1_perform 63 = .ok (.aload 6, 2) := by decide +kernel
theorem dX1_perform_65 : decode cX1_perform 65 = .ok (.getfield 54, 3) := by decide +kernel
theorem dX1_perform_68 : decode cX1_perform 68 = .ok (.ifCond .eq 9, 3) := by decide +kernel
theorem dX1_perform_71 : decode cX1_perform 71 = .ok (.aload_n 0, 1) := by decide +kernel
theorem dX1_perform_72 : decode cX1_perform 72 = .ok (.aload 6, 2) := by decide +kernel
theorem dX1_perform_74 : decode cX1_perform 74 = .ok (.invokevirtual 59, 3) := by decide +kernel
theorem dX1_perform_77 : decode cX1_perform 77 = .ok (.iinc 5 1, 3) := by decide +kernel
theorem dX1_perform_80 : decode cX1_perform 80 = .ok (.goto (-37), 3) := by decide +kernel
theorem dX1_perform_83 : decode cX1_perform 83 = .ok (.aload_n 0, 1) := by decide +kernel
theorem dX1_perform_84 : decode cX1_perform 84 = .ok (.iconst 1, 1) := by decide +kernel
theorem dX1_perform_85 : decode cX1_perform 85 = .ok (.invokevirtual 44, 3) := by decide +kernel
theorem dX1_perform_88 : decode cX1_perform 88 = .ok (.aload_n 0, 1) := by decide +kernel
theorem dX1_perform_89 : decode cX1_perform 89 = .ok (.aload_n 0, 1) := by decide +kernel
theorem dX1_perform_90 : decode cX1_perform 90 = .ok (.iconst 0, 1) := by decide +kernel
theorem dX1_perform_91 : decode cX1_perform 91 = .ok (.invokevirtual 63, 3) := by decide +kernel
theorem dX1_perform_94 : decode cX1_perform 94 = .ok (.invokevirtual 67, 3) := by decide +kernel
theorem dX1_perform_97 : decode cX1_perform 97 = .ok (.aload_n 0, 1) := by decide +kernel
theorem dX1_perform_98 : decode cX1_perform 98 = .ok (.invokevirtual 71, 3) := by decide +kernel
theorem dX1_perform_101 : decode cX1_perform 101 = .ok (.ifCond .ne 12, 3) := by decide +kernel
theorem dX1_perform_104 : decode cX1_perform 104 = .ok (.aload_n 0, 1) := by decide +kernel
theorem dX1_perform_105 : decode cX1_perform 105 = .ok (.getfield 30, 3) := by decide +kernel
theorem dX1_perform_108 : decode cX1_perform 108 = .ok (.bipush 110, 2) := by decide +kernel
theorem dX1_perform_110 : decode cX1_perform 110 = .ok (.putfield 75, 3) := by decide +kernel
theorem dX1_perform_113 : decode cX1_perform 113 = .ok (.return_, 1) := by decide +kernel
theorem dX1_bodyOf_0 : decode cX1_bodyOf 0 = .ok (.iload_n 1, 1) := by decide +kernel
theorem dX1_bodyOf_1 : decode cX1_bodyOf 1 = .ok (.ifCond .lt 21, 3) := by decide +kernel
theorem dX1_bodyOf_4 : decode cX1_bodyOf 4 = .ok (.iload_n 1, 1) := by decide +kernel
theorem dX1_bodyOf_5 : decode cX1_bodyOf 5 = .ok (.aload_n 0, 1) := by decide +kernel
theorem dX1_bodyOf_6 : decode cX1_bodyOf 6 = .ok (.getfield 22, 3) := by decide +kernel
theorem dX1_bodyOf_9 : decode cX1_bodyOf 9 = .ok (.arraylength, 1) := by decide +kernel
theorem dX1_bodyOf_10 : decode cX1_bodyOf 10 = .ok (.if_icmp .ge 12, 3) := by decide +kernel
theorem dX1_bodyOf_13 : decode cX1_bodyOf 13 = .ok (.aload_n 0, 1) := by decide +kernel
theorem dX1_bodyOf_14 : decode cX1_bodyOf 14 = .ok (.getfield 22, 3) := by decide +kernel
theorem dX1_bodyOf_17 : decode cX1_bodyOf 17 = .ok (.iload_n 1, 1) := by decide +kernel
theorem dX1_bodyOf_18 : decode cX1_bodyOf 18 = .ok (.aaload, 1) := by decide +kernel
theorem dX1_bodyOf_19 : decode cX1_bodyOf 19 = .ok (.goto 4, 3) := by decide +kernel
theorem dX1_bodyOf_22 : decode cX1_bodyOf 22 = .ok (.aconst_null, 1) := by decide +kernel
theorem dX1_bodyOf_23 : decode cX1_bodyOf 23 = .ok (.areturn, 1) := by decide +kernel
theorem dX1_isOver_0 : decode cX1_isOver 0 = .ok (.aload_n 0, 1) := by decide +kernel
theorem dX1_isOver_1 : decode cX1_isOver 1 = .ok (.getfield 30, 3) := by decide +kernel
theorem dX1_isOver_4 : decode cX1_isOver 4 = .ok (.getfield 75, 3) := by decide +kernel
theorem dX1_isOver_7 : decode cX1_isOver 7 = .ok (.bipush 32, 2) := by decide +kernel
theorem dX1_isOver_9 : decode cX1_isOver 9 = .ok (.if_icmp .eq 7, 3) := by decide +kernel
theorem dX1_isOver_12 : decode cX1_isOver 12 = .ok (.iconst 1, 1) := by decide +kernel
theorem dX1_isOver_13 : decode cX1_isOver 13 = .ok (.goto 4, 3) := by decide +kernel
theorem dX1_isOver_16 : decode cX1_isOver 16 = .ok (.iconst 0, 1) := by decide +kernel
theorem dX1_isOver_17 : decode cX1_isOver 17 = .ok (.ireturn, 1) := by decide +kernel
theorem dX1_takeStep_0 : decode cX1_takeStep 0 = .ok (.aload_n 0, 1) := by decide +kernel
theorem dX1_takeStep_1 : decode cX1_takeStep 1 = .ok (.invokevirtual 71, 3) := by decide +kernel
theorem dX1_takeStep_4 : decode cX1_takeStep 4 = .ok (.ifCond .eq 5, 3) := by decide +kernel
theorem dX1_takeStep_7 : decode cX1_takeStep 7 = .ok (.iconst 0, 1) := by decide +kernel
theorem dX1_takeStep_8 : decode cX1_takeStep 8 = .ok (.ireturn, 1) := by decide +kernel
theorem dX1_takeStep_9 : decode cX1_takeStep 9 = .ok (.aload_n 0, 1) := by decide +kernel
theorem dX1_takeStep_10 : decode cX1_takeStep 10 = .ok (.getfield 30, 3) := by decide +kernel
theorem dX1_takeStep_13 : decode cX1_takeStep 13 = .ok (.getfield 79, 3) := by decide +kernel
theorem dX1_takeStep_16 : decode cX1_takeStep 16 = .ok (.sipush 300, 3) := by decide +kernel
theorem dX1_takeStep_19 : decode cX1_takeStep 19 = .ok (.if_icmp .lt 14, 3) := by decide +kernel
theorem dX1_takeStep_22 : decode cX1_takeStep 22 = .ok (.aload_n 0, 1) := by decide +kernel
theorem dX1_takeStep_23 : decode cX1_takeStep 23 = .ok (.getfield 30, 3) := by decide +kernel
theorem dX1_takeStep_26 : decode cX1_takeStep 26 = .ok (.bipush 108, 2) := by decide +kernel
theorem dX1_takeStep_28 : decode cX1_takeStep 28 = .ok (.putfield 75, 3) := by decide +kernel
theorem dX1_takeStep_31 : decode cX1_takeStep 31 = .ok (.iconst 0, 1) := by decide +kernel
theorem dX1_takeStep_32 : decode cX1_takeStep 32 = .ok (.ireturn, 1) := by decide +kernel
theorem dX1_takeStep_33 : decode cX1_takeStep 33 = .ok (.aload_n 0, 1) := by decide +kernel
theorem dX1_takeStep_34 : decode cX1_takeStep 34 = .ok (.getfield 30, 3) := by decide +kernel
theorem dX1_takeStep_37 : decode cX1_takeStep 37 = .ok (.dup, 1) := by decide +kernel
theorem dX1_takeStep_38 : decode cX1_takeStep 38 = .ok (.getfield 79, 3) := by decide +kernel
theorem dX1_takeStep_41 : decode cX1_takeStep 41 = .ok (.iconst 1, 1) := by decide +kernel
theorem dX1_takeStep_42 : decode cX1_takeStep 42 = .ok (.iadd, 1) := by decide +kernel
theorem dX1_takeStep_43 : decode cX1_takeStep 43 = .ok (.putfield 79, 3) := by decide +kernel
theorem dX1_takeStep_46 : decode cX1_takeStep 46 = .ok (.iconst 1, 1) := by decide +kernel
theorem dX1_takeStep_47 : decode cX1_takeStep 47 = .ok (.ireturn, 1) := by decide +kernel
theorem dX1_fail_0 : decode cX1_fail 0 = .ok (.aload_n 0, 1) := by decide +kernel
theorem dX1_fail_1 : decode cX1_fail 1 = .ok (.getfield 30, 3) := by decide +kernel
theorem dX1_fail_4 : decode cX1_fail 4 = .ok (.bipush 120, 2) := by decide +kernel
theorem dX1_fail_6 : decode cX1_fail 6 = .ok (.putfield 75, 3) := by decide +kernel
theorem dX1_fail_9 : decode cX1_fail 9 = .ok (.aload_n 0, 1) := by decide +kernel
theorem dX1_fail_10 : decode cX1_fail 10 = .ok (.getfield 30, 3) := by decide +kernel
theorem dX1_fail_13 : decode cX1_fail 13 = .ok (.iload_n 1, 1) := by decide +kernel
theorem dX1_fail_14 : decode cX1_fail 14 = .ok (.putfield 82, 3) := by decide +kernel
theorem dX1_fail_17 : decode cX1_fail 17 = .ok (.aload_n 0, 1) := by decide +kernel
theorem dX1_fail_18 : decode cX1_fail 18 = .ok (.getfield 30, 3) := by decide +kernel
theorem dX1_fail_21 : decode cX1_fail 21 = .ok (.aload_n 2, 1) := by decide +kernel
theorem dX1_fail_22 : decode cX1_fail 22 = .ok (.getfield 85, 3) := by decide +kernel
theorem dX1_fail_25 : decode cX1_fail 25 = .ok (.putfield 90, 3) := by decide +kernel
theorem dX1_fail_28 : decode cX1_fail 28 = .ok (.lconst 0, 1) := by decide +kernel
theorem dX1_fail_29 : decode cX1_fail 29 = .ok (.lreturn, 1) := by decide +kernel
theorem dX1_execute_0 : decode cX1_execute 0 = .ok (.aload_n 1, 1) := by decide +kernel
theorem dX1_execute_1 : decode cX1_execute 1 = .ok (.ifnull 10, 3) := by decide +kernel
theorem dX1_execute_4 : decode cX1_execute 4 = .ok (.aload_n 0, 1) := by decide +kernel
theorem dX1_execute_5 : decode cX1_execute 5 = .ok (.invokevirtual 93, 3) := by decide +kernel
theorem dX1_execute_8 : decode cX1_execute 8 = .ok (.ifCond .ne 4, 3) := by decide +kernel
theorem dX1_execute_11 : decode cX1_execute 11 = .ok (.return_, 1) := by decide +kernel
theorem dX1_execute_12 : decode cX1_execute 12 = .ok (.aload_n 1, 1) := by decide +kernel
theorem dX1_execute_13 : decode cX1_execute 13 = .ok (.getfield 96, 3) := by decide +kernel
theorem dX1_execute_16 : decode cX1_execute 16 = .ok (.tableswitch 295 98 119 #[248, 295, 131, 104, 295, 295, 295, 142, 295, 295, 295, 295, 295, 295, 116, 295, 275, 222, 295, 295, 295, 173], 104) := by decide +kernel
theorem dX1_execute_120 : decode cX1_execute 120 = .ok (.aload_n 0, 1) := by decide +kernel
theorem dX1_execute_121 : decode cX1_execute 121 = .ok (.aload_n 1, 1) := by decide +kernel
theorem dX1_execute_122 : decode cX1_execute 122 = .ok (.getfield 99, 3) := by decide +kernel
theorem dX1_execute_125 : decode cX1_execute 125 = .ok (.invokevirtual 102, 3) := by decide +kernel
theorem dX1_execute_128 : decode cX1_execute 128 = .ok (.pop2, 1) := by decide +kernel
theorem dX1_execute_129 : decode cX1_execute 129 = .ok (.goto 182, 3) := by decide +kernel
theorem dX1_execute_132 : decode cX1_execute 132 = .ok (.aload_n 0, 1) := by decide +kernel
theorem dX1_execute_133 : decode cX1_execute 133 = .ok (.aload_n 0, 1) := by decide +kernel
theorem dX1_execute_134 : decode cX1_execute 134 = .ok (.aload_n 1, 1) := by decide +kernel
theorem dX1_execute_135 : decode cX1_execute 135 = .ok (.getfield 99, 3) := by decide +kernel
theorem dX1_execute_138 : decode cX1_execute 138 = .ok (.invokevirtual 102, 3) := by decide +kernel
theorem dX1_execute_141 : decode cX1_execute 141 = .ok (.invokevirtual 106, 3) := by decide +kernel
theorem dX1_execute_144 : decode cX1_execute 144 = .ok (.goto 167, 3) := by decide +kernel
theorem dX1_execute_147 : decode cX1_execute 147 = .ok (.aload_n 0, 1) := by decide +kernel
theorem dX1_execute_148 : decode cX1_execute 148 = .ok (.aload_n 1, 1) := by decide +kernel
theorem dX1_execute_149 : decode cX1_execute 149 = .ok (.getfield 110, 3) := by decide +kernel
theorem dX1_execute_152 : decode cX1_execute 152 = .ok (.invokevirtual 59, 3) := by decide +kernel
theorem dX1_execute_155 : decode cX1_execute 155 = .ok (.goto 156, 3) := by decide +kernel
theorem dX1_execute_158 : decode cX1_execute 158 = .ok (.aload_n 0, 1) := by decide +kernel
theorem dX1_execute_159 : decode cX1_execute 159 = .ok (.aload_n 0, 1) := by decide +kernel
theorem dX1_execute_160 : decode cX1_execute 160 = .ok (.aload_n 1, 1) := by decide +kernel
theorem dX1_execute_161 : decode cX1_execute 161 = .ok (.getfield 99, 3) := by decide +kernel
theorem dX1_execute_164 : decode cX1_execute 164 = .ok (.invokevirtual 102, 3) := by decide +kernel
theorem dX1_execute_167 : decode cX1_execute 167 = .ok (.lconst 0, 1) := by decide +kernel
theorem dX1_execute_168 : decode cX1_execute 168 = .ok (.lcmp, 1) := by decide +kernel
theorem dX1_execute_169 : decode cX1_execute 169 = .ok (.ifCond .eq 10, 3) := by decide +kernel
theorem dX1_execute_172 : decode cX1_execute 172 = .ok (.aload_n 1, 1) := by decide +kernel
theorem dX1_execute_173 : decode cX1_execute 173 = .ok (.getfield 114, 3) := by decide +kernel
theorem dX1_execute_176 : decode cX1_execute 176 = .ok (.goto 7, 3) := by decide +kernel
theorem dX1_execute_179 : decode cX1_execute 179 = .ok (.aload_n 1, 1) := by decide +kernel
theorem dX1_execute_180 : decode cX1_execute 180 = .ok (.getfield 118, 3) := by decide +kernel
theorem dX1_execute_183 : decode cX1_execute 183 = .ok (.invokevirtual 67, 3) := by decide +kernel
theorem dX1_execute_186 : decode cX1_execute 186 = .ok (.goto 125, 3) := by decide +kernel
theorem dX1_execute_189 : decode cX1_execute 189 = .ok (.iconst 0, 1) := by decide +kernel
theorem dX1_execute_190 : decode cX1_execute 190 = .ok (.istore_n 2, 1) := by decide +kernel
theorem dX1_execute_191 : decode cX1_execute 191 = .ok (.iload_n 2, 1) := by decide +kernel
theorem dX1_execute_192 : decode cX1_execute 192 = .ok (.sipush 300, 3) := by decide +kernel
theorem dX1_execute_195 : decode cX1_execute 195 = .ok (.if_icmp .gt 40, 3) := by decide +kernel
theorem dX1_execute_198 : decode cX1_execute 198 = .ok (.aload_n 0, 1) := by decide +kernel
theorem dX1_execute_199 : decode cX1_execute 199 = .ok (.aload_n 1, 1) := by decide +kernel
theorem dX1_execute_200 : decode cX1_execute 200 = .ok (.getfield 99, 3) := by decide +kernel
theorem dX1_execute_203 : decode cX1_execute 203 = .ok (.invokevirtual 102, 3) := by decide +kernel
theorem dX1_execute_206 : decode cX1_execute 206 = .ok (.lconst 0, 1) := by decide +kernel
theorem dX1_execute_207 : decode cX1_execute 207 = .ok (.lcmp, 1) := by decide +kernel
theorem dX1_execute_208 : decode cX1_execute 208 = .ok (.ifCond .eq 27, 3) := by decide +kernel
theorem dX1_execute_211 : decode cX1_execute 211 = .ok (.aload_n 0, 1) := by decide +kernel
theorem dX1_execute_212 : decode cX1_execute 212 = .ok (.aload_n 1, 1) := by decide +kernel
theorem dX1_execute_213 : decode cX1_execute 213 = .ok (.getfield 114, 3) := by decide +kernel
theorem dX1_execute_216 : decode cX1_execute 216 = .ok (.invokevirtual 67, 3) := by decide +kernel
theorem dX1_execute_219 : decode cX1_execute 219 = .ok (.aload_n 0, 1) := by decide +kernel
theorem dX1_execute_220 : decode cX1_execute 220 = .ok (.getfield 40, 3) := by decide +kernel
theorem dX1_execute_223 : decode cX1_execute 223 = .ok (.ifCond .eq 6, 3) := by decide +kernel
theorem dX1_execute_226 : decode cX1_execute 226 = .ok (.goto 9, 3) := by decide +kernel
theorem dX1_execute_229 : decode cX1_execute 229 = .ok (.iinc 2 1, 3) := by decide +kernel
theorem dX1_execute_232 : decode cX1_execute 232 = .ok (.goto (-41), 3) := by decide +kernel
theorem dX1_execute_235 : decode cX1_execute 235 = .ok (.goto 76, 3) := by decide +kernel
theorem dX1_execute_238 : decode cX1_execute 238 = .ok (.aload_n 0, 1) := by decide +kernel
theorem dX1_execute_239 : decode cX1_execute 239 = .ok (.aload_n 1, 1) := by decide +kernel
theorem dX1_execute_240 : decode cX1_execute 240 = .ok (.getfield 114, 3) := by decide +kernel
theorem dX1_execute_243 : decode cX1_execute 243 = .ok (.invokevirtual 67, 3) := by decide +kernel
theorem dX1_execute_246 : decode cX1_execute 246 = .ok (.aload_n 0, 1) := by decide +kernel
theorem dX1_execute_247 : decode cX1_execute 247 = .ok (.getfield 40, 3) := by decide +kernel
theorem dX1_execute_250 : decode cX1_execute 250 = .ok (.ifCond .ne 61, 3) := by decide +kernel
theorem dX1_execute_253 : decode cX1_execute 253 = .ok (.aload_n 0, 1) := by decide +kernel
theorem dX1_execute_254 : decode cX1_execute 254 = .ok (.aload_n 1, 1) := by decide +kernel
theorem dX1_execute_255 : decode cX1_execute 255 = .ok (.getfield 118, 3) := by decide +kernel
theorem dX1_execute_258 : decode cX1_execute 258 = .ok (.invokevirtual 67, 3) := by decide +kernel
theorem dX1_execute_261 : decode cX1_execute 261 = .ok (.goto 50, 3) := by decide +kernel
theorem dX1_execute_264 : decode cX1_execute 264 = .ok (.aload_n 0, 1) := by decide +kernel
theorem dX1_execute_265 : decode cX1_execute 265 = .ok (.getfield 12, 3) := by decide +kernel
theorem dX1_execute_268 : decode cX1_execute 268 = .ok (.invokevirtual 121, 3) := by decide +kernel
theorem dX1_execute_271 : decode cX1_execute 271 = .ok (.istore_n 2, 1) := by decide +kernel
theorem dX1_execute_272 : decode cX1_execute 272 = .ok (.aload_n 0, 1) := by decide +kernel
theorem dX1_execute_273 : decode cX1_execute 273 = .ok (.aload_n 1, 1) := by decide +kernel
theorem dX1_execute_274 : decode cX1_execute 274 = .ok (.getfield 114, 3) := by decide +kernel
theorem dX1_execute_277 : decode cX1_execute 277 = .ok (.invokevirtual 67, 3) := by decide +kernel
theorem dX1_execute_280 : decode cX1_execute 280 = .ok (.aload_n 0, 1) := by decide +kernel
theorem dX1_execute_281 : decode cX1_execute 281 = .ok (.getfield 12, 3) := by decide +kernel
theorem dX1_execute_284 : decode cX1_execute 284 = .ok (.iload_n 2, 1) := by decide +kernel
theorem dX1_execute_285 : decode cX1_execute 285 = .ok (.invokevirtual 125, 3) := by decide +kernel
theorem dX1_execute_288 : decode cX1_execute 288 = .ok (.goto 23, 3) := by decide +kernel
theorem dX1_execute_291 : decode cX1_execute 291 = .ok (.aload_n 0, 1) := by decide +kernel
theorem dX1_execute_292 : decode cX1_execute 292 = .ok (.aload_n 0, 1) := by decide +kernel
theorem dX1_execute_293 : decode cX1_execute 293 = .ok (.aload_n 1, 1) := by decide +kernel
theorem dX1_execute_294 : decode cX1_execute 294 = .ok (.getfield 99, 3) := by decide +kernel
theorem dX1_execute_297 : decode cX1_execute 297 = .ok (.invokevirtual 102, 3) := by decide +kernel
theorem dX1_execute_300 : decode cX1_execute 300 = .ok (.putfield 128, 3) := by decide +kernel
theorem dX1_execute_303 : decode cX1_execute 303 = .ok (.aload_n 0, 1) := by decide +kernel
theorem dX1_execute_304 : decode cX1_execute 304 = .ok (.iconst 1, 1) := by decide +kernel
theorem dX1_execute_305 : decode cX1_execute 305 = .ok (.putfield 40, 3) := by decide +kernel
theorem dX1_execute_308 : decode cX1_execute 308 = .ok (.goto 3, 3) := by decide +kernel
theorem dX1_execute_311 : decode cX1_execute 311 = .ok (.return_, 1) := by decide +kernel
theorem dX1_evaluate_0 : decode cX1_evaluate 0 = .ok (.aload_n 1, 1) := by decide +kernel
theorem dX1_evaluate_1 : decode cX1_evaluate 1 = .ok (.ifnull 10, 3) := by decide +kernel
theorem dX1_evaluate_4 : decode cX1_evaluate 4 = .ok (.aload_n 0, 1) := by decide +kernel
theorem dX1_evaluate_5 : decode cX1_evaluate 5 = .ok (.invokevirtual 93, 3) := by decide +kernel
theorem dX1_evaluate_8 : decode cX1_evaluate 8 = .ok (.ifCond .ne 5, 3) := by decide +kernel
theorem dX1_evaluate_11 : decode cX1_evaluate 11 = .ok (.lconst 0, 1) := by decide +kernel
theorem dX1_evaluate_12 : decode cX1_evaluate 12 = .ok (.lreturn, 1) := by decide +kernel
theorem dX1_evaluate_13 : decode cX1_evaluate 13 = .ok (.aload_n 0, 1) := by decide +kernel
theorem dX1_evaluate_14 : decode cX1_evaluate 14 = .ok (.getfield 12, 3) := by decide +kernel
theorem dX1_evaluate_17 : decode cX1_evaluate 17 = .ok (.invokevirtual 132, 3) := by decide +kernel
theorem dX1_evaluate_20 : decode cX1_evaluate 20 = .ok (.istore_n 2, 1) := by decide +kernel
theorem dX1_evaluate_21 : decode cX1_evaluate 21 = .ok (.aload_n 1, 1) := by decide +kernel
theorem dX1_evaluate_22 : decode cX1_evaluate 22 = .ok (.invokevirtual 135, 3) := by decide +kernel
theorem dX1_evaluate_25 : decode cX1_evaluate 25 = .ok (.ifCond .eq 41, 3) := by decide +kernel
theorem dX1_evaluate_28 : decode cX1_evaluate 28 = .ok (.aload_n 0, 1) := by decide +kernel
theorem dX1_evaluate_29 : decode cX1_evaluate 29 = .ok (.invokevirtual 138, 3) := by decide +kernel
theorem dX1_evaluate_32 : decode cX1_evaluate 32 = .ok (.ifCond .eq 34, 3) := by decide +kernel
theorem dX1_evaluate_35 : decode cX1_evaluate 35 = .ok (.aload_n 0, 1) := by decide +kernel
theorem dX1_evaluate_36 : decode cX1_evaluate 36 = .ok (.aload_n 1, 1) := by decide +kernel
theorem dX1_evaluate_37 : decode cX1_evaluate 37 = .ok (.getfield 141, 3) := by decide +kernel
theorem dX1_evaluate_40 : decode cX1_evaluate 40 = .ok (.invokevirtual 102, 3) := by decide +kernel
theorem dX1_evaluate_43 : decode cX1_evaluate 43 = .ok (.lstore 6, 2) := by decide +kernel
theorem dX1_evaluate_45 : decode cX1_evaluate 45 = .ok (.aload_n 0, 1) := by decide +kernel
theorem dX1_evaluate_46 : decode cX1_evaluate 46 = .ok (.getfield 12, 3) := by decide +kernel
theorem dX1_evaluate_49 : decode cX1_evaluate 49 = .ok (.invokevirtual 132, 3) := by decide +kernel
theorem dX1_evaluate_52 : decode cX1_evaluate 52 = .ok (.istore_n 3, 1) := by decide +kernel
theorem dX1_evaluate_53 : decode cX1_evaluate 53 = .ok (.aload_n 0, 1) := by decide +kernel
theorem dX1_evaluate_54 : decode cX1_evaluate 54 = .ok (.aload_n 1, 1) := by decide +kernel
theorem dX1_evaluate_55 : decode cX1_evaluate 55 = .ok (.invokevirtual 143, 3) := by decide +kernel
theorem dX1_evaluate_58 : decode cX1_evaluate 58 = .ok (.invokevirtual 102, 3) := by decide +kernel
theorem dX1_evaluate_61 : decode cX1_evaluate 61 = .ok (.lstore 4, 2) := by decide +kernel
theorem dX1_evaluate_63 : decode cX1_evaluate 63 = .ok (.goto 33, 3) := by decide +kernel
theorem dX1_evaluate_66 : decode cX1_evaluate 66 = .ok (.aload_n 0, 1) := by decide +kernel
theorem dX1_evaluate_67 : decode cX1_evaluate 67 = .ok (.aload_n 1, 1) := by decide +kernel
theorem dX1_evaluate_68 : decode cX1_evaluate 68 = .ok (.invokevirtual 143, 3) := by decide +kernel
theorem dX1_evaluate_71 : decode cX1_evaluate 71 = .ok (.invokevirtual 102, 3) := by decide +kernel
theorem dX1_evaluate_74 : decode cX1_evaluate 74 = .ok (.lstore 4, 2) := by decide +kernel
theorem dX1_evaluate_76 : decode cX1_evaluate 76 = .ok (.aload_n 0, 1) := by decide +kernel
theorem dX1_evaluate_77 : decode cX1_evaluate 77 = .ok (.getfield 12, 3) := by decide +kernel
theorem dX1_evaluate_80 : decode cX1_evaluate 80 = .ok (.invokevirtual 132, 3) := by decide +kernel
theorem dX1_evaluate_83 : decode cX1_evaluate 83 = .ok (.istore_n 3, 1) := by decide +kernel
theorem dX1_evaluate_84 : decode cX1_evaluate 84 = .ok (.aload_n 0, 1) := by decide +kernel
theorem dX1_evaluate_85 : decode cX1_evaluate 85 = .ok (.aload_n 1, 1) := by decide +kernel
theorem dX1_evaluate_86 : decode cX1_evaluate 86 = .ok (.lload 4, 2) := by decide +kernel
theorem dX1_evaluate_88 : decode cX1_evaluate 88 = .ok (.invokevirtual 147, 3) := by decide +kernel
theorem dX1_evaluate_91 : decode cX1_evaluate 91 = .ok (.invokevirtual 102, 3) := by decide +kernel
theorem dX1_evaluate_94 : decode cX1_evaluate 94 = .ok (.lstore 6, 2) := by decide +kernel
theorem dX1_evaluate_96 : decode cX1_evaluate 96 = .ok (.aload_n 0, 1) := by decide +kernel
theorem dX1_evaluate_97 : decode cX1_evaluate 97 = .ok (.invokevirtual 71, 3) := by decide +kernel
theorem dX1_evaluate_100 : decode cX1_evaluate 100 = .ok (.ifCond .eq 5, 3) := by decide +kernel
theorem dX1_evaluate_103 : decode cX1_evaluate 103 = .ok (.lconst 0, 1) := by decide +kernel
theorem dX1_evaluate_104 : decode cX1_evaluate 104 = .ok (.lreturn, 1) := by decide +kernel
theorem dX1_evaluate_105 : decode cX1_evaluate 105 = .ok (.aload_n 1, 1) := by decide +kernel
theorem dX1_evaluate_106 : decode cX1_evaluate 106 = .ok (.invokevirtual 151, 3) := by decide +kernel
theorem dX1_evaluate_109 : decode cX1_evaluate 109 = .ok (.ifCond .eq 23, 3) := by decide +kernel
theorem dX1_evaluate_112 : decode cX1_evaluate 112 = .ok (.aload_n 0, 1) := by decide +kernel
theorem dX1_evaluate_113 : decode cX1_evaluate 113 = .ok (.getfield 12, 3) := by decide +kernel
theorem dX1_evaluate_116 : decode cX1_evaluate 116 = .ok (.iload_n 2, 1) := by decide +kernel
theorem dX1_evaluate_117 : decode cX1_evaluate 117 = .ok (.iload_n 3, 1) := by decide +kernel
theorem dX1_evaluate_118 : decode cX1_evaluate 118 = .ok (.invokevirtual 154, 3) := by decide +kernel
theorem dX1_evaluate_121 : decode cX1_evaluate 121 = .ok (.ifCond .eq 11, 3) := by decide +kernel
theorem dX1_evaluate_124 : decode cX1_evaluate 124 = .ok (.aload_n 0, 1) := by decide +kernel
theorem dX1_evaluate_125 : decode cX1_evaluate 125 = .ok (.bipush 117, 2) := by decide +kernel
theorem dX1_evaluate_127 : decode cX1_evaluate 127 = .ok (.aload_n 1, 1) := by decide +kernel
theorem dX1_evaluate_128 : decode cX1_evaluate 128 = .ok (.invokevirtual 158, 3) := by decide +kernel
theorem dX1_evaluate_131 : decode cX1_evaluate 131 = .ok (.lreturn, 1) := by decide +kernel
theorem dX1_evaluate_132 : decode cX1_evaluate 132 = .ok (.aload_n 1, 1) := by decide +kernel
theorem dX1_evaluate_133 : decode cX1_evaluate 133 = .ok (.getfield 162, 3) := by decide +kernel
theorem dX1_evaluate_136 : decode cX1_evaluate 136 = .ok (.bipush 7, 2) := by decide +kernel
theorem dX1_evaluate_138 : decode cX1_evaluate 138 = .ok (.if_icmp .ne 13, 3) := by decide +kernel
theorem dX1_evaluate_141 : decode cX1_evaluate 141 = .ok (.aload_n 0, 1) := by decide +kernel
theorem dX1_evaluate_142 : decode cX1_evaluate 142 = .ok (.aload_n 1, 1) := by decide +kernel
theorem dX1_evaluate_143 : decode cX1_evaluate 143 = .ok (.lload 4, 2) := by decide +kernel
theorem dX1_evaluate_145 : decode cX1_evaluate 145 = .ok (.lload 6, 2) := by decide +kernel
theorem dX1_evaluate_147 : decode cX1_evaluate 147 = .ok (.invokevirtual 165, 3) := by decide +kernel
theorem dX1_evaluate_150 : decode cX1_evaluate 150 = .ok (.lreturn, 1) := by decide +kernel
theorem dX1_evaluate_151 : decode cX1_evaluate 151 = .ok (.aload_n 1, 1) := by decide +kernel
theorem dX1_evaluate_152 : decode cX1_evaluate 152 = .ok (.invokevirtual 169, 3) := by decide +kernel
theorem dX1_evaluate_155 : decode cX1_evaluate 155 = .ok (.ifCond .eq 14, 3) := by decide +kernel
theorem dX1_evaluate_158 : decode cX1_evaluate 158 = .ok (.aload_n 0, 1) := by decide +kernel
theorem dX1_evaluate_159 : decode cX1_evaluate 159 = .ok (.aload_n 1, 1) := by decide +kernel
theorem dX1_evaluate_160 : decode cX1_evaluate 160 = .ok (.lload 4, 2) := by decide +kernel
theorem dX1_evaluate_162 : decode cX1_evaluate 162 = .ok (.lload 6, 2) := by decide +kernel
theorem dX1_evaluate_164 : decode cX1_evaluate 164 = .ok (.iload_n 2, 1) := by decide +kernel
theorem dX1_evaluate_165 : decode cX1_evaluate 165 = .ok (.invokevirtual 172, 3) := by decide +kernel
theorem dX1_evaluate_168 : decode cX1_evaluate 168 = .ok (.lreturn, 1) := by decide +kernel
theorem dX1_evaluate_169 : decode cX1_evaluate 169 = .ok (.aload_n 1, 1) := by decide +kernel
theorem dX1_evaluate_170 : decode cX1_evaluate 170 = .ok (.invokevirtual 176, 3) := by decide +kernel
theorem dX1_evaluate_173 : decode cX1_evaluate 173 = .ok (.ifCond .eq 15, 3) := by decide +kernel
theorem dX1_evaluate_176 : decode cX1_evaluate 176 = .ok (.aload_n 0, 1) := by decide +kernel
theorem dX1_evaluate_177 : decode cX1_evaluate 177 = .ok (.aload_n 1, 1) := by decide +kernel
theorem dX1_evaluate_178 : decode cX1_evaluate 178 = .ok (.lload 4, 2) := by decide +kernel
theorem dX1_evaluate_180 : decode cX1_evaluate 180 = .ok (.lload 6, 2) := by decide +kernel
theorem dX1_evaluate_182 : decode cX1_evaluate 182 = .ok (.invokevirtual 179, 3) := by decide +kernel
theorem dX1_evaluate_185 : decode cX1_evaluate 185 = .ok (.goto 12, 3) := by decide +kernel
theorem dX1_evaluate_188 : decode cX1_evaluate 188 = .ok (.aload_n 0, 1) := by decide +kernel
theorem dX1_evaluate_189 : decode cX1_evaluate 189 = .ok (.aload_n 1, 1) := by decide +kernel
theorem dX1_evaluate_190 : decode cX1_evaluate 190 = .ok (.lload 4, 2) := by decide +kernel
theorem dX1_evaluate_192 : decode cX1_evaluate 192 = .ok (.lload 6, 2) := by decide +kernel
theorem dX1_evaluate_194 : decode cX1_evaluate 194 = .ok (.invokevirtual 182, 3) := by decide +kernel
theorem dX1_evaluate_197 : decode cX1_evaluate 197 = .ok (.lreturn, 1) := by decide +kernel
theorem dX1_enter_0 : decode cX1_enter 0 = .ok (.aload_n 0, 1) := by decide +kernel
theorem dX1_enter_1 : decode cX1_enter 1 = .ok (.getfield 185, 3) := by decide +kernel
theorem dX1_enter_4 : decode cX1_enter 4 = .ok (.bipush 8, 2) := by decide +kernel
theorem dX1_enter_6 : decode cX1_enter 6 = .ok (.if_icmp .ge 10, 3) := by decide +kernel
theorem dX1_enter_9 : decode cX1_enter 9 = .ok (.aload_n 1, 1) := by decide +kernel
theorem dX1_enter_10 : decode cX1_enter 10 = .ok (.getfield 188, 3) := by decide +kernel
theorem dX1_enter_13 : decode cX1_enter 13 = .ok (.ifnonnull 14, 3) := by decide +kernel
theorem dX1_enter_16 : decode cX1_enter 16 = .ok (.aload_n 0, 1) := by decide +kernel
theorem dX1_enter_17 : decode cX1_enter 17 = .ok (.getfield 30, 3) := by decide +kernel
theorem dX1_enter_20 : decode cX1_enter 20 = .ok (.bipush 108, 2) := by decide +kernel
theorem dX1_enter_22 : decode cX1_enter 22 = .ok (.putfield 75, 3) := by decide +kernel
theorem dX1_enter_25 : decode cX1_enter 25 = .ok (.lconst 0, 1) := by decide +kernel
theorem dX1_enter_26 : decode cX1_enter 26 = .ok (.lreturn, 1) := by decide +kernel
theorem dX1_enter_27 : decode cX1_enter 27 = .ok (.aload_n 0, 1) := by decide +kernel
theorem dX1_enter_28 : decode cX1_enter 28 = .ok (.getfield 12, 3) := by decide +kernel
theorem dX1_enter_31 : decode cX1_enter 31 = .ok (.invokevirtual 121, 3) := by decide +kernel
theorem dX1_enter_34 : decode cX1_enter 34 = .ok (.istore 6, 2) := by decide +kernel
theorem dX1_enter_36 : decode cX1_enter 36 = .ok (.aload_n 0, 1) := by decide +kernel
theorem dX1_enter_37 : decode cX1_enter 37 = .ok (.getfield 12, 3) := by decide +kernel
theorem dX1_enter_40 : decode cX1_enter 40 = .ok (.invokevirtual 132, 3) := by decide +kernel
theorem dX1_enter_43 : decode cX1_enter 43 = .ok (.istore 7, 2) := by decide +kernel
theorem dX1_enter_45 : decode cX1_enter 45 = .ok (.aload_n 0, 1) := by decide +kernel
theorem dX1_enter_46 : decode cX1_enter 46 = .ok (.aload_n 0, 1) := by decide +kernel
theorem dX1_enter_47 : decode cX1_enter 47 = .ok (.getfield 185, 3) := by decide +kernel
theorem dX1_enter_50 : decode cX1_enter 50 = .ok (.iconst 1, 1) := by decide +kernel
theorem dX1_enter_51 : decode cX1_enter 51 = .ok (.iadd, 1) := by decide +kernel
theorem dX1_enter_52 : decode cX1_enter 52 = .ok (.invokevirtual 44, 3) := by decide +kernel
theorem dX1_enter_55 : decode cX1_enter 55 = .ok (.aload_n 0, 1) := by decide +kernel
theorem dX1_enter_56 : decode cX1_enter 56 = .ok (.aload_n 1, 1) := by decide +kernel
theorem dX1_enter_57 : decode cX1_enter 57 = .ok (.getfield 188, 3) := by decide +kernel
theorem dX1_enter_60 : decode cX1_enter 60 = .ok (.getfield 192, 3) := by decide +kernel
theorem dX1_enter_63 : decode cX1_enter 63 = .ok (.lload_n 2, 1) := by decide +kernel
theorem dX1_enter_64 : decode cX1_enter 64 = .ok (.invokevirtual 196, 3) := by decide +kernel
theorem dX1_enter_67 : decode cX1_enter 67 = .ok (.aload_n 0, 1) := by decide +kernel
theorem dX1_enter_68 : decode cX1_enter 68 = .ok (.aload_n 1, 1) := by decide +kernel
theorem dX1_enter_69 : decode cX1_enter 69 = .ok (.getfield 188, 3) := by decide +kernel
theorem dX1_enter_72 : decode cX1_enter 72 = .ok (.getfield 200, 3) := by decide +kernel
theorem dX1_enter_75 : decode cX1_enter 75 = .ok (.lload 4, 2) := by decide +kernel
theorem dX1_enter_77 : decode cX1_enter 77 = .ok (.invokevirtual 196, 3) := by decide +kernel
theorem dX1_enter_80 : decode cX1_enter 80 = .ok (.aload_n 0, 1) := by decide +kernel
theorem dX1_enter_81 : decode cX1_enter 81 = .ok (.aload_n 0, 1) := by decide +kernel
theorem dX1_enter_82 : decode cX1_enter 82 = .ok (.aload_n 1, 1) := by decide +kernel
theorem dX1_enter_83 : decode cX1_enter 83 = .ok (.getfield 188, 3) := by decide +kernel
theorem dX1_enter_86 : decode cX1_enter 86 = .ok (.getfield 202, 3) := by decide +kernel
theorem dX1_enter_89 : decode cX1_enter 89 = .ok (.invokevirtual 63, 3) := by decide +kernel
theorem dX1_enter_92 : decode cX1_enter 92 = .ok (.invokevirtual 67, 3) := by decide +kernel
theorem dX1_enter_95 : decode cX1_enter 95 = .ok (.aload_n 0, 1) := by decide +kernel
theorem dX1_enter_96 : decode cX1_enter 96 = .ok (.getfield 40, 3) := by decide +kernel
theorem dX1_enter_99 : decode cX1_enter 99 = .ok (.istore 8, 2) := by decide +kernel
theorem dX1_enter_101 : decode cX1_enter 101 = .ok (.aload_n 0, 1) := by decide +kernel
theorem dX1_enter_102 : decode cX1_enter 102 = .ok (.iconst 0, 1) := by decide +kernel
theorem dX1_enter_103 : decode cX1_enter 103 = .ok (.putfield 40, 3) := by decide +kernel
theorem dX1_enter_106 : decode cX1_enter 106 = .ok (.aload_n 0, 1) := by decide +kernel
theorem dX1_enter_107 : decode cX1_enter 107 = .ok (.dup, 1) := by decide +kernel
theorem dX1_enter_108 : decode cX1_enter 108 = .ok (.getfield 185, 3) := by decide +kernel
theorem dX1_enter_111 : decode cX1_enter 111 = .ok (.iconst 1, 1) := by decide +kernel
theorem dX1_enter_112 : decode cX1_enter 112 = .ok (.isub, 1) := by decide +kernel
theorem dX1_enter_113 : decode cX1_enter 113 = .ok (.putfield 185, 3) := by decide +kernel
theorem dX1_enter_116 : decode cX1_enter 116 = .ok (.aload_n 0, 1) := by decide +kernel
theorem dX1_enter_117 : decode cX1_enter 117 = .ok (.getfield 12, 3) := by decide +kernel
theorem dX1_enter_120 : decode cX1_enter 120 = .ok (.iload 6, 2) := by decide +kernel
theorem dX1_enter_122 : decode cX1_enter 122 = .ok (.invokevirtual 125, 3) := by decide +kernel
theorem dX1_enter_125 : decode cX1_enter 125 = .ok (.aload_n 0, 1) := by decide +kernel
theorem dX1_enter_126 : decode cX1_enter 126 = .ok (.getfield 12, 3) := by decide +kernel
theorem dX1_enter_129 : decode cX1_enter 129 = .ok (.iload 7, 2) := by decide +kernel
theorem dX1_enter_131 : decode cX1_enter 131 = .ok (.invokevirtual 203, 3) := by decide +kernel
theorem dX1_enter_134 : decode cX1_enter 134 = .ok (.aload_n 0, 1) := by decide +kernel
theorem dX1_enter_135 : decode cX1_enter 135 = .ok (.invokevirtual 71, 3) := by decide +kernel
theorem dX1_enter_138 : decode cX1_enter 138 = .ok (.ifCond .eq 5, 3) := by decide +kernel
theorem dX1_enter_141 : decode cX1_enter 141 = .ok (.lconst 0, 1) := by decide +kernel
theorem dX1_enter_142 : decode cX1_enter 142 = .ok (.lreturn, 1) := by decide +kernel
theorem dX1_enter_143 : decode cX1_enter 143 = .ok (.iload 8, 2) := by decide +kernel
theorem dX1_enter_145 : decode cX1_enter 145 = .ok (.ifCond .eq 20, 3) := by decide +kernel
theorem dX1_enter_148 : decode cX1_enter 148 = .ok (.aload_n 0, 1) := by decide +kernel
theorem dX1_enter_149 : decode cX1_enter 149 = .ok (.getfield 128, 3) := by decide +kernel
theorem dX1_enter_152 : decode cX1_enter 152 = .ok (.aload_n 1, 1) := by decide +kernel
theorem dX1_enter_153 : decode cX1_enter 153 = .ok (.getfield 188, 3) := by decide +kernel
theorem dX1_enter_156 : decode cX1_enter 156 = .ok (.getfield 206, 3) := by decide +kernel
theorem dX1_enter_159 : decode cX1_enter 159 = .ok (.invokestatic 209, 3) := by decide +kernel
theorem dX1_enter_162 : decode cX1_enter 162 = .ok (.goto 10, 3) := by decide +kernel
theorem dX1_enter_165 : decode cX1_enter 165 = .ok (.aload_n 0, 1) := by decide +kernel
theorem dX1_enter_166 : decode cX1_enter 166 = .ok (.bipush 105, 2) := by decide +kernel
theorem dX1_enter_168 : decode cX1_enter 168 = .ok (.aload_n 1, 1) := by decide +kernel
theorem dX1_enter_169 : decode cX1_enter 169 = .ok (.invokevirtual 158, 3) := by decide +kernel
theorem dX1_enter_172 : decode cX1_enter 172 = .ok (.lreturn, 1) := by decide +kernel
theorem dX1_isSecondAhead_0 : decode cX1_isSecondAhead 0 = .ok (.aload_n 0, 1) := by decide +kernel
theorem dX1_isSecondAhead_1 : decode cX1_isSecondAhead 1 = .ok (.getfield 30, 3) := by decide +kernel
theorem dX1_isSecondAhead_4 : decode cX1_isSecondAhead 4 = .ok (.getfield 215, 3) := by decide +kernel
theorem dX1_isSecondAhead_7 : decode cX1_isSecondAhead 7 = .ok (.bipush 30, 2) := by decide +kernel
theorem dX1_isSecondAhead_9 : decode cX1_isSecondAhead 9 = .ok (.irem, 1) := by decide +kernel
theorem dX1_isSecondAhead_10 : decode cX1_isSecondAhead 10 = .ok (.istore_n 1, 1) := by decide +kernel
theorem dX1_isSecondAhead_11 : decode cX1_isSecondAhead 11 = .ok (.aload_n 0, 1) := by decide +kernel
theorem dX1_isSecondAhead_12 : decode cX1_isSecondAhead 12 = .ok (.getfield 30, 3) := by decide +kernel
theorem dX1_isSecondAhead_15 : decode cX1_isSecondAhead 15 = .ok (.dup, 1) := by decide +kernel
theorem dX1_isSecondAhead_16 : decode cX1_isSecondAhead 16 = .ok (.getfield 215, 3) := by decide +kernel
theorem dX1_isSecondAhead_19 : decode cX1_isSecondAhead 19 = .ok (.iconst 1, 1) := by decide +kernel
theorem dX1_isSecondAhead_20 : decode cX1_isSecondAhead 20 = .ok (.iadd, 1) := by decide +kernel
theorem dX1_isSecondAhead_21 : decode cX1_isSecondAhead 21 = .ok (.putfield 215, 3) := by decide +kernel
theorem dX1_isSecondAhead_24 : decode cX1_isSecondAhead 24 = .ok (.aload_n 0, 1) := by decide +kernel
theorem dX1_isSecondAhead_25 : decode cX1_isSecondAhead 25 = .ok (.getfield 26, 3) := by decide +kernel
theorem dX1_isSecondAhead_28 : decode cX1_isSecondAhead 28 = .ok (.iload_n 1, 1) := by decide +kernel
theorem dX1_isSecondAhead_29 : decode cX1_isSecondAhead 29 = .ok (.ishr, 1) := by decide +kernel
theorem dX1_isSecondAhead_30 : decode cX1_isSecondAhead 30 = .ok (.iconst 1, 1) := by decide +kernel
theorem dX1_isSecondAhead_31 : decode cX1_isSecondAhead 31 = .ok (.iand, 1) := by decide +kernel
theorem dX1_isSecondAhead_32 : decode cX1_isSecondAhead 32 = .ok (.ifCond .eq 7, 3) := by decide +kernel
theorem dX1_isSecondAhead_35 : decode cX1_isSecondAhead 35 = .ok (.iconst 1, 1) := by decide +kernel
theorem dX1_isSecondAhead_36 : decode cX1_isSecondAhead 36 = .ok (.goto 4, 3) := by decide +kernel
theorem dX1_isSecondAhead_39 : decode cX1_isSecondAhead 39 = .ok (.iconst 0, 1) := by decide +kernel
theorem dX1_isSecondAhead_40 : decode cX1_isSecondAhead 40 = .ok (.ireturn, 1) := by decide +kernel
theorem dX1_reckon_0 : decode cX1_reckon 0 = .ok (.aload_n 1, 1) := by decide +kernel
theorem dX1_reckon_1 : decode cX1_reckon 1 = .ok (.lload_n 2, 1) := by decide +kernel
theorem dX1_reckon_2 : decode cX1_reckon 2 = .ok (.lload 4, 2) := by decide +kernel
theorem dX1_reckon_4 : decode cX1_reckon 4 = .ok (.invokevirtual 218, 3) := by decide +kernel
theorem dX1_reckon_7 : decode cX1_reckon 7 = .ok (.istore 6, 2) := by decide +kernel
theorem dX1_reckon_9 : decode cX1_reckon 9 = .ok (.iload 6, 2) := by decide +kernel
theorem dX1_reckon_11 : decode cX1_reckon 11 = .ok (.bipush 32, 2) := by decide +kernel
theorem dX1_reckon_13 : decode cX1_reckon 13 = .ok (.if_icmp .ne 13, 3) := by decide +kernel
theorem dX1_reckon_16 : decode cX1_reckon 16 = .ok (.aload_n 1, 1) := by decide +kernel
theorem dX1_reckon_17 : decode cX1_reckon 17 = .ok (.lload_n 2, 1) := by decide +kernel
theorem dX1_reckon_18 : decode cX1_reckon 18 = .ok (.lload 4, 2) := by decide +kernel
theorem dX1_reckon_20 : decode cX1_reckon 20 = .ok (.invokevirtual 222, 3) := by decide +kernel
theorem dX1_reckon_23 : decode cX1_reckon 23 = .ok (.goto 10, 3) := by decide +kernel
theorem dX1_reckon_26 : decode cX1_reckon 26 = .ok (.aload_n 0, 1) := by decide +kernel
theorem dX1_reckon_27 : decode cX1_reckon 27 = .ok (.iload 6, 2) := by decide +kernel
theorem dX1_reckon_29 : decode cX1_reckon 29 = .ok (.aload_n 1, 1) := by decide +kernel
theorem dX1_reckon_30 : decode cX1_reckon 30 = .ok (.invokevirtual 158, 3) := by decide +kernel
theorem dX1_reckon_33 : decode cX1_reckon 33 = .ok (.lreturn, 1) := by decide +kernel
theorem dX1_finish_0 : decode cX1_finish 0 = .ok (.aload_n 1, 1) := by decide +kernel
theorem dX1_finish_1 : decode cX1_finish 1 = .ok (.getfield 162, 3) := by decide +kernel
theorem dX1_finish_4 : decode cX1_finish 4 = .ok (.tableswitch 85 0 5 #[40, 45, 59, 85, 66, 75], 40) := by decide +kernel
theorem dX1_finish_44 : decode cX1_finish 44 = .ok (.aload_n 1, 1) := by decide +kernel
theorem dX1_finish_45 : decode cX1_finish 45 = .ok (.getfield 226, 3) := by decide +kernel
theorem dX1_finish_48 : decode cX1_finish 48 = .ok (.lreturn, 1) := by decide +kernel
theorem dX1_finish_49 : decode cX1_finish 49 = .ok (.aload_n 0, 1) := by decide +kernel
theorem dX1_finish_50 : decode cX1_finish 50 = .ok (.aload_n 1, 1) := by decide +kernel
theorem dX1_finish_51 : decode cX1_finish 51 = .ok (.aload_n 0, 1) := by decide +kernel
theorem dX1_finish_52 : decode cX1_finish 52 = .ok (.aload_n 1, 1) := by decide +kernel
theorem dX1_finish_53 : decode cX1_finish 53 = .ok (.getfield 229, 3) := by decide +kernel
theorem dX1_finish_56 : decode cX1_finish 56 = .ok (.invokevirtual 230, 3) := by decide +kernel
theorem dX1_finish_59 : decode cX1_finish 59 = .ok (.invokevirtual 234, 3) := by decide +kernel
theorem dX1_finish_62 : decode cX1_finish 62 = .ok (.lreturn, 1) := by decide +kernel
theorem dX1_finish_63 : decode cX1_finish 63 = .ok (.aload_n 0, 1) := by decide +kernel
theorem dX1_finish_64 : decode cX1_finish 64 = .ok (.aload_n 1, 1) := by decide +kernel
theorem dX1_finish_65 : decode cX1_finish 65 = .ok (.lload_n 2, 1) := by decide +kernel
theorem dX1_finish_66 : decode cX1_finish 66 = .ok (.invokevirtual 238, 3) := by decide +kernel
theorem dX1_finish_69 : decode cX1_finish 69 = .ok (.lreturn, 1) := by decide +kernel
theorem dX1_finish_70 : decode cX1_finish 70 = .ok (.aload_n 0, 1) := by decide +kernel
theorem dX1_finish_71 : decode cX1_finish 71 = .ok (.aload_n 1, 1) := by decide +kernel
theorem dX1_finish_72 : decode cX1_finish 72 = .ok (.lload_n 2, 1) := by decide +kernel
theorem dX1_finish_73 : decode cX1_finish 73 = .ok (.lload 4, 2) := by decide +kernel
theorem dX1_finish_75 : decode cX1_finish 75 = .ok (.invokevirtual 241, 3) := by decide +kernel
theorem dX1_finish_78 : decode cX1_finish 78 = .ok (.lreturn, 1) := by decide +kernel
theorem dX1_finish_79 : decode cX1_finish 79 = .ok (.lload 4, 2) := by decide +kernel
theorem dX1_finish_81 : decode cX1_finish 81 = .ok (.aload_n 1, 1) := by decide +kernel
theorem dX1_finish_82 : decode cX1_finish 82 = .ok (.getfield 244, 3) := by decide +kernel
theorem dX1_finish_85 : decode cX1_finish 85 = .ok (.invokestatic 247, 3) := by decide +kernel
theorem dX1_finish_88 : decode cX1_finish 88 = .ok (.lreturn, 1) := by decide +kernel
theorem dX1_finish_89 : decode cX1_finish 89 = .ok (.lconst 0, 1) := by decide +kernel
theorem dX1_finish_90 : decode cX1_finish 90 = .ok (.lreturn, 1) := by decide +kernel
theorem dX1_finishName_0 : decode cX1_finishName 0 = .ok (.aload_n 1, 1) := by decide +kernel
theorem dX1_finishName_1 : decode cX1_finishName 1 = .ok (.invokevirtual 250, 3) := by decide +kernel
theorem dX1_finishName_4 : decode cX1_finishName 4 = .ok (.ifCond .eq 10, 3) := by decide +kernel
theorem dX1_finishName_7 : decode cX1_finishName 7 = .ok (.aload_n 0, 1) := by decide +kernel
theorem dX1_finishName_8 : decode cX1_finishName 8 = .ok (.aload_n 1, 1) := by decide +kernel
theorem dX1_finishName_9 : decode cX1_finishName 9 = .ok (.lload_n 2, 1) := by decide +kernel
theorem dX1_finishName_10 : decode cX1_finishName 10 = .ok (.invokevirtual 238, 3) := by decide +kernel
theorem dX1_finishName_13 : decode cX1_finishName 13 = .ok (.lreturn, 1) := by decide +kernel
theorem dX1_finishName_14 : decode cX1_finishName 14 = .ok (.aload_n 0, 1) := by decide +kernel
theorem dX1_finishName_15 : decode cX1_finishName 15 = .ok (.getfield 12, 3) := by decide +kernel
theorem dX1_finishName_18 : decode cX1_finishName 18 = .ok (.lload_n 2, 1) := by decide +kernel
theorem dX1_finishName_19 : decode cX1_finishName 19 = .ok (.invokevirtual 253, 3) := by decide +kernel
theorem dX1_finishName_22 : decode cX1_finishName 22 = .ok (.ifCond .eq 7, 3) := by decide +kernel
theorem dX1_finishName_25 : decode cX1_finishName 25 = .ok (.lload_n 2, 1) := by decide +kernel
theorem dX1_finishName_26 : decode cX1_finishName 26 = .ok (.goto 10, 3) := by decide +kernel
theorem dX1_finishName_29 : decode cX1_finishName 29 = .ok (.aload_n 0, 1) := by decide +kernel
theorem dX1_finishName_30 : decode cX1_finishName 30 = .ok (.bipush 100, 2) := by decide +kernel
theorem dX1_finishName_32 : decode cX1_finishName 32 = .ok (.aload_n 1, 1) := by decide +kernel
theorem dX1_finishName_33 : decode cX1_finishName 33 = .ok (.invokevirtual 158, 3) := by decide +kernel
theorem dX1_finishName_36 : decode cX1_finishName 36 = .ok (.lreturn, 1) := by decide +kernel
theorem dX1_finishBinary_0 : decode cX1_finishBinary 0 = .ok (.aload_n 1, 1) := by decide +kernel
theorem dX1_finishBinary_1 : decode cX1_finishBinary 1 = .ok (.getfield 257, 3) := by decide +kernel
theorem dX1_finishBinary_4 : decode cX1_finishBinary 4 = .ok (.lookupswitch 167 #[(44, 60), (45, 157), (60, 114), (61, 101), (97, 63), (111, 82)], 60) := by decide +kernel
theorem dX1_finishBinary_64 : decode cX1_finishBinary 64 = .ok (.lload 4, 2) := by decide +kernel
theorem dX1_finishBinary_66 : decode cX1_finishBinary 66 = .ok (.lreturn, 1) := by decide +kernel
theorem dX1_finishBinary_67 : decode cX1_finishBinary 67 = .ok (.lload_n 2, 1) := by decide +kernel
theorem dX1_finishBinary_68 : decode cX1_finishBinary 68 = .ok (.lconst 0, 1) := by decide +kernel
theorem dX1_finishBinary_69 : decode cX1_finishBinary 69 = .ok (.lcmp, 1) := by decide +kernel
theorem dX1_finishBinary_70 : decode cX1_finishBinary 70 = .ok (.ifCond .eq 14, 3) := by decide +kernel
theorem dX1_finishBinary_73 : decode cX1_finishBinary 73 = .ok (.lload 4, 2) := by decide +kernel
theorem dX1_finishBinary_75 : decode cX1_finishBinary 75 = .ok (.lconst 0, 1) := by decide +kernel
theorem dX1_finishBinary_76 : decode cX1_finishBinary 76 = .ok (.lcmp, 1) := by decide +kernel
theorem dX1_finishBinary_77 : decode cX1_finishBinary 77 = .ok (.ifCond .eq 7, 3) := by decide +kernel
theorem dX1_finishBinary_80 : decode cX1_finishBinary 80 = .ok (.lconst 1, 1) := by decide +kernel
theorem dX1_finishBinary_81 : decode cX1_finishBinary 81 = .ok (.goto 4, 3) := by decide +kernel
theorem dX1_finishBinary_84 : decode cX1_finishBinary 84 = .ok (.lconst 0, 1) := by decide +kernel
theorem dX1_finishBinary_85 : decode cX1_finishBinary 85 = .ok (.lreturn, 1) := by decide +kernel
theorem dX1_finishBinary_86 : decode cX1_finishBinary 86 = .ok (.lload_n 2, 1) := by decide +kernel
theorem dX1_finishBinary_87 : decode cX1_finishBinary 87 = .ok (.lconst 0, 1) := by decide +kernel
theorem dX1_finishBinary_88 : decode cX1_finishBinary 88 = .ok (.lcmp, 1) := by decide +kernel
theorem dX1_finishBinary_89 : decode cX1_finishBinary 89 = .ok (.ifCond .ne 10, 3) := by decide +kernel
theorem dX1_finishBinary_92 : decode cX1_finishBinary 92 = .ok (.lload 4, 2) := by decide +kernel
theorem dX1_finishBinary_94 : decode cX1_finishBinary 94 = .ok (.lconst 0, 1) := by decide +kernel
theorem dX1_finishBinary_95 : decode cX1_finishBinary 95 = .ok (.lcmp, 1) := by decide +kernel
theorem dX1_finishBinary_96 : decode cX1_finishBinary 96 = .ok (.ifCond .eq 7, 3) := by decide +kernel
theorem dX1_finishBinary_99 : decode cX1_finishBinary 99 = .ok (.lconst 1, 1) := by decide +kernel
theorem dX1_finishBinary_100 : decode cX1_finishBinary 100 = .ok (.goto 4, 3) := by decide +kernel
theorem dX1_finishBinary_103 : decode cX1_finishBinary 103 = .ok (.lconst 0, 1) := by decide +kernel
theorem dX1_finishBinary_104 : decode cX1_finishBinary 104 = .ok (.lreturn, 1) := by decide +kernel
theorem dX1_finishBinary_105 : decode cX1_finishBinary 105 = .ok (.lload_n 2, 1) := by decide +kernel
theorem dX1_finishBinary_106 : decode cX1_finishBinary 106 = .ok (.lload 4, 2) := by decide +kernel
theorem dX1_finishBinary_108 : decode cX1_finishBinary 108 = .ok (.lcmp, 1) := by decide +kernel
theorem dX1_finishBinary_109 : decode cX1_finishBinary 109 = .ok (.ifCond .ne 7, 3) := by decide +kernel
theorem dX1_finishBinary_112 : decode cX1_finishBinary 112 = .ok (.lconst 1, 1) := by decide +kernel
theorem dX1_finishBinary_113 : decode cX1_finishBinary 113 = .ok (.goto 4, 3) := by decide +kernel
theorem dX1_finishBinary_116 : decode cX1_finishBinary 116 = .ok (.lconst 0, 1) := by decide +kernel
theorem dX1_finishBinary_117 : decode cX1_finishBinary 117 = .ok (.lreturn, 1) := by decide +kernel
theorem dX1_finishBinary_118 : decode cX1_finishBinary 118 = .ok (.aload_n 0, 1) := by decide +kernel
theorem dX1_finishBinary_119 : decode cX1_finishBinary 119 = .ok (.getfield 12, 3) := by decide +kernel
theorem dX1_finishBinary_122 : decode cX1_finishBinary 122 = .ok (.lload_n 2, 1) := by decide +kernel
theorem dX1_finishBinary_123 : decode cX1_finishBinary 123 = .ok (.invokevirtual 258, 3) := by decide +kernel
theorem dX1_finishBinary_126 : decode cX1_finishBinary 126 = .ok (.aload_n 0, 1) := by decide +kernel
theorem dX1_finishBinary_127 : decode cX1_finishBinary 127 = .ok (.getfield 12, 3) := by decide +kernel
theorem dX1_finishBinary_130 : decode cX1_finishBinary 130 = .ok (.lload 4, 2) := by decide +kernel
theorem dX1_finishBinary_132 : decode cX1_finishBinary 132 = .ok (.invokevirtual 258, 3) := by decide +kernel
theorem dX1_finishBinary_135 : decode cX1_finishBinary 135 = .ok (.if_icmp .eq 13, 3) := by decide +kernel
theorem dX1_finishBinary_138 : decode cX1_finishBinary 138 = .ok (.aload_n 0, 1) := by decide +kernel
theorem dX1_finishBinary_139 : decode cX1_finishBinary 139 = .ok (.bipush 112, 2) := by decide +kernel
theorem dX1_finishBinary_141 : decode cX1_finishBinary 141 = .ok (.aload_n 1, 1) := by decide +kernel
theorem dX1_finishBinary_142 : decode cX1_finishBinary 142 = .ok (.invokevirtual 158, 3) := by decide +kernel
theorem dX1_finishBinary_145 : decode cX1_finishBinary 145 = .ok (.goto 15, 3) := by decide +kernel
theorem dX1_finishBinary_148 : decode cX1_finishBinary 148 = .ok (.lload_n 2, 1) := by decide +kernel
theorem dX1_finishBinary_149 : decode cX1_finishBinary 149 = .ok (.lload 4, 2) := by decide +kernel
theorem dX1_finishBinary_151 : decode cX1_finishBinary 151 = .ok (.lcmp, 1) := by decide +kernel
theorem dX1_finishBinary_152 : decode cX1_finishBinary 152 = .ok (.ifCond .ge 7, 3) := by decide +kernel
theorem dX1_finishBinary_155 : decode cX1_finishBinary 155 = .ok (.lconst 1, 1) := by decide +kernel
theorem dX1_finishBinary_156 : decode cX1_finishBinary 156 = .ok (.goto 4, 3) := by decide +kernel
theorem dX1_finishBinary_159 : decode cX1_finishBinary 159 = .ok (.lconst 0, 1) := by decide +kernel
theorem dX1_finishBinary_160 : decode cX1_finishBinary 160 = .ok (.lreturn, 1) := by decide +kernel
theorem dX1_finishBinary_161 : decode cX1_finishBinary 161 = .ok (.aload_n 0, 1) := by decide +kernel
theorem dX1_finishBinary_162 : decode cX1_finishBinary 162 = .ok (.aload_n 1, 1) := by decide +kernel
theorem dX1_finishBinary_163 : decode cX1_finishBinary 163 = .ok (.lload_n 2, 1) := by decide +kernel
theorem dX1_finishBinary_164 : decode cX1_finishBinary 164 = .ok (.lload 4, 2) := by decide +kernel
theorem dX1_finishBinary_166 : decode cX1_finishBinary 166 = .ok (.lneg, 1) := by decide +kernel
theorem dX1_finishBinary_167 : decode cX1_finishBinary 167 = .ok (.invokevirtual 262, 3) := by decide +kernel
theorem dX1_finishBinary_170 : decode cX1_finishBinary 170 = .ok (.lreturn, 1) := by decide +kernel
theorem dX1_finishBinary_171 : decode cX1_finishBinary 171 = .ok (.aload_n 0, 1) := by decide +kernel
theorem dX1_finishBinary_172 : decode cX1_finishBinary 172 = .ok (.aload_n 1, 1) := by decide +kernel
theorem dX1_finishBinary_173 : decode cX1_finishBinary 173 = .ok (.lload_n 2, 1) := by decide +kernel
theorem dX1_finishBinary_174 : decode cX1_finishBinary 174 = .ok (.lload 4, 2) := by decide +kernel
theorem dX1_finishBinary_176 : decode cX1_finishBinary 176 = .ok (.invokevirtual 262, 3) := by decide +kernel
theorem dX1_finishBinary_179 : decode cX1_finishBinary 179 = .ok (.lreturn, 1) := by decide +kernel
theorem dX1_finishAtPlace_0 : decode cX1_finishAtPlace 0 = .ok (.aload_n 1, 1) := by decide +kernel
theorem dX1_finishAtPlace_1 : decode cX1_finishAtPlace 1 = .ok (.getfield 265, 3) := by decide +kernel
theorem dX1_finishAtPlace_4 : decode cX1_finishAtPlace 4 = .ok (.ifnull 18, 3) := by decide +kernel
theorem dX1_finishAtPlace_7 : decode cX1_finishAtPlace 7 = .ok (.aload_n 1, 1) := by decide +kernel
theorem dX1_finishAtPlace_8 : decode cX1_finishAtPlace 8 = .ok (.getfield 265, 3) := by decide +kernel
theorem dX1_finishAtPlace_11 : decode cX1_finishAtPlace 11 = .ok (.getfield 162, 3) := by decide +kernel
theorem dX1_finishAtPlace_14 : decode cX1_finishAtPlace 14 = .ok (.iconst 1, 1) := by decide +kernel
theorem dX1_finishAtPlace_15 : decode cX1_finishAtPlace 15 = .ok (.if_icmp .ne 7, 3) := by decide +kernel
theorem dX1_finishAtPlace_18 : decode cX1_finishAtPlace 18 = .ok (.iconst 1, 1) := by decide +kernel
theorem dX1_finishAtPlace_19 : decode cX1_finishAtPlace 19 = .ok (.goto 4, 3) := by decide +kernel
theorem dX1_finishAtPlace_22 : decode cX1_finishAtPlace 22 = .ok (.iconst 0, 1) := by decide +kernel
theorem dX1_finishAtPlace_23 : decode cX1_finishAtPlace 23 = .ok (.istore 7, 2) := by decide +kernel
theorem dX1_finishAtPlace_25 : decode cX1_finishAtPlace 25 = .ok (.iload 7, 2) := by decide +kernel
theorem dX1_finishAtPlace_27 : decode cX1_finishAtPlace 27 = .ok (.ifCond .eq 17, 3) := by decide +kernel
theorem dX1_finishAtPlace_30 : decode cX1_finishAtPlace 30 = .ok (.aload_n 0, 1) := by decide +kernel
theorem dX1_finishAtPlace_31 : decode cX1_finishAtPlace 31 = .ok (.aload_n 1, 1) := by decide +kernel
theorem dX1_finishAtPlace_32 : decode cX1_finishAtPlace 32 = .ok (.getfield 265, 3) := by decide +kernel
theorem dX1_finishAtPlace_35 : decode cX1_finishAtPlace 35 = .ok (.getfield 229, 3) := by decide +kernel
theorem dX1_finishAtPlace_38 : decode cX1_finishAtPlace 38 = .ok (.invokevirtual 230, 3) := by decide +kernel
theorem dX1_finishAtPlace_41 : decode cX1_finishAtPlace 41 = .ok (.goto 4, 3) := by decide +kernel
theorem dX1_finishAtPlace_44 : decode cX1_finishAtPlace 44 = .ok (.lload_n 2, 1) := by decide +kernel
theorem dX1_finishAtPlace_45 : decode cX1_finishAtPlace 45 = .ok (.lstore 8, 2) := by decide +kernel
theorem dX1_finishAtPlace_47 : decode cX1_finishAtPlace 47 = .ok (.aload_n 1, 1) := by decide +kernel
theorem dX1_finishAtPlace_48 : decode cX1_finishAtPlace 48 = .ok (.getfield 257, 3) := by decide +kernel
theorem dX1_finishAtPlace_51 : decode cX1_finishAtPlace 51 = .ok (.bipush 38, 2) := by decide +kernel
theorem dX1_finishAtPlace_53 : decode cX1_finishAtPlace 53 = .ok (.if_icmp .ne 33, 3) := by decide +kernel
theorem dX1_finishAtPlace_56 : decode cX1_finishAtPlace 56 = .ok (.iload 7, 2) := by decide +kernel
theorem dX1_finishAtPlace_58 : decode cX1_finishAtPlace 58 = .ok (.ifCond .eq 25, 3) := by decide +kernel
theorem dX1_finishAtPlace_61 : decode cX1_finishAtPlace 61 = .ok (.aload_n 0, 1) := by decide +kernel
theorem dX1_finishAtPlace_62 : decode cX1_finishAtPlace 62 = .ok (.getfield 12, 3) := by decide +kernel
theorem dX1_finishAtPlace_65 : decode cX1_finishAtPlace 65 = .ok (.lload 8, 2) := by decide +kernel
theorem dX1_finishAtPlace_67 : decode cX1_finishAtPlace 67 = .ok (.invokevirtual 253, 3) := by decide +kernel
theorem dX1_finishAtPlace_70 : decode cX1_finishAtPlace 70 = .ok (.ifCond .ne 13, 3) := by decide +kernel
theorem dX1_finishAtPlace_73 : decode cX1_finishAtPlace 73 = .ok (.aload_n 0, 1) := by decide +kernel
theorem dX1_finishAtPlace_74 : decode cX1_finishAtPlace 74 = .ok (.bipush 100, 2) := by decide +kernel
theorem dX1_finishAtPlace_76 : decode cX1_finishAtPlace 76 = .ok (.aload_n 1, 1) := by decide +kernel
theorem dX1_finishAtPlace_77 : decode cX1_finishAtPlace 77 = .ok (.invokevirtual 158, 3) := by decide +kernel
theorem dX1_finishAtPlace_80 : decode cX1_finishAtPlace 80 = .ok (.goto 5, 3) := by decide +kernel
theorem dX1_finishAtPlace_83 : decode cX1_finishAtPlace 83 = .ok (.lload 8, 2) := by decide +kernel
theorem dX1_finishAtPlace_85 : decode cX1_finishAtPlace 85 = .ok (.lreturn, 1) := by decide +kernel
theorem dX1_finishAtPlace_86 : decode cX1_finishAtPlace 86 = .ok (.aload_n 0, 1) := by decide +kernel
theorem dX1_finishAtPlace_87 : decode cX1_finishAtPlace 87 = .ok (.getfield 12, 3) := by decide +kernel
theorem dX1_finishAtPlace_90 : decode cX1_finishAtPlace 90 = .ok (.iload 6, 2) := by decide +kernel
theorem dX1_finishAtPlace_92 : decode cX1_finishAtPlace 92 = .ok (.lload 8, 2) := by decide +kernel
theorem dX1_finishAtPlace_94 : decode cX1_finishAtPlace 94 = .ok (.invokevirtual 267, 3) := by decide +kernel
theorem dX1_finishAtPlace_97 : decode cX1_finishAtPlace 97 = .ok (.ifCond .eq 11, 3) := by decide +kernel
theorem dX1_finishAtPlace_100 : decode cX1_finishAtPlace 100 = .ok (.aload_n 0, 1) := by decide +kernel
theorem dX1_finishAtPlace_101 : decode cX1_finishAtPlace 101 = .ok (.bipush 117, 2) := by decide +kernel
theorem dX1_finishAtPlace_103 : decode cX1_finishAtPlace 103 = .ok (.aload_n 1, 1) := by decide +kernel
theorem dX1_finishAtPlace_104 : decode cX1_finishAtPlace 104 = .ok (.invokevirtual 158, 3) := by decide +kernel
theorem dX1_finishAtPlace_107 : decode cX1_finishAtPlace 107 = .ok (.lreturn, 1) := by decide +kernel
theorem dX1_finishAtPlace_108 : decode cX1_finishAtPlace 108 = .ok (.aload_n 1, 1) := by decide +kernel
theorem dX1_finishAtPlace_109 : decode cX1_finishAtPlace 109 = .ok (.getfield 257, 3) := by decide +kernel
theorem dX1_finishAtPlace_112 : decode cX1_finishAtPlace 112 = .ok (.bipush 115, 2) := by decide +kernel
theorem dX1_finishAtPlace_114 : decode cX1_finishAtPlace 114 = .ok (.if_icmp .ne 20, 3) := by decide +kernel
theorem dX1_finishAtPlace_117 : decode cX1_finishAtPlace 117 = .ok (.aload_n 0, 1) := by decide +kernel
theorem dX1_finishAtPlace_118 : decode cX1_finishAtPlace 118 = .ok (.aload_n 1, 1) := by decide +kernel
theorem dX1_finishAtPlace_119 : decode cX1_finishAtPlace 119 = .ok (.lload 8, 2) := by decide +kernel
theorem dX1_finishAtPlace_121 : decode cX1_finishAtPlace 121 = .ok (.lload 4, 2) := by decide +kernel
theorem dX1_finishAtPlace_123 : decode cX1_finishAtPlace 123 = .ok (.aload_n 1, 1) := by decide +kernel
theorem dX1_finishAtPlace_124 : decode cX1_finishAtPlace 124 = .ok (.getfield 244, 3) := by decide +kernel
theorem dX1_finishAtPlace_127 : decode cX1_finishAtPlace 127 = .ok (.invokestatic 247, 3) := by decide +kernel
theorem dX1_finishAtPlace_130 : decode cX1_finishAtPlace 130 = .ok (.invokevirtual 271, 3) := by decide +kernel
theorem dX1_finishAtPlace_133 : decode cX1_finishAtPlace 133 = .ok (.lreturn, 1) := by decide +kernel
theorem dX1_finishAtPlace_134 : decode cX1_finishAtPlace 134 = .ok (.aload_n 0, 1) := by decide +kernel
theorem dX1_finishAtPlace_135 : decode cX1_finishAtPlace 135 = .ok (.aload_n 1, 1) := by decide +kernel
theorem dX1_finishAtPlace_136 : decode cX1_finishAtPlace 136 = .ok (.lload 8, 2) := by decide +kernel
theorem dX1_finishAtPlace_138 : decode cX1_finishAtPlace 138 = .ok (.invokevirtual 238, 3) := by decide +kernel
theorem dX1_finishAtPlace_141 : decode cX1_finishAtPlace 141 = .ok (.lstore 10, 2) := by decide +kernel
theorem dX1_finishAtPlace_143 : decode cX1_finishAtPlace 143 = .ok (.aload_n 0, 1) := by decide +kernel
theorem dX1_finishAtPlace_144 : decode cX1_finishAtPlace 144 = .ok (.aload_n 1, 1) := by decide +kernel
theorem dX1_finishAtPlace_145 : decode cX1_finishAtPlace 145 = .ok (.lload 10, 2) := by decide +kernel
theorem dX1_finishAtPlace_147 : decode cX1_finishAtPlace 147 = .ok (.aload_n 1, 1) := by decide +kernel
theorem dX1_finishAtPlace_148 : decode cX1_finishAtPlace 148 = .ok (.getfield 257, 3) := by decide +kernel
theorem dX1_finishAtPlace_151 : decode cX1_finishAtPlace 151 = .ok (.bipush 112, 2) := by decide +kernel
theorem dX1_finishAtPlace_153 : decode cX1_finishAtPlace 153 = .ok (.if_icmp .ne 8, 3) := by decide +kernel
theorem dX1_finishAtPlace_156 : decode cX1_finishAtPlace 156 = .ok (.lload 4, 2) := by decide +kernel
theorem dX1_finishAtPlace_158 : decode cX1_finishAtPlace 158 = .ok (.goto 4, 3) := by decide +kernel
theorem dX1_finishAtPlace_161 : decode cX1_finishAtPlace 161 = .ok (.lconst 1, 1) := by decide +kernel
theorem dX1_finishAtPlace_162 : decode cX1_finishAtPlace 162 = .ok (.invokevirtual 274, 3) := by decide +kernel
theorem dX1_finishAtPlace_165 : decode cX1_finishAtPlace 165 = .ok (.lstore 12, 2) := by decide +kernel
theorem dX1_finishAtPlace_167 : decode cX1_finishAtPlace 167 = .ok (.aload_n 0, 1) := by decide +kernel
theorem dX1_finishAtPlace_168 : decode cX1_finishAtPlace 168 = .ok (.aload_n 1, 1) := by decide +kernel
theorem dX1_finishAtPlace_169 : decode cX1_finishAtPlace 169 = .ok (.lload 8, 2) := by decide +kernel
theorem dX1_finishAtPlace_171 : decode cX1_finishAtPlace 171 = .ok (.lload 12, 2) := by decide +kernel
theorem dX1_finishAtPlace_173 : decode cX1_finishAtPlace 173 = .ok (.invokevirtual 271, 3) := by decide +kernel
theorem dX1_finishAtPlace_176 : decode cX1_finishAtPlace 176 = .ok (.lstore 14, 2) := by decide +kernel
theorem dX1_finishAtPlace_178 : decode cX1_finishAtPlace 178 = .ok (.aload_n 1, 1) := by decide +kernel
theorem dX1_finishAtPlace_179 : decode cX1_finishAtPlace 179 = .ok (.getfield 257, 3) := by decide +kernel
theorem dX1_finishAtPlace_182 : decode cX1_finishAtPlace 182 = .ok (.bipush 73, 2) := by decide +kernel
theorem dX1_finishAtPlace_184 : decode cX1_finishAtPlace 184 = .ok (.if_icmp .eq 12, 3) := by decide +kernel
theorem dX1_finishAtPlace_187 : decode cX1_finishAtPlace 187 = .ok (.aload_n 1, 1) := by decide +kernel
theorem dX1_finishAtPlace_188 : decode cX1_finishAtPlace 188 = .ok (.getfield 257, 3) := by decide +kernel
theorem dX1_finishAtPlace_191 : decode cX1_finishAtPlace 191 = .ok (.bipush 68, 2) := by decide +kernel
theorem dX1_finishAtPlace_193 : decode cX1_finishAtPlace 193 = .ok (.if_icmp .ne 7, 3) := by decide +kernel
theorem dX1_finishAtPlace_196 : decode cX1_finishAtPlace 196 = .ok (.iconst 1, 1) := by decide +kernel
theorem dX1_finishAtPlace_197 : decode cX1_finishAtPlace 197 = .ok (.goto 4, 3) := by decide +kernel
theorem dX1_finishAtPlace_200 : decode cX1_finishAtPlace 200 = .ok (.iconst 0, 1) := by decide +kernel
theorem dX1_finishAtPlace_201 : decode cX1_finishAtPlace 201 = .ok (.istore 16, 2) := by decide +kernel
theorem dX1_finishAtPlace_203 : decode cX1_finishAtPlace 203 = .ok (.iload 16, 2) := by decide +kernel
theorem dX1_finishAtPlace_205 : decode cX1_finishAtPlace 205 = .ok (.ifCond .eq 15, 3) := by decide +kernel
theorem dX1_finishAtPlace_208 : decode cX1_finishAtPlace 208 = .ok (.aload_n 0, 1) := by decide +kernel
theorem dX1_finishAtPlace_209 : decode cX1_finishAtPlace 209 = .ok (.invokevirtual 71, 3) := by decide +kernel
theorem dX1_finishAtPlace_212 : decode cX1_finishAtPlace 212 = .ok (.ifCond .ne 8, 3) := by decide +kernel
theorem dX1_finishAtPlace_215 : decode cX1_finishAtPlace 215 = .ok (.lload 10, 2) := by decide +kernel
theorem dX1_finishAtPlace_217 : decode cX1_finishAtPlace 217 = .ok (.goto 5, 3) := by decide +kernel
theorem dX1_finishAtPlace_220 : decode cX1_finishAtPlace 220 = .ok (.lload 14, 2) := by decide +kernel
theorem dX1_finishAtPlace_222 : decode cX1_finishAtPlace 222 = .ok (.lreturn, 1) := by decide +kernel
theorem dX1_changed_0 : decode cX1_changed 0 = .ok (.aload_n 0, 1) := by decide +kernel
theorem dX1_changed_1 : decode cX1_changed 1 = .ok (.invokevirtual 71, 3) := by decide +kernel
theorem dX1_changed_4 : decode cX1_changed 4 = .ok (.ifCond .eq 5, 3) := by decide +kernel
theorem dX1_changed_7 : decode cX1_changed 7 = .ok (.lconst 0, 1) := by decide +kernel
theorem dX1_changed_8 : decode cX1_changed 8 = .ok (.lreturn, 1) := by decide +kernel
theorem dX1_changed_9 : decode cX1_changed 9 = .ok (.aload_n 1, 1) := by decide +kernel
theorem dX1_changed_10 : decode cX1_changed 10 = .ok (.getfield 257, 3) := by decide +kernel
theorem dX1_changed_13 : decode cX1_changed 13 = .ok (.bipush 100, 2) := by decide +kernel
theorem dX1_changed_15 : decode cX1_changed 15 = .ok (.if_icmp .eq 12, 3) := by decide +kernel
theorem dX1_changed_18 : decode cX1_changed 18 = .ok (.aload_n 1, 1) := by decide +kernel
theorem dX1_changed_19 : decode cX1_changed 19 = .ok (.getfield 257, 3) := by decide +kernel
theorem dX1_changed_22 : decode cX1_changed 22 = .ok (.bipush 68, 2) := by decide +kernel
theorem dX1_changed_24 : decode cX1_changed 24 = .ok (.if_icmp .ne 8, 3) := by decide +kernel
theorem dX1_changed_27 : decode cX1_changed 27 = .ok (.bipush 45, 2) := by decide +kernel
theorem dX1_changed_29 : decode cX1_changed 29 = .ok (.goto 5, 3) := by decide +kernel
theorem dX1_changed_32 : decode cX1_changed 32 = .ok (.bipush 43, 2) := by decide +kernel
theorem dX1_changed_34 : decode cX1_changed 34 = .ok (.istore 6, 2) := by decide +kernel
theorem dX1_changed_36 : decode cX1_changed 36 = .ok (.aload_n 1, 1) := by decide +kernel
theorem dX1_changed_37 : decode cX1_changed 37 = .ok (.getfield 244, 3) := by decide +kernel
theorem dX1_changed_40 : decode cX1_changed 40 = .ok (.invokestatic 277, 3) := by decide +kernel
theorem dX1_changed_43 : decode cX1_changed 43 = .ok (.ifCond .ne 25, 3) := by decide +kernel
theorem dX1_changed_46 : decode cX1_changed 46 = .ok (.aload_n 0, 1) := by decide +kernel
theorem dX1_changed_47 : decode cX1_changed 47 = .ok (.aload_n 1, 1) := by decide +kernel
theorem dX1_changed_48 : decode cX1_changed 48 = .ok (.lload_n 2, 1) := by decide +kernel
theorem dX1_changed_49 : decode cX1_changed 49 = .ok (.iload 6, 2) := by decide +kernel
theorem dX1_changed_51 : decode cX1_changed 51 = .ok (.bipush 45, 2) := by decide +kernel
theorem dX1_changed_53 : decode cX1_changed 53 = .ok (.if_icmp .ne 9, 3) := by decide +kernel
theorem dX1_changed_56 : decode cX1_changed 56 = .ok (.lload 4, 2) := by decide +kernel
theorem dX1_changed_58 : decode cX1_changed 58 = .ok (.lneg, 1) := by decide +kernel
theorem dX1_changed_59 : decode cX1_changed 59 = .ok (.goto 5, 3) := by decide +kernel
theorem dX1_changed_62 : decode cX1_changed 62 = .ok (.lload 4, 2) := by decide +kernel
theorem dX1_changed_64 : decode cX1_changed 64 = .ok (.invokevirtual 262, 3) := by decide +kernel
theorem dX1_changed_67 : decode cX1_changed 67 = .ok (.lreturn, 1) := by decide +kernel
theorem dX1_changed_68 : decode cX1_changed 68 = .ok (.aload_n 1, 1) := by decide +kernel
theorem dX1_changed_69 : decode cX1_changed 69 = .ok (.getfield 244, 3) := by decide +kernel
theorem dX1_changed_72 : decode cX1_changed 72 = .ok (.aload_n 1, 1) := by decide +kernel
theorem dX1_changed_73 : decode cX1_changed 73 = .ok (.getfield 141, 3) := by decide +kernel
theorem dX1_changed_76 : decode cX1_changed 76 = .ok (.ifnonnull 7, 3) := by decide +kernel
theorem dX1_changed_79 : decode cX1_changed 79 = .ok (.iconst 2, 1) := by decide +kernel
theorem dX1_changed_80 : decode cX1_changed 80 = .ok (.goto 10, 3) := by decide +kernel
theorem dX1_changed_83 : decode cX1_changed 83 = .ok (.aload_n 1, 1) := by decide +kernel
theorem dX1_changed_84 : decode cX1_changed 84 = .ok (.getfield 141, 3) := by decide +kernel
theorem dX1_changed_87 : decode cX1_changed 87 = .ok (.getfield 244, 3) := by decide +kernel
theorem dX1_changed_90 : decode cX1_changed 90 = .ok (.invokestatic 281, 3) := by decide +kernel
theorem dX1_changed_93 : decode cX1_changed 93 = .ok (.istore 7, 2) := by decide +kernel
theorem dX1_changed_95 : decode cX1_changed 95 = .ok (.lload_n 2, 1) := by decide +kernel
theorem dX1_changed_96 : decode cX1_changed 96 = .ok (.iload 7, 2) := by decide +kernel
theorem dX1_changed_98 : decode cX1_changed 98 = .ok (.invokestatic 209, 3) := by decide +kernel
theorem dX1_changed_101 : decode cX1_changed 101 = .ok (.lstore 8, 2) := by decide +kernel
theorem dX1_changed_103 : decode cX1_changed 103 = .ok (.lload 4, 2) := by decide +kernel
theorem dX1_changed_105 : decode cX1_changed 105 = .ok (.iload 7, 2) := by decide +kernel
theorem dX1_changed_107 : decode cX1_changed 107 = .ok (.invokestatic 209, 3) := by decide +kernel
theorem dX1_changed_110 : decode cX1_changed 110 = .ok (.lstore 10, 2) := by decide +kernel
theorem dX1_changed_112 : decode cX1_changed 112 = .ok (.iload 6, 2) := by decide +kernel
theorem dX1_changed_114 : decode cX1_changed 114 = .ok (.iload 7, 2) := by decide +kernel
theorem dX1_changed_116 : decode cX1_changed 116 = .ok (.lload 8, 2) := by decide +kernel
theorem dX1_changed_118 : decode cX1_changed 118 = .ok (.lload 10, 2) := by decide +kernel
theorem dX1_changed_120 : decode cX1_changed 120 = .ok (.invokestatic 285, 3) := by decide +kernel
theorem dX1_changed_123 : decode cX1_changed 123 = .ok (.istore 12, 2) := by decide +kernel
theorem dX1_changed_125 : decode cX1_changed 125 = .ok (.iload 12, 2) := by decide +kernel
theorem dX1_changed_127 : decode cX1_changed 127 = .ok (.bipush 32, 2) := by decide +kernel
theorem dX1_changed_129 : decode cX1_changed 129 = .ok (.if_icmp .eq 11, 3) := by decide +kernel
theorem dX1_changed_132 : decode cX1_changed 132 = .ok (.aload_n 0, 1) := by decide +kernel
theorem dX1_changed_133 : decode cX1_changed 133 = .ok (.iload 12, 2) := by decide +kernel
theorem dX1_changed_135 : decode cX1_changed 135 = .ok (.aload_n 1, 1) := by decide +kernel
theorem dX1_changed_136 : decode cX1_changed 136 = .ok (.invokevirtual 158, 3) := by decide +kernel
theorem dX1_changed_139 : decode cX1_changed 139 = .ok (.lreturn, 1) := by decide +kernel
theorem dX1_changed_140 : decode cX1_changed 140 = .ok (.iload 6, 2) := by decide +kernel
theorem dX1_changed_142 : decode cX1_changed 142 = .ok (.iload 7, 2) := by decide +kernel
theorem dX1_changed_144 : decode cX1_changed 144 = .ok (.lload 8, 2) := by decide +kernel
theorem dX1_changed_146 : decode cX1_changed 146 = .ok (.lload 10, 2) := by decide +kernel
theorem dX1_changed_148 : decode cX1_changed 148 = .ok (.invokestatic 288, 3) := by decide +kernel
theorem dX1_changed_151 : decode cX1_changed 151 = .ok (.aload_n 1, 1) := by decide +kernel
theorem dX1_changed_152 : decode cX1_changed 152 = .ok (.getfield 244, 3) := by decide +kernel
theorem dX1_changed_155 : decode cX1_changed 155 = .ok (.invokestatic 209, 3) := by decide +kernel
theorem dX1_changed_158 : decode cX1_changed 158 = .ok (.lreturn, 1) := by decide +kernel
theorem dX1_converted_0 : decode cX1_converted 0 = .ok (.iload_n 2, 1) := by decide +kernel
theorem dX1_converted_1 : decode cX1_converted 1 = .ok (.invokestatic 277, 3) := by decide +kernel
theorem dX1_converted_4 : decode cX1_converted 4 = .ok (.ifCond .eq 11, 3) := by decide +kernel
theorem dX1_converted_7 : decode cX1_converted 7 = .ok (.lload_n 0, 1) := by decide +kernel
theorem dX1_converted_8 : decode cX1_converted 8 = .ok (.iload_n 2, 1) := by decide +kernel
theorem dX1_converted_9 : decode cX1_converted 9 = .ok (.invokestatic 209, 3) := by decide +kernel
theorem dX1_converted_12 : decode cX1_converted 12 = .ok (.goto 4, 3) := by decide +kernel
theorem dX1_converted_15 : decode cX1_converted 15 = .ok (.lload_n 0, 1) := by decide +kernel
theorem dX1_converted_16 : decode cX1_converted 16 = .ok (.lreturn, 1) := by decide +kernel
theorem dX1_move_0 : decode cX1_move 0 = .ok (.aload_n 0, 1) := by decide +kernel
theorem dX1_move_1 : decode cX1_move 1 = .ok (.getfield 12, 3) := by decide +kernel
theorem dX1_move_4 : decode cX1_move 4 = .ok (.lload_n 2, 1) := by decide +kernel
theorem dX1_move_5 : decode cX1_move 5 = .ok (.lload 4, 2) := by decide +kernel
theorem dX1_move_7 : decode cX1_move 7 = .ok (.invokevirtual 291, 3) := by decide +kernel
theorem dX1_move_10 : decode cX1_move 10 = .ok (.istore 6, 2) := by decide +kernel
theorem dX1_move_12 : decode cX1_move 12 = .ok (.iload 6, 2) := by decide +kernel
theorem dX1_move_14 : decode cX1_move 14 = .ok (.bipush 32, 2) := by decide +kernel
theorem dX1_move_16 : decode cX1_move 16 = .ok (.if_icmp .ne 10, 3) := by decide +kernel
theorem dX1_move_19 : decode cX1_move 19 = .ok (.lload_n 2, 1) := by decide +kernel
theorem dX1_move_20 : decode cX1_move 20 = .ok (.lload 4, 2) := by decide +kernel
theorem dX1_move_22 : decode cX1_move 22 = .ok (.ladd, 1) := by decide +kernel
theorem dX1_move_23 : decode cX1_move 23 = .ok (.goto 10, 3) := by decide +kernel
theorem dX1_move_26 : decode cX1_move 26 = .ok (.aload_n 0, 1) := by decide +kernel
theorem dX1_move_27 : decode cX1_move 27 = .ok (.iload 6, 2) := by decide +kernel
theorem dX1_move_29 : decode cX1_move 29 = .ok (.aload_n 1, 1) := by decide +kernel
theorem dX1_move_30 : decode cX1_move 30 = .ok (.invokevirtual 158, 3) := by decide +kernel
theorem dX1_move_33 : decode cX1_move 33 = .ok (.lreturn, 1) := by decide +kernel
theorem dX1_read_0 : decode cX1_read 0 = .ok (.aload_n 0, 1) := by decide +kernel
theorem dX1_read_1 : decode cX1_read 1 = .ok (.getfield 12, 3) := by decide +kernel
theorem dX1_read_4 : decode cX1_read 4 = .ok (.lload_n 2, 1) := by decide +kernel
theorem dX1_read_5 : decode cX1_read 5 = .ok (.iconst 1, 1) := by decide +kernel
theorem dX1_read_6 : decode cX1_read 6 = .ok (.invokevirtual 294, 3) := by decide +kernel
theorem dX1_read_9 : decode cX1_read 9 = .ok (.istore 4, 2) := by decide +kernel
theorem dX1_read_11 : decode cX1_read 11 = .ok (.iload 4, 2) := by decide +kernel
theorem dX1_read_13 : decode cX1_read 13 = .ok (.bipush 32, 2) := by decide +kernel
theorem dX1_read_15 : decode cX1_read 15 = .ok (.if_icmp .ne 14, 3) := by decide +kernel
theorem dX1_read_18 : decode cX1_read 18 = .ok (.aload_n 0, 1) := by decide +kernel
theorem dX1_read_19 : decode cX1_read 19 = .ok (.getfield 12, 3) := by decide +kernel
theorem dX1_read_22 : decode cX1_read 22 = .ok (.lload_n 2, 1) := by decide +kernel
theorem dX1_read_23 : decode cX1_read 23 = .ok (.invokevirtual 298, 3) := by decide +kernel
theorem dX1_read_26 : decode cX1_read 26 = .ok (.goto 10, 3) := by decide +kernel
theorem dX1_read_29 : decode cX1_read 29 = .ok (.aload_n 0, 1) := by decide +kernel
theorem dX1_read_30 : decode cX1_read 30 = .ok (.iload 4, 2) := by decide +kernel
theorem dX1_read_32 : decode cX1_read 32 = .ok (.aload_n 1, 1) := by decide +kernel
theorem dX1_read_33 : decode cX1_read 33 = .ok (.invokevirtual 158, 3) := by decide +kernel
theorem dX1_read_36 : decode cX1_read 36 = .ok (.lreturn, 1) := by decide +kernel
theorem dX1_write_0 : decode cX1_write 0 = .ok (.aload_n 0, 1) := by decide +kernel
theorem dX1_write_1 : decode cX1_write 1 = .ok (.invokevirtual 71, 3) := by decide +kernel
theorem dX1_write_4 : decode cX1_write 4 = .ok (.ifCond .eq 5, 3) := by decide +kernel
theorem dX1_write_7 : decode cX1_write 7 = .ok (.lconst 0, 1) := by decide +kernel
theorem dX1_write_8 : decode cX1_write 8 = .ok (.lreturn, 1) := by decide +kernel
theorem dX1_write_9 : decode cX1_write 9 = .ok (.aload_n 0, 1) := by decide +kernel
theorem dX1_write_10 : decode cX1_write 10 = .ok (.getfield 12, 3) := by decide +kernel
theorem dX1_write_13 : decode cX1_write 13 = .ok (.lload_n 2, 1) := by decide +kernel
theorem dX1_write_14 : decode cX1_write 14 = .ok (.iconst 0, 1) := by decide +kernel
theorem dX1_write_15 : decode cX1_write 15 = .ok (.invokevirtual 294, 3) := by decide +kernel
theorem dX1_write_18 : decode cX1_write 18 = .ok (.istore 6, 2) := by decide +kernel
theorem dX1_write_20 : decode cX1_write 20 = .ok (.iload 6, 2) := by decide +kernel
theorem dX1_write_22 : decode cX1_write 22 = .ok (.bipush 32, 2) := by decide +kernel
theorem dX1_write_24 : decode cX1_write 24 = .ok (.if_icmp .eq 11, 3) := by decide +kernel
theorem dX1_write_27 : decode cX1_write 27 = .ok (.aload_n 0, 1) := by decide +kernel
theorem dX1_write_28 : decode cX1_write 28 = .ok (.iload 6, 2) := by decide +kernel
theorem dX1_write_30 : decode cX1_write 30 = .ok (.aload_n 1, 1) := by decide +kernel
theorem dX1_write_31 : decode cX1_write 31 = .ok (.invokevirtual 158, 3) := by decide +kernel
theorem dX1_write_34 : decode cX1_write 34 = .ok (.lreturn, 1) := by decide +kernel
theorem dX1_write_35 : decode cX1_write 35 = .ok (.aload_n 0, 1) := by decide +kernel
theorem dX1_write_36 : decode cX1_write 36 = .ok (.getfield 12, 3) := by decide +kernel
theorem dX1_write_39 : decode cX1_write 39 = .ok (.lload_n 2, 1) := by decide +kernel
theorem dX1_write_40 : decode cX1_write 40 = .ok (.lload 4, 2) := by decide +kernel
theorem dX1_write_42 : decode cX1_write 42 = .ok (.invokevirtual 301, 3) := by decide +kernel
theorem dX1_write_45 : decode cX1_write 45 = .ok (.lload 4, 2) := by decide +kernel
theorem dX1_write_47 : decode cX1_write 47 = .ok (.lreturn, 1) := by decide +kernel
theorem dX1_openRow_0 : decode cX1_openRow 0 = .ok (.aload_n 0, 1) := by decide +kernel
theorem dX1_openRow_1 : decode cX1_openRow 1 = .ok (.iload_n 1, 1) := by decide +kernel
theorem dX1_openRow_2 : decode cX1_openRow 2 = .ok (.putfield 185, 3) := by decide +kernel
theorem dX1_openRow_5 : decode cX1_openRow 5 = .ok (.iconst 0, 1) := by decide +kernel
theorem dX1_openRow_6 : decode cX1_openRow 6 = .ok (.istore_n 2, 1) := by decide +kernel
theorem dX1_openRow_7 : decode cX1_openRow 7 = .ok (.iload_n 2, 1) := by decide +kernel
theorem dX1_openRow_8 : decode cX1_openRow 8 = .ok (.bipush 10, 2) := by decide +kernel
theorem dX1_openRow_10 : decode cX1_openRow 10 = .ok (.if_icmp .ge 36, 3) := by decide +kernel
theorem dX1_openRow_13 : decode cX1_openRow 13 = .ok (.iload_n 1, 1) := by decide +kernel
theorem dX1_openRow_14 : decode cX1_openRow 14 = .ok (.bipush 10, 2) := by decide +kernel
theorem dX1_openRow_16 : decode cX1_openRow 16 = .ok (.imul, 1) := by decide +kernel
theorem dX1_openRow_17 : decode cX1_openRow 17 = .ok (.iload_n 2, 1) := by decide +kernel
theorem dX1_openRow_18 : decode cX1_openRow 18 = .ok (.iadd, 1) := by decide +kernel
theorem dX1_openRow_19 : decode cX1_openRow 19 = .ok (.istore_n 3, 1) := by decide +kernel
theorem dX1_openRow_20 : decode cX1_openRow 20 = .ok (.iload_n 3, 1) := by decide +kernel
theorem dX1_openRow_21 : decode cX1_openRow 21 = .ok (.ifCond .lt 19, 3) := by decide +kernel
theorem dX1_openRow_24 : decode cX1_openRow 24 = .ok (.iload_n 3, 1) := by decide +kernel
theorem dX1_openRow_25 : decode cX1_openRow 25 = .ok (.aload_n 0, 1) := by decide +kernel
theorem dX1_openRow_26 : decode cX1_openRow 26 = .ok (.getfield 18, 3) := by decide +kernel
theorem dX1_openRow_29 : decode cX1_openRow 29 = .ok (.arraylength, 1) := by decide +kernel
theorem dX1_openRow_30 : decode cX1_openRow 30 = .ok (.if_icmp .ge 10, 3) := by decide +kernel
theorem dX1_openRow_33 : decode cX1_openRow 33 = .ok (.aload_n 0, 1) := by decide +kernel
theorem dX1_openRow_34 : decode cX1_openRow 34 = .ok (.getfield 18, 3) := by decide +kernel
theorem dX1_openRow_37 : decode cX1_openRow 37 = .ok (.iload_n 3, 1) := by decide +kernel
theorem dX1_openRow_38 : decode cX1_openRow 38 = .ok (.iconst (-1), 1) := by decide +kernel
theorem dX1_openRow_39 : decode cX1_openRow 39 = .ok (.iastore, 1) := by decide +kernel
theorem dX1_openRow_40 : decode cX1_openRow 40 = .ok (.iinc 2 1, 3) := by decide +kernel
theorem dX1_openRow_43 : decode cX1_openRow 43 = .ok (.goto (-36), 3) := by decide +kernel
theorem dX1_openRow_46 : decode cX1_openRow 46 = .ok (.return_, 1) := by decide +kernel
theorem dX1_slotOf_0 : decode cX1_slotOf 0 = .ok (.aload_n 1, 1) := by decide +kernel
theorem dX1_slotOf_1 : decode cX1_slotOf 1 = .ok (.getfield 54, 3) := by decide +kernel
theorem dX1_slotOf_4 : decode cX1_slotOf 4 = .ok (.ifCond .eq 7, 3) := by decide +kernel
theorem dX1_slotOf_7 : decode cX1_slotOf 7 = .ok (.iconst 0, 1) := by decide +kernel
theorem dX1_slotOf_8 : decode cX1_slotOf 8 = .ok (.goto 10, 3) := by decide +kernel
theorem dX1_slotOf_11 : decode cX1_slotOf 11 = .ok (.aload_n 0, 1) := by decide +kernel
theorem dX1_slotOf_12 : decode cX1_slotOf 12 = .ok (.getfield 185, 3) := by decide +kernel
theorem dX1_slotOf_15 : decode cX1_slotOf 15 = .ok (.bipush 10, 2) := by decide +kernel
theorem dX1_slotOf_17 : decode cX1_slotOf 17 = .ok (.imul, 1) := by decide +kernel
theorem dX1_slotOf_18 : decode cX1_slotOf 18 = .ok (.aload_n 1, 1) := by decide +kernel
theorem dX1_slotOf_19 : decode cX1_slotOf 19 = .ok (.getfield 304, 3) := by decide +kernel
theorem dX1_slotOf_22 : decode cX1_slotOf 22 = .ok (.iadd, 1) := by decide +kernel
theorem dX1_slotOf_23 : decode cX1_slotOf 23 = .ok (.istore_n 2, 1) := by decide +kernel
theorem dX1_slotOf_24 : decode cX1_slotOf 24 = .ok (.iload_n 2, 1) := by decide +kernel
theorem dX1_slotOf_25 : decode cX1_slotOf 25 = .ok (.ifCond .lt 16, 3) := by decide +kernel
theorem dX1_slotOf_28 : decode cX1_slotOf 28 = .ok (.iload_n 2, 1) := by decide +kernel
theorem dX1_slotOf_29 : decode cX1_slotOf 29 = .ok (.aload_n 0, 1) := by decide +kernel
theorem dX1_slotOf_30 : decode cX1_slotOf 30 = .ok (.getfield 18, 3) := by decide +kernel
theorem dX1_slotOf_33 : decode cX1_slotOf 33 = .ok (.arraylength, 1) := by decide +kernel
theorem dX1_slotOf_34 : decode cX1_slotOf 34 = .ok (.if_icmp .ge 7, 3) := by decide +kernel
theorem dX1_slotOf_37 : decode cX1_slotOf 37 = .ok (.iload_n 2, 1) := by decide +kernel
theorem dX1_slotOf_38 : decode cX1_slotOf 38 = .ok (.goto 4, 3) := by decide +kernel
theorem dX1_slotOf_41 : decode cX1_slotOf 41 = .ok (.iconst (-1), 1) := by decide +kernel
theorem dX1_slotOf_42 : decode cX1_slotOf 42 = .ok (.ireturn, 1) := by decide +kernel
theorem dX1_pointerTo_0 : decode cX1_pointerTo 0 = .ok (.aload_n 1, 1) := by decide +kernel
theorem dX1_pointerTo_1 : decode cX1_pointerTo 1 = .ok (.ifnonnull 7, 3) := by decide +kernel
theorem dX1_pointerTo_4 : decode cX1_pointerTo 4 = .ok (.iconst (-1), 1) := by decide +kernel
theorem dX1_pointerTo_5 : decode cX1_pointerTo 5 = .ok (.goto 8, 3) := by decide +kernel
theorem dX1_pointerTo_8 : decode cX1_pointerTo 8 = .ok (.aload_n 0, 1) := by decide +kernel
theorem dX1_pointerTo_9 : decode cX1_pointerTo 9 = .ok (.aload_n 1, 1) := by decide +kernel
theorem dX1_pointerTo_10 : decode cX1_pointerTo 10 = .ok (.invokevirtual 305, 3) := by decide +kernel
theorem dX1_pointerTo_13 : decode cX1_pointerTo 13 = .ok (.istore_n 2, 1) := by decide +kernel
theorem dX1_pointerTo_14 : decode cX1_pointerTo 14 = .ok (.iload_n 2, 1) := by decide +kernel
theorem dX1_pointerTo_15 : decode cX1_pointerTo 15 = .ok (.iconst (-1), 1) := by decide +kernel
theorem dX1_pointerTo_16 : decode cX1_pointerTo 16 = .ok (.if_icmp .ne 7, 3) := by decide +kernel
theorem dX1_pointerTo_19 : decode cX1_pointerTo 19 = .ok (.lconst 0, 1) := by decide +kernel
theorem dX1_pointerTo_20 : decode cX1_pointerTo 20 = .ok (.goto 16, 3) := by decide +kernel
theorem dX1_pointerTo_23 : decode cX1_pointerTo 23 = .ok (.aload_n 0, 1) := by decide +kernel
theorem dX1_pointerTo_24 : decode cX1_pointerTo 24 = .ok (.getfield 12, 3) := by decide +kernel
theorem dX1_pointerTo_27 : decode cX1_pointerTo 27 = .ok (.aload_n 0, 1) := by decide +kernel
theorem dX1_pointerTo_28 : decode cX1_pointerTo 28 = .ok (.getfield 18, 3) := by decide +kernel
theorem dX1_pointerTo_31 : decode cX1_pointerTo 31 = .ok (.iload_n 2, 1) := by decide +kernel
theorem dX1_pointerTo_32 : decode cX1_pointerTo 32 = .ok (.iaload, 1) := by decide +kernel
theorem dX1_pointerTo_33 : decode cX1_pointerTo 33 = .ok (.invokevirtual 309, 3) := by decide +kernel
theorem dX1_pointerTo_36 : decode cX1_pointerTo 36 = .ok (.lreturn, 1) := by decide +kernel
theorem dX1_bring_0 : decode cX1_bring 0 = .ok (.aload_n 1, 1) := by decide +kernel
theorem dX1_bring_1 : decode cX1_bring 1 = .ok (.ifnonnull 7, 3) := by decide +kernel
theorem dX1_bring_4 : decode cX1_bring 4 = .ok (.iconst (-1), 1) := by decide +kernel
theorem dX1_bring_5 : decode cX1_bring 5 = .ok (.goto 8, 3) := by decide +kernel
theorem dX1_bring_8 : decode cX1_bring 8 = .ok (.aload_n 0, 1) := by decide +kernel
theorem dX1_bring_9 : decode cX1_bring 9 = .ok (.aload_n 1, 1) := by decide +kernel
theorem dX1_bring_10 : decode cX1_bring 10 = .ok (.invokevirtual 305, 3) := by decide +kernel
theorem dX1_bring_13 : decode cX1_bring 13 = .ok (.istore_n 2, 1) := by decide +kernel
theorem dX1_bring_14 : decode cX1_bring 14 = .ok (.iload_n 2, 1) := by decide +kernel
theorem dX1_bring_15 : decode cX1_bring 15 = .ok (.iconst (-1), 1) := by decide +kernel
theorem dX1_bring_16 : decode cX1_bring 16 = .ok (.if_icmp .eq 33, 3) := by decide +kernel
theorem dX1_bring_19 : decode cX1_bring 19 = .ok (.aload_n 0, 1) := by decide +kernel
theorem dX1_bring_20 : decode cX1_bring 20 = .ok (.getfield 12, 3) := by decide +kernel
theorem dX1_bring_23 : decode cX1_bring 23 = .ok (.aload_n 0, 1) := by decide +kernel
theorem dX1_bring_24 : decode cX1_bring 24 = .ok (.getfield 18, 3) := by decide +kernel
theorem dX1_bring_27 : decode cX1_bring 27 = .ok (.iload_n 2, 1) := by decide +kernel
theorem dX1_bring_28 : decode cX1_bring 28 = .ok (.iaload, 1) := by decide +kernel
theorem dX1_bring_29 : decode cX1_bring 29 = .ok (.invokevirtual 312, 3) := by decide +kernel
theorem dX1_bring_32 : decode cX1_bring 32 = .ok (.aload_n 0, 1) := by decide +kernel
theorem dX1_bring_33 : decode cX1_bring 33 = .ok (.getfield 18, 3) := by decide +kernel
theorem dX1_bring_36 : decode cX1_bring 36 = .ok (.iload_n 2, 1) := by decide +kernel
theorem dX1_bring_37 : decode cX1_bring 37 = .ok (.aload_n 0, 1) := by decide +kernel
theorem dX1_bring_38 : decode cX1_bring 38 = .ok (.getfield 12, 3) := by decide +kernel
theorem dX1_bring_41 : decode cX1_bring 41 = .ok (.aload_n 1, 1) := by decide +kernel
theorem dX1_bring_42 : decode cX1_bring 42 = .ok (.invokevirtual 315, 3) := by decide +kernel
theorem dX1_bring_45 : decode cX1_bring 45 = .ok (.invokevirtual 318, 3) := by decide +kernel
theorem dX1_bring_48 : decode cX1_bring 48 = .ok (.iastore, 1) := by decide +kernel
theorem dX1_bring_49 : decode cX1_bring 49 = .ok (.return_, 1) := by decide +kernel
theorem dX1_bringWith_0 : decode cX1_bringWith 0 = .ok (.aload_n 1, 1) := by decide +kernel
theorem dX1_bringWith_1 : decode cX1_bringWith 1 = .ok (.ifnull 28, 3) := by decide +kernel
theorem dX1_bringWith_4 : decode cX1_bringWith 4 = .ok (.aload_n 0, 1) := by decide +kernel
theorem dX1_bringWith_5 : decode cX1_bringWith 5 = .ok (.aload_n 1, 1) := by decide +kernel
theorem dX1_bringWith_6 : decode cX1_bringWith 6 = .ok (.invokevirtual 59, 3) := by decide +kernel
theorem dX1_bringWith_9 : decode cX1_bringWith 9 = .ok (.aload_n 0, 1) := by decide +kernel
theorem dX1_bringWith_10 : decode cX1_bringWith 10 = .ok (.getfield 12, 3) := by decide +kernel
theorem dX1_bringWith_13 : decode cX1_bringWith 13 = .ok (.aload_n 0, 1) := by decide +kernel
theorem dX1_bringWith_14 : decode cX1_bringWith 14 = .ok (.aload_n 1, 1) := by decide +kernel
theorem dX1_bringWith_15 : decode cX1_bringWith 15 = .ok (.invokevirtual 230, 3) := by decide +kernel
theorem dX1_bringWith_18 : decode cX1_bringWith 18 = .ok (.lload_n 2, 1) := by decide +kernel
theorem dX1_bringWith_19 : decode cX1_bringWith 19 = .ok (.aload_n 1, 1) := by decide +kernel
theorem dX1_bringWith_20 : decode cX1_bringWith 20 = .ok (.getfield 322, 3) := by decide +kernel
theorem dX1_bringWith_23 : decode cX1_bringWith 23 = .ok (.invokestatic 247, 3) := by decide +kernel
theorem dX1_bringWith_26 : decode cX1_bringWith 26 = .ok (.invokevirtual 301, 3) := by decide +kernel
theorem dX1_bringWith_29 : decode cX1_bringWith 29 = .ok (.return_, 1) := by decide +kernel
theorem dX1_print_0 : decode cX1_print 0 = .ok (.aload_n 0, 1) := by decide +kernel
theorem dX1_print_1 : decode cX1_print 1 = .ok (.invokevirtual 71, 3) := by decide +kernel
theorem dX1_print_4 : decode cX1_print 4 = .ok (.ifCond .eq 4, 3) := by decide +kernel
theorem dX1_print_7 : decode cX1_print 7 = .ok (.return_, 1) := by decide +kernel
theorem dX1_print_8 : decode cX1_print 8 = .ok (.lload_n 1, 1) := by decide +kernel
theorem dX1_print_9 : decode cX1_print 9 = .ok (.lconst 0, 1) := by decide +kernel
theorem dX1_print_10 : decode cX1_print 10 = .ok (.lcmp, 1) := by decide +kernel
theorem dX1_print_11 : decode cX1_print 11 = .ok (.ifCond .ge 12, 3) := by decide +kernel
theorem dX1_print_14 : decode cX1_print 14 = .ok (.aload_n 0, 1) := by decide +kernel
theorem dX1_print_15 : decode cX1_print 15 = .ok (.getfield 30, 3) := by decide +kernel
theorem dX1_print_18 : decode cX1_print 18 = .ok (.bipush 45, 2) := by decide +kernel
theorem dX1_print_20 : decode cX1_print 20 = .ok (.invokevirtual 323, 3) := by decide +kernel
theorem dX1_print_23 : decode cX1_print 23 = .ok (.lload_n 1, 1) := by decide +kernel
theorem dX1_print_24 : decode cX1_print 24 = .ok (.invokestatic 326, 3) := by decide +kernel
theorem dX1_print_27 : decode cX1_print 27 = .ok (.lstore_n 3, 1) := by decide +kernel
theorem dX1_print_28 : decode cX1_print 28 = .ok (.iconst 0, 1) := by decide +kernel
theorem dX1_print_29 : decode cX1_print 29 = .ok (.istore 5, 2) := by decide +kernel
theorem dX1_print_31 : decode cX1_print 31 = .ok (.ldc2_w 331, 3) := by decide +kernel
theorem dX1_print_34 : decode cX1_print 34 = .ok (.lstore 6, 2) := by decide +kernel
theorem dX1_print_36 : decode cX1_print 36 = .ok (.lload 6, 2) := by decide +kernel
theorem dX1_print_38 : decode cX1_print 38 = .ok (.lconst 0, 1) := by decide +kernel
theorem dX1_print_39 : decode cX1_print 39 = .ok (.lcmp, 1) := by decide +kernel
theorem dX1_print_40 : decode cX1_print 40 = .ok (.ifCond .le 67, 3) := by decide +kernel
theorem dX1_print_43 : decode cX1_print 43 = .ok (.lload_n 3, 1) := by decide +kernel
theorem dX1_print_44 : decode cX1_print 44 = .ok (.lload 6, 2) := by decide +kernel
theorem dX1_print_46 : decode cX1_print 46 = .ok (.ldiv, 1) := by decide +kernel
theorem dX1_print_47 : decode cX1_print 47 = .ok (.ldc2_w 333, 3) := by decide +kernel
theorem dX1_print_50 : decode cX1_print 50 = .ok (.lrem, 1) := by decide +kernel
theorem dX1_print_51 : decode cX1_print 51 = .ok (.l2i, 1) := by decide +kernel
theorem dX1_print_52 : decode cX1_print 52 = .ok (.istore 8, 2) := by decide +kernel
theorem dX1_print_54 : decode cX1_print 54 = .ok (.iload 5, 2) := by decide +kernel
theorem dX1_print_56 : decode cX1_print 56 = .ok (.ifCond .ne 15, 3) := by decide +kernel
theorem dX1_print_59 : decode cX1_print 59 = .ok (.iload 8, 2) := by decide +kernel
theorem dX1_print_61 : decode cX1_print 61 = .ok (.ifCond .ne 10, 3) := by decide +kernel
theorem dX1_print_64 : decode cX1_print 64 = .ok (.lload 6, 2) := by decide +kernel
theorem dX1_print_66 : decode cX1_print 66 = .ok (.lconst 1, 1) := by decide +kernel
theorem dX1_print_67 : decode cX1_print 67 = .ok (.lcmp, 1) := by decide +kernel
theorem dX1_print_68 : decode cX1_print 68 = .ok (.ifCond .ne 7, 3) := by decide +kernel
theorem dX1_print_71 : decode cX1_print 71 = .ok (.iconst 1, 1) := by decide +kernel
theorem dX1_print_72 : decode cX1_print 72 = .ok (.goto 4, 3) := by decide +kernel
theorem dX1_print_75 : decode cX1_print 75 = .ok (.iconst 0, 1) := by decide +kernel
theorem dX1_print_76 : decode cX1_print 76 = .ok (.istore 5, 2) := by decide +kernel
theorem dX1_print_78 : decode cX1_print 78 = .ok (.iload 5, 2) := by decide +kernel
theorem dX1_print_80 : decode cX1_print 80 = .ok (.ifCond .eq 16, 3) := by decide +kernel
theorem dX1_print_83 : decode cX1_print 83 = .ok (.aload_n 0, 1) := by decide +kernel
theorem dX1_print_84 : decode cX1_print 84 = .ok (.getfield 30, 3) := by decide +kernel
theorem dX1_print_87 : decode cX1_print 87 = .ok (.bipush 48, 2) := by decide +kernel
theorem dX1_print_89 : decode cX1_print 89 = .ok (.iload 8, 2) := by decide +kernel
theorem dX1_print_91 : decode cX1_print 91 = .ok (.iadd, 1) := by decide +kernel
theorem dX1_print_92 : decode cX1_print 92 = .ok (.i2c, 1) := by decide +kernel
theorem dX1_print_93 : decode cX1_print 93 = .ok (.invokevirtual 323, 3) := by decide +kernel
theorem dX1_print_96 : decode cX1_print 96 = .ok (.lload 6, 2) := by decide +kernel
theorem dX1_print_98 : decode cX1_print 98 = .ok (.ldc2_w 333, 3) := by decide +kernel
theorem dX1_print_101 : decode cX1_print 101 = .ok (.ldiv, 1) := by decide +kernel
theorem dX1_print_102 : decode cX1_print 102 = .ok (.lstore 6, 2) := by decide +kernel
theorem dX1_print_104 : decode cX1_print 104 = .ok (.goto (-68), 3) := by decide +kernel
theorem dX1_print_107 : decode cX1_print 107 = .ok (.aload_n 0, 1) := by decide +kernel
theorem dX1_print_108 : decode cX1_print 108 = .ok (.getfield 30, 3) := by decide +kernel
theorem dX1_print_111 : decode cX1_print 111 = .ok (.bipush 32, 2) := by decide +kernel
theorem dX1_print_113 : decode cX1_print 113 = .ok (.invokevirtual 323, 3) := by decide +kernel
theorem dX1_print_116 : decode cX1_print 116 = .ok (.return_, 1) := by decide +kernel
theorem dX2_init_0 : decode cX2_init 0 = .ok (.aload_n 0, 1) := by decide +kernel
theorem dX2_init_1 : decode cX2_init 1 = .ok (.invokespecial 5, 3) := by decide +kernel
theorem dX2_init_4 : decode cX2_init 4 = .ok (.aload_n 0, 1) := by decide +kernel
theorem dX2_init_5 : decode cX2_init 5 = .ok (.sipush 192, 3) := by decide +kernel
theorem dX2_init_8 : decode cX2_init 8 = .ok (.newarray .int, 2) := by decide +kernel
theorem dX2_init_10 : decode cX2_init 10 = .ok (.putfield 11, 3) := by decide +kernel
theorem dX2_init_13 : decode cX2_init 13 = .ok (.aload_n 0, 1) := by decide +kernel
theorem dX2_init_14 : decode cX2_init 14 = .ok (.sipush 192, 3) := by decide +kernel
theorem dX2_init_17 : decode cX2_init 17 = .ok (.newarray .int, 2) := by decide +kernel
theorem dX2_init_19 : decode cX2_init 19 = .ok (.putfield 15, 3) := by decide +kernel
theorem dX2_init_22 : decode cX2_init 22 = .ok (.aload_n 0, 1) := by decide +kernel
theorem dX2_init_23 : decode cX2_init 23 = .ok (.sipush 192, 3) := by decide +kernel
theorem dX2_init_26 : decode cX2_init 26 = .ok (.newarray .boolean, 2) := by decide +kernel
theorem dX2_init_28 : decode cX2_init 28 = .ok (.putfield 18, 3) := by decide +kernel
theorem dX2_init_31 : decode cX2_init 31 = .ok (.aload_n 0, 1) := by decide +kernel
theorem dX2_init_32 : decode cX2_init 32 = .ok (.sipush 1728, 3) := by decide +kernel
theorem dX2_init_35 : decode cX2_init 35 = .ok (.newarray .int, 2) := by decide +kernel
theorem dX2_init_37 : decode cX2_init 37 = .ok (.putfield 22, 3) := by decide +kernel
theorem dX2_init_40 : decode cX2_init 40 = .ok (.aload_n 0, 1) := by decide +kernel
theorem dX2_init_41 : decode cX2_init 41 = .ok (.sipush 1728, 3) := by decide +kernel
theorem dX2_init_44 : decode cX2_init 44 = .ok (.newarray .long, 2) := by decide +kernel
theorem dX2_init_46 : decode cX2_init 46 = .ok (.putfield 25, 3) := by decide +kernel
theorem dX2_init_49 : decode cX2_init 49 = .ok (.aload_n 0, 1) := by decide +kernel
theorem dX2_init_50 : decode cX2_init 50 = .ok (.sipush 1728, 3) := by decide +kernel
theorem dX2_init_53 : decode cX2_init 53 = .ok (.newarray .boolean, 2) := by decide +kernel
theorem dX2_init_55 : decode cX2_init 55 = .ok (.putfield 29, 3) := by decide +kernel
theorem dX2_init_58 : decode cX2_init 58 = .ok (.aload_n 0, 1) := by decide +kernel
theorem dX2_init_59 : decode cX2_init 59 = .ok (.sipush 600, 3) := by decide +kernel
theorem dX2_init_62 : decode cX2_init 62 = .ok (.newarray .int, 2) := by decide +kernel
theorem dX2_init_64 : decode cX2_init 64 = .ok (.putfield 32, 3) := by decide +kernel
theorem dX2_init_67 : decode cX2_init 67 = .ok (.aload_n 0, 1) := by decide +kernel
theorem dX2_init_68 : decode cX2_init 68 = .ok (.sipush 600, 3) := by decide +kernel
theorem dX2_init_71 : decode cX2_init 71 = .ok (.newarray .boolean, 2) := by decide +kernel
theorem dX2_init_73 : decode cX2_init 73 = .ok (.putfield 35, 3) := by decide +kernel
theorem dX2_init_76 : decode cX2_init 76 = .ok (.return_, 1) := by decide +kernel
theorem dX2_clear_0 : decode cX2_clear 0 = .ok (.aload_n 0, 1) := by decide +kernel
theorem dX2_clear_1 : decode cX2_clear 1 = .ok (.iconst 0, 1) := by decide +kernel
theorem dX2_clear_2 : decode cX2_clear 2 = .ok (.putfield 38, 3) := by decide +kernel
theorem dX2_clear_5 : decode cX2_clear 5 = .ok (.aload_n 0, 1) := by decide +kernel
theorem dX2_clear_6 : decode cX2_clear 6 = .ok (.iconst 0, 1) := by decide +kernel
theorem dX2_clear_7 : decode cX2_clear 7 = .ok (.putfield 42, 3) := by decide +kernel
theorem dX2_clear_10 : decode cX2_clear 10 = .ok (.aload_n 0, 1) := by decide +kernel
theorem dX2_clear_11 : decode cX2_clear 11 = .ok (.iconst 0, 1) := by decide +kernel
theorem dX2_clear_12 : decode cX2_clear 12 = .ok (.putfield 45, 3) := by decide +kernel
theorem dX2_clear_15 : decode cX2_clear 15 = .ok (.return_, 1) := by decide +kernel
theorem dX2_lives_0 : decode cX2_lives 0 = .ok (.aload_n 0, 1) := by decide +kernel
theorem dX2_lives_1 : decode cX2_lives 1 = .ok (.getfield 38, 3) := by decide +kernel
theorem dX2_lives_4 : decode cX2_lives 4 = .ok (.ireturn, 1) := by decide +kernel
theorem dX2_bear_0 : decode cX2_bear 0 = .ok (.aload_n 0, 1) := by decide +kernel
theorem dX2_bear_1 : decode cX2_bear 1 = .ok (.getfield 38, 3) := by decide +kernel
theorem dX2_bear_4 : decode cX2_bear 4 = .ok (.sipush 192, 3) := by decide +kernel
theorem dX2_bear_7 : decode cX2_bear 7 = .ok (.if_icmp .ge 19, 3) := by decide +kernel
theorem dX2_bear_10 : decode cX2_bear 10 = .ok (.iload_n 1, 1) := by decide +kernel
theorem dX2_bear_11 : decode cX2_bear 11 = .ok (.ifCond .lt 15, 3) := by decide +kernel
theorem dX2_bear_14 : decode cX2_bear 14 = .ok (.iload_n 1, 1) := by decide +kernel
theorem dX2_bear_15 : decode cX2_bear 15 = .ok (.sipush 1728, 3) := by decide +kernel
theorem dX2_bear_18 : decode cX2_bear 18 = .ok (.aload_n 0, 1) := by decide +kernel
theorem dX2_bear_19 : decode cX2_bear 19 = .ok (.getfield 42, 3) := by decide +kernel
theorem dX2_bear_22 : decode cX2_bear 22 = .ok (.isub, 1) := by decide +kernel
theorem dX2_bear_23 : decode cX2_bear 23 = .ok (.if_icmp .lt 5, 3) := by decide +kernel
theorem dX2_bear_26 : decode cX2_bear 26 = .ok (.iconst (-1), 1) := by decide +kernel
theorem dX2_bear_27 : decode cX2_bear 27 = .ok (.ireturn, 1) := by decide +kernel
theorem dX2_bear_28 : decode cX2_bear 28 = .ok (.aload_n 0, 1) := by decide +kernel
theorem dX2_bear_29 : decode cX2_bear 29 = .ok (.getfield 11, 3) := by decide +kernel
theorem dX2_bear_32 : decode cX2_bear 32 = .ok (.aload_n 0, 1) := by decide +kernel
theorem dX2_bear_33 : decode cX2_bear 33 = .ok (.getfield 38, 3) := by decide +kernel
theorem dX2_bear_36 : decode cX2_bear 36 = .ok (.aload_n 0, 1) := by decide +kernel
theorem dX2_bear_37 : decode cX2_bear 37 = .ok (.getfield 42, 3) := by decide +kernel
theorem dX2_bear_40 : decode cX2_bear 40 = .ok (.iastore, 1) := by decide +kernel
theorem dX2_bear_41 : decode cX2_bear 41 = .ok (.aload_n 0, 1) := by decide +kernel
theorem dX2_bear_42 : decode cX2_bear 42 = .ok (.getfield 15, 3) := by decide +kernel
theorem dX2_bear_45 : decode cX2_bear 45 = .ok (.aload_n 0, 1) := by decide +kernel
theorem dX2_bear_46 : decode cX2_bear 46 = .ok (.getfield 38, 3) := by decide +kernel
theorem dX2_bear_49 : decode cX2_bear 49 = .ok (.aload_n 0, 1) := by decide +kernel
theorem dX2_bear_50 : decode cX2_bear 50 = .ok (.getfield 42, 3) := by decide +kernel
theorem dX2_bear_53 : decode cX2_bear 53 = .ok (.iload_n 1, 1) := by decide +kernel
theorem dX2_bear_54 : decode cX2_bear 54 = .ok (.iadd, 1) := by decide +kernel
theorem dX2_bear_55 : decode cX2_bear 55 = .ok (.iastore, 1) := by decide +kernel
theorem dX2_bear_56 : decode cX2_bear 56 = .ok (.aload_n 0, 1) := by decide +kernel
theorem dX2_bear_57 : decode cX2_bear 57 = .ok (.getfield 18, 3) := by decide +kernel
theorem dX2_bear_60 : decode cX2_bear 60 = .ok (.aload_n 0, 1) := by decide +kernel
theorem dX2_bear_61 : decode cX2_bear 61 = .ok (.getfield 38, 3) := by decide +kernel
theorem dX2_bear_64 : decode cX2_bear 64 = .ok (.iconst 1, 1) := by decide +kernel
theorem dX2_bear_65 : decode cX2_bear 65 = .ok (.bastore, 1) := by decide +kernel
theorem dX2_bear_66 : decode cX2_bear 66 = .ok (.iconst 0, 1) := by decide +kernel
theorem dX2_bear_67 : decode cX2_bear 67 = .ok (.istore_n 2, 1) := by decide +kernel
theorem dX2_bear_68 : decode cX2_bear 68 = .ok (.iload_n 2, 1) := by decide +kernel
theorem dX2_bear_69 : decode cX2_bear 69 = .ok (.iload_n 1, 1) := by decide +kernel
theorem dX2_bear_70 : decode cX2_bear 70 = .ok (.if_icmp .gt 42, 3) := by decide +kernel
theorem dX2_bear_73 : decode cX2_bear 73 = .ok (.aload_n 0, 1) := by decide +kernel
theorem dX2_bear_74 : decode cX2_bear 74 = .ok (.getfield 22, 3) := by decide +kernel
theorem dX2_bear_77 : decode cX2_bear 77 = .ok (.aload_n 0, 1) := by decide +kernel
theorem dX2_bear_78 : decode cX2_bear 78 = .ok (.getfield 42, 3) := by decide +kernel
theorem dX2_bear_81 : decode cX2_bear 81 = .ok (.aload_n 0, 1) := by decide +kernel
theorem dX2_bear_82 : decode cX2_bear 82 = .ok (.getfield 38, 3) := by decide +kernel
theorem dX2_bear_85 : decode cX2_bear 85 = .ok (.iastore, 1) := by decide +kernel
theorem dX2_bear_86 : decode cX2_bear 86 = .ok (.aload_n 0, 1) := by decide +kernel
theorem dX2_bear_87 : decode cX2_bear 87 = .ok (.getfield 29, 3) := by decide +kernel
theorem dX2_bear_90 : decode cX2_bear 90 = .ok (.aload_n 0, 1) := by decide +kernel
theorem dX2_bear_91 : decode cX2_bear 91 = .ok (.getfield 42, 3) := by decide +kernel
theorem dX2_bear_94 : decode cX2_bear 94 = .ok (.iconst 0, 1) := by decide +kernel
theorem dX2_bear_95 : decode cX2_bear 95 = .ok (.bastore, 1) := by decide +kernel
theorem dX2_bear_96 : decode cX2_bear 96 = .ok (.aload_n 0, 1) := by decide +kernel
theorem dX2_bear_97 : decode cX2_bear 97 = .ok (.dup, 1) := by decide +kernel
theorem dX2_bear_98 : decode cX2_bear 98 = .ok (.getfield 42, 3) := by decide +kernel
theorem dX2_bear_101 : decode cX2_bear 101 = .ok (.iconst 1, 1) := by decide +kernel
theorem dX2_bear_102 : decode cX2_bear 102 = .ok (.iadd, 1) := by decide +kernel
theorem dX2_bear_103 : decode cX2_bear 103 = .ok (.putfield 42, 3) := by decide +kernel
theorem dX2_bear_106 : decode cX2_bear 106 = .ok (.iinc 2 1, 3) := by decide +kernel
theorem dX2_bear_109 : decode cX2_bear 109 = .ok (.goto (-41), 3) := by decide +kernel
theorem dX2_bear_112 : decode cX2_bear 112 = .ok (.aload_n 0, 1) := by decide +kernel
theorem dX2_bear_113 : decode cX2_bear 113 = .ok (.dup, 1) := by decide +kernel
theorem dX2_bear_114 : decode cX2_bear 114 = .ok (.getfield 38, 3) := by decide +kernel
theorem dX2_bear_117 : decode cX2_bear 117 = .ok (.dup_x1, 1) := by decide +kernel
theorem dX2_bear_118 : decode cX2_bear 118 = .ok (.iconst 1, 1) := by decide +kernel
theorem dX2_bear_119 : decode cX2_bear 119 = .ok (.iadd, 1) := by decide +kernel
theorem dX2_bear_120 : decode cX2_bear 120 = .ok (.putfield 38, 3) := by decide +kernel
theorem dX2_bear_123 : decode cX2_bear 123 = .ok (.ireturn, 1) := by decide +kernel
theorem dX2_end_0 : decode cX2_end 0 = .ok (.iload_n 1, 1) := by decide +kernel
theorem dX2_end_1 : decode cX2_end 1 = .ok (.ifCond .lt 18, 3) := by decide +kernel
theorem dX2_end_4 : decode cX2_end 4 = .ok (.iload_n 1, 1) := by decide +kernel
theorem dX2_end_5 : decode cX2_end 5 = .ok (.aload_n 0, 1) := by decide +kernel
theorem dX2_end_6 : decode cX2_end 6 = .ok (.getfield 38, 3) := by decide +kernel
theorem dX2_end_9 : decode cX2_end 9 = .ok (.if_icmp .ge 10, 3) := by decide +kernel
theorem dX2_end_12 : decode cX2_end 12 = .ok (.aload_n 0, 1) := by decide +kernel
theorem dX2_end_13 : decode cX2_end 13 = .ok (.getfield 18, 3) := by decide +kernel
theorem dX2_end_16 : decode cX2_end 16 = .ok (.iload_n 1, 1) := by decide +kernel
theorem dX2_end_17 : decode cX2_end 17 = .ok (.iconst 0, 1) := by decide +kernel
theorem dX2_end_18 : decode cX2_end 18 = .ok (.bastore, 1) := by decide +kernel
theorem dX2_end_19 : decode cX2_end 19 = .ok (.return_, 1) := by decide +kernel
theorem dX2_endSince_0 : decode cX2_endSince 0 = .ok (.iload_n 1, 1) := by decide +kernel
theorem dX2_endSince_1 : decode cX2_endSince 1 = .ok (.iconst 0, 1) := by decide +kernel
theorem dX2_endSince_2 : decode cX2_endSince 2 = .ok (.invokestatic 48, 3) := by decide +kernel
theorem dX2_endSince_5 : decode cX2_endSince 5 = .ok (.istore_n 2, 1) := by decide +kernel
theorem dX2_endSince_6 : decode cX2_endSince 6 = .ok (.iload_n 2, 1) := by decide +kernel
theorem dX2_endSince_7 : decode cX2_endSince 7 = .ok (.aload_n 0, 1) := by decide +kernel
theorem dX2_endSince_8 : decode cX2_endSince 8 = .ok (.getfield 38, 3) := by decide +kernel
theorem dX2_endSince_11 : decode cX2_endSince 11 = .ok (.if_icmp .ge 16, 3) := by decide +kernel
theorem dX2_endSince_14 : decode cX2_endSince 14 = .ok (.aload_n 0, 1) := by decide +kernel
theorem dX2_endSince_15 : decode cX2_endSince 15 = .ok (.getfield 18, 3) := by decide +kernel
theorem dX2_endSince_18 : decode cX2_endSince 18 = .ok (.iload_n 2, 1) := by decide +kernel
theorem dX2_endSince_19 : decode cX2_endSince 19 = .ok (.iconst 0, 1) := by decide +kernel
theorem dX2_endSince_20 : decode cX2_endSince 20 = .ok (.bastore, 1) := by decide +kernel
theorem dX2_endSince_21 : decode cX2_endSince 21 = .ok (.iinc 2 1, 3) := by decide +kernel
theorem dX2_endSince_24 : decode cX2_endSince 24 = .ok (.goto (-18), 3) := by decide +kernel
theorem dX2_endSince_27 : decode cX2_endSince 27 = .ok (.return_, 1) := by decide +kernel
theorem dX2_isCell_0 : decode cX2_isCell 0 = .ok (.lload_n 1, 1) := by decide +kernel
theorem dX2_isCell_1 : decode cX2_isCell 1 = .ok (.lconst 0, 1) := by decide +kernel
theorem dX2_isCell_2 : decode cX2_isCell 2 = .ok (.lcmp, 1) := by decide +kernel
theorem dX2_isCell_3 : decode cX2_isCell 3 = .ok (.ifCond .lt 17, 3) := by decide +kernel
theorem dX2_isCell_6 : decode cX2_isCell 6 = .ok (.lload_n 1, 1) := by decide +kernel
theorem dX2_isCell_7 : decode cX2_isCell 7 = .ok (.aload_n 0, 1) := by decide +kernel
theorem dX2_isCell_8 : decode cX2_isCell 8 = .ok (.getfield 42, 3) := by decide +kernel
theorem dX2_isCell_11 : decode cX2_isCell 11 = .ok (.i2l, 1) := by decide +kernel
theorem dX2_isCell_12 : decode cX2_isCell 12 = .ok (.lcmp, 1) := by decide +kernel
theorem dX2_isCell_13 : decode cX2_isCell 13 = .ok (.ifCond .ge 7, 3) := by decide +kernel
theorem dX2_isCell_16 : decode cX2_isCell 16 = .ok (.iconst 1, 1) := by decide +kernel
theorem dX2_isCell_17 : decode cX2_isCell 17 = .ok (.goto 4, 3) := by decide +kernel
theorem dX2_isCell_20 : decode cX2_isCell 20 = .ok (.iconst 0, 1) := by decide +kernel
theorem dX2_isCell_21 : decode cX2_isCell 21 = .ok (.ireturn, 1) := by decide +kernel
theorem dX2_pointerTo_0 : decode cX2_pointerTo 0 = .ok (.iload_n 1, 1) := by decide +kernel
theorem dX2_pointerTo_1 : decode cX2_pointerTo 1 = .ok (.ifCond .lt 23, 3) := by decide +kernel
theorem dX2_pointerTo_4 : decode cX2_pointerTo 4 = .ok (.iload_n 1, 1) := by decide +kernel
theorem dX2_pointerTo_5 : decode cX2_pointerTo 5 = .ok (.aload_n 0, 1) := by decide +kernel
theorem dX2_pointerTo_6 : decode cX2_pointerTo 6 = .ok (.getfield 38, 3) := by decide +kernel
theorem dX2_pointerTo_9 : decode cX2_pointerTo 9 = .ok (.if_icmp .ge 15, 3) := by decide +kernel
theorem dX2_pointerTo_12 : decode cX2_pointerTo 12 = .ok (.aload_n 0, 1) := by decide +kernel
theorem dX2_pointerTo_13 : decode cX2_pointerTo 13 = .ok (.getfield 11, 3) := by decide +kernel
theorem dX2_pointerTo_16 : decode cX2_pointerTo 16 = .ok (.iload_n 1, 1) := by decide +kernel
theorem dX2_pointerTo_17 : decode cX2_pointerTo 17 = .ok (.iaload, 1) := by decide +kernel
theorem dX2_pointerTo_18 : decode cX2_pointerTo 18 = .ok (.iconst 1, 1) := by decide +kernel
theorem dX2_pointerTo_19 : decode cX2_pointerTo 19 = .ok (.iadd, 1) := by decide +kernel
theorem dX2_pointerTo_20 : decode cX2_pointerTo 20 = .ok (.i2l, 1) := by decide +kernel
theorem dX2_pointerTo_21 : decode cX2_pointerTo 21 = .ok (.goto 4, 3) := by decide +kernel
theorem dX2_pointerTo_24 : decode cX2_pointerTo 24 = .ok (.lconst 0, 1) := by decide +kernel
theorem dX2_pointerTo_25 : decode cX2_pointerTo 25 = .ok (.lreturn, 1) := by decide +kernel
theorem dX2_lifeOf_0 : decode cX2_lifeOf 0 = .ok (.lload_n 1, 1) := by decide +kernel
theorem dX2_lifeOf_1 : decode cX2_lifeOf 1 = .ok (.lconst 0, 1) := by decide +kernel
theorem dX2_lifeOf_2 : decode cX2_lifeOf 2 = .ok (.lcmp, 1) := by decide +kernel
theorem dX2_lifeOf_3 : decode cX2_lifeOf 3 = .ok (.ifCond .le 25, 3) := by decide +kernel
theorem dX2_lifeOf_6 : decode cX2_lifeOf 6 = .ok (.lload_n 1, 1) := by decide +kernel
theorem dX2_lifeOf_7 : decode cX2_lifeOf 7 = .ok (.aload_n 0, 1) := by decide +kernel
theorem dX2_lifeOf_8 : decode cX2_lifeOf 8 = .ok (.getfield 42, 3) := by decide +kernel
theorem dX2_lifeOf_11 : decode cX2_lifeOf 11 = .ok (.i2l, 1) := by decide +kernel
theorem dX2_lifeOf_12 : decode cX2_lifeOf 12 = .ok (.lcmp, 1) := by decide +kernel
theorem dX2_lifeOf_13 : decode cX2_lifeOf 13 = .ok (.ifCond .gt 15, 3) := by decide +kernel
theorem dX2_lifeOf_16 : decode cX2_lifeOf 16 = .ok (.aload_n 0, 1) := by decide +kernel
theorem dX2_lifeOf_17 : decode cX2_lifeOf 17 = .ok (.getfield 22, 3) := by decide +kernel
theorem dX2_lifeOf_20 : decode cX2_lifeOf 20 = .ok (.lload_n 1, 1) := by decide +kernel
theorem dX2_lifeOf_21 : decode cX2_lifeOf 21 = .ok (.l2i, 1) := by decide +kernel
theorem dX2_lifeOf_22 : decode cX2_lifeOf 22 = .ok (.iconst 1, 1) := by decide +kernel
theorem dX2_lifeOf_23 : decode cX2_lifeOf 23 = .ok (.isub, 1) := by decide +kernel
theorem dX2_lifeOf_24 : decode cX2_lifeOf 24 = .ok (.iaload, 1) := by decide +kernel
theorem dX2_lifeOf_25 : decode cX2_lifeOf 25 = .ok (.goto 4, 3) := by decide +kernel
theorem dX2_lifeOf_28 : decode cX2_lifeOf 28 = .ok (.iconst (-1), 1) := by decide +kernel
theorem dX2_lifeOf_29 : decode cX2_lifeOf 29 = .ok (.ireturn, 1) := by decide +kernel
theorem dX2_isLiving_0 : decode cX2_isLiving 0 = .ok (.aload_n 0, 1) := by decide +kernel
theorem dX2_isLiving_1 : decode cX2_isLiving 1 = .ok (.lload_n 1, 1) := by decide +kernel
theorem dX2_isLiving_2 : decode cX2_isLiving 2 = .ok (.invokevirtual 54, 3) := by decide +kernel
theorem dX2_isLiving_5 : decode cX2_isLiving 5 = .ok (.istore_n 3, 1) := by decide +kernel
theorem dX2_isLiving_6 : decode cX2_isLiving 6 = .ok (.iload_n 3, 1) := by decide +kernel
theorem dX2_isLiving_7 : decode cX2_isLiving 7 = .ok (.ifCond .lt 24, 3) := by decide +kernel
theorem dX2_isLiving_10 : decode cX2_isLiving 10 = .ok (.iload_n 3, 1) := by decide +kernel
theorem dX2_isLiving_11 : decode cX2_isLiving 11 = .ok (.aload_n 0, 1) := by decide +kernel
theorem dX2_isLiving_12 : decode cX2_isLiving 12 = .ok (.getfield 38, 3) := by decide +kernel
theorem dX2_isLiving_15 : decode cX2_isLiving 15 = .ok (.if_icmp .ge 16, 3) := by decide +kernel
theorem dX2_isLiving_18 : decode cX2_isLiving 18 = .ok (.aload_n 0, 1) := by decide +kernel
theorem dX2_isLiving_19 : decode cX2_isLiving 19 = .ok (.getfield 18, 3) := by decide +kernel
theorem dX2_isLiving_22 : decode cX2_isLiving 22 = .ok (.iload_n 3, 1) := by decide +kernel
theorem dX2_isLiving_23 : decode cX2_isLiving 23 = .ok (.baload, 1) := by decide +kernel
theorem dX2_isLiving_24 : decode cX2_isLiving 24 = .ok (.ifCond .eq 7, 3) := by decide +kernel
theorem dX2_isLiving_27 : decode cX2_isLiving 27 = .ok (.iconst 1, 1) := by decide +kernel
theorem dX2_isLiving_28 : decode cX2_isLiving 28 = .ok (.goto 4, 3) := by decide +kernel
theorem dX2_isLiving_31 : decode cX2_isLiving 31 = .ok (.iconst 0, 1) := by decide +kernel
theorem dX2_isLiving_32 : decode cX2_isLiving 32 = .ok (.ireturn, 1) := by decide +kernel
theorem dX2_faultOfUsing_0 : decode cX2_faultOfUsing 0 = .ok (.aload_n 0, 1) := by decide +kernel
theorem dX2_faultOfUsing_1 : decode cX2_faultOfUsing 1 = .ok (.lload_n 1, 1) := by decide +kernel
theorem dX2_faultOfUsing_2 : decode cX2_faultOfUsing 2 = .ok (.invokevirtual 54, 3) := by decide +kernel
theorem dX2_faultOfUsing_5 : decode cX2_faultOfUsing 5 = .ok (.istore 4, 2) := by decide +kernel
theorem dX2_faultOfUsing_7 : decode cX2_faultOfUsing 7 = .ok (.iload 4, 2) := by decide +kernel
theorem dX2_faultOfUsing_9 : decode cX2_faultOfUsing 9 = .ok (.ifCond .lt 22, 3) := by decide +kernel
theorem dX2_faultOfUsing_12 : decode cX2_faultOfUsing 12 = .ok (.iload 4, 2) := by decide +kernel
theorem dX2_faultOfUsing_14 : decode cX2_faultOfUsing 14 = .ok (.aload_n 0, 1) := by decide +kernel
theorem dX2_faultOfUsing_15 : decode cX2_faultOfUsing 15 = .ok (.getfield 38, 3) := by decide +kernel
theorem dX2_faultOfUsing_18 : decode cX2_faultOfUsing 18 = .ok (.if_icmp .ge 13, 3) := by decide +kernel
theorem dX2_faultOfUsing_21 : decode cX2_faultOfUsing 21 = .ok (.aload_n 0, 1) := by decide +kernel
theorem dX2_faultOfUsing_22 : decode cX2_faultOfUsing 22 = .ok (.getfield 18, 3) := by decide +kernel
theorem dX2_faultOfUsing_25 : decode cX2_faultOfUsing 25 = .ok (.iload 4, 2) := by decide +kernel
theorem dX2_faultOfUsing_27 : decode cX2_faultOfUsing 27 = .ok (.baload, 1) := by decide +kernel
theorem dX2_faultOfUsing_28 : decode cX2_faultOfUsing 28 = .ok (.ifCond .ne 6, 3) := by decide +kernel
theorem dX2_faultOfUsing_31 : decode cX2_faultOfUsing 31 = .ok (.bipush 100, 2) := by decide +kernel
theorem dX2_faultOfUsing_33 : decode cX2_faultOfUsing 33 = .ok (.ireturn, 1) := by decide +kernel
theorem dX2_faultOfUsing_34 : decode cX2_faultOfUsing 34 = .ok (.lload_n 1, 1) := by decide +kernel
theorem dX2_faultOfUsing_35 : decode cX2_faultOfUsing 35 = .ok (.l2i, 1) := by decide +kernel
theorem dX2_faultOfUsing_36 : decode cX2_faultOfUsing 36 = .ok (.iconst 1, 1) := by decide +kernel
theorem dX2_faultOfUsing_37 : decode cX2_faultOfUsing 37 = .ok (.isub, 1) := by decide +kernel
theorem dX2_faultOfUsing_38 : decode cX2_faultOfUsing 38 = .ok (.istore 5, 2) := by decide +kernel
theorem dX2_faultOfUsing_40 : decode cX2_faultOfUsing 40 = .ok (.iload 5, 2) := by decide +kernel
theorem dX2_faultOfUsing_42 : decode cX2_faultOfUsing 42 = .ok (.ifCond .lt 15, 3) := by decide +kernel
theorem dX2_faultOfUsing_45 : decode cX2_faultOfUsing 45 = .ok (.iload 5, 2) := by decide +kernel
theorem dX2_faultOfUsing_47 : decode cX2_faultOfUsing 47 = .ok (.aload_n 0, 1) := by decide +kernel
theorem dX2_faultOfUsing_48 : decode cX2_faultOfUsing 48 = .ok (.getfield 15, 3) := by decide +kernel
theorem dX2_faultOfUsing_51 : decode cX2_faultOfUsing 51 = .ok (.iload 4, 2) := by decide +kernel
theorem dX2_faultOfUsing_53 : decode cX2_faultOfUsing 53 = .ok (.iaload, 1) := by decide +kernel
theorem dX2_faultOfUsing_54 : decode cX2_faultOfUsing 54 = .ok (.if_icmp .lt 6, 3) := by decide +kernel
theorem dX2_faultOfUsing_57 : decode cX2_faultOfUsing 57 = .ok (.bipush 98, 2) := by decide +kernel
theorem dX2_faultOfUsing_59 : decode cX2_faultOfUsing 59 = .ok (.ireturn, 1) := by decide +kernel
theorem dX2_faultOfUsing_60 : decode cX2_faultOfUsing 60 = .ok (.iload_n 3, 1) := by decide +kernel
theorem dX2_faultOfUsing_61 : decode cX2_faultOfUsing 61 = .ok (.ifCond .eq 18, 3) := by decide +kernel
theorem dX2_faultOfUsing_64 : decode cX2_faultOfUsing 64 = .ok (.aload_n 0, 1) := by decide +kernel
theorem dX2_faultOfUsing_65 : decode cX2_faultOfUsing 65 = .ok (.getfield 29, 3) := by decide +kernel
theorem dX2_faultOfUsing_68 : decode cX2_faultOfUsing 68 = .ok (.iload 5, 2) := by decide +kernel
theorem dX2_faultOfUsing_70 : decode cX2_faultOfUsing 70 = .ok (.baload, 1) := by decide +kernel
theorem dX2_faultOfUsing_71 : decode cX2_faultOfUsing 71 = .ok (.ifCond .ne 8, 3) := by decide +kernel
theorem dX2_faultOfUsing_74 : decode cX2_faultOfUsing 74 = .ok (.bipush 105, 2) := by decide +kernel
theorem dX2_faultOfUsing_76 : decode cX2_faultOfUsing 76 = .ok (.goto 5, 3) := by decide +kernel
theorem dX2_faultOfUsing_79 : decode cX2_faultOfUsing 79 = .ok (.bipush 32, 2) := by decide +kernel
theorem dX2_faultOfUsing_81 : decode cX2_faultOfUsing 81 = .ok (.ireturn, 1) := by decide +kernel
theorem dX2_faultOfMoving_0 : decode cX2_faultOfMoving 0 = .ok (.aload_n 0, 1) := by decide +kernel
theorem dX2_faultOfMoving_1 : decode cX2_faultOfMoving 1 = .ok (.lload_n 1, 1) := by decide +kernel
theorem dX2_faultOfMoving_2 : decode cX2_faultOfMoving 2 = .ok (.invokevirtual 54, 3) := by decide +kernel
theorem dX2_faultOfMoving_5 : decode cX2_faultOfMoving 5 = .ok (.istore 5, 2) := by decide +kernel
theorem dX2_faultOfMoving_7 : decode cX2_faultOfMoving 7 = .ok (.iload 5, 2) := by decide +kernel
theorem dX2_faultOfMoving_9 : decode cX2_faultOfMoving 9 = .ok (.ifCond .lt 22, 3) := by decide +kernel
theorem dX2_faultOfMoving_12 : decode cX2_faultOfMoving 12 = .ok (.iload 5, 2) := by decide +kernel
theorem dX2_faultOfMoving_14 : decode cX2_faultOfMoving 14 = .ok (.aload_n 0, 1) := by decide +kernel
theorem dX2_faultOfMoving_15 : decode cX2_faultOfMoving 15 = .ok (.getfield 38, 3) := by decide +kernel
theorem dX2_faultOfMoving_18 : decode cX2_faultOfMoving 18 = .ok (.if_icmp .ge 13, 3) := by decide +kernel
theorem dX2_faultOfMoving_21 : decode cX2_faultOfMoving 21 = .ok (.aload_n 0, 1) := by decide +kernel
theorem dX2_faultOfMoving_22 : decode cX2_faultOfMoving 22 = .ok (.getfield 18, 3) := by decide +kernel
theorem dX2_faultOfMoving_25 : decode cX2_faultOfMoving 25 = .ok (.iload 5, 2) := by decide +kernel
theorem dX2_faultOfMoving_27 : decode cX2_faultOfMoving 27 = .ok (.baload, 1) := by decide +kernel
theorem dX2_faultOfMoving_28 : decode cX2_faultOfMoving 28 = .ok (.ifCond .ne 6, 3) := by decide +kernel
theorem dX2_faultOfMoving_31 : decode cX2_faultOfMoving 31 = .ok (.bipush 100, 2) := by decide +kernel
theorem dX2_faultOfMoving_33 : decode cX2_faultOfMoving 33 = .ok (.ireturn, 1) := by decide +kernel
theorem dX2_faultOfMoving_34 : decode cX2_faultOfMoving 34 = .ok (.lload_n 1, 1) := by decide +kernel
theorem dX2_faultOfMoving_35 : decode cX2_faultOfMoving 35 = .ok (.lconst 1, 1) := by decide +kernel
theorem dX2_faultOfMoving_36 : decode cX2_faultOfMoving 36 = .ok (.lsub, 1) := by decide +kernel
theorem dX2_faultOfMoving_37 : decode cX2_faultOfMoving 37 = .ok (.lload_n 3, 1) := by decide +kernel
theorem dX2_faultOfMoving_38 : decode cX2_faultOfMoving 38 = .ok (.ladd, 1) := by decide +kernel
theorem dX2_faultOfMoving_39 : decode cX2_faultOfMoving 39 = .ok (.lstore 6, 2) := by decide +kernel
theorem dX2_faultOfMoving_41 : decode cX2_faultOfMoving 41 = .ok (.lload 6, 2) := by decide +kernel
theorem dX2_faultOfMoving_43 : decode cX2_faultOfMoving 43 = .ok (.aload_n 0, 1) := by decide +kernel
theorem dX2_faultOfMoving_44 : decode cX2_faultOfMoving 44 = .ok (.getfield 11, 3) := by decide +kernel
theorem dX2_faultOfMoving_47 : decode cX2_faultOfMoving 47 = .ok (.iload 5, 2) := by decide +kernel
theorem dX2_faultOfMoving_49 : decode cX2_faultOfMoving 49 = .ok (.iaload, 1) := by decide +kernel
theorem dX2_faultOfMoving_50 : decode cX2_faultOfMoving 50 = .ok (.i2l, 1) := by decide +kernel
theorem dX2_faultOfMoving_51 : decode cX2_faultOfMoving 51 = .ok (.lcmp, 1) := by decide +kernel
theorem dX2_faultOfMoving_52 : decode cX2_faultOfMoving 52 = .ok (.ifCond .lt 22, 3) := by decide +kernel
theorem dX2_faultOfMoving_55 : decode cX2_faultOfMoving 55 = .ok (.lload 6, 2) := by decide +kernel
theorem dX2_faultOfMoving_57 : decode cX2_faultOfMoving 57 = .ok (.aload_n 0, 1) := by decide +kernel
theorem dX2_faultOfMoving_58 : decode cX2_faultOfMoving 58 = .ok (.getfield 15, 3) := by decide +kernel
theorem dX2_faultOfMoving_61 : decode cX2_faultOfMoving 61 = .ok (.iload 5, 2) := by decide +kernel
theorem dX2_faultOfMoving_63 : decode cX2_faultOfMoving 63 = .ok (.iaload, 1) := by decide +kernel
theorem dX2_faultOfMoving_64 : decode cX2_faultOfMoving 64 = .ok (.i2l, 1) := by decide +kernel
theorem dX2_faultOfMoving_65 : decode cX2_faultOfMoving 65 = .ok (.lcmp, 1) := by decide +kernel
theorem dX2_faultOfMoving_66 : decode cX2_faultOfMoving 66 = .ok (.ifCond .gt 8, 3) := by decide +kernel
theorem dX2_faultOfMoving_69 : decode cX2_faultOfMoving 69 = .ok (.bipush 32, 2) := by decide +kernel
theorem dX2_faultOfMoving_71 : decode cX2_faultOfMoving 71 = .ok (.goto 5, 3) := by decide +kernel
theorem dX2_faultOfMoving_74 : decode cX2_faultOfMoving 74 = .ok (.bipush 98, 2) := by decide +kernel
theorem dX2_faultOfMoving_76 : decode cX2_faultOfMoving 76 = .ok (.ireturn, 1) := by decide +kernel
theorem dX2_read_0 : decode cX2_read 0 = .ok (.aload_n 0, 1) := by decide +kernel
theorem dX2_read_1 : decode cX2_read 1 = .ok (.lload_n 1, 1) := by decide +kernel
theorem dX2_read_2 : decode cX2_read 2 = .ok (.lconst 1, 1) := by decide +kernel
theorem dX2_read_3 : decode cX2_read 3 = .ok (.lsub, 1) := by decide +kernel
theorem dX2_read_4 : decode cX2_read 4 = .ok (.invokevirtual 58, 3) := by decide +kernel
theorem dX2_read_7 : decode cX2_read 7 = .ok (.ifCond .ne 5, 3) := by decide +kernel
theorem dX2_read_10 : decode cX2_read 10 = .ok (.lconst 0, 1) := by decide +kernel
theorem dX2_read_11 : decode cX2_read 11 = .ok (.lreturn, 1) := by decide +kernel
theorem dX2_read_12 : decode cX2_read 12 = .ok (.aload_n 0, 1) := by decide +kernel
theorem dX2_read_13 : decode cX2_read 13 = .ok (.lload_n 1, 1) := by decide +kernel
theorem dX2_read_14 : decode cX2_read 14 = .ok (.l2i, 1) := by decide +kernel
theorem dX2_read_15 : decode cX2_read 15 = .ok (.iconst 1, 1) := by decide +kernel
theorem dX2_read_16 : decode cX2_read 16 = .ok (.isub, 1) := by decide +kernel
theorem dX2_read_17 : decode cX2_read 17 = .ok (.iconst 0, 1) := by decide +kernel
theorem dX2_read_18 : decode cX2_read 18 = .ok (.invokevirtual 62, 3) := by decide +kernel
theorem dX2_read_21 : decode cX2_read 21 = .ok (.aload_n 0, 1) := by decide +kernel
theorem dX2_read_22 : decode cX2_read 22 = .ok (.getfield 25, 3) := by decide +kernel
theorem dX2_read_25 : decode cX2_read 25 = .ok (.lload_n 1, 1) := by decide +kernel
theorem dX2_read_26 : decode cX2_read 26 = .ok (.l2i, 1) := by decide +kernel
theorem dX2_read_27 : decode cX2_read 27 = .ok (.iconst 1, 1) := by decide +kernel
theorem dX2_read_28 : decode cX2_read 28 = .ok (.isub, 1) := by decide +kernel
theorem dX2_read_29 : decode cX2_read 29 = .ok (.laload, 1) := by decide +kernel
theorem dX2_read_30 : decode cX2_read 30 = .ok (.lreturn, 1) := by decide +kernel
theorem dX2_write_0 : decode cX2_write 0 = .ok (.aload_n 0, 1) := by decide +kernel
theorem dX2_write_1 : decode cX2_write 1 = .ok (.lload_n 1, 1) := by decide +kernel
theorem dX2_write_2 : decode cX2_write 2 = .ok (.lconst 1, 1) := by decide +kernel
theorem dX2_write_3 : decode cX2_write 3 = .ok (.lsub, 1) := by decide +kernel
theorem dX2_write_4 : decode cX2_write 4 = .ok (.invokevirtual 58, 3) := by decide +kernel
theorem dX2_write_7 : decode cX2_write 7 = .ok (.ifCond .eq 32, 3) := by decide +kernel
theorem dX2_write_10 : decode cX2_write 10 = .ok (.aload_n 0, 1) := by decide +kernel
theorem dX2_write_11 : decode cX2_write 11 = .ok (.lload_n 1, 1) := by decide +kernel
theorem dX2_write_12 : decode cX2_write 12 = .ok (.l2i, 1) := by decide +kernel
theorem dX2_write_13 : decode cX2_write 13 = .ok (.iconst 1, 1) := by decide +kernel
theorem dX2_write_14 : decode cX2_write 14 = .ok (.isub, 1) := by decide +kernel
theorem dX2_write_15 : decode cX2_write 15 = .ok (.iconst 1, 1) := by decide +kernel
theorem dX2_write_16 : decode cX2_write 16 = .ok (.invokevirtual 62, 3) := by decide +kernel
theorem dX2_write_19 : decode cX2_write 19 = .ok (.aload_n 0, 1) := by decide +kernel
theorem dX2_write_20 : decode cX2_write 20 = .ok (.getfield 25, 3) := by decide +kernel
theorem dX2_write_23 : decode cX2_write 23 = .ok (.lload_n 1, 1) := by decide +kernel
theorem dX2_write_24 : decode cX2_write 24 = .ok (.l2i, 1) := by decide +kernel
theorem dX2_write_25 : decode cX2_write 25 = .ok (.iconst 1, 1) := by decide +kernel
theorem dX2_write_26 : decode cX2_write 26 = .ok (.isub, 1) := by decide +kernel
theorem dX2_write_27 : decode cX2_write 27 = .ok (.lload_n 3, 1) := by decide +kernel
theorem dX2_write_28 : decode cX2_write 28 = .ok (.lastore, 1) := by decide +kernel
theorem dX2_write_29 : decode cX2_write 29 = .ok (.aload_n 0, 1) := by decide +kernel
theorem dX2_write_30 : decode cX2_write 30 = .ok (.getfield 29, 3) := by decide +kernel
theorem dX2_write_33 : decode cX2_write 33 = .ok (.lload_n 1, 1) := by decide +kernel
theorem dX2_write_34 : decode cX2_write 34 = .ok (.l2i, 1) := by decide +kernel
theorem dX2_write_35 : decode cX2_write 35 = .ok (.iconst 1, 1) := by decide +kernel
theorem dX2_write_36 : decode cX2_write 36 = .ok (.isub, 1) := by decide +kernel
theorem dX2_write_37 : decode cX2_write 37 = .ok (.iconst 1, 1) := by decide +kernel
theorem dX2_write_38 : decode cX2_write 38 = .ok (.bastore, 1) := by decide +kernel
theorem dX2_write_39 : decode cX2_write 39 = .ok (.return_, 1) := by decide +kernel
theorem dX2_log_0 : decode cX2_log 0 = .ok (.aload_n 0, 1) := by decide +kernel
theorem dX2_log_1 : decode cX2_log 1 = .ok (.getfield 45, 3) := by decide +kernel
theorem dX2_log_4 : decode cX2_log 4 = .ok (.sipush 600, 3) := by decide +kernel
theorem dX2_log_7 : decode cX2_log 7 = .ok (.if_icmp .ge 33, 3) := by decide +kernel
theorem dX2_log_10 : decode cX2_log 10 = .ok (.aload_n 0, 1) := by decide +kernel
theorem dX2_log_11 : decode cX2_log 11 = .ok (.getfield 32, 3) := by decide +kernel
theorem dX2_log_14 : decode cX2_log 14 = .ok (.aload_n 0, 1) := by decide +kernel
theorem dX2_log_15 : decode cX2_log 15 = .ok (.getfield 45, 3) := by decide +kernel
theorem dX2_log_18 : decode cX2_log 18 = .ok (.iload_n 1, 1) := by decide +kernel
theorem dX2_log_19 : decode cX2_log 19 = .ok (.iastore, 1) := by decide +kernel
theorem dX2_log_20 : decode cX2_log 20 = .ok (.aload_n 0, 1) := by decide +kernel
theorem dX2_log_21 : decode cX2_log 21 = .ok (.getfield 35, 3) := by decide +kernel
theorem dX2_log_24 : decode cX2_log 24 = .ok (.aload_n 0, 1) := by decide +kernel
theorem dX2_log_25 : decode cX2_log 25 = .ok (.getfield 45, 3) := by decide +kernel
theorem dX2_log_28 : decode cX2_log 28 = .ok (.iload_n 2, 1) := by decide +kernel
theorem dX2_log_29 : decode cX2_log 29 = .ok (.bastore, 1) := by decide +kernel
theorem dX2_log_30 : decode cX2_log 30 = .ok (.aload_n 0, 1) := by decide +kernel
theorem dX2_log_31 : decode cX2_log 31 = .ok (.dup, 1) := by decide +kernel
theorem dX2_log_32 : decode cX2_log 32 = .ok (.getfield 45, 3) := by decide +kernel
theorem dX2_log_35 : decode cX2_log 35 = .ok (.iconst 1, 1) := by decide +kernel
theorem dX2_log_36 : decode cX2_log 36 = .ok (.iadd, 1) := by decide +kernel
theorem dX2_log_37 : decode cX2_log 37 = .ok (.putfield 45, 3) := by decide +kernel
theorem dX2_log_40 : decode cX2_log 40 = .ok (.return_, 1) := by decide +kernel
theorem dX2_logged_0 : decode cX2_logged 0 = .ok (.aload_n 0, 1) := by decide +kernel
theorem dX2_logged_1 : decode cX2_logged 1 = .ok (.getfield 45, 3) := by decide +kernel
theorem dX2_logged_4 : decode cX2_logged 4 = .ok (.ireturn, 1) := by decide +kernel
theorem dX2_forgetSince_0 : decode cX2_forgetSince 0 = .ok (.aload_n 0, 1) := by decide +kernel
theorem dX2_forgetSince_1 : decode cX2_forgetSince 1 = .ok (.iconst 0, 1) := by decide +kernel
theorem dX2_forgetSince_2 : decode cX2_forgetSince 2 = .ok (.iload_n 1, 1) := by decide +kernel
theorem dX2_forgetSince_3 : decode cX2_forgetSince 3 = .ok (.aload_n 0, 1) := by decide +kernel
theorem dX2_forgetSince_4 : decode cX2_forgetSince 4 = .ok (.getfield 45, 3) := by decide +kernel
theorem dX2_forgetSince_7 : decode cX2_forgetSince 7 = .ok (.invokestatic 66, 3) := by decide +kernel
theorem dX2_forgetSince_10 : decode cX2_forgetSince 10 = .ok (.invokestatic 48, 3) := by decide +kernel
theorem dX2_forgetSince_13 : decode cX2_forgetSince 13 = .ok (.putfield 45, 3) := by decide +kernel
theorem dX2_forgetSince_16 : decode cX2_forgetSince 16 = .ok (.return_, 1) := by decide +kernel
theorem dX2_isClash_0 : decode cX2_isClash 0 = .ok (.iload_n 1, 1) := by decide +kernel
theorem dX2_isClash_1 : decode cX2_isClash 1 = .ok (.iconst 0, 1) := by decide +kernel
theorem dX2_isClash_2 : decode cX2_isClash 2 = .ok (.invokestatic 48, 3) := by decide +kernel
theorem dX2_isClash_5 : decode cX2_isClash 5 = .ok (.istore_n 3, 1) := by decide +kernel
theorem dX2_isClash_6 : decode cX2_isClash 6 = .ok (.iload_n 3, 1) := by decide +kernel
theorem dX2_isClash_7 : decode cX2_isClash 7 = .ok (.iload_n 2, 1) := by decide +kernel
theorem dX2_isClash_8 : decode cX2_isClash 8 = .ok (.if_icmp .ge 76, 3) := by decide +kernel
theorem dX2_isClash_11 : decode cX2_isClash 11 = .ok (.iload_n 3, 1) := by decide +kernel
theorem dX2_isClash_12 : decode cX2_isClash 12 = .ok (.aload_n 0, 1) := by decide +kernel
theorem dX2_isClash_13 : decode cX2_isClash 13 = .ok (.getfield 45, 3) := by decide +kernel
theorem dX2_isClash_16 : decode cX2_isClash 16 = .ok (.if_icmp .ge 68, 3) := by decide +kernel
theorem dX2_isClash_19 : decode cX2_isClash 19 = .ok (.iload_n 2, 1) := by decide +kernel
theorem dX2_isClash_20 : decode cX2_isClash 20 = .ok (.iconst 0, 1) := by decide +kernel
theorem dX2_isClash_21 : decode cX2_isClash 21 = .ok (.invokestatic 48, 3) := by decide +kernel
theorem dX2_isClash_24 : decode cX2_isClash 24 = .ok (.istore 4, 2) := by decide +kernel
theorem dX2_isClash_26 : decode cX2_isClash 26 = .ok (.iload 4, 2) := by decide +kernel
theorem dX2_isClash_28 : decode cX2_isClash 28 = .ok (.aload_n 0, 1) := by decide +kernel
theorem dX2_isClash_29 : decode cX2_isClash 29 = .ok (.getfield 45, 3) := by decide +kernel
theorem dX2_isClash_32 : decode cX2_isClash 32 = .ok (.if_icmp .ge 46, 3) := by decide +kernel
theorem dX2_isClash_35 : decode cX2_isClash 35 = .ok (.aload_n 0, 1) := by decide +kernel
theorem dX2_isClash_36 : decode cX2_isClash 36 = .ok (.getfield 32, 3) := by decide +kernel
theorem dX2_isClash_39 : decode cX2_isClash 39 = .ok (.iload_n 3, 1) := by decide +kernel
theorem dX2_isClash_40 : decode cX2_isClash 40 = .ok (.iaload, 1) := by decide +kernel
theorem dX2_isClash_41 : decode cX2_isClash 41 = .ok (.aload_n 0, 1) := by decide +kernel
theorem dX2_isClash_42 : decode cX2_isClash 42 = .ok (.getfield 32, 3) := by decide +kernel
theorem dX2_isClash_45 : decode cX2_isClash 45 = .ok (.iload 4, 2) := by decide +kernel
theorem dX2_isClash_47 : decode cX2_isClash 47 = .ok (.iaload, 1) := by decide +kernel
theorem dX2_isClash_48 : decode cX2_isClash 48 = .ok (.if_icmp .ne 24, 3) := by decide +kernel
theorem dX2_isClash_51 : decode cX2_isClash 51 = .ok (.aload_n 0, 1) := by decide +kernel
theorem dX2_isClash_52 : decode cX2_isClash 52 = .ok (.getfield 35, 3) := by decide +kernel
theorem dX2_isClash_55 : decode cX2_isClash 55 = .ok (.iload_n 3, 1) := by decide +kernel
theorem dX2_isClash_56 : decode cX2_isClash 56 = .ok (.baload, 1) := by decide +kernel
theorem dX2_isClash_57 : decode cX2_isClash 57 = .ok (.ifCond .ne 13, 3) := by decide +kernel
theorem dX2_isClash_60 : decode cX2_isClash 60 = .ok (.aload_n 0, 1) := by decide +kernel
theorem dX2_isClash_61 : decode cX2_isClash 61 = .ok (.getfield 35, 3) := by decide +kernel
theorem dX2_isClash_64 : decode cX2_isClash 64 = .ok (.iload 4, 2) := by decide +kernel
theorem dX2_isClash_66 : decode cX2_isClash 66 = .ok (.baload, 1) := by decide +kernel
theorem dX2_isClash_67 : decode cX2_isClash 67 = .ok (.ifCond .eq 5, 3) := by decide +kernel
theorem dX2_isClash_70 : decode cX2_isClash 70 = .ok (.iconst 1, 1) := by decide +kernel
theorem dX2_isClash_71 : decode cX2_isClash 71 = .ok (.ireturn, 1) := by decide +kernel
theorem dX2_isClash_72 : decode cX2_isClash 72 = .ok (.iinc 4 1, 3) := by decide +kernel
theorem dX2_isClash_75 : decode cX2_isClash 75 = .ok (.goto (-49), 3) := by decide +kernel
theorem dX2_isClash_78 : decode cX2_isClash 78 = .ok (.iinc 3 1, 3) := by decide +kernel
theorem dX2_isClash_81 : decode cX2_isClash 81 = .ok (.goto (-75), 3) := by decide +kernel
theorem dX2_isClash_84 : decode cX2_isClash 84 = .ok (.iconst 0, 1) := by decide +kernel
theorem dX2_isClash_85 : decode cX2_isClash 85 = .ok (.ireturn, 1) := by decide +kernel
theorem dX2_isWrittenSince_0 : decode cX2_isWrittenSince 0 = .ok (.iload_n 1, 1) := by decide +kernel
theorem dX2_isWrittenSince_1 : decode cX2_isWrittenSince 1 = .ok (.iconst 0, 1) := by decide +kernel
theorem dX2_isWrittenSince_2 : decode cX2_isWrittenSince 2 = .ok (.invokestatic 48, 3) := by decide +kernel
theorem dX2_isWrittenSince_5 : decode cX2_isWrittenSince 5 = .ok (.istore 4, 2) := by decide +kernel
theorem dX2_isWrittenSince_7 : decode cX2_isWrittenSince 7 = .ok (.iload 4, 2) := by decide +kernel
theorem dX2_isWrittenSince_9 : decode cX2_isWrittenSince 9 = .ok (.aload_n 0, 1) := by decide +kernel
theorem dX2_isWrittenSince_10 : decode cX2_isWrittenSince 10 = .ok (.getfield 45, 3) := by decide +kernel
theorem dX2_isWrittenSince_13 : decode cX2_isWrittenSince 13 = .ok (.if_icmp .ge 36, 3) := by decide +kernel
theorem dX2_isWrittenSince_16 : decode cX2_isWrittenSince 16 = .ok (.aload_n 0, 1) := by decide +kernel
theorem dX2_isWrittenSince_17 : decode cX2_isWrittenSince 17 = .ok (.getfield 32, 3) := by decide +kernel
theorem dX2_isWrittenSince_20 : decode cX2_isWrittenSince 20 = .ok (.iload 4, 2) := by decide +kernel
theorem dX2_isWrittenSince_22 : decode cX2_isWrittenSince 22 = .ok (.iaload, 1) := by decide +kernel
theorem dX2_isWrittenSince_23 : decode cX2_isWrittenSince 23 = .ok (.i2l, 1) := by decide +kernel
theorem dX2_isWrittenSince_24 : decode cX2_isWrittenSince 24 = .ok (.lload_n 2, 1) := by decide +kernel
theorem dX2_isWrittenSince_25 : decode cX2_isWrittenSince 25 = .ok (.lconst 1, 1) := by decide +kernel
theorem dX2_isWrittenSince_26 : decode cX2_isWrittenSince 26 = .ok (.lsub, 1) := by decide +kernel
theorem dX2_isWrittenSince_27 : decode cX2_isWrittenSince 27 = .ok (.lcmp, 1) := by decide +kernel
theorem dX2_isWrittenSince_28 : decode cX2_isWrittenSince 28 = .ok (.ifCond .ne 15, 3) := by decide +kernel
theorem dX2_isWrittenSince_31 : decode cX2_isWrittenSince 31 = .ok (.aload_n 0, 1) := by decide +kernel
theorem dX2_isWrittenSince_32 : decode cX2_isWrittenSince 32 = .ok (.getfield 35, 3) := by decide +kernel
theorem dX2_isWrittenSince_35 : decode cX2_isWrittenSince 35 = .ok (.iload 4, 2) := by decide +kernel
theorem dX2_isWrittenSince_37 : decode cX2_isWrittenSince 37 = .ok (.baload, 1) := by decide +kernel
theorem dX2_isWrittenSince_38 : decode cX2_isWrittenSince 38 = .ok (.ifCond .eq 5, 3) := by decide +kernel
theorem dX2_isWrittenSince_41 : decode cX2_isWrittenSince 41 = .ok (.iconst 1, 1) := by decide +kernel
theorem dX2_isWrittenSince_42 : decode cX2_isWrittenSince 42 = .ok (.ireturn, 1) := by decide +kernel
theorem dX2_isWrittenSince_43 : decode cX2_isWrittenSince 43 = .ok (.iinc 4 1, 3) := by decide +kernel
theorem dX2_isWrittenSince_46 : decode cX2_isWrittenSince 46 = .ok (.goto (-39), 3) := by decide +kernel
theorem dX2_isWrittenSince_49 : decode cX2_isWrittenSince 49 = .ok (.iconst 0, 1) := by decide +kernel
theorem dX2_isWrittenSince_50 : decode cX2_isWrittenSince 50 = .ok (.ireturn, 1) := by decide +kernel
theorem dX3_init_0 : decode cX3_init 0 = .ok (.aload_n 0, 1) := by decide +kernel
theorem dX3_init_1 : decode cX3_init 1 = .ok (.invokespecial 3, 3) := by decide +kernel
theorem dX3_init_4 : decode cX3_init 4 = .ok (.aload_n 0, 1) := by decide +kernel
theorem dX3_init_5 : decode cX3_init 5 = .ok (.iload_n 1, 1) := by decide +kernel
theorem dX3_init_6 : decode cX3_init 6 = .ok (.putfield 9, 3) := by decide +kernel
theorem dX3_init_9 : decode cX3_init 9 = .ok (.aload_n 0, 1) := by decide +kernel
theorem dX3_init_10 : decode cX3_init 10 = .ok (.iload_n 2, 1) := by decide +kernel
theorem dX3_init_11 : decode cX3_init 11 = .ok (.putfield 15, 3) := by decide +kernel
theorem dX3_init_14 : decode cX3_init 14 = .ok (.aload_n 0, 1) := by decide +kernel
theorem dX3_init_15 : decode cX3_init 15 = .ok (.iload_n 3, 1) := by decide +kernel
theorem dX3_init_16 : decode cX3_init 16 = .ok (.putfield 19, 3) := by decide +kernel
theorem dX3_init_19 : decode cX3_init 19 = .ok (.return_, 1) := by decide +kernel
theorem dX3_copyFrom_0 : decode cX3_copyFrom 0 = .ok (.aload_n 0, 1) := by decide +kernel
theorem dX3_copyFrom_1 : decode cX3_copyFrom 1 = .ok (.aload_n 1, 1) := by decide +kernel
theorem dX3_copyFrom_2 : decode cX3_copyFrom 2 = .ok (.getfield 22, 3) := by decide +kernel
theorem dX3_copyFrom_5 : decode cX3_copyFrom 5 = .ok (.putfield 22, 3) := by decide +kernel
theorem dX3_copyFrom_8 : decode cX3_copyFrom 8 = .ok (.aload_n 0, 1) := by decide +kernel
theorem dX3_copyFrom_9 : decode cX3_copyFrom 9 = .ok (.aload_n 1, 1) := by decide +kernel
theorem dX3_copyFrom_10 : decode cX3_copyFrom 10 = .ok (.getfield 9, 3) := by decide +kernel
theorem dX3_copyFrom_13 : decode cX3_copyFrom 13 = .ok (.putfield 9, 3) := by decide +kernel
theorem dX3_copyFrom_16 : decode cX3_copyFrom 16 = .ok (.aload_n 0, 1) := by decide +kernel
theorem dX3_copyFrom_17 : decode cX3_copyFrom 17 = .ok (.aload_n 1, 1) := by decide +kernel
theorem dX3_copyFrom_18 : decode cX3_copyFrom 18 = .ok (.getfield 15, 3) := by decide +kernel
theorem dX3_copyFrom_21 : decode cX3_copyFrom 21 = .ok (.putfield 15, 3) := by decide +kernel
theorem dX3_copyFrom_24 : decode cX3_copyFrom 24 = .ok (.aload_n 0, 1) := by decide +kernel
theorem dX3_copyFrom_25 : decode cX3_copyFrom 25 = .ok (.aload_n 1, 1) := by decide +kernel
theorem dX3_copyFrom_26 : decode cX3_copyFrom 26 = .ok (.getfield 19, 3) := by decide +kernel
theorem dX3_copyFrom_29 : decode cX3_copyFrom 29 = .ok (.putfield 19, 3) := by decide +kernel
theorem dX3_copyFrom_32 : decode cX3_copyFrom 32 = .ok (.aload_n 0, 1) := by decide +kernel
theorem dX3_copyFrom_33 : decode cX3_copyFrom 33 = .ok (.aload_n 1, 1) := by decide +kernel
theorem dX3_copyFrom_34 : decode cX3_copyFrom 34 = .ok (.getfield 25, 3) := by decide +kernel
theorem dX3_copyFrom_37 : decode cX3_copyFrom 37 = .ok (.putfield 25, 3) := by decide +kernel
theorem dX3_copyFrom_40 : decode cX3_copyFrom 40 = .ok (.aload_n 0, 1) := by decide +kernel
theorem dX3_copyFrom_41 : decode cX3_copyFrom 41 = .ok (.aload_n 1, 1) := by decide +kernel
theorem dX3_copyFrom_42 : decode cX3_copyFrom 42 = .ok (.getfield 29, 3) := by decide +kernel
theorem dX3_copyFrom_45 : decode cX3_copyFrom 45 = .ok (.putfield 29, 3) := by decide +kernel
theorem dX3_copyFrom_48 : decode cX3_copyFrom 48 = .ok (.aload_n 0, 1) := by decide +kernel
theorem dX3_copyFrom_49 : decode cX3_copyFrom 49 = .ok (.aload_n 1, 1) := by decide +kernel
theorem dX3_copyFrom_50 : decode cX3_copyFrom 50 = .ok (.getfield 33, 3) := by decide +kernel
theorem dX3_copyFrom_53 : decode cX3_copyFrom 53 = .ok (.putfield 33, 3) := by decide +kernel
theorem dX3_copyFrom_56 : decode cX3_copyFrom 56 = .ok (.return_, 1) := by decide +kernel
theorem dX3_setParts_0 : decode cX3_setParts 0 = .ok (.aload_n 0, 1) := by decide +kernel
theorem dX3_setParts_1 : decode cX3_setParts 1 = .ok (.aload_n 1, 1) := by decide +kernel
theorem dX3_setParts_2 : decode cX3_setParts 2 = .ok (.putfield 37, 3) := by decide +kernel
theorem dX3_setParts_5 : decode cX3_setParts 5 = .ok (.aload_n 0, 1) := by decide +kernel
theorem dX3_setParts_6 : decode cX3_setParts 6 = .ok (.aload_n 2, 1) := by decide +kernel
theorem dX3_setParts_7 : decode cX3_setParts 7 = .ok (.putfield 41, 3) := by decide +kernel
theorem dX3_setParts_10 : decode cX3_setParts 10 = .ok (.aload_n 0, 1) := by decide +kernel
theorem dX3_setParts_11 : decode cX3_setParts 11 = .ok (.aload_n 3, 1) := by decide +kernel
theorem dX3_setParts_12 : decode cX3_setParts 12 = .ok (.putfield 44, 3) := by decide +kernel
theorem dX3_setParts_15 : decode cX3_setParts 15 = .ok (.aload_n 0, 1) := by decide +kernel
theorem dX3_setParts_16 : decode cX3_setParts 16 = .ok (.iconst 1, 1) := by decide +kernel
theorem dX3_setParts_17 : decode cX3_setParts 17 = .ok (.aload_n 1, 1) := by decide +kernel
theorem dX3_setParts_18 : decode cX3_setParts 18 = .ok (.invokestatic 47, 3) := by decide +kernel
theorem dX3_setParts_21 : decode cX3_setParts 21 = .ok (.aload_n 2, 1) := by decide +kernel
theorem dX3_setParts_22 : decode cX3_setParts 22 = .ok (.invokestatic 47, 3) := by decide +kernel
theorem dX3_setParts_25 : decode cX3_setParts 25 = .ok (.aload_n 3, 1) := by decide +kernel
theorem dX3_setParts_26 : decode cX3_setParts 26 = .ok (.invokestatic 47, 3) := by decide +kernel
theorem dX3_setParts_29 : decode cX3_setParts 29 = .ok (.invokestatic 51, 3) := by decide +kernel
theorem dX3_setParts_32 : decode cX3_setParts 32 = .ok (.invokestatic 51, 3) := by decide +kernel
theorem dX3_setParts_35 : decode cX3_setParts 35 = .ok (.iadd, 1) := by decide +kernel
theorem dX3_setParts_36 : decode cX3_setParts 36 = .ok (.putfield 57, 3) := by decide +kernel
theorem dX3_setParts_39 : decode cX3_setParts 39 = .ok (.aload_n 0, 1) := by decide +kernel
theorem dX3_setParts_40 : decode cX3_setParts 40 = .ok (.iconst 1, 1) := by decide +kernel
theorem dX3_setParts_41 : decode cX3_setParts 41 = .ok (.aload_n 1, 1) := by decide +kernel
theorem dX3_setParts_42 : decode cX3_setParts 42 = .ok (.invokestatic 60, 3) := by decide +kernel
theorem dX3_setParts_45 : decode cX3_setParts 45 = .ok (.iadd, 1) := by decide +kernel
theorem dX3_setParts_46 : decode cX3_setParts 46 = .ok (.aload_n 2, 1) := by decide +kernel
theorem dX3_setParts_47 : decode cX3_setParts 47 = .ok (.invokestatic 60, 3) := by decide +kernel
theorem dX3_setParts_50 : decode cX3_setParts 50 = .ok (.iadd, 1) := by decide +kernel
theorem dX3_setParts_51 : decode cX3_setParts 51 = .ok (.aload_n 3, 1) := by decide +kernel
theorem dX3_setParts_52 : decode cX3_setParts 52 = .ok (.invokestatic 60, 3) := by decide +kernel
theorem dX3_setParts_55 : decode cX3_setParts 55 = .ok (.iadd, 1) := by decide +kernel
theorem dX3_setParts_56 : decode cX3_setParts 56 = .ok (.putfield 63, 3) := by decide +kernel
theorem dX3_setParts_59 : decode cX3_setParts 59 = .ok (.aload_n 0, 1) := by decide +kernel
theorem dX3_setParts_60 : decode cX3_setParts 60 = .ok (.aload_n 0, 1) := by decide +kernel
theorem dX3_setParts_61 : decode cX3_setParts 61 = .ok (.getfield 9, 3) := by decide +kernel
theorem dX3_setParts_64 : decode cX3_setParts 64 = .ok (.bipush 7, 2) := by decide +kernel
theorem dX3_setParts_66 : decode cX3_setParts 66 = .ok (.if_icmp .eq 24, 3) := by decide +kernel
theorem dX3_setParts_69 : decode cX3_setParts 69 = .ok (.aload_n 1, 1) := by decide +kernel
theorem dX3_setParts_70 : decode cX3_setParts 70 = .ok (.invokestatic 66, 3) := by decide +kernel
theorem dX3_setParts_73 : decode cX3_setParts 73 = .ok (.ifCond .ne 17, 3) := by decide +kernel
theorem dX3_setParts_76 : decode cX3_setParts 76 = .ok (.aload_n 2, 1) := by decide +kernel
theorem dX3_setParts_77 : decode cX3_setParts 77 = .ok (.invokestatic 66, 3) := by decide +kernel
theorem dX3_setParts_80 : decode cX3_setParts 80 = .ok (.ifCond .ne 10, 3) := by decide +kernel
theorem dX3_setParts_83 : decode cX3_setParts 83 = .ok (.aload_n 3, 1) := by decide +kernel
theorem dX3_setParts_84 : decode cX3_setParts 84 = .ok (.invokestatic 66, 3) := by decide +kernel
theorem dX3_setParts_87 : decode cX3_setParts 87 = .ok (.ifCond .eq 7, 3) := by decide +kernel
theorem dX3_setParts_90 : decode cX3_setParts 90 = .ok (.iconst 1, 1) := by decide +kernel
theorem dX3_setParts_91 : decode cX3_setParts 91 = .ok (.goto 4, 3) := by decide +kernel
theorem dX3_setParts_94 : decode cX3_setParts 94 = .ok (.iconst 0, 1) := by decide +kernel
theorem dX3_setParts_95 : decode cX3_setParts 95 = .ok (.putfield 70, 3) := by decide +kernel
theorem dX3_setParts_98 : decode cX3_setParts 98 = .ok (.return_, 1) := by decide +kernel
theorem dX3_depthOf_0 : decode cX3_depthOf 0 = .ok (.aload_n 0, 1) := by decide +kernel
theorem dX3_depthOf_1 : decode cX3_depthOf 1 = .ok (.ifnonnull 7, 3) := by decide +kernel
theorem dX3_depthOf_4 : decode cX3_depthOf 4 = .ok (.iconst 0, 1) := by decide +kernel
theorem dX3_depthOf_5 : decode cX3_depthOf 5 = .ok (.goto 7, 3) := by decide +kernel
theorem dX3_depthOf_8 : decode cX3_depthOf 8 = .ok (.aload_n 0, 1) := by decide +kernel
theorem dX3_depthOf_9 : decode cX3_depthOf 9 = .ok (.getfield 57, 3) := by decide +kernel
theorem dX3_depthOf_12 : decode cX3_depthOf 12 = .ok (.ireturn, 1) := by decide +kernel
theorem dX3_sizeOf_0 : decode cX3_sizeOf 0 = .ok (.aload_n 0, 1) := by decide +kernel
theorem dX3_sizeOf_1 : decode cX3_sizeOf 1 = .ok (.ifnonnull 7, 3) := by decide +kernel
theorem dX3_sizeOf_4 : decode cX3_sizeOf 4 = .ok (.iconst 0, 1) := by decide +kernel
theorem dX3_sizeOf_5 : decode cX3_sizeOf 5 = .ok (.goto 7, 3) := by decide +kernel
theorem dX3_sizeOf_8 : decode cX3_sizeOf 8 = .ok (.aload_n 0, 1) := by decide +kernel
theorem dX3_sizeOf_9 : decode cX3_sizeOf 9 = .ok (.getfield 63, 3) := by decide +kernel
theorem dX3_sizeOf_12 : decode cX3_sizeOf 12 = .ok (.ireturn, 1) := by decide +kernel
theorem dX3_isCalling_0 : decode cX3_isCalling 0 = .ok (.aload_n 0, 1) := by decide +kernel
theorem dX3_isCalling_1 : decode cX3_isCalling 1 = .ok (.ifnull 14, 3) := by decide +kernel
theorem dX3_isCalling_4 : decode cX3_isCalling 4 = .ok (.aload_n 0, 1) := by decide +kernel
theorem dX3_isCalling_5 : decode cX3_isCalling 5 = .ok (.getfield 70, 3) := by decide +kernel
theorem dX3_isCalling_8 : decode cX3_isCalling 8 = .ok (.ifCond .eq 7, 3) := by decide +kernel
theorem dX3_isCalling_11 : decode cX3_isCalling 11 = .ok (.iconst 1, 1) := by decide +kernel
theorem dX3_isCalling_12 : decode cX3_isCalling 12 = .ok (.goto 4, 3) := by decide +kernel
theorem dX3_isCalling_15 : decode cX3_isCalling 15 = .ok (.iconst 0, 1) := by decide +kernel
theorem dX3_isCalling_16 : decode cX3_isCalling 16 = .ok (.ireturn, 1) := by decide +kernel
theorem dX3_isTold_0 : decode cX3_isTold 0 = .ok (.aload_n 0, 1) := by decide +kernel
theorem dX3_isTold_1 : decode cX3_isTold 1 = .ok (.ifnull 14, 3) := by decide +kernel
theorem dX3_isTold_4 : decode cX3_isTold 4 = .ok (.aload_n 0, 1) := by decide +kernel
theorem dX3_isTold_5 : decode cX3_isTold 5 = .ok (.getfield 9, 3) := by decide +kernel
theorem dX3_isTold_8 : decode cX3_isTold 8 = .ok (.ifCond .ne 7, 3) := by decide +kernel
theorem dX3_isTold_11 : decode cX3_isTold 11 = .ok (.iconst 1, 1) := by decide +kernel
theorem dX3_isTold_12 : decode cX3_isTold 12 = .ok (.goto 4, 3) := by decide +kernel
theorem dX3_isTold_15 : decode cX3_isTold 15 = .ok (.iconst 0, 1) := by decide +kernel
theorem dX3_isTold_16 : decode cX3_isTold 16 = .ok (.ireturn, 1) := by decide +kernel
theorem dX3_isPlace_0 : decode cX3_isPlace 0 = .ok (.aload_n 0, 1) := by decide +kernel
theorem dX3_isPlace_1 : decode cX3_isPlace 1 = .ok (.getfield 9, 3) := by decide +kernel
theorem dX3_isPlace_4 : decode cX3_isPlace 4 = .ok (.iconst 1, 1) := by decide +kernel
theorem dX3_isPlace_5 : decode cX3_isPlace 5 = .ok (.if_icmp .ne 20, 3) := by decide +kernel
theorem dX3_isPlace_8 : decode cX3_isPlace 8 = .ok (.aload_n 0, 1) := by decide +kernel
theorem dX3_isPlace_9 : decode cX3_isPlace 9 = .ok (.getfield 29, 3) := by decide +kernel
theorem dX3_isPlace_12 : decode cX3_isPlace 12 = .ok (.ifnull 13, 3) := by decide +kernel
theorem dX3_isPlace_15 : decode cX3_isPlace 15 = .ok (.aload_n 0, 1) := by decide +kernel
theorem dX3_isPlace_16 : decode cX3_isPlace 16 = .ok (.getfield 29, 3) := by decide +kernel
theorem dX3_isPlace_19 : decode cX3_isPlace 19 = .ok (.invokevirtual 74, 3) := by decide +kernel
theorem dX3_isPlace_22 : decode cX3_isPlace 22 = .ok (.ifCond .eq 20, 3) := by decide +kernel
theorem dX3_isPlace_25 : decode cX3_isPlace 25 = .ok (.aload_n 0, 1) := by decide +kernel
theorem dX3_isPlace_26 : decode cX3_isPlace 26 = .ok (.getfield 9, 3) := by decide +kernel
theorem dX3_isPlace_29 : decode cX3_isPlace 29 = .ok (.iconst 2, 1) := by decide +kernel
theorem dX3_isPlace_30 : decode cX3_isPlace 30 = .ok (.if_icmp .ne 16, 3) := by decide +kernel
theorem dX3_isPlace_33 : decode cX3_isPlace 33 = .ok (.aload_n 0, 1) := by decide +kernel
theorem dX3_isPlace_34 : decode cX3_isPlace 34 = .ok (.getfield 15, 3) := by decide +kernel
theorem dX3_isPlace_37 : decode cX3_isPlace 37 = .ok (.bipush 42, 2) := by decide +kernel
theorem dX3_isPlace_39 : decode cX3_isPlace 39 = .ok (.if_icmp .ne 7, 3) := by decide +kernel
theorem dX3_isPlace_42 : decode cX3_isPlace 42 = .ok (.iconst 1, 1) := by decide +kernel
theorem dX3_isPlace_43 : decode cX3_isPlace 43 = .ok (.goto 4, 3) := by decide +kernel
theorem dX3_isPlace_46 : decode cX3_isPlace 46 = .ok (.iconst 0, 1) := by decide +kernel
theorem dX3_isPlace_47 : decode cX3_isPlace 47 = .ok (.ireturn, 1) := by decide +kernel
theorem dX3_takesPlace_0 : decode cX3_takesPlace 0 = .ok (.aload_n 0, 1) := by decide +kernel
theorem dX3_takesPlace_1 : decode cX3_takesPlace 1 = .ok (.getfield 9, 3) := by decide +kernel
theorem dX3_takesPlace_4 : decode cX3_takesPlace 4 = .ok (.bipush 6, 2) := by decide +kernel
theorem dX3_takesPlace_6 : decode cX3_takesPlace 6 = .ok (.if_icmp .eq 23, 3) := by decide +kernel
theorem dX3_takesPlace_9 : decode cX3_takesPlace 9 = .ok (.aload_n 0, 1) := by decide +kernel
theorem dX3_takesPlace_10 : decode cX3_takesPlace 10 = .ok (.getfield 9, 3) := by decide +kernel
theorem dX3_takesPlace_13 : decode cX3_takesPlace 13 = .ok (.iconst 2, 1) := by decide +kernel
theorem dX3_takesPlace_14 : decode cX3_takesPlace 14 = .ok (.if_icmp .ne 19, 3) := by decide +kernel
theorem dX3_takesPlace_17 : decode cX3_takesPlace 17 = .ok (.ldc 80, 2) := by decide +kernel
theorem dX3_takesPlace_19 : decode cX3_takesPlace 19 = .ok (.aload_n 0, 1) := by decide +kernel
theorem dX3_takesPlace_20 : decode cX3_takesPlace 20 = .ok (.getfield 15, 3) := by decide +kernel
theorem dX3_takesPlace_23 : decode cX3_takesPlace 23 = .ok (.invokevirtual 82, 3) := by decide +kernel
theorem dX3_takesPlace_26 : decode cX3_takesPlace 26 = .ok (.ifCond .lt 7, 3) := by decide +kernel
theorem dX3_takesPlace_29 : decode cX3_takesPlace 29 = .ok (.iconst 1, 1) := by decide +kernel
theorem dX3_takesPlace_30 : decode cX3_takesPlace 30 = .ok (.goto 4, 3) := by decide +kernel
theorem dX3_takesPlace_33 : decode cX3_takesPlace 33 = .ok (.iconst 0, 1) := by decide +kernel
theorem dX3_takesPlace_34 : decode cX3_takesPlace 34 = .ok (.ireturn, 1) := by decide +kernel
theorem dX3_isUnsequenced_0 : decode cX3_isUnsequenced 0 = .ok (.aload_n 0, 1) := by decide +kernel
theorem dX3_isUnsequenced_1 : decode cX3_isUnsequenced 1 = .ok (.getfield 9, 3) := by decide +kernel
theorem dX3_isUnsequenced_4 : decode cX3_isUnsequenced 4 = .ok (.bipush 6, 2) := by decide +kernel
theorem dX3_isUnsequenced_6 : decode cX3_isUnsequenced 6 = .ok (.if_icmp .eq 32, 3) := by decide +kernel
theorem dX3_isUnsequenced_9 : decode cX3_isUnsequenced 9 = .ok (.aload_n 0, 1) := by decide +kernel
theorem dX3_isUnsequenced_10 : decode cX3_isUnsequenced 10 = .ok (.getfield 9, 3) := by decide +kernel
theorem dX3_isUnsequenced_13 : decode cX3_isUnsequenced 13 = .ok (.bipush 7, 2) := by decide +kernel
theorem dX3_isUnsequenced_15 : decode cX3_isUnsequenced 15 = .ok (.if_icmp .eq 23, 3) := by decide +kernel
theorem dX3_isUnsequenced_18 : decode cX3_isUnsequenced 18 = .ok (.aload_n 0, 1) := by decide +kernel
theorem dX3_isUnsequenced_19 : decode cX3_isUnsequenced 19 = .ok (.getfield 9, 3) := by decide +kernel
theorem dX3_isUnsequenced_22 : decode cX3_isUnsequenced 22 = .ok (.iconst 4, 1) := by decide +kernel
theorem dX3_isUnsequenced_23 : decode cX3_isUnsequenced 23 = .ok (.if_icmp .ne 19, 3) := by decide +kernel
theorem dX3_isUnsequenced_26 : decode cX3_isUnsequenced 26 = .ok (.ldc 88, 2) := by decide +kernel
theorem dX3_isUnsequenced_28 : decode cX3_isUnsequenced 28 = .ok (.aload_n 0, 1) := by decide +kernel
theorem dX3_isUnsequenced_29 : decode cX3_isUnsequenced 29 = .ok (.getfield 15, 3) := by decide +kernel
theorem dX3_isUnsequenced_32 : decode cX3_isUnsequenced 32 = .ok (.invokevirtual 82, 3) := by decide +kernel
theorem dX3_isUnsequenced_35 : decode cX3_isUnsequenced 35 = .ok (.ifCond .ge 7, 3) := by decide +kernel
theorem dX3_isUnsequenced_38 : decode cX3_isUnsequenced 38 = .ok (.iconst 1, 1) := by decide +kernel
theorem dX3_isUnsequenced_39 : decode cX3_isUnsequenced 39 = .ok (.goto 4, 3) := by decide +kernel
theorem dX3_isUnsequenced_42 : decode cX3_isUnsequenced 42 = .ok (.iconst 0, 1) := by decide +kernel
theorem dX3_isUnsequenced_43 : decode cX3_isUnsequenced 43 = .ok (.ireturn, 1) := by decide +kernel
theorem dX3_isChosen_0 : decode cX3_isChosen 0 = .ok (.aload_n 0, 1) := by decide +kernel
theorem dX3_isChosen_1 : decode cX3_isChosen 1 = .ok (.invokevirtual 90, 3) := by decide +kernel
theorem dX3_isChosen_4 : decode cX3_isChosen 4 = .ok (.ifCond .eq 27, 3) := by decide +kernel
theorem dX3_isChosen_7 : decode cX3_isChosen 7 = .ok (.aload_n 0, 1) := by decide +kernel
theorem dX3_isChosen_8 : decode cX3_isChosen 8 = .ok (.getfield 37, 3) := by decide +kernel
theorem dX3_isChosen_11 : decode cX3_isChosen 11 = .ok (.invokestatic 66, 3) := by decide +kernel
theorem dX3_isChosen_14 : decode cX3_isChosen 14 = .ok (.ifCond .eq 17, 3) := by decide +kernel
theorem dX3_isChosen_17 : decode cX3_isChosen 17 = .ok (.aload_n 0, 1) := by decide +kernel
theorem dX3_isChosen_18 : decode cX3_isChosen 18 = .ok (.getfield 41, 3) := by decide +kernel
theorem dX3_isChosen_21 : decode cX3_isChosen 21 = .ok (.invokestatic 66, 3) := by decide +kernel
theorem dX3_isChosen_24 : decode cX3_isChosen 24 = .ok (.ifCond .eq 7, 3) := by decide +kernel
theorem dX3_isChosen_27 : decode cX3_isChosen 27 = .ok (.iconst 1, 1) := by decide +kernel
theorem dX3_isChosen_28 : decode cX3_isChosen 28 = .ok (.goto 4, 3) := by decide +kernel
theorem dX3_isChosen_31 : decode cX3_isChosen 31 = .ok (.iconst 0, 1) := by decide +kernel
theorem dX3_isChosen_32 : decode cX3_isChosen 32 = .ok (.ireturn, 1) := by decide +kernel
theorem dX3_firstToEvaluate_0 : decode cX3_firstToEvaluate 0 = .ok (.aload_n 0, 1) := by decide +kernel
theorem dX3_firstToEvaluate_1 : decode cX3_firstToEvaluate 1 = .ok (.getfield 37, 3) := by decide +kernel
theorem dX3_firstToEvaluate_4 : decode cX3_firstToEvaluate 4 = .ok (.ifnull 10, 3) := by decide +kernel
theorem dX3_firstToEvaluate_7 : decode cX3_firstToEvaluate 7 = .ok (.aload_n 0, 1) := by decide +kernel
theorem dX3_firstToEvaluate_8 : decode cX3_firstToEvaluate 8 = .ok (.invokevirtual 93, 3) := by decide +kernel
theorem dX3_firstToEvaluate_11 : decode cX3_firstToEvaluate 11 = .ok (.ifCond .ne 8, 3) := by decide +kernel
theorem dX3_firstToEvaluate_14 : decode cX3_firstToEvaluate 14 = .ok (.aload_n 0, 1) := by decide +kernel
theorem dX3_firstToEvaluate_15 : decode cX3_firstToEvaluate 15 = .ok (.getfield 37, 3) := by decide +kernel
theorem dX3_firstToEvaluate_18 : decode cX3_firstToEvaluate 18 = .ok (.areturn, 1) := by decide +kernel
theorem dX3_firstToEvaluate_19 : decode cX3_firstToEvaluate 19 = .ok (.aload_n 0, 1) := by decide +kernel
theorem dX3_firstToEvaluate_20 : decode cX3_firstToEvaluate 20 = .ok (.getfield 37, 3) := by decide +kernel
theorem dX3_firstToEvaluate_23 : decode cX3_firstToEvaluate 23 = .ok (.getfield 9, 3) := by decide +kernel
theorem dX3_firstToEvaluate_26 : decode cX3_firstToEvaluate 26 = .ok (.iconst 2, 1) := by decide +kernel
theorem dX3_firstToEvaluate_27 : decode cX3_firstToEvaluate 27 = .ok (.if_icmp .ne 13, 3) := by decide +kernel
theorem dX3_firstToEvaluate_30 : decode cX3_firstToEvaluate 30 = .ok (.aload_n 0, 1) := by decide +kernel
theorem dX3_firstToEvaluate_31 : decode cX3_firstToEvaluate 31 = .ok (.getfield 37, 3) := by decide +kernel
theorem dX3_firstToEvaluate_34 : decode cX3_firstToEvaluate 34 = .ok (.getfield 37, 3) := by decide +kernel
theorem dX3_firstToEvaluate_37 : decode cX3_firstToEvaluate 37 = .ok (.goto 4, 3) := by decide +kernel
theorem dX3_firstToEvaluate_40 : decode cX3_firstToEvaluate 40 = .ok (.aconst_null, 1) := by decide +kernel
theorem dX3_firstToEvaluate_41 : decode cX3_firstToEvaluate 41 = .ok (.areturn, 1) := by decide +kernel
theorem dX3_secondToEvaluate_0 : decode cX3_secondToEvaluate 0 = .ok (.aload_n 0, 1) := by decide +kernel
theorem dX3_secondToEvaluate_1 : decode cX3_secondToEvaluate 1 = .ok (.getfield 9, 3) := by decide +kernel
theorem dX3_secondToEvaluate_4 : decode cX3_secondToEvaluate 4 = .ok (.iconst 5, 1) := by decide +kernel
theorem dX3_secondToEvaluate_5 : decode cX3_secondToEvaluate 5 = .ok (.if_icmp .ne 21, 3) := by decide +kernel
theorem dX3_secondToEvaluate_8 : decode cX3_secondToEvaluate 8 = .ok (.lload_n 1, 1) := by decide +kernel
theorem dX3_secondToEvaluate_9 : decode cX3_secondToEvaluate 9 = .ok (.lconst 0, 1) := by decide +kernel
theorem dX3_secondToEvaluate_10 : decode cX3_secondToEvaluate 10 = .ok (.lcmp, 1) := by decide +kernel
theorem dX3_secondToEvaluate_11 : decode cX3_secondToEvaluate 11 = .ok (.ifCond .eq 10, 3) := by decide +kernel
theorem dX3_secondToEvaluate_14 : decode cX3_secondToEvaluate 14 = .ok (.aload_n 0, 1) := by decide +kernel
theorem dX3_secondToEvaluate_15 : decode cX3_secondToEvaluate 15 = .ok (.getfield 41, 3) := by decide +kernel
theorem dX3_secondToEvaluate_18 : decode cX3_secondToEvaluate 18 = .ok (.goto 7, 3) := by decide +kernel
theorem dX3_secondToEvaluate_21 : decode cX3_secondToEvaluate 21 = .ok (.aload_n 0, 1) := by decide +kernel
theorem dX3_secondToEvaluate_22 : decode cX3_secondToEvaluate 22 = .ok (.getfield 44, 3) := by decide +kernel
theorem dX3_secondToEvaluate_25 : decode cX3_secondToEvaluate 25 = .ok (.areturn, 1) := by decide +kernel
theorem dX3_secondToEvaluate_26 : decode cX3_secondToEvaluate 26 = .ok (.aload_n 0, 1) := by decide +kernel
theorem dX3_secondToEvaluate_27 : decode cX3_secondToEvaluate 27 = .ok (.getfield 9, 3) := by decide +kernel
theorem dX3_secondToEvaluate_30 : decode cX3_secondToEvaluate 30 = .ok (.iconst 4, 1) := by decide +kernel
theorem dX3_secondToEvaluate_31 : decode cX3_secondToEvaluate 31 = .ok (.if_icmp .ne 38, 3) := by decide +kernel
theorem dX3_secondToEvaluate_34 : decode cX3_secondToEvaluate 34 = .ok (.aload_n 0, 1) := by decide +kernel
theorem dX3_secondToEvaluate_35 : decode cX3_secondToEvaluate 35 = .ok (.getfield 15, 3) := by decide +kernel
theorem dX3_secondToEvaluate_38 : decode cX3_secondToEvaluate 38 = .ok (.bipush 97, 2) := by decide +kernel
theorem dX3_secondToEvaluate_40 : decode cX3_secondToEvaluate 40 = .ok (.if_icmp .eq 12, 3) := by decide +kernel
theorem dX3_secondToEvaluate_43 : decode cX3_secondToEvaluate 43 = .ok (.aload_n 0, 1) := by decide +kernel
theorem dX3_secondToEvaluate_44 : decode cX3_secondToEvaluate 44 = .ok (.getfield 15, 3) := by decide +kernel
theorem dX3_secondToEvaluate_47 : decode cX3_secondToEvaluate 47 = .ok (.bipush 111, 2) := by decide +kernel
theorem dX3_secondToEvaluate_49 : decode cX3_secondToEvaluate 49 = .ok (.if_icmp .ne 20, 3) := by decide +kernel
theorem dX3_secondToEvaluate_52 : decode cX3_secondToEvaluate 52 = .ok (.aload_n 0, 1) := by decide +kernel
theorem dX3_secondToEvaluate_53 : decode cX3_secondToEvaluate 53 = .ok (.lload_n 1, 1) := by decide +kernel
theorem dX3_secondToEvaluate_54 : decode cX3_secondToEvaluate 54 = .ok (.invokevirtual 96, 3) := by decide +kernel
theorem dX3_secondToEvaluate_57 : decode cX3_secondToEvaluate 57 = .ok (.ifCond .eq 7, 3) := by decide +kernel
theorem dX3_secondToEvaluate_60 : decode cX3_secondToEvaluate 60 = .ok (.aconst_null, 1) := by decide +kernel
theorem dX3_secondToEvaluate_61 : decode cX3_secondToEvaluate 61 = .ok (.goto 7, 3) := by decide +kernel
theorem dX3_secondToEvaluate_64 : decode cX3_secondToEvaluate 64 = .ok (.aload_n 0, 1) := by decide +kernel
theorem dX3_secondToEvaluate_65 : decode cX3_secondToEvaluate 65 = .ok (.getfield 41, 3) := by decide +kernel
theorem dX3_secondToEvaluate_68 : decode cX3_secondToEvaluate 68 = .ok (.areturn, 1) := by decide +kernel
theorem dX3_secondToEvaluate_69 : decode cX3_secondToEvaluate 69 = .ok (.aload_n 0, 1) := by decide +kernel
theorem dX3_secondToEvaluate_70 : decode cX3_secondToEvaluate 70 = .ok (.getfield 41, 3) := by decide +kernel
theorem dX3_secondToEvaluate_73 : decode cX3_secondToEvaluate 73 = .ok (.areturn, 1) := by decide +kernel
theorem dX3_decides_0 : decode cX3_decides 0 = .ok (.aload_n 0, 1) := by decide +kernel
theorem dX3_decides_1 : decode cX3_decides 1 = .ok (.getfield 15, 3) := by decide +kernel
theorem dX3_decides_4 : decode cX3_decides 4 = .ok (.bipush 111, 2) := by decide +kernel
theorem dX3_decides_6 : decode cX3_decides 6 = .ok (.if_icmp .ne 7, 3) := by decide +kernel
theorem dX3_decides_9 : decode cX3_decides 9 = .ok (.iconst 1, 1) := by decide +kernel
theorem dX3_decides_10 : decode cX3_decides 10 = .ok (.goto 4, 3) := by decide +kernel
theorem dX3_decides_13 : decode cX3_decides 13 = .ok (.iconst 0, 1) := by decide +kernel
theorem dX3_decides_14 : decode cX3_decides 14 = .ok (.lload_n 1, 1) := by decide +kernel
theorem dX3_decides_15 : decode cX3_decides 15 = .ok (.lconst 0, 1) := by decide +kernel
theorem dX3_decides_16 : decode cX3_decides 16 = .ok (.lcmp, 1) := by decide +kernel
theorem dX3_decides_17 : decode cX3_decides 17 = .ok (.ifCond .eq 7, 3) := by decide +kernel
theorem dX3_decides_20 : decode cX3_decides 20 = .ok (.iconst 1, 1) := by decide +kernel
theorem dX3_decides_21 : decode cX3_decides 21 = .ok (.goto 4, 3) := by decide +kernel
theorem dX3_decides_24 : decode cX3_decides 24 = .ok (.iconst 0, 1) := by decide +kernel
theorem dX3_decides_25 : decode cX3_decides 25 = .ok (.if_icmp .ne 7, 3) := by decide +kernel
theorem dX3_decides_28 : decode cX3_decides 28 = .ok (.iconst 1, 1) := by decide +kernel
theorem dX3_decides_29 : decode cX3_decides 29 = .ok (.goto 4, 3) := by decide +kernel
theorem dX3_decides_32 : decode cX3_decides 32 = .ok (.iconst 0, 1) := by decide +kernel
theorem dX3_decides_33 : decode cX3_decides 33 = .ok (.ireturn, 1) := by decide +kernel
theorem dX3_isReckoned_0 : decode cX3_isReckoned 0 = .ok (.aload_n 0, 1) := by decide +kernel
theorem dX3_isReckoned_1 : decode cX3_isReckoned 1 = .ok (.getfield 9, 3) := by decide +kernel
theorem dX3_isReckoned_4 : decode cX3_isReckoned 4 = .ok (.tableswitch 96 2 4 #[30, 28, 63], 28) := by decide +kernel
theorem dX3_isReckoned_32 : decode cX3_isReckoned 32 = .ok (.iconst 1, 1) := by decide +kernel
theorem dX3_isReckoned_33 : decode cX3_isReckoned 33 = .ok (.ireturn, 1) := by decide +kernel
theorem dX3_isReckoned_34 : decode cX3_isReckoned 34 = .ok (.aload_n 0, 1) := by decide +kernel
theorem dX3_isReckoned_35 : decode cX3_isReckoned 35 = .ok (.getfield 15, 3) := by decide +kernel
theorem dX3_isReckoned_38 : decode cX3_isReckoned 38 = .ok (.bipush 45, 2) := by decide +kernel
theorem dX3_isReckoned_40 : decode cX3_isReckoned 40 = .ok (.if_icmp .eq 21, 3) := by decide +kernel
theorem dX3_isReckoned_43 : decode cX3_isReckoned 43 = .ok (.aload_n 0, 1) := by decide +kernel
theorem dX3_isReckoned_44 : decode cX3_isReckoned 44 = .ok (.getfield 15, 3) := by decide +kernel
theorem dX3_isReckoned_47 : decode cX3_isReckoned 47 = .ok (.bipush 126, 2) := by decide +kernel
theorem dX3_isReckoned_49 : decode cX3_isReckoned 49 = .ok (.if_icmp .eq 12, 3) := by decide +kernel
theorem dX3_isReckoned_52 : decode cX3_isReckoned 52 = .ok (.aload_n 0, 1) := by decide +kernel
theorem dX3_isReckoned_53 : decode cX3_isReckoned 53 = .ok (.getfield 15, 3) := by decide +kernel
theorem dX3_isReckoned_56 : decode cX3_isReckoned 56 = .ok (.bipush 33, 2) := by decide +kernel
theorem dX3_isReckoned_58 : decode cX3_isReckoned 58 = .ok (.if_icmp .ne 7, 3) := by decide +kernel
theorem dX3_isReckoned_61 : decode cX3_isReckoned 61 = .ok (.iconst 1, 1) := by decide +kernel
theorem dX3_isReckoned_62 : decode cX3_isReckoned 62 = .ok (.goto 4, 3) := by decide +kernel
theorem dX3_isReckoned_65 : decode cX3_isReckoned 65 = .ok (.iconst 0, 1) := by decide +kernel
theorem dX3_isReckoned_66 : decode cX3_isReckoned 66 = .ok (.ireturn, 1) := by decide +kernel
theorem dX3_isReckoned_67 : decode cX3_isReckoned 67 = .ok (.aload_n 0, 1) := by decide +kernel
theorem dX3_isReckoned_68 : decode cX3_isReckoned 68 = .ok (.invokevirtual 90, 3) := by decide +kernel
theorem dX3_isReckoned_71 : decode cX3_isReckoned 71 = .ok (.ifCond .eq 27, 3) := by decide +kernel
theorem dX3_isReckoned_74 : decode cX3_isReckoned 74 = .ok (.aload_n 0, 1) := by decide +kernel
theorem dX3_isReckoned_75 : decode cX3_isReckoned 75 = .ok (.getfield 37, 3) := by decide +kernel
theorem dX3_isReckoned_78 : decode cX3_isReckoned 78 = .ok (.ifnull 20, 3) := by decide +kernel
theorem dX3_isReckoned_81 : decode cX3_isReckoned 81 = .ok (.aload_n 0, 1) := by decide +kernel
theorem dX3_isReckoned_82 : decode cX3_isReckoned 82 = .ok (.getfield 37, 3) := by decide +kernel
theorem dX3_isReckoned_85 : decode cX3_isReckoned 85 = .ok (.getfield 19, 3) := by decide +kernel
theorem dX3_isReckoned_88 : decode cX3_isReckoned 88 = .ok (.invokestatic 100, 3) := by decide +kernel
theorem dX3_isReckoned_91 : decode cX3_isReckoned 91 = .ok (.ifCond .eq 7, 3) := by decide +kernel
theorem dX3_isReckoned_94 : decode cX3_isReckoned 94 = .ok (.iconst 1, 1) := by decide +kernel
theorem dX3_isReckoned_95 : decode cX3_isReckoned 95 = .ok (.goto 4, 3) := by decide +kernel
theorem dX3_isReckoned_98 : decode cX3_isReckoned 98 = .ok (.iconst 0, 1) := by decide +kernel
theorem dX3_isReckoned_99 : decode cX3_isReckoned 99 = .ok (.ireturn, 1) := by decide +kernel
theorem dX3_isReckoned_100 : decode cX3_isReckoned 100 = .ok (.iconst 0, 1) := by decide +kernel
theorem dX3_isReckoned_101 : decode cX3_isReckoned 101 = .ok (.ireturn, 1) := by decide +kernel
theorem dX3_isShift_0 : decode cX3_isShift 0 = .ok (.aload_n 0, 1) := by decide +kernel
theorem dX3_isShift_1 : decode cX3_isShift 1 = .ok (.getfield 15, 3) := by decide +kernel
theorem dX3_isShift_4 : decode cX3_isShift 4 = .ok (.bipush 108, 2) := by decide +kernel
theorem dX3_isShift_6 : decode cX3_isShift 6 = .ok (.if_icmp .eq 12, 3) := by decide +kernel
theorem dX3_isShift_9 : decode cX3_isShift 9 = .ok (.aload_n 0, 1) := by decide +kernel
theorem dX3_isShift_10 : decode cX3_isShift 10 = .ok (.getfield 15, 3) := by decide +kernel
theorem dX3_isShift_13 : decode cX3_isShift 13 = .ok (.bipush 114, 2) := by decide +kernel
theorem dX3_isShift_15 : decode cX3_isShift 15 = .ok (.if_icmp .ne 7, 3) := by decide +kernel
theorem dX3_isShift_18 : decode cX3_isShift 18 = .ok (.iconst 1, 1) := by decide +kernel
theorem dX3_isShift_19 : decode cX3_isShift 19 = .ok (.goto 4, 3) := by decide +kernel
theorem dX3_isShift_22 : decode cX3_isShift 22 = .ok (.iconst 0, 1) := by decide +kernel
theorem dX3_isShift_23 : decode cX3_isShift 23 = .ok (.ireturn, 1) := by decide +kernel
theorem dX3_operandType_0 : decode cX3_operandType 0 = .ok (.aload_n 0, 1) := by decide +kernel
theorem dX3_operandType_1 : decode cX3_operandType 1 = .ok (.getfield 37, 3) := by decide +kernel
theorem dX3_operandType_4 : decode cX3_operandType 4 = .ok (.ifnull 10, 3) := by decide +kernel
theorem dX3_operandType_7 : decode cX3_operandType 7 = .ok (.aload_n 0, 1) := by decide +kernel
theorem dX3_operandType_8 : decode cX3_operandType 8 = .ok (.getfield 41, 3) := by decide +kernel
theorem dX3_operandType_11 : decode cX3_operandType 11 = .ok (.ifnonnull 8, 3) := by decide +kernel
theorem dX3_operandType_14 : decode cX3_operandType 14 = .ok (.aload_n 0, 1) := by decide +kernel
theorem dX3_operandType_15 : decode cX3_operandType 15 = .ok (.getfield 19, 3) := by decide +kernel
theorem dX3_operandType_18 : decode cX3_operandType 18 = .ok (.ireturn, 1) := by decide +kernel
theorem dX3_operandType_19 : decode cX3_operandType 19 = .ok (.aload_n 0, 1) := by decide +kernel
theorem dX3_operandType_20 : decode cX3_operandType 20 = .ok (.invokevirtual 106, 3) := by decide +kernel
theorem dX3_operandType_23 : decode cX3_operandType 23 = .ok (.ifCond .eq 16, 3) := by decide +kernel
theorem dX3_operandType_26 : decode cX3_operandType 26 = .ok (.aload_n 0, 1) := by decide +kernel
theorem dX3_operandType_27 : decode cX3_operandType 27 = .ok (.getfield 37, 3) := by decide +kernel
theorem dX3_operandType_30 : decode cX3_operandType 30 = .ok (.getfield 19, 3) := by decide +kernel
theorem dX3_operandType_33 : decode cX3_operandType 33 = .ok (.invokestatic 109, 3) := by decide +kernel
theorem dX3_operandType_36 : decode cX3_operandType 36 = .ok (.goto 20, 3) := by decide +kernel
theorem dX3_operandType_39 : decode cX3_operandType 39 = .ok (.aload_n 0, 1) := by decide +kernel
theorem dX3_operandType_40 : decode cX3_operandType 40 = .ok (.getfield 37, 3) := by decide +kernel
theorem dX3_operandType_43 : decode cX3_operandType 43 = .ok (.getfield 19, 3) := by decide +kernel
theorem dX3_operandType_46 : decode cX3_operandType 46 = .ok (.aload_n 0, 1) := by decide +kernel
theorem dX3_operandType_47 : decode cX3_operandType 47 = .ok (.getfield 41, 3) := by decide +kernel
theorem dX3_operandType_50 : decode cX3_operandType 50 = .ok (.getfield 19, 3) := by decide +kernel
theorem dX3_operandType_53 : decode cX3_operandType 53 = .ok (.invokestatic 112, 3) := by decide +kernel
theorem dX3_operandType_56 : decode cX3_operandType 56 = .ok (.ireturn, 1) := by decide +kernel
theorem dX3_faultOf_0 : decode cX3_faultOf 0 = .ok (.aload_n 0, 1) := by decide +kernel
theorem dX3_faultOf_1 : decode cX3_faultOf 1 = .ok (.getfield 9, 3) := by decide +kernel
theorem dX3_faultOf_4 : decode cX3_faultOf 4 = .ok (.iconst 2, 1) := by decide +kernel
theorem dX3_faultOf_5 : decode cX3_faultOf 5 = .ok (.if_icmp .ne 24, 3) := by decide +kernel
theorem dX3_faultOf_8 : decode cX3_faultOf 8 = .ok (.aload_n 0, 1) := by decide +kernel
theorem dX3_faultOf_9 : decode cX3_faultOf 9 = .ok (.getfield 15, 3) := by decide +kernel
theorem dX3_faultOf_12 : decode cX3_faultOf 12 = .ok (.bipush 45, 2) := by decide +kernel
theorem dX3_faultOf_14 : decode cX3_faultOf 14 = .ok (.if_icmp .ne 15, 3) := by decide +kernel
theorem dX3_faultOf_17 : decode cX3_faultOf 17 = .ok (.bipush 45, 2) := by decide +kernel
theorem dX3_faultOf_19 : decode cX3_faultOf 19 = .ok (.aload_n 0, 1) := by decide +kernel
theorem dX3_faultOf_20 : decode cX3_faultOf 20 = .ok (.getfield 19, 3) := by decide +kernel
theorem dX3_faultOf_23 : decode cX3_faultOf 23 = .ok (.lconst 0, 1) := by decide +kernel
theorem dX3_faultOf_24 : decode cX3_faultOf 24 = .ok (.lload_n 1, 1) := by decide +kernel
theorem dX3_faultOf_25 : decode cX3_faultOf 25 = .ok (.invokestatic 115, 3) := by decide +kernel
theorem dX3_faultOf_28 : decode cX3_faultOf 28 = .ok (.ireturn, 1) := by decide +kernel
theorem dX3_faultOf_29 : decode cX3_faultOf 29 = .ok (.aload_n 0, 1) := by decide +kernel
theorem dX3_faultOf_30 : decode cX3_faultOf 30 = .ok (.getfield 9, 3) := by decide +kernel
theorem dX3_faultOf_33 : decode cX3_faultOf 33 = .ok (.iconst 4, 1) := by decide +kernel
theorem dX3_faultOf_34 : decode cX3_faultOf 34 = .ok (.if_icmp .eq 6, 3) := by decide +kernel
theorem dX3_faultOf_37 : decode cX3_faultOf 37 = .ok (.bipush 32, 2) := by decide +kernel
theorem dX3_faultOf_39 : decode cX3_faultOf 39 = .ok (.ireturn, 1) := by decide +kernel
theorem dX3_faultOf_40 : decode cX3_faultOf 40 = .ok (.aload_n 0, 1) := by decide +kernel
theorem dX3_faultOf_41 : decode cX3_faultOf 41 = .ok (.invokevirtual 119, 3) := by decide +kernel
theorem dX3_faultOf_44 : decode cX3_faultOf 44 = .ok (.istore 5, 2) := by decide +kernel
theorem dX3_faultOf_46 : decode cX3_faultOf 46 = .ok (.aload_n 0, 1) := by decide +kernel
theorem dX3_faultOf_47 : decode cX3_faultOf 47 = .ok (.getfield 15, 3) := by decide +kernel
theorem dX3_faultOf_50 : decode cX3_faultOf 50 = .ok (.iload 5, 2) := by decide +kernel
theorem dX3_faultOf_52 : decode cX3_faultOf 52 = .ok (.lload_n 1, 1) := by decide +kernel
theorem dX3_faultOf_53 : decode cX3_faultOf 53 = .ok (.iload 5, 2) := by decide +kernel
theorem dX3_faultOf_55 : decode cX3_faultOf 55 = .ok (.invokestatic 123, 3) := by decide +kernel
theorem dX3_faultOf_58 : decode cX3_faultOf 58 = .ok (.aload_n 0, 1) := by decide +kernel
theorem dX3_faultOf_59 : decode cX3_faultOf 59 = .ok (.invokevirtual 106, 3) := by decide +kernel
theorem dX3_faultOf_62 : decode cX3_faultOf 62 = .ok (.ifCond .eq 7, 3) := by decide +kernel
theorem dX3_faultOf_65 : decode cX3_faultOf 65 = .ok (.lload_n 3, 1) := by decide +kernel
theorem dX3_faultOf_66 : decode cX3_faultOf 66 = .ok (.goto 9, 3) := by decide +kernel
theorem dX3_faultOf_69 : decode cX3_faultOf 69 = .ok (.lload_n 3, 1) := by decide +kernel
theorem dX3_faultOf_70 : decode cX3_faultOf 70 = .ok (.iload 5, 2) := by decide +kernel
theorem dX3_faultOf_72 : decode cX3_faultOf 72 = .ok (.invokestatic 123, 3) := by decide +kernel
theorem dX3_faultOf_75 : decode cX3_faultOf 75 = .ok (.invokestatic 115, 3) := by decide +kernel
theorem dX3_faultOf_78 : decode cX3_faultOf 78 = .ok (.ireturn, 1) := by decide +kernel
theorem dX3_resultOf_0 : decode cX3_resultOf 0 = .ok (.aload_n 0, 1) := by decide +kernel
theorem dX3_resultOf_1 : decode cX3_resultOf 1 = .ok (.getfield 9, 3) := by decide +kernel
theorem dX3_resultOf_4 : decode cX3_resultOf 4 = .ok (.iconst 3, 1) := by decide +kernel
theorem dX3_resultOf_5 : decode cX3_resultOf 5 = .ok (.if_icmp .ne 12, 3) := by decide +kernel
theorem dX3_resultOf_8 : decode cX3_resultOf 8 = .ok (.lload_n 1, 1) := by decide +kernel
theorem dX3_resultOf_9 : decode cX3_resultOf 9 = .ok (.aload_n 0, 1) := by decide +kernel
theorem dX3_resultOf_10 : decode cX3_resultOf 10 = .ok (.getfield 19, 3) := by decide +kernel
theorem dX3_resultOf_13 : decode cX3_resultOf 13 = .ok (.invokestatic 123, 3) := by decide +kernel
theorem dX3_resultOf_16 : decode cX3_resultOf 16 = .ok (.lreturn, 1) := by decide +kernel
theorem dX3_resultOf_17 : decode cX3_resultOf 17 = .ok (.aload_n 0, 1) := by decide +kernel
theorem dX3_resultOf_18 : decode cX3_resultOf 18 = .ok (.getfield 9, 3) := by decide +kernel
theorem dX3_resultOf_21 : decode cX3_resultOf 21 = .ok (.iconst 2, 1) := by decide +kernel
theorem dX3_resultOf_22 : decode cX3_resultOf 22 = .ok (.if_icmp .ne 51, 3) := by decide +kernel
theorem dX3_resultOf_25 : decode cX3_resultOf 25 = .ok (.aload_n 0, 1) := by decide +kernel
theorem dX3_resultOf_26 : decode cX3_resultOf 26 = .ok (.getfield 15, 3) := by decide +kernel
theorem dX3_resultOf_29 : decode cX3_resultOf 29 = .ok (.bipush 33, 2) := by decide +kernel
theorem dX3_resultOf_31 : decode cX3_resultOf 31 = .ok (.if_icmp .ne 15, 3) := by decide +kernel
theorem dX3_resultOf_34 : decode cX3_resultOf 34 = .ok (.lload_n 1, 1) := by decide +kernel
theorem dX3_resultOf_35 : decode cX3_resultOf 35 = .ok (.lconst 0, 1) := by decide +kernel
theorem dX3_resultOf_36 : decode cX3_resultOf 36 = .ok (.lcmp, 1) := by decide +kernel
theorem dX3_resultOf_37 : decode cX3_resultOf 37 = .ok (.ifCond .ne 7, 3) := by decide +kernel
theorem dX3_resultOf_40 : decode cX3_resultOf 40 = .ok (.lconst 1, 1) := by decide +kernel
theorem dX3_resultOf_41 : decode cX3_resultOf 41 = .ok (.goto 4, 3) := by decide +kernel
theorem dX3_resultOf_44 : decode cX3_resultOf 44 = .ok (.lconst 0, 1) := by decide +kernel
theorem dX3_resultOf_45 : decode cX3_resultOf 45 = .ok (.lreturn, 1) := by decide +kernel
theorem dX3_resultOf_46 : decode cX3_resultOf 46 = .ok (.aload_n 0, 1) := by decide +kernel
theorem dX3_resultOf_47 : decode cX3_resultOf 47 = .ok (.getfield 15, 3) := by decide +kernel
theorem dX3_resultOf_50 : decode cX3_resultOf 50 = .ok (.bipush 45, 2) := by decide +kernel
theorem dX3_resultOf_52 : decode cX3_resultOf 52 = .ok (.if_icmp .ne 8, 3) := by decide +kernel
theorem dX3_resultOf_55 : decode cX3_resultOf 55 = .ok (.lload_n 1, 1) := by decide +kernel
theorem dX3_resultOf_56 : decode cX3_resultOf 56 = .ok (.lneg, 1) := by decide +kernel
theorem dX3_resultOf_57 : decode cX3_resultOf 57 = .ok (.goto 8, 3) := by decide +kernel
theorem dX3_resultOf_60 : decode cX3_resultOf 60 = .ok (.lload_n 1, 1) := by decide +kernel
theorem dX3_resultOf_61 : decode cX3_resultOf 61 = .ok (.ldc2_w 127, 3) := by decide +kernel
theorem dX3_resultOf_64 : decode cX3_resultOf 64 = .ok (.lxor, 1) := by decide +kernel
theorem dX3_resultOf_65 : decode cX3_resultOf 65 = .ok (.aload_n 0, 1) := by decide +kernel
theorem dX3_resultOf_66 : decode cX3_resultOf 66 = .ok (.getfield 19, 3) := by decide +kernel
theorem dX3_resultOf_69 : decode cX3_resultOf 69 = .ok (.invokestatic 123, 3) := by decide +kernel
theorem dX3_resultOf_72 : decode cX3_resultOf 72 = .ok (.lreturn, 1) := by decide +kernel
theorem dX3_resultOf_73 : decode cX3_resultOf 73 = .ok (.aload_n 0, 1) := by decide +kernel
theorem dX3_resultOf_74 : decode cX3_resultOf 74 = .ok (.invokevirtual 119, 3) := by decide +kernel
theorem dX3_resultOf_77 : decode cX3_resultOf 77 = .ok (.istore 5, 2) := by decide +kernel
theorem dX3_resultOf_79 : decode cX3_resultOf 79 = .ok (.aload_n 0, 1) := by decide +kernel
theorem dX3_resultOf_80 : decode cX3_resultOf 80 = .ok (.getfield 15, 3) := by decide +kernel
theorem dX3_resultOf_83 : decode cX3_resultOf 83 = .ok (.iload 5, 2) := by decide +kernel
theorem dX3_resultOf_85 : decode cX3_resultOf 85 = .ok (.lload_n 1, 1) := by decide +kernel
theorem dX3_resultOf_86 : decode cX3_resultOf 86 = .ok (.iload 5, 2) := by decide +kernel
theorem dX3_resultOf_88 : decode cX3_resultOf 88 = .ok (.invokestatic 123, 3) := by decide +kernel
theorem dX3_resultOf_91 : decode cX3_resultOf 91 = .ok (.aload_n 0, 1) := by decide +kernel
theorem dX3_resultOf_92 : decode cX3_resultOf 92 = .ok (.invokevirtual 106, 3) := by decide +kernel
theorem dX3_resultOf_95 : decode cX3_resultOf 95 = .ok (.ifCond .eq 7, 3) := by decide +kernel
theorem dX3_resultOf_98 : decode cX3_resultOf 98 = .ok (.lload_n 3, 1) := by decide +kernel
theorem dX3_resultOf_99 : decode cX3_resultOf 99 = .ok (.goto 9, 3) := by decide +kernel
theorem dX3_resultOf_102 : decode cX3_resultOf 102 = .ok (.lload_n 3, 1) := by decide +kernel
theorem dX3_resultOf_103 : decode cX3_resultOf 103 = .ok (.iload 5, 2) := by decide +kernel
theorem dX3_resultOf_105 : decode cX3_resultOf 105 = .ok (.invokestatic 123, 3) := by decide +kernel
theorem dX3_resultOf_108 : decode cX3_resultOf 108 = .ok (.invokestatic 129, 3) := by decide +kernel
theorem dX3_resultOf_111 : decode cX3_resultOf 111 = .ok (.lreturn, 1) := by decide +kernel
theorem dX4_isNumber_0 : decode cX4_isNumber 0 = .ok (.iload_n 0, 1) := by decide +kernel
theorem dX4_isNumber_1 : decode cX4_isNumber 1 = .ok (.ifCond .lt 12, 3) := by decide +kernel
theorem dX4_isNumber_4 : decode cX4_isNumber 4 = .ok (.iload_n 0, 1) := by decide +kernel
theorem dX4_isNumber_5 : decode cX4_isNumber 5 = .ok (.iconst 5, 1) := by decide +kernel
theorem dX4_isNumber_6 : decode cX4_isNumber 6 = .ok (.if_icmp .gt 7, 3) := by decide +kernel
theorem dX4_isNumber_9 : decode cX4_isNumber 9 = .ok (.iconst 1, 1) := by decide +kernel
theorem dX4_isNumber_10 : decode cX4_isNumber 10 = .ok (.goto 4, 3) := by decide +kernel
theorem dX4_isNumber_13 : decode cX4_isNumber 13 = .ok (.iconst 0, 1) := by decide +kernel
theorem dX4_isNumber_14 : decode cX4_isNumber 14 = .ok (.ireturn, 1) := by decide +kernel
theorem dX4_isType_0 : decode cX4_isType 0 = .ok (.iload_n 0, 1) := by decide +kernel
theorem dX4_isType_1 : decode cX4_isType 1 = .ok (.invokestatic 9, 3) := by decide +kernel
theorem dX4_isType_4 : decode cX4_isType 4 = .ok (.ifCond .ne 19, 3) := by decide +kernel
theorem dX4_isType_7 : decode cX4_isType 7 = .ok (.iload_n 0, 1) := by decide +kernel
theorem dX4_isType_8 : decode cX4_isType 8 = .ok (.bipush 10, 2) := by decide +kernel
theorem dX4_isType_10 : decode cX4_isType 10 = .ok (.if_icmp .lt 17, 3) := by decide +kernel
theorem dX4_isType_13 : decode cX4_isType 13 = .ok (.iload_n 0, 1) := by decide +kernel
theorem dX4_isType_14 : decode cX4_isType 14 = .ok (.bipush 10, 2) := by decide +kernel
theorem dX4_isType_16 : decode cX4_isType 16 = .ok (.isub, 1) := by decide +kernel
theorem dX4_isType_17 : decode cX4_isType 17 = .ok (.invokestatic 9, 3) := by decide +kernel
theorem dX4_isType_20 : decode cX4_isType 20 = .ok (.ifCond .eq 7, 3) := by decide +kernel
theorem dX4_isType_23 : decode cX4_isType 23 = .ok (.iconst 1, 1) := by decide +kernel
theorem dX4_isType_24 : decode cX4_isType 24 = .ok (.goto 4, 3) := by decide +kernel
theorem dX4_isType_27 : decode cX4_isType 27 = .ok (.iconst 0, 1) := by decide +kernel
theorem dX4_isType_28 : decode cX4_isType 28 = .ok (.ireturn, 1) := by decide +kernel
theorem dX4_has_0 : decode cX4_has 0 = .ok (.lload_n 1, 1) := by decide +kernel
theorem dX4_has_1 : decode cX4_has 1 = .ok (.iload_n 0, 1) := by decide +kernel
theorem dX4_has_2 : decode cX4_has 2 = .ok (.invokestatic 15, 3) := by decide +kernel
theorem dX4_has_5 : decode cX4_has 5 = .ok (.lload_n 1, 1) := by decide +kernel
theorem dX4_has_6 : decode cX4_has 6 = .ok (.lcmp, 1) := by decide +kernel
theorem dX4_has_7 : decode cX4_has 7 = .ok (.ifCond .ne 7, 3) := by decide +kernel
theorem dX4_has_10 : decode cX4_has 10 = .ok (.iconst 1, 1) := by decide +kernel
theorem dX4_has_11 : decode cX4_has 11 = .ok (.goto 4, 3) := by decide +kernel
theorem dX4_has_14 : decode cX4_has 14 = .ok (.iconst 0, 1) := by decide +kernel
theorem dX4_has_15 : decode cX4_has 15 = .ok (.ireturn, 1) := by decide +kernel
theorem dX4_convert_0 : decode cX4_convert 0 = .ok (.bipush 64, 2) := by decide +kernel
theorem dX4_convert_2 : decode cX4_convert 2 = .ok (.bipush 8, 2) := by decide +kernel
theorem dX4_convert_4 : decode cX4_convert 4 = .ok (.iload_n 2, 1) := by decide +kernel
theorem dX4_convert_5 : decode cX4_convert 5 = .ok (.iconst 1, 1) := by decide +kernel
theorem dX4_convert_6 : decode cX4_convert 6 = .ok (.ishr, 1) := by decide +kernel
theorem dX4_convert_7 : decode cX4_convert 7 = .ok (.ishl, 1) := by decide +kernel
theorem dX4_convert_8 : decode cX4_convert 8 = .ok (.isub, 1) := by decide +kernel
theorem dX4_convert_9 : decode cX4_convert 9 = .ok (.istore_n 3, 1) := by decide +kernel
theorem dX4_convert_10 : decode cX4_convert 10 = .ok (.iload_n 2, 1) := by decide +kernel
theorem dX4_convert_11 : decode cX4_convert 11 = .ok (.iconst 1, 1) := by decide +kernel
theorem dX4_convert_12 : decode cX4_convert 12 = .ok (.iand, 1) := by decide +kernel
theorem dX4_convert_13 : decode cX4_convert 13 = .ok (.ifCond .ne 11, 3) := by decide +kernel
theorem dX4_convert_16 : decode cX4_convert 16 = .ok (.lload_n 0, 1) := by decide +kernel
theorem dX4_convert_17 : decode cX4_convert 17 = .ok (.iload_n 3, 1) := by decide +kernel
theorem dX4_convert_18 : decode cX4_convert 18 = .ok (.lshl, 1) := by decide +kernel
theorem dX4_convert_19 : decode cX4_convert 19 = .ok (.iload_n 3, 1) := by decide +kernel
theorem dX4_convert_20 : decode cX4_convert 20 = .ok (.lshr, 1) := by decide +kernel
theorem dX4_convert_21 : decode cX4_convert 21 = .ok (.goto 8, 3) := by decide +kernel
theorem dX4_convert_24 : decode cX4_convert 24 = .ok (.lload_n 0, 1) := by decide +kernel
theorem dX4_convert_25 : decode cX4_convert 25 = .ok (.iload_n 3, 1) := by decide +kernel
