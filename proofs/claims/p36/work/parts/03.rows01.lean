theorem dX4_convert_26 : decode cX4_convert 26 = .ok (.lshl, 1) := by decide +kernel
theorem dX4_convert_27 : decode cX4_convert 27 = .ok (.iload_n 3, 1) := by decide +kernel
theorem dX4_convert_28 : decode cX4_convert 28 = .ok (.lushr, 1) := by decide +kernel
theorem dX4_convert_29 : decode cX4_convert 29 = .ok (.lreturn, 1) := by decide +kernel
theorem dX4_promoted_0 : decode cX4_promoted 0 = .ok (.iload_n 0, 1) := by decide +kernel
theorem dX4_promoted_1 : decode cX4_promoted 1 = .ok (.iconst 2, 1) := by decide +kernel
theorem dX4_promoted_2 : decode cX4_promoted 2 = .ok (.invokestatic 19, 3) := by decide +kernel
theorem dX4_promoted_5 : decode cX4_promoted 5 = .ok (.ireturn, 1) := by decide +kernel
theorem dX4_common_0 : decode cX4_common 0 = .ok (.iconst 2, 1) := by decide +kernel
theorem dX4_common_1 : decode cX4_common 1 = .ok (.iload_n 0, 1) := by decide +kernel
theorem dX4_common_2 : decode cX4_common 2 = .ok (.iload_n 1, 1) := by decide +kernel
theorem dX4_common_3 : decode cX4_common 3 = .ok (.invokestatic 19, 3) := by decide +kernel
theorem dX4_common_6 : decode cX4_common 6 = .ok (.invokestatic 19, 3) := by decide +kernel
theorem dX4_common_9 : decode cX4_common 9 = .ok (.ireturn, 1) := by decide +kernel
theorem dX4_faultOf_0 : decode cX4_faultOf 0 = .ok (.iload_n 0, 1) := by decide +kernel
theorem dX4_faultOf_1 : decode cX4_faultOf 1 = .ok (.bipush 108, 2) := by decide +kernel
theorem dX4_faultOf_3 : decode cX4_faultOf 3 = .ok (.if_icmp .eq 9, 3) := by decide +kernel
theorem dX4_faultOf_6 : decode cX4_faultOf 6 = .ok (.iload_n 0, 1) := by decide +kernel
theorem dX4_faultOf_7 : decode cX4_faultOf 7 = .ok (.bipush 114, 2) := by decide +kernel
theorem dX4_faultOf_9 : decode cX4_faultOf 9 = .ok (.if_icmp .ne 26, 3) := by decide +kernel
theorem dX4_faultOf_12 : decode cX4_faultOf 12 = .ok (.lload 4, 2) := by decide +kernel
theorem dX4_faultOf_14 : decode cX4_faultOf 14 = .ok (.lconst 0, 1) := by decide +kernel
theorem dX4_faultOf_15 : decode cX4_faultOf 15 = .ok (.lcmp, 1) := by decide +kernel
theorem dX4_faultOf_16 : decode cX4_faultOf 16 = .ok (.ifCond .lt 16, 3) := by decide +kernel
theorem dX4_faultOf_19 : decode cX4_faultOf 19 = .ok (.lload 4, 2) := by decide +kernel
theorem dX4_faultOf_21 : decode cX4_faultOf 21 = .ok (.bipush 8, 2) := by decide +kernel
theorem dX4_faultOf_23 : decode cX4_faultOf 23 = .ok (.iload_n 1, 1) := by decide +kernel
theorem dX4_faultOf_24 : decode cX4_faultOf 24 = .ok (.iconst 1, 1) := by decide +kernel
theorem dX4_faultOf_25 : decode cX4_faultOf 25 = .ok (.ishr, 1) := by decide +kernel
theorem dX4_faultOf_26 : decode cX4_faultOf 26 = .ok (.ishl, 1) := by decide +kernel
theorem dX4_faultOf_27 : decode cX4_faultOf 27 = .ok (.i2l, 1) := by decide +kernel
theorem dX4_faultOf_28 : decode cX4_faultOf 28 = .ok (.lcmp, 1) := by decide +kernel
theorem dX4_faultOf_29 : decode cX4_faultOf 29 = .ok (.ifCond .lt 6, 3) := by decide +kernel
theorem dX4_faultOf_32 : decode cX4_faultOf 32 = .ok (.bipush 115, 2) := by decide +kernel
theorem dX4_faultOf_34 : decode cX4_faultOf 34 = .ok (.ireturn, 1) := by decide +kernel
theorem dX4_faultOf_35 : decode cX4_faultOf 35 = .ok (.iload_n 0, 1) := by decide +kernel
theorem dX4_faultOf_36 : decode cX4_faultOf 36 = .ok (.bipush 47, 2) := by decide +kernel
theorem dX4_faultOf_38 : decode cX4_faultOf 38 = .ok (.if_icmp .eq 9, 3) := by decide +kernel
theorem dX4_faultOf_41 : decode cX4_faultOf 41 = .ok (.iload_n 0, 1) := by decide +kernel
theorem dX4_faultOf_42 : decode cX4_faultOf 42 = .ok (.bipush 37, 2) := by decide +kernel
theorem dX4_faultOf_44 : decode cX4_faultOf 44 = .ok (.if_icmp .ne 13, 3) := by decide +kernel
theorem dX4_faultOf_47 : decode cX4_faultOf 47 = .ok (.lload 4, 2) := by decide +kernel
theorem dX4_faultOf_49 : decode cX4_faultOf 49 = .ok (.lconst 0, 1) := by decide +kernel
theorem dX4_faultOf_50 : decode cX4_faultOf 50 = .ok (.lcmp, 1) := by decide +kernel
theorem dX4_faultOf_51 : decode cX4_faultOf 51 = .ok (.ifCond .ne 6, 3) := by decide +kernel
theorem dX4_faultOf_54 : decode cX4_faultOf 54 = .ok (.bipush 122, 2) := by decide +kernel
theorem dX4_faultOf_56 : decode cX4_faultOf 56 = .ok (.ireturn, 1) := by decide +kernel
theorem dX4_faultOf_57 : decode cX4_faultOf 57 = .ok (.iload_n 1, 1) := by decide +kernel
theorem dX4_faultOf_58 : decode cX4_faultOf 58 = .ok (.iconst 1, 1) := by decide +kernel
theorem dX4_faultOf_59 : decode cX4_faultOf 59 = .ok (.iand, 1) := by decide +kernel
theorem dX4_faultOf_60 : decode cX4_faultOf 60 = .ok (.ifCond .ne 21, 3) := by decide +kernel
theorem dX4_faultOf_63 : decode cX4_faultOf 63 = .ok (.iload_n 0, 1) := by decide +kernel
theorem dX4_faultOf_64 : decode cX4_faultOf 64 = .ok (.bipush 114, 2) := by decide +kernel
theorem dX4_faultOf_66 : decode cX4_faultOf 66 = .ok (.if_icmp .eq 15, 3) := by decide +kernel
theorem dX4_faultOf_69 : decode cX4_faultOf 69 = .ok (.iload_n 0, 1) := by decide +kernel
theorem dX4_faultOf_70 : decode cX4_faultOf 70 = .ok (.bipush 60, 2) := by decide +kernel
theorem dX4_faultOf_72 : decode cX4_faultOf 72 = .ok (.if_icmp .eq 9, 3) := by decide +kernel
theorem dX4_faultOf_75 : decode cX4_faultOf 75 = .ok (.iload_n 0, 1) := by decide +kernel
theorem dX4_faultOf_76 : decode cX4_faultOf 76 = .ok (.bipush 61, 2) := by decide +kernel
theorem dX4_faultOf_78 : decode cX4_faultOf 78 = .ok (.if_icmp .ne 7, 3) := by decide +kernel
theorem dX4_faultOf_81 : decode cX4_faultOf 81 = .ok (.iconst 1, 1) := by decide +kernel
theorem dX4_faultOf_82 : decode cX4_faultOf 82 = .ok (.goto 4, 3) := by decide +kernel
theorem dX4_faultOf_85 : decode cX4_faultOf 85 = .ok (.iconst 0, 1) := by decide +kernel
theorem dX4_faultOf_86 : decode cX4_faultOf 86 = .ok (.istore 6, 2) := by decide +kernel
theorem dX4_faultOf_88 : decode cX4_faultOf 88 = .ok (.iload_n 0, 1) := by decide +kernel
theorem dX4_faultOf_89 : decode cX4_faultOf 89 = .ok (.lload_n 2, 1) := by decide +kernel
theorem dX4_faultOf_90 : decode cX4_faultOf 90 = .ok (.lload 4, 2) := by decide +kernel
theorem dX4_faultOf_92 : decode cX4_faultOf 92 = .ok (.invokestatic 25, 3) := by decide +kernel
theorem dX4_faultOf_95 : decode cX4_faultOf 95 = .ok (.lstore 7, 2) := by decide +kernel
theorem dX4_faultOf_97 : decode cX4_faultOf 97 = .ok (.iload 6, 2) := by decide +kernel
theorem dX4_faultOf_99 : decode cX4_faultOf 99 = .ok (.ifCond .ne 27, 3) := by decide +kernel
theorem dX4_faultOf_102 : decode cX4_faultOf 102 = .ok (.lload 7, 2) := by decide +kernel
theorem dX4_faultOf_104 : decode cX4_faultOf 104 = .ok (.iload_n 1, 1) := by decide +kernel
theorem dX4_faultOf_105 : decode cX4_faultOf 105 = .ok (.invokestatic 15, 3) := by decide +kernel
theorem dX4_faultOf_108 : decode cX4_faultOf 108 = .ok (.lload 7, 2) := by decide +kernel
theorem dX4_faultOf_110 : decode cX4_faultOf 110 = .ok (.lcmp, 1) := by decide +kernel
theorem dX4_faultOf_111 : decode cX4_faultOf 111 = .ok (.ifCond .ne 18, 3) := by decide +kernel
theorem dX4_faultOf_114 : decode cX4_faultOf 114 = .ok (.iload_n 0, 1) := by decide +kernel
theorem dX4_faultOf_115 : decode cX4_faultOf 115 = .ok (.bipush 108, 2) := by decide +kernel
theorem dX4_faultOf_117 : decode cX4_faultOf 117 = .ok (.if_icmp .ne 9, 3) := by decide +kernel
theorem dX4_faultOf_120 : decode cX4_faultOf 120 = .ok (.lload_n 2, 1) := by decide +kernel
theorem dX4_faultOf_121 : decode cX4_faultOf 121 = .ok (.lconst 0, 1) := by decide +kernel
theorem dX4_faultOf_122 : decode cX4_faultOf 122 = .ok (.lcmp, 1) := by decide +kernel
theorem dX4_faultOf_123 : decode cX4_faultOf 123 = .ok (.ifCond .lt 6, 3) := by decide +kernel
theorem dX4_faultOf_126 : decode cX4_faultOf 126 = .ok (.bipush 32, 2) := by decide +kernel
theorem dX4_faultOf_128 : decode cX4_faultOf 128 = .ok (.ireturn, 1) := by decide +kernel
theorem dX4_faultOf_129 : decode cX4_faultOf 129 = .ok (.iload_n 0, 1) := by decide +kernel
theorem dX4_faultOf_130 : decode cX4_faultOf 130 = .ok (.bipush 108, 2) := by decide +kernel
theorem dX4_faultOf_132 : decode cX4_faultOf 132 = .ok (.if_icmp .ne 8, 3) := by decide +kernel
theorem dX4_faultOf_135 : decode cX4_faultOf 135 = .ok (.bipush 115, 2) := by decide +kernel
theorem dX4_faultOf_137 : decode cX4_faultOf 137 = .ok (.goto 5, 3) := by decide +kernel
theorem dX4_faultOf_140 : decode cX4_faultOf 140 = .ok (.bipush 111, 2) := by decide +kernel
theorem dX4_faultOf_142 : decode cX4_faultOf 142 = .ok (.ireturn, 1) := by decide +kernel
theorem dX4_resultOf_0 : decode cX4_resultOf 0 = .ok (.iload_n 0, 1) := by decide +kernel
theorem dX4_resultOf_1 : decode cX4_resultOf 1 = .ok (.lload_n 2, 1) := by decide +kernel
theorem dX4_resultOf_2 : decode cX4_resultOf 2 = .ok (.lload 4, 2) := by decide +kernel
theorem dX4_resultOf_4 : decode cX4_resultOf 4 = .ok (.invokestatic 25, 3) := by decide +kernel
theorem dX4_resultOf_7 : decode cX4_resultOf 7 = .ok (.lstore 6, 2) := by decide +kernel
theorem dX4_resultOf_9 : decode cX4_resultOf 9 = .ok (.iload_n 0, 1) := by decide +kernel
theorem dX4_resultOf_10 : decode cX4_resultOf 10 = .ok (.bipush 60, 2) := by decide +kernel
theorem dX4_resultOf_12 : decode cX4_resultOf 12 = .ok (.if_icmp .eq 9, 3) := by decide +kernel
theorem dX4_resultOf_15 : decode cX4_resultOf 15 = .ok (.iload_n 0, 1) := by decide +kernel
theorem dX4_resultOf_16 : decode cX4_resultOf 16 = .ok (.bipush 61, 2) := by decide +kernel
theorem dX4_resultOf_18 : decode cX4_resultOf 18 = .ok (.if_icmp .ne 8, 3) := by decide +kernel
theorem dX4_resultOf_21 : decode cX4_resultOf 21 = .ok (.lload 6, 2) := by decide +kernel
theorem dX4_resultOf_23 : decode cX4_resultOf 23 = .ok (.goto 9, 3) := by decide +kernel
theorem dX4_resultOf_26 : decode cX4_resultOf 26 = .ok (.lload 6, 2) := by decide +kernel
theorem dX4_resultOf_28 : decode cX4_resultOf 28 = .ok (.iload_n 1, 1) := by decide +kernel
theorem dX4_resultOf_29 : decode cX4_resultOf 29 = .ok (.invokestatic 15, 3) := by decide +kernel
theorem dX4_resultOf_32 : decode cX4_resultOf 32 = .ok (.lreturn, 1) := by decide +kernel
theorem dX4_rawOf_0 : decode cX4_rawOf 0 = .ok (.iload_n 0, 1) := by decide +kernel
theorem dX4_rawOf_1 : decode cX4_rawOf 1 = .ok (.lookupswitch 193 #[(37, 133), (38, 147), (42, 115), (43, 107), (45, 111), (47, 119), (60, 169), (61, 181), (94, 155), (108, 159), (114, 164), (124, 151)], 107) := by decide +kernel
theorem dX4_rawOf_108 : decode cX4_rawOf 108 = .ok (.lload_n 1, 1) := by decide +kernel
theorem dX4_rawOf_109 : decode cX4_rawOf 109 = .ok (.lload_n 3, 1) := by decide +kernel
theorem dX4_rawOf_110 : decode cX4_rawOf 110 = .ok (.ladd, 1) := by decide +kernel
theorem dX4_rawOf_111 : decode cX4_rawOf 111 = .ok (.lreturn, 1) := by decide +kernel
theorem dX4_rawOf_112 : decode cX4_rawOf 112 = .ok (.lload_n 1, 1) := by decide +kernel
theorem dX4_rawOf_113 : decode cX4_rawOf 113 = .ok (.lload_n 3, 1) := by decide +kernel
theorem dX4_rawOf_114 : decode cX4_rawOf 114 = .ok (.lsub, 1) := by decide +kernel
theorem dX4_rawOf_115 : decode cX4_rawOf 115 = .ok (.lreturn, 1) := by decide +kernel
theorem dX4_rawOf_116 : decode cX4_rawOf 116 = .ok (.lload_n 1, 1) := by decide +kernel
theorem dX4_rawOf_117 : decode cX4_rawOf 117 = .ok (.lload_n 3, 1) := by decide +kernel
theorem dX4_rawOf_118 : decode cX4_rawOf 118 = .ok (.lmul, 1) := by decide +kernel
theorem dX4_rawOf_119 : decode cX4_rawOf 119 = .ok (.lreturn, 1) := by decide +kernel
theorem dX4_rawOf_120 : decode cX4_rawOf 120 = .ok (.lload_n 3, 1) := by decide +kernel
theorem dX4_rawOf_121 : decode cX4_rawOf 121 = .ok (.lconst 0, 1) := by decide +kernel
theorem dX4_rawOf_122 : decode cX4_rawOf 122 = .ok (.lcmp, 1) := by decide +kernel
theorem dX4_rawOf_123 : decode cX4_rawOf 123 = .ok (.ifCond .ne 7, 3) := by decide +kernel
theorem dX4_rawOf_126 : decode cX4_rawOf 126 = .ok (.lconst 0, 1) := by decide +kernel
theorem dX4_rawOf_127 : decode cX4_rawOf 127 = .ok (.goto 6, 3) := by decide +kernel
theorem dX4_rawOf_130 : decode cX4_rawOf 130 = .ok (.lload_n 1, 1) := by decide +kernel
theorem dX4_rawOf_131 : decode cX4_rawOf 131 = .ok (.lload_n 3, 1) := by decide +kernel
theorem dX4_rawOf_132 : decode cX4_rawOf 132 = .ok (.ldiv, 1) := by decide +kernel
theorem dX4_rawOf_133 : decode cX4_rawOf 133 = .ok (.lreturn, 1) := by decide +kernel
theorem dX4_rawOf_134 : decode cX4_rawOf 134 = .ok (.lload_n 3, 1) := by decide +kernel
theorem dX4_rawOf_135 : decode cX4_rawOf 135 = .ok (.lconst 0, 1) := by decide +kernel
theorem dX4_rawOf_136 : decode cX4_rawOf 136 = .ok (.lcmp, 1) := by decide +kernel
theorem dX4_rawOf_137 : decode cX4_rawOf 137 = .ok (.ifCond .ne 7, 3) := by decide +kernel
theorem dX4_rawOf_140 : decode cX4_rawOf 140 = .ok (.lconst 0, 1) := by decide +kernel
theorem dX4_rawOf_141 : decode cX4_rawOf 141 = .ok (.goto 6, 3) := by decide +kernel
theorem dX4_rawOf_144 : decode cX4_rawOf 144 = .ok (.lload_n 1, 1) := by decide +kernel
theorem dX4_rawOf_145 : decode cX4_rawOf 145 = .ok (.lload_n 3, 1) := by decide +kernel
theorem dX4_rawOf_146 : decode cX4_rawOf 146 = .ok (.lrem, 1) := by decide +kernel
theorem dX4_rawOf_147 : decode cX4_rawOf 147 = .ok (.lreturn, 1) := by decide +kernel
theorem dX4_rawOf_148 : decode cX4_rawOf 148 = .ok (.lload_n 1, 1) := by decide +kernel
theorem dX4_rawOf_149 : decode cX4_rawOf 149 = .ok (.lload_n 3, 1) := by decide +kernel
theorem dX4_rawOf_150 : decode cX4_rawOf 150 = .ok (.land, 1) := by decide +kernel
theorem dX4_rawOf_151 : decode cX4_rawOf 151 = .ok (.lreturn, 1) := by decide +kernel
theorem dX4_rawOf_152 : decode cX4_rawOf 152 = .ok (.lload_n 1, 1) := by decide +kernel
theorem dX4_rawOf_153 : decode cX4_rawOf 153 = .ok (.lload_n 3, 1) := by decide +kernel
theorem dX4_rawOf_154 : decode cX4_rawOf 154 = .ok (.lor, 1) := by decide +kernel
theorem dX4_rawOf_155 : decode cX4_rawOf 155 = .ok (.lreturn, 1) := by decide +kernel
theorem dX4_rawOf_156 : decode cX4_rawOf 156 = .ok (.lload_n 1, 1) := by decide +kernel
theorem dX4_rawOf_157 : decode cX4_rawOf 157 = .ok (.lload_n 3, 1) := by decide +kernel
theorem dX4_rawOf_158 : decode cX4_rawOf 158 = .ok (.lxor, 1) := by decide +kernel
theorem dX4_rawOf_159 : decode cX4_rawOf 159 = .ok (.lreturn, 1) := by decide +kernel
theorem dX4_rawOf_160 : decode cX4_rawOf 160 = .ok (.lload_n 1, 1) := by decide +kernel
theorem dX4_rawOf_161 : decode cX4_rawOf 161 = .ok (.lload_n 3, 1) := by decide +kernel
theorem dX4_rawOf_162 : decode cX4_rawOf 162 = .ok (.l2i, 1) := by decide +kernel
theorem dX4_rawOf_163 : decode cX4_rawOf 163 = .ok (.lshl, 1) := by decide +kernel
theorem dX4_rawOf_164 : decode cX4_rawOf 164 = .ok (.lreturn, 1) := by decide +kernel
theorem dX4_rawOf_165 : decode cX4_rawOf 165 = .ok (.lload_n 1, 1) := by decide +kernel
theorem dX4_rawOf_166 : decode cX4_rawOf 166 = .ok (.lload_n 3, 1) := by decide +kernel
theorem dX4_rawOf_167 : decode cX4_rawOf 167 = .ok (.l2i, 1) := by decide +kernel
theorem dX4_rawOf_168 : decode cX4_rawOf 168 = .ok (.lshr, 1) := by decide +kernel
theorem dX4_rawOf_169 : decode cX4_rawOf 169 = .ok (.lreturn, 1) := by decide +kernel
theorem dX4_rawOf_170 : decode cX4_rawOf 170 = .ok (.lload_n 1, 1) := by decide +kernel
theorem dX4_rawOf_171 : decode cX4_rawOf 171 = .ok (.lload_n 3, 1) := by decide +kernel
theorem dX4_rawOf_172 : decode cX4_rawOf 172 = .ok (.lcmp, 1) := by decide +kernel
theorem dX4_rawOf_173 : decode cX4_rawOf 173 = .ok (.ifCond .ge 7, 3) := by decide +kernel
theorem dX4_rawOf_176 : decode cX4_rawOf 176 = .ok (.lconst 1, 1) := by decide +kernel
theorem dX4_rawOf_177 : decode cX4_rawOf 177 = .ok (.goto 4, 3) := by decide +kernel
theorem dX4_rawOf_180 : decode cX4_rawOf 180 = .ok (.lconst 0, 1) := by decide +kernel
theorem dX4_rawOf_181 : decode cX4_rawOf 181 = .ok (.lreturn, 1) := by decide +kernel
theorem dX4_rawOf_182 : decode cX4_rawOf 182 = .ok (.lload_n 1, 1) := by decide +kernel
theorem dX4_rawOf_183 : decode cX4_rawOf 183 = .ok (.lload_n 3, 1) := by decide +kernel
theorem dX4_rawOf_184 : decode cX4_rawOf 184 = .ok (.lcmp, 1) := by decide +kernel
theorem dX4_rawOf_185 : decode cX4_rawOf 185 = .ok (.ifCond .ne 7, 3) := by decide +kernel
theorem dX4_rawOf_188 : decode cX4_rawOf 188 = .ok (.lconst 1, 1) := by decide +kernel
theorem dX4_rawOf_189 : decode cX4_rawOf 189 = .ok (.goto 4, 3) := by decide +kernel
theorem dX4_rawOf_192 : decode cX4_rawOf 192 = .ok (.lconst 0, 1) := by decide +kernel
theorem dX4_rawOf_193 : decode cX4_rawOf 193 = .ok (.lreturn, 1) := by decide +kernel
theorem dX4_rawOf_194 : decode cX4_rawOf 194 = .ok (.lconst 0, 1) := by decide +kernel
theorem dX4_rawOf_195 : decode cX4_rawOf 195 = .ok (.lreturn, 1) := by decide +kernel
theorem dX5_init_0 : decode cX5_init 0 = .ok (.aload_n 0, 1) := by decide +kernel
theorem dX5_init_1 : decode cX5_init 1 = .ok (.invokespecial 3, 3) := by decide +kernel
theorem dX5_init_4 : decode cX5_init 4 = .ok (.aload_n 0, 1) := by decide +kernel
theorem dX5_init_5 : decode cX5_init 5 = .ok (.iconst 3, 1) := by decide +kernel
theorem dX5_init_6 : decode cX5_init 6 = .ok (.anewarray 9, 3) := by decide +kernel
theorem dX5_init_9 : decode cX5_init 9 = .ok (.putfield 11, 3) := by decide +kernel
theorem dX5_init_12 : decode cX5_init 12 = .ok (.aload_n 0, 1) := by decide +kernel
theorem dX5_init_13 : decode cX5_init 13 = .ok (.bipush 100, 2) := by decide +kernel
theorem dX5_init_15 : decode cX5_init 15 = .ok (.anewarray 17, 3) := by decide +kernel
theorem dX5_init_18 : decode cX5_init 18 = .ok (.putfield 19, 3) := by decide +kernel
theorem dX5_init_21 : decode cX5_init 21 = .ok (.aload_n 0, 1) := by decide +kernel
theorem dX5_init_22 : decode cX5_init 22 = .ok (.bipush 60, 2) := by decide +kernel
theorem dX5_init_24 : decode cX5_init 24 = .ok (.anewarray 9, 3) := by decide +kernel
theorem dX5_init_27 : decode cX5_init 27 = .ok (.putfield 23, 3) := by decide +kernel
theorem dX5_init_30 : decode cX5_init 30 = .ok (.aload_n 0, 1) := by decide +kernel
theorem dX5_init_31 : decode cX5_init 31 = .ok (.bipush 100, 2) := by decide +kernel
theorem dX5_init_33 : decode cX5_init 33 = .ok (.anewarray 17, 3) := by decide +kernel
theorem dX5_init_36 : decode cX5_init 36 = .ok (.putfield 26, 3) := by decide +kernel
theorem dX5_init_39 : decode cX5_init 39 = .ok (.aload_n 0, 1) := by decide +kernel
theorem dX5_init_40 : decode cX5_init 40 = .ok (.bipush 60, 2) := by decide +kernel
theorem dX5_init_42 : decode cX5_init 42 = .ok (.anewarray 9, 3) := by decide +kernel
theorem dX5_init_45 : decode cX5_init 45 = .ok (.putfield 29, 3) := by decide +kernel
theorem dX5_init_48 : decode cX5_init 48 = .ok (.aload_n 0, 1) := by decide +kernel
theorem dX5_init_49 : decode cX5_init 49 = .ok (.bipush 100, 2) := by decide +kernel
theorem dX5_init_51 : decode cX5_init 51 = .ok (.newarray .boolean, 2) := by decide +kernel
theorem dX5_init_53 : decode cX5_init 53 = .ok (.putfield 32, 3) := by decide +kernel
theorem dX5_init_56 : decode cX5_init 56 = .ok (.aload_n 0, 1) := by decide +kernel
theorem dX5_init_57 : decode cX5_init 57 = .ok (.bipush 60, 2) := by decide +kernel
theorem dX5_init_59 : decode cX5_init 59 = .ok (.newarray .boolean, 2) := by decide +kernel
theorem dX5_init_61 : decode cX5_init 61 = .ok (.putfield 36, 3) := by decide +kernel
theorem dX5_init_64 : decode cX5_init 64 = .ok (.iconst 0, 1) := by decide +kernel
theorem dX5_init_65 : decode cX5_init 65 = .ok (.istore_n 1, 1) := by decide +kernel
theorem dX5_init_66 : decode cX5_init 66 = .ok (.iload_n 1, 1) := by decide +kernel
theorem dX5_init_67 : decode cX5_init 67 = .ok (.bipush 100, 2) := by decide +kernel
theorem dX5_init_69 : decode cX5_init 69 = .ok (.if_icmp .ge 26, 3) := by decide +kernel
theorem dX5_init_72 : decode cX5_init 72 = .ok (.aload_n 0, 1) := by decide +kernel
theorem dX5_init_73 : decode cX5_init 73 = .ok (.getfield 19, 3) := by decide +kernel
theorem dX5_init_76 : decode cX5_init 76 = .ok (.iload_n 1, 1) := by decide +kernel
theorem dX5_init_77 : decode cX5_init 77 = .ok (.new 17, 3) := by decide +kernel
theorem dX5_init_80 : decode cX5_init 80 = .ok (.dup, 1) := by decide +kernel
theorem dX5_init_81 : decode cX5_init 81 = .ok (.iconst 0, 1) := by decide +kernel
theorem dX5_init_82 : decode cX5_init 82 = .ok (.bipush 32, 2) := by decide +kernel
theorem dX5_init_84 : decode cX5_init 84 = .ok (.iconst 0, 1) := by decide +kernel
theorem dX5_init_85 : decode cX5_init 85 = .ok (.invokespecial 39, 3) := by decide +kernel
theorem dX5_init_88 : decode cX5_init 88 = .ok (.aastore, 1) := by decide +kernel
theorem dX5_init_89 : decode cX5_init 89 = .ok (.iinc 1 1, 3) := by decide +kernel
theorem dX5_init_92 : decode cX5_init 92 = .ok (.goto (-26), 3) := by decide +kernel
theorem dX5_init_95 : decode cX5_init 95 = .ok (.iconst 0, 1) := by decide +kernel
theorem dX5_init_96 : decode cX5_init 96 = .ok (.istore_n 1, 1) := by decide +kernel
theorem dX5_init_97 : decode cX5_init 97 = .ok (.iload_n 1, 1) := by decide +kernel
theorem dX5_init_98 : decode cX5_init 98 = .ok (.bipush 60, 2) := by decide +kernel
theorem dX5_init_100 : decode cX5_init 100 = .ok (.if_icmp .ge 26, 3) := by decide +kernel
theorem dX5_init_103 : decode cX5_init 103 = .ok (.aload_n 0, 1) := by decide +kernel
theorem dX5_init_104 : decode cX5_init 104 = .ok (.getfield 23, 3) := by decide +kernel
theorem dX5_init_107 : decode cX5_init 107 = .ok (.iload_n 1, 1) := by decide +kernel
theorem dX5_init_108 : decode cX5_init 108 = .ok (.new 9, 3) := by decide +kernel
theorem dX5_init_111 : decode cX5_init 111 = .ok (.dup, 1) := by decide +kernel
theorem dX5_init_112 : decode cX5_init 112 = .ok (.bipush 101, 2) := by decide +kernel
theorem dX5_init_114 : decode cX5_init 114 = .ok (.aconst_null, 1) := by decide +kernel
theorem dX5_init_115 : decode cX5_init 115 = .ok (.aconst_null, 1) := by decide +kernel
theorem dX5_init_116 : decode cX5_init 116 = .ok (.invokespecial 42, 3) := by decide +kernel
theorem dX5_init_119 : decode cX5_init 119 = .ok (.aastore, 1) := by decide +kernel
theorem dX5_init_120 : decode cX5_init 120 = .ok (.iinc 1 1, 3) := by decide +kernel
theorem dX5_init_123 : decode cX5_init 123 = .ok (.goto (-26), 3) := by decide +kernel
theorem dX5_init_126 : decode cX5_init 126 = .ok (.return_, 1) := by decide +kernel
theorem dX5_improve_0 : decode cX5_improve 0 = .ok (.aload_n 0, 1) := by decide +kernel
theorem dX5_improve_1 : decode cX5_improve 1 = .ok (.iconst 0, 1) := by decide +kernel
theorem dX5_improve_2 : decode cX5_improve 2 = .ok (.putfield 45, 3) := by decide +kernel
theorem dX5_improve_5 : decode cX5_improve 5 = .ok (.aload_n 0, 1) := by decide +kernel
theorem dX5_improve_6 : decode cX5_improve 6 = .ok (.iconst 0, 1) := by decide +kernel
theorem dX5_improve_7 : decode cX5_improve 7 = .ok (.putfield 49, 3) := by decide +kernel
theorem dX5_improve_10 : decode cX5_improve 10 = .ok (.aload_n 0, 1) := by decide +kernel
theorem dX5_improve_11 : decode cX5_improve 11 = .ok (.aload_n 1, 1) := by decide +kernel
theorem dX5_improve_12 : decode cX5_improve 12 = .ok (.invokevirtual 52, 3) := by decide +kernel
theorem dX5_improve_15 : decode cX5_improve 15 = .ok (.iconst 0, 1) := by decide +kernel
theorem dX5_improve_16 : decode cX5_improve 16 = .ok (.istore_n 2, 1) := by decide +kernel
theorem dX5_improve_17 : decode cX5_improve 17 = .ok (.iload_n 2, 1) := by decide +kernel
theorem dX5_improve_18 : decode cX5_improve 18 = .ok (.aload_n 1, 1) := by decide +kernel
theorem dX5_improve_19 : decode cX5_improve 19 = .ok (.getfield 56, 3) := by decide +kernel
theorem dX5_improve_22 : decode cX5_improve 22 = .ok (.if_icmp .ge 49, 3) := by decide +kernel
theorem dX5_improve_25 : decode cX5_improve 25 = .ok (.iload_n 2, 1) := by decide +kernel
theorem dX5_improve_26 : decode cX5_improve 26 = .ok (.bipush 100, 2) := by decide +kernel
theorem dX5_improve_28 : decode cX5_improve 28 = .ok (.if_icmp .ge 43, 3) := by decide +kernel
theorem dX5_improve_31 : decode cX5_improve 31 = .ok (.aload_n 0, 1) := by decide +kernel
theorem dX5_improve_32 : decode cX5_improve 32 = .ok (.getfield 32, 3) := by decide +kernel
theorem dX5_improve_35 : decode cX5_improve 35 = .ok (.iload_n 2, 1) := by decide +kernel
theorem dX5_improve_36 : decode cX5_improve 36 = .ok (.baload, 1) := by decide +kernel
theorem dX5_improve_37 : decode cX5_improve 37 = .ok (.ifCond .eq 28, 3) := by decide +kernel
theorem dX5_improve_40 : decode cX5_improve 40 = .ok (.aload_n 0, 1) := by decide +kernel
theorem dX5_improve_41 : decode cX5_improve 41 = .ok (.getfield 26, 3) := by decide +kernel
theorem dX5_improve_44 : decode cX5_improve 44 = .ok (.iload_n 2, 1) := by decide +kernel
theorem dX5_improve_45 : decode cX5_improve 45 = .ok (.aload_n 0, 1) := by decide +kernel
theorem dX5_improve_46 : decode cX5_improve 46 = .ok (.aload_n 0, 1) := by decide +kernel
theorem dX5_improve_47 : decode cX5_improve 47 = .ok (.aload_n 1, 1) := by decide +kernel
theorem dX5_improve_48 : decode cX5_improve 48 = .ok (.iload_n 2, 1) := by decide +kernel
theorem dX5_improve_49 : decode cX5_improve 49 = .ok (.invokevirtual 61, 3) := by decide +kernel
theorem dX5_improve_52 : decode cX5_improve 52 = .ok (.aload_n 0, 1) := by decide +kernel
theorem dX5_improve_53 : decode cX5_improve 53 = .ok (.getfield 19, 3) := by decide +kernel
theorem dX5_improve_56 : decode cX5_improve 56 = .ok (.iload_n 2, 1) := by decide +kernel
theorem dX5_improve_57 : decode cX5_improve 57 = .ok (.aaload, 1) := by decide +kernel
theorem dX5_improve_58 : decode cX5_improve 58 = .ok (.invokevirtual 65, 3) := by decide +kernel
theorem dX5_improve_61 : decode cX5_improve 61 = .ok (.invokevirtual 69, 3) := by decide +kernel
theorem dX5_improve_64 : decode cX5_improve 64 = .ok (.aastore, 1) := by decide +kernel
theorem dX5_improve_65 : decode cX5_improve 65 = .ok (.iinc 2 1, 3) := by decide +kernel
theorem dX5_improve_68 : decode cX5_improve 68 = .ok (.goto (-51), 3) := by decide +kernel
theorem dX5_improve_71 : decode cX5_improve 71 = .ok (.iconst 0, 1) := by decide +kernel
theorem dX5_improve_72 : decode cX5_improve 72 = .ok (.istore_n 2, 1) := by decide +kernel
theorem dX5_improve_73 : decode cX5_improve 73 = .ok (.iload_n 2, 1) := by decide +kernel
theorem dX5_improve_74 : decode cX5_improve 74 = .ok (.aload_n 1, 1) := by decide +kernel
theorem dX5_improve_75 : decode cX5_improve 75 = .ok (.getfield 73, 3) := by decide +kernel
theorem dX5_improve_78 : decode cX5_improve 78 = .ok (.if_icmp .ge 49, 3) := by decide +kernel
theorem dX5_improve_81 : decode cX5_improve 81 = .ok (.iload_n 2, 1) := by decide +kernel
theorem dX5_improve_82 : decode cX5_improve 82 = .ok (.bipush 60, 2) := by decide +kernel
theorem dX5_improve_84 : decode cX5_improve 84 = .ok (.if_icmp .ge 43, 3) := by decide +kernel
theorem dX5_improve_87 : decode cX5_improve 87 = .ok (.aload_n 0, 1) := by decide +kernel
theorem dX5_improve_88 : decode cX5_improve 88 = .ok (.getfield 36, 3) := by decide +kernel
theorem dX5_improve_91 : decode cX5_improve 91 = .ok (.iload_n 2, 1) := by decide +kernel
theorem dX5_improve_92 : decode cX5_improve 92 = .ok (.baload, 1) := by decide +kernel
theorem dX5_improve_93 : decode cX5_improve 93 = .ok (.ifCond .eq 28, 3) := by decide +kernel
theorem dX5_improve_96 : decode cX5_improve 96 = .ok (.aload_n 0, 1) := by decide +kernel
theorem dX5_improve_97 : decode cX5_improve 97 = .ok (.getfield 29, 3) := by decide +kernel
theorem dX5_improve_100 : decode cX5_improve 100 = .ok (.iload_n 2, 1) := by decide +kernel
theorem dX5_improve_101 : decode cX5_improve 101 = .ok (.aload_n 0, 1) := by decide +kernel
theorem dX5_improve_102 : decode cX5_improve 102 = .ok (.aload_n 0, 1) := by decide +kernel
theorem dX5_improve_103 : decode cX5_improve 103 = .ok (.aload_n 1, 1) := by decide +kernel
theorem dX5_improve_104 : decode cX5_improve 104 = .ok (.iload_n 2, 1) := by decide +kernel
theorem dX5_improve_105 : decode cX5_improve 105 = .ok (.invokevirtual 76, 3) := by decide +kernel
theorem dX5_improve_108 : decode cX5_improve 108 = .ok (.aload_n 0, 1) := by decide +kernel
theorem dX5_improve_109 : decode cX5_improve 109 = .ok (.getfield 23, 3) := by decide +kernel
theorem dX5_improve_112 : decode cX5_improve 112 = .ok (.iload_n 2, 1) := by decide +kernel
theorem dX5_improve_113 : decode cX5_improve 113 = .ok (.aaload, 1) := by decide +kernel
theorem dX5_improve_114 : decode cX5_improve 114 = .ok (.invokevirtual 80, 3) := by decide +kernel
theorem dX5_improve_117 : decode cX5_improve 117 = .ok (.invokevirtual 84, 3) := by decide +kernel
theorem dX5_improve_120 : decode cX5_improve 120 = .ok (.aastore, 1) := by decide +kernel
theorem dX5_improve_121 : decode cX5_improve 121 = .ok (.iinc 2 1, 3) := by decide +kernel
theorem dX5_improve_124 : decode cX5_improve 124 = .ok (.goto (-51), 3) := by decide +kernel
theorem dX5_improve_127 : decode cX5_improve 127 = .ok (.iconst 0, 1) := by decide +kernel
theorem dX5_improve_128 : decode cX5_improve 128 = .ok (.istore_n 2, 1) := by decide +kernel
theorem dX5_improve_129 : decode cX5_improve 129 = .ok (.iload_n 2, 1) := by decide +kernel
theorem dX5_improve_130 : decode cX5_improve 130 = .ok (.iconst 3, 1) := by decide +kernel
theorem dX5_improve_131 : decode cX5_improve 131 = .ok (.if_icmp .ge 43, 3) := by decide +kernel
theorem dX5_improve_134 : decode cX5_improve 134 = .ok (.aload_n 0, 1) := by decide +kernel
theorem dX5_improve_135 : decode cX5_improve 135 = .ok (.getfield 11, 3) := by decide +kernel
theorem dX5_improve_138 : decode cX5_improve 138 = .ok (.iload_n 2, 1) := by decide +kernel
theorem dX5_improve_139 : decode cX5_improve 139 = .ok (.aload_n 0, 1) := by decide +kernel
theorem dX5_improve_140 : decode cX5_improve 140 = .ok (.aload_n 1, 1) := by decide +kernel
theorem dX5_improve_141 : decode cX5_improve 141 = .ok (.getfield 88, 3) := by decide +kernel
theorem dX5_improve_144 : decode cX5_improve 144 = .ok (.iload_n 2, 1) := by decide +kernel
theorem dX5_improve_145 : decode cX5_improve 145 = .ok (.aaload, 1) := by decide +kernel
theorem dX5_improve_146 : decode cX5_improve 146 = .ok (.invokevirtual 89, 3) := by decide +kernel
theorem dX5_improve_149 : decode cX5_improve 149 = .ok (.aastore, 1) := by decide +kernel
theorem dX5_improve_150 : decode cX5_improve 150 = .ok (.aload_n 0, 1) := by decide +kernel
theorem dX5_improve_151 : decode cX5_improve 151 = .ok (.dup, 1) := by decide +kernel
theorem dX5_improve_152 : decode cX5_improve 152 = .ok (.getfield 49, 3) := by decide +kernel
theorem dX5_improve_155 : decode cX5_improve 155 = .ok (.aload_n 0, 1) := by decide +kernel
theorem dX5_improve_156 : decode cX5_improve 156 = .ok (.getfield 11, 3) := by decide +kernel
theorem dX5_improve_159 : decode cX5_improve 159 = .ok (.iload_n 2, 1) := by decide +kernel
theorem dX5_improve_160 : decode cX5_improve 160 = .ok (.aaload, 1) := by decide +kernel
theorem dX5_improve_161 : decode cX5_improve 161 = .ok (.invokestatic 92, 3) := by decide +kernel
theorem dX5_improve_164 : decode cX5_improve 164 = .ok (.iadd, 1) := by decide +kernel
theorem dX5_improve_165 : decode cX5_improve 165 = .ok (.putfield 49, 3) := by decide +kernel
theorem dX5_improve_168 : decode cX5_improve 168 = .ok (.iinc 2 1, 3) := by decide +kernel
theorem dX5_improve_171 : decode cX5_improve 171 = .ok (.goto (-42), 3) := by decide +kernel
theorem dX5_improve_174 : decode cX5_improve 174 = .ok (.return_, 1) := by decide +kernel
theorem dX5_markUsed_0 : decode cX5_markUsed 0 = .ok (.iconst 0, 1) := by decide +kernel
theorem dX5_markUsed_1 : decode cX5_markUsed 1 = .ok (.istore_n 2, 1) := by decide +kernel
theorem dX5_markUsed_2 : decode cX5_markUsed 2 = .ok (.iload_n 2, 1) := by decide +kernel
theorem dX5_markUsed_3 : decode cX5_markUsed 3 = .ok (.bipush 100, 2) := by decide +kernel
theorem dX5_markUsed_5 : decode cX5_markUsed 5 = .ok (.if_icmp .ge 16, 3) := by decide +kernel
theorem dX5_markUsed_8 : decode cX5_markUsed 8 = .ok (.aload_n 0, 1) := by decide +kernel
theorem dX5_markUsed_9 : decode cX5_markUsed 9 = .ok (.getfield 32, 3) := by decide +kernel
theorem dX5_markUsed_12 : decode cX5_markUsed 12 = .ok (.iload_n 2, 1) := by decide +kernel
theorem dX5_markUsed_13 : decode cX5_markUsed 13 = .ok (.iconst 0, 1) := by decide +kernel
theorem dX5_markUsed_14 : decode cX5_markUsed 14 = .ok (.bastore, 1) := by decide +kernel
theorem dX5_markUsed_15 : decode cX5_markUsed 15 = .ok (.iinc 2 1, 3) := by decide +kernel
theorem dX5_markUsed_18 : decode cX5_markUsed 18 = .ok (.goto (-16), 3) := by decide +kernel
theorem dX5_markUsed_21 : decode cX5_markUsed 21 = .ok (.iconst 0, 1) := by decide +kernel
theorem dX5_markUsed_22 : decode cX5_markUsed 22 = .ok (.istore_n 2, 1) := by decide +kernel
theorem dX5_markUsed_23 : decode cX5_markUsed 23 = .ok (.iload_n 2, 1) := by decide +kernel
theorem dX5_markUsed_24 : decode cX5_markUsed 24 = .ok (.bipush 60, 2) := by decide +kernel
theorem dX5_markUsed_26 : decode cX5_markUsed 26 = .ok (.if_icmp .ge 16, 3) := by decide +kernel
theorem dX5_markUsed_29 : decode cX5_markUsed 29 = .ok (.aload_n 0, 1) := by decide +kernel
theorem dX5_markUsed_30 : decode cX5_markUsed 30 = .ok (.getfield 36, 3) := by decide +kernel
theorem dX5_markUsed_33 : decode cX5_markUsed 33 = .ok (.iload_n 2, 1) := by decide +kernel
theorem dX5_markUsed_34 : decode cX5_markUsed 34 = .ok (.iconst 0, 1) := by decide +kernel
theorem dX5_markUsed_35 : decode cX5_markUsed 35 = .ok (.bastore, 1) := by decide +kernel
theorem dX5_markUsed_36 : decode cX5_markUsed 36 = .ok (.iinc 2 1, 3) := by decide +kernel
theorem dX5_markUsed_39 : decode cX5_markUsed 39 = .ok (.goto (-16), 3) := by decide +kernel
theorem dX5_markUsed_42 : decode cX5_markUsed 42 = .ok (.iconst 0, 1) := by decide +kernel
theorem dX5_markUsed_43 : decode cX5_markUsed 43 = .ok (.istore_n 2, 1) := by decide +kernel
theorem dX5_markUsed_44 : decode cX5_markUsed 44 = .ok (.iload_n 2, 1) := by decide +kernel
theorem dX5_markUsed_45 : decode cX5_markUsed 45 = .ok (.iconst 3, 1) := by decide +kernel
theorem dX5_markUsed_46 : decode cX5_markUsed 46 = .ok (.if_icmp .ge 19, 3) := by decide +kernel
theorem dX5_markUsed_49 : decode cX5_markUsed 49 = .ok (.aload_n 0, 1) := by decide +kernel
theorem dX5_markUsed_50 : decode cX5_markUsed 50 = .ok (.aload_n 1, 1) := by decide +kernel
theorem dX5_markUsed_51 : decode cX5_markUsed 51 = .ok (.getfield 88, 3) := by decide +kernel
theorem dX5_markUsed_54 : decode cX5_markUsed 54 = .ok (.iload_n 2, 1) := by decide +kernel
theorem dX5_markUsed_55 : decode cX5_markUsed 55 = .ok (.aaload, 1) := by decide +kernel
theorem dX5_markUsed_56 : decode cX5_markUsed 56 = .ok (.invokevirtual 96, 3) := by decide +kernel
theorem dX5_markUsed_59 : decode cX5_markUsed 59 = .ok (.iinc 2 1, 3) := by decide +kernel
theorem dX5_markUsed_62 : decode cX5_markUsed 62 = .ok (.goto (-18), 3) := by decide +kernel
theorem dX5_markUsed_65 : decode cX5_markUsed 65 = .ok (.bipush 59, 2) := by decide +kernel
theorem dX5_markUsed_67 : decode cX5_markUsed 67 = .ok (.istore_n 2, 1) := by decide +kernel
theorem dX5_markUsed_68 : decode cX5_markUsed 68 = .ok (.iload_n 2, 1) := by decide +kernel
theorem dX5_markUsed_69 : decode cX5_markUsed 69 = .ok (.ifCond .lt 52, 3) := by decide +kernel
theorem dX5_markUsed_72 : decode cX5_markUsed 72 = .ok (.aload_n 1, 1) := by decide +kernel
theorem dX5_markUsed_73 : decode cX5_markUsed 73 = .ok (.iload_n 2, 1) := by decide +kernel
theorem dX5_markUsed_74 : decode cX5_markUsed 74 = .ok (.invokevirtual 76, 3) := by decide +kernel
theorem dX5_markUsed_77 : decode cX5_markUsed 77 = .ok (.astore_n 3, 1) := by decide +kernel
theorem dX5_markUsed_78 : decode cX5_markUsed 78 = .ok (.aload_n 3, 1) := by decide +kernel
theorem dX5_markUsed_79 : decode cX5_markUsed 79 = .ok (.ifnull 36, 3) := by decide +kernel
theorem dX5_markUsed_82 : decode cX5_markUsed 82 = .ok (.aload_n 0, 1) := by decide +kernel
theorem dX5_markUsed_83 : decode cX5_markUsed 83 = .ok (.getfield 36, 3) := by decide +kernel
theorem dX5_markUsed_86 : decode cX5_markUsed 86 = .ok (.iload_n 2, 1) := by decide +kernel
theorem dX5_markUsed_87 : decode cX5_markUsed 87 = .ok (.baload, 1) := by decide +kernel
theorem dX5_markUsed_88 : decode cX5_markUsed 88 = .ok (.ifCond .eq 27, 3) := by decide +kernel
theorem dX5_markUsed_91 : decode cX5_markUsed 91 = .ok (.aload_n 0, 1) := by decide +kernel
theorem dX5_markUsed_92 : decode cX5_markUsed 92 = .ok (.aload_n 3, 1) := by decide +kernel
theorem dX5_markUsed_93 : decode cX5_markUsed 93 = .ok (.getfield 100, 3) := by decide +kernel
theorem dX5_markUsed_96 : decode cX5_markUsed 96 = .ok (.invokevirtual 104, 3) := by decide +kernel
theorem dX5_markUsed_99 : decode cX5_markUsed 99 = .ok (.aload_n 0, 1) := by decide +kernel
theorem dX5_markUsed_100 : decode cX5_markUsed 100 = .ok (.aload_n 3, 1) := by decide +kernel
theorem dX5_markUsed_101 : decode cX5_markUsed 101 = .ok (.getfield 108, 3) := by decide +kernel
theorem dX5_markUsed_104 : decode cX5_markUsed 104 = .ok (.invokevirtual 96, 3) := by decide +kernel
theorem dX5_markUsed_107 : decode cX5_markUsed 107 = .ok (.aload_n 0, 1) := by decide +kernel
theorem dX5_markUsed_108 : decode cX5_markUsed 108 = .ok (.aload_n 3, 1) := by decide +kernel
theorem dX5_markUsed_109 : decode cX5_markUsed 109 = .ok (.getfield 112, 3) := by decide +kernel
theorem dX5_markUsed_112 : decode cX5_markUsed 112 = .ok (.invokevirtual 96, 3) := by decide +kernel
theorem dX5_markUsed_115 : decode cX5_markUsed 115 = .ok (.iinc 2 (-1), 3) := by decide +kernel
theorem dX5_markUsed_118 : decode cX5_markUsed 118 = .ok (.goto (-50), 3) := by decide +kernel
theorem dX5_markUsed_121 : decode cX5_markUsed 121 = .ok (.bipush 99, 2) := by decide +kernel
theorem dX5_markUsed_123 : decode cX5_markUsed 123 = .ok (.istore_n 2, 1) := by decide +kernel
theorem dX5_markUsed_124 : decode cX5_markUsed 124 = .ok (.iload_n 2, 1) := by decide +kernel
theorem dX5_markUsed_125 : decode cX5_markUsed 125 = .ok (.ifCond .lt 52, 3) := by decide +kernel
theorem dX5_markUsed_128 : decode cX5_markUsed 128 = .ok (.aload_n 1, 1) := by decide +kernel
theorem dX5_markUsed_129 : decode cX5_markUsed 129 = .ok (.iload_n 2, 1) := by decide +kernel
theorem dX5_markUsed_130 : decode cX5_markUsed 130 = .ok (.invokevirtual 61, 3) := by decide +kernel
theorem dX5_markUsed_133 : decode cX5_markUsed 133 = .ok (.astore_n 3, 1) := by decide +kernel
theorem dX5_markUsed_134 : decode cX5_markUsed 134 = .ok (.aload_n 3, 1) := by decide +kernel
theorem dX5_markUsed_135 : decode cX5_markUsed 135 = .ok (.ifnull 36, 3) := by decide +kernel
theorem dX5_markUsed_138 : decode cX5_markUsed 138 = .ok (.aload_n 0, 1) := by decide +kernel
theorem dX5_markUsed_139 : decode cX5_markUsed 139 = .ok (.getfield 32, 3) := by decide +kernel
theorem dX5_markUsed_142 : decode cX5_markUsed 142 = .ok (.iload_n 2, 1) := by decide +kernel
theorem dX5_markUsed_143 : decode cX5_markUsed 143 = .ok (.baload, 1) := by decide +kernel
theorem dX5_markUsed_144 : decode cX5_markUsed 144 = .ok (.ifCond .eq 27, 3) := by decide +kernel
theorem dX5_markUsed_147 : decode cX5_markUsed 147 = .ok (.aload_n 0, 1) := by decide +kernel
theorem dX5_markUsed_148 : decode cX5_markUsed 148 = .ok (.aload_n 3, 1) := by decide +kernel
theorem dX5_markUsed_149 : decode cX5_markUsed 149 = .ok (.getfield 115, 3) := by decide +kernel
theorem dX5_markUsed_152 : decode cX5_markUsed 152 = .ok (.invokevirtual 104, 3) := by decide +kernel
theorem dX5_markUsed_155 : decode cX5_markUsed 155 = .ok (.aload_n 0, 1) := by decide +kernel
theorem dX5_markUsed_156 : decode cX5_markUsed 156 = .ok (.aload_n 3, 1) := by decide +kernel
theorem dX5_markUsed_157 : decode cX5_markUsed 157 = .ok (.getfield 117, 3) := by decide +kernel
theorem dX5_markUsed_160 : decode cX5_markUsed 160 = .ok (.invokevirtual 104, 3) := by decide +kernel
theorem dX5_markUsed_163 : decode cX5_markUsed 163 = .ok (.aload_n 0, 1) := by decide +kernel
theorem dX5_markUsed_164 : decode cX5_markUsed 164 = .ok (.aload_n 3, 1) := by decide +kernel
theorem dX5_markUsed_165 : decode cX5_markUsed 165 = .ok (.getfield 119, 3) := by decide +kernel
theorem dX5_markUsed_168 : decode cX5_markUsed 168 = .ok (.invokevirtual 104, 3) := by decide +kernel
theorem dX5_markUsed_171 : decode cX5_markUsed 171 = .ok (.iinc 2 (-1), 3) := by decide +kernel
theorem dX5_markUsed_174 : decode cX5_markUsed 174 = .ok (.goto (-50), 3) := by decide +kernel
theorem dX5_markUsed_177 : decode cX5_markUsed 177 = .ok (.return_, 1) := by decide +kernel
theorem dX5_use_0 : decode cX5_use 0 = .ok (.aload_n 1, 1) := by decide +kernel
theorem dX5_use_1 : decode cX5_use 1 = .ok (.ifnull 29, 3) := by decide +kernel
theorem dX5_use_4 : decode cX5_use 4 = .ok (.aload_n 1, 1) := by decide +kernel
theorem dX5_use_5 : decode cX5_use 5 = .ok (.getfield 122, 3) := by decide +kernel
theorem dX5_use_8 : decode cX5_use 8 = .ok (.ifCond .lt 22, 3) := by decide +kernel
theorem dX5_use_11 : decode cX5_use 11 = .ok (.aload_n 1, 1) := by decide +kernel
theorem dX5_use_12 : decode cX5_use 12 = .ok (.getfield 122, 3) := by decide +kernel
theorem dX5_use_15 : decode cX5_use 15 = .ok (.bipush 100, 2) := by decide +kernel
theorem dX5_use_17 : decode cX5_use 17 = .ok (.if_icmp .ge 13, 3) := by decide +kernel
theorem dX5_use_20 : decode cX5_use 20 = .ok (.aload_n 0, 1) := by decide +kernel
theorem dX5_use_21 : decode cX5_use 21 = .ok (.getfield 32, 3) := by decide +kernel
theorem dX5_use_24 : decode cX5_use 24 = .ok (.aload_n 1, 1) := by decide +kernel
theorem dX5_use_25 : decode cX5_use 25 = .ok (.getfield 122, 3) := by decide +kernel
theorem dX5_use_28 : decode cX5_use 28 = .ok (.iconst 1, 1) := by decide +kernel
theorem dX5_use_29 : decode cX5_use 29 = .ok (.bastore, 1) := by decide +kernel
theorem dX5_use_30 : decode cX5_use 30 = .ok (.return_, 1) := by decide +kernel
theorem dX5_useStatement_0 : decode cX5_useStatement 0 = .ok (.aload_n 1, 1) := by decide +kernel
theorem dX5_useStatement_1 : decode cX5_useStatement 1 = .ok (.ifnull 29, 3) := by decide +kernel
theorem dX5_useStatement_4 : decode cX5_useStatement 4 = .ok (.aload_n 1, 1) := by decide +kernel
theorem dX5_useStatement_5 : decode cX5_useStatement 5 = .ok (.getfield 125, 3) := by decide +kernel
theorem dX5_useStatement_8 : decode cX5_useStatement 8 = .ok (.ifCond .lt 22, 3) := by decide +kernel
theorem dX5_useStatement_11 : decode cX5_useStatement 11 = .ok (.aload_n 1, 1) := by decide +kernel
theorem dX5_useStatement_12 : decode cX5_useStatement 12 = .ok (.getfield 125, 3) := by decide +kernel
theorem dX5_useStatement_15 : decode cX5_useStatement 15 = .ok (.bipush 60, 2) := by decide +kernel
theorem dX5_useStatement_17 : decode cX5_useStatement 17 = .ok (.if_icmp .ge 13, 3) := by decide +kernel
theorem dX5_useStatement_20 : decode cX5_useStatement 20 = .ok (.aload_n 0, 1) := by decide +kernel
theorem dX5_useStatement_21 : decode cX5_useStatement 21 = .ok (.getfield 36, 3) := by decide +kernel
theorem dX5_useStatement_24 : decode cX5_useStatement 24 = .ok (.aload_n 1, 1) := by decide +kernel
theorem dX5_useStatement_25 : decode cX5_useStatement 25 = .ok (.getfield 125, 3) := by decide +kernel
theorem dX5_useStatement_28 : decode cX5_useStatement 28 = .ok (.iconst 1, 1) := by decide +kernel
theorem dX5_useStatement_29 : decode cX5_useStatement 29 = .ok (.bastore, 1) := by decide +kernel
theorem dX5_useStatement_30 : decode cX5_useStatement 30 = .ok (.return_, 1) := by decide +kernel
theorem dX5_copyOf_0 : decode cX5_copyOf 0 = .ok (.aload_n 1, 1) := by decide +kernel
theorem dX5_copyOf_1 : decode cX5_copyOf 1 = .ok (.ifnull 36, 3) := by decide +kernel
theorem dX5_copyOf_4 : decode cX5_copyOf 4 = .ok (.aload_n 2, 1) := by decide +kernel
theorem dX5_copyOf_5 : decode cX5_copyOf 5 = .ok (.aload_n 1, 1) := by decide +kernel
theorem dX5_copyOf_6 : decode cX5_copyOf 6 = .ok (.invokevirtual 126, 3) := by decide +kernel
theorem dX5_copyOf_9 : decode cX5_copyOf 9 = .ok (.aload_n 2, 1) := by decide +kernel
theorem dX5_copyOf_10 : decode cX5_copyOf 10 = .ok (.aload_n 0, 1) := by decide +kernel
theorem dX5_copyOf_11 : decode cX5_copyOf 11 = .ok (.aload_n 1, 1) := by decide +kernel
theorem dX5_copyOf_12 : decode cX5_copyOf 12 = .ok (.getfield 115, 3) := by decide +kernel
theorem dX5_copyOf_15 : decode cX5_copyOf 15 = .ok (.invokevirtual 129, 3) := by decide +kernel
theorem dX5_copyOf_18 : decode cX5_copyOf 18 = .ok (.aload_n 0, 1) := by decide +kernel
theorem dX5_copyOf_19 : decode cX5_copyOf 19 = .ok (.aload_n 1, 1) := by decide +kernel
theorem dX5_copyOf_20 : decode cX5_copyOf 20 = .ok (.getfield 117, 3) := by decide +kernel
theorem dX5_copyOf_23 : decode cX5_copyOf 23 = .ok (.invokevirtual 129, 3) := by decide +kernel
theorem dX5_copyOf_26 : decode cX5_copyOf 26 = .ok (.aload_n 0, 1) := by decide +kernel
theorem dX5_copyOf_27 : decode cX5_copyOf 27 = .ok (.aload_n 1, 1) := by decide +kernel
theorem dX5_copyOf_28 : decode cX5_copyOf 28 = .ok (.getfield 119, 3) := by decide +kernel
theorem dX5_copyOf_31 : decode cX5_copyOf 31 = .ok (.invokevirtual 129, 3) := by decide +kernel
theorem dX5_copyOf_34 : decode cX5_copyOf 34 = .ok (.invokevirtual 132, 3) := by decide +kernel
theorem dX5_copyOf_37 : decode cX5_copyOf 37 = .ok (.aload_n 2, 1) := by decide +kernel
theorem dX5_copyOf_38 : decode cX5_copyOf 38 = .ok (.areturn, 1) := by decide +kernel
theorem dX5_copyOfStatement_0 : decode cX5_copyOfStatement 0 = .ok (.aload_n 1, 1) := by decide +kernel
theorem dX5_copyOfStatement_1 : decode cX5_copyOfStatement 1 = .ok (.ifnull 59, 3) := by decide +kernel
theorem dX5_copyOfStatement_4 : decode cX5_copyOfStatement 4 = .ok (.aload_n 2, 1) := by decide +kernel
theorem dX5_copyOfStatement_5 : decode cX5_copyOfStatement 5 = .ok (.aload_n 1, 1) := by decide +kernel
theorem dX5_copyOfStatement_6 : decode cX5_copyOfStatement 6 = .ok (.getfield 125, 3) := by decide +kernel
theorem dX5_copyOfStatement_9 : decode cX5_copyOfStatement 9 = .ok (.putfield 125, 3) := by decide +kernel
theorem dX5_copyOfStatement_12 : decode cX5_copyOfStatement 12 = .ok (.aload_n 2, 1) := by decide +kernel
theorem dX5_copyOfStatement_13 : decode cX5_copyOfStatement 13 = .ok (.aload_n 1, 1) := by decide +kernel
theorem dX5_copyOfStatement_14 : decode cX5_copyOfStatement 14 = .ok (.getfield 136, 3) := by decide +kernel
theorem dX5_copyOfStatement_17 : decode cX5_copyOfStatement 17 = .ok (.putfield 136, 3) := by decide +kernel
theorem dX5_copyOfStatement_20 : decode cX5_copyOfStatement 20 = .ok (.aload_n 2, 1) := by decide +kernel
theorem dX5_copyOfStatement_21 : decode cX5_copyOfStatement 21 = .ok (.aload_n 1, 1) := by decide +kernel
theorem dX5_copyOfStatement_22 : decode cX5_copyOfStatement 22 = .ok (.getfield 140, 3) := by decide +kernel
theorem dX5_copyOfStatement_25 : decode cX5_copyOfStatement 25 = .ok (.putfield 140, 3) := by decide +kernel
theorem dX5_copyOfStatement_28 : decode cX5_copyOfStatement 28 = .ok (.aload_n 2, 1) := by decide +kernel
theorem dX5_copyOfStatement_29 : decode cX5_copyOfStatement 29 = .ok (.aload_n 0, 1) := by decide +kernel
theorem dX5_copyOfStatement_30 : decode cX5_copyOfStatement 30 = .ok (.aload_n 1, 1) := by decide +kernel
theorem dX5_copyOfStatement_31 : decode cX5_copyOfStatement 31 = .ok (.getfield 100, 3) := by decide +kernel
theorem dX5_copyOfStatement_34 : decode cX5_copyOfStatement 34 = .ok (.invokevirtual 129, 3) := by decide +kernel
theorem dX5_copyOfStatement_37 : decode cX5_copyOfStatement 37 = .ok (.putfield 100, 3) := by decide +kernel
theorem dX5_copyOfStatement_40 : decode cX5_copyOfStatement 40 = .ok (.aload_n 2, 1) := by decide +kernel
theorem dX5_copyOfStatement_41 : decode cX5_copyOfStatement 41 = .ok (.aload_n 0, 1) := by decide +kernel
theorem dX5_copyOfStatement_42 : decode cX5_copyOfStatement 42 = .ok (.aload_n 1, 1) := by decide +kernel
theorem dX5_copyOfStatement_43 : decode cX5_copyOfStatement 43 = .ok (.getfield 108, 3) := by decide +kernel
theorem dX5_copyOfStatement_46 : decode cX5_copyOfStatement 46 = .ok (.invokevirtual 89, 3) := by decide +kernel
theorem dX5_copyOfStatement_49 : decode cX5_copyOfStatement 49 = .ok (.aload_n 0, 1) := by decide +kernel
theorem dX5_copyOfStatement_50 : decode cX5_copyOfStatement 50 = .ok (.aload_n 1, 1) := by decide +kernel
theorem dX5_copyOfStatement_51 : decode cX5_copyOfStatement 51 = .ok (.getfield 112, 3) := by decide +kernel
theorem dX5_copyOfStatement_54 : decode cX5_copyOfStatement 54 = .ok (.invokevirtual 89, 3) := by decide +kernel
theorem dX5_copyOfStatement_57 : decode cX5_copyOfStatement 57 = .ok (.invokevirtual 144, 3) := by decide +kernel
theorem dX5_copyOfStatement_60 : decode cX5_copyOfStatement 60 = .ok (.aload_n 2, 1) := by decide +kernel
theorem dX5_copyOfStatement_61 : decode cX5_copyOfStatement 61 = .ok (.areturn, 1) := by decide +kernel
theorem dX5_folded_0 : decode cX5_folded 0 = .ok (.aload_n 1, 1) := by decide +kernel
theorem dX5_folded_1 : decode cX5_folded 1 = .ok (.ifnull 31, 3) := by decide +kernel
theorem dX5_folded_4 : decode cX5_folded 4 = .ok (.aload_n 1, 1) := by decide +kernel
theorem dX5_folded_5 : decode cX5_folded 5 = .ok (.getfield 122, 3) := by decide +kernel
theorem dX5_folded_8 : decode cX5_folded 8 = .ok (.ifCond .lt 24, 3) := by decide +kernel
theorem dX5_folded_11 : decode cX5_folded 11 = .ok (.aload_n 1, 1) := by decide +kernel
theorem dX5_folded_12 : decode cX5_folded 12 = .ok (.getfield 122, 3) := by decide +kernel
theorem dX5_folded_15 : decode cX5_folded 15 = .ok (.bipush 100, 2) := by decide +kernel
theorem dX5_folded_17 : decode cX5_folded 17 = .ok (.if_icmp .ge 15, 3) := by decide +kernel
theorem dX5_folded_20 : decode cX5_folded 20 = .ok (.aload_n 0, 1) := by decide +kernel
theorem dX5_folded_21 : decode cX5_folded 21 = .ok (.getfield 26, 3) := by decide +kernel
theorem dX5_folded_24 : decode cX5_folded 24 = .ok (.aload_n 1, 1) := by decide +kernel
theorem dX5_folded_25 : decode cX5_folded 25 = .ok (.getfield 122, 3) := by decide +kernel
theorem dX5_folded_28 : decode cX5_folded 28 = .ok (.aaload, 1) := by decide +kernel
theorem dX5_folded_29 : decode cX5_folded 29 = .ok (.goto 4, 3) := by decide +kernel
theorem dX5_folded_32 : decode cX5_folded 32 = .ok (.aconst_null, 1) := by decide +kernel
theorem dX5_folded_33 : decode cX5_folded 33 = .ok (.areturn, 1) := by decide +kernel
theorem dX5_shortened_0 : decode cX5_shortened 0 = .ok (.aload_n 1, 1) := by decide +kernel
theorem dX5_shortened_1 : decode cX5_shortened 1 = .ok (.ifnull 23, 3) := by decide +kernel
theorem dX5_shortened_4 : decode cX5_shortened 4 = .ok (.aload_n 1, 1) := by decide +kernel
theorem dX5_shortened_5 : decode cX5_shortened 5 = .ok (.getfield 125, 3) := by decide +kernel
theorem dX5_shortened_8 : decode cX5_shortened 8 = .ok (.ifCond .lt 16, 3) := by decide +kernel
theorem dX5_shortened_11 : decode cX5_shortened 11 = .ok (.aload_n 1, 1) := by decide +kernel
theorem dX5_shortened_12 : decode cX5_shortened 12 = .ok (.getfield 125, 3) := by decide +kernel
theorem dX5_shortened_15 : decode cX5_shortened 15 = .ok (.bipush 60, 2) := by decide +kernel
theorem dX5_shortened_17 : decode cX5_shortened 17 = .ok (.if_icmp .ge 7, 3) := by decide +kernel
theorem dX5_shortened_20 : decode cX5_shortened 20 = .ok (.iconst 1, 1) := by decide +kernel
theorem dX5_shortened_21 : decode cX5_shortened 21 = .ok (.goto 4, 3) := by decide +kernel
theorem dX5_shortened_24 : decode cX5_shortened 24 = .ok (.iconst 0, 1) := by decide +kernel
theorem dX5_shortened_25 : decode cX5_shortened 25 = .ok (.istore_n 2, 1) := by decide +kernel
theorem dX5_shortened_26 : decode cX5_shortened 26 = .ok (.iload_n 2, 1) := by decide +kernel
theorem dX5_shortened_27 : decode cX5_shortened 27 = .ok (.ifCond .eq 15, 3) := by decide +kernel
theorem dX5_shortened_30 : decode cX5_shortened 30 = .ok (.aload_n 0, 1) := by decide +kernel
theorem dX5_shortened_31 : decode cX5_shortened 31 = .ok (.getfield 29, 3) := by decide +kernel
theorem dX5_shortened_34 : decode cX5_shortened 34 = .ok (.aload_n 1, 1) := by decide +kernel
theorem dX5_shortened_35 : decode cX5_shortened 35 = .ok (.getfield 125, 3) := by decide +kernel
theorem dX5_shortened_38 : decode cX5_shortened 38 = .ok (.aaload, 1) := by decide +kernel
theorem dX5_shortened_39 : decode cX5_shortened 39 = .ok (.goto 4, 3) := by decide +kernel
theorem dX5_shortened_42 : decode cX5_shortened 42 = .ok (.aconst_null, 1) := by decide +kernel
theorem dX5_shortened_43 : decode cX5_shortened 43 = .ok (.areturn, 1) := by decide +kernel
theorem dX5_reduce_0 : decode cX5_reduce 0 = .ok (.aload_n 1, 1) := by decide +kernel
theorem dX5_reduce_1 : decode cX5_reduce 1 = .ok (.getfield 115, 3) := by decide +kernel
theorem dX5_reduce_4 : decode cX5_reduce 4 = .ok (.invokestatic 147, 3) := by decide +kernel
theorem dX5_reduce_7 : decode cX5_reduce 7 = .ok (.ifCond .ne 5, 3) := by decide +kernel
theorem dX5_reduce_10 : decode cX5_reduce 10 = .ok (.aload_n 1, 1) := by decide +kernel
theorem dX5_reduce_11 : decode cX5_reduce 11 = .ok (.areturn, 1) := by decide +kernel
theorem dX5_reduce_12 : decode cX5_reduce 12 = .ok (.aload_n 1, 1) := by decide +kernel
theorem dX5_reduce_13 : decode cX5_reduce 13 = .ok (.getfield 115, 3) := by decide +kernel
theorem dX5_reduce_16 : decode cX5_reduce 16 = .ok (.getfield 151, 3) := by decide +kernel
theorem dX5_reduce_19 : decode cX5_reduce 19 = .ok (.lstore_n 2, 1) := by decide +kernel
theorem dX5_reduce_20 : decode cX5_reduce 20 = .ok (.aload_n 1, 1) := by decide +kernel
theorem dX5_reduce_21 : decode cX5_reduce 21 = .ok (.getfield 155, 3) := by decide +kernel
theorem dX5_reduce_24 : decode cX5_reduce 24 = .ok (.iconst 5, 1) := by decide +kernel
theorem dX5_reduce_25 : decode cX5_reduce 25 = .ok (.if_icmp .ne 26, 3) := by decide +kernel
theorem dX5_reduce_28 : decode cX5_reduce 28 = .ok (.aload_n 0, 1) := by decide +kernel
theorem dX5_reduce_29 : decode cX5_reduce 29 = .ok (.aload_n 1, 1) := by decide +kernel
theorem dX5_reduce_30 : decode cX5_reduce 30 = .ok (.lload_n 2, 1) := by decide +kernel
theorem dX5_reduce_31 : decode cX5_reduce 31 = .ok (.lconst 0, 1) := by decide +kernel
theorem dX5_reduce_32 : decode cX5_reduce 32 = .ok (.lcmp, 1) := by decide +kernel
theorem dX5_reduce_33 : decode cX5_reduce 33 = .ok (.ifCond .eq 10, 3) := by decide +kernel
theorem dX5_reduce_36 : decode cX5_reduce 36 = .ok (.aload_n 1, 1) := by decide +kernel
theorem dX5_reduce_37 : decode cX5_reduce 37 = .ok (.getfield 117, 3) := by decide +kernel
theorem dX5_reduce_40 : decode cX5_reduce 40 = .ok (.goto 7, 3) := by decide +kernel
theorem dX5_reduce_43 : decode cX5_reduce 43 = .ok (.aload_n 1, 1) := by decide +kernel
theorem dX5_reduce_44 : decode cX5_reduce 44 = .ok (.getfield 119, 3) := by decide +kernel
theorem dX5_reduce_47 : decode cX5_reduce 47 = .ok (.invokevirtual 158, 3) := by decide +kernel
theorem dX5_reduce_50 : decode cX5_reduce 50 = .ok (.areturn, 1) := by decide +kernel
theorem dX5_reduce_51 : decode cX5_reduce 51 = .ok (.aload_n 1, 1) := by decide +kernel
theorem dX5_reduce_52 : decode cX5_reduce 52 = .ok (.getfield 155, 3) := by decide +kernel
theorem dX5_reduce_55 : decode cX5_reduce 55 = .ok (.iconst 4, 1) := by decide +kernel
theorem dX5_reduce_56 : decode cX5_reduce 56 = .ok (.if_icmp .ne 27, 3) := by decide +kernel
theorem dX5_reduce_59 : decode cX5_reduce 59 = .ok (.aload_n 1, 1) := by decide +kernel
theorem dX5_reduce_60 : decode cX5_reduce 60 = .ok (.getfield 161, 3) := by decide +kernel
theorem dX5_reduce_63 : decode cX5_reduce 63 = .ok (.bipush 44, 2) := by decide +kernel
theorem dX5_reduce_65 : decode cX5_reduce 65 = .ok (.if_icmp .ne 18, 3) := by decide +kernel
theorem dX5_reduce_68 : decode cX5_reduce 68 = .ok (.aload_n 0, 1) := by decide +kernel
theorem dX5_reduce_69 : decode cX5_reduce 69 = .ok (.dup, 1) := by decide +kernel
theorem dX5_reduce_70 : decode cX5_reduce 70 = .ok (.getfield 45, 3) := by decide +kernel
theorem dX5_reduce_73 : decode cX5_reduce 73 = .ok (.iconst 1, 1) := by decide +kernel
theorem dX5_reduce_74 : decode cX5_reduce 74 = .ok (.iadd, 1) := by decide +kernel
theorem dX5_reduce_75 : decode cX5_reduce 75 = .ok (.putfield 45, 3) := by decide +kernel
theorem dX5_reduce_78 : decode cX5_reduce 78 = .ok (.aload_n 1, 1) := by decide +kernel
theorem dX5_reduce_79 : decode cX5_reduce 79 = .ok (.getfield 117, 3) := by decide +kernel
theorem dX5_reduce_82 : decode cX5_reduce 82 = .ok (.areturn, 1) := by decide +kernel
theorem dX5_reduce_83 : decode cX5_reduce 83 = .ok (.aload_n 1, 1) := by decide +kernel
theorem dX5_reduce_84 : decode cX5_reduce 84 = .ok (.getfield 155, 3) := by decide +kernel
theorem dX5_reduce_87 : decode cX5_reduce 87 = .ok (.iconst 4, 1) := by decide +kernel
theorem dX5_reduce_88 : decode cX5_reduce 88 = .ok (.if_icmp .ne 50, 3) := by decide +kernel
theorem dX5_reduce_91 : decode cX5_reduce 91 = .ok (.aload_n 1, 1) := by decide +kernel
theorem dX5_reduce_92 : decode cX5_reduce 92 = .ok (.getfield 161, 3) := by decide +kernel
theorem dX5_reduce_95 : decode cX5_reduce 95 = .ok (.bipush 97, 2) := by decide +kernel
theorem dX5_reduce_97 : decode cX5_reduce 97 = .ok (.if_icmp .eq 12, 3) := by decide +kernel
theorem dX5_reduce_100 : decode cX5_reduce 100 = .ok (.aload_n 1, 1) := by decide +kernel
theorem dX5_reduce_101 : decode cX5_reduce 101 = .ok (.getfield 161, 3) := by decide +kernel
theorem dX5_reduce_104 : decode cX5_reduce 104 = .ok (.bipush 111, 2) := by decide +kernel
theorem dX5_reduce_106 : decode cX5_reduce 106 = .ok (.if_icmp .ne 32, 3) := by decide +kernel
theorem dX5_reduce_109 : decode cX5_reduce 109 = .ok (.aload_n 1, 1) := by decide +kernel
theorem dX5_reduce_110 : decode cX5_reduce 110 = .ok (.lload_n 2, 1) := by decide +kernel
theorem dX5_reduce_111 : decode cX5_reduce 111 = .ok (.invokevirtual 162, 3) := by decide +kernel
theorem dX5_reduce_114 : decode cX5_reduce 114 = .ok (.ifCond .eq 22, 3) := by decide +kernel
theorem dX5_reduce_117 : decode cX5_reduce 117 = .ok (.aload_n 0, 1) := by decide +kernel
theorem dX5_reduce_118 : decode cX5_reduce 118 = .ok (.aload_n 1, 1) := by decide +kernel
theorem dX5_reduce_119 : decode cX5_reduce 119 = .ok (.lload_n 2, 1) := by decide +kernel
theorem dX5_reduce_120 : decode cX5_reduce 120 = .ok (.lconst 0, 1) := by decide +kernel
theorem dX5_reduce_121 : decode cX5_reduce 121 = .ok (.lcmp, 1) := by decide +kernel
theorem dX5_reduce_122 : decode cX5_reduce 122 = .ok (.ifCond .eq 7, 3) := by decide +kernel
theorem dX5_reduce_125 : decode cX5_reduce 125 = .ok (.lconst 1, 1) := by decide +kernel
theorem dX5_reduce_126 : decode cX5_reduce 126 = .ok (.goto 4, 3) := by decide +kernel
theorem dX5_reduce_129 : decode cX5_reduce 129 = .ok (.lconst 0, 1) := by decide +kernel
theorem dX5_reduce_130 : decode cX5_reduce 130 = .ok (.invokevirtual 166, 3) := by decide +kernel
theorem dX5_reduce_133 : decode cX5_reduce 133 = .ok (.goto 4, 3) := by decide +kernel
theorem dX5_reduce_136 : decode cX5_reduce 136 = .ok (.aload_n 1, 1) := by decide +kernel
theorem dX5_reduce_137 : decode cX5_reduce 137 = .ok (.areturn, 1) := by decide +kernel
theorem dX5_reduce_138 : decode cX5_reduce 138 = .ok (.aload_n 1, 1) := by decide +kernel
theorem dX5_reduce_139 : decode cX5_reduce 139 = .ok (.invokevirtual 170, 3) := by decide +kernel
theorem dX5_reduce_142 : decode cX5_reduce 142 = .ok (.ifCond .eq 20, 3) := by decide +kernel
theorem dX5_reduce_145 : decode cX5_reduce 145 = .ok (.aload_n 1, 1) := by decide +kernel
theorem dX5_reduce_146 : decode cX5_reduce 146 = .ok (.getfield 117, 3) := by decide +kernel
theorem dX5_reduce_149 : decode cX5_reduce 149 = .ok (.ifnull 15, 3) := by decide +kernel
theorem dX5_reduce_152 : decode cX5_reduce 152 = .ok (.aload_n 1, 1) := by decide +kernel
theorem dX5_reduce_153 : decode cX5_reduce 153 = .ok (.getfield 117, 3) := by decide +kernel
theorem dX5_reduce_156 : decode cX5_reduce 156 = .ok (.invokestatic 147, 3) := by decide +kernel
theorem dX5_reduce_159 : decode cX5_reduce 159 = .ok (.ifCond .ne 5, 3) := by decide +kernel
theorem dX5_reduce_162 : decode cX5_reduce 162 = .ok (.aload_n 1, 1) := by decide +kernel
theorem dX5_reduce_163 : decode cX5_reduce 163 = .ok (.areturn, 1) := by decide +kernel
theorem dX5_reduce_164 : decode cX5_reduce 164 = .ok (.aload_n 1, 1) := by decide +kernel
theorem dX5_reduce_165 : decode cX5_reduce 165 = .ok (.getfield 117, 3) := by decide +kernel
theorem dX5_reduce_168 : decode cX5_reduce 168 = .ok (.ifnonnull 7, 3) := by decide +kernel
theorem dX5_reduce_171 : decode cX5_reduce 171 = .ok (.lconst 0, 1) := by decide +kernel
theorem dX5_reduce_172 : decode cX5_reduce 172 = .ok (.goto 10, 3) := by decide +kernel
theorem dX5_reduce_175 : decode cX5_reduce 175 = .ok (.aload_n 1, 1) := by decide +kernel
theorem dX5_reduce_176 : decode cX5_reduce 176 = .ok (.getfield 117, 3) := by decide +kernel
theorem dX5_reduce_179 : decode cX5_reduce 179 = .ok (.getfield 151, 3) := by decide +kernel
theorem dX5_reduce_182 : decode cX5_reduce 182 = .ok (.lstore 4, 2) := by decide +kernel
theorem dX5_reduce_184 : decode cX5_reduce 184 = .ok (.aload_n 1, 1) := by decide +kernel
theorem dX5_reduce_185 : decode cX5_reduce 185 = .ok (.lload_n 2, 1) := by decide +kernel
theorem dX5_reduce_186 : decode cX5_reduce 186 = .ok (.lload 4, 2) := by decide +kernel
theorem dX5_reduce_188 : decode cX5_reduce 188 = .ok (.invokevirtual 174, 3) := by decide +kernel
theorem dX5_reduce_191 : decode cX5_reduce 191 = .ok (.bipush 32, 2) := by decide +kernel
theorem dX5_reduce_193 : decode cX5_reduce 193 = .ok (.if_icmp .ne 18, 3) := by decide +kernel
theorem dX5_reduce_196 : decode cX5_reduce 196 = .ok (.aload_n 0, 1) := by decide +kernel
theorem dX5_reduce_197 : decode cX5_reduce 197 = .ok (.aload_n 1, 1) := by decide +kernel
theorem dX5_reduce_198 : decode cX5_reduce 198 = .ok (.aload_n 1, 1) := by decide +kernel
theorem dX5_reduce_199 : decode cX5_reduce 199 = .ok (.lload_n 2, 1) := by decide +kernel
theorem dX5_reduce_200 : decode cX5_reduce 200 = .ok (.lload 4, 2) := by decide +kernel
theorem dX5_reduce_202 : decode cX5_reduce 202 = .ok (.invokevirtual 178, 3) := by decide +kernel
theorem dX5_reduce_205 : decode cX5_reduce 205 = .ok (.invokevirtual 166, 3) := by decide +kernel
theorem dX5_reduce_208 : decode cX5_reduce 208 = .ok (.goto 4, 3) := by decide +kernel
theorem dX5_reduce_211 : decode cX5_reduce 211 = .ok (.aload_n 1, 1) := by decide +kernel
theorem dX5_reduce_212 : decode cX5_reduce 212 = .ok (.areturn, 1) := by decide +kernel
theorem dX5_tell_0 : decode cX5_tell 0 = .ok (.aload_n 0, 1) := by decide +kernel
theorem dX5_tell_1 : decode cX5_tell 1 = .ok (.dup, 1) := by decide +kernel
theorem dX5_tell_2 : decode cX5_tell 2 = .ok (.getfield 45, 3) := by decide +kernel
theorem dX5_tell_5 : decode cX5_tell 5 = .ok (.iconst 1, 1) := by decide +kernel
theorem dX5_tell_6 : decode cX5_tell 6 = .ok (.iadd, 1) := by decide +kernel
theorem dX5_tell_7 : decode cX5_tell 7 = .ok (.putfield 45, 3) := by decide +kernel
theorem dX5_tell_10 : decode cX5_tell 10 = .ok (.aload_n 1, 1) := by decide +kernel
theorem dX5_tell_11 : decode cX5_tell 11 = .ok (.iconst 0, 1) := by decide +kernel
theorem dX5_tell_12 : decode cX5_tell 12 = .ok (.putfield 155, 3) := by decide +kernel
theorem dX5_tell_15 : decode cX5_tell 15 = .ok (.aload_n 1, 1) := by decide +kernel
theorem dX5_tell_16 : decode cX5_tell 16 = .ok (.lload_n 2, 1) := by decide +kernel
theorem dX5_tell_17 : decode cX5_tell 17 = .ok (.putfield 151, 3) := by decide +kernel
theorem dX5_tell_20 : decode cX5_tell 20 = .ok (.aload_n 1, 1) := by decide +kernel
theorem dX5_tell_21 : decode cX5_tell 21 = .ok (.aconst_null, 1) := by decide +kernel
theorem dX5_tell_22 : decode cX5_tell 22 = .ok (.aconst_null, 1) := by decide +kernel
theorem dX5_tell_23 : decode cX5_tell 23 = .ok (.aconst_null, 1) := by decide +kernel
theorem dX5_tell_24 : decode cX5_tell 24 = .ok (.invokevirtual 132, 3) := by decide +kernel
theorem dX5_tell_27 : decode cX5_tell 27 = .ok (.aload_n 1, 1) := by decide +kernel
theorem dX5_tell_28 : decode cX5_tell 28 = .ok (.areturn, 1) := by decide +kernel
theorem dX5_take_0 : decode cX5_take 0 = .ok (.aload_n 0, 1) := by decide +kernel
theorem dX5_take_1 : decode cX5_take 1 = .ok (.dup, 1) := by decide +kernel
theorem dX5_take_2 : decode cX5_take 2 = .ok (.getfield 45, 3) := by decide +kernel
theorem dX5_take_5 : decode cX5_take 5 = .ok (.iconst 1, 1) := by decide +kernel
theorem dX5_take_6 : decode cX5_take 6 = .ok (.iadd, 1) := by decide +kernel
theorem dX5_take_7 : decode cX5_take 7 = .ok (.putfield 45, 3) := by decide +kernel
theorem dX5_take_10 : decode cX5_take 10 = .ok (.aload_n 2, 1) := by decide +kernel
theorem dX5_take_11 : decode cX5_take 11 = .ok (.ifnull 13, 3) := by decide +kernel
theorem dX5_take_14 : decode cX5_take 14 = .ok (.aload_n 1, 1) := by decide +kernel
theorem dX5_take_15 : decode cX5_take 15 = .ok (.getfield 182, 3) := by decide +kernel
theorem dX5_take_18 : decode cX5_take 18 = .ok (.invokestatic 185, 3) := by decide +kernel
theorem dX5_take_21 : decode cX5_take 21 = .ok (.ifCond .ne 5, 3) := by decide +kernel
theorem dX5_take_24 : decode cX5_take 24 = .ok (.aload_n 2, 1) := by decide +kernel
theorem dX5_take_25 : decode cX5_take 25 = .ok (.areturn, 1) := by decide +kernel
theorem dX5_take_26 : decode cX5_take 26 = .ok (.aload_n 1, 1) := by decide +kernel
theorem dX5_take_27 : decode cX5_take 27 = .ok (.iconst 3, 1) := by decide +kernel
theorem dX5_take_28 : decode cX5_take 28 = .ok (.putfield 155, 3) := by decide +kernel
theorem dX5_take_31 : decode cX5_take 31 = .ok (.aload_n 1, 1) := by decide +kernel
theorem dX5_take_32 : decode cX5_take 32 = .ok (.aload_n 2, 1) := by decide +kernel
theorem dX5_take_33 : decode cX5_take 33 = .ok (.aconst_null, 1) := by decide +kernel
theorem dX5_take_34 : decode cX5_take 34 = .ok (.aconst_null, 1) := by decide +kernel
theorem dX5_take_35 : decode cX5_take 35 = .ok (.invokevirtual 132, 3) := by decide +kernel
theorem dX5_take_38 : decode cX5_take 38 = .ok (.aload_n 2, 1) := by decide +kernel
theorem dX5_take_39 : decode cX5_take 39 = .ok (.invokestatic 147, 3) := by decide +kernel
theorem dX5_take_42 : decode cX5_take 42 = .ok (.ifCond .eq 22, 3) := by decide +kernel
theorem dX5_take_45 : decode cX5_take 45 = .ok (.aload_n 0, 1) := by decide +kernel
theorem dX5_take_46 : decode cX5_take 46 = .ok (.aload_n 1, 1) := by decide +kernel
theorem dX5_take_47 : decode cX5_take 47 = .ok (.aload_n 2, 1) := by decide +kernel
theorem dX5_take_48 : decode cX5_take 48 = .ok (.getfield 151, 3) := by decide +kernel
theorem dX5_take_51 : decode cX5_take 51 = .ok (.aload_n 1, 1) := by decide +kernel
theorem dX5_take_52 : decode cX5_take 52 = .ok (.getfield 182, 3) := by decide +kernel
theorem dX5_take_55 : decode cX5_take 55 = .ok (.invokestatic 191, 3) := by decide +kernel
theorem dX5_take_58 : decode cX5_take 58 = .ok (.invokevirtual 166, 3) := by decide +kernel
theorem dX5_take_61 : decode cX5_take 61 = .ok (.goto 4, 3) := by decide +kernel
theorem dX5_take_64 : decode cX5_take 64 = .ok (.aload_n 1, 1) := by decide +kernel
theorem dX5_take_65 : decode cX5_take 65 = .ok (.areturn, 1) := by decide +kernel
theorem dX5_reduceStatement_0 : decode cX5_reduceStatement 0 = .ok (.aload_n 1, 1) := by decide +kernel
theorem dX5_reduceStatement_1 : decode cX5_reduceStatement 1 = .ok (.getfield 100, 3) := by decide +kernel
theorem dX5_reduceStatement_4 : decode cX5_reduceStatement 4 = .ok (.invokestatic 147, 3) := by decide +kernel
theorem dX5_reduceStatement_7 : decode cX5_reduceStatement 7 = .ok (.istore_n 2, 1) := by decide +kernel
theorem dX5_reduceStatement_8 : decode cX5_reduceStatement 8 = .ok (.iload_n 2, 1) := by decide +kernel
theorem dX5_reduceStatement_9 : decode cX5_reduceStatement 9 = .ok (.ifCond .eq 19, 3) := by decide +kernel
theorem dX5_reduceStatement_12 : decode cX5_reduceStatement 12 = .ok (.aload_n 1, 1) := by decide +kernel
theorem dX5_reduceStatement_13 : decode cX5_reduceStatement 13 = .ok (.getfield 100, 3) := by decide +kernel
theorem dX5_reduceStatement_16 : decode cX5_reduceStatement 16 = .ok (.getfield 151, 3) := by decide +kernel
theorem dX5_reduceStatement_19 : decode cX5_reduceStatement 19 = .ok (.lconst 0, 1) := by decide +kernel
theorem dX5_reduceStatement_20 : decode cX5_reduceStatement 20 = .ok (.lcmp, 1) := by decide +kernel
theorem dX5_reduceStatement_21 : decode cX5_reduceStatement 21 = .ok (.ifCond .eq 7, 3) := by decide +kernel
theorem dX5_reduceStatement_24 : decode cX5_reduceStatement 24 = .ok (.iconst 1, 1) := by decide +kernel
theorem dX5_reduceStatement_25 : decode cX5_reduceStatement 25 = .ok (.goto 4, 3) := by decide +kernel
theorem dX5_reduceStatement_28 : decode cX5_reduceStatement 28 = .ok (.iconst 0, 1) := by decide +kernel
theorem dX5_reduceStatement_29 : decode cX5_reduceStatement 29 = .ok (.istore_n 3, 1) := by decide +kernel
theorem dX5_reduceStatement_30 : decode cX5_reduceStatement 30 = .ok (.aload_n 1, 1) := by decide +kernel
theorem dX5_reduceStatement_31 : decode cX5_reduceStatement 31 = .ok (.getfield 136, 3) := by decide +kernel
theorem dX5_reduceStatement_34 : decode cX5_reduceStatement 34 = .ok (.lookupswitch 166 #[(98, 149), (101, 50), (105, 64), (115, 110), (119, 92)], 50) := by decide +kernel
theorem dX5_reduceStatement_84 : decode cX5_reduceStatement 84 = .ok (.iload_n 2, 1) := by decide +kernel
theorem dX5_reduceStatement_85 : decode cX5_reduceStatement 85 = .ok (.ifCond .eq 11, 3) := by decide +kernel
theorem dX5_reduceStatement_88 : decode cX5_reduceStatement 88 = .ok (.aload_n 0, 1) := by decide +kernel
theorem dX5_reduceStatement_89 : decode cX5_reduceStatement 89 = .ok (.aconst_null, 1) := by decide +kernel
theorem dX5_reduceStatement_90 : decode cX5_reduceStatement 90 = .ok (.invokevirtual 195, 3) := by decide +kernel
theorem dX5_reduceStatement_93 : decode cX5_reduceStatement 93 = .ok (.goto 4, 3) := by decide +kernel
theorem dX5_reduceStatement_96 : decode cX5_reduceStatement 96 = .ok (.aload_n 1, 1) := by decide +kernel
theorem dX5_reduceStatement_97 : decode cX5_reduceStatement 97 = .ok (.areturn, 1) := by decide +kernel
theorem dX5_reduceStatement_98 : decode cX5_reduceStatement 98 = .ok (.iload_n 2, 1) := by decide +kernel
theorem dX5_reduceStatement_99 : decode cX5_reduceStatement 99 = .ok (.ifCond .eq 25, 3) := by decide +kernel
theorem dX5_reduceStatement_102 : decode cX5_reduceStatement 102 = .ok (.aload_n 0, 1) := by decide +kernel
theorem dX5_reduceStatement_103 : decode cX5_reduceStatement 103 = .ok (.iload_n 3, 1) := by decide +kernel
theorem dX5_reduceStatement_104 : decode cX5_reduceStatement 104 = .ok (.ifCond .eq 10, 3) := by decide +kernel
theorem dX5_reduceStatement_107 : decode cX5_reduceStatement 107 = .ok (.aload_n 1, 1) := by decide +kernel
theorem dX5_reduceStatement_108 : decode cX5_reduceStatement 108 = .ok (.getfield 108, 3) := by decide +kernel
theorem dX5_reduceStatement_111 : decode cX5_reduceStatement 111 = .ok (.goto 7, 3) := by decide +kernel
theorem dX5_reduceStatement_114 : decode cX5_reduceStatement 114 = .ok (.aload_n 1, 1) := by decide +kernel
theorem dX5_reduceStatement_115 : decode cX5_reduceStatement 115 = .ok (.getfield 112, 3) := by decide +kernel
theorem dX5_reduceStatement_118 : decode cX5_reduceStatement 118 = .ok (.invokevirtual 195, 3) := by decide +kernel
theorem dX5_reduceStatement_121 : decode cX5_reduceStatement 121 = .ok (.goto 4, 3) := by decide +kernel
theorem dX5_reduceStatement_124 : decode cX5_reduceStatement 124 = .ok (.aload_n 1, 1) := by decide +kernel
theorem dX5_reduceStatement_125 : decode cX5_reduceStatement 125 = .ok (.areturn, 1) := by decide +kernel
theorem dX5_reduceStatement_126 : decode cX5_reduceStatement 126 = .ok (.iload_n 2, 1) := by decide +kernel
theorem dX5_reduceStatement_127 : decode cX5_reduceStatement 127 = .ok (.ifCond .eq 15, 3) := by decide +kernel
theorem dX5_reduceStatement_130 : decode cX5_reduceStatement 130 = .ok (.iload_n 3, 1) := by decide +kernel
theorem dX5_reduceStatement_131 : decode cX5_reduceStatement 131 = .ok (.ifCond .ne 11, 3) := by decide +kernel
theorem dX5_reduceStatement_134 : decode cX5_reduceStatement 134 = .ok (.aload_n 0, 1) := by decide +kernel
theorem dX5_reduceStatement_135 : decode cX5_reduceStatement 135 = .ok (.aconst_null, 1) := by decide +kernel
theorem dX5_reduceStatement_136 : decode cX5_reduceStatement 136 = .ok (.invokevirtual 195, 3) := by decide +kernel
theorem dX5_reduceStatement_139 : decode cX5_reduceStatement 139 = .ok (.goto 4, 3) := by decide +kernel
theorem dX5_reduceStatement_142 : decode cX5_reduceStatement 142 = .ok (.aload_n 1, 1) := by decide +kernel
theorem dX5_reduceStatement_143 : decode cX5_reduceStatement 143 = .ok (.areturn, 1) := by decide +kernel
theorem dX5_reduceStatement_144 : decode cX5_reduceStatement 144 = .ok (.aload_n 1, 1) := by decide +kernel
theorem dX5_reduceStatement_145 : decode cX5_reduceStatement 145 = .ok (.getfield 108, 3) := by decide +kernel
theorem dX5_reduceStatement_148 : decode cX5_reduceStatement 148 = .ok (.ifnull 12, 3) := by decide +kernel
theorem dX5_reduceStatement_151 : decode cX5_reduceStatement 151 = .ok (.aload_n 1, 1) := by decide +kernel
theorem dX5_reduceStatement_152 : decode cX5_reduceStatement 152 = .ok (.getfield 112, 3) := by decide +kernel
theorem dX5_reduceStatement_155 : decode cX5_reduceStatement 155 = .ok (.ifnull 5, 3) := by decide +kernel
theorem dX5_reduceStatement_158 : decode cX5_reduceStatement 158 = .ok (.aload_n 1, 1) := by decide +kernel
theorem dX5_reduceStatement_159 : decode cX5_reduceStatement 159 = .ok (.areturn, 1) := by decide +kernel
theorem dX5_reduceStatement_160 : decode cX5_reduceStatement 160 = .ok (.aload_n 0, 1) := by decide +kernel
theorem dX5_reduceStatement_161 : decode cX5_reduceStatement 161 = .ok (.aload_n 1, 1) := by decide +kernel
theorem dX5_reduceStatement_162 : decode cX5_reduceStatement 162 = .ok (.getfield 108, 3) := by decide +kernel
theorem dX5_reduceStatement_165 : decode cX5_reduceStatement 165 = .ok (.ifnull 10, 3) := by decide +kernel
theorem dX5_reduceStatement_168 : decode cX5_reduceStatement 168 = .ok (.aload_n 1, 1) := by decide +kernel
theorem dX5_reduceStatement_169 : decode cX5_reduceStatement 169 = .ok (.getfield 108, 3) := by decide +kernel
theorem dX5_reduceStatement_172 : decode cX5_reduceStatement 172 = .ok (.goto 7, 3) := by decide +kernel
theorem dX5_reduceStatement_175 : decode cX5_reduceStatement 175 = .ok (.aload_n 1, 1) := by decide +kernel
theorem dX5_reduceStatement_176 : decode cX5_reduceStatement 176 = .ok (.getfield 112, 3) := by decide +kernel
theorem dX5_reduceStatement_179 : decode cX5_reduceStatement 179 = .ok (.invokevirtual 195, 3) := by decide +kernel
theorem dX5_reduceStatement_182 : decode cX5_reduceStatement 182 = .ok (.areturn, 1) := by decide +kernel
theorem dX5_reduceStatement_183 : decode cX5_reduceStatement 183 = .ok (.aload_n 1, 1) := by decide +kernel
theorem dX5_reduceStatement_184 : decode cX5_reduceStatement 184 = .ok (.getfield 108, 3) := by decide +kernel
theorem dX5_reduceStatement_187 : decode cX5_reduceStatement 187 = .ok (.ifnonnull 11, 3) := by decide +kernel
theorem dX5_reduceStatement_190 : decode cX5_reduceStatement 190 = .ok (.aload_n 0, 1) := by decide +kernel
theorem dX5_reduceStatement_191 : decode cX5_reduceStatement 191 = .ok (.aconst_null, 1) := by decide +kernel
theorem dX5_reduceStatement_192 : decode cX5_reduceStatement 192 = .ok (.invokevirtual 195, 3) := by decide +kernel
theorem dX5_reduceStatement_195 : decode cX5_reduceStatement 195 = .ok (.goto 4, 3) := by decide +kernel
theorem dX5_reduceStatement_198 : decode cX5_reduceStatement 198 = .ok (.aload_n 1, 1) := by decide +kernel
theorem dX5_reduceStatement_199 : decode cX5_reduceStatement 199 = .ok (.areturn, 1) := by decide +kernel
theorem dX5_reduceStatement_200 : decode cX5_reduceStatement 200 = .ok (.aload_n 1, 1) := by decide +kernel
theorem dX5_reduceStatement_201 : decode cX5_reduceStatement 201 = .ok (.areturn, 1) := by decide +kernel
theorem dX5_shorten_0 : decode cX5_shorten 0 = .ok (.aload_n 0, 1) := by decide +kernel
theorem dX5_shorten_1 : decode cX5_shorten 1 = .ok (.dup, 1) := by decide +kernel
theorem dX5_shorten_2 : decode cX5_shorten 2 = .ok (.getfield 45, 3) := by decide +kernel
theorem dX5_shorten_5 : decode cX5_shorten 5 = .ok (.iconst 1, 1) := by decide +kernel
theorem dX5_shorten_6 : decode cX5_shorten 6 = .ok (.iadd, 1) := by decide +kernel
theorem dX5_shorten_7 : decode cX5_shorten 7 = .ok (.putfield 45, 3) := by decide +kernel
theorem dX5_shorten_10 : decode cX5_shorten 10 = .ok (.aload_n 1, 1) := by decide +kernel
theorem dX5_shorten_11 : decode cX5_shorten 11 = .ok (.areturn, 1) := by decide +kernel
theorem dX6_init_0 : decode cX6_init 0 = .ok (.aload_n 0, 1) := by decide +kernel
theorem dX6_init_1 : decode cX6_init 1 = .ok (.invokespecial 3, 3) := by decide +kernel
theorem dX6_init_4 : decode cX6_init 4 = .ok (.aload_n 0, 1) := by decide +kernel
theorem dX6_init_5 : decode cX6_init 5 = .ok (.bipush 32, 2) := by decide +kernel
theorem dX6_init_7 : decode cX6_init 7 = .ok (.putfield 9, 3) := by decide +kernel
theorem dX6_init_10 : decode cX6_init 10 = .ok (.aload_n 0, 1) := by decide +kernel
theorem dX6_init_11 : decode cX6_init 11 = .ok (.bipush 32, 2) := by decide +kernel
theorem dX6_init_13 : decode cX6_init 13 = .ok (.putfield 15, 3) := by decide +kernel
theorem dX6_init_16 : decode cX6_init 16 = .ok (.aload_n 0, 1) := by decide +kernel
theorem dX6_init_17 : decode cX6_init 17 = .ok (.bipush 80, 2) := by decide +kernel
theorem dX6_init_19 : decode cX6_init 19 = .ok (.newarray .char, 2) := by decide +kernel
theorem dX6_init_21 : decode cX6_init 21 = .ok (.putfield 18, 3) := by decide +kernel
theorem dX6_init_24 : decode cX6_init 24 = .ok (.return_, 1) := by decide +kernel
theorem dX6_clear_0 : decode cX6_clear 0 = .ok (.aload_n 0, 1) := by decide +kernel
theorem dX6_clear_1 : decode cX6_clear 1 = .ok (.bipush 32, 2) := by decide +kernel
theorem dX6_clear_3 : decode cX6_clear 3 = .ok (.putfield 9, 3) := by decide +kernel
theorem dX6_clear_6 : decode cX6_clear 6 = .ok (.aload_n 0, 1) := by decide +kernel
theorem dX6_clear_7 : decode cX6_clear 7 = .ok (.bipush 32, 2) := by decide +kernel
theorem dX6_clear_9 : decode cX6_clear 9 = .ok (.putfield 15, 3) := by decide +kernel
theorem dX6_clear_12 : decode cX6_clear 12 = .ok (.aload_n 0, 1) := by decide +kernel
theorem dX6_clear_13 : decode cX6_clear 13 = .ok (.iconst (-1), 1) := by decide +kernel
theorem dX6_clear_14 : decode cX6_clear 14 = .ok (.putfield 22, 3) := by decide +kernel
theorem dX6_clear_17 : decode cX6_clear 17 = .ok (.aload_n 0, 1) := by decide +kernel
theorem dX6_clear_18 : decode cX6_clear 18 = .ok (.iconst 0, 1) := by decide +kernel
theorem dX6_clear_19 : decode cX6_clear 19 = .ok (.putfield 26, 3) := by decide +kernel
theorem dX6_clear_22 : decode cX6_clear 22 = .ok (.aload_n 0, 1) := by decide +kernel
theorem dX6_clear_23 : decode cX6_clear 23 = .ok (.iconst 0, 1) := by decide +kernel
theorem dX6_clear_24 : decode cX6_clear 24 = .ok (.putfield 29, 3) := by decide +kernel
theorem dX6_clear_27 : decode cX6_clear 27 = .ok (.aload_n 0, 1) := by decide +kernel
theorem dX6_clear_28 : decode cX6_clear 28 = .ok (.iconst 0, 1) := by decide +kernel
theorem dX6_clear_29 : decode cX6_clear 29 = .ok (.putfield 32, 3) := by decide +kernel
theorem dX6_clear_32 : decode cX6_clear 32 = .ok (.return_, 1) := by decide +kernel
theorem dX6_copyFrom_0 : decode cX6_copyFrom 0 = .ok (.aload_n 0, 1) := by decide +kernel
theorem dX6_copyFrom_1 : decode cX6_copyFrom 1 = .ok (.aload_n 1, 1) := by decide +kernel
theorem dX6_copyFrom_2 : decode cX6_copyFrom 2 = .ok (.getfield 9, 3) := by decide +kernel
theorem dX6_copyFrom_5 : decode cX6_copyFrom 5 = .ok (.putfield 9, 3) := by decide +kernel
theorem dX6_copyFrom_8 : decode cX6_copyFrom 8 = .ok (.aload_n 0, 1) := by decide +kernel
theorem dX6_copyFrom_9 : decode cX6_copyFrom 9 = .ok (.aload_n 1, 1) := by decide +kernel
theorem dX6_copyFrom_10 : decode cX6_copyFrom 10 = .ok (.getfield 15, 3) := by decide +kernel
theorem dX6_copyFrom_13 : decode cX6_copyFrom 13 = .ok (.putfield 15, 3) := by decide +kernel
theorem dX6_copyFrom_16 : decode cX6_copyFrom 16 = .ok (.aload_n 0, 1) := by decide +kernel
theorem dX6_copyFrom_17 : decode cX6_copyFrom 17 = .ok (.aload_n 1, 1) := by decide +kernel
theorem dX6_copyFrom_18 : decode cX6_copyFrom 18 = .ok (.getfield 22, 3) := by decide +kernel
theorem dX6_copyFrom_21 : decode cX6_copyFrom 21 = .ok (.putfield 22, 3) := by decide +kernel
theorem dX6_copyFrom_24 : decode cX6_copyFrom 24 = .ok (.aload_n 0, 1) := by decide +kernel
theorem dX6_copyFrom_25 : decode cX6_copyFrom 25 = .ok (.aload_n 1, 1) := by decide +kernel
theorem dX6_copyFrom_26 : decode cX6_copyFrom 26 = .ok (.getfield 26, 3) := by decide +kernel
theorem dX6_copyFrom_29 : decode cX6_copyFrom 29 = .ok (.putfield 26, 3) := by decide +kernel
theorem dX6_copyFrom_32 : decode cX6_copyFrom 32 = .ok (.aload_n 0, 1) := by decide +kernel
theorem dX6_copyFrom_33 : decode cX6_copyFrom 33 = .ok (.aload_n 1, 1) := by decide +kernel
theorem dX6_copyFrom_34 : decode cX6_copyFrom 34 = .ok (.getfield 29, 3) := by decide +kernel
theorem dX6_copyFrom_37 : decode cX6_copyFrom 37 = .ok (.putfield 29, 3) := by decide +kernel
theorem dX6_copyFrom_40 : decode cX6_copyFrom 40 = .ok (.aload_n 0, 1) := by decide +kernel
theorem dX6_copyFrom_41 : decode cX6_copyFrom 41 = .ok (.aload_n 1, 1) := by decide +kernel
theorem dX6_copyFrom_42 : decode cX6_copyFrom 42 = .ok (.getfield 32, 3) := by decide +kernel
theorem dX6_copyFrom_45 : decode cX6_copyFrom 45 = .ok (.putfield 32, 3) := by decide +kernel
theorem dX6_copyFrom_48 : decode cX6_copyFrom 48 = .ok (.iconst 0, 1) := by decide +kernel
theorem dX6_copyFrom_49 : decode cX6_copyFrom 49 = .ok (.istore_n 2, 1) := by decide +kernel
theorem dX6_copyFrom_50 : decode cX6_copyFrom 50 = .ok (.iload_n 2, 1) := by decide +kernel
theorem dX6_copyFrom_51 : decode cX6_copyFrom 51 = .ok (.aload_n 0, 1) := by decide +kernel
theorem dX6_copyFrom_52 : decode cX6_copyFrom 52 = .ok (.getfield 32, 3) := by decide +kernel
theorem dX6_copyFrom_55 : decode cX6_copyFrom 55 = .ok (.if_icmp .ge 30, 3) := by decide +kernel
theorem dX6_copyFrom_58 : decode cX6_copyFrom 58 = .ok (.iload_n 2, 1) := by decide +kernel
theorem dX6_copyFrom_59 : decode cX6_copyFrom 59 = .ok (.aload_n 0, 1) := by decide +kernel
theorem dX6_copyFrom_60 : decode cX6_copyFrom 60 = .ok (.getfield 18, 3) := by decide +kernel
theorem dX6_copyFrom_63 : decode cX6_copyFrom 63 = .ok (.arraylength, 1) := by decide +kernel
theorem dX6_copyFrom_64 : decode cX6_copyFrom 64 = .ok (.if_icmp .ge 21, 3) := by decide +kernel
theorem dX6_copyFrom_67 : decode cX6_copyFrom 67 = .ok (.aload_n 0, 1) := by decide +kernel
theorem dX6_copyFrom_68 : decode cX6_copyFrom 68 = .ok (.getfield 18, 3) := by decide +kernel
theorem dX6_copyFrom_71 : decode cX6_copyFrom 71 = .ok (.iload_n 2, 1) := by decide +kernel
theorem dX6_copyFrom_72 : decode cX6_copyFrom 72 = .ok (.aload_n 1, 1) := by decide +kernel
theorem dX6_copyFrom_73 : decode cX6_copyFrom 73 = .ok (.getfield 18, 3) := by decide +kernel
theorem dX6_copyFrom_76 : decode cX6_copyFrom 76 = .ok (.iload_n 2, 1) := by decide +kernel
theorem dX6_copyFrom_77 : decode cX6_copyFrom 77 = .ok (.caload, 1) := by decide +kernel
theorem dX6_copyFrom_78 : decode cX6_copyFrom 78 = .ok (.castore, 1) := by decide +kernel
theorem dX6_copyFrom_79 : decode cX6_copyFrom 79 = .ok (.iinc 2 1, 3) := by decide +kernel
theorem dX6_copyFrom_82 : decode cX6_copyFrom 82 = .ok (.goto (-32), 3) := by decide +kernel
theorem dX6_copyFrom_85 : decode cX6_copyFrom 85 = .ok (.return_, 1) := by decide +kernel
theorem dX6_print_0 : decode cX6_print 0 = .ok (.aload_n 0, 1) := by decide +kernel
theorem dX6_print_1 : decode cX6_print 1 = .ok (.getfield 32, 3) := by decide +kernel
theorem dX6_print_4 : decode cX6_print 4 = .ok (.aload_n 0, 1) := by decide +kernel
theorem dX6_print_5 : decode cX6_print 5 = .ok (.getfield 18, 3) := by decide +kernel
theorem dX6_print_8 : decode cX6_print 8 = .ok (.arraylength, 1) := by decide +kernel
theorem dX6_print_9 : decode cX6_print 9 = .ok (.if_icmp .ge 20, 3) := by decide +kernel
theorem dX6_print_12 : decode cX6_print 12 = .ok (.aload_n 0, 1) := by decide +kernel
theorem dX6_print_13 : decode cX6_print 13 = .ok (.getfield 18, 3) := by decide +kernel
theorem dX6_print_16 : decode cX6_print 16 = .ok (.aload_n 0, 1) := by decide +kernel
theorem dX6_print_17 : decode cX6_print 17 = .ok (.dup, 1) := by decide +kernel
theorem dX6_print_18 : decode cX6_print 18 = .ok (.getfield 32, 3) := by decide +kernel
theorem dX6_print_21 : decode cX6_print 21 = .ok (.dup_x1, 1) := by decide +kernel
theorem dX6_print_22 : decode cX6_print 22 = .ok (.iconst 1, 1) := by decide +kernel
theorem dX6_print_23 : decode cX6_print 23 = .ok (.iadd, 1) := by decide +kernel
theorem dX6_print_24 : decode cX6_print 24 = .ok (.putfield 32, 3) := by decide +kernel
theorem dX6_print_27 : decode cX6_print 27 = .ok (.iload_n 1, 1) := by decide +kernel
theorem dX6_print_28 : decode cX6_print 28 = .ok (.castore, 1) := by decide +kernel
theorem dX6_print_29 : decode cX6_print 29 = .ok (.return_, 1) := by decide +kernel
theorem dX6_isSameBehaviour_0 : decode cX6_isSameBehaviour 0 = .ok (.aload_n 0, 1) := by decide +kernel
theorem dX6_isSameBehaviour_1 : decode cX6_isSameBehaviour 1 = .ok (.getfield 9, 3) := by decide +kernel
theorem dX6_isSameBehaviour_4 : decode cX6_isSameBehaviour 4 = .ok (.aload_n 1, 1) := by decide +kernel
theorem dX6_isSameBehaviour_5 : decode cX6_isSameBehaviour 5 = .ok (.getfield 9, 3) := by decide +kernel
theorem dX6_isSameBehaviour_8 : decode cX6_isSameBehaviour 8 = .ok (.if_icmp .ne 25, 3) := by decide +kernel
theorem dX6_isSameBehaviour_11 : decode cX6_isSameBehaviour 11 = .ok (.aload_n 0, 1) := by decide +kernel
theorem dX6_isSameBehaviour_12 : decode cX6_isSameBehaviour 12 = .ok (.getfield 15, 3) := by decide +kernel
theorem dX6_isSameBehaviour_15 : decode cX6_isSameBehaviour 15 = .ok (.aload_n 1, 1) := by decide +kernel
theorem dX6_isSameBehaviour_16 : decode cX6_isSameBehaviour 16 = .ok (.getfield 15, 3) := by decide +kernel
theorem dX6_isSameBehaviour_19 : decode cX6_isSameBehaviour 19 = .ok (.if_icmp .ne 14, 3) := by decide +kernel
theorem dX6_isSameBehaviour_22 : decode cX6_isSameBehaviour 22 = .ok (.aload_n 0, 1) := by decide +kernel
theorem dX6_isSameBehaviour_23 : decode cX6_isSameBehaviour 23 = .ok (.getfield 32, 3) := by decide +kernel
theorem dX6_isSameBehaviour_26 : decode cX6_isSameBehaviour 26 = .ok (.aload_n 1, 1) := by decide +kernel
theorem dX6_isSameBehaviour_27 : decode cX6_isSameBehaviour 27 = .ok (.getfield 32, 3) := by decide +kernel
theorem dX6_isSameBehaviour_30 : decode cX6_isSameBehaviour 30 = .ok (.if_icmp .eq 5, 3) := by decide +kernel
theorem dX6_isSameBehaviour_33 : decode cX6_isSameBehaviour 33 = .ok (.iconst 0, 1) := by decide +kernel
theorem dX6_isSameBehaviour_34 : decode cX6_isSameBehaviour 34 = .ok (.ireturn, 1) := by decide +kernel
theorem dX6_isSameBehaviour_35 : decode cX6_isSameBehaviour 35 = .ok (.iconst 0, 1) := by decide +kernel
theorem dX6_isSameBehaviour_36 : decode cX6_isSameBehaviour 36 = .ok (.istore_n 2, 1) := by decide +kernel
theorem dX6_isSameBehaviour_37 : decode cX6_isSameBehaviour 37 = .ok (.iload_n 2, 1) := by decide +kernel
theorem dX6_isSameBehaviour_38 : decode cX6_isSameBehaviour 38 = .ok (.aload_n 0, 1) := by decide +kernel
theorem dX6_isSameBehaviour_39 : decode cX6_isSameBehaviour 39 = .ok (.getfield 32, 3) := by decide +kernel
theorem dX6_isSameBehaviour_42 : decode cX6_isSameBehaviour 42 = .ok (.if_icmp .ge 35, 3) := by decide +kernel
theorem dX6_isSameBehaviour_45 : decode cX6_isSameBehaviour 45 = .ok (.iload_n 2, 1) := by decide +kernel
theorem dX6_isSameBehaviour_46 : decode cX6_isSameBehaviour 46 = .ok (.aload_n 0, 1) := by decide +kernel
theorem dX6_isSameBehaviour_47 : decode cX6_isSameBehaviour 47 = .ok (.getfield 18, 3) := by decide +kernel
theorem dX6_isSameBehaviour_50 : decode cX6_isSameBehaviour 50 = .ok (.arraylength, 1) := by decide +kernel
theorem dX6_isSameBehaviour_51 : decode cX6_isSameBehaviour 51 = .ok (.if_icmp .ge 26, 3) := by decide +kernel
theorem dX6_isSameBehaviour_54 : decode cX6_isSameBehaviour 54 = .ok (.aload_n 0, 1) := by decide +kernel
theorem dX6_isSameBehaviour_55 : decode cX6_isSameBehaviour 55 = .ok (.getfield 18, 3) := by decide +kernel
theorem dX6_isSameBehaviour_58 : decode cX6_isSameBehaviour 58 = .ok (.iload_n 2, 1) := by decide +kernel
theorem dX6_isSameBehaviour_59 : decode cX6_isSameBehaviour 59 = .ok (.caload, 1) := by decide +kernel
theorem dX6_isSameBehaviour_60 : decode cX6_isSameBehaviour 60 = .ok (.aload_n 1, 1) := by decide +kernel
theorem dX6_isSameBehaviour_61 : decode cX6_isSameBehaviour 61 = .ok (.getfield 18, 3) := by decide +kernel
theorem dX6_isSameBehaviour_64 : decode cX6_isSameBehaviour 64 = .ok (.iload_n 2, 1) := by decide +kernel
theorem dX6_isSameBehaviour_65 : decode cX6_isSameBehaviour 65 = .ok (.caload, 1) := by decide +kernel
theorem dX6_isSameBehaviour_66 : decode cX6_isSameBehaviour 66 = .ok (.if_icmp .eq 5, 3) := by decide +kernel
theorem dX6_isSameBehaviour_69 : decode cX6_isSameBehaviour 69 = .ok (.iconst 0, 1) := by decide +kernel
theorem dX6_isSameBehaviour_70 : decode cX6_isSameBehaviour 70 = .ok (.ireturn, 1) := by decide +kernel
theorem dX6_isSameBehaviour_71 : decode cX6_isSameBehaviour 71 = .ok (.iinc 2 1, 3) := by decide +kernel
theorem dX6_isSameBehaviour_74 : decode cX6_isSameBehaviour 74 = .ok (.goto (-37), 3) := by decide +kernel
theorem dX6_isSameBehaviour_77 : decode cX6_isSameBehaviour 77 = .ok (.iconst 1, 1) := by decide +kernel
theorem dX6_isSameBehaviour_78 : decode cX6_isSameBehaviour 78 = .ok (.ireturn, 1) := by decide +kernel
theorem dX7_init_0 : decode cX7_init 0 = .ok (.aload_n 0, 1) := by decide +kernel
theorem dX7_init_1 : decode cX7_init 1 = .ok (.invokespecial 3, 3) := by decide +kernel
theorem dX7_init_4 : decode cX7_init 4 = .ok (.aload_n 0, 1) := by decide +kernel
theorem dX7_init_5 : decode cX7_init 5 = .ok (.bipush 10, 2) := by decide +kernel
theorem dX7_init_7 : decode cX7_init 7 = .ok (.anewarray 9, 3) := by decide +kernel
theorem dX7_init_10 : decode cX7_init 10 = .ok (.putfield 11, 3) := by decide +kernel
theorem dX7_init_13 : decode cX7_init 13 = .ok (.aload_n 0, 1) := by decide +kernel
theorem dX7_init_14 : decode cX7_init 14 = .ok (.iconst 3, 1) := by decide +kernel
theorem dX7_init_15 : decode cX7_init 15 = .ok (.anewarray 17, 3) := by decide +kernel
theorem dX7_init_18 : decode cX7_init 18 = .ok (.putfield 19, 3) := by decide +kernel
theorem dX7_init_21 : decode cX7_init 21 = .ok (.aload_n 0, 1) := by decide +kernel
theorem dX7_init_22 : decode cX7_init 22 = .ok (.iconst 3, 1) := by decide +kernel
theorem dX7_init_23 : decode cX7_init 23 = .ok (.anewarray 23, 3) := by decide +kernel
theorem dX7_init_26 : decode cX7_init 26 = .ok (.putfield 25, 3) := by decide +kernel
theorem dX7_init_29 : decode cX7_init 29 = .ok (.aload_n 0, 1) := by decide +kernel
theorem dX7_init_30 : decode cX7_init 30 = .ok (.bipush 100, 2) := by decide +kernel
theorem dX7_init_32 : decode cX7_init 32 = .ok (.anewarray 29, 3) := by decide +kernel
theorem dX7_init_35 : decode cX7_init 35 = .ok (.putfield 31, 3) := by decide +kernel
theorem dX7_init_38 : decode cX7_init 38 = .ok (.aload_n 0, 1) := by decide +kernel
theorem dX7_init_39 : decode cX7_init 39 = .ok (.bipush 60, 2) := by decide +kernel
theorem dX7_init_41 : decode cX7_init 41 = .ok (.anewarray 23, 3) := by decide +kernel
theorem dX7_init_44 : decode cX7_init 44 = .ok (.putfield 35, 3) := by decide +kernel
theorem dX7_init_47 : decode cX7_init 47 = .ok (.return_, 1) := by decide +kernel
theorem dX7_variableAt_0 : decode cX7_variableAt 0 = .ok (.iload_n 1, 1) := by decide +kernel
theorem dX7_variableAt_1 : decode cX7_variableAt 1 = .ok (.ifCond .lt 29, 3) := by decide +kernel
theorem dX7_variableAt_4 : decode cX7_variableAt 4 = .ok (.iload_n 1, 1) := by decide +kernel
theorem dX7_variableAt_5 : decode cX7_variableAt 5 = .ok (.aload_n 0, 1) := by decide +kernel
theorem dX7_variableAt_6 : decode cX7_variableAt 6 = .ok (.getfield 38, 3) := by decide +kernel
theorem dX7_variableAt_9 : decode cX7_variableAt 9 = .ok (.if_icmp .ge 21, 3) := by decide +kernel
theorem dX7_variableAt_12 : decode cX7_variableAt 12 = .ok (.iload_n 1, 1) := by decide +kernel
theorem dX7_variableAt_13 : decode cX7_variableAt 13 = .ok (.aload_n 0, 1) := by decide +kernel
theorem dX7_variableAt_14 : decode cX7_variableAt 14 = .ok (.getfield 11, 3) := by decide +kernel
theorem dX7_variableAt_17 : decode cX7_variableAt 17 = .ok (.arraylength, 1) := by decide +kernel
theorem dX7_variableAt_18 : decode cX7_variableAt 18 = .ok (.if_icmp .ge 12, 3) := by decide +kernel
theorem dX7_variableAt_21 : decode cX7_variableAt 21 = .ok (.aload_n 0, 1) := by decide +kernel
theorem dX7_variableAt_22 : decode cX7_variableAt 22 = .ok (.getfield 11, 3) := by decide +kernel
theorem dX7_variableAt_25 : decode cX7_variableAt 25 = .ok (.iload_n 1, 1) := by decide +kernel
theorem dX7_variableAt_26 : decode cX7_variableAt 26 = .ok (.aaload, 1) := by decide +kernel
theorem dX7_variableAt_27 : decode cX7_variableAt 27 = .ok (.goto 4, 3) := by decide +kernel
theorem dX7_variableAt_30 : decode cX7_variableAt 30 = .ok (.aconst_null, 1) := by decide +kernel
theorem dX7_variableAt_31 : decode cX7_variableAt 31 = .ok (.areturn, 1) := by decide +kernel
theorem dX7_functionAt_0 : decode cX7_functionAt 0 = .ok (.iload_n 1, 1) := by decide +kernel
theorem dX7_functionAt_1 : decode cX7_functionAt 1 = .ok (.ifCond .lt 29, 3) := by decide +kernel
theorem dX7_functionAt_4 : decode cX7_functionAt 4 = .ok (.iload_n 1, 1) := by decide +kernel
theorem dX7_functionAt_5 : decode cX7_functionAt 5 = .ok (.aload_n 0, 1) := by decide +kernel
theorem dX7_functionAt_6 : decode cX7_functionAt 6 = .ok (.getfield 42, 3) := by decide +kernel
theorem dX7_functionAt_9 : decode cX7_functionAt 9 = .ok (.if_icmp .ge 21, 3) := by decide +kernel
theorem dX7_functionAt_12 : decode cX7_functionAt 12 = .ok (.iload_n 1, 1) := by decide +kernel
theorem dX7_functionAt_13 : decode cX7_functionAt 13 = .ok (.aload_n 0, 1) := by decide +kernel
theorem dX7_functionAt_14 : decode cX7_functionAt 14 = .ok (.getfield 19, 3) := by decide +kernel
theorem dX7_functionAt_17 : decode cX7_functionAt 17 = .ok (.arraylength, 1) := by decide +kernel
theorem dX7_functionAt_18 : decode cX7_functionAt 18 = .ok (.if_icmp .ge 12, 3) := by decide +kernel
theorem dX7_functionAt_21 : decode cX7_functionAt 21 = .ok (.aload_n 0, 1) := by decide +kernel
theorem dX7_functionAt_22 : decode cX7_functionAt 22 = .ok (.getfield 19, 3) := by decide +kernel
theorem dX7_functionAt_25 : decode cX7_functionAt 25 = .ok (.iload_n 1, 1) := by decide +kernel
theorem dX7_functionAt_26 : decode cX7_functionAt 26 = .ok (.aaload, 1) := by decide +kernel
theorem dX7_functionAt_27 : decode cX7_functionAt 27 = .ok (.goto 4, 3) := by decide +kernel
theorem dX7_functionAt_30 : decode cX7_functionAt 30 = .ok (.aconst_null, 1) := by decide +kernel
theorem dX7_functionAt_31 : decode cX7_functionAt 31 = .ok (.areturn, 1) := by decide +kernel
theorem dX7_nodeAt_0 : decode cX7_nodeAt 0 = .ok (.iload_n 1, 1) := by decide +kernel
theorem dX7_nodeAt_1 : decode cX7_nodeAt 1 = .ok (.ifCond .lt 29, 3) := by decide +kernel
theorem dX7_nodeAt_4 : decode cX7_nodeAt 4 = .ok (.iload_n 1, 1) := by decide +kernel
theorem dX7_nodeAt_5 : decode cX7_nodeAt 5 = .ok (.aload_n 0, 1) := by decide +kernel
theorem dX7_nodeAt_6 : decode cX7_nodeAt 6 = .ok (.getfield 45, 3) := by decide +kernel
theorem dX7_nodeAt_9 : decode cX7_nodeAt 9 = .ok (.if_icmp .ge 21, 3) := by decide +kernel
theorem dX7_nodeAt_12 : decode cX7_nodeAt 12 = .ok (.iload_n 1, 1) := by decide +kernel
theorem dX7_nodeAt_13 : decode cX7_nodeAt 13 = .ok (.aload_n 0, 1) := by decide +kernel
theorem dX7_nodeAt_14 : decode cX7_nodeAt 14 = .ok (.getfield 31, 3) := by decide +kernel
theorem dX7_nodeAt_17 : decode cX7_nodeAt 17 = .ok (.arraylength, 1) := by decide +kernel
theorem dX7_nodeAt_18 : decode cX7_nodeAt 18 = .ok (.if_icmp .ge 12, 3) := by decide +kernel
theorem dX7_nodeAt_21 : decode cX7_nodeAt 21 = .ok (.aload_n 0, 1) := by decide +kernel
theorem dX7_nodeAt_22 : decode cX7_nodeAt 22 = .ok (.getfield 31, 3) := by decide +kernel
theorem dX7_nodeAt_25 : decode cX7_nodeAt 25 = .ok (.iload_n 1, 1) := by decide +kernel
theorem dX7_nodeAt_26 : decode cX7_nodeAt 26 = .ok (.aaload, 1) := by decide +kernel
theorem dX7_nodeAt_27 : decode cX7_nodeAt 27 = .ok (.goto 4, 3) := by decide +kernel
theorem dX7_nodeAt_30 : decode cX7_nodeAt 30 = .ok (.aconst_null, 1) := by decide +kernel
theorem dX7_nodeAt_31 : decode cX7_nodeAt 31 = .ok (.areturn, 1) := by decide +kernel
theorem dX7_statementAt_0 : decode cX7_statementAt 0 = .ok (.iload_n 1, 1) := by decide +kernel
theorem dX7_statementAt_1 : decode cX7_statementAt 1 = .ok (.ifCond .lt 29, 3) := by decide +kernel
theorem dX7_statementAt_4 : decode cX7_statementAt 4 = .ok (.iload_n 1, 1) := by decide +kernel
theorem dX7_statementAt_5 : decode cX7_statementAt 5 = .ok (.aload_n 0, 1) := by decide +kernel
theorem dX7_statementAt_6 : decode cX7_statementAt 6 = .ok (.getfield 48, 3) := by decide +kernel
theorem dX7_statementAt_9 : decode cX7_statementAt 9 = .ok (.if_icmp .ge 21, 3) := by decide +kernel
theorem dX7_statementAt_12 : decode cX7_statementAt 12 = .ok (.iload_n 1, 1) := by decide +kernel
theorem dX7_statementAt_13 : decode cX7_statementAt 13 = .ok (.aload_n 0, 1) := by decide +kernel
theorem dX7_statementAt_14 : decode cX7_statementAt 14 = .ok (.getfield 35, 3) := by decide +kernel
theorem dX7_statementAt_17 : decode cX7_statementAt 17 = .ok (.arraylength, 1) := by decide +kernel
theorem dX7_statementAt_18 : decode cX7_statementAt 18 = .ok (.if_icmp .ge 12, 3) := by decide +kernel
theorem dX7_statementAt_21 : decode cX7_statementAt 21 = .ok (.aload_n 0, 1) := by decide +kernel
theorem dX7_statementAt_22 : decode cX7_statementAt 22 = .ok (.getfield 35, 3) := by decide +kernel
theorem dX7_statementAt_25 : decode cX7_statementAt 25 = .ok (.iload_n 1, 1) := by decide +kernel
theorem dX7_statementAt_26 : decode cX7_statementAt 26 = .ok (.aaload, 1) := by decide +kernel
theorem dX7_statementAt_27 : decode cX7_statementAt 27 = .ok (.goto 4, 3) := by decide +kernel
theorem dX7_statementAt_30 : decode cX7_statementAt 30 = .ok (.aconst_null, 1) := by decide +kernel
theorem dX7_statementAt_31 : decode cX7_statementAt 31 = .ok (.areturn, 1) := by decide +kernel
theorem dX7_keepVariable_0 : decode cX7_keepVariable 0 = .ok (.aload_n 0, 1) := by decide +kernel
theorem dX7_keepVariable_1 : decode cX7_keepVariable 1 = .ok (.getfield 38, 3) := by decide +kernel
theorem dX7_keepVariable_4 : decode cX7_keepVariable 4 = .ok (.aload_n 0, 1) := by decide +kernel
theorem dX7_keepVariable_5 : decode cX7_keepVariable 5 = .ok (.getfield 11, 3) := by decide +kernel
theorem dX7_keepVariable_8 : decode cX7_keepVariable 8 = .ok (.arraylength, 1) := by decide +kernel
theorem dX7_keepVariable_9 : decode cX7_keepVariable 9 = .ok (.if_icmp .lt 5, 3) := by decide +kernel
theorem dX7_keepVariable_12 : decode cX7_keepVariable 12 = .ok (.iconst (-1), 1) := by decide +kernel
theorem dX7_keepVariable_13 : decode cX7_keepVariable 13 = .ok (.ireturn, 1) := by decide +kernel
theorem dX7_keepVariable_14 : decode cX7_keepVariable 14 = .ok (.aload_n 1, 1) := by decide +kernel
theorem dX7_keepVariable_15 : decode cX7_keepVariable 15 = .ok (.aload_n 0, 1) := by decide +kernel
theorem dX7_keepVariable_16 : decode cX7_keepVariable 16 = .ok (.getfield 38, 3) := by decide +kernel
theorem dX7_keepVariable_19 : decode cX7_keepVariable 19 = .ok (.putfield 51, 3) := by decide +kernel
theorem dX7_keepVariable_22 : decode cX7_keepVariable 22 = .ok (.aload_n 0, 1) := by decide +kernel
theorem dX7_keepVariable_23 : decode cX7_keepVariable 23 = .ok (.getfield 11, 3) := by decide +kernel
theorem dX7_keepVariable_26 : decode cX7_keepVariable 26 = .ok (.aload_n 0, 1) := by decide +kernel
theorem dX7_keepVariable_27 : decode cX7_keepVariable 27 = .ok (.dup, 1) := by decide +kernel
theorem dX7_keepVariable_28 : decode cX7_keepVariable 28 = .ok (.getfield 38, 3) := by decide +kernel
theorem dX7_keepVariable_31 : decode cX7_keepVariable 31 = .ok (.dup_x1, 1) := by decide +kernel
theorem dX7_keepVariable_32 : decode cX7_keepVariable 32 = .ok (.iconst 1, 1) := by decide +kernel
theorem dX7_keepVariable_33 : decode cX7_keepVariable 33 = .ok (.iadd, 1) := by decide +kernel
theorem dX7_keepVariable_34 : decode cX7_keepVariable 34 = .ok (.putfield 38, 3) := by decide +kernel
theorem dX7_keepVariable_37 : decode cX7_keepVariable 37 = .ok (.aload_n 1, 1) := by decide +kernel
theorem dX7_keepVariable_38 : decode cX7_keepVariable 38 = .ok (.aastore, 1) := by decide +kernel
theorem dX7_keepVariable_39 : decode cX7_keepVariable 39 = .ok (.aload_n 1, 1) := by decide +kernel
theorem dX7_keepVariable_40 : decode cX7_keepVariable 40 = .ok (.getfield 51, 3) := by decide +kernel
theorem dX7_keepVariable_43 : decode cX7_keepVariable 43 = .ok (.ireturn, 1) := by decide +kernel
theorem dX7_keepFunction_0 : decode cX7_keepFunction 0 = .ok (.aload_n 0, 1) := by decide +kernel
theorem dX7_keepFunction_1 : decode cX7_keepFunction 1 = .ok (.getfield 42, 3) := by decide +kernel
theorem dX7_keepFunction_4 : decode cX7_keepFunction 4 = .ok (.aload_n 0, 1) := by decide +kernel
theorem dX7_keepFunction_5 : decode cX7_keepFunction 5 = .ok (.getfield 19, 3) := by decide +kernel
theorem dX7_keepFunction_8 : decode cX7_keepFunction 8 = .ok (.arraylength, 1) := by decide +kernel
theorem dX7_keepFunction_9 : decode cX7_keepFunction 9 = .ok (.if_icmp .lt 5, 3) := by decide +kernel
theorem dX7_keepFunction_12 : decode cX7_keepFunction 12 = .ok (.iconst (-1), 1) := by decide +kernel
theorem dX7_keepFunction_13 : decode cX7_keepFunction 13 = .ok (.ireturn, 1) := by decide +kernel
theorem dX7_keepFunction_14 : decode cX7_keepFunction 14 = .ok (.aload_n 1, 1) := by decide +kernel
theorem dX7_keepFunction_15 : decode cX7_keepFunction 15 = .ok (.aload_n 0, 1) := by decide +kernel
theorem dX7_keepFunction_16 : decode cX7_keepFunction 16 = .ok (.getfield 42, 3) := by decide +kernel
theorem dX7_keepFunction_19 : decode cX7_keepFunction 19 = .ok (.putfield 54, 3) := by decide +kernel
theorem dX7_keepFunction_22 : decode cX7_keepFunction 22 = .ok (.aload_n 0, 1) := by decide +kernel
theorem dX7_keepFunction_23 : decode cX7_keepFunction 23 = .ok (.getfield 19, 3) := by decide +kernel
theorem dX7_keepFunction_26 : decode cX7_keepFunction 26 = .ok (.aload_n 0, 1) := by decide +kernel
theorem dX7_keepFunction_27 : decode cX7_keepFunction 27 = .ok (.dup, 1) := by decide +kernel
theorem dX7_keepFunction_28 : decode cX7_keepFunction 28 = .ok (.getfield 42, 3) := by decide +kernel
theorem dX7_keepFunction_31 : decode cX7_keepFunction 31 = .ok (.dup_x1, 1) := by decide +kernel
theorem dX7_keepFunction_32 : decode cX7_keepFunction 32 = .ok (.iconst 1, 1) := by decide +kernel
theorem dX7_keepFunction_33 : decode cX7_keepFunction 33 = .ok (.iadd, 1) := by decide +kernel
theorem dX7_keepFunction_34 : decode cX7_keepFunction 34 = .ok (.putfield 42, 3) := by decide +kernel
theorem dX7_keepFunction_37 : decode cX7_keepFunction 37 = .ok (.aload_n 1, 1) := by decide +kernel
theorem dX7_keepFunction_38 : decode cX7_keepFunction 38 = .ok (.aastore, 1) := by decide +kernel
theorem dX7_keepFunction_39 : decode cX7_keepFunction 39 = .ok (.aload_n 1, 1) := by decide +kernel
theorem dX7_keepFunction_40 : decode cX7_keepFunction 40 = .ok (.getfield 54, 3) := by decide +kernel
theorem dX7_keepFunction_43 : decode cX7_keepFunction 43 = .ok (.ireturn, 1) := by decide +kernel
theorem dX7_keepNode_0 : decode cX7_keepNode 0 = .ok (.aload_n 0, 1) := by decide +kernel
theorem dX7_keepNode_1 : decode cX7_keepNode 1 = .ok (.getfield 45, 3) := by decide +kernel
theorem dX7_keepNode_4 : decode cX7_keepNode 4 = .ok (.aload_n 0, 1) := by decide +kernel
theorem dX7_keepNode_5 : decode cX7_keepNode 5 = .ok (.getfield 31, 3) := by decide +kernel
theorem dX7_keepNode_8 : decode cX7_keepNode 8 = .ok (.arraylength, 1) := by decide +kernel
theorem dX7_keepNode_9 : decode cX7_keepNode 9 = .ok (.if_icmp .lt 5, 3) := by decide +kernel
theorem dX7_keepNode_12 : decode cX7_keepNode 12 = .ok (.iconst (-1), 1) := by decide +kernel
theorem dX7_keepNode_13 : decode cX7_keepNode 13 = .ok (.ireturn, 1) := by decide +kernel
theorem dX7_keepNode_14 : decode cX7_keepNode 14 = .ok (.aload_n 1, 1) := by decide +kernel
theorem dX7_keepNode_15 : decode cX7_keepNode 15 = .ok (.aload_n 2, 1) := by decide +kernel
theorem dX7_keepNode_16 : decode cX7_keepNode 16 = .ok (.aload_n 3, 1) := by decide +kernel
theorem dX7_keepNode_17 : decode cX7_keepNode 17 = .ok (.aload 4, 2) := by decide +kernel
theorem dX7_keepNode_19 : decode cX7_keepNode 19 = .ok (.invokevirtual 55, 3) := by decide +kernel
theorem dX7_keepNode_22 : decode cX7_keepNode 22 = .ok (.aload_n 2, 1) := by decide +kernel
theorem dX7_keepNode_23 : decode cX7_keepNode 23 = .ok (.invokestatic 59, 3) := by decide +kernel
theorem dX7_keepNode_26 : decode cX7_keepNode 26 = .ok (.aload_n 3, 1) := by decide +kernel
theorem dX7_keepNode_27 : decode cX7_keepNode 27 = .ok (.invokestatic 59, 3) := by decide +kernel
theorem dX7_keepNode_30 : decode cX7_keepNode 30 = .ok (.aload 4, 2) := by decide +kernel
theorem dX7_keepNode_32 : decode cX7_keepNode 32 = .ok (.invokestatic 59, 3) := by decide +kernel
theorem dX7_keepNode_35 : decode cX7_keepNode 35 = .ok (.aload_n 1, 1) := by decide +kernel
theorem dX7_keepNode_36 : decode cX7_keepNode 36 = .ok (.aload_n 0, 1) := by decide +kernel
theorem dX7_keepNode_37 : decode cX7_keepNode 37 = .ok (.getfield 45, 3) := by decide +kernel
theorem dX7_keepNode_40 : decode cX7_keepNode 40 = .ok (.putfield 63, 3) := by decide +kernel
theorem dX7_keepNode_43 : decode cX7_keepNode 43 = .ok (.aload_n 0, 1) := by decide +kernel
theorem dX7_keepNode_44 : decode cX7_keepNode 44 = .ok (.getfield 31, 3) := by decide +kernel
theorem dX7_keepNode_47 : decode cX7_keepNode 47 = .ok (.aload_n 0, 1) := by decide +kernel
theorem dX7_keepNode_48 : decode cX7_keepNode 48 = .ok (.dup, 1) := by decide +kernel
theorem dX7_keepNode_49 : decode cX7_keepNode 49 = .ok (.getfield 45, 3) := by decide +kernel
theorem dX7_keepNode_52 : decode cX7_keepNode 52 = .ok (.dup_x1, 1) := by decide +kernel
theorem dX7_keepNode_53 : decode cX7_keepNode 53 = .ok (.iconst 1, 1) := by decide +kernel
theorem dX7_keepNode_54 : decode cX7_keepNode 54 = .ok (.iadd, 1) := by decide +kernel
theorem dX7_keepNode_55 : decode cX7_keepNode 55 = .ok (.putfield 45, 3) := by decide +kernel
theorem dX7_keepNode_58 : decode cX7_keepNode 58 = .ok (.aload_n 1, 1) := by decide +kernel
theorem dX7_keepNode_59 : decode cX7_keepNode 59 = .ok (.aastore, 1) := by decide +kernel
theorem dX7_keepNode_60 : decode cX7_keepNode 60 = .ok (.aload_n 1, 1) := by decide +kernel
theorem dX7_keepNode_61 : decode cX7_keepNode 61 = .ok (.getfield 63, 3) := by decide +kernel
theorem dX7_keepNode_64 : decode cX7_keepNode 64 = .ok (.ireturn, 1) := by decide +kernel
theorem dX7_keepStatement_0 : decode cX7_keepStatement 0 = .ok (.aload_n 0, 1) := by decide +kernel
theorem dX7_keepStatement_1 : decode cX7_keepStatement 1 = .ok (.getfield 48, 3) := by decide +kernel
theorem dX7_keepStatement_4 : decode cX7_keepStatement 4 = .ok (.aload_n 0, 1) := by decide +kernel
theorem dX7_keepStatement_5 : decode cX7_keepStatement 5 = .ok (.getfield 35, 3) := by decide +kernel
theorem dX7_keepStatement_8 : decode cX7_keepStatement 8 = .ok (.arraylength, 1) := by decide +kernel
theorem dX7_keepStatement_9 : decode cX7_keepStatement 9 = .ok (.if_icmp .lt 5, 3) := by decide +kernel
theorem dX7_keepStatement_12 : decode cX7_keepStatement 12 = .ok (.iconst (-1), 1) := by decide +kernel
theorem dX7_keepStatement_13 : decode cX7_keepStatement 13 = .ok (.ireturn, 1) := by decide +kernel
theorem dX7_keepStatement_14 : decode cX7_keepStatement 14 = .ok (.aload_n 1, 1) := by decide +kernel
theorem dX7_keepStatement_15 : decode cX7_keepStatement 15 = .ok (.aload_n 2, 1) := by decide +kernel
theorem dX7_keepStatement_16 : decode cX7_keepStatement 16 = .ok (.aload_n 3, 1) := by decide +kernel
theorem dX7_keepStatement_17 : decode cX7_keepStatement 17 = .ok (.invokevirtual 64, 3) := by decide +kernel
theorem dX7_keepStatement_20 : decode cX7_keepStatement 20 = .ok (.aload_n 1, 1) := by decide +kernel
theorem dX7_keepStatement_21 : decode cX7_keepStatement 21 = .ok (.getfield 67, 3) := by decide +kernel
theorem dX7_keepStatement_24 : decode cX7_keepStatement 24 = .ok (.invokestatic 59, 3) := by decide +kernel
theorem dX7_keepStatement_27 : decode cX7_keepStatement 27 = .ok (.aload_n 2, 1) := by decide +kernel
theorem dX7_keepStatement_28 : decode cX7_keepStatement 28 = .ok (.invokestatic 71, 3) := by decide +kernel
theorem dX7_keepStatement_31 : decode cX7_keepStatement 31 = .ok (.aload_n 3, 1) := by decide +kernel
theorem dX7_keepStatement_32 : decode cX7_keepStatement 32 = .ok (.invokestatic 71, 3) := by decide +kernel
theorem dX7_keepStatement_35 : decode cX7_keepStatement 35 = .ok (.aload_n 1, 1) := by decide +kernel
theorem dX7_keepStatement_36 : decode cX7_keepStatement 36 = .ok (.aload_n 0, 1) := by decide +kernel
theorem dX7_keepStatement_37 : decode cX7_keepStatement 37 = .ok (.getfield 48, 3) := by decide +kernel
theorem dX7_keepStatement_40 : decode cX7_keepStatement 40 = .ok (.putfield 75, 3) := by decide +kernel
theorem dX7_keepStatement_43 : decode cX7_keepStatement 43 = .ok (.aload_n 0, 1) := by decide +kernel
theorem dX7_keepStatement_44 : decode cX7_keepStatement 44 = .ok (.getfield 35, 3) := by decide +kernel
theorem dX7_keepStatement_47 : decode cX7_keepStatement 47 = .ok (.aload_n 0, 1) := by decide +kernel
theorem dX7_keepStatement_48 : decode cX7_keepStatement 48 = .ok (.dup, 1) := by decide +kernel
theorem dX7_keepStatement_49 : decode cX7_keepStatement 49 = .ok (.getfield 48, 3) := by decide +kernel
theorem dX7_keepStatement_52 : decode cX7_keepStatement 52 = .ok (.dup_x1, 1) := by decide +kernel
theorem dX7_keepStatement_53 : decode cX7_keepStatement 53 = .ok (.iconst 1, 1) := by decide +kernel
theorem dX7_keepStatement_54 : decode cX7_keepStatement 54 = .ok (.iadd, 1) := by decide +kernel
theorem dX7_keepStatement_55 : decode cX7_keepStatement 55 = .ok (.putfield 48, 3) := by decide +kernel
theorem dX7_keepStatement_58 : decode cX7_keepStatement 58 = .ok (.aload_n 1, 1) := by decide +kernel
theorem dX7_keepStatement_59 : decode cX7_keepStatement 59 = .ok (.aastore, 1) := by decide +kernel
theorem dX7_keepStatement_60 : decode cX7_keepStatement 60 = .ok (.aload_n 1, 1) := by decide +kernel
theorem dX7_keepStatement_61 : decode cX7_keepStatement 61 = .ok (.getfield 75, 3) := by decide +kernel
theorem dX7_keepStatement_64 : decode cX7_keepStatement 64 = .ok (.ireturn, 1) := by decide +kernel
theorem dX7_take_0 : decode cX7_take 0 = .ok (.aload_n 0, 1) := by decide +kernel
theorem dX7_take_1 : decode cX7_take 1 = .ok (.ifnull 8, 3) := by decide +kernel
theorem dX7_take_4 : decode cX7_take 4 = .ok (.aload_n 0, 1) := by decide +kernel
theorem dX7_take_5 : decode cX7_take 5 = .ok (.iconst 1, 1) := by decide +kernel
theorem dX7_take_6 : decode cX7_take 6 = .ok (.putfield 76, 3) := by decide +kernel
theorem dX7_take_9 : decode cX7_take 9 = .ok (.return_, 1) := by decide +kernel
theorem dX7_takeStatement_0 : decode cX7_takeStatement 0 = .ok (.aload_n 0, 1) := by decide +kernel
theorem dX7_takeStatement_1 : decode cX7_takeStatement 1 = .ok (.ifnull 8, 3) := by decide +kernel
theorem dX7_takeStatement_4 : decode cX7_takeStatement 4 = .ok (.aload_n 0, 1) := by decide +kernel
theorem dX7_takeStatement_5 : decode cX7_takeStatement 5 = .ok (.iconst 1, 1) := by decide +kernel
theorem dX7_takeStatement_6 : decode cX7_takeStatement 6 = .ok (.putfield 80, 3) := by decide +kernel
theorem dX7_takeStatement_9 : decode cX7_takeStatement 9 = .ok (.return_, 1) := by decide +kernel
theorem dX7_canJoin_0 : decode cX7_canJoin 0 = .ok (.aload_n 0, 1) := by decide +kernel
theorem dX7_canJoin_1 : decode cX7_canJoin 1 = .ok (.ifnull 13, 3) := by decide +kernel
theorem dX7_canJoin_4 : decode cX7_canJoin 4 = .ok (.aload_n 0, 1) := by decide +kernel
theorem dX7_canJoin_5 : decode cX7_canJoin 5 = .ok (.aload_n 1, 1) := by decide +kernel
theorem dX7_canJoin_6 : decode cX7_canJoin 6 = .ok (.if_acmp .eq 12, 3) := by decide +kernel
theorem dX7_canJoin_9 : decode cX7_canJoin 9 = .ok (.aload_n 0, 1) := by decide +kernel
theorem dX7_canJoin_10 : decode cX7_canJoin 10 = .ok (.aload_n 2, 1) := by decide +kernel
theorem dX7_canJoin_11 : decode cX7_canJoin 11 = .ok (.if_acmp .eq 7, 3) := by decide +kernel
theorem dX7_canJoin_14 : decode cX7_canJoin 14 = .ok (.iconst 1, 1) := by decide +kernel
theorem dX7_canJoin_15 : decode cX7_canJoin 15 = .ok (.goto 4, 3) := by decide +kernel
theorem dX7_canJoin_18 : decode cX7_canJoin 18 = .ok (.iconst 0, 1) := by decide +kernel
theorem dX7_canJoin_19 : decode cX7_canJoin 19 = .ok (.istore_n 3, 1) := by decide +kernel
theorem dX7_canJoin_20 : decode cX7_canJoin 20 = .ok (.aload_n 1, 1) := by decide +kernel
theorem dX7_canJoin_21 : decode cX7_canJoin 21 = .ok (.ifnull 10, 3) := by decide +kernel
theorem dX7_canJoin_24 : decode cX7_canJoin 24 = .ok (.aload_n 1, 1) := by decide +kernel
theorem dX7_canJoin_25 : decode cX7_canJoin 25 = .ok (.aload_n 2, 1) := by decide +kernel
theorem dX7_canJoin_26 : decode cX7_canJoin 26 = .ok (.if_acmp .ne 5, 3) := by decide +kernel
theorem dX7_canJoin_29 : decode cX7_canJoin 29 = .ok (.iconst 0, 1) := by decide +kernel
theorem dX7_canJoin_30 : decode cX7_canJoin 30 = .ok (.istore_n 3, 1) := by decide +kernel
theorem dX7_canJoin_31 : decode cX7_canJoin 31 = .ok (.aload_n 0, 1) := by decide +kernel
theorem dX7_canJoin_32 : decode cX7_canJoin 32 = .ok (.invokestatic 81, 3) := by decide +kernel
theorem dX7_canJoin_35 : decode cX7_canJoin 35 = .ok (.aload_n 1, 1) := by decide +kernel
theorem dX7_canJoin_36 : decode cX7_canJoin 36 = .ok (.invokestatic 81, 3) := by decide +kernel
theorem dX7_canJoin_39 : decode cX7_canJoin 39 = .ok (.aload_n 2, 1) := by decide +kernel
theorem dX7_canJoin_40 : decode cX7_canJoin 40 = .ok (.invokestatic 81, 3) := by decide +kernel
theorem dX7_canJoin_43 : decode cX7_canJoin 43 = .ok (.invokestatic 85, 3) := by decide +kernel
theorem dX7_canJoin_46 : decode cX7_canJoin 46 = .ok (.invokestatic 85, 3) := by decide +kernel
theorem dX7_canJoin_49 : decode cX7_canJoin 49 = .ok (.istore 4, 2) := by decide +kernel
theorem dX7_canJoin_51 : decode cX7_canJoin 51 = .ok (.iload_n 3, 1) := by decide +kernel
theorem dX7_canJoin_52 : decode cX7_canJoin 52 = .ok (.ifCond .eq 35, 3) := by decide +kernel
theorem dX7_canJoin_55 : decode cX7_canJoin 55 = .ok (.aload_n 0, 1) := by decide +kernel
theorem dX7_canJoin_56 : decode cX7_canJoin 56 = .ok (.invokestatic 91, 3) := by decide +kernel
theorem dX7_canJoin_59 : decode cX7_canJoin 59 = .ok (.ifCond .eq 28, 3) := by decide +kernel
theorem dX7_canJoin_62 : decode cX7_canJoin 62 = .ok (.aload_n 1, 1) := by decide +kernel
theorem dX7_canJoin_63 : decode cX7_canJoin 63 = .ok (.invokestatic 91, 3) := by decide +kernel
theorem dX7_canJoin_66 : decode cX7_canJoin 66 = .ok (.ifCond .eq 21, 3) := by decide +kernel
theorem dX7_canJoin_69 : decode cX7_canJoin 69 = .ok (.aload_n 2, 1) := by decide +kernel
theorem dX7_canJoin_70 : decode cX7_canJoin 70 = .ok (.invokestatic 91, 3) := by decide +kernel
theorem dX7_canJoin_73 : decode cX7_canJoin 73 = .ok (.ifCond .eq 14, 3) := by decide +kernel
theorem dX7_canJoin_76 : decode cX7_canJoin 76 = .ok (.iload 4, 2) := by decide +kernel
theorem dX7_canJoin_78 : decode cX7_canJoin 78 = .ok (.bipush 12, 2) := by decide +kernel
theorem dX7_canJoin_80 : decode cX7_canJoin 80 = .ok (.if_icmp .ge 7, 3) := by decide +kernel
theorem dX7_canJoin_83 : decode cX7_canJoin 83 = .ok (.iconst 1, 1) := by decide +kernel
theorem dX7_canJoin_84 : decode cX7_canJoin 84 = .ok (.goto 4, 3) := by decide +kernel
theorem dX7_canJoin_87 : decode cX7_canJoin 87 = .ok (.iconst 0, 1) := by decide +kernel
theorem dX7_canJoin_88 : decode cX7_canJoin 88 = .ok (.ireturn, 1) := by decide +kernel
theorem dX7_canJoinStatements_0 : decode cX7_canJoinStatements 0 = .ok (.aload_n 1, 1) := by decide +kernel
theorem dX7_canJoinStatements_1 : decode cX7_canJoinStatements 1 = .ok (.ifnull 8, 3) := by decide +kernel
theorem dX7_canJoinStatements_4 : decode cX7_canJoinStatements 4 = .ok (.aload_n 1, 1) := by decide +kernel
theorem dX7_canJoinStatements_5 : decode cX7_canJoinStatements 5 = .ok (.aload_n 2, 1) := by decide +kernel
theorem dX7_canJoinStatements_6 : decode cX7_canJoinStatements 6 = .ok (.if_acmp .eq 7, 3) := by decide +kernel
theorem dX7_canJoinStatements_9 : decode cX7_canJoinStatements 9 = .ok (.iconst 1, 1) := by decide +kernel
theorem dX7_canJoinStatements_10 : decode cX7_canJoinStatements 10 = .ok (.goto 4, 3) := by decide +kernel
theorem dX7_canJoinStatements_13 : decode cX7_canJoinStatements 13 = .ok (.iconst 0, 1) := by decide +kernel
theorem dX7_canJoinStatements_14 : decode cX7_canJoinStatements 14 = .ok (.istore_n 3, 1) := by decide +kernel
theorem dX7_canJoinStatements_15 : decode cX7_canJoinStatements 15 = .ok (.aload_n 0, 1) := by decide +kernel
theorem dX7_canJoinStatements_16 : decode cX7_canJoinStatements 16 = .ok (.invokestatic 91, 3) := by decide +kernel
theorem dX7_canJoinStatements_19 : decode cX7_canJoinStatements 19 = .ok (.ifCond .eq 21, 3) := by decide +kernel
theorem dX7_canJoinStatements_22 : decode cX7_canJoinStatements 22 = .ok (.aload_n 1, 1) := by decide +kernel
theorem dX7_canJoinStatements_23 : decode cX7_canJoinStatements 23 = .ok (.invokestatic 95, 3) := by decide +kernel
theorem dX7_canJoinStatements_26 : decode cX7_canJoinStatements 26 = .ok (.ifCond .eq 14, 3) := by decide +kernel
theorem dX7_canJoinStatements_29 : decode cX7_canJoinStatements 29 = .ok (.aload_n 2, 1) := by decide +kernel
theorem dX7_canJoinStatements_30 : decode cX7_canJoinStatements 30 = .ok (.invokestatic 95, 3) := by decide +kernel
theorem dX7_canJoinStatements_33 : decode cX7_canJoinStatements 33 = .ok (.ifCond .eq 7, 3) := by decide +kernel
theorem dX7_canJoinStatements_36 : decode cX7_canJoinStatements 36 = .ok (.iconst 1, 1) := by decide +kernel
theorem dX7_canJoinStatements_37 : decode cX7_canJoinStatements 37 = .ok (.goto 4, 3) := by decide +kernel
theorem dX7_canJoinStatements_40 : decode cX7_canJoinStatements 40 = .ok (.iconst 0, 1) := by decide +kernel
theorem dX7_canJoinStatements_41 : decode cX7_canJoinStatements 41 = .ok (.istore 4, 2) := by decide +kernel
theorem dX7_canJoinStatements_43 : decode cX7_canJoinStatements 43 = .ok (.aload_n 1, 1) := by decide +kernel
theorem dX7_canJoinStatements_44 : decode cX7_canJoinStatements 44 = .ok (.invokestatic 99, 3) := by decide +kernel
theorem dX7_canJoinStatements_47 : decode cX7_canJoinStatements 47 = .ok (.aload_n 2, 1) := by decide +kernel
theorem dX7_canJoinStatements_48 : decode cX7_canJoinStatements 48 = .ok (.invokestatic 99, 3) := by decide +kernel
theorem dX7_canJoinStatements_51 : decode cX7_canJoinStatements 51 = .ok (.invokestatic 85, 3) := by decide +kernel
theorem dX7_canJoinStatements_54 : decode cX7_canJoinStatements 54 = .ok (.istore 5, 2) := by decide +kernel
theorem dX7_canJoinStatements_56 : decode cX7_canJoinStatements 56 = .ok (.iload_n 3, 1) := by decide +kernel
theorem dX7_canJoinStatements_57 : decode cX7_canJoinStatements 57 = .ok (.ifCond .eq 19, 3) := by decide +kernel
theorem dX7_canJoinStatements_60 : decode cX7_canJoinStatements 60 = .ok (.iload 4, 2) := by decide +kernel
theorem dX7_canJoinStatements_62 : decode cX7_canJoinStatements 62 = .ok (.ifCond .eq 14, 3) := by decide +kernel
theorem dX7_canJoinStatements_65 : decode cX7_canJoinStatements 65 = .ok (.iload 5, 2) := by decide +kernel
theorem dX7_canJoinStatements_67 : decode cX7_canJoinStatements 67 = .ok (.bipush 12, 2) := by decide +kernel
theorem dX7_canJoinStatements_69 : decode cX7_canJoinStatements 69 = .ok (.if_icmp .ge 7, 3) := by decide +kernel
theorem dX7_canJoinStatements_72 : decode cX7_canJoinStatements 72 = .ok (.iconst 1, 1) := by decide +kernel
theorem dX7_canJoinStatements_73 : decode cX7_canJoinStatements 73 = .ok (.goto 4, 3) := by decide +kernel
theorem dX7_canJoinStatements_76 : decode cX7_canJoinStatements 76 = .ok (.iconst 0, 1) := by decide +kernel
theorem dX7_canJoinStatements_77 : decode cX7_canJoinStatements 77 = .ok (.ireturn, 1) := by decide +kernel
theorem dX7_isFree_0 : decode cX7_isFree 0 = .ok (.aload_n 0, 1) := by decide +kernel
theorem dX7_isFree_1 : decode cX7_isFree 1 = .ok (.ifnull 10, 3) := by decide +kernel
theorem dX7_isFree_4 : decode cX7_isFree 4 = .ok (.aload_n 0, 1) := by decide +kernel
theorem dX7_isFree_5 : decode cX7_isFree 5 = .ok (.getfield 76, 3) := by decide +kernel
theorem dX7_isFree_8 : decode cX7_isFree 8 = .ok (.ifCond .ne 7, 3) := by decide +kernel
theorem dX7_isFree_11 : decode cX7_isFree 11 = .ok (.iconst 1, 1) := by decide +kernel
theorem dX7_isFree_12 : decode cX7_isFree 12 = .ok (.goto 4, 3) := by decide +kernel
theorem dX7_isFree_15 : decode cX7_isFree 15 = .ok (.iconst 0, 1) := by decide +kernel
theorem dX7_isFree_16 : decode cX7_isFree 16 = .ok (.ireturn, 1) := by decide +kernel
theorem dX7_isFreeStatement_0 : decode cX7_isFreeStatement 0 = .ok (.aload_n 0, 1) := by decide +kernel
theorem dX7_isFreeStatement_1 : decode cX7_isFreeStatement 1 = .ok (.ifnull 10, 3) := by decide +kernel
theorem dX7_isFreeStatement_4 : decode cX7_isFreeStatement 4 = .ok (.aload_n 0, 1) := by decide +kernel
theorem dX7_isFreeStatement_5 : decode cX7_isFreeStatement 5 = .ok (.getfield 80, 3) := by decide +kernel
theorem dX7_isFreeStatement_8 : decode cX7_isFreeStatement 8 = .ok (.ifCond .ne 7, 3) := by decide +kernel
theorem dX7_isFreeStatement_11 : decode cX7_isFreeStatement 11 = .ok (.iconst 1, 1) := by decide +kernel
theorem dX7_isFreeStatement_12 : decode cX7_isFreeStatement 12 = .ok (.goto 4, 3) := by decide +kernel
theorem dX7_isFreeStatement_15 : decode cX7_isFreeStatement 15 = .ok (.iconst 0, 1) := by decide +kernel
theorem dX7_isFreeStatement_16 : decode cX7_isFreeStatement 16 = .ok (.ireturn, 1) := by decide +kernel
theorem dX7_putBody_0 : decode cX7_putBody 0 = .ok (.aload_n 1, 1) := by decide +kernel
theorem dX7_putBody_1 : decode cX7_putBody 1 = .ok (.getfield 54, 3) := by decide +kernel
theorem dX7_putBody_4 : decode cX7_putBody 4 = .ok (.ifCond .lt 15, 3) := by decide +kernel
theorem dX7_putBody_7 : decode cX7_putBody 7 = .ok (.aload_n 1, 1) := by decide +kernel
theorem dX7_putBody_8 : decode cX7_putBody 8 = .ok (.getfield 54, 3) := by decide +kernel
theorem dX7_putBody_11 : decode cX7_putBody 11 = .ok (.aload_n 0, 1) := by decide +kernel
theorem dX7_putBody_12 : decode cX7_putBody 12 = .ok (.getfield 25, 3) := by decide +kernel
theorem dX7_putBody_15 : decode cX7_putBody 15 = .ok (.arraylength, 1) := by decide +kernel
theorem dX7_putBody_16 : decode cX7_putBody 16 = .ok (.if_icmp .lt 4, 3) := by decide +kernel
theorem dX7_putBody_19 : decode cX7_putBody 19 = .ok (.return_, 1) := by decide +kernel
theorem dX7_putBody_20 : decode cX7_putBody 20 = .ok (.aload_n 0, 1) := by decide +kernel
theorem dX7_putBody_21 : decode cX7_putBody 21 = .ok (.getfield 25, 3) := by decide +kernel
theorem dX7_putBody_24 : decode cX7_putBody 24 = .ok (.aload_n 1, 1) := by decide +kernel
theorem dX7_putBody_25 : decode cX7_putBody 25 = .ok (.getfield 54, 3) := by decide +kernel
theorem dX7_putBody_28 : decode cX7_putBody 28 = .ok (.aaload, 1) := by decide +kernel
theorem dX7_putBody_29 : decode cX7_putBody 29 = .ok (.astore_n 3, 1) := by decide +kernel
theorem dX7_putBody_30 : decode cX7_putBody 30 = .ok (.aload_n 3, 1) := by decide +kernel
theorem dX7_putBody_31 : decode cX7_putBody 31 = .ok (.ifnull 8, 3) := by decide +kernel
theorem dX7_putBody_34 : decode cX7_putBody 34 = .ok (.aload_n 3, 1) := by decide +kernel
theorem dX7_putBody_35 : decode cX7_putBody 35 = .ok (.iconst 0, 1) := by decide +kernel
theorem dX7_putBody_36 : decode cX7_putBody 36 = .ok (.putfield 80, 3) := by decide +kernel
theorem dX7_putBody_39 : decode cX7_putBody 39 = .ok (.aload_n 2, 1) := by decide +kernel
theorem dX7_putBody_40 : decode cX7_putBody 40 = .ok (.iconst 1, 1) := by decide +kernel
theorem dX7_putBody_41 : decode cX7_putBody 41 = .ok (.putfield 80, 3) := by decide +kernel
theorem dX7_putBody_44 : decode cX7_putBody 44 = .ok (.aload_n 0, 1) := by decide +kernel
theorem dX7_putBody_45 : decode cX7_putBody 45 = .ok (.getfield 25, 3) := by decide +kernel
theorem dX7_putBody_48 : decode cX7_putBody 48 = .ok (.aload_n 1, 1) := by decide +kernel
theorem dX7_putBody_49 : decode cX7_putBody 49 = .ok (.getfield 54, 3) := by decide +kernel
theorem dX7_putBody_52 : decode cX7_putBody 52 = .ok (.aload_n 2, 1) := by decide +kernel
theorem dX7_putBody_53 : decode cX7_putBody 53 = .ok (.aastore, 1) := by decide +kernel
theorem dX7_putBody_54 : decode cX7_putBody 54 = .ok (.return_, 1) := by decide +kernel
theorem dX7_bodyCount_0 : decode cX7_bodyCount 0 = .ok (.iconst 0, 1) := by decide +kernel
theorem dX7_bodyCount_1 : decode cX7_bodyCount 1 = .ok (.istore_n 1, 1) := by decide +kernel
theorem dX7_bodyCount_2 : decode cX7_bodyCount 2 = .ok (.iconst 0, 1) := by decide +kernel
theorem dX7_bodyCount_3 : decode cX7_bodyCount 3 = .ok (.istore_n 2, 1) := by decide +kernel
theorem dX7_bodyCount_4 : decode cX7_bodyCount 4 = .ok (.iload_n 2, 1) := by decide +kernel
theorem dX7_bodyCount_5 : decode cX7_bodyCount 5 = .ok (.aload_n 0, 1) := by decide +kernel
theorem dX7_bodyCount_6 : decode cX7_bodyCount 6 = .ok (.getfield 25, 3) := by decide +kernel
theorem dX7_bodyCount_9 : decode cX7_bodyCount 9 = .ok (.arraylength, 1) := by decide +kernel
theorem dX7_bodyCount_10 : decode cX7_bodyCount 10 = .ok (.if_icmp .ge 21, 3) := by decide +kernel
theorem dX7_bodyCount_13 : decode cX7_bodyCount 13 = .ok (.aload_n 0, 1) := by decide +kernel
theorem dX7_bodyCount_14 : decode cX7_bodyCount 14 = .ok (.getfield 25, 3) := by decide +kernel
theorem dX7_bodyCount_17 : decode cX7_bodyCount 17 = .ok (.iload_n 2, 1) := by decide +kernel
theorem dX7_bodyCount_18 : decode cX7_bodyCount 18 = .ok (.aaload, 1) := by decide +kernel
theorem dX7_bodyCount_19 : decode cX7_bodyCount 19 = .ok (.ifnull 6, 3) := by decide +kernel
theorem dX7_bodyCount_22 : decode cX7_bodyCount 22 = .ok (.iinc 1 1, 3) := by decide +kernel
theorem dX7_bodyCount_25 : decode cX7_bodyCount 25 = .ok (.iinc 2 1, 3) := by decide +kernel
theorem dX7_bodyCount_28 : decode cX7_bodyCount 28 = .ok (.goto (-24), 3) := by decide +kernel
theorem dX7_bodyCount_31 : decode cX7_bodyCount 31 = .ok (.iload_n 1, 1) := by decide +kernel
theorem dX7_bodyCount_32 : decode cX7_bodyCount 32 = .ok (.ireturn, 1) := by decide +kernel
theorem dX7_canStart_0 : decode cX7_canStart 0 = .ok (.aload_n 0, 1) := by decide +kernel
theorem dX7_canStart_1 : decode cX7_canStart 1 = .ok (.iconst 0, 1) := by decide +kernel
theorem dX7_canStart_2 : decode cX7_canStart 2 = .ok (.invokevirtual 102, 3) := by decide +kernel
theorem dX7_canStart_5 : decode cX7_canStart 5 = .ok (.astore_n 1, 1) := by decide +kernel
theorem dX7_canStart_6 : decode cX7_canStart 6 = .ok (.aload_n 1, 1) := by decide +kernel
theorem dX7_canStart_7 : decode cX7_canStart 7 = .ok (.ifnull 23, 3) := by decide +kernel
theorem dX7_canStart_10 : decode cX7_canStart 10 = .ok (.aload_n 1, 1) := by decide +kernel
theorem dX7_canStart_11 : decode cX7_canStart 11 = .ok (.getfield 106, 3) := by decide +kernel
theorem dX7_canStart_14 : decode cX7_canStart 14 = .ok (.ifnonnull 16, 3) := by decide +kernel
theorem dX7_canStart_17 : decode cX7_canStart 17 = .ok (.aload_n 0, 1) := by decide +kernel
theorem dX7_canStart_18 : decode cX7_canStart 18 = .ok (.getfield 25, 3) := by decide +kernel
theorem dX7_canStart_21 : decode cX7_canStart 21 = .ok (.iconst 0, 1) := by decide +kernel
theorem dX7_canStart_22 : decode cX7_canStart 22 = .ok (.aaload, 1) := by decide +kernel
theorem dX7_canStart_23 : decode cX7_canStart 23 = .ok (.ifnull 7, 3) := by decide +kernel
theorem dX7_canStart_26 : decode cX7_canStart 26 = .ok (.iconst 1, 1) := by decide +kernel
theorem dX7_canStart_27 : decode cX7_canStart 27 = .ok (.goto 4, 3) := by decide +kernel
theorem dX7_canStart_30 : decode cX7_canStart 30 = .ok (.iconst 0, 1) := by decide +kernel
theorem dX7_canStart_31 : decode cX7_canStart 31 = .ok (.ireturn, 1) := by decide +kernel
theorem dX8_init_0 : decode cX8_init 0 = .ok (.aload_n 0, 1) := by decide +kernel
theorem dX8_init_1 : decode cX8_init 1 = .ok (.invokespecial 1, 3) := by decide +kernel
theorem dX8_init_4 : decode cX8_init 4 = .ok (.aload_n 0, 1) := by decide +kernel
theorem dX8_init_5 : decode cX8_init 5 = .ok (.iload_n 1, 1) := by decide +kernel
theorem dX8_init_6 : decode cX8_init 6 = .ok (.putfield 7, 3) := by decide +kernel
theorem dX8_init_9 : decode cX8_init 9 = .ok (.aload_n 0, 1) := by decide +kernel
theorem dX8_init_10 : decode cX8_init 10 = .ok (.aload_n 2, 1) := by decide +kernel
theorem dX8_init_11 : decode cX8_init 11 = .ok (.putfield 13, 3) := by decide +kernel
theorem dX8_init_14 : decode cX8_init 14 = .ok (.aload_n 0, 1) := by decide +kernel
theorem dX8_init_15 : decode cX8_init 15 = .ok (.aload_n 3, 1) := by decide +kernel
theorem dX8_init_16 : decode cX8_init 16 = .ok (.putfield 17, 3) := by decide +kernel
theorem dX8_init_19 : decode cX8_init 19 = .ok (.return_, 1) := by decide +kernel
theorem dX8_setParts_0 : decode cX8_setParts 0 = .ok (.aload_n 0, 1) := by decide +kernel
theorem dX8_setParts_1 : decode cX8_setParts 1 = .ok (.aload_n 1, 1) := by decide +kernel
theorem dX8_setParts_2 : decode cX8_setParts 2 = .ok (.putfield 21, 3) := by decide +kernel
theorem dX8_setParts_5 : decode cX8_setParts 5 = .ok (.aload_n 0, 1) := by decide +kernel
theorem dX8_setParts_6 : decode cX8_setParts 6 = .ok (.aload_n 2, 1) := by decide +kernel
theorem dX8_setParts_7 : decode cX8_setParts 7 = .ok (.putfield 25, 3) := by decide +kernel
theorem dX8_setParts_10 : decode cX8_setParts 10 = .ok (.aload_n 0, 1) := by decide +kernel
theorem dX8_setParts_11 : decode cX8_setParts 11 = .ok (.iconst 1, 1) := by decide +kernel
theorem dX8_setParts_12 : decode cX8_setParts 12 = .ok (.aload_n 1, 1) := by decide +kernel
theorem dX8_setParts_13 : decode cX8_setParts 13 = .ok (.invokestatic 28, 3) := by decide +kernel
theorem dX8_setParts_16 : decode cX8_setParts 16 = .ok (.aload_n 2, 1) := by decide +kernel
theorem dX8_setParts_17 : decode cX8_setParts 17 = .ok (.invokestatic 28, 3) := by decide +kernel
theorem dX8_setParts_20 : decode cX8_setParts 20 = .ok (.invokestatic 32, 3) := by decide +kernel
theorem dX8_setParts_23 : decode cX8_setParts 23 = .ok (.iadd, 1) := by decide +kernel
theorem dX8_setParts_24 : decode cX8_setParts 24 = .ok (.putfield 38, 3) := by decide +kernel
theorem dX8_setParts_27 : decode cX8_setParts 27 = .ok (.aload_n 0, 1) := by decide +kernel
theorem dX8_setParts_28 : decode cX8_setParts 28 = .ok (.iconst 1, 1) := by decide +kernel
theorem dX8_setParts_29 : decode cX8_setParts 29 = .ok (.aload_n 0, 1) := by decide +kernel
theorem dX8_setParts_30 : decode cX8_setParts 30 = .ok (.getfield 13, 3) := by decide +kernel
theorem dX8_setParts_33 : decode cX8_setParts 33 = .ok (.invokestatic 42, 3) := by decide +kernel
theorem dX8_setParts_36 : decode cX8_setParts 36 = .ok (.iadd, 1) := by decide +kernel
theorem dX8_setParts_37 : decode cX8_setParts 37 = .ok (.aload_n 1, 1) := by decide +kernel
theorem dX8_setParts_38 : decode cX8_setParts 38 = .ok (.invokestatic 48, 3) := by decide +kernel
theorem dX8_setParts_41 : decode cX8_setParts 41 = .ok (.iadd, 1) := by decide +kernel
theorem dX8_setParts_42 : decode cX8_setParts 42 = .ok (.aload_n 2, 1) := by decide +kernel
theorem dX8_setParts_43 : decode cX8_setParts 43 = .ok (.invokestatic 48, 3) := by decide +kernel
theorem dX8_setParts_46 : decode cX8_setParts 46 = .ok (.iadd, 1) := by decide +kernel
theorem dX8_setParts_47 : decode cX8_setParts 47 = .ok (.putfield 50, 3) := by decide +kernel
theorem dX8_setParts_50 : decode cX8_setParts 50 = .ok (.return_, 1) := by decide +kernel
theorem dX8_depthOf_0 : decode cX8_depthOf 0 = .ok (.aload_n 0, 1) := by decide +kernel
theorem dX8_depthOf_1 : decode cX8_depthOf 1 = .ok (.ifnonnull 7, 3) := by decide +kernel
theorem dX8_depthOf_4 : decode cX8_depthOf 4 = .ok (.iconst 0, 1) := by decide +kernel
theorem dX8_depthOf_5 : decode cX8_depthOf 5 = .ok (.goto 7, 3) := by decide +kernel
theorem dX8_depthOf_8 : decode cX8_depthOf 8 = .ok (.aload_n 0, 1) := by decide +kernel
theorem dX8_depthOf_9 : decode cX8_depthOf 9 = .ok (.getfield 38, 3) := by decide +kernel
theorem dX8_depthOf_12 : decode cX8_depthOf 12 = .ok (.ireturn, 1) := by decide +kernel
theorem dX8_sizeOf_0 : decode cX8_sizeOf 0 = .ok (.aload_n 0, 1) := by decide +kernel
theorem dX8_sizeOf_1 : decode cX8_sizeOf 1 = .ok (.ifnonnull 7, 3) := by decide +kernel
theorem dX8_sizeOf_4 : decode cX8_sizeOf 4 = .ok (.iconst 0, 1) := by decide +kernel
theorem dX8_sizeOf_5 : decode cX8_sizeOf 5 = .ok (.goto 7, 3) := by decide +kernel
theorem dX8_sizeOf_8 : decode cX8_sizeOf 8 = .ok (.aload_n 0, 1) := by decide +kernel
theorem dX8_sizeOf_9 : decode cX8_sizeOf 9 = .ok (.getfield 50, 3) := by decide +kernel
theorem dX8_sizeOf_12 : decode cX8_sizeOf 12 = .ok (.ireturn, 1) := by decide +kernel
theorem dX9_ofUnary_0 : decode cX9_ofUnary 0 = .ok (.aload_n 1, 1) := by decide +kernel
theorem dX9_ofUnary_1 : decode cX9_ofUnary 1 = .ok (.getfield 9, 3) := by decide +kernel
theorem dX9_ofUnary_4 : decode cX9_ofUnary 4 = .ok (.invokestatic 15, 3) := by decide +kernel
theorem dX9_ofUnary_7 : decode cX9_ofUnary 7 = .ok (.istore_n 2, 1) := by decide +kernel
theorem dX9_ofUnary_8 : decode cX9_ofUnary 8 = .ok (.iload_n 0, 1) := by decide +kernel
theorem dX9_ofUnary_9 : decode cX9_ofUnary 9 = .ok (.lookupswitch 108 #[(33, 67), (38, 85), (42, 69), (45, 51), (126, 51)], 51) := by decide +kernel
theorem dX9_ofUnary_60 : decode cX9_ofUnary 60 = .ok (.iload_n 2, 1) := by decide +kernel
theorem dX9_ofUnary_61 : decode cX9_ofUnary 61 = .ok (.ifCond .eq 13, 3) := by decide +kernel
theorem dX9_ofUnary_64 : decode cX9_ofUnary 64 = .ok (.aload_n 1, 1) := by decide +kernel
theorem dX9_ofUnary_65 : decode cX9_ofUnary 65 = .ok (.getfield 9, 3) := by decide +kernel
theorem dX9_ofUnary_68 : decode cX9_ofUnary 68 = .ok (.invokestatic 21, 3) := by decide +kernel
theorem dX9_ofUnary_71 : decode cX9_ofUnary 71 = .ok (.goto 4, 3) := by decide +kernel
theorem dX9_ofUnary_74 : decode cX9_ofUnary 74 = .ok (.iconst (-1), 1) := by decide +kernel
theorem dX9_ofUnary_75 : decode cX9_ofUnary 75 = .ok (.ireturn, 1) := by decide +kernel
theorem dX9_ofUnary_76 : decode cX9_ofUnary 76 = .ok (.iconst 2, 1) := by decide +kernel
theorem dX9_ofUnary_77 : decode cX9_ofUnary 77 = .ok (.ireturn, 1) := by decide +kernel
theorem dX9_ofUnary_78 : decode cX9_ofUnary 78 = .ok (.iload_n 2, 1) := by decide +kernel
theorem dX9_ofUnary_79 : decode cX9_ofUnary 79 = .ok (.ifCond .eq 7, 3) := by decide +kernel
theorem dX9_ofUnary_82 : decode cX9_ofUnary 82 = .ok (.iconst (-1), 1) := by decide +kernel
theorem dX9_ofUnary_83 : decode cX9_ofUnary 83 = .ok (.goto 10, 3) := by decide +kernel
theorem dX9_ofUnary_86 : decode cX9_ofUnary 86 = .ok (.aload_n 1, 1) := by decide +kernel
theorem dX9_ofUnary_87 : decode cX9_ofUnary 87 = .ok (.getfield 9, 3) := by decide +kernel
theorem dX9_ofUnary_90 : decode cX9_ofUnary 90 = .ok (.bipush 10, 2) := by decide +kernel
theorem dX9_ofUnary_92 : decode cX9_ofUnary 92 = .ok (.isub, 1) := by decide +kernel
theorem dX9_ofUnary_93 : decode cX9_ofUnary 93 = .ok (.ireturn, 1) := by decide +kernel
theorem dX9_ofUnary_94 : decode cX9_ofUnary 94 = .ok (.iload_n 2, 1) := by decide +kernel
theorem dX9_ofUnary_95 : decode cX9_ofUnary 95 = .ok (.ifCond .eq 20, 3) := by decide +kernel
theorem dX9_ofUnary_98 : decode cX9_ofUnary 98 = .ok (.aload_n 1, 1) := by decide +kernel
theorem dX9_ofUnary_99 : decode cX9_ofUnary 99 = .ok (.invokevirtual 25, 3) := by decide +kernel
theorem dX9_ofUnary_102 : decode cX9_ofUnary 102 = .ok (.ifCond .eq 13, 3) := by decide +kernel
theorem dX9_ofUnary_105 : decode cX9_ofUnary 105 = .ok (.bipush 10, 2) := by decide +kernel
theorem dX9_ofUnary_107 : decode cX9_ofUnary 107 = .ok (.aload_n 1, 1) := by decide +kernel
theorem dX9_ofUnary_108 : decode cX9_ofUnary 108 = .ok (.getfield 9, 3) := by decide +kernel
theorem dX9_ofUnary_111 : decode cX9_ofUnary 111 = .ok (.iadd, 1) := by decide +kernel
theorem dX9_ofUnary_112 : decode cX9_ofUnary 112 = .ok (.goto 4, 3) := by decide +kernel
theorem dX9_ofUnary_115 : decode cX9_ofUnary 115 = .ok (.iconst (-1), 1) := by decide +kernel
theorem dX9_ofUnary_116 : decode cX9_ofUnary 116 = .ok (.ireturn, 1) := by decide +kernel
theorem dX9_ofUnary_117 : decode cX9_ofUnary 117 = .ok (.aload_n 1, 1) := by decide +kernel
theorem dX9_ofUnary_118 : decode cX9_ofUnary 118 = .ok (.invokevirtual 25, 3) := by decide +kernel
theorem dX9_ofUnary_121 : decode cX9_ofUnary 121 = .ok (.ifCond .eq 10, 3) := by decide +kernel
theorem dX9_ofUnary_124 : decode cX9_ofUnary 124 = .ok (.aload_n 1, 1) := by decide +kernel
theorem dX9_ofUnary_125 : decode cX9_ofUnary 125 = .ok (.getfield 9, 3) := by decide +kernel
theorem dX9_ofUnary_128 : decode cX9_ofUnary 128 = .ok (.goto 4, 3) := by decide +kernel
theorem dX9_ofUnary_131 : decode cX9_ofUnary 131 = .ok (.iconst (-1), 1) := by decide +kernel
theorem dX9_ofUnary_132 : decode cX9_ofUnary 132 = .ok (.ireturn, 1) := by decide +kernel
theorem dX9_ofBinary_0 : decode cX9_ofBinary 0 = .ok (.iload_n 1, 1) := by decide +kernel
theorem dX9_ofBinary_1 : decode cX9_ofBinary 1 = .ok (.invokestatic 15, 3) := by decide +kernel
theorem dX9_ofBinary_4 : decode cX9_ofBinary 4 = .ok (.ifCond .eq 14, 3) := by decide +kernel
theorem dX9_ofBinary_7 : decode cX9_ofBinary 7 = .ok (.iload_n 2, 1) := by decide +kernel
theorem dX9_ofBinary_8 : decode cX9_ofBinary 8 = .ok (.invokestatic 15, 3) := by decide +kernel
theorem dX9_ofBinary_11 : decode cX9_ofBinary 11 = .ok (.ifCond .eq 7, 3) := by decide +kernel
theorem dX9_ofBinary_14 : decode cX9_ofBinary 14 = .ok (.iconst 1, 1) := by decide +kernel
theorem dX9_ofBinary_15 : decode cX9_ofBinary 15 = .ok (.goto 4, 3) := by decide +kernel
theorem dX9_ofBinary_18 : decode cX9_ofBinary 18 = .ok (.iconst 0, 1) := by decide +kernel
theorem dX9_ofBinary_19 : decode cX9_ofBinary 19 = .ok (.istore_n 3, 1) := by decide +kernel
theorem dX9_ofBinary_20 : decode cX9_ofBinary 20 = .ok (.iload_n 0, 1) := by decide +kernel
theorem dX9_ofBinary_21 : decode cX9_ofBinary 21 = .ok (.lookupswitch 99 #[(44, 67), (60, 71), (61, 71), (97, 69), (108, 86), (111, 69), (114, 86)], 67) := by decide +kernel
theorem dX9_ofBinary_88 : decode cX9_ofBinary 88 = .ok (.iload_n 2, 1) := by decide +kernel
theorem dX9_ofBinary_89 : decode cX9_ofBinary 89 = .ok (.ireturn, 1) := by decide +kernel
theorem dX9_ofBinary_90 : decode cX9_ofBinary 90 = .ok (.iconst 2, 1) := by decide +kernel
theorem dX9_ofBinary_91 : decode cX9_ofBinary 91 = .ok (.ireturn, 1) := by decide +kernel
theorem dX9_ofBinary_92 : decode cX9_ofBinary 92 = .ok (.iload_n 3, 1) := by decide +kernel
theorem dX9_ofBinary_93 : decode cX9_ofBinary 93 = .ok (.ifCond .ne 8, 3) := by decide +kernel
theorem dX9_ofBinary_96 : decode cX9_ofBinary 96 = .ok (.iload_n 1, 1) := by decide +kernel
theorem dX9_ofBinary_97 : decode cX9_ofBinary 97 = .ok (.iload_n 2, 1) := by decide +kernel
theorem dX9_ofBinary_98 : decode cX9_ofBinary 98 = .ok (.if_icmp .ne 7, 3) := by decide +kernel
theorem dX9_ofBinary_101 : decode cX9_ofBinary 101 = .ok (.iconst 2, 1) := by decide +kernel
theorem dX9_ofBinary_102 : decode cX9_ofBinary 102 = .ok (.goto 4, 3) := by decide +kernel
theorem dX9_ofBinary_105 : decode cX9_ofBinary 105 = .ok (.iconst (-1), 1) := by decide +kernel
theorem dX9_ofBinary_106 : decode cX9_ofBinary 106 = .ok (.ireturn, 1) := by decide +kernel
theorem dX9_ofBinary_107 : decode cX9_ofBinary 107 = .ok (.iload_n 3, 1) := by decide +kernel
theorem dX9_ofBinary_108 : decode cX9_ofBinary 108 = .ok (.ifCond .eq 10, 3) := by decide +kernel
theorem dX9_ofBinary_111 : decode cX9_ofBinary 111 = .ok (.iload_n 1, 1) := by decide +kernel
theorem dX9_ofBinary_112 : decode cX9_ofBinary 112 = .ok (.invokestatic 21, 3) := by decide +kernel
theorem dX9_ofBinary_115 : decode cX9_ofBinary 115 = .ok (.goto 4, 3) := by decide +kernel
theorem dX9_ofBinary_118 : decode cX9_ofBinary 118 = .ok (.iconst (-1), 1) := by decide +kernel
theorem dX9_ofBinary_119 : decode cX9_ofBinary 119 = .ok (.ireturn, 1) := by decide +kernel
theorem dX9_ofBinary_120 : decode cX9_ofBinary 120 = .ok (.iload_n 3, 1) := by decide +kernel
theorem dX9_ofBinary_121 : decode cX9_ofBinary 121 = .ok (.ifCond .eq 9, 3) := by decide +kernel
theorem dX9_ofBinary_124 : decode cX9_ofBinary 124 = .ok (.iload_n 1, 1) := by decide +kernel
theorem dX9_ofBinary_125 : decode cX9_ofBinary 125 = .ok (.iload_n 2, 1) := by decide +kernel
theorem dX9_ofBinary_126 : decode cX9_ofBinary 126 = .ok (.invokestatic 29, 3) := by decide +kernel
theorem dX9_ofBinary_129 : decode cX9_ofBinary 129 = .ok (.ireturn, 1) := by decide +kernel
theorem dX9_ofBinary_130 : decode cX9_ofBinary 130 = .ok (.iload_n 0, 1) := by decide +kernel
theorem dX9_ofBinary_131 : decode cX9_ofBinary 131 = .ok (.bipush 43, 2) := by decide +kernel
theorem dX9_ofBinary_133 : decode cX9_ofBinary 133 = .ok (.if_icmp .eq 9, 3) := by decide +kernel
theorem dX9_ofBinary_136 : decode cX9_ofBinary 136 = .ok (.iload_n 0, 1) := by decide +kernel
theorem dX9_ofBinary_137 : decode cX9_ofBinary 137 = .ok (.bipush 45, 2) := by decide +kernel
theorem dX9_ofBinary_139 : decode cX9_ofBinary 139 = .ok (.if_icmp .ne 14, 3) := by decide +kernel
theorem dX9_ofBinary_142 : decode cX9_ofBinary 142 = .ok (.iload_n 2, 1) := by decide +kernel
theorem dX9_ofBinary_143 : decode cX9_ofBinary 143 = .ok (.invokestatic 15, 3) := by decide +kernel
theorem dX9_ofBinary_146 : decode cX9_ofBinary 146 = .ok (.ifCond .eq 7, 3) := by decide +kernel
theorem dX9_ofBinary_149 : decode cX9_ofBinary 149 = .ok (.iconst 1, 1) := by decide +kernel
theorem dX9_ofBinary_150 : decode cX9_ofBinary 150 = .ok (.goto 4, 3) := by decide +kernel
theorem dX9_ofBinary_153 : decode cX9_ofBinary 153 = .ok (.iconst 0, 1) := by decide +kernel
theorem dX9_ofBinary_154 : decode cX9_ofBinary 154 = .ok (.istore 4, 2) := by decide +kernel
theorem dX9_ofBinary_156 : decode cX9_ofBinary 156 = .ok (.iload 4, 2) := by decide +kernel
theorem dX9_ofBinary_158 : decode cX9_ofBinary 158 = .ok (.ifCond .eq 7, 3) := by decide +kernel
theorem dX9_ofBinary_161 : decode cX9_ofBinary 161 = .ok (.iload_n 1, 1) := by decide +kernel
theorem dX9_ofBinary_162 : decode cX9_ofBinary 162 = .ok (.goto 4, 3) := by decide +kernel
theorem dX9_ofBinary_165 : decode cX9_ofBinary 165 = .ok (.iconst (-1), 1) := by decide +kernel
theorem dX9_ofBinary_166 : decode cX9_ofBinary 166 = .ok (.ireturn, 1) := by decide +kernel
theorem dX9_ofChoice_0 : decode cX9_ofChoice 0 = .ok (.iload_n 0, 1) := by decide +kernel
theorem dX9_ofChoice_1 : decode cX9_ofChoice 1 = .ok (.invokestatic 15, 3) := by decide +kernel
theorem dX9_ofChoice_4 : decode cX9_ofChoice 4 = .ok (.ifCond .eq 16, 3) := by decide +kernel
theorem dX9_ofChoice_7 : decode cX9_ofChoice 7 = .ok (.iload_n 1, 1) := by decide +kernel
theorem dX9_ofChoice_8 : decode cX9_ofChoice 8 = .ok (.invokestatic 15, 3) := by decide +kernel
theorem dX9_ofChoice_11 : decode cX9_ofChoice 11 = .ok (.ifCond .eq 9, 3) := by decide +kernel
theorem dX9_ofChoice_14 : decode cX9_ofChoice 14 = .ok (.iload_n 0, 1) := by decide +kernel
theorem dX9_ofChoice_15 : decode cX9_ofChoice 15 = .ok (.iload_n 1, 1) := by decide +kernel
theorem dX9_ofChoice_16 : decode cX9_ofChoice 16 = .ok (.invokestatic 29, 3) := by decide +kernel
theorem dX9_ofChoice_19 : decode cX9_ofChoice 19 = .ok (.ireturn, 1) := by decide +kernel
theorem dX9_ofChoice_20 : decode cX9_ofChoice 20 = .ok (.iload_n 0, 1) := by decide +kernel
theorem dX9_ofChoice_21 : decode cX9_ofChoice 21 = .ok (.iload_n 1, 1) := by decide +kernel
theorem dX9_ofChoice_22 : decode cX9_ofChoice 22 = .ok (.if_icmp .ne 7, 3) := by decide +kernel
theorem dX9_ofChoice_25 : decode cX9_ofChoice 25 = .ok (.iload_n 0, 1) := by decide +kernel
theorem dX9_ofChoice_26 : decode cX9_ofChoice 26 = .ok (.goto 4, 3) := by decide +kernel
theorem dX9_ofChoice_29 : decode cX9_ofChoice 29 = .ok (.iconst (-1), 1) := by decide +kernel
theorem dX9_ofChoice_30 : decode cX9_ofChoice 30 = .ok (.ireturn, 1) := by decide +kernel
theorem dX9_canAssign_0 : decode cX9_canAssign 0 = .ok (.aload_n 1, 1) := by decide +kernel
theorem dX9_canAssign_1 : decode cX9_canAssign 1 = .ok (.invokevirtual 25, 3) := by decide +kernel
theorem dX9_canAssign_4 : decode cX9_canAssign 4 = .ok (.ifCond .ne 5, 3) := by decide +kernel
theorem dX9_canAssign_7 : decode cX9_canAssign 7 = .ok (.iconst 0, 1) := by decide +kernel
theorem dX9_canAssign_8 : decode cX9_canAssign 8 = .ok (.ireturn, 1) := by decide +kernel
theorem dX9_canAssign_9 : decode cX9_canAssign 9 = .ok (.iload_n 0, 1) := by decide +kernel
theorem dX9_canAssign_10 : decode cX9_canAssign 10 = .ok (.bipush 115, 2) := by decide +kernel
theorem dX9_canAssign_12 : decode cX9_canAssign 12 = .ok (.if_icmp .ne 17, 3) := by decide +kernel
theorem dX9_canAssign_15 : decode cX9_canAssign 15 = .ok (.aload_n 1, 1) := by decide +kernel
theorem dX9_canAssign_16 : decode cX9_canAssign 16 = .ok (.getfield 9, 3) := by decide +kernel
theorem dX9_canAssign_19 : decode cX9_canAssign 19 = .ok (.invokestatic 15, 3) := by decide +kernel
theorem dX9_canAssign_22 : decode cX9_canAssign 22 = .ok (.ifCond .ne 7, 3) := by decide +kernel
theorem dX9_canAssign_25 : decode cX9_canAssign 25 = .ok (.iconst 1, 1) := by decide +kernel
theorem dX9_canAssign_26 : decode cX9_canAssign 26 = .ok (.goto 4, 3) := by decide +kernel
theorem dX9_canAssign_29 : decode cX9_canAssign 29 = .ok (.iconst 0, 1) := by decide +kernel
theorem dX9_canAssign_30 : decode cX9_canAssign 30 = .ok (.istore_n 3, 1) := by decide +kernel
theorem dX9_canAssign_31 : decode cX9_canAssign 31 = .ok (.iload_n 3, 1) := by decide +kernel
theorem dX9_canAssign_32 : decode cX9_canAssign 32 = .ok (.ifCond .eq 19, 3) := by decide +kernel
theorem dX9_canAssign_35 : decode cX9_canAssign 35 = .ok (.iload_n 2, 1) := by decide +kernel
theorem dX9_canAssign_36 : decode cX9_canAssign 36 = .ok (.aload_n 1, 1) := by decide +kernel
theorem dX9_canAssign_37 : decode cX9_canAssign 37 = .ok (.getfield 9, 3) := by decide +kernel
theorem dX9_canAssign_40 : decode cX9_canAssign 40 = .ok (.if_icmp .ne 7, 3) := by decide +kernel
theorem dX9_canAssign_43 : decode cX9_canAssign 43 = .ok (.iconst 1, 1) := by decide +kernel
theorem dX9_canAssign_44 : decode cX9_canAssign 44 = .ok (.goto 11, 3) := by decide +kernel
theorem dX9_canAssign_47 : decode cX9_canAssign 47 = .ok (.iconst 0, 1) := by decide +kernel
theorem dX9_canAssign_48 : decode cX9_canAssign 48 = .ok (.goto 7, 3) := by decide +kernel
theorem dX9_canAssign_51 : decode cX9_canAssign 51 = .ok (.iload_n 2, 1) := by decide +kernel
theorem dX9_canAssign_52 : decode cX9_canAssign 52 = .ok (.invokestatic 15, 3) := by decide +kernel
theorem dX9_canAssign_55 : decode cX9_canAssign 55 = .ok (.ireturn, 1) := by decide +kernel
theorem dX10_init_0 : decode cX10_init 0 = .ok (.aload_n 0, 1) := by decide +kernel
theorem dX10_init_1 : decode cX10_init 1 = .ok (.invokespecial 1, 3) := by decide +kernel
theorem dX10_init_4 : decode cX10_init 4 = .ok (.aload_n 0, 1) := by decide +kernel
theorem dX10_init_5 : decode cX10_init 5 = .ok (.iload_n 1, 1) := by decide +kernel
theorem dX10_init_6 : decode cX10_init 6 = .ok (.putfield 7, 3) := by decide +kernel
theorem dX10_init_9 : decode cX10_init 9 = .ok (.aload_n 0, 1) := by decide +kernel
theorem dX10_init_10 : decode cX10_init 10 = .ok (.iload_n 2, 1) := by decide +kernel
theorem dX10_init_11 : decode cX10_init 11 = .ok (.putfield 13, 3) := by decide +kernel
theorem dX10_init_14 : decode cX10_init 14 = .ok (.aload_n 0, 1) := by decide +kernel
theorem dX10_init_15 : decode cX10_init 15 = .ok (.iload_n 3, 1) := by decide +kernel
theorem dX10_init_16 : decode cX10_init 16 = .ok (.putfield 16, 3) := by decide +kernel
theorem dX10_init_19 : decode cX10_init 19 = .ok (.return_, 1) := by decide +kernel
theorem dX10_isArray_0 : decode cX10_isArray 0 = .ok (.aload_n 0, 1) := by decide +kernel
theorem dX10_isArray_1 : decode cX10_isArray 1 = .ok (.getfield 13, 3) := by decide +kernel
theorem dX10_isArray_4 : decode cX10_isArray 4 = .ok (.ifCond .le 7, 3) := by decide +kernel
theorem dX10_isArray_7 : decode cX10_isArray 7 = .ok (.iconst 1, 1) := by decide +kernel
theorem dX10_isArray_8 : decode cX10_isArray 8 = .ok (.goto 4, 3) := by decide +kernel
theorem dX10_isArray_11 : decode cX10_isArray 11 = .ok (.iconst 0, 1) := by decide +kernel
theorem dX10_isArray_12 : decode cX10_isArray 12 = .ok (.ireturn, 1) := by decide +kernel
theorem dX10_parts_0 : decode cX10_parts 0 = .ok (.aload_n 0, 1) := by decide +kernel
theorem dX10_parts_1 : decode cX10_parts 1 = .ok (.getfield 13, 3) := by decide +kernel
theorem dX10_parts_4 : decode cX10_parts 4 = .ok (.ifCond .le 10, 3) := by decide +kernel
theorem dX10_parts_7 : decode cX10_parts 7 = .ok (.aload_n 0, 1) := by decide +kernel
theorem dX10_parts_8 : decode cX10_parts 8 = .ok (.getfield 13, 3) := by decide +kernel
theorem dX10_parts_11 : decode cX10_parts 11 = .ok (.goto 4, 3) := by decide +kernel
theorem dX10_parts_14 : decode cX10_parts 14 = .ok (.iconst 1, 1) := by decide +kernel
theorem dX10_parts_15 : decode cX10_parts 15 = .ok (.ireturn, 1) := by decide +kernel
theorem dX11_init_0 : decode cX11_init 0 = .ok (.aload_n 0, 1) := by decide +kernel
theorem dX11_init_1 : decode cX11_init 1 = .ok (.invokespecial 1, 3) := by decide +kernel
theorem dX11_init_4 : decode cX11_init 4 = .ok (.aload_n 0, 1) := by decide +kernel
theorem dX11_init_5 : decode cX11_init 5 = .ok (.new 7, 3) := by decide +kernel
theorem dX11_init_8 : decode cX11_init 8 = .ok (.dup, 1) := by decide +kernel
theorem dX11_init_9 : decode cX11_init 9 = .ok (.invokespecial 9, 3) := by decide +kernel
theorem dX11_init_12 : decode cX11_init 12 = .ok (.putfield 10, 3) := by decide +kernel
theorem dX11_init_15 : decode cX11_init 15 = .ok (.aload_n 0, 1) := by decide +kernel
theorem dX11_init_16 : decode cX11_init 16 = .ok (.new 16, 3) := by decide +kernel
theorem dX11_init_19 : decode cX11_init 19 = .ok (.dup, 1) := by decide +kernel
theorem dX11_init_20 : decode cX11_init 20 = .ok (.invokespecial 18, 3) := by decide +kernel
theorem dX11_init_23 : decode cX11_init 23 = .ok (.putfield 19, 3) := by decide +kernel
theorem dX11_init_26 : decode cX11_init 26 = .ok (.aload_n 0, 1) := by decide +kernel
theorem dX11_init_27 : decode cX11_init 27 = .ok (.new 23, 3) := by decide +kernel
theorem dX11_init_30 : decode cX11_init 30 = .ok (.dup, 1) := by decide +kernel
theorem dX11_init_31 : decode cX11_init 31 = .ok (.invokespecial 25, 3) := by decide +kernel
theorem dX11_init_34 : decode cX11_init 34 = .ok (.putfield 26, 3) := by decide +kernel
theorem dX11_init_37 : decode cX11_init 37 = .ok (.aload_n 0, 1) := by decide +kernel
theorem dX11_init_38 : decode cX11_init 38 = .ok (.new 30, 3) := by decide +kernel
theorem dX11_init_41 : decode cX11_init 41 = .ok (.dup, 1) := by decide +kernel
theorem dX11_init_42 : decode cX11_init 42 = .ok (.invokespecial 32, 3) := by decide +kernel
theorem dX11_init_45 : decode cX11_init 45 = .ok (.putfield 33, 3) := by decide +kernel
theorem dX11_init_48 : decode cX11_init 48 = .ok (.aload_n 0, 1) := by decide +kernel
theorem dX11_init_49 : decode cX11_init 49 = .ok (.new 30, 3) := by decide +kernel
theorem dX11_init_52 : decode cX11_init 52 = .ok (.dup, 1) := by decide +kernel
theorem dX11_init_53 : decode cX11_init 53 = .ok (.invokespecial 32, 3) := by decide +kernel
theorem dX11_init_56 : decode cX11_init 56 = .ok (.putfield 37, 3) := by decide +kernel
theorem dX11_init_59 : decode cX11_init 59 = .ok (.aload_n 0, 1) := by decide +kernel
theorem dX11_init_60 : decode cX11_init 60 = .ok (.bipush 16, 2) := by decide +kernel
theorem dX11_init_62 : decode cX11_init 62 = .ok (.anewarray 30, 3) := by decide +kernel
theorem dX11_init_65 : decode cX11_init 65 = .ok (.putfield 40, 3) := by decide +kernel
theorem dX11_init_68 : decode cX11_init 68 = .ok (.iconst 0, 1) := by decide +kernel
theorem dX11_init_69 : decode cX11_init 69 = .ok (.istore_n 1, 1) := by decide +kernel
theorem dX11_init_70 : decode cX11_init 70 = .ok (.iload_n 1, 1) := by decide +kernel
theorem dX11_init_71 : decode cX11_init 71 = .ok (.bipush 16, 2) := by decide +kernel
theorem dX11_init_73 : decode cX11_init 73 = .ok (.if_icmp .ge 22, 3) := by decide +kernel
theorem dX11_init_76 : decode cX11_init 76 = .ok (.aload_n 0, 1) := by decide +kernel
theorem dX11_init_77 : decode cX11_init 77 = .ok (.getfield 40, 3) := by decide +kernel
theorem dX11_init_80 : decode cX11_init 80 = .ok (.iload_n 1, 1) := by decide +kernel
theorem dX11_init_81 : decode cX11_init 81 = .ok (.new 30, 3) := by decide +kernel
theorem dX11_init_84 : decode cX11_init 84 = .ok (.dup, 1) := by decide +kernel
theorem dX11_init_85 : decode cX11_init 85 = .ok (.invokespecial 32, 3) := by decide +kernel
theorem dX11_init_88 : decode cX11_init 88 = .ok (.aastore, 1) := by decide +kernel
theorem dX11_init_89 : decode cX11_init 89 = .ok (.iinc 1 1, 3) := by decide +kernel
theorem dX11_init_92 : decode cX11_init 92 = .ok (.goto (-22), 3) := by decide +kernel
theorem dX11_init_95 : decode cX11_init 95 = .ok (.return_, 1) := by decide +kernel
theorem dX11_addVariable_0 : decode cX11_addVariable 0 = .ok (.iload_n 1, 1) := by decide +kernel
theorem dX11_addVariable_1 : decode cX11_addVariable 1 = .ok (.invokestatic 44, 3) := by decide +kernel
theorem dX11_addVariable_4 : decode cX11_addVariable 4 = .ok (.ifCond .eq 13, 3) := by decide +kernel
theorem dX11_addVariable_7 : decode cX11_addVariable 7 = .ok (.iload_n 2, 1) := by decide +kernel
theorem dX11_addVariable_8 : decode cX11_addVariable 8 = .ok (.ifCond .lt 9, 3) := by decide +kernel
theorem dX11_addVariable_11 : decode cX11_addVariable 11 = .ok (.iload_n 2, 1) := by decide +kernel
theorem dX11_addVariable_12 : decode cX11_addVariable 12 = .ok (.bipush 8, 2) := by decide +kernel
theorem dX11_addVariable_14 : decode cX11_addVariable 14 = .ok (.if_icmp .le 13, 3) := by decide +kernel
theorem dX11_addVariable_17 : decode cX11_addVariable 17 = .ok (.new 50, 3) := by decide +kernel
theorem dX11_addVariable_20 : decode cX11_addVariable 20 = .ok (.dup, 1) := by decide +kernel
theorem dX11_addVariable_21 : decode cX11_addVariable 21 = .ok (.ldc 52, 2) := by decide +kernel
theorem dX11_addVariable_23 : decode cX11_addVariable 23 = .ok (.invokespecial 54, 3) := by decide +kernel
theorem dX11_addVariable_26 : decode cX11_addVariable 26 = .ok (.athrow, 1) := by decide +kernel
theorem dX11_addVariable_27 : decode cX11_addVariable 27 = .ok (.iload_n 2, 1) := by decide +kernel
theorem dX11_addVariable_28 : decode cX11_addVariable 28 = .ok (.ifCond .le 20, 3) := by decide +kernel
theorem dX11_addVariable_31 : decode cX11_addVariable 31 = .ok (.iload_n 1, 1) := by decide +kernel
theorem dX11_addVariable_32 : decode cX11_addVariable 32 = .ok (.invokestatic 57, 3) := by decide +kernel
theorem dX11_addVariable_35 : decode cX11_addVariable 35 = .ok (.ifCond .ne 13, 3) := by decide +kernel
theorem dX11_addVariable_38 : decode cX11_addVariable 38 = .ok (.new 50, 3) := by decide +kernel
theorem dX11_addVariable_41 : decode cX11_addVariable 41 = .ok (.dup, 1) := by decide +kernel
theorem dX11_addVariable_42 : decode cX11_addVariable 42 = .ok (.ldc 60, 2) := by decide +kernel
theorem dX11_addVariable_44 : decode cX11_addVariable 44 = .ok (.invokespecial 54, 3) := by decide +kernel
theorem dX11_addVariable_47 : decode cX11_addVariable 47 = .ok (.athrow, 1) := by decide +kernel
theorem dX11_addVariable_48 : decode cX11_addVariable 48 = .ok (.aload_n 0, 1) := by decide +kernel
theorem dX11_addVariable_49 : decode cX11_addVariable 49 = .ok (.getfield 10, 3) := by decide +kernel
theorem dX11_addVariable_52 : decode cX11_addVariable 52 = .ok (.getfield 62, 3) := by decide +kernel
theorem dX11_addVariable_55 : decode cX11_addVariable 55 = .ok (.bipush 10, 2) := by decide +kernel
theorem dX11_addVariable_57 : decode cX11_addVariable 57 = .ok (.if_icmp .lt 13, 3) := by decide +kernel
theorem dX11_addVariable_60 : decode cX11_addVariable 60 = .ok (.new 66, 3) := by decide +kernel
theorem dX11_addVariable_63 : decode cX11_addVariable 63 = .ok (.dup, 1) := by decide +kernel
theorem dX11_addVariable_64 : decode cX11_addVariable 64 = .ok (.ldc 68, 2) := by decide +kernel
theorem dX11_addVariable_66 : decode cX11_addVariable 66 = .ok (.invokespecial 70, 3) := by decide +kernel
theorem dX11_addVariable_69 : decode cX11_addVariable 69 = .ok (.athrow, 1) := by decide +kernel
theorem dX11_addVariable_70 : decode cX11_addVariable 70 = .ok (.aload_n 0, 1) := by decide +kernel
theorem dX11_addVariable_71 : decode cX11_addVariable 71 = .ok (.getfield 10, 3) := by decide +kernel
theorem dX11_addVariable_74 : decode cX11_addVariable 74 = .ok (.new 71, 3) := by decide +kernel
theorem dX11_addVariable_77 : decode cX11_addVariable 77 = .ok (.dup, 1) := by decide +kernel
theorem dX11_addVariable_78 : decode cX11_addVariable 78 = .ok (.iload_n 1, 1) := by decide +kernel
theorem dX11_addVariable_79 : decode cX11_addVariable 79 = .ok (.iload_n 2, 1) := by decide +kernel
theorem dX11_addVariable_80 : decode cX11_addVariable 80 = .ok (.iload_n 3, 1) := by decide +kernel
theorem dX11_addVariable_81 : decode cX11_addVariable 81 = .ok (.invokespecial 73, 3) := by decide +kernel
theorem dX11_addVariable_84 : decode cX11_addVariable 84 = .ok (.invokevirtual 76, 3) := by decide +kernel
theorem dX11_addVariable_87 : decode cX11_addVariable 87 = .ok (.ireturn, 1) := by decide +kernel
theorem dX11_addFunction_0 : decode cX11_addFunction 0 = .ok (.iload_n 1, 1) := by decide +kernel
theorem dX11_addFunction_1 : decode cX11_addFunction 1 = .ok (.invokestatic 57, 3) := by decide +kernel
theorem dX11_addFunction_4 : decode cX11_addFunction 4 = .ok (.ifCond .eq 13, 3) := by decide +kernel
theorem dX11_addFunction_7 : decode cX11_addFunction 7 = .ok (.iload_n 2, 1) := by decide +kernel
theorem dX11_addFunction_8 : decode cX11_addFunction 8 = .ok (.iconst (-1), 1) := by decide +kernel
theorem dX11_addFunction_9 : decode cX11_addFunction 9 = .ok (.if_icmp .ne 18, 3) := by decide +kernel
theorem dX11_addFunction_12 : decode cX11_addFunction 12 = .ok (.iload_n 3, 1) := by decide +kernel
theorem dX11_addFunction_13 : decode cX11_addFunction 13 = .ok (.iconst (-1), 1) := by decide +kernel
theorem dX11_addFunction_14 : decode cX11_addFunction 14 = .ok (.if_icmp .eq 13, 3) := by decide +kernel
theorem dX11_addFunction_17 : decode cX11_addFunction 17 = .ok (.new 50, 3) := by decide +kernel
theorem dX11_addFunction_20 : decode cX11_addFunction 20 = .ok (.dup, 1) := by decide +kernel
theorem dX11_addFunction_21 : decode cX11_addFunction 21 = .ok (.ldc 80, 2) := by decide +kernel
theorem dX11_addFunction_23 : decode cX11_addFunction 23 = .ok (.invokespecial 54, 3) := by decide +kernel
theorem dX11_addFunction_26 : decode cX11_addFunction 26 = .ok (.athrow, 1) := by decide +kernel
theorem dX11_addFunction_27 : decode cX11_addFunction 27 = .ok (.aload_n 0, 1) := by decide +kernel
theorem dX11_addFunction_28 : decode cX11_addFunction 28 = .ok (.getfield 10, 3) := by decide +kernel
theorem dX11_addFunction_31 : decode cX11_addFunction 31 = .ok (.iload_n 2, 1) := by decide +kernel
theorem dX11_addFunction_32 : decode cX11_addFunction 32 = .ok (.invokevirtual 82, 3) := by decide +kernel
theorem dX11_addFunction_35 : decode cX11_addFunction 35 = .ok (.astore 4, 2) := by decide +kernel
theorem dX11_addFunction_37 : decode cX11_addFunction 37 = .ok (.aload_n 0, 1) := by decide +kernel
theorem dX11_addFunction_38 : decode cX11_addFunction 38 = .ok (.getfield 10, 3) := by decide +kernel
theorem dX11_addFunction_41 : decode cX11_addFunction 41 = .ok (.iload_n 3, 1) := by decide +kernel
theorem dX11_addFunction_42 : decode cX11_addFunction 42 = .ok (.invokevirtual 82, 3) := by decide +kernel
theorem dX11_addFunction_45 : decode cX11_addFunction 45 = .ok (.astore 5, 2) := by decide +kernel
theorem dX11_addFunction_47 : decode cX11_addFunction 47 = .ok (.aload 4, 2) := by decide +kernel
theorem dX11_addFunction_49 : decode cX11_addFunction 49 = .ok (.ifnonnull 8, 3) := by decide +kernel
theorem dX11_addFunction_52 : decode cX11_addFunction 52 = .ok (.iload_n 2, 1) := by decide +kernel
theorem dX11_addFunction_53 : decode cX11_addFunction 53 = .ok (.iconst (-1), 1) := by decide +kernel
theorem dX11_addFunction_54 : decode cX11_addFunction 54 = .ok (.if_icmp .ne 13, 3) := by decide +kernel
theorem dX11_addFunction_57 : decode cX11_addFunction 57 = .ok (.aload 5, 2) := by decide +kernel
theorem dX11_addFunction_59 : decode cX11_addFunction 59 = .ok (.ifnonnull 18, 3) := by decide +kernel
theorem dX11_addFunction_62 : decode cX11_addFunction 62 = .ok (.iload_n 3, 1) := by decide +kernel
theorem dX11_addFunction_63 : decode cX11_addFunction 63 = .ok (.iconst (-1), 1) := by decide +kernel
theorem dX11_addFunction_64 : decode cX11_addFunction 64 = .ok (.if_icmp .eq 13, 3) := by decide +kernel
theorem dX11_addFunction_67 : decode cX11_addFunction 67 = .ok (.new 86, 3) := by decide +kernel
theorem dX11_addFunction_70 : decode cX11_addFunction 70 = .ok (.dup, 1) := by decide +kernel
theorem dX11_addFunction_71 : decode cX11_addFunction 71 = .ok (.ldc 88, 2) := by decide +kernel
theorem dX11_addFunction_73 : decode cX11_addFunction 73 = .ok (.invokespecial 90, 3) := by decide +kernel
theorem dX11_addFunction_76 : decode cX11_addFunction 76 = .ok (.athrow, 1) := by decide +kernel
theorem dX11_addFunction_77 : decode cX11_addFunction 77 = .ok (.aload 4, 2) := by decide +kernel
theorem dX11_addFunction_79 : decode cX11_addFunction 79 = .ok (.invokestatic 91, 3) := by decide +kernel
theorem dX11_addFunction_82 : decode cX11_addFunction 82 = .ok (.ifCond .eq 23, 3) := by decide +kernel
theorem dX11_addFunction_85 : decode cX11_addFunction 85 = .ok (.aload 5, 2) := by decide +kernel
theorem dX11_addFunction_87 : decode cX11_addFunction 87 = .ok (.invokestatic 91, 3) := by decide +kernel
theorem dX11_addFunction_90 : decode cX11_addFunction 90 = .ok (.ifCond .eq 15, 3) := by decide +kernel
theorem dX11_addFunction_93 : decode cX11_addFunction 93 = .ok (.aload 4, 2) := by decide +kernel
theorem dX11_addFunction_95 : decode cX11_addFunction 95 = .ok (.ifnull 20, 3) := by decide +kernel
theorem dX11_addFunction_98 : decode cX11_addFunction 98 = .ok (.aload 4, 2) := by decide +kernel
theorem dX11_addFunction_100 : decode cX11_addFunction 100 = .ok (.aload 5, 2) := by decide +kernel
theorem dX11_addFunction_102 : decode cX11_addFunction 102 = .ok (.if_acmp .ne 13, 3) := by decide +kernel
theorem dX11_addFunction_105 : decode cX11_addFunction 105 = .ok (.new 95, 3) := by decide +kernel
theorem dX11_addFunction_108 : decode cX11_addFunction 108 = .ok (.dup, 1) := by decide +kernel
theorem dX11_addFunction_109 : decode cX11_addFunction 109 = .ok (.ldc 97, 2) := by decide +kernel
theorem dX11_addFunction_111 : decode cX11_addFunction 111 = .ok (.invokespecial 99, 3) := by decide +kernel
theorem dX11_addFunction_114 : decode cX11_addFunction 114 = .ok (.athrow, 1) := by decide +kernel
theorem dX11_addFunction_115 : decode cX11_addFunction 115 = .ok (.aload_n 0, 1) := by decide +kernel
theorem dX11_addFunction_116 : decode cX11_addFunction 116 = .ok (.getfield 10, 3) := by decide +kernel
theorem dX11_addFunction_119 : decode cX11_addFunction 119 = .ok (.getfield 100, 3) := by decide +kernel
theorem dX11_addFunction_122 : decode cX11_addFunction 122 = .ok (.iconst 3, 1) := by decide +kernel
theorem dX11_addFunction_123 : decode cX11_addFunction 123 = .ok (.if_icmp .lt 13, 3) := by decide +kernel
theorem dX11_addFunction_126 : decode cX11_addFunction 126 = .ok (.new 66, 3) := by decide +kernel
theorem dX11_addFunction_129 : decode cX11_addFunction 129 = .ok (.dup, 1) := by decide +kernel
theorem dX11_addFunction_130 : decode cX11_addFunction 130 = .ok (.ldc 103, 2) := by decide +kernel
theorem dX11_addFunction_132 : decode cX11_addFunction 132 = .ok (.invokespecial 70, 3) := by decide +kernel
theorem dX11_addFunction_135 : decode cX11_addFunction 135 = .ok (.athrow, 1) := by decide +kernel
theorem dX11_addFunction_136 : decode cX11_addFunction 136 = .ok (.aload_n 0, 1) := by decide +kernel
theorem dX11_addFunction_137 : decode cX11_addFunction 137 = .ok (.getfield 10, 3) := by decide +kernel
theorem dX11_addFunction_140 : decode cX11_addFunction 140 = .ok (.new 105, 3) := by decide +kernel
theorem dX11_addFunction_143 : decode cX11_addFunction 143 = .ok (.dup, 1) := by decide +kernel
theorem dX11_addFunction_144 : decode cX11_addFunction 144 = .ok (.iload_n 1, 1) := by decide +kernel
theorem dX11_addFunction_145 : decode cX11_addFunction 145 = .ok (.aload 4, 2) := by decide +kernel
theorem dX11_addFunction_147 : decode cX11_addFunction 147 = .ok (.aload 5, 2) := by decide +kernel
theorem dX11_addFunction_149 : decode cX11_addFunction 149 = .ok (.invokespecial 107, 3) := by decide +kernel
theorem dX11_addFunction_152 : decode cX11_addFunction 152 = .ok (.invokevirtual 110, 3) := by decide +kernel
theorem dX11_addFunction_155 : decode cX11_addFunction 155 = .ok (.ireturn, 1) := by decide +kernel
theorem dX11_canBeParameter_0 : decode cX11_canBeParameter 0 = .ok (.aload_n 0, 1) := by decide +kernel
theorem dX11_canBeParameter_1 : decode cX11_canBeParameter 1 = .ok (.ifnull 17, 3) := by decide +kernel
theorem dX11_canBeParameter_4 : decode cX11_canBeParameter 4 = .ok (.aload_n 0, 1) := by decide +kernel
theorem dX11_canBeParameter_5 : decode cX11_canBeParameter 5 = .ok (.getfield 114, 3) := by decide +kernel
theorem dX11_canBeParameter_8 : decode cX11_canBeParameter 8 = .ok (.ifCond .ne 14, 3) := by decide +kernel
theorem dX11_canBeParameter_11 : decode cX11_canBeParameter 11 = .ok (.aload_n 0, 1) := by decide +kernel
theorem dX11_canBeParameter_12 : decode cX11_canBeParameter 12 = .ok (.invokevirtual 118, 3) := by decide +kernel
theorem dX11_canBeParameter_15 : decode cX11_canBeParameter 15 = .ok (.ifCond .ne 7, 3) := by decide +kernel
theorem dX11_canBeParameter_18 : decode cX11_canBeParameter 18 = .ok (.iconst 1, 1) := by decide +kernel
theorem dX11_canBeParameter_19 : decode cX11_canBeParameter 19 = .ok (.goto 4, 3) := by decide +kernel
theorem dX11_canBeParameter_22 : decode cX11_canBeParameter 22 = .ok (.iconst 0, 1) := by decide +kernel
theorem dX11_canBeParameter_23 : decode cX11_canBeParameter 23 = .ok (.ireturn, 1) := by decide +kernel
theorem dX11_setBody_0 : decode cX11_setBody 0 = .ok (.aload_n 0, 1) := by decide +kernel
theorem dX11_setBody_1 : decode cX11_setBody 1 = .ok (.getfield 10, 3) := by decide +kernel
theorem dX11_setBody_4 : decode cX11_setBody 4 = .ok (.iload_n 1, 1) := by decide +kernel
theorem dX11_setBody_5 : decode cX11_setBody 5 = .ok (.invokevirtual 122, 3) := by decide +kernel
theorem dX11_setBody_8 : decode cX11_setBody 8 = .ok (.astore_n 3, 1) := by decide +kernel
theorem dX11_setBody_9 : decode cX11_setBody 9 = .ok (.aload_n 0, 1) := by decide +kernel
theorem dX11_setBody_10 : decode cX11_setBody 10 = .ok (.getfield 10, 3) := by decide +kernel
theorem dX11_setBody_13 : decode cX11_setBody 13 = .ok (.iload_n 2, 1) := by decide +kernel
theorem dX11_setBody_14 : decode cX11_setBody 14 = .ok (.invokevirtual 126, 3) := by decide +kernel
theorem dX11_setBody_17 : decode cX11_setBody 17 = .ok (.astore 4, 2) := by decide +kernel
theorem dX11_setBody_19 : decode cX11_setBody 19 = .ok (.aload_n 3, 1) := by decide +kernel
theorem dX11_setBody_20 : decode cX11_setBody 20 = .ok (.ifnull 8, 3) := by decide +kernel
theorem dX11_setBody_23 : decode cX11_setBody 23 = .ok (.aload 4, 2) := by decide +kernel
theorem dX11_setBody_25 : decode cX11_setBody 25 = .ok (.ifnonnull 13, 3) := by decide +kernel
theorem dX11_setBody_28 : decode cX11_setBody 28 = .ok (.new 86, 3) := by decide +kernel
theorem dX11_setBody_31 : decode cX11_setBody 31 = .ok (.dup, 1) := by decide +kernel
theorem dX11_setBody_32 : decode cX11_setBody 32 = .ok (.ldc 130, 2) := by decide +kernel
theorem dX11_setBody_34 : decode cX11_setBody 34 = .ok (.invokespecial 90, 3) := by decide +kernel
theorem dX11_setBody_37 : decode cX11_setBody 37 = .ok (.athrow, 1) := by decide +kernel
theorem dX11_setBody_38 : decode cX11_setBody 38 = .ok (.aload 4, 2) := by decide +kernel
theorem dX11_setBody_40 : decode cX11_setBody 40 = .ok (.getfield 132, 3) := by decide +kernel
theorem dX11_setBody_43 : decode cX11_setBody 43 = .ok (.ifCond .eq 13, 3) := by decide +kernel
theorem dX11_setBody_46 : decode cX11_setBody 46 = .ok (.new 95, 3) := by decide +kernel
theorem dX11_setBody_49 : decode cX11_setBody 49 = .ok (.dup, 1) := by decide +kernel
theorem dX11_setBody_50 : decode cX11_setBody 50 = .ok (.ldc 137, 2) := by decide +kernel
theorem dX11_setBody_52 : decode cX11_setBody 52 = .ok (.invokespecial 99, 3) := by decide +kernel
theorem dX11_setBody_55 : decode cX11_setBody 55 = .ok (.athrow, 1) := by decide +kernel
theorem dX11_setBody_56 : decode cX11_setBody 56 = .ok (.aload_n 0, 1) := by decide +kernel
theorem dX11_setBody_57 : decode cX11_setBody 57 = .ok (.getfield 10, 3) := by decide +kernel
theorem dX11_setBody_60 : decode cX11_setBody 60 = .ok (.aload_n 3, 1) := by decide +kernel
theorem dX11_setBody_61 : decode cX11_setBody 61 = .ok (.aload 4, 2) := by decide +kernel
theorem dX11_setBody_63 : decode cX11_setBody 63 = .ok (.invokevirtual 139, 3) := by decide +kernel
theorem dX11_setBody_66 : decode cX11_setBody 66 = .ok (.aload_n 0, 1) := by decide +kernel
theorem dX11_setBody_67 : decode cX11_setBody 67 = .ok (.getfield 10, 3) := by decide +kernel
theorem dX11_setBody_70 : decode cX11_setBody 70 = .ok (.invokevirtual 143, 3) := by decide +kernel
theorem dX11_setBody_73 : decode cX11_setBody 73 = .ok (.ireturn, 1) := by decide +kernel
theorem dX11_number_0 : decode cX11_number 0 = .ok (.iload_n 2, 1) := by decide +kernel
theorem dX11_number_1 : decode cX11_number 1 = .ok (.invokestatic 57, 3) := by decide +kernel
theorem dX11_number_4 : decode cX11_number 4 = .ok (.ifCond .eq 12, 3) := by decide +kernel
theorem dX11_number_7 : decode cX11_number 7 = .ok (.iload_n 2, 1) := by decide +kernel
theorem dX11_number_8 : decode cX11_number 8 = .ok (.iload_n 1, 1) := by decide +kernel
theorem dX11_number_9 : decode cX11_number 9 = .ok (.i2l, 1) := by decide +kernel
theorem dX11_number_10 : decode cX11_number 10 = .ok (.invokestatic 147, 3) := by decide +kernel
theorem dX11_number_13 : decode cX11_number 13 = .ok (.ifCond .ne 13, 3) := by decide +kernel
theorem dX11_number_16 : decode cX11_number 16 = .ok (.new 50, 3) := by decide +kernel
theorem dX11_number_19 : decode cX11_number 19 = .ok (.dup, 1) := by decide +kernel
theorem dX11_number_20 : decode cX11_number 20 = .ok (.ldc 151, 2) := by decide +kernel
theorem dX11_number_22 : decode cX11_number 22 = .ok (.invokespecial 54, 3) := by decide +kernel
theorem dX11_number_25 : decode cX11_number 25 = .ok (.athrow, 1) := by decide +kernel
theorem dX11_number_26 : decode cX11_number 26 = .ok (.aload_n 0, 1) := by decide +kernel
theorem dX11_number_27 : decode cX11_number 27 = .ok (.invokevirtual 153, 3) := by decide +kernel
theorem dX11_number_30 : decode cX11_number 30 = .ok (.new 156, 3) := by decide +kernel
theorem dX11_number_33 : decode cX11_number 33 = .ok (.dup, 1) := by decide +kernel
theorem dX11_number_34 : decode cX11_number 34 = .ok (.iconst 0, 1) := by decide +kernel
theorem dX11_number_35 : decode cX11_number 35 = .ok (.bipush 32, 2) := by decide +kernel
theorem dX11_number_37 : decode cX11_number 37 = .ok (.iload_n 2, 1) := by decide +kernel
theorem dX11_number_38 : decode cX11_number 38 = .ok (.invokespecial 158, 3) := by decide +kernel
theorem dX11_number_41 : decode cX11_number 41 = .ok (.astore_n 3, 1) := by decide +kernel
theorem dX11_number_42 : decode cX11_number 42 = .ok (.aload_n 3, 1) := by decide +kernel
theorem dX11_number_43 : decode cX11_number 43 = .ok (.iload_n 1, 1) := by decide +kernel
theorem dX11_number_44 : decode cX11_number 44 = .ok (.i2l, 1) := by decide +kernel
theorem dX11_number_45 : decode cX11_number 45 = .ok (.putfield 161, 3) := by decide +kernel
theorem dX11_number_48 : decode cX11_number 48 = .ok (.aload_n 0, 1) := by decide +kernel
theorem dX11_number_49 : decode cX11_number 49 = .ok (.getfield 10, 3) := by decide +kernel
theorem dX11_number_52 : decode cX11_number 52 = .ok (.aload_n 3, 1) := by decide +kernel
theorem dX11_number_53 : decode cX11_number 53 = .ok (.aconst_null, 1) := by decide +kernel
theorem dX11_number_54 : decode cX11_number 54 = .ok (.aconst_null, 1) := by decide +kernel
theorem dX11_number_55 : decode cX11_number 55 = .ok (.aconst_null, 1) := by decide +kernel
theorem dX11_number_56 : decode cX11_number 56 = .ok (.invokevirtual 165, 3) := by decide +kernel
theorem dX11_number_59 : decode cX11_number 59 = .ok (.ireturn, 1) := by decide +kernel
theorem dX11_name_0 : decode cX11_name 0 = .ok (.aload_n 0, 1) := by decide +kernel
theorem dX11_name_1 : decode cX11_name 1 = .ok (.getfield 10, 3) := by decide +kernel
theorem dX11_name_4 : decode cX11_name 4 = .ok (.iload_n 1, 1) := by decide +kernel
theorem dX11_name_5 : decode cX11_name 5 = .ok (.invokevirtual 82, 3) := by decide +kernel
theorem dX11_name_8 : decode cX11_name 8 = .ok (.astore_n 2, 1) := by decide +kernel
theorem dX11_name_9 : decode cX11_name 9 = .ok (.aload_n 2, 1) := by decide +kernel
theorem dX11_name_10 : decode cX11_name 10 = .ok (.ifnonnull 13, 3) := by decide +kernel
theorem dX11_name_13 : decode cX11_name 13 = .ok (.new 86, 3) := by decide +kernel
theorem dX11_name_16 : decode cX11_name 16 = .ok (.dup, 1) := by decide +kernel
theorem dX11_name_17 : decode cX11_name 17 = .ok (.ldc 88, 2) := by decide +kernel
theorem dX11_name_19 : decode cX11_name 19 = .ok (.invokespecial 90, 3) := by decide +kernel
theorem dX11_name_22 : decode cX11_name 22 = .ok (.athrow, 1) := by decide +kernel
theorem dX11_name_23 : decode cX11_name 23 = .ok (.aload_n 0, 1) := by decide +kernel
theorem dX11_name_24 : decode cX11_name 24 = .ok (.invokevirtual 153, 3) := by decide +kernel
theorem dX11_name_27 : decode cX11_name 27 = .ok (.new 156, 3) := by decide +kernel
theorem dX11_name_30 : decode cX11_name 30 = .ok (.dup, 1) := by decide +kernel
theorem dX11_name_31 : decode cX11_name 31 = .ok (.iconst 1, 1) := by decide +kernel
theorem dX11_name_32 : decode cX11_name 32 = .ok (.bipush 32, 2) := by decide +kernel
theorem dX11_name_34 : decode cX11_name 34 = .ok (.aload_n 2, 1) := by decide +kernel
theorem dX11_name_35 : decode cX11_name 35 = .ok (.invokevirtual 118, 3) := by decide +kernel
theorem dX11_name_38 : decode cX11_name 38 = .ok (.ifCond .eq 13, 3) := by decide +kernel
theorem dX11_name_41 : decode cX11_name 41 = .ok (.bipush 10, 2) := by decide +kernel
theorem dX11_name_43 : decode cX11_name 43 = .ok (.aload_n 2, 1) := by decide +kernel
theorem dX11_name_44 : decode cX11_name 44 = .ok (.getfield 169, 3) := by decide +kernel
theorem dX11_name_47 : decode cX11_name 47 = .ok (.iadd, 1) := by decide +kernel
theorem dX11_name_48 : decode cX11_name 48 = .ok (.goto 7, 3) := by decide +kernel
theorem dX11_name_51 : decode cX11_name 51 = .ok (.aload_n 2, 1) := by decide +kernel
theorem dX11_name_52 : decode cX11_name 52 = .ok (.getfield 169, 3) := by decide +kernel
theorem dX11_name_55 : decode cX11_name 55 = .ok (.invokespecial 158, 3) := by decide +kernel
theorem dX11_name_58 : decode cX11_name 58 = .ok (.astore_n 3, 1) := by decide +kernel
theorem dX11_name_59 : decode cX11_name 59 = .ok (.aload_n 3, 1) := by decide +kernel
theorem dX11_name_60 : decode cX11_name 60 = .ok (.aload_n 2, 1) := by decide +kernel
theorem dX11_name_61 : decode cX11_name 61 = .ok (.putfield 172, 3) := by decide +kernel
theorem dX11_name_64 : decode cX11_name 64 = .ok (.aload_n 0, 1) := by decide +kernel
theorem dX11_name_65 : decode cX11_name 65 = .ok (.getfield 10, 3) := by decide +kernel
theorem dX11_name_68 : decode cX11_name 68 = .ok (.aload_n 3, 1) := by decide +kernel
theorem dX11_name_69 : decode cX11_name 69 = .ok (.aconst_null, 1) := by decide +kernel
theorem dX11_name_70 : decode cX11_name 70 = .ok (.aconst_null, 1) := by decide +kernel
theorem dX11_name_71 : decode cX11_name 71 = .ok (.aconst_null, 1) := by decide +kernel
theorem dX11_name_72 : decode cX11_name 72 = .ok (.invokevirtual 165, 3) := by decide +kernel
theorem dX11_name_75 : decode cX11_name 75 = .ok (.ireturn, 1) := by decide +kernel
theorem dX11_unary_0 : decode cX11_unary 0 = .ok (.ldc 176, 2) := by decide +kernel
theorem dX11_unary_2 : decode cX11_unary 2 = .ok (.iload_n 1, 1) := by decide +kernel
theorem dX11_unary_3 : decode cX11_unary 3 = .ok (.invokevirtual 178, 3) := by decide +kernel
theorem dX11_unary_6 : decode cX11_unary 6 = .ok (.ifCond .ge 13, 3) := by decide +kernel
theorem dX11_unary_9 : decode cX11_unary 9 = .ok (.new 50, 3) := by decide +kernel
theorem dX11_unary_12 : decode cX11_unary 12 = .ok (.dup, 1) := by decide +kernel
theorem dX11_unary_13 : decode cX11_unary 13 = .ok (.ldc 184, 2) := by decide +kernel
theorem dX11_unary_15 : decode cX11_unary 15 = .ok (.invokespecial 54, 3) := by decide +kernel
theorem dX11_unary_18 : decode cX11_unary 18 = .ok (.athrow, 1) := by decide +kernel
theorem dX11_unary_19 : decode cX11_unary 19 = .ok (.aload_n 0, 1) := by decide +kernel
theorem dX11_unary_20 : decode cX11_unary 20 = .ok (.getfield 10, 3) := by decide +kernel
theorem dX11_unary_23 : decode cX11_unary 23 = .ok (.iload_n 2, 1) := by decide +kernel
theorem dX11_unary_24 : decode cX11_unary 24 = .ok (.invokevirtual 186, 3) := by decide +kernel
theorem dX11_unary_27 : decode cX11_unary 27 = .ok (.astore_n 3, 1) := by decide +kernel
theorem dX11_unary_28 : decode cX11_unary 28 = .ok (.aload_n 3, 1) := by decide +kernel
theorem dX11_unary_29 : decode cX11_unary 29 = .ok (.ifnonnull 13, 3) := by decide +kernel
theorem dX11_unary_32 : decode cX11_unary 32 = .ok (.new 86, 3) := by decide +kernel
theorem dX11_unary_35 : decode cX11_unary 35 = .ok (.dup, 1) := by decide +kernel
theorem dX11_unary_36 : decode cX11_unary 36 = .ok (.ldc 190, 2) := by decide +kernel
theorem dX11_unary_38 : decode cX11_unary 38 = .ok (.invokespecial 90, 3) := by decide +kernel
theorem dX11_unary_41 : decode cX11_unary 41 = .ok (.athrow, 1) := by decide +kernel
theorem dX11_unary_42 : decode cX11_unary 42 = .ok (.iload_n 1, 1) := by decide +kernel
theorem dX11_unary_43 : decode cX11_unary 43 = .ok (.aload_n 3, 1) := by decide +kernel
theorem dX11_unary_44 : decode cX11_unary 44 = .ok (.invokestatic 192, 3) := by decide +kernel
theorem dX11_unary_47 : decode cX11_unary 47 = .ok (.istore 4, 2) := by decide +kernel
theorem dX11_unary_49 : decode cX11_unary 49 = .ok (.iload 4, 2) := by decide +kernel
theorem dX11_unary_51 : decode cX11_unary 51 = .ok (.iconst (-1), 1) := by decide +kernel
theorem dX11_unary_52 : decode cX11_unary 52 = .ok (.if_icmp .eq 12, 3) := by decide +kernel
theorem dX11_unary_55 : decode cX11_unary 55 = .ok (.aload_n 3, 1) := by decide +kernel
theorem dX11_unary_56 : decode cX11_unary 56 = .ok (.aconst_null, 1) := by decide +kernel
theorem dX11_unary_57 : decode cX11_unary 57 = .ok (.aconst_null, 1) := by decide +kernel
theorem dX11_unary_58 : decode cX11_unary 58 = .ok (.invokestatic 198, 3) := by decide +kernel
theorem dX11_unary_61 : decode cX11_unary 61 = .ok (.ifCond .ne 13, 3) := by decide +kernel
theorem dX11_unary_64 : decode cX11_unary 64 = .ok (.new 95, 3) := by decide +kernel
theorem dX11_unary_67 : decode cX11_unary 67 = .ok (.dup, 1) := by decide +kernel
theorem dX11_unary_68 : decode cX11_unary 68 = .ok (.ldc 202, 2) := by decide +kernel
theorem dX11_unary_70 : decode cX11_unary 70 = .ok (.invokespecial 99, 3) := by decide +kernel
theorem dX11_unary_73 : decode cX11_unary 73 = .ok (.athrow, 1) := by decide +kernel
theorem dX11_unary_74 : decode cX11_unary 74 = .ok (.aload_n 0, 1) := by decide +kernel
theorem dX11_unary_75 : decode cX11_unary 75 = .ok (.invokevirtual 153, 3) := by decide +kernel
theorem dX11_unary_78 : decode cX11_unary 78 = .ok (.aload_n 0, 1) := by decide +kernel
theorem dX11_unary_79 : decode cX11_unary 79 = .ok (.getfield 10, 3) := by decide +kernel
theorem dX11_unary_82 : decode cX11_unary 82 = .ok (.new 156, 3) := by decide +kernel
theorem dX11_unary_85 : decode cX11_unary 85 = .ok (.dup, 1) := by decide +kernel
theorem dX11_unary_86 : decode cX11_unary 86 = .ok (.iconst 2, 1) := by decide +kernel
theorem dX11_unary_87 : decode cX11_unary 87 = .ok (.iload_n 1, 1) := by decide +kernel
theorem dX11_unary_88 : decode cX11_unary 88 = .ok (.iload 4, 2) := by decide +kernel
theorem dX11_unary_90 : decode cX11_unary 90 = .ok (.invokespecial 158, 3) := by decide +kernel
theorem dX11_unary_93 : decode cX11_unary 93 = .ok (.aload_n 3, 1) := by decide +kernel
theorem dX11_unary_94 : decode cX11_unary 94 = .ok (.aconst_null, 1) := by decide +kernel
theorem dX11_unary_95 : decode cX11_unary 95 = .ok (.aconst_null, 1) := by decide +kernel
theorem dX11_unary_96 : decode cX11_unary 96 = .ok (.invokevirtual 165, 3) := by decide +kernel
theorem dX11_unary_99 : decode cX11_unary 99 = .ok (.ireturn, 1) := by decide +kernel
theorem dX11_cast_0 : decode cX11_cast 0 = .ok (.iload_n 1, 1) := by decide +kernel
theorem dX11_cast_1 : decode cX11_cast 1 = .ok (.invokestatic 57, 3) := by decide +kernel
theorem dX11_cast_4 : decode cX11_cast 4 = .ok (.ifCond .ne 13, 3) := by decide +kernel
theorem dX11_cast_7 : decode cX11_cast 7 = .ok (.new 50, 3) := by decide +kernel
theorem dX11_cast_10 : decode cX11_cast 10 = .ok (.dup, 1) := by decide +kernel
theorem dX11_cast_11 : decode cX11_cast 11 = .ok (.ldc 204, 2) := by decide +kernel
theorem dX11_cast_13 : decode cX11_cast 13 = .ok (.invokespecial 54, 3) := by decide +kernel
theorem dX11_cast_16 : decode cX11_cast 16 = .ok (.athrow, 1) := by decide +kernel
theorem dX11_cast_17 : decode cX11_cast 17 = .ok (.aload_n 0, 1) := by decide +kernel
theorem dX11_cast_18 : decode cX11_cast 18 = .ok (.getfield 10, 3) := by decide +kernel
theorem dX11_cast_21 : decode cX11_cast 21 = .ok (.iload_n 2, 1) := by decide +kernel
theorem dX11_cast_22 : decode cX11_cast 22 = .ok (.invokevirtual 186, 3) := by decide +kernel
theorem dX11_cast_25 : decode cX11_cast 25 = .ok (.astore_n 3, 1) := by decide +kernel
theorem dX11_cast_26 : decode cX11_cast 26 = .ok (.aload_n 3, 1) := by decide +kernel
theorem dX11_cast_27 : decode cX11_cast 27 = .ok (.ifnonnull 13, 3) := by decide +kernel
theorem dX11_cast_30 : decode cX11_cast 30 = .ok (.new 86, 3) := by decide +kernel
theorem dX11_cast_33 : decode cX11_cast 33 = .ok (.dup, 1) := by decide +kernel
theorem dX11_cast_34 : decode cX11_cast 34 = .ok (.ldc 190, 2) := by decide +kernel
theorem dX11_cast_36 : decode cX11_cast 36 = .ok (.invokespecial 90, 3) := by decide +kernel
theorem dX11_cast_39 : decode cX11_cast 39 = .ok (.athrow, 1) := by decide +kernel
theorem dX11_cast_40 : decode cX11_cast 40 = .ok (.aload_n 3, 1) := by decide +kernel
theorem dX11_cast_41 : decode cX11_cast 41 = .ok (.getfield 206, 3) := by decide +kernel
theorem dX11_cast_44 : decode cX11_cast 44 = .ok (.invokestatic 57, 3) := by decide +kernel
theorem dX11_cast_47 : decode cX11_cast 47 = .ok (.ifCond .eq 12, 3) := by decide +kernel
theorem dX11_cast_50 : decode cX11_cast 50 = .ok (.aload_n 3, 1) := by decide +kernel
theorem dX11_cast_51 : decode cX11_cast 51 = .ok (.aconst_null, 1) := by decide +kernel
theorem dX11_cast_52 : decode cX11_cast 52 = .ok (.aconst_null, 1) := by decide +kernel
theorem dX11_cast_53 : decode cX11_cast 53 = .ok (.invokestatic 198, 3) := by decide +kernel
theorem dX11_cast_56 : decode cX11_cast 56 = .ok (.ifCond .ne 13, 3) := by decide +kernel
theorem dX11_cast_59 : decode cX11_cast 59 = .ok (.new 95, 3) := by decide +kernel
theorem dX11_cast_62 : decode cX11_cast 62 = .ok (.dup, 1) := by decide +kernel
theorem dX11_cast_63 : decode cX11_cast 63 = .ok (.ldc 202, 2) := by decide +kernel
theorem dX11_cast_65 : decode cX11_cast 65 = .ok (.invokespecial 99, 3) := by decide +kernel
theorem dX11_cast_68 : decode cX11_cast 68 = .ok (.athrow, 1) := by decide +kernel
theorem dX11_cast_69 : decode cX11_cast 69 = .ok (.aload_n 0, 1) := by decide +kernel
theorem dX11_cast_70 : decode cX11_cast 70 = .ok (.invokevirtual 153, 3) := by decide +kernel
theorem dX11_cast_73 : decode cX11_cast 73 = .ok (.aload_n 0, 1) := by decide +kernel
theorem dX11_cast_74 : decode cX11_cast 74 = .ok (.getfield 10, 3) := by decide +kernel
theorem dX11_cast_77 : decode cX11_cast 77 = .ok (.new 156, 3) := by decide +kernel
theorem dX11_cast_80 : decode cX11_cast 80 = .ok (.dup, 1) := by decide +kernel
theorem dX11_cast_81 : decode cX11_cast 81 = .ok (.iconst 3, 1) := by decide +kernel
theorem dX11_cast_82 : decode cX11_cast 82 = .ok (.bipush 32, 2) := by decide +kernel
theorem dX11_cast_84 : decode cX11_cast 84 = .ok (.iload_n 1, 1) := by decide +kernel
theorem dX11_cast_85 : decode cX11_cast 85 = .ok (.invokespecial 158, 3) := by decide +kernel
theorem dX11_cast_88 : decode cX11_cast 88 = .ok (.aload_n 3, 1) := by decide +kernel
theorem dX11_cast_89 : decode cX11_cast 89 = .ok (.aconst_null, 1) := by decide +kernel
theorem dX11_cast_90 : decode cX11_cast 90 = .ok (.aconst_null, 1) := by decide +kernel
theorem dX11_cast_91 : decode cX11_cast 91 = .ok (.invokevirtual 165, 3) := by decide +kernel
theorem dX11_cast_94 : decode cX11_cast 94 = .ok (.ireturn, 1) := by decide +kernel
theorem dX11_binary_0 : decode cX11_binary 0 = .ok (.ldc 207, 2) := by decide +kernel
theorem dX11_binary_2 : decode cX11_binary 2 = .ok (.iload_n 1, 1) := by decide +kernel
theorem dX11_binary_3 : decode cX11_binary 3 = .ok (.invokevirtual 178, 3) := by decide +kernel
theorem dX11_binary_6 : decode cX11_binary 6 = .ok (.ifCond .ge 13, 3) := by decide +kernel
theorem dX11_binary_9 : decode cX11_binary 9 = .ok (.new 50, 3) := by decide +kernel
theorem dX11_binary_12 : decode cX11_binary 12 = .ok (.dup, 1) := by decide +kernel
theorem dX11_binary_13 : decode cX11_binary 13 = .ok (.ldc 184, 2) := by decide +kernel
theorem dX11_binary_15 : decode cX11_binary 15 = .ok (.invokespecial 54, 3) := by decide +kernel
theorem dX11_binary_18 : decode cX11_binary 18 = .ok (.athrow, 1) := by decide +kernel
theorem dX11_binary_19 : decode cX11_binary 19 = .ok (.aload_n 0, 1) := by decide +kernel
theorem dX11_binary_20 : decode cX11_binary 20 = .ok (.getfield 10, 3) := by decide +kernel
theorem dX11_binary_23 : decode cX11_binary 23 = .ok (.iload_n 2, 1) := by decide +kernel
theorem dX11_binary_24 : decode cX11_binary 24 = .ok (.invokevirtual 186, 3) := by decide +kernel
theorem dX11_binary_27 : decode cX11_binary 27 = .ok (.astore 4, 2) := by decide +kernel
theorem dX11_binary_29 : decode cX11_binary 29 = .ok (.aload_n 0, 1) := by decide +kernel
