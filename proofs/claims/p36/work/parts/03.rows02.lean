theorem dX11_binary_30 : decode cX11_binary 30 = .ok (.getfield 10, 3) := by decide +kernel
theorem dX11_binary_33 : decode cX11_binary 33 = .ok (.iload_n 3, 1) := by decide +kernel
theorem dX11_binary_34 : decode cX11_binary 34 = .ok (.invokevirtual 186, 3) := by decide +kernel
theorem dX11_binary_37 : decode cX11_binary 37 = .ok (.astore 5, 2) := by decide +kernel
theorem dX11_binary_39 : decode cX11_binary 39 = .ok (.aload 4, 2) := by decide +kernel
theorem dX11_binary_41 : decode cX11_binary 41 = .ok (.ifnull 8, 3) := by decide +kernel
theorem dX11_binary_44 : decode cX11_binary 44 = .ok (.aload 5, 2) := by decide +kernel
theorem dX11_binary_46 : decode cX11_binary 46 = .ok (.ifnonnull 13, 3) := by decide +kernel
theorem dX11_binary_49 : decode cX11_binary 49 = .ok (.new 86, 3) := by decide +kernel
theorem dX11_binary_52 : decode cX11_binary 52 = .ok (.dup, 1) := by decide +kernel
theorem dX11_binary_53 : decode cX11_binary 53 = .ok (.ldc 190, 2) := by decide +kernel
theorem dX11_binary_55 : decode cX11_binary 55 = .ok (.invokespecial 90, 3) := by decide +kernel
theorem dX11_binary_58 : decode cX11_binary 58 = .ok (.athrow, 1) := by decide +kernel
theorem dX11_binary_59 : decode cX11_binary 59 = .ok (.iload_n 1, 1) := by decide +kernel
theorem dX11_binary_60 : decode cX11_binary 60 = .ok (.aload 4, 2) := by decide +kernel
theorem dX11_binary_62 : decode cX11_binary 62 = .ok (.getfield 206, 3) := by decide +kernel
theorem dX11_binary_65 : decode cX11_binary 65 = .ok (.aload 5, 2) := by decide +kernel
theorem dX11_binary_67 : decode cX11_binary 67 = .ok (.getfield 206, 3) := by decide +kernel
theorem dX11_binary_70 : decode cX11_binary 70 = .ok (.invokestatic 209, 3) := by decide +kernel
theorem dX11_binary_73 : decode cX11_binary 73 = .ok (.istore 6, 2) := by decide +kernel
theorem dX11_binary_75 : decode cX11_binary 75 = .ok (.iload 6, 2) := by decide +kernel
theorem dX11_binary_77 : decode cX11_binary 77 = .ok (.iconst (-1), 1) := by decide +kernel
theorem dX11_binary_78 : decode cX11_binary 78 = .ok (.if_icmp .eq 14, 3) := by decide +kernel
theorem dX11_binary_81 : decode cX11_binary 81 = .ok (.aload 4, 2) := by decide +kernel
theorem dX11_binary_83 : decode cX11_binary 83 = .ok (.aload 5, 2) := by decide +kernel
theorem dX11_binary_85 : decode cX11_binary 85 = .ok (.aconst_null, 1) := by decide +kernel
theorem dX11_binary_86 : decode cX11_binary 86 = .ok (.invokestatic 198, 3) := by decide +kernel
theorem dX11_binary_89 : decode cX11_binary 89 = .ok (.ifCond .ne 13, 3) := by decide +kernel
theorem dX11_binary_92 : decode cX11_binary 92 = .ok (.new 95, 3) := by decide +kernel
theorem dX11_binary_95 : decode cX11_binary 95 = .ok (.dup, 1) := by decide +kernel
theorem dX11_binary_96 : decode cX11_binary 96 = .ok (.ldc 202, 2) := by decide +kernel
theorem dX11_binary_98 : decode cX11_binary 98 = .ok (.invokespecial 99, 3) := by decide +kernel
theorem dX11_binary_101 : decode cX11_binary 101 = .ok (.athrow, 1) := by decide +kernel
theorem dX11_binary_102 : decode cX11_binary 102 = .ok (.aload_n 0, 1) := by decide +kernel
theorem dX11_binary_103 : decode cX11_binary 103 = .ok (.invokevirtual 153, 3) := by decide +kernel
theorem dX11_binary_106 : decode cX11_binary 106 = .ok (.aload_n 0, 1) := by decide +kernel
theorem dX11_binary_107 : decode cX11_binary 107 = .ok (.getfield 10, 3) := by decide +kernel
theorem dX11_binary_110 : decode cX11_binary 110 = .ok (.new 156, 3) := by decide +kernel
theorem dX11_binary_113 : decode cX11_binary 113 = .ok (.dup, 1) := by decide +kernel
theorem dX11_binary_114 : decode cX11_binary 114 = .ok (.iconst 4, 1) := by decide +kernel
theorem dX11_binary_115 : decode cX11_binary 115 = .ok (.iload_n 1, 1) := by decide +kernel
theorem dX11_binary_116 : decode cX11_binary 116 = .ok (.iload 6, 2) := by decide +kernel
theorem dX11_binary_118 : decode cX11_binary 118 = .ok (.invokespecial 158, 3) := by decide +kernel
theorem dX11_binary_121 : decode cX11_binary 121 = .ok (.aload 4, 2) := by decide +kernel
theorem dX11_binary_123 : decode cX11_binary 123 = .ok (.aload 5, 2) := by decide +kernel
theorem dX11_binary_125 : decode cX11_binary 125 = .ok (.aconst_null, 1) := by decide +kernel
theorem dX11_binary_126 : decode cX11_binary 126 = .ok (.invokevirtual 165, 3) := by decide +kernel
theorem dX11_binary_129 : decode cX11_binary 129 = .ok (.ireturn, 1) := by decide +kernel
theorem dX11_choose_0 : decode cX11_choose 0 = .ok (.aload_n 0, 1) := by decide +kernel
theorem dX11_choose_1 : decode cX11_choose 1 = .ok (.getfield 10, 3) := by decide +kernel
theorem dX11_choose_4 : decode cX11_choose 4 = .ok (.iload_n 1, 1) := by decide +kernel
theorem dX11_choose_5 : decode cX11_choose 5 = .ok (.invokevirtual 186, 3) := by decide +kernel
theorem dX11_choose_8 : decode cX11_choose 8 = .ok (.astore 4, 2) := by decide +kernel
theorem dX11_choose_10 : decode cX11_choose 10 = .ok (.aload_n 0, 1) := by decide +kernel
theorem dX11_choose_11 : decode cX11_choose 11 = .ok (.getfield 10, 3) := by decide +kernel
theorem dX11_choose_14 : decode cX11_choose 14 = .ok (.iload_n 2, 1) := by decide +kernel
theorem dX11_choose_15 : decode cX11_choose 15 = .ok (.invokevirtual 186, 3) := by decide +kernel
theorem dX11_choose_18 : decode cX11_choose 18 = .ok (.astore 5, 2) := by decide +kernel
theorem dX11_choose_20 : decode cX11_choose 20 = .ok (.aload_n 0, 1) := by decide +kernel
theorem dX11_choose_21 : decode cX11_choose 21 = .ok (.getfield 10, 3) := by decide +kernel
theorem dX11_choose_24 : decode cX11_choose 24 = .ok (.iload_n 3, 1) := by decide +kernel
theorem dX11_choose_25 : decode cX11_choose 25 = .ok (.invokevirtual 186, 3) := by decide +kernel
theorem dX11_choose_28 : decode cX11_choose 28 = .ok (.astore 6, 2) := by decide +kernel
theorem dX11_choose_30 : decode cX11_choose 30 = .ok (.aload 4, 2) := by decide +kernel
theorem dX11_choose_32 : decode cX11_choose 32 = .ok (.ifnull 13, 3) := by decide +kernel
theorem dX11_choose_35 : decode cX11_choose 35 = .ok (.aload 5, 2) := by decide +kernel
theorem dX11_choose_37 : decode cX11_choose 37 = .ok (.ifnull 8, 3) := by decide +kernel
theorem dX11_choose_40 : decode cX11_choose 40 = .ok (.aload 6, 2) := by decide +kernel
theorem dX11_choose_42 : decode cX11_choose 42 = .ok (.ifnonnull 13, 3) := by decide +kernel
theorem dX11_choose_45 : decode cX11_choose 45 = .ok (.new 86, 3) := by decide +kernel
theorem dX11_choose_48 : decode cX11_choose 48 = .ok (.dup, 1) := by decide +kernel
theorem dX11_choose_49 : decode cX11_choose 49 = .ok (.ldc 190, 2) := by decide +kernel
theorem dX11_choose_51 : decode cX11_choose 51 = .ok (.invokespecial 90, 3) := by decide +kernel
theorem dX11_choose_54 : decode cX11_choose 54 = .ok (.athrow, 1) := by decide +kernel
theorem dX11_choose_55 : decode cX11_choose 55 = .ok (.aload 5, 2) := by decide +kernel
theorem dX11_choose_57 : decode cX11_choose 57 = .ok (.getfield 206, 3) := by decide +kernel
theorem dX11_choose_60 : decode cX11_choose 60 = .ok (.aload 6, 2) := by decide +kernel
theorem dX11_choose_62 : decode cX11_choose 62 = .ok (.getfield 206, 3) := by decide +kernel
theorem dX11_choose_65 : decode cX11_choose 65 = .ok (.invokestatic 213, 3) := by decide +kernel
theorem dX11_choose_68 : decode cX11_choose 68 = .ok (.istore 7, 2) := by decide +kernel
theorem dX11_choose_70 : decode cX11_choose 70 = .ok (.iload 7, 2) := by decide +kernel
theorem dX11_choose_72 : decode cX11_choose 72 = .ok (.iconst (-1), 1) := by decide +kernel
theorem dX11_choose_73 : decode cX11_choose 73 = .ok (.if_icmp .eq 15, 3) := by decide +kernel
theorem dX11_choose_76 : decode cX11_choose 76 = .ok (.aload 4, 2) := by decide +kernel
theorem dX11_choose_78 : decode cX11_choose 78 = .ok (.aload 5, 2) := by decide +kernel
theorem dX11_choose_80 : decode cX11_choose 80 = .ok (.aload 6, 2) := by decide +kernel
theorem dX11_choose_82 : decode cX11_choose 82 = .ok (.invokestatic 198, 3) := by decide +kernel
theorem dX11_choose_85 : decode cX11_choose 85 = .ok (.ifCond .ne 13, 3) := by decide +kernel
theorem dX11_choose_88 : decode cX11_choose 88 = .ok (.new 95, 3) := by decide +kernel
theorem dX11_choose_91 : decode cX11_choose 91 = .ok (.dup, 1) := by decide +kernel
theorem dX11_choose_92 : decode cX11_choose 92 = .ok (.ldc 202, 2) := by decide +kernel
theorem dX11_choose_94 : decode cX11_choose 94 = .ok (.invokespecial 99, 3) := by decide +kernel
theorem dX11_choose_97 : decode cX11_choose 97 = .ok (.athrow, 1) := by decide +kernel
theorem dX11_choose_98 : decode cX11_choose 98 = .ok (.aload_n 0, 1) := by decide +kernel
theorem dX11_choose_99 : decode cX11_choose 99 = .ok (.invokevirtual 153, 3) := by decide +kernel
theorem dX11_choose_102 : decode cX11_choose 102 = .ok (.aload_n 0, 1) := by decide +kernel
theorem dX11_choose_103 : decode cX11_choose 103 = .ok (.getfield 10, 3) := by decide +kernel
theorem dX11_choose_106 : decode cX11_choose 106 = .ok (.new 156, 3) := by decide +kernel
theorem dX11_choose_109 : decode cX11_choose 109 = .ok (.dup, 1) := by decide +kernel
theorem dX11_choose_110 : decode cX11_choose 110 = .ok (.iconst 5, 1) := by decide +kernel
theorem dX11_choose_111 : decode cX11_choose 111 = .ok (.bipush 32, 2) := by decide +kernel
theorem dX11_choose_113 : decode cX11_choose 113 = .ok (.iload 7, 2) := by decide +kernel
theorem dX11_choose_115 : decode cX11_choose 115 = .ok (.invokespecial 158, 3) := by decide +kernel
theorem dX11_choose_118 : decode cX11_choose 118 = .ok (.aload 4, 2) := by decide +kernel
theorem dX11_choose_120 : decode cX11_choose 120 = .ok (.aload 5, 2) := by decide +kernel
theorem dX11_choose_122 : decode cX11_choose 122 = .ok (.aload 6, 2) := by decide +kernel
theorem dX11_choose_124 : decode cX11_choose 124 = .ok (.invokevirtual 165, 3) := by decide +kernel
theorem dX11_choose_127 : decode cX11_choose 127 = .ok (.ireturn, 1) := by decide +kernel
theorem dX11_assign_0 : decode cX11_assign 0 = .ok (.ldc 217, 2) := by decide +kernel
theorem dX11_assign_2 : decode cX11_assign 2 = .ok (.iload_n 1, 1) := by decide +kernel
theorem dX11_assign_3 : decode cX11_assign 3 = .ok (.invokevirtual 178, 3) := by decide +kernel
theorem dX11_assign_6 : decode cX11_assign 6 = .ok (.ifCond .ge 13, 3) := by decide +kernel
theorem dX11_assign_9 : decode cX11_assign 9 = .ok (.new 50, 3) := by decide +kernel
theorem dX11_assign_12 : decode cX11_assign 12 = .ok (.dup, 1) := by decide +kernel
theorem dX11_assign_13 : decode cX11_assign 13 = .ok (.ldc 184, 2) := by decide +kernel
theorem dX11_assign_15 : decode cX11_assign 15 = .ok (.invokespecial 54, 3) := by decide +kernel
theorem dX11_assign_18 : decode cX11_assign 18 = .ok (.athrow, 1) := by decide +kernel
theorem dX11_assign_19 : decode cX11_assign 19 = .ok (.aload_n 0, 1) := by decide +kernel
theorem dX11_assign_20 : decode cX11_assign 20 = .ok (.getfield 10, 3) := by decide +kernel
theorem dX11_assign_23 : decode cX11_assign 23 = .ok (.iload_n 2, 1) := by decide +kernel
theorem dX11_assign_24 : decode cX11_assign 24 = .ok (.invokevirtual 186, 3) := by decide +kernel
theorem dX11_assign_27 : decode cX11_assign 27 = .ok (.astore 4, 2) := by decide +kernel
theorem dX11_assign_29 : decode cX11_assign 29 = .ok (.aload_n 0, 1) := by decide +kernel
theorem dX11_assign_30 : decode cX11_assign 30 = .ok (.getfield 10, 3) := by decide +kernel
theorem dX11_assign_33 : decode cX11_assign 33 = .ok (.iload_n 3, 1) := by decide +kernel
theorem dX11_assign_34 : decode cX11_assign 34 = .ok (.invokevirtual 186, 3) := by decide +kernel
theorem dX11_assign_37 : decode cX11_assign 37 = .ok (.astore 5, 2) := by decide +kernel
theorem dX11_assign_39 : decode cX11_assign 39 = .ok (.aload 4, 2) := by decide +kernel
theorem dX11_assign_41 : decode cX11_assign 41 = .ok (.ifnull 8, 3) := by decide +kernel
theorem dX11_assign_44 : decode cX11_assign 44 = .ok (.aload 5, 2) := by decide +kernel
theorem dX11_assign_46 : decode cX11_assign 46 = .ok (.ifnonnull 13, 3) := by decide +kernel
theorem dX11_assign_49 : decode cX11_assign 49 = .ok (.new 86, 3) := by decide +kernel
theorem dX11_assign_52 : decode cX11_assign 52 = .ok (.dup, 1) := by decide +kernel
theorem dX11_assign_53 : decode cX11_assign 53 = .ok (.ldc 190, 2) := by decide +kernel
theorem dX11_assign_55 : decode cX11_assign 55 = .ok (.invokespecial 90, 3) := by decide +kernel
theorem dX11_assign_58 : decode cX11_assign 58 = .ok (.athrow, 1) := by decide +kernel
theorem dX11_assign_59 : decode cX11_assign 59 = .ok (.iload_n 1, 1) := by decide +kernel
theorem dX11_assign_60 : decode cX11_assign 60 = .ok (.aload 4, 2) := by decide +kernel
theorem dX11_assign_62 : decode cX11_assign 62 = .ok (.aload 5, 2) := by decide +kernel
theorem dX11_assign_64 : decode cX11_assign 64 = .ok (.getfield 206, 3) := by decide +kernel
theorem dX11_assign_67 : decode cX11_assign 67 = .ok (.invokestatic 219, 3) := by decide +kernel
theorem dX11_assign_70 : decode cX11_assign 70 = .ok (.ifCond .eq 14, 3) := by decide +kernel
theorem dX11_assign_73 : decode cX11_assign 73 = .ok (.aload 4, 2) := by decide +kernel
theorem dX11_assign_75 : decode cX11_assign 75 = .ok (.aload 5, 2) := by decide +kernel
theorem dX11_assign_77 : decode cX11_assign 77 = .ok (.aconst_null, 1) := by decide +kernel
theorem dX11_assign_78 : decode cX11_assign 78 = .ok (.invokestatic 198, 3) := by decide +kernel
theorem dX11_assign_81 : decode cX11_assign 81 = .ok (.ifCond .ne 13, 3) := by decide +kernel
theorem dX11_assign_84 : decode cX11_assign 84 = .ok (.new 95, 3) := by decide +kernel
theorem dX11_assign_87 : decode cX11_assign 87 = .ok (.dup, 1) := by decide +kernel
theorem dX11_assign_88 : decode cX11_assign 88 = .ok (.ldc 202, 2) := by decide +kernel
theorem dX11_assign_90 : decode cX11_assign 90 = .ok (.invokespecial 99, 3) := by decide +kernel
theorem dX11_assign_93 : decode cX11_assign 93 = .ok (.athrow, 1) := by decide +kernel
theorem dX11_assign_94 : decode cX11_assign 94 = .ok (.aload_n 0, 1) := by decide +kernel
theorem dX11_assign_95 : decode cX11_assign 95 = .ok (.invokevirtual 153, 3) := by decide +kernel
theorem dX11_assign_98 : decode cX11_assign 98 = .ok (.aload_n 0, 1) := by decide +kernel
theorem dX11_assign_99 : decode cX11_assign 99 = .ok (.getfield 10, 3) := by decide +kernel
theorem dX11_assign_102 : decode cX11_assign 102 = .ok (.new 156, 3) := by decide +kernel
theorem dX11_assign_105 : decode cX11_assign 105 = .ok (.dup, 1) := by decide +kernel
theorem dX11_assign_106 : decode cX11_assign 106 = .ok (.bipush 6, 2) := by decide +kernel
theorem dX11_assign_108 : decode cX11_assign 108 = .ok (.iload_n 1, 1) := by decide +kernel
theorem dX11_assign_109 : decode cX11_assign 109 = .ok (.aload 4, 2) := by decide +kernel
theorem dX11_assign_111 : decode cX11_assign 111 = .ok (.getfield 206, 3) := by decide +kernel
theorem dX11_assign_114 : decode cX11_assign 114 = .ok (.invokespecial 158, 3) := by decide +kernel
theorem dX11_assign_117 : decode cX11_assign 117 = .ok (.aload 4, 2) := by decide +kernel
theorem dX11_assign_119 : decode cX11_assign 119 = .ok (.aload 5, 2) := by decide +kernel
theorem dX11_assign_121 : decode cX11_assign 121 = .ok (.aconst_null, 1) := by decide +kernel
theorem dX11_assign_122 : decode cX11_assign 122 = .ok (.invokevirtual 165, 3) := by decide +kernel
theorem dX11_assign_125 : decode cX11_assign 125 = .ok (.ireturn, 1) := by decide +kernel
theorem dX11_refuseNodesBeyondLimit_0 : decode cX11_refuseNodesBeyondLimit 0 = .ok (.aload_n 0, 1) := by decide +kernel
theorem dX11_refuseNodesBeyondLimit_1 : decode cX11_refuseNodesBeyondLimit 1 = .ok (.getfield 10, 3) := by decide +kernel
theorem dX11_refuseNodesBeyondLimit_4 : decode cX11_refuseNodesBeyondLimit 4 = .ok (.getfield 242, 3) := by decide +kernel
theorem dX11_refuseNodesBeyondLimit_7 : decode cX11_refuseNodesBeyondLimit 7 = .ok (.bipush 100, 2) := by decide +kernel
theorem dX11_refuseNodesBeyondLimit_9 : decode cX11_refuseNodesBeyondLimit 9 = .ok (.if_icmp .lt 13, 3) := by decide +kernel
theorem dX11_refuseNodesBeyondLimit_12 : decode cX11_refuseNodesBeyondLimit 12 = .ok (.new 66, 3) := by decide +kernel
theorem dX11_refuseNodesBeyondLimit_15 : decode cX11_refuseNodesBeyondLimit 15 = .ok (.dup, 1) := by decide +kernel
theorem dX11_refuseNodesBeyondLimit_16 : decode cX11_refuseNodesBeyondLimit 16 = .ok (.ldc 245, 2) := by decide +kernel
theorem dX11_refuseNodesBeyondLimit_18 : decode cX11_refuseNodesBeyondLimit 18 = .ok (.invokespecial 70, 3) := by decide +kernel
theorem dX11_refuseNodesBeyondLimit_21 : decode cX11_refuseNodesBeyondLimit 21 = .ok (.athrow, 1) := by decide +kernel
theorem dX11_refuseNodesBeyondLimit_22 : decode cX11_refuseNodesBeyondLimit 22 = .ok (.return_, 1) := by decide +kernel
theorem dX11_typeOf_0 : decode cX11_typeOf 0 = .ok (.aload_n 0, 1) := by decide +kernel
theorem dX11_typeOf_1 : decode cX11_typeOf 1 = .ok (.getfield 10, 3) := by decide +kernel
theorem dX11_typeOf_4 : decode cX11_typeOf 4 = .ok (.iload_n 1, 1) := by decide +kernel
theorem dX11_typeOf_5 : decode cX11_typeOf 5 = .ok (.invokevirtual 186, 3) := by decide +kernel
theorem dX11_typeOf_8 : decode cX11_typeOf 8 = .ok (.astore_n 2, 1) := by decide +kernel
theorem dX11_typeOf_9 : decode cX11_typeOf 9 = .ok (.aload_n 2, 1) := by decide +kernel
theorem dX11_typeOf_10 : decode cX11_typeOf 10 = .ok (.ifnonnull 13, 3) := by decide +kernel
theorem dX11_typeOf_13 : decode cX11_typeOf 13 = .ok (.new 86, 3) := by decide +kernel
theorem dX11_typeOf_16 : decode cX11_typeOf 16 = .ok (.dup, 1) := by decide +kernel
theorem dX11_typeOf_17 : decode cX11_typeOf 17 = .ok (.ldc 190, 2) := by decide +kernel
theorem dX11_typeOf_19 : decode cX11_typeOf 19 = .ok (.invokespecial 90, 3) := by decide +kernel
theorem dX11_typeOf_22 : decode cX11_typeOf 22 = .ok (.athrow, 1) := by decide +kernel
theorem dX11_typeOf_23 : decode cX11_typeOf 23 = .ok (.aload_n 2, 1) := by decide +kernel
theorem dX11_typeOf_24 : decode cX11_typeOf 24 = .ok (.getfield 206, 3) := by decide +kernel
theorem dX11_typeOf_27 : decode cX11_typeOf 27 = .ok (.ireturn, 1) := by decide +kernel
theorem dX11_simple_0 : decode cX11_simple 0 = .ok (.ldc 247, 2) := by decide +kernel
theorem dX11_simple_2 : decode cX11_simple 2 = .ok (.iload_n 1, 1) := by decide +kernel
theorem dX11_simple_3 : decode cX11_simple 3 = .ok (.invokevirtual 178, 3) := by decide +kernel
theorem dX11_simple_6 : decode cX11_simple 6 = .ok (.ifCond .ge 13, 3) := by decide +kernel
theorem dX11_simple_9 : decode cX11_simple 9 = .ok (.new 50, 3) := by decide +kernel
theorem dX11_simple_12 : decode cX11_simple 12 = .ok (.dup, 1) := by decide +kernel
theorem dX11_simple_13 : decode cX11_simple 13 = .ok (.ldc 184, 2) := by decide +kernel
theorem dX11_simple_15 : decode cX11_simple 15 = .ok (.invokespecial 54, 3) := by decide +kernel
theorem dX11_simple_18 : decode cX11_simple 18 = .ok (.athrow, 1) := by decide +kernel
theorem dX11_simple_19 : decode cX11_simple 19 = .ok (.aload_n 0, 1) := by decide +kernel
theorem dX11_simple_20 : decode cX11_simple 20 = .ok (.getfield 10, 3) := by decide +kernel
theorem dX11_simple_23 : decode cX11_simple 23 = .ok (.iload_n 2, 1) := by decide +kernel
theorem dX11_simple_24 : decode cX11_simple 24 = .ok (.invokevirtual 186, 3) := by decide +kernel
theorem dX11_simple_27 : decode cX11_simple 27 = .ok (.astore_n 3, 1) := by decide +kernel
theorem dX11_simple_28 : decode cX11_simple 28 = .ok (.aload_n 3, 1) := by decide +kernel
theorem dX11_simple_29 : decode cX11_simple 29 = .ok (.ifnonnull 13, 3) := by decide +kernel
theorem dX11_simple_32 : decode cX11_simple 32 = .ok (.new 86, 3) := by decide +kernel
theorem dX11_simple_35 : decode cX11_simple 35 = .ok (.dup, 1) := by decide +kernel
theorem dX11_simple_36 : decode cX11_simple 36 = .ok (.ldc 190, 2) := by decide +kernel
theorem dX11_simple_38 : decode cX11_simple 38 = .ok (.invokespecial 90, 3) := by decide +kernel
theorem dX11_simple_41 : decode cX11_simple 41 = .ok (.athrow, 1) := by decide +kernel
theorem dX11_simple_42 : decode cX11_simple 42 = .ok (.aload_n 3, 1) := by decide +kernel
theorem dX11_simple_43 : decode cX11_simple 43 = .ok (.getfield 249, 3) := by decide +kernel
theorem dX11_simple_46 : decode cX11_simple 46 = .ok (.ifCond .ne 19, 3) := by decide +kernel
theorem dX11_simple_49 : decode cX11_simple 49 = .ok (.iload_n 1, 1) := by decide +kernel
theorem dX11_simple_50 : decode cX11_simple 50 = .ok (.bipush 101, 2) := by decide +kernel
theorem dX11_simple_52 : decode cX11_simple 52 = .ok (.if_icmp .eq 23, 3) := by decide +kernel
theorem dX11_simple_55 : decode cX11_simple 55 = .ok (.aload_n 3, 1) := by decide +kernel
theorem dX11_simple_56 : decode cX11_simple 56 = .ok (.getfield 206, 3) := by decide +kernel
theorem dX11_simple_59 : decode cX11_simple 59 = .ok (.invokestatic 57, 3) := by decide +kernel
theorem dX11_simple_62 : decode cX11_simple 62 = .ok (.ifCond .ne 13, 3) := by decide +kernel
theorem dX11_simple_65 : decode cX11_simple 65 = .ok (.new 95, 3) := by decide +kernel
theorem dX11_simple_68 : decode cX11_simple 68 = .ok (.dup, 1) := by decide +kernel
theorem dX11_simple_69 : decode cX11_simple 69 = .ok (.ldc 250, 2) := by decide +kernel
theorem dX11_simple_71 : decode cX11_simple 71 = .ok (.invokespecial 99, 3) := by decide +kernel
theorem dX11_simple_74 : decode cX11_simple 74 = .ok (.athrow, 1) := by decide +kernel
theorem dX11_simple_75 : decode cX11_simple 75 = .ok (.aload_n 0, 1) := by decide +kernel
theorem dX11_simple_76 : decode cX11_simple 76 = .ok (.invokevirtual 252, 3) := by decide +kernel
theorem dX11_simple_79 : decode cX11_simple 79 = .ok (.aload_n 0, 1) := by decide +kernel
theorem dX11_simple_80 : decode cX11_simple 80 = .ok (.getfield 10, 3) := by decide +kernel
theorem dX11_simple_83 : decode cX11_simple 83 = .ok (.new 133, 3) := by decide +kernel
theorem dX11_simple_86 : decode cX11_simple 86 = .ok (.dup, 1) := by decide +kernel
theorem dX11_simple_87 : decode cX11_simple 87 = .ok (.iload_n 1, 1) := by decide +kernel
theorem dX11_simple_88 : decode cX11_simple 88 = .ok (.aload_n 3, 1) := by decide +kernel
theorem dX11_simple_89 : decode cX11_simple 89 = .ok (.aconst_null, 1) := by decide +kernel
theorem dX11_simple_90 : decode cX11_simple 90 = .ok (.invokespecial 255, 3) := by decide +kernel
theorem dX11_simple_93 : decode cX11_simple 93 = .ok (.aconst_null, 1) := by decide +kernel
theorem dX11_simple_94 : decode cX11_simple 94 = .ok (.aconst_null, 1) := by decide +kernel
theorem dX11_simple_95 : decode cX11_simple 95 = .ok (.invokevirtual 258, 3) := by decide +kernel
theorem dX11_simple_98 : decode cX11_simple 98 = .ok (.ireturn, 1) := by decide +kernel
theorem dX11_then_0 : decode cX11_then 0 = .ok (.aload_n 0, 1) := by decide +kernel
theorem dX11_then_1 : decode cX11_then 1 = .ok (.getfield 10, 3) := by decide +kernel
theorem dX11_then_4 : decode cX11_then 4 = .ok (.iload_n 1, 1) := by decide +kernel
theorem dX11_then_5 : decode cX11_then 5 = .ok (.invokevirtual 126, 3) := by decide +kernel
theorem dX11_then_8 : decode cX11_then 8 = .ok (.astore_n 3, 1) := by decide +kernel
theorem dX11_then_9 : decode cX11_then 9 = .ok (.aload_n 0, 1) := by decide +kernel
theorem dX11_then_10 : decode cX11_then 10 = .ok (.getfield 10, 3) := by decide +kernel
theorem dX11_then_13 : decode cX11_then 13 = .ok (.iload_n 2, 1) := by decide +kernel
theorem dX11_then_14 : decode cX11_then 14 = .ok (.invokevirtual 126, 3) := by decide +kernel
theorem dX11_then_17 : decode cX11_then 17 = .ok (.astore 4, 2) := by decide +kernel
theorem dX11_then_19 : decode cX11_then 19 = .ok (.aload_n 3, 1) := by decide +kernel
theorem dX11_then_20 : decode cX11_then 20 = .ok (.ifnull 8, 3) := by decide +kernel
theorem dX11_then_23 : decode cX11_then 23 = .ok (.aload 4, 2) := by decide +kernel
theorem dX11_then_25 : decode cX11_then 25 = .ok (.ifnonnull 14, 3) := by decide +kernel
theorem dX11_then_28 : decode cX11_then 28 = .ok (.new 86, 3) := by decide +kernel
theorem dX11_then_31 : decode cX11_then 31 = .ok (.dup, 1) := by decide +kernel
theorem dX11_then_32 : decode cX11_then 32 = .ok (.ldc_w 270, 3) := by decide +kernel
theorem dX11_then_35 : decode cX11_then 35 = .ok (.invokespecial 90, 3) := by decide +kernel
theorem dX11_then_38 : decode cX11_then 38 = .ok (.athrow, 1) := by decide +kernel
theorem dX11_then_39 : decode cX11_then 39 = .ok (.aload_n 0, 1) := by decide +kernel
theorem dX11_then_40 : decode cX11_then 40 = .ok (.bipush 115, 2) := by decide +kernel
theorem dX11_then_42 : decode cX11_then 42 = .ok (.aconst_null, 1) := by decide +kernel
theorem dX11_then_43 : decode cX11_then 43 = .ok (.aload_n 3, 1) := by decide +kernel
theorem dX11_then_44 : decode cX11_then 44 = .ok (.aload 4, 2) := by decide +kernel
theorem dX11_then_46 : decode cX11_then 46 = .ok (.invokevirtual 266, 3) := by decide +kernel
theorem dX11_then_49 : decode cX11_then 49 = .ok (.ireturn, 1) := by decide +kernel
theorem dX11_addWhole_0 : decode cX11_addWhole 0 = .ok (.aload_n 2, 1) := by decide +kernel
theorem dX11_addWhole_1 : decode cX11_addWhole 1 = .ok (.aload_n 3, 1) := by decide +kernel
theorem dX11_addWhole_2 : decode cX11_addWhole 2 = .ok (.aload 4, 2) := by decide +kernel
theorem dX11_addWhole_4 : decode cX11_addWhole 4 = .ok (.invokestatic 272, 3) := by decide +kernel
theorem dX11_addWhole_7 : decode cX11_addWhole 7 = .ok (.ifCond .ne 13, 3) := by decide +kernel
theorem dX11_addWhole_10 : decode cX11_addWhole 10 = .ok (.new 95, 3) := by decide +kernel
theorem dX11_addWhole_13 : decode cX11_addWhole 13 = .ok (.dup, 1) := by decide +kernel
theorem dX11_addWhole_14 : decode cX11_addWhole 14 = .ok (.ldc 250, 2) := by decide +kernel
theorem dX11_addWhole_16 : decode cX11_addWhole 16 = .ok (.invokespecial 99, 3) := by decide +kernel
theorem dX11_addWhole_19 : decode cX11_addWhole 19 = .ok (.athrow, 1) := by decide +kernel
theorem dX11_addWhole_20 : decode cX11_addWhole 20 = .ok (.aload_n 0, 1) := by decide +kernel
theorem dX11_addWhole_21 : decode cX11_addWhole 21 = .ok (.invokevirtual 252, 3) := by decide +kernel
theorem dX11_addWhole_24 : decode cX11_addWhole 24 = .ok (.aload_n 0, 1) := by decide +kernel
theorem dX11_addWhole_25 : decode cX11_addWhole 25 = .ok (.getfield 10, 3) := by decide +kernel
theorem dX11_addWhole_28 : decode cX11_addWhole 28 = .ok (.new 133, 3) := by decide +kernel
theorem dX11_addWhole_31 : decode cX11_addWhole 31 = .ok (.dup, 1) := by decide +kernel
theorem dX11_addWhole_32 : decode cX11_addWhole 32 = .ok (.iload_n 1, 1) := by decide +kernel
theorem dX11_addWhole_33 : decode cX11_addWhole 33 = .ok (.aload_n 2, 1) := by decide +kernel
theorem dX11_addWhole_34 : decode cX11_addWhole 34 = .ok (.aconst_null, 1) := by decide +kernel
theorem dX11_addWhole_35 : decode cX11_addWhole 35 = .ok (.invokespecial 255, 3) := by decide +kernel
theorem dX11_addWhole_38 : decode cX11_addWhole 38 = .ok (.aload_n 3, 1) := by decide +kernel
theorem dX11_addWhole_39 : decode cX11_addWhole 39 = .ok (.aload 4, 2) := by decide +kernel
theorem dX11_addWhole_41 : decode cX11_addWhole 41 = .ok (.invokevirtual 258, 3) := by decide +kernel
theorem dX11_addWhole_44 : decode cX11_addWhole 44 = .ok (.ireturn, 1) := by decide +kernel
theorem dX11_refuseStatementsBeyondLimit_0 : decode cX11_refuseStatementsBeyondLimit 0 = .ok (.aload_n 0, 1) := by decide +kernel
theorem dX11_refuseStatementsBeyondLimit_1 : decode cX11_refuseStatementsBeyondLimit 1 = .ok (.getfield 10, 3) := by decide +kernel
theorem dX11_refuseStatementsBeyondLimit_4 : decode cX11_refuseStatementsBeyondLimit 4 = .ok (.getfield 276, 3) := by decide +kernel
theorem dX11_refuseStatementsBeyondLimit_7 : decode cX11_refuseStatementsBeyondLimit 7 = .ok (.bipush 60, 2) := by decide +kernel
theorem dX11_refuseStatementsBeyondLimit_9 : decode cX11_refuseStatementsBeyondLimit 9 = .ok (.if_icmp .lt 14, 3) := by decide +kernel
theorem dX11_refuseStatementsBeyondLimit_12 : decode cX11_refuseStatementsBeyondLimit 12 = .ok (.new 66, 3) := by decide +kernel
theorem dX11_refuseStatementsBeyondLimit_15 : decode cX11_refuseStatementsBeyondLimit 15 = .ok (.dup, 1) := by decide +kernel
theorem dX11_refuseStatementsBeyondLimit_16 : decode cX11_refuseStatementsBeyondLimit 16 = .ok (.ldc_w 279, 3) := by decide +kernel
theorem dX11_refuseStatementsBeyondLimit_19 : decode cX11_refuseStatementsBeyondLimit 19 = .ok (.invokespecial 70, 3) := by decide +kernel
theorem dX11_refuseStatementsBeyondLimit_22 : decode cX11_refuseStatementsBeyondLimit 22 = .ok (.athrow, 1) := by decide +kernel
theorem dX11_refuseStatementsBeyondLimit_23 : decode cX11_refuseStatementsBeyondLimit 23 = .ok (.return_, 1) := by decide +kernel
theorem dX11_run_0 : decode cX11_run 0 = .ok (.aload_n 0, 1) := by decide +kernel
theorem dX11_run_1 : decode cX11_run 1 = .ok (.invokevirtual 281, 3) := by decide +kernel
theorem dX11_run_4 : decode cX11_run 4 = .ok (.iload_n 1, 1) := by decide +kernel
theorem dX11_run_5 : decode cX11_run 5 = .ok (.invokestatic 284, 3) := by decide +kernel
theorem dX11_run_8 : decode cX11_run 8 = .ok (.aload_n 0, 1) := by decide +kernel
theorem dX11_run_9 : decode cX11_run 9 = .ok (.getfield 26, 3) := by decide +kernel
theorem dX11_run_12 : decode cX11_run 12 = .ok (.aload_n 0, 1) := by decide +kernel
theorem dX11_run_13 : decode cX11_run 13 = .ok (.getfield 10, 3) := by decide +kernel
theorem dX11_run_16 : decode cX11_run 16 = .ok (.aload_n 0, 1) := by decide +kernel
theorem dX11_run_17 : decode cX11_run 17 = .ok (.getfield 10, 3) := by decide +kernel
theorem dX11_run_20 : decode cX11_run 20 = .ok (.getfield 288, 3) := by decide +kernel
theorem dX11_run_23 : decode cX11_run 23 = .ok (.iload_n 1, 1) := by decide +kernel
theorem dX11_run_24 : decode cX11_run 24 = .ok (.aload_n 0, 1) := by decide +kernel
theorem dX11_run_25 : decode cX11_run 25 = .ok (.getfield 33, 3) := by decide +kernel
theorem dX11_run_28 : decode cX11_run 28 = .ok (.invokevirtual 292, 3) := by decide +kernel
theorem dX11_run_31 : decode cX11_run 31 = .ok (.aload_n 0, 1) := by decide +kernel
theorem dX11_run_32 : decode cX11_run 32 = .ok (.dup, 1) := by decide +kernel
theorem dX11_run_33 : decode cX11_run 33 = .ok (.getfield 296, 3) := by decide +kernel
theorem dX11_run_36 : decode cX11_run 36 = .ok (.aload_n 0, 1) := by decide +kernel
theorem dX11_run_37 : decode cX11_run 37 = .ok (.getfield 33, 3) := by decide +kernel
theorem dX11_run_40 : decode cX11_run 40 = .ok (.getfield 299, 3) := by decide +kernel
theorem dX11_run_43 : decode cX11_run 43 = .ok (.i2l, 1) := by decide +kernel
theorem dX11_run_44 : decode cX11_run 44 = .ok (.ladd, 1) := by decide +kernel
theorem dX11_run_45 : decode cX11_run 45 = .ok (.putfield 296, 3) := by decide +kernel
theorem dX11_run_48 : decode cX11_run 48 = .ok (.aload_n 0, 1) := by decide +kernel
theorem dX11_run_49 : decode cX11_run 49 = .ok (.getfield 33, 3) := by decide +kernel
theorem dX11_run_52 : decode cX11_run 52 = .ok (.getfield 302, 3) := by decide +kernel
theorem dX11_run_55 : decode cX11_run 55 = .ok (.ireturn, 1) := by decide +kernel
theorem dX11_refuseProgramWithoutStart_0 : decode cX11_refuseProgramWithoutStart 0 = .ok (.aload_n 0, 1) := by decide +kernel
theorem dX11_refuseProgramWithoutStart_1 : decode cX11_refuseProgramWithoutStart 1 = .ok (.getfield 10, 3) := by decide +kernel
theorem dX11_refuseProgramWithoutStart_4 : decode cX11_refuseProgramWithoutStart 4 = .ok (.invokevirtual 311, 3) := by decide +kernel
theorem dX11_refuseProgramWithoutStart_7 : decode cX11_refuseProgramWithoutStart 7 = .ok (.ifCond .ne 14, 3) := by decide +kernel
theorem dX11_refuseProgramWithoutStart_10 : decode cX11_refuseProgramWithoutStart 10 = .ok (.new 66, 3) := by decide +kernel
theorem dX11_refuseProgramWithoutStart_13 : decode cX11_refuseProgramWithoutStart 13 = .ok (.dup, 1) := by decide +kernel
theorem dX11_refuseProgramWithoutStart_14 : decode cX11_refuseProgramWithoutStart 14 = .ok (.ldc_w 314, 3) := by decide +kernel
theorem dX11_refuseProgramWithoutStart_17 : decode cX11_refuseProgramWithoutStart 17 = .ok (.invokespecial 70, 3) := by decide +kernel
theorem dX11_refuseProgramWithoutStart_20 : decode cX11_refuseProgramWithoutStart 20 = .ok (.athrow, 1) := by decide +kernel
theorem dX11_refuseProgramWithoutStart_21 : decode cX11_refuseProgramWithoutStart 21 = .ok (.return_, 1) := by decide +kernel
theorem dX11_refuseNegativeOrder_0 : decode cX11_refuseNegativeOrder 0 = .ok (.iload_n 0, 1) := by decide +kernel
theorem dX11_refuseNegativeOrder_1 : decode cX11_refuseNegativeOrder 1 = .ok (.ifCond .ge 14, 3) := by decide +kernel
theorem dX11_refuseNegativeOrder_4 : decode cX11_refuseNegativeOrder 4 = .ok (.new 50, 3) := by decide +kernel
theorem dX11_refuseNegativeOrder_7 : decode cX11_refuseNegativeOrder 7 = .ok (.dup, 1) := by decide +kernel
theorem dX11_refuseNegativeOrder_8 : decode cX11_refuseNegativeOrder 8 = .ok (.ldc_w 316, 3) := by decide +kernel
theorem dX11_refuseNegativeOrder_11 : decode cX11_refuseNegativeOrder 11 = .ok (.invokespecial 54, 3) := by decide +kernel
theorem dX11_refuseNegativeOrder_14 : decode cX11_refuseNegativeOrder 14 = .ok (.athrow, 1) := by decide +kernel
theorem dX11_refuseNegativeOrder_15 : decode cX11_refuseNegativeOrder 15 = .ok (.return_, 1) := by decide +kernel
theorem dX11_kindOf_0 : decode cX11_kindOf 0 = .ok (.aload_n 0, 1) := by decide +kernel
theorem dX11_kindOf_1 : decode cX11_kindOf 1 = .ok (.invokevirtual 318, 3) := by decide +kernel
theorem dX11_kindOf_4 : decode cX11_kindOf 4 = .ok (.aload_n 0, 1) := by decide +kernel
theorem dX11_kindOf_5 : decode cX11_kindOf 5 = .ok (.getfield 33, 3) := by decide +kernel
theorem dX11_kindOf_8 : decode cX11_kindOf 8 = .ok (.getfield 321, 3) := by decide +kernel
theorem dX11_kindOf_11 : decode cX11_kindOf 11 = .ok (.ireturn, 1) := by decide +kernel
theorem dX11_placeOf_0 : decode cX11_placeOf 0 = .ok (.aload_n 0, 1) := by decide +kernel
theorem dX11_placeOf_1 : decode cX11_placeOf 1 = .ok (.invokevirtual 318, 3) := by decide +kernel
theorem dX11_placeOf_4 : decode cX11_placeOf 4 = .ok (.aload_n 0, 1) := by decide +kernel
theorem dX11_placeOf_5 : decode cX11_placeOf 5 = .ok (.getfield 33, 3) := by decide +kernel
theorem dX11_placeOf_8 : decode cX11_placeOf 8 = .ok (.getfield 324, 3) := by decide +kernel
theorem dX11_placeOf_11 : decode cX11_placeOf 11 = .ok (.ireturn, 1) := by decide +kernel
theorem dX11_refuseRunWithMeaning_0 : decode cX11_refuseRunWithMeaning 0 = .ok (.aload_n 0, 1) := by decide +kernel
theorem dX11_refuseRunWithMeaning_1 : decode cX11_refuseRunWithMeaning 1 = .ok (.getfield 33, 3) := by decide +kernel
theorem dX11_refuseRunWithMeaning_4 : decode cX11_refuseRunWithMeaning 4 = .ok (.getfield 302, 3) := by decide +kernel
theorem dX11_refuseRunWithMeaning_7 : decode cX11_refuseRunWithMeaning 7 = .ok (.bipush 120, 2) := by decide +kernel
theorem dX11_refuseRunWithMeaning_9 : decode cX11_refuseRunWithMeaning 9 = .ok (.if_icmp .eq 14, 3) := by decide +kernel
theorem dX11_refuseRunWithMeaning_12 : decode cX11_refuseRunWithMeaning 12 = .ok (.new 327, 3) := by decide +kernel
theorem dX11_refuseRunWithMeaning_15 : decode cX11_refuseRunWithMeaning 15 = .ok (.dup, 1) := by decide +kernel
theorem dX11_refuseRunWithMeaning_16 : decode cX11_refuseRunWithMeaning 16 = .ok (.ldc_w 329, 3) := by decide +kernel
theorem dX11_refuseRunWithMeaning_19 : decode cX11_refuseRunWithMeaning 19 = .ok (.invokespecial 331, 3) := by decide +kernel
theorem dX11_refuseRunWithMeaning_22 : decode cX11_refuseRunWithMeaning 22 = .ok (.athrow, 1) := by decide +kernel
theorem dX11_refuseRunWithMeaning_23 : decode cX11_refuseRunWithMeaning 23 = .ok (.return_, 1) := by decide +kernel
theorem dX11_steps_0 : decode cX11_steps 0 = .ok (.aload_n 0, 1) := by decide +kernel
theorem dX11_steps_1 : decode cX11_steps 1 = .ok (.getfield 33, 3) := by decide +kernel
theorem dX11_steps_4 : decode cX11_steps 4 = .ok (.getfield 299, 3) := by decide +kernel
theorem dX11_steps_7 : decode cX11_steps 7 = .ok (.ireturn, 1) := by decide +kernel
theorem dX11_choices_0 : decode cX11_choices 0 = .ok (.aload_n 0, 1) := by decide +kernel
theorem dX11_choices_1 : decode cX11_choices 1 = .ok (.getfield 33, 3) := by decide +kernel
theorem dX11_choices_4 : decode cX11_choices 4 = .ok (.getfield 332, 3) := by decide +kernel
theorem dX11_choices_7 : decode cX11_choices 7 = .ok (.ireturn, 1) := by decide +kernel
theorem dX11_printed_0 : decode cX11_printed 0 = .ok (.aload_n 0, 1) := by decide +kernel
theorem dX11_printed_1 : decode cX11_printed 1 = .ok (.getfield 33, 3) := by decide +kernel
theorem dX11_printed_4 : decode cX11_printed 4 = .ok (.getfield 335, 3) := by decide +kernel
theorem dX11_printed_7 : decode cX11_printed 7 = .ok (.ireturn, 1) := by decide +kernel
theorem dX11_printedAt_0 : decode cX11_printedAt 0 = .ok (.iload_n 1, 1) := by decide +kernel
theorem dX11_printedAt_1 : decode cX11_printedAt 1 = .ok (.ifCond .lt 14, 3) := by decide +kernel
theorem dX11_printedAt_4 : decode cX11_printedAt 4 = .ok (.iload_n 1, 1) := by decide +kernel
theorem dX11_printedAt_5 : decode cX11_printedAt 5 = .ok (.aload_n 0, 1) := by decide +kernel
theorem dX11_printedAt_6 : decode cX11_printedAt 6 = .ok (.getfield 33, 3) := by decide +kernel
theorem dX11_printedAt_9 : decode cX11_printedAt 9 = .ok (.getfield 335, 3) := by decide +kernel
theorem dX11_printedAt_12 : decode cX11_printedAt 12 = .ok (.if_icmp .lt 14, 3) := by decide +kernel
theorem dX11_printedAt_15 : decode cX11_printedAt 15 = .ok (.new 86, 3) := by decide +kernel
theorem dX11_printedAt_18 : decode cX11_printedAt 18 = .ok (.dup, 1) := by decide +kernel
theorem dX11_printedAt_19 : decode cX11_printedAt 19 = .ok (.ldc_w 338, 3) := by decide +kernel
theorem dX11_printedAt_22 : decode cX11_printedAt 22 = .ok (.invokespecial 90, 3) := by decide +kernel
theorem dX11_printedAt_25 : decode cX11_printedAt 25 = .ok (.athrow, 1) := by decide +kernel
theorem dX11_printedAt_26 : decode cX11_printedAt 26 = .ok (.aload_n 0, 1) := by decide +kernel
theorem dX11_printedAt_27 : decode cX11_printedAt 27 = .ok (.getfield 33, 3) := by decide +kernel
theorem dX11_printedAt_30 : decode cX11_printedAt 30 = .ok (.getfield 340, 3) := by decide +kernel
theorem dX11_printedAt_33 : decode cX11_printedAt 33 = .ok (.iload_n 1, 1) := by decide +kernel
theorem dX11_printedAt_34 : decode cX11_printedAt 34 = .ok (.caload, 1) := by decide +kernel
theorem dX11_printedAt_35 : decode cX11_printedAt 35 = .ok (.ireturn, 1) := by decide +kernel
theorem dX11_behaviours_0 : decode cX11_behaviours 0 = .ok (.aload_n 0, 1) := by decide +kernel
theorem dX11_behaviours_1 : decode cX11_behaviours 1 = .ok (.invokevirtual 281, 3) := by decide +kernel
theorem dX11_behaviours_4 : decode cX11_behaviours 4 = .ok (.aload_n 0, 1) := by decide +kernel
theorem dX11_behaviours_5 : decode cX11_behaviours 5 = .ok (.invokevirtual 344, 3) := by decide +kernel
theorem dX11_behaviours_8 : decode cX11_behaviours 8 = .ok (.pop, 1) := by decide +kernel
theorem dX11_behaviours_9 : decode cX11_behaviours 9 = .ok (.iconst 0, 1) := by decide +kernel
theorem dX11_behaviours_10 : decode cX11_behaviours 10 = .ok (.istore_n 1, 1) := by decide +kernel
theorem dX11_behaviours_11 : decode cX11_behaviours 11 = .ok (.iconst 0, 1) := by decide +kernel
theorem dX11_behaviours_12 : decode cX11_behaviours 12 = .ok (.istore_n 2, 1) := by decide +kernel
theorem dX11_behaviours_13 : decode cX11_behaviours 13 = .ok (.iload_n 2, 1) := by decide +kernel
theorem dX11_behaviours_14 : decode cX11_behaviours 14 = .ok (.bipush 16, 2) := by decide +kernel
theorem dX11_behaviours_16 : decode cX11_behaviours 16 = .ok (.if_icmp .ge 26, 3) := by decide +kernel
theorem dX11_behaviours_19 : decode cX11_behaviours 19 = .ok (.aload_n 0, 1) := by decide +kernel
theorem dX11_behaviours_20 : decode cX11_behaviours 20 = .ok (.iload_n 2, 1) := by decide +kernel
theorem dX11_behaviours_21 : decode cX11_behaviours 21 = .ok (.aload_n 0, 1) := by decide +kernel
theorem dX11_behaviours_22 : decode cX11_behaviours 22 = .ok (.getfield 40, 3) := by decide +kernel
theorem dX11_behaviours_25 : decode cX11_behaviours 25 = .ok (.iload_n 2, 1) := by decide +kernel
theorem dX11_behaviours_26 : decode cX11_behaviours 26 = .ok (.aaload, 1) := by decide +kernel
theorem dX11_behaviours_27 : decode cX11_behaviours 27 = .ok (.invokevirtual 347, 3) := by decide +kernel
theorem dX11_behaviours_30 : decode cX11_behaviours 30 = .ok (.ifCond .ne 6, 3) := by decide +kernel
theorem dX11_behaviours_33 : decode cX11_behaviours 33 = .ok (.iinc 1 1, 3) := by decide +kernel
theorem dX11_behaviours_36 : decode cX11_behaviours 36 = .ok (.iinc 2 1, 3) := by decide +kernel
theorem dX11_behaviours_39 : decode cX11_behaviours 39 = .ok (.goto (-26), 3) := by decide +kernel
theorem dX11_behaviours_42 : decode cX11_behaviours 42 = .ok (.iload_n 1, 1) := by decide +kernel
theorem dX11_behaviours_43 : decode cX11_behaviours 43 = .ok (.ireturn, 1) := by decide +kernel
theorem dX11_undefinedOrders_0 : decode cX11_undefinedOrders 0 = .ok (.aload_n 0, 1) := by decide +kernel
theorem dX11_undefinedOrders_1 : decode cX11_undefinedOrders 1 = .ok (.invokevirtual 281, 3) := by decide +kernel
theorem dX11_undefinedOrders_4 : decode cX11_undefinedOrders 4 = .ok (.aload_n 0, 1) := by decide +kernel
theorem dX11_undefinedOrders_5 : decode cX11_undefinedOrders 5 = .ok (.invokevirtual 344, 3) := by decide +kernel
theorem dX11_undefinedOrders_8 : decode cX11_undefinedOrders 8 = .ok (.ireturn, 1) := by decide +kernel
theorem dX11_isAsIf_0 : decode cX11_isAsIf 0 = .ok (.aload_n 0, 1) := by decide +kernel
theorem dX11_isAsIf_1 : decode cX11_isAsIf 1 = .ok (.invokevirtual 281, 3) := by decide +kernel
theorem dX11_isAsIf_4 : decode cX11_isAsIf 4 = .ok (.aload_n 0, 1) := by decide +kernel
theorem dX11_isAsIf_5 : decode cX11_isAsIf 5 = .ok (.invokevirtual 344, 3) := by decide +kernel
theorem dX11_isAsIf_8 : decode cX11_isAsIf 8 = .ok (.ifCond .le 5, 3) := by decide +kernel
theorem dX11_isAsIf_11 : decode cX11_isAsIf 11 = .ok (.iconst 1, 1) := by decide +kernel
theorem dX11_isAsIf_12 : decode cX11_isAsIf 12 = .ok (.ireturn, 1) := by decide +kernel
theorem dX11_isAsIf_13 : decode cX11_isAsIf 13 = .ok (.aload_n 0, 1) := by decide +kernel
theorem dX11_isAsIf_14 : decode cX11_isAsIf 14 = .ok (.getfield 19, 3) := by decide +kernel
theorem dX11_isAsIf_17 : decode cX11_isAsIf 17 = .ok (.aload_n 0, 1) := by decide +kernel
theorem dX11_isAsIf_18 : decode cX11_isAsIf 18 = .ok (.getfield 10, 3) := by decide +kernel
theorem dX11_isAsIf_21 : decode cX11_isAsIf 21 = .ok (.invokevirtual 306, 3) := by decide +kernel
theorem dX11_isAsIf_24 : decode cX11_isAsIf 24 = .ok (.iconst 0, 1) := by decide +kernel
theorem dX11_isAsIf_25 : decode cX11_isAsIf 25 = .ok (.istore_n 1, 1) := by decide +kernel
theorem dX11_isAsIf_26 : decode cX11_isAsIf 26 = .ok (.iload_n 1, 1) := by decide +kernel
theorem dX11_isAsIf_27 : decode cX11_isAsIf 27 = .ok (.bipush 16, 2) := by decide +kernel
theorem dX11_isAsIf_29 : decode cX11_isAsIf 29 = .ok (.if_icmp .ge 47, 3) := by decide +kernel
theorem dX11_isAsIf_32 : decode cX11_isAsIf 32 = .ok (.aload_n 0, 1) := by decide +kernel
theorem dX11_isAsIf_33 : decode cX11_isAsIf 33 = .ok (.getfield 26, 3) := by decide +kernel
theorem dX11_isAsIf_36 : decode cX11_isAsIf 36 = .ok (.aload_n 0, 1) := by decide +kernel
theorem dX11_isAsIf_37 : decode cX11_isAsIf 37 = .ok (.getfield 10, 3) := by decide +kernel
theorem dX11_isAsIf_40 : decode cX11_isAsIf 40 = .ok (.aload_n 0, 1) := by decide +kernel
theorem dX11_isAsIf_41 : decode cX11_isAsIf 41 = .ok (.getfield 19, 3) := by decide +kernel
theorem dX11_isAsIf_44 : decode cX11_isAsIf 44 = .ok (.getfield 310, 3) := by decide +kernel
theorem dX11_isAsIf_47 : decode cX11_isAsIf 47 = .ok (.iload_n 1, 1) := by decide +kernel
theorem dX11_isAsIf_48 : decode cX11_isAsIf 48 = .ok (.aload_n 0, 1) := by decide +kernel
theorem dX11_isAsIf_49 : decode cX11_isAsIf 49 = .ok (.getfield 37, 3) := by decide +kernel
theorem dX11_isAsIf_52 : decode cX11_isAsIf 52 = .ok (.invokevirtual 292, 3) := by decide +kernel
theorem dX11_isAsIf_55 : decode cX11_isAsIf 55 = .ok (.aload_n 0, 1) := by decide +kernel
theorem dX11_isAsIf_56 : decode cX11_isAsIf 56 = .ok (.bipush 16, 2) := by decide +kernel
theorem dX11_isAsIf_58 : decode cX11_isAsIf 58 = .ok (.aload_n 0, 1) := by decide +kernel
theorem dX11_isAsIf_59 : decode cX11_isAsIf 59 = .ok (.getfield 37, 3) := by decide +kernel
theorem dX11_isAsIf_62 : decode cX11_isAsIf 62 = .ok (.invokevirtual 347, 3) := by decide +kernel
theorem dX11_isAsIf_65 : decode cX11_isAsIf 65 = .ok (.ifCond .ne 5, 3) := by decide +kernel
theorem dX11_isAsIf_68 : decode cX11_isAsIf 68 = .ok (.iconst 0, 1) := by decide +kernel
theorem dX11_isAsIf_69 : decode cX11_isAsIf 69 = .ok (.ireturn, 1) := by decide +kernel
theorem dX11_isAsIf_70 : decode cX11_isAsIf 70 = .ok (.iinc 1 1, 3) := by decide +kernel
theorem dX11_isAsIf_73 : decode cX11_isAsIf 73 = .ok (.goto (-47), 3) := by decide +kernel
theorem dX11_isAsIf_76 : decode cX11_isAsIf 76 = .ok (.iconst 1, 1) := by decide +kernel
theorem dX11_isAsIf_77 : decode cX11_isAsIf 77 = .ok (.ireturn, 1) := by decide +kernel
theorem dX11_allSteps_0 : decode cX11_allSteps 0 = .ok (.aload_n 0, 1) := by decide +kernel
theorem dX11_allSteps_1 : decode cX11_allSteps 1 = .ok (.getfield 296, 3) := by decide +kernel
theorem dX11_allSteps_4 : decode cX11_allSteps 4 = .ok (.lreturn, 1) := by decide +kernel
theorem dX11_gatherOutcomes_0 : decode cX11_gatherOutcomes 0 = .ok (.iconst 0, 1) := by decide +kernel
theorem dX11_gatherOutcomes_1 : decode cX11_gatherOutcomes 1 = .ok (.istore_n 1, 1) := by decide +kernel
theorem dX11_gatherOutcomes_2 : decode cX11_gatherOutcomes 2 = .ok (.iconst 0, 1) := by decide +kernel
theorem dX11_gatherOutcomes_3 : decode cX11_gatherOutcomes 3 = .ok (.istore_n 2, 1) := by decide +kernel
theorem dX11_gatherOutcomes_4 : decode cX11_gatherOutcomes 4 = .ok (.iload_n 2, 1) := by decide +kernel
theorem dX11_gatherOutcomes_5 : decode cX11_gatherOutcomes 5 = .ok (.bipush 16, 2) := by decide +kernel
theorem dX11_gatherOutcomes_7 : decode cX11_gatherOutcomes 7 = .ok (.if_icmp .ge 85, 3) := by decide +kernel
theorem dX11_gatherOutcomes_10 : decode cX11_gatherOutcomes 10 = .ok (.iload_n 2, 1) := by decide +kernel
theorem dX11_gatherOutcomes_11 : decode cX11_gatherOutcomes 11 = .ok (.ifCond .le 33, 3) := by decide +kernel
theorem dX11_gatherOutcomes_14 : decode cX11_gatherOutcomes 14 = .ok (.aload_n 0, 1) := by decide +kernel
theorem dX11_gatherOutcomes_15 : decode cX11_gatherOutcomes 15 = .ok (.getfield 40, 3) := by decide +kernel
theorem dX11_gatherOutcomes_18 : decode cX11_gatherOutcomes 18 = .ok (.iconst 0, 1) := by decide +kernel
theorem dX11_gatherOutcomes_19 : decode cX11_gatherOutcomes 19 = .ok (.aaload, 1) := by decide +kernel
theorem dX11_gatherOutcomes_20 : decode cX11_gatherOutcomes 20 = .ok (.getfield 332, 3) := by decide +kernel
theorem dX11_gatherOutcomes_23 : decode cX11_gatherOutcomes 23 = .ok (.ifCond .ne 21, 3) := by decide +kernel
theorem dX11_gatherOutcomes_26 : decode cX11_gatherOutcomes 26 = .ok (.aload_n 0, 1) := by decide +kernel
theorem dX11_gatherOutcomes_27 : decode cX11_gatherOutcomes 27 = .ok (.getfield 40, 3) := by decide +kernel
theorem dX11_gatherOutcomes_30 : decode cX11_gatherOutcomes 30 = .ok (.iload_n 2, 1) := by decide +kernel
theorem dX11_gatherOutcomes_31 : decode cX11_gatherOutcomes 31 = .ok (.aaload, 1) := by decide +kernel
theorem dX11_gatherOutcomes_32 : decode cX11_gatherOutcomes 32 = .ok (.aload_n 0, 1) := by decide +kernel
theorem dX11_gatherOutcomes_33 : decode cX11_gatherOutcomes 33 = .ok (.getfield 40, 3) := by decide +kernel
theorem dX11_gatherOutcomes_36 : decode cX11_gatherOutcomes 36 = .ok (.iconst 0, 1) := by decide +kernel
theorem dX11_gatherOutcomes_37 : decode cX11_gatherOutcomes 37 = .ok (.aaload, 1) := by decide +kernel
theorem dX11_gatherOutcomes_38 : decode cX11_gatherOutcomes 38 = .ok (.invokevirtual 356, 3) := by decide +kernel
theorem dX11_gatherOutcomes_41 : decode cX11_gatherOutcomes 41 = .ok (.goto 28, 3) := by decide +kernel
theorem dX11_gatherOutcomes_44 : decode cX11_gatherOutcomes 44 = .ok (.aload_n 0, 1) := by decide +kernel
theorem dX11_gatherOutcomes_45 : decode cX11_gatherOutcomes 45 = .ok (.getfield 26, 3) := by decide +kernel
theorem dX11_gatherOutcomes_48 : decode cX11_gatherOutcomes 48 = .ok (.aload_n 0, 1) := by decide +kernel
theorem dX11_gatherOutcomes_49 : decode cX11_gatherOutcomes 49 = .ok (.getfield 10, 3) := by decide +kernel
theorem dX11_gatherOutcomes_52 : decode cX11_gatherOutcomes 52 = .ok (.aload_n 0, 1) := by decide +kernel
theorem dX11_gatherOutcomes_53 : decode cX11_gatherOutcomes 53 = .ok (.getfield 10, 3) := by decide +kernel
theorem dX11_gatherOutcomes_56 : decode cX11_gatherOutcomes 56 = .ok (.getfield 288, 3) := by decide +kernel
theorem dX11_gatherOutcomes_59 : decode cX11_gatherOutcomes 59 = .ok (.iload_n 2, 1) := by decide +kernel
theorem dX11_gatherOutcomes_60 : decode cX11_gatherOutcomes 60 = .ok (.aload_n 0, 1) := by decide +kernel
theorem dX11_gatherOutcomes_61 : decode cX11_gatherOutcomes 61 = .ok (.getfield 40, 3) := by decide +kernel
theorem dX11_gatherOutcomes_64 : decode cX11_gatherOutcomes 64 = .ok (.iload_n 2, 1) := by decide +kernel
theorem dX11_gatherOutcomes_65 : decode cX11_gatherOutcomes 65 = .ok (.aaload, 1) := by decide +kernel
theorem dX11_gatherOutcomes_66 : decode cX11_gatherOutcomes 66 = .ok (.invokevirtual 292, 3) := by decide +kernel
theorem dX11_gatherOutcomes_69 : decode cX11_gatherOutcomes 69 = .ok (.aload_n 0, 1) := by decide +kernel
theorem dX11_gatherOutcomes_70 : decode cX11_gatherOutcomes 70 = .ok (.getfield 40, 3) := by decide +kernel
theorem dX11_gatherOutcomes_73 : decode cX11_gatherOutcomes 73 = .ok (.iload_n 2, 1) := by decide +kernel
theorem dX11_gatherOutcomes_74 : decode cX11_gatherOutcomes 74 = .ok (.aaload, 1) := by decide +kernel
theorem dX11_gatherOutcomes_75 : decode cX11_gatherOutcomes 75 = .ok (.getfield 302, 3) := by decide +kernel
theorem dX11_gatherOutcomes_78 : decode cX11_gatherOutcomes 78 = .ok (.bipush 120, 2) := by decide +kernel
theorem dX11_gatherOutcomes_80 : decode cX11_gatherOutcomes 80 = .ok (.if_icmp .ne 6, 3) := by decide +kernel
theorem dX11_gatherOutcomes_83 : decode cX11_gatherOutcomes 83 = .ok (.iinc 1 1, 3) := by decide +kernel
theorem dX11_gatherOutcomes_86 : decode cX11_gatherOutcomes 86 = .ok (.iinc 2 1, 3) := by decide +kernel
theorem dX11_gatherOutcomes_89 : decode cX11_gatherOutcomes 89 = .ok (.goto (-85), 3) := by decide +kernel
theorem dX11_gatherOutcomes_92 : decode cX11_gatherOutcomes 92 = .ok (.iload_n 1, 1) := by decide +kernel
theorem dX11_gatherOutcomes_93 : decode cX11_gatherOutcomes 93 = .ok (.ireturn, 1) := by decide +kernel
theorem dX11_isAmongFirst_0 : decode cX11_isAmongFirst 0 = .ok (.iconst 0, 1) := by decide +kernel
theorem dX11_isAmongFirst_1 : decode cX11_isAmongFirst 1 = .ok (.istore_n 3, 1) := by decide +kernel
theorem dX11_isAmongFirst_2 : decode cX11_isAmongFirst 2 = .ok (.iload_n 3, 1) := by decide +kernel
theorem dX11_isAmongFirst_3 : decode cX11_isAmongFirst 3 = .ok (.iload_n 1, 1) := by decide +kernel
theorem dX11_isAmongFirst_4 : decode cX11_isAmongFirst 4 = .ok (.if_icmp .ge 30, 3) := by decide +kernel
theorem dX11_isAmongFirst_7 : decode cX11_isAmongFirst 7 = .ok (.iload_n 3, 1) := by decide +kernel
theorem dX11_isAmongFirst_8 : decode cX11_isAmongFirst 8 = .ok (.bipush 16, 2) := by decide +kernel
theorem dX11_isAmongFirst_10 : decode cX11_isAmongFirst 10 = .ok (.if_icmp .ge 24, 3) := by decide +kernel
theorem dX11_isAmongFirst_13 : decode cX11_isAmongFirst 13 = .ok (.aload_n 0, 1) := by decide +kernel
theorem dX11_isAmongFirst_14 : decode cX11_isAmongFirst 14 = .ok (.getfield 40, 3) := by decide +kernel
theorem dX11_isAmongFirst_17 : decode cX11_isAmongFirst 17 = .ok (.iload_n 3, 1) := by decide +kernel
theorem dX11_isAmongFirst_18 : decode cX11_isAmongFirst 18 = .ok (.aaload, 1) := by decide +kernel
theorem dX11_isAmongFirst_19 : decode cX11_isAmongFirst 19 = .ok (.aload_n 2, 1) := by decide +kernel
theorem dX11_isAmongFirst_20 : decode cX11_isAmongFirst 20 = .ok (.invokevirtual 360, 3) := by decide +kernel
theorem dX11_isAmongFirst_23 : decode cX11_isAmongFirst 23 = .ok (.ifCond .eq 5, 3) := by decide +kernel
theorem dX11_isAmongFirst_26 : decode cX11_isAmongFirst 26 = .ok (.iconst 1, 1) := by decide +kernel
theorem dX11_isAmongFirst_27 : decode cX11_isAmongFirst 27 = .ok (.ireturn, 1) := by decide +kernel
theorem dX11_isAmongFirst_28 : decode cX11_isAmongFirst 28 = .ok (.iinc 3 1, 3) := by decide +kernel
theorem dX11_isAmongFirst_31 : decode cX11_isAmongFirst 31 = .ok (.goto (-29), 3) := by decide +kernel
theorem dX11_isAmongFirst_34 : decode cX11_isAmongFirst 34 = .ok (.iconst 0, 1) := by decide +kernel
theorem dX11_isAmongFirst_35 : decode cX11_isAmongFirst 35 = .ok (.ireturn, 1) := by decide +kernel
theorem dX12_init_0 : decode cX12_init 0 = .ok (.aload_n 0, 1) := by decide +kernel
theorem dX12_init_1 : decode cX12_init 1 = .ok (.invokespecial 1, 3) := by decide +kernel
theorem dX12_init_4 : decode cX12_init 4 = .ok (.aload_n 0, 1) := by decide +kernel
theorem dX12_init_5 : decode cX12_init 5 = .ok (.iload_n 1, 1) := by decide +kernel
theorem dX12_init_6 : decode cX12_init 6 = .ok (.putfield 7, 3) := by decide +kernel
theorem dX12_init_9 : decode cX12_init 9 = .ok (.aload_n 0, 1) := by decide +kernel
theorem dX12_init_10 : decode cX12_init 10 = .ok (.iload_n 2, 1) := by decide +kernel
theorem dX12_init_11 : decode cX12_init 11 = .ok (.putfield 13, 3) := by decide +kernel
theorem dX12_init_14 : decode cX12_init 14 = .ok (.return_, 1) := by decide +kernel
theorem dJ5_init_d00df_0 : decode cJ5_init_d00df 0 = .ok (.aload_n 0, 1) := by decide +kernel
theorem dJ5_init_d00df_1 : decode cJ5_init_d00df 1 = .ok (.invokespecial 3, 3) := by decide +kernel
theorem dJ5_init_d00df_4 : decode cJ5_init_d00df 4 = .ok (.getstatic 18, 3) := by decide +kernel
theorem dJ5_init_d00df_7 : decode cJ5_init_d00df 7 = .ok (.ifCond .eq 18, 3) := by decide +kernel
theorem dJ5_init_d00df_10 : decode cJ5_init_d00df 10 = .ok (.aload_n 0, 1) := by decide +kernel
theorem dJ5_init_d00df_11 : decode cJ5_init_d00df 11 = .ok (.iload_n 1, 1) := by decide +kernel
theorem dJ5_init_d00df_12 : decode cJ5_init_d00df 12 = .ok (.newarray .byte, 2) := by decide +kernel
theorem dJ5_init_d00df_14 : decode cJ5_init_d00df 14 = .ok (.putfield 15, 3) := by decide +kernel
theorem dJ5_init_d00df_17 : decode cJ5_init_d00df 17 = .ok (.aload_n 0, 1) := by decide +kernel
theorem dJ5_init_d00df_18 : decode cJ5_init_d00df 18 = .ok (.iconst 0, 1) := by decide +kernel
theorem dJ5_init_d00df_19 : decode cJ5_init_d00df 19 = .ok (.putfield 22, 3) := by decide +kernel
theorem dJ5_init_d00df_22 : decode cJ5_init_d00df 22 = .ok (.goto 16, 3) := by decide +kernel
theorem dJ5_init_d00df_25 : decode cJ5_init_d00df 25 = .ok (.aload_n 0, 1) := by decide +kernel
theorem dJ5_init_d00df_26 : decode cJ5_init_d00df 26 = .ok (.iload_n 1, 1) := by decide +kernel
theorem dJ5_init_d00df_27 : decode cJ5_init_d00df 27 = .ok (.invokestatic 26, 3) := by decide +kernel
theorem dJ5_init_d00df_30 : decode cJ5_init_d00df 30 = .ok (.putfield 15, 3) := by decide +kernel
theorem dJ5_init_d00df_33 : decode cJ5_init_d00df 33 = .ok (.aload_n 0, 1) := by decide +kernel
theorem dJ5_init_d00df_34 : decode cJ5_init_d00df 34 = .ok (.iconst 1, 1) := by decide +kernel
theorem dJ5_init_d00df_35 : decode cJ5_init_d00df 35 = .ok (.putfield 22, 3) := by decide +kernel
theorem dJ5_init_d00df_38 : decode cJ5_init_d00df 38 = .ok (.return_, 1) := by decide +kernel
theorem dJ5_length_8abf5_0 : decode cJ5_length_8abf5 0 = .ok (.aload_n 0, 1) := by decide +kernel
theorem dJ5_length_8abf5_1 : decode cJ5_length_8abf5 1 = .ok (.getfield 79, 3) := by decide +kernel
theorem dJ5_length_8abf5_4 : decode cJ5_length_8abf5 4 = .ok (.ireturn, 1) := by decide +kernel
theorem dJ5_ensureCapacityInternal_d00df_0 : decode cJ5_ensureCapacityInternal_d00df 0 = .ok (.aload_n 0, 1) := by decide +kernel
theorem dJ5_ensureCapacityInternal_d00df_1 : decode cJ5_ensureCapacityInternal_d00df 1 = .ok (.getfield 15, 3) := by decide +kernel
theorem dJ5_ensureCapacityInternal_d00df_4 : decode cJ5_ensureCapacityInternal_d00df 4 = .ok (.arraylength, 1) := by decide +kernel
theorem dJ5_ensureCapacityInternal_d00df_5 : decode cJ5_ensureCapacityInternal_d00df 5 = .ok (.aload_n 0, 1) := by decide +kernel
theorem dJ5_ensureCapacityInternal_d00df_6 : decode cJ5_ensureCapacityInternal_d00df 6 = .ok (.getfield 22, 3) := by decide +kernel
theorem dJ5_ensureCapacityInternal_d00df_9 : decode cJ5_ensureCapacityInternal_d00df 9 = .ok (.ishr, 1) := by decide +kernel
theorem dJ5_ensureCapacityInternal_d00df_10 : decode cJ5_ensureCapacityInternal_d00df 10 = .ok (.istore_n 2, 1) := by decide +kernel
theorem dJ5_ensureCapacityInternal_d00df_11 : decode cJ5_ensureCapacityInternal_d00df 11 = .ok (.iload_n 1, 1) := by decide +kernel
theorem dJ5_ensureCapacityInternal_d00df_12 : decode cJ5_ensureCapacityInternal_d00df 12 = .ok (.iload_n 2, 1) := by decide +kernel
theorem dJ5_ensureCapacityInternal_d00df_13 : decode cJ5_ensureCapacityInternal_d00df 13 = .ok (.isub, 1) := by decide +kernel
theorem dJ5_ensureCapacityInternal_d00df_14 : decode cJ5_ensureCapacityInternal_d00df 14 = .ok (.ifCond .le 24, 3) := by decide +kernel
theorem dJ5_ensureCapacityInternal_d00df_17 : decode cJ5_ensureCapacityInternal_d00df 17 = .ok (.aload_n 0, 1) := by decide +kernel
theorem dJ5_ensureCapacityInternal_d00df_18 : decode cJ5_ensureCapacityInternal_d00df 18 = .ok (.aload_n 0, 1) := by decide +kernel
theorem dJ5_ensureCapacityInternal_d00df_19 : decode cJ5_ensureCapacityInternal_d00df 19 = .ok (.getfield 15, 3) := by decide +kernel
theorem dJ5_ensureCapacityInternal_d00df_22 : decode cJ5_ensureCapacityInternal_d00df 22 = .ok (.aload_n 0, 1) := by decide +kernel
theorem dJ5_ensureCapacityInternal_d00df_23 : decode cJ5_ensureCapacityInternal_d00df 23 = .ok (.iload_n 1, 1) := by decide +kernel
theorem dJ5_ensureCapacityInternal_d00df_24 : decode cJ5_ensureCapacityInternal_d00df 24 = .ok (.invokevirtual 104, 3) := by decide +kernel
theorem dJ5_ensureCapacityInternal_d00df_27 : decode cJ5_ensureCapacityInternal_d00df 27 = .ok (.aload_n 0, 1) := by decide +kernel
theorem dJ5_ensureCapacityInternal_d00df_28 : decode cJ5_ensureCapacityInternal_d00df 28 = .ok (.getfield 22, 3) := by decide +kernel
theorem dJ5_ensureCapacityInternal_d00df_31 : decode cJ5_ensureCapacityInternal_d00df 31 = .ok (.ishl, 1) := by decide +kernel
theorem dJ5_ensureCapacityInternal_d00df_32 : decode cJ5_ensureCapacityInternal_d00df 32 = .ok (.invokestatic 108, 3) := by decide +kernel
theorem dJ5_ensureCapacityInternal_d00df_35 : decode cJ5_ensureCapacityInternal_d00df 35 = .ok (.putfield 15, 3) := by decide +kernel
theorem dJ5_ensureCapacityInternal_d00df_38 : decode cJ5_ensureCapacityInternal_d00df 38 = .ok (.return_, 1) := by decide +kernel
theorem dJ5_newCapacity_0f7a4_0 : decode cJ5_newCapacity_0f7a4 0 = .ok (.aload_n 0, 1) := by decide +kernel
theorem dJ5_newCapacity_0f7a4_1 : decode cJ5_newCapacity_0f7a4 1 = .ok (.getfield 15, 3) := by decide +kernel
theorem dJ5_newCapacity_0f7a4_4 : decode cJ5_newCapacity_0f7a4 4 = .ok (.arraylength, 1) := by decide +kernel
theorem dJ5_newCapacity_0f7a4_5 : decode cJ5_newCapacity_0f7a4 5 = .ok (.istore_n 2, 1) := by decide +kernel
theorem dJ5_newCapacity_0f7a4_6 : decode cJ5_newCapacity_0f7a4 6 = .ok (.iload_n 1, 1) := by decide +kernel
theorem dJ5_newCapacity_0f7a4_7 : decode cJ5_newCapacity_0f7a4 7 = .ok (.aload_n 0, 1) := by decide +kernel
theorem dJ5_newCapacity_0f7a4_8 : decode cJ5_newCapacity_0f7a4 8 = .ok (.getfield 22, 3) := by decide +kernel
theorem dJ5_newCapacity_0f7a4_11 : decode cJ5_newCapacity_0f7a4 11 = .ok (.ishl, 1) := by decide +kernel
theorem dJ5_newCapacity_0f7a4_12 : decode cJ5_newCapacity_0f7a4 12 = .ok (.istore_n 3, 1) := by decide +kernel
theorem dJ5_newCapacity_0f7a4_13 : decode cJ5_newCapacity_0f7a4 13 = .ok (.iload_n 3, 1) := by decide +kernel
theorem dJ5_newCapacity_0f7a4_14 : decode cJ5_newCapacity_0f7a4 14 = .ok (.iload_n 2, 1) := by decide +kernel
theorem dJ5_newCapacity_0f7a4_15 : decode cJ5_newCapacity_0f7a4 15 = .ok (.isub, 1) := by decide +kernel
theorem dJ5_newCapacity_0f7a4_16 : decode cJ5_newCapacity_0f7a4 16 = .ok (.istore 4, 2) := by decide +kernel
theorem dJ5_newCapacity_0f7a4_18 : decode cJ5_newCapacity_0f7a4 18 = .ok (.iload_n 2, 1) := by decide +kernel
theorem dJ5_newCapacity_0f7a4_19 : decode cJ5_newCapacity_0f7a4 19 = .ok (.iload 4, 2) := by decide +kernel
theorem dJ5_newCapacity_0f7a4_21 : decode cJ5_newCapacity_0f7a4 21 = .ok (.iload_n 2, 1) := by decide +kernel
theorem dJ5_newCapacity_0f7a4_22 : decode cJ5_newCapacity_0f7a4 22 = .ok (.iconst 2, 1) := by decide +kernel
theorem dJ5_newCapacity_0f7a4_23 : decode cJ5_newCapacity_0f7a4 23 = .ok (.aload_n 0, 1) := by decide +kernel
theorem dJ5_newCapacity_0f7a4_24 : decode cJ5_newCapacity_0f7a4 24 = .ok (.getfield 22, 3) := by decide +kernel
theorem dJ5_newCapacity_0f7a4_27 : decode cJ5_newCapacity_0f7a4 27 = .ok (.ishl, 1) := by decide +kernel
theorem dJ5_newCapacity_0f7a4_28 : decode cJ5_newCapacity_0f7a4 28 = .ok (.iadd, 1) := by decide +kernel
theorem dJ5_newCapacity_0f7a4_29 : decode cJ5_newCapacity_0f7a4 29 = .ok (.invokestatic 114, 3) := by decide +kernel
theorem dJ5_newCapacity_0f7a4_32 : decode cJ5_newCapacity_0f7a4 32 = .ok (.istore 5, 2) := by decide +kernel
theorem dJ5_newCapacity_0f7a4_34 : decode cJ5_newCapacity_0f7a4 34 = .ok (.iload 5, 2) := by decide +kernel
theorem dJ5_newCapacity_0f7a4_36 : decode cJ5_newCapacity_0f7a4 36 = .ok (.ldc 39, 2) := by decide +kernel
theorem dJ5_newCapacity_0f7a4_38 : decode cJ5_newCapacity_0f7a4 38 = .ok (.if_icmp .ne 13, 3) := by decide +kernel
theorem dJ5_newCapacity_0f7a4_41 : decode cJ5_newCapacity_0f7a4 41 = .ok (.new 120, 3) := by decide +kernel
theorem dJ5_newCapacity_0f7a4_44 : decode cJ5_newCapacity_0f7a4 44 = .ok (.dup, 1) := by decide +kernel
theorem dJ5_newCapacity_0f7a4_45 : decode cJ5_newCapacity_0f7a4 45 = .ok (.ldc 122, 2) := by decide +kernel
theorem dJ5_newCapacity_0f7a4_47 : decode cJ5_newCapacity_0f7a4 47 = .ok (.invokespecial 124, 3) := by decide +kernel
theorem dJ5_newCapacity_0f7a4_50 : decode cJ5_newCapacity_0f7a4 50 = .ok (.athrow, 1) := by decide +kernel
theorem dJ5_newCapacity_0f7a4_51 : decode cJ5_newCapacity_0f7a4 51 = .ok (.iload 5, 2) := by decide +kernel
theorem dJ5_newCapacity_0f7a4_53 : decode cJ5_newCapacity_0f7a4 53 = .ok (.aload_n 0, 1) := by decide +kernel
theorem dJ5_newCapacity_0f7a4_54 : decode cJ5_newCapacity_0f7a4 54 = .ok (.getfield 22, 3) := by decide +kernel
theorem dJ5_newCapacity_0f7a4_57 : decode cJ5_newCapacity_0f7a4 57 = .ok (.ishr, 1) := by decide +kernel
theorem dJ5_newCapacity_0f7a4_58 : decode cJ5_newCapacity_0f7a4 58 = .ok (.ireturn, 1) := by decide +kernel
theorem dJ5_inflate_da8c8_0 : decode cJ5_inflate_da8c8 0 = .ok (.aload_n 0, 1) := by decide +kernel
theorem dJ5_inflate_da8c8_1 : decode cJ5_inflate_da8c8 1 = .ok (.invokevirtual 83, 3) := by decide +kernel
theorem dJ5_inflate_da8c8_4 : decode cJ5_inflate_da8c8 4 = .ok (.ifCond .ne 4, 3) := by decide +kernel
theorem dJ5_inflate_da8c8_7 : decode cJ5_inflate_da8c8 7 = .ok (.return_, 1) := by decide +kernel
theorem dJ5_inflate_da8c8_8 : decode cJ5_inflate_da8c8 8 = .ok (.aload_n 0, 1) := by decide +kernel
theorem dJ5_inflate_da8c8_9 : decode cJ5_inflate_da8c8 9 = .ok (.getfield 15, 3) := by decide +kernel
theorem dJ5_inflate_da8c8_12 : decode cJ5_inflate_da8c8 12 = .ok (.arraylength, 1) := by decide +kernel
theorem dJ5_inflate_da8c8_13 : decode cJ5_inflate_da8c8 13 = .ok (.invokestatic 26, 3) := by decide +kernel
theorem dJ5_inflate_da8c8_16 : decode cJ5_inflate_da8c8 16 = .ok (.astore_n 1, 1) := by decide +kernel
theorem dJ5_inflate_da8c8_17 : decode cJ5_inflate_da8c8 17 = .ok (.aload_n 0, 1) := by decide +kernel
theorem dJ5_inflate_da8c8_18 : decode cJ5_inflate_da8c8 18 = .ok (.getfield 15, 3) := by decide +kernel
theorem dJ5_inflate_da8c8_21 : decode cJ5_inflate_da8c8 21 = .ok (.iconst 0, 1) := by decide +kernel
theorem dJ5_inflate_da8c8_22 : decode cJ5_inflate_da8c8 22 = .ok (.aload_n 1, 1) := by decide +kernel
theorem dJ5_inflate_da8c8_23 : decode cJ5_inflate_da8c8 23 = .ok (.iconst 0, 1) := by decide +kernel
theorem dJ5_inflate_da8c8_24 : decode cJ5_inflate_da8c8 24 = .ok (.aload_n 0, 1) := by decide +kernel
theorem dJ5_inflate_da8c8_25 : decode cJ5_inflate_da8c8 25 = .ok (.getfield 79, 3) := by decide +kernel
theorem dJ5_inflate_da8c8_28 : decode cJ5_inflate_da8c8 28 = .ok (.invokestatic 125, 3) := by decide +kernel
theorem dJ5_inflate_da8c8_31 : decode cJ5_inflate_da8c8 31 = .ok (.aload_n 0, 1) := by decide +kernel
theorem dJ5_inflate_da8c8_32 : decode cJ5_inflate_da8c8 32 = .ok (.aload_n 1, 1) := by decide +kernel
theorem dJ5_inflate_da8c8_33 : decode cJ5_inflate_da8c8 33 = .ok (.putfield 15, 3) := by decide +kernel
theorem dJ5_inflate_da8c8_36 : decode cJ5_inflate_da8c8 36 = .ok (.aload_n 0, 1) := by decide +kernel
theorem dJ5_inflate_da8c8_37 : decode cJ5_inflate_da8c8 37 = .ok (.iconst 1, 1) := by decide +kernel
theorem dJ5_inflate_da8c8_38 : decode cJ5_inflate_da8c8 38 = .ok (.putfield 22, 3) := by decide +kernel
theorem dJ5_inflate_da8c8_41 : decode cJ5_inflate_da8c8 41 = .ok (.return_, 1) := by decide +kernel
theorem dJ5_charAt_5068e_0 : decode cJ5_charAt_5068e 0 = .ok (.aload_n 0, 1) := by decide +kernel
theorem dJ5_charAt_5068e_1 : decode cJ5_charAt_5068e 1 = .ok (.getfield 22, 3) := by decide +kernel
theorem dJ5_charAt_5068e_4 : decode cJ5_charAt_5068e 4 = .ok (.istore_n 2, 1) := by decide +kernel
theorem dJ5_charAt_5068e_5 : decode cJ5_charAt_5068e 5 = .ok (.aload_n 0, 1) := by decide +kernel
theorem dJ5_charAt_5068e_6 : decode cJ5_charAt_5068e 6 = .ok (.getfield 15, 3) := by decide +kernel
theorem dJ5_charAt_5068e_9 : decode cJ5_charAt_5068e 9 = .ok (.astore_n 3, 1) := by decide +kernel
theorem dJ5_charAt_5068e_10 : decode cJ5_charAt_5068e 10 = .ok (.aload_n 0, 1) := by decide +kernel
theorem dJ5_charAt_5068e_11 : decode cJ5_charAt_5068e 11 = .ok (.getfield 79, 3) := by decide +kernel
theorem dJ5_charAt_5068e_14 : decode cJ5_charAt_5068e 14 = .ok (.aload_n 3, 1) := by decide +kernel
theorem dJ5_charAt_5068e_15 : decode cJ5_charAt_5068e 15 = .ok (.arraylength, 1) := by decide +kernel
theorem dJ5_charAt_5068e_16 : decode cJ5_charAt_5068e 16 = .ok (.iload_n 2, 1) := by decide +kernel
theorem dJ5_charAt_5068e_17 : decode cJ5_charAt_5068e 17 = .ok (.ishr, 1) := by decide +kernel
theorem dJ5_charAt_5068e_18 : decode cJ5_charAt_5068e 18 = .ok (.invokestatic 138, 3) := by decide +kernel
theorem dJ5_charAt_5068e_21 : decode cJ5_charAt_5068e 21 = .ok (.istore 4, 2) := by decide +kernel
theorem dJ5_charAt_5068e_23 : decode cJ5_charAt_5068e 23 = .ok (.iload_n 1, 1) := by decide +kernel
theorem dJ5_charAt_5068e_24 : decode cJ5_charAt_5068e 24 = .ok (.iload 4, 2) := by decide +kernel
theorem dJ5_charAt_5068e_26 : decode cJ5_charAt_5068e 26 = .ok (.invokestatic 144, 3) := by decide +kernel
theorem dJ5_charAt_5068e_29 : decode cJ5_charAt_5068e 29 = .ok (.iload_n 2, 1) := by decide +kernel
theorem dJ5_charAt_5068e_30 : decode cJ5_charAt_5068e 30 = .ok (.ifCond .ne 12, 3) := by decide +kernel
theorem dJ5_charAt_5068e_33 : decode cJ5_charAt_5068e 33 = .ok (.aload_n 3, 1) := by decide +kernel
theorem dJ5_charAt_5068e_34 : decode cJ5_charAt_5068e 34 = .ok (.iload_n 1, 1) := by decide +kernel
theorem dJ5_charAt_5068e_35 : decode cJ5_charAt_5068e 35 = .ok (.baload, 1) := by decide +kernel
theorem dJ5_charAt_5068e_36 : decode cJ5_charAt_5068e 36 = .ok (.sipush 255, 3) := by decide +kernel
theorem dJ5_charAt_5068e_39 : decode cJ5_charAt_5068e 39 = .ok (.iand, 1) := by decide +kernel
theorem dJ5_charAt_5068e_40 : decode cJ5_charAt_5068e 40 = .ok (.i2c, 1) := by decide +kernel
theorem dJ5_charAt_5068e_41 : decode cJ5_charAt_5068e 41 = .ok (.ireturn, 1) := by decide +kernel
theorem dJ5_charAt_5068e_42 : decode cJ5_charAt_5068e 42 = .ok (.aload_n 3, 1) := by decide +kernel
theorem dJ5_charAt_5068e_43 : decode cJ5_charAt_5068e 43 = .ok (.iload_n 1, 1) := by decide +kernel
theorem dJ5_charAt_5068e_44 : decode cJ5_charAt_5068e 44 = .ok (.invokestatic 148, 3) := by decide +kernel
theorem dJ5_charAt_5068e_47 : decode cJ5_charAt_5068e 47 = .ok (.ireturn, 1) := by decide +kernel
theorem dJ5_append_3fe6f_0 : decode cJ5_append_3fe6f 0 = .ok (.aload_n 0, 1) := by decide +kernel
theorem dJ5_append_3fe6f_1 : decode cJ5_append_3fe6f 1 = .ok (.aload_n 0, 1) := by decide +kernel
theorem dJ5_append_3fe6f_2 : decode cJ5_append_3fe6f 2 = .ok (.getfield 79, 3) := by decide +kernel
theorem dJ5_append_3fe6f_5 : decode cJ5_append_3fe6f 5 = .ok (.iconst 1, 1) := by decide +kernel
theorem dJ5_append_3fe6f_6 : decode cJ5_append_3fe6f 6 = .ok (.iadd, 1) := by decide +kernel
theorem dJ5_append_3fe6f_7 : decode cJ5_append_3fe6f 7 = .ok (.invokevirtual 100, 3) := by decide +kernel
theorem dJ5_append_3fe6f_10 : decode cJ5_append_3fe6f 10 = .ok (.aload_n 0, 1) := by decide +kernel
theorem dJ5_append_3fe6f_11 : decode cJ5_append_3fe6f 11 = .ok (.invokevirtual 83, 3) := by decide +kernel
theorem dJ5_append_3fe6f_14 : decode cJ5_append_3fe6f 14 = .ok (.ifCond .eq 31, 3) := by decide +kernel
theorem dJ5_append_3fe6f_17 : decode cJ5_append_3fe6f 17 = .ok (.iload_n 1, 1) := by decide +kernel
theorem dJ5_append_3fe6f_18 : decode cJ5_append_3fe6f 18 = .ok (.invokestatic 191, 3) := by decide +kernel
theorem dJ5_append_3fe6f_21 : decode cJ5_append_3fe6f 21 = .ok (.ifCond .eq 24, 3) := by decide +kernel
theorem dJ5_append_3fe6f_24 : decode cJ5_append_3fe6f 24 = .ok (.aload_n 0, 1) := by decide +kernel
theorem dJ5_append_3fe6f_25 : decode cJ5_append_3fe6f 25 = .ok (.getfield 15, 3) := by decide +kernel
theorem dJ5_append_3fe6f_28 : decode cJ5_append_3fe6f 28 = .ok (.aload_n 0, 1) := by decide +kernel
theorem dJ5_append_3fe6f_29 : decode cJ5_append_3fe6f 29 = .ok (.dup, 1) := by decide +kernel
theorem dJ5_append_3fe6f_30 : decode cJ5_append_3fe6f 30 = .ok (.getfield 79, 3) := by decide +kernel
theorem dJ5_append_3fe6f_33 : decode cJ5_append_3fe6f 33 = .ok (.dup_x1, 1) := by decide +kernel
theorem dJ5_append_3fe6f_34 : decode cJ5_append_3fe6f 34 = .ok (.iconst 1, 1) := by decide +kernel
theorem dJ5_append_3fe6f_35 : decode cJ5_append_3fe6f 35 = .ok (.iadd, 1) := by decide +kernel
theorem dJ5_append_3fe6f_36 : decode cJ5_append_3fe6f 36 = .ok (.putfield 79, 3) := by decide +kernel
theorem dJ5_append_3fe6f_39 : decode cJ5_append_3fe6f 39 = .ok (.iload_n 1, 1) := by decide +kernel
theorem dJ5_append_3fe6f_40 : decode cJ5_append_3fe6f 40 = .ok (.i2b, 1) := by decide +kernel
theorem dJ5_append_3fe6f_41 : decode cJ5_append_3fe6f 41 = .ok (.bastore, 1) := by decide +kernel
theorem dJ5_append_3fe6f_42 : decode cJ5_append_3fe6f 42 = .ok (.goto 33, 3) := by decide +kernel
theorem dJ5_append_3fe6f_45 : decode cJ5_append_3fe6f 45 = .ok (.aload_n 0, 1) := by decide +kernel
theorem dJ5_append_3fe6f_46 : decode cJ5_append_3fe6f 46 = .ok (.invokevirtual 83, 3) := by decide +kernel
theorem dJ5_append_3fe6f_49 : decode cJ5_append_3fe6f 49 = .ok (.ifCond .eq 7, 3) := by decide +kernel
theorem dJ5_append_3fe6f_52 : decode cJ5_append_3fe6f 52 = .ok (.aload_n 0, 1) := by decide +kernel
theorem dJ5_append_3fe6f_53 : decode cJ5_append_3fe6f 53 = .ok (.invokevirtual 195, 3) := by decide +kernel
theorem dJ5_append_3fe6f_56 : decode cJ5_append_3fe6f 56 = .ok (.aload_n 0, 1) := by decide +kernel
theorem dJ5_append_3fe6f_57 : decode cJ5_append_3fe6f 57 = .ok (.getfield 15, 3) := by decide +kernel
theorem dJ5_append_3fe6f_60 : decode cJ5_append_3fe6f 60 = .ok (.aload_n 0, 1) := by decide +kernel
theorem dJ5_append_3fe6f_61 : decode cJ5_append_3fe6f 61 = .ok (.dup, 1) := by decide +kernel
theorem dJ5_append_3fe6f_62 : decode cJ5_append_3fe6f 62 = .ok (.getfield 79, 3) := by decide +kernel
theorem dJ5_append_3fe6f_65 : decode cJ5_append_3fe6f 65 = .ok (.dup_x1, 1) := by decide +kernel
theorem dJ5_append_3fe6f_66 : decode cJ5_append_3fe6f 66 = .ok (.iconst 1, 1) := by decide +kernel
theorem dJ5_append_3fe6f_67 : decode cJ5_append_3fe6f 67 = .ok (.iadd, 1) := by decide +kernel
theorem dJ5_append_3fe6f_68 : decode cJ5_append_3fe6f 68 = .ok (.putfield 79, 3) := by decide +kernel
theorem dJ5_append_3fe6f_71 : decode cJ5_append_3fe6f 71 = .ok (.iload_n 1, 1) := by decide +kernel
theorem dJ5_append_3fe6f_72 : decode cJ5_append_3fe6f 72 = .ok (.invokestatic 197, 3) := by decide +kernel
theorem dJ5_append_3fe6f_75 : decode cJ5_append_3fe6f 75 = .ok (.aload_n 0, 1) := by decide +kernel
theorem dJ5_append_3fe6f_76 : decode cJ5_append_3fe6f 76 = .ok (.areturn, 1) := by decide +kernel
theorem dJ5_append_66267_0 : decode cJ5_append_66267 0 = .ok (.aload_n 0, 1) := by decide +kernel
theorem dJ5_append_66267_1 : decode cJ5_append_66267 1 = .ok (.getfield 79, 3) := by decide +kernel
theorem dJ5_append_66267_4 : decode cJ5_append_66267 4 = .ok (.istore_n 3, 1) := by decide +kernel
theorem dJ5_append_66267_5 : decode cJ5_append_66267 5 = .ok (.iload_n 3, 1) := by decide +kernel
theorem dJ5_append_66267_6 : decode cJ5_append_66267 6 = .ok (.lload_n 1, 1) := by decide +kernel
theorem dJ5_append_66267_7 : decode cJ5_append_66267 7 = .ok (.invokestatic 254, 3) := by decide +kernel
theorem dJ5_append_66267_10 : decode cJ5_append_66267 10 = .ok (.iadd, 1) := by decide +kernel
theorem dJ5_append_66267_11 : decode cJ5_append_66267 11 = .ok (.istore 4, 2) := by decide +kernel
theorem dJ5_append_66267_13 : decode cJ5_append_66267 13 = .ok (.aload_n 0, 1) := by decide +kernel
theorem dJ5_append_66267_14 : decode cJ5_append_66267 14 = .ok (.iload 4, 2) := by decide +kernel
theorem dJ5_append_66267_16 : decode cJ5_append_66267 16 = .ok (.invokevirtual 100, 3) := by decide +kernel
theorem dJ5_append_66267_19 : decode cJ5_append_66267 19 = .ok (.aload_n 0, 1) := by decide +kernel
theorem dJ5_append_66267_20 : decode cJ5_append_66267 20 = .ok (.invokevirtual 83, 3) := by decide +kernel
theorem dJ5_append_66267_23 : decode cJ5_append_66267 23 = .ok (.ifCond .eq 17, 3) := by decide +kernel
theorem dJ5_append_66267_26 : decode cJ5_append_66267 26 = .ok (.lload_n 1, 1) := by decide +kernel
theorem dJ5_append_66267_27 : decode cJ5_append_66267 27 = .ok (.iload 4, 2) := by decide +kernel
theorem dJ5_append_66267_29 : decode cJ5_append_66267 29 = .ok (.aload_n 0, 1) := by decide +kernel
theorem dJ5_append_66267_30 : decode cJ5_append_66267 30 = .ok (.getfield 15, 3) := by decide +kernel
theorem dJ5_append_66267_33 : decode cJ5_append_66267 33 = .ok (.invokestatic 259, 3) := by decide +kernel
theorem dJ5_append_66267_36 : decode cJ5_append_66267 36 = .ok (.pop, 1) := by decide +kernel
theorem dJ5_append_66267_37 : decode cJ5_append_66267 37 = .ok (.goto 15, 3) := by decide +kernel
theorem dJ5_append_66267_40 : decode cJ5_append_66267 40 = .ok (.lload_n 1, 1) := by decide +kernel
theorem dJ5_append_66267_41 : decode cJ5_append_66267 41 = .ok (.iload_n 3, 1) := by decide +kernel
theorem dJ5_append_66267_42 : decode cJ5_append_66267 42 = .ok (.iload 4, 2) := by decide +kernel
theorem dJ5_append_66267_44 : decode cJ5_append_66267 44 = .ok (.aload_n 0, 1) := by decide +kernel
theorem dJ5_append_66267_45 : decode cJ5_append_66267 45 = .ok (.getfield 15, 3) := by decide +kernel
theorem dJ5_append_66267_48 : decode cJ5_append_66267 48 = .ok (.invokestatic 262, 3) := by decide +kernel
theorem dJ5_append_66267_51 : decode cJ5_append_66267 51 = .ok (.pop, 1) := by decide +kernel
theorem dJ5_append_66267_52 : decode cJ5_append_66267 52 = .ok (.aload_n 0, 1) := by decide +kernel
theorem dJ5_append_66267_53 : decode cJ5_append_66267 53 = .ok (.iload 4, 2) := by decide +kernel
theorem dJ5_append_66267_55 : decode cJ5_append_66267 55 = .ok (.putfield 79, 3) := by decide +kernel
theorem dJ5_append_66267_58 : decode cJ5_append_66267 58 = .ok (.aload_n 0, 1) := by decide +kernel
theorem dJ5_append_66267_59 : decode cJ5_append_66267 59 = .ok (.areturn, 1) := by decide +kernel
theorem dJ5_isLatin1_aae02_0 : decode cJ5_isLatin1_aae02 0 = .ok (.getstatic 18, 3) := by decide +kernel
theorem dJ5_isLatin1_aae02_3 : decode cJ5_isLatin1_aae02 3 = .ok (.ifCond .eq 14, 3) := by decide +kernel
theorem dJ5_isLatin1_aae02_6 : decode cJ5_isLatin1_aae02 6 = .ok (.aload_n 0, 1) := by decide +kernel
theorem dJ5_isLatin1_aae02_7 : decode cJ5_isLatin1_aae02 7 = .ok (.getfield 22, 3) := by decide +kernel
theorem dJ5_isLatin1_aae02_10 : decode cJ5_isLatin1_aae02 10 = .ok (.ifCond .ne 7, 3) := by decide +kernel
theorem dJ5_isLatin1_aae02_13 : decode cJ5_isLatin1_aae02 13 = .ok (.iconst 1, 1) := by decide +kernel
theorem dJ5_isLatin1_aae02_14 : decode cJ5_isLatin1_aae02 14 = .ok (.goto 4, 3) := by decide +kernel
theorem dJ5_isLatin1_aae02_17 : decode cJ5_isLatin1_aae02 17 = .ok (.iconst 0, 1) := by decide +kernel
theorem dJ5_isLatin1_aae02_18 : decode cJ5_isLatin1_aae02 18 = .ok (.ireturn, 1) := by decide +kernel
theorem dJ11_isValidCodePoint_9a6ad_0 : decode cJ11_isValidCodePoint_9a6ad 0 = .ok (.iload_n 0, 1) := by decide +kernel
theorem dJ11_isValidCodePoint_9a6ad_1 : decode cJ11_isValidCodePoint_9a6ad 1 = .ok (.bipush 16, 2) := by decide +kernel
theorem dJ11_isValidCodePoint_9a6ad_3 : decode cJ11_isValidCodePoint_9a6ad 3 = .ok (.iushr, 1) := by decide +kernel
theorem dJ11_isValidCodePoint_9a6ad_4 : decode cJ11_isValidCodePoint_9a6ad 4 = .ok (.istore_n 1, 1) := by decide +kernel
theorem dJ11_isValidCodePoint_9a6ad_5 : decode cJ11_isValidCodePoint_9a6ad 5 = .ok (.iload_n 1, 1) := by decide +kernel
theorem dJ11_isValidCodePoint_9a6ad_6 : decode cJ11_isValidCodePoint_9a6ad 6 = .ok (.bipush 17, 2) := by decide +kernel
theorem dJ11_isValidCodePoint_9a6ad_8 : decode cJ11_isValidCodePoint_9a6ad 8 = .ok (.if_icmp .ge 7, 3) := by decide +kernel
theorem dJ11_isValidCodePoint_9a6ad_11 : decode cJ11_isValidCodePoint_9a6ad 11 = .ok (.iconst 1, 1) := by decide +kernel
theorem dJ11_isValidCodePoint_9a6ad_12 : decode cJ11_isValidCodePoint_9a6ad 12 = .ok (.goto 4, 3) := by decide +kernel
theorem dJ11_isValidCodePoint_9a6ad_15 : decode cJ11_isValidCodePoint_9a6ad 15 = .ok (.iconst 0, 1) := by decide +kernel
theorem dJ11_isValidCodePoint_9a6ad_16 : decode cJ11_isValidCodePoint_9a6ad 16 = .ok (.ireturn, 1) := by decide +kernel
theorem dJ11_highSurrogate_5068e_0 : decode cJ11_highSurrogate_5068e 0 = .ok (.iload_n 0, 1) := by decide +kernel
theorem dJ11_highSurrogate_5068e_1 : decode cJ11_highSurrogate_5068e 1 = .ok (.bipush 10, 2) := by decide +kernel
theorem dJ11_highSurrogate_5068e_3 : decode cJ11_highSurrogate_5068e 3 = .ok (.iushr, 1) := by decide +kernel
theorem dJ11_highSurrogate_5068e_4 : decode cJ11_highSurrogate_5068e 4 = .ok (.ldc 110, 2) := by decide +kernel
theorem dJ11_highSurrogate_5068e_6 : decode cJ11_highSurrogate_5068e 6 = .ok (.iadd, 1) := by decide +kernel
theorem dJ11_highSurrogate_5068e_7 : decode cJ11_highSurrogate_5068e 7 = .ok (.i2c, 1) := by decide +kernel
theorem dJ11_highSurrogate_5068e_8 : decode cJ11_highSurrogate_5068e 8 = .ok (.ireturn, 1) := by decide +kernel
theorem dJ11_lowSurrogate_5068e_0 : decode cJ11_lowSurrogate_5068e 0 = .ok (.iload_n 0, 1) := by decide +kernel
theorem dJ11_lowSurrogate_5068e_1 : decode cJ11_lowSurrogate_5068e 1 = .ok (.sipush 1023, 3) := by decide +kernel
theorem dJ11_lowSurrogate_5068e_4 : decode cJ11_lowSurrogate_5068e 4 = .ok (.iand, 1) := by decide +kernel
theorem dJ11_lowSurrogate_5068e_5 : decode cJ11_lowSurrogate_5068e 5 = .ok (.ldc 76, 2) := by decide +kernel
theorem dJ11_lowSurrogate_5068e_7 : decode cJ11_lowSurrogate_5068e 7 = .ok (.iadd, 1) := by decide +kernel
theorem dJ11_lowSurrogate_5068e_8 : decode cJ11_lowSurrogate_5068e 8 = .ok (.i2c, 1) := by decide +kernel
theorem dJ11_lowSurrogate_5068e_9 : decode cJ11_lowSurrogate_5068e 9 = .ok (.ireturn, 1) := by decide +kernel
theorem dJ13_getChars_11360_0 : decode cJ13_getChars_11360 0 = .ok (.iload_n 2, 1) := by decide +kernel
theorem dJ13_getChars_11360_1 : decode cJ13_getChars_11360 1 = .ok (.istore 7, 2) := by decide +kernel
theorem dJ13_getChars_11360_3 : decode cJ13_getChars_11360 3 = .ok (.lload_n 0, 1) := by decide +kernel
theorem dJ13_getChars_11360_4 : decode cJ13_getChars_11360 4 = .ok (.lconst 0, 1) := by decide +kernel
theorem dJ13_getChars_11360_5 : decode cJ13_getChars_11360 5 = .ok (.lcmp, 1) := by decide +kernel
theorem dJ13_getChars_11360_6 : decode cJ13_getChars_11360 6 = .ok (.ifCond .ge 7, 3) := by decide +kernel
theorem dJ13_getChars_11360_9 : decode cJ13_getChars_11360 9 = .ok (.iconst 1, 1) := by decide +kernel
theorem dJ13_getChars_11360_10 : decode cJ13_getChars_11360 10 = .ok (.goto 4, 3) := by decide +kernel
theorem dJ13_getChars_11360_13 : decode cJ13_getChars_11360 13 = .ok (.iconst 0, 1) := by decide +kernel
theorem dJ13_getChars_11360_14 : decode cJ13_getChars_11360 14 = .ok (.istore 8, 2) := by decide +kernel
theorem dJ13_getChars_11360_16 : decode cJ13_getChars_11360 16 = .ok (.iload 8, 2) := by decide +kernel
theorem dJ13_getChars_11360_18 : decode cJ13_getChars_11360 18 = .ok (.ifCond .ne 6, 3) := by decide +kernel
theorem dJ13_getChars_11360_21 : decode cJ13_getChars_11360 21 = .ok (.lload_n 0, 1) := by decide +kernel
theorem dJ13_getChars_11360_22 : decode cJ13_getChars_11360 22 = .ok (.lneg, 1) := by decide +kernel
theorem dJ13_getChars_11360_23 : decode cJ13_getChars_11360 23 = .ok (.lstore_n 0, 1) := by decide +kernel
theorem dJ13_getChars_11360_24 : decode cJ13_getChars_11360 24 = .ok (.lload_n 0, 1) := by decide +kernel
theorem dJ13_getChars_11360_25 : decode cJ13_getChars_11360 25 = .ok (.ldc2_w 129, 3) := by decide +kernel
theorem dJ13_getChars_11360_28 : decode cJ13_getChars_11360 28 = .ok (.lcmp, 1) := by decide +kernel
theorem dJ13_getChars_11360_29 : decode cJ13_getChars_11360 29 = .ok (.ifCond .gt 53, 3) := by decide +kernel
theorem dJ13_getChars_11360_32 : decode cJ13_getChars_11360 32 = .ok (.lload_n 0, 1) := by decide +kernel
theorem dJ13_getChars_11360_33 : decode cJ13_getChars_11360 33 = .ok (.ldc2_w 131, 3) := by decide +kernel
theorem dJ13_getChars_11360_36 : decode cJ13_getChars_11360 36 = .ok (.ldiv, 1) := by decide +kernel
theorem dJ13_getChars_11360_37 : decode cJ13_getChars_11360 37 = .ok (.lstore 4, 2) := by decide +kernel
theorem dJ13_getChars_11360_39 : decode cJ13_getChars_11360 39 = .ok (.lload 4, 2) := by decide +kernel
theorem dJ13_getChars_11360_41 : decode cJ13_getChars_11360 41 = .ok (.ldc2_w 131, 3) := by decide +kernel
theorem dJ13_getChars_11360_44 : decode cJ13_getChars_11360 44 = .ok (.lmul, 1) := by decide +kernel
theorem dJ13_getChars_11360_45 : decode cJ13_getChars_11360 45 = .ok (.lload_n 0, 1) := by decide +kernel
theorem dJ13_getChars_11360_46 : decode cJ13_getChars_11360 46 = .ok (.lsub, 1) := by decide +kernel
theorem dJ13_getChars_11360_47 : decode cJ13_getChars_11360 47 = .ok (.l2i, 1) := by decide +kernel
theorem dJ13_getChars_11360_48 : decode cJ13_getChars_11360 48 = .ok (.istore 6, 2) := by decide +kernel
theorem dJ13_getChars_11360_50 : decode cJ13_getChars_11360 50 = .ok (.lload 4, 2) := by decide +kernel
theorem dJ13_getChars_11360_52 : decode cJ13_getChars_11360 52 = .ok (.lstore_n 0, 1) := by decide +kernel
theorem dJ13_getChars_11360_53 : decode cJ13_getChars_11360 53 = .ok (.aload_n 3, 1) := by decide +kernel
theorem dJ13_getChars_11360_54 : decode cJ13_getChars_11360 54 = .ok (.iinc 7 (-1), 3) := by decide +kernel
theorem dJ13_getChars_11360_57 : decode cJ13_getChars_11360 57 = .ok (.iload 7, 2) := by decide +kernel
theorem dJ13_getChars_11360_59 : decode cJ13_getChars_11360 59 = .ok (.getstatic 133, 3) := by decide +kernel
theorem dJ13_getChars_11360_62 : decode cJ13_getChars_11360 62 = .ok (.iload 6, 2) := by decide +kernel
theorem dJ13_getChars_11360_64 : decode cJ13_getChars_11360 64 = .ok (.baload, 1) := by decide +kernel
theorem dJ13_getChars_11360_65 : decode cJ13_getChars_11360 65 = .ok (.bastore, 1) := by decide +kernel
theorem dJ13_getChars_11360_66 : decode cJ13_getChars_11360 66 = .ok (.aload_n 3, 1) := by decide +kernel
theorem dJ13_getChars_11360_67 : decode cJ13_getChars_11360 67 = .ok (.iinc 7 (-1), 3) := by decide +kernel
theorem dJ13_getChars_11360_70 : decode cJ13_getChars_11360 70 = .ok (.iload 7, 2) := by decide +kernel
theorem dJ13_getChars_11360_72 : decode cJ13_getChars_11360 72 = .ok (.getstatic 137, 3) := by decide +kernel
theorem dJ13_getChars_11360_75 : decode cJ13_getChars_11360 75 = .ok (.iload 6, 2) := by decide +kernel
theorem dJ13_getChars_11360_77 : decode cJ13_getChars_11360 77 = .ok (.baload, 1) := by decide +kernel
theorem dJ13_getChars_11360_78 : decode cJ13_getChars_11360 78 = .ok (.bastore, 1) := by decide +kernel
theorem dJ13_getChars_11360_79 : decode cJ13_getChars_11360 79 = .ok (.goto (-55), 3) := by decide +kernel
theorem dJ13_getChars_11360_82 : decode cJ13_getChars_11360 82 = .ok (.lload_n 0, 1) := by decide +kernel
theorem dJ13_getChars_11360_83 : decode cJ13_getChars_11360 83 = .ok (.l2i, 1) := by decide +kernel
theorem dJ13_getChars_11360_84 : decode cJ13_getChars_11360 84 = .ok (.istore 10, 2) := by decide +kernel
theorem dJ13_getChars_11360_86 : decode cJ13_getChars_11360 86 = .ok (.iload 10, 2) := by decide +kernel
theorem dJ13_getChars_11360_88 : decode cJ13_getChars_11360 88 = .ok (.bipush (-100), 2) := by decide +kernel
theorem dJ13_getChars_11360_90 : decode cJ13_getChars_11360 90 = .ok (.if_icmp .gt 53, 3) := by decide +kernel
theorem dJ13_getChars_11360_93 : decode cJ13_getChars_11360 93 = .ok (.iload 10, 2) := by decide +kernel
theorem dJ13_getChars_11360_95 : decode cJ13_getChars_11360 95 = .ok (.bipush 100, 2) := by decide +kernel
theorem dJ13_getChars_11360_97 : decode cJ13_getChars_11360 97 = .ok (.idiv, 1) := by decide +kernel
theorem dJ13_getChars_11360_98 : decode cJ13_getChars_11360 98 = .ok (.istore 9, 2) := by decide +kernel
theorem dJ13_getChars_11360_100 : decode cJ13_getChars_11360 100 = .ok (.iload 9, 2) := by decide +kernel
theorem dJ13_getChars_11360_102 : decode cJ13_getChars_11360 102 = .ok (.bipush 100, 2) := by decide +kernel
theorem dJ13_getChars_11360_104 : decode cJ13_getChars_11360 104 = .ok (.imul, 1) := by decide +kernel
theorem dJ13_getChars_11360_105 : decode cJ13_getChars_11360 105 = .ok (.iload 10, 2) := by decide +kernel
theorem dJ13_getChars_11360_107 : decode cJ13_getChars_11360 107 = .ok (.isub, 1) := by decide +kernel
theorem dJ13_getChars_11360_108 : decode cJ13_getChars_11360 108 = .ok (.istore 6, 2) := by decide +kernel
theorem dJ13_getChars_11360_110 : decode cJ13_getChars_11360 110 = .ok (.iload 9, 2) := by decide +kernel
theorem dJ13_getChars_11360_112 : decode cJ13_getChars_11360 112 = .ok (.istore 10, 2) := by decide +kernel
theorem dJ13_getChars_11360_114 : decode cJ13_getChars_11360 114 = .ok (.aload_n 3, 1) := by decide +kernel
theorem dJ13_getChars_11360_115 : decode cJ13_getChars_11360 115 = .ok (.iinc 7 (-1), 3) := by decide +kernel
theorem dJ13_getChars_11360_118 : decode cJ13_getChars_11360 118 = .ok (.iload 7, 2) := by decide +kernel
theorem dJ13_getChars_11360_120 : decode cJ13_getChars_11360 120 = .ok (.getstatic 133, 3) := by decide +kernel
theorem dJ13_getChars_11360_123 : decode cJ13_getChars_11360 123 = .ok (.iload 6, 2) := by decide +kernel
theorem dJ13_getChars_11360_125 : decode cJ13_getChars_11360 125 = .ok (.baload, 1) := by decide +kernel
theorem dJ13_getChars_11360_126 : decode cJ13_getChars_11360 126 = .ok (.bastore, 1) := by decide +kernel
theorem dJ13_getChars_11360_127 : decode cJ13_getChars_11360 127 = .ok (.aload_n 3, 1) := by decide +kernel
theorem dJ13_getChars_11360_128 : decode cJ13_getChars_11360 128 = .ok (.iinc 7 (-1), 3) := by decide +kernel
theorem dJ13_getChars_11360_131 : decode cJ13_getChars_11360 131 = .ok (.iload 7, 2) := by decide +kernel
theorem dJ13_getChars_11360_133 : decode cJ13_getChars_11360 133 = .ok (.getstatic 137, 3) := by decide +kernel
theorem dJ13_getChars_11360_136 : decode cJ13_getChars_11360 136 = .ok (.iload 6, 2) := by decide +kernel
theorem dJ13_getChars_11360_138 : decode cJ13_getChars_11360 138 = .ok (.baload, 1) := by decide +kernel
theorem dJ13_getChars_11360_139 : decode cJ13_getChars_11360 139 = .ok (.bastore, 1) := by decide +kernel
theorem dJ13_getChars_11360_140 : decode cJ13_getChars_11360 140 = .ok (.goto (-54), 3) := by decide +kernel
theorem dJ13_getChars_11360_143 : decode cJ13_getChars_11360 143 = .ok (.aload_n 3, 1) := by decide +kernel
theorem dJ13_getChars_11360_144 : decode cJ13_getChars_11360 144 = .ok (.iinc 7 (-1), 3) := by decide +kernel
theorem dJ13_getChars_11360_147 : decode cJ13_getChars_11360 147 = .ok (.iload 7, 2) := by decide +kernel
theorem dJ13_getChars_11360_149 : decode cJ13_getChars_11360 149 = .ok (.getstatic 133, 3) := by decide +kernel
theorem dJ13_getChars_11360_152 : decode cJ13_getChars_11360 152 = .ok (.iload 10, 2) := by decide +kernel
theorem dJ13_getChars_11360_154 : decode cJ13_getChars_11360 154 = .ok (.ineg, 1) := by decide +kernel
theorem dJ13_getChars_11360_155 : decode cJ13_getChars_11360 155 = .ok (.baload, 1) := by decide +kernel
theorem dJ13_getChars_11360_156 : decode cJ13_getChars_11360 156 = .ok (.bastore, 1) := by decide +kernel
theorem dJ13_getChars_11360_157 : decode cJ13_getChars_11360 157 = .ok (.iload 10, 2) := by decide +kernel
theorem dJ13_getChars_11360_159 : decode cJ13_getChars_11360 159 = .ok (.bipush (-9), 2) := by decide +kernel
theorem dJ13_getChars_11360_161 : decode cJ13_getChars_11360 161 = .ok (.if_icmp .ge 17, 3) := by decide +kernel
theorem dJ13_getChars_11360_164 : decode cJ13_getChars_11360 164 = .ok (.aload_n 3, 1) := by decide +kernel
theorem dJ13_getChars_11360_165 : decode cJ13_getChars_11360 165 = .ok (.iinc 7 (-1), 3) := by decide +kernel
theorem dJ13_getChars_11360_168 : decode cJ13_getChars_11360 168 = .ok (.iload 7, 2) := by decide +kernel
theorem dJ13_getChars_11360_170 : decode cJ13_getChars_11360 170 = .ok (.getstatic 137, 3) := by decide +kernel
theorem dJ13_getChars_11360_173 : decode cJ13_getChars_11360 173 = .ok (.iload 10, 2) := by decide +kernel
theorem dJ13_getChars_11360_175 : decode cJ13_getChars_11360 175 = .ok (.ineg, 1) := by decide +kernel
theorem dJ13_getChars_11360_176 : decode cJ13_getChars_11360 176 = .ok (.baload, 1) := by decide +kernel
theorem dJ13_getChars_11360_177 : decode cJ13_getChars_11360 177 = .ok (.bastore, 1) := by decide +kernel
theorem dJ13_getChars_11360_178 : decode cJ13_getChars_11360 178 = .ok (.iload 8, 2) := by decide +kernel
theorem dJ13_getChars_11360_180 : decode cJ13_getChars_11360 180 = .ok (.ifCond .eq 12, 3) := by decide +kernel
theorem dJ13_getChars_11360_183 : decode cJ13_getChars_11360 183 = .ok (.aload_n 3, 1) := by decide +kernel
theorem dJ13_getChars_11360_184 : decode cJ13_getChars_11360 184 = .ok (.iinc 7 (-1), 3) := by decide +kernel
theorem dJ13_getChars_11360_187 : decode cJ13_getChars_11360 187 = .ok (.iload 7, 2) := by decide +kernel
theorem dJ13_getChars_11360_189 : decode cJ13_getChars_11360 189 = .ok (.bipush 45, 2) := by decide +kernel
theorem dJ13_getChars_11360_191 : decode cJ13_getChars_11360 191 = .ok (.bastore, 1) := by decide +kernel
theorem dJ13_getChars_11360_192 : decode cJ13_getChars_11360 192 = .ok (.iload 7, 2) := by decide +kernel
theorem dJ13_getChars_11360_194 : decode cJ13_getChars_11360 194 = .ok (.ireturn, 1) := by decide +kernel
theorem dJ13_stringSize_95d88_0 : decode cJ13_stringSize_95d88 0 = .ok (.iconst 1, 1) := by decide +kernel
theorem dJ13_stringSize_95d88_1 : decode cJ13_stringSize_95d88 1 = .ok (.istore_n 2, 1) := by decide +kernel
theorem dJ13_stringSize_95d88_2 : decode cJ13_stringSize_95d88 2 = .ok (.lload_n 0, 1) := by decide +kernel
theorem dJ13_stringSize_95d88_3 : decode cJ13_stringSize_95d88 3 = .ok (.lconst 0, 1) := by decide +kernel
theorem dJ13_stringSize_95d88_4 : decode cJ13_stringSize_95d88 4 = .ok (.lcmp, 1) := by decide +kernel
theorem dJ13_stringSize_95d88_5 : decode cJ13_stringSize_95d88 5 = .ok (.ifCond .lt 8, 3) := by decide +kernel
theorem dJ13_stringSize_95d88_8 : decode cJ13_stringSize_95d88 8 = .ok (.iconst 0, 1) := by decide +kernel
theorem dJ13_stringSize_95d88_9 : decode cJ13_stringSize_95d88 9 = .ok (.istore_n 2, 1) := by decide +kernel
theorem dJ13_stringSize_95d88_10 : decode cJ13_stringSize_95d88 10 = .ok (.lload_n 0, 1) := by decide +kernel
theorem dJ13_stringSize_95d88_11 : decode cJ13_stringSize_95d88 11 = .ok (.lneg, 1) := by decide +kernel
theorem dJ13_stringSize_95d88_12 : decode cJ13_stringSize_95d88 12 = .ok (.lstore_n 0, 1) := by decide +kernel
theorem dJ13_stringSize_95d88_13 : decode cJ13_stringSize_95d88 13 = .ok (.ldc2_w 140, 3) := by decide +kernel
theorem dJ13_stringSize_95d88_16 : decode cJ13_stringSize_95d88 16 = .ok (.lstore_n 3, 1) := by decide +kernel
theorem dJ13_stringSize_95d88_17 : decode cJ13_stringSize_95d88 17 = .ok (.iconst 1, 1) := by decide +kernel
theorem dJ13_stringSize_95d88_18 : decode cJ13_stringSize_95d88 18 = .ok (.istore 5, 2) := by decide +kernel
theorem dJ13_stringSize_95d88_20 : decode cJ13_stringSize_95d88 20 = .ok (.iload 5, 2) := by decide +kernel
theorem dJ13_stringSize_95d88_22 : decode cJ13_stringSize_95d88 22 = .ok (.bipush 19, 2) := by decide +kernel
theorem dJ13_stringSize_95d88_24 : decode cJ13_stringSize_95d88 24 = .ok (.if_icmp .ge 26, 3) := by decide +kernel
theorem dJ13_stringSize_95d88_27 : decode cJ13_stringSize_95d88 27 = .ok (.lload_n 0, 1) := by decide +kernel
theorem dJ13_stringSize_95d88_28 : decode cJ13_stringSize_95d88 28 = .ok (.lload_n 3, 1) := by decide +kernel
theorem dJ13_stringSize_95d88_29 : decode cJ13_stringSize_95d88 29 = .ok (.lcmp, 1) := by decide +kernel
theorem dJ13_stringSize_95d88_30 : decode cJ13_stringSize_95d88 30 = .ok (.ifCond .le 8, 3) := by decide +kernel
theorem dJ13_stringSize_95d88_33 : decode cJ13_stringSize_95d88 33 = .ok (.iload 5, 2) := by decide +kernel
theorem dJ13_stringSize_95d88_35 : decode cJ13_stringSize_95d88 35 = .ok (.iload_n 2, 1) := by decide +kernel
theorem dJ13_stringSize_95d88_36 : decode cJ13_stringSize_95d88 36 = .ok (.iadd, 1) := by decide +kernel
theorem dJ13_stringSize_95d88_37 : decode cJ13_stringSize_95d88 37 = .ok (.ireturn, 1) := by decide +kernel
theorem dJ13_stringSize_95d88_38 : decode cJ13_stringSize_95d88 38 = .ok (.ldc2_w 53, 3) := by decide +kernel
theorem dJ13_stringSize_95d88_41 : decode cJ13_stringSize_95d88 41 = .ok (.lload_n 3, 1) := by decide +kernel
theorem dJ13_stringSize_95d88_42 : decode cJ13_stringSize_95d88 42 = .ok (.lmul, 1) := by decide +kernel
theorem dJ13_stringSize_95d88_43 : decode cJ13_stringSize_95d88 43 = .ok (.lstore_n 3, 1) := by decide +kernel
theorem dJ13_stringSize_95d88_44 : decode cJ13_stringSize_95d88 44 = .ok (.iinc 5 1, 3) := by decide +kernel
theorem dJ13_stringSize_95d88_47 : decode cJ13_stringSize_95d88 47 = .ok (.goto (-27), 3) := by decide +kernel
theorem dJ13_stringSize_95d88_50 : decode cJ13_stringSize_95d88 50 = .ok (.bipush 19, 2) := by decide +kernel
theorem dJ13_stringSize_95d88_52 : decode cJ13_stringSize_95d88 52 = .ok (.iload_n 2, 1) := by decide +kernel
theorem dJ13_stringSize_95d88_53 : decode cJ13_stringSize_95d88 53 = .ok (.iadd, 1) := by decide +kernel
theorem dJ13_stringSize_95d88_54 : decode cJ13_stringSize_95d88 54 = .ok (.ireturn, 1) := by decide +kernel
theorem dJ9_floorDiv_f86c9_0 : decode cJ9_floorDiv_f86c9 0 = .ok (.lload_n 0, 1) := by decide +kernel
theorem dJ9_floorDiv_f86c9_1 : decode cJ9_floorDiv_f86c9 1 = .ok (.lload_n 2, 1) := by decide +kernel
theorem dJ9_floorDiv_f86c9_2 : decode cJ9_floorDiv_f86c9 2 = .ok (.ldiv, 1) := by decide +kernel
theorem dJ9_floorDiv_f86c9_3 : decode cJ9_floorDiv_f86c9 3 = .ok (.lstore 4, 2) := by decide +kernel
theorem dJ9_floorDiv_f86c9_5 : decode cJ9_floorDiv_f86c9 5 = .ok (.lload_n 0, 1) := by decide +kernel
theorem dJ9_floorDiv_f86c9_6 : decode cJ9_floorDiv_f86c9 6 = .ok (.lload_n 2, 1) := by decide +kernel
theorem dJ9_floorDiv_f86c9_7 : decode cJ9_floorDiv_f86c9 7 = .ok (.lxor, 1) := by decide +kernel
theorem dJ9_floorDiv_f86c9_8 : decode cJ9_floorDiv_f86c9 8 = .ok (.lconst 0, 1) := by decide +kernel
theorem dJ9_floorDiv_f86c9_9 : decode cJ9_floorDiv_f86c9 9 = .ok (.lcmp, 1) := by decide +kernel
theorem dJ9_floorDiv_f86c9_10 : decode cJ9_floorDiv_f86c9 10 = .ok (.ifCond .ge 17, 3) := by decide +kernel
theorem dJ9_floorDiv_f86c9_13 : decode cJ9_floorDiv_f86c9 13 = .ok (.lload 4, 2) := by decide +kernel
theorem dJ9_floorDiv_f86c9_15 : decode cJ9_floorDiv_f86c9 15 = .ok (.lload_n 2, 1) := by decide +kernel
theorem dJ9_floorDiv_f86c9_16 : decode cJ9_floorDiv_f86c9 16 = .ok (.lmul, 1) := by decide +kernel
theorem dJ9_floorDiv_f86c9_17 : decode cJ9_floorDiv_f86c9 17 = .ok (.lload_n 0, 1) := by decide +kernel
theorem dJ9_floorDiv_f86c9_18 : decode cJ9_floorDiv_f86c9 18 = .ok (.lcmp, 1) := by decide +kernel
theorem dJ9_floorDiv_f86c9_19 : decode cJ9_floorDiv_f86c9 19 = .ok (.ifCond .eq 8, 3) := by decide +kernel
theorem dJ9_floorDiv_f86c9_22 : decode cJ9_floorDiv_f86c9 22 = .ok (.lload 4, 2) := by decide +kernel
theorem dJ9_floorDiv_f86c9_24 : decode cJ9_floorDiv_f86c9 24 = .ok (.lconst 1, 1) := by decide +kernel
theorem dJ9_floorDiv_f86c9_25 : decode cJ9_floorDiv_f86c9 25 = .ok (.lsub, 1) := by decide +kernel
theorem dJ9_floorDiv_f86c9_26 : decode cJ9_floorDiv_f86c9 26 = .ok (.lreturn, 1) := by decide +kernel
theorem dJ9_floorDiv_f86c9_27 : decode cJ9_floorDiv_f86c9 27 = .ok (.lload 4, 2) := by decide +kernel
theorem dJ9_floorDiv_f86c9_29 : decode cJ9_floorDiv_f86c9 29 = .ok (.lreturn, 1) := by decide +kernel
theorem dJ9_abs_067f4_0 : decode cJ9_abs_067f4 0 = .ok (.lload_n 0, 1) := by decide +kernel
theorem dJ9_abs_067f4_1 : decode cJ9_abs_067f4 1 = .ok (.lconst 0, 1) := by decide +kernel
theorem dJ9_abs_067f4_2 : decode cJ9_abs_067f4 2 = .ok (.lcmp, 1) := by decide +kernel
theorem dJ9_abs_067f4_3 : decode cJ9_abs_067f4 3 = .ok (.ifCond .ge 8, 3) := by decide +kernel
theorem dJ9_abs_067f4_6 : decode cJ9_abs_067f4 6 = .ok (.lload_n 0, 1) := by decide +kernel
theorem dJ9_abs_067f4_7 : decode cJ9_abs_067f4 7 = .ok (.lneg, 1) := by decide +kernel
theorem dJ9_abs_067f4_8 : decode cJ9_abs_067f4 8 = .ok (.goto 4, 3) := by decide +kernel
theorem dJ9_abs_067f4_11 : decode cJ9_abs_067f4 11 = .ok (.lload_n 0, 1) := by decide +kernel
theorem dJ9_abs_067f4_12 : decode cJ9_abs_067f4 12 = .ok (.lreturn, 1) := by decide +kernel
theorem dJ9_max_7cf53_0 : decode cJ9_max_7cf53 0 = .ok (.iload_n 0, 1) := by decide +kernel
theorem dJ9_max_7cf53_1 : decode cJ9_max_7cf53 1 = .ok (.iload_n 1, 1) := by decide +kernel
theorem dJ9_max_7cf53_2 : decode cJ9_max_7cf53 2 = .ok (.if_icmp .lt 7, 3) := by decide +kernel
theorem dJ9_max_7cf53_5 : decode cJ9_max_7cf53 5 = .ok (.iload_n 0, 1) := by decide +kernel
theorem dJ9_max_7cf53_6 : decode cJ9_max_7cf53 6 = .ok (.goto 4, 3) := by decide +kernel
theorem dJ9_max_7cf53_9 : decode cJ9_max_7cf53 9 = .ok (.iload_n 1, 1) := by decide +kernel
theorem dJ9_max_7cf53_10 : decode cJ9_max_7cf53 10 = .ok (.ireturn, 1) := by decide +kernel
theorem dJ9_min_7cf53_0 : decode cJ9_min_7cf53 0 = .ok (.iload_n 0, 1) := by decide +kernel
theorem dJ9_min_7cf53_1 : decode cJ9_min_7cf53 1 = .ok (.iload_n 1, 1) := by decide +kernel
theorem dJ9_min_7cf53_2 : decode cJ9_min_7cf53 2 = .ok (.if_icmp .gt 7, 3) := by decide +kernel
theorem dJ9_min_7cf53_5 : decode cJ9_min_7cf53 5 = .ok (.iload_n 0, 1) := by decide +kernel
theorem dJ9_min_7cf53_6 : decode cJ9_min_7cf53 6 = .ok (.goto 4, 3) := by decide +kernel
theorem dJ9_min_7cf53_9 : decode cJ9_min_7cf53 9 = .ok (.iload_n 1, 1) := by decide +kernel
theorem dJ9_min_7cf53_10 : decode cJ9_min_7cf53 10 = .ok (.ireturn, 1) := by decide +kernel
theorem dJ0_length_8abf5_0 : decode cJ0_length_8abf5 0 = .ok (.aload_n 0, 1) := by decide +kernel
theorem dJ0_length_8abf5_1 : decode cJ0_length_8abf5 1 = .ok (.getfield 9, 3) := by decide +kernel
theorem dJ0_length_8abf5_4 : decode cJ0_length_8abf5 4 = .ok (.arraylength, 1) := by decide +kernel
theorem dJ0_length_8abf5_5 : decode cJ0_length_8abf5 5 = .ok (.aload_n 0, 1) := by decide +kernel
theorem dJ0_length_8abf5_6 : decode cJ0_length_8abf5 6 = .ok (.invokevirtual 335, 3) := by decide +kernel
theorem dJ0_length_8abf5_9 : decode cJ0_length_8abf5 9 = .ok (.ishr, 1) := by decide +kernel
theorem dJ0_length_8abf5_10 : decode cJ0_length_8abf5 10 = .ok (.ireturn, 1) := by decide +kernel
theorem dJ0_charAt_5068e_0 : decode cJ0_charAt_5068e 0 = .ok (.aload_n 0, 1) := by decide +kernel
theorem dJ0_charAt_5068e_1 : decode cJ0_charAt_5068e 1 = .ok (.invokevirtual 492, 3) := by decide +kernel
theorem dJ0_charAt_5068e_4 : decode cJ0_charAt_5068e 4 = .ok (.ifCond .eq 12, 3) := by decide +kernel
theorem dJ0_charAt_5068e_7 : decode cJ0_charAt_5068e 7 = .ok (.aload_n 0, 1) := by decide +kernel
theorem dJ0_charAt_5068e_8 : decode cJ0_charAt_5068e 8 = .ok (.getfield 9, 3) := by decide +kernel
theorem dJ0_charAt_5068e_11 : decode cJ0_charAt_5068e 11 = .ok (.iload_n 1, 1) := by decide +kernel
theorem dJ0_charAt_5068e_12 : decode cJ0_charAt_5068e 12 = .ok (.invokestatic 495, 3) := by decide +kernel
theorem dJ0_charAt_5068e_15 : decode cJ0_charAt_5068e 15 = .ok (.ireturn, 1) := by decide +kernel
theorem dJ0_charAt_5068e_16 : decode cJ0_charAt_5068e 16 = .ok (.aload_n 0, 1) := by decide +kernel
theorem dJ0_charAt_5068e_17 : decode cJ0_charAt_5068e 17 = .ok (.getfield 9, 3) := by decide +kernel
theorem dJ0_charAt_5068e_20 : decode cJ0_charAt_5068e 20 = .ok (.iload_n 1, 1) := by decide +kernel
theorem dJ0_charAt_5068e_21 : decode cJ0_charAt_5068e 21 = .ok (.invokestatic 498, 3) := by decide +kernel
theorem dJ0_charAt_5068e_24 : decode cJ0_charAt_5068e 24 = .ok (.ireturn, 1) := by decide +kernel
theorem dJ0_indexOf_0f7a4_0 : decode cJ0_indexOf_0f7a4 0 = .ok (.aload_n 0, 1) := by decide +kernel
theorem dJ0_indexOf_0f7a4_1 : decode cJ0_indexOf_0f7a4 1 = .ok (.iload_n 1, 1) := by decide +kernel
theorem dJ0_indexOf_0f7a4_2 : decode cJ0_indexOf_0f7a4 2 = .ok (.iconst 0, 1) := by decide +kernel
theorem dJ0_indexOf_0f7a4_3 : decode cJ0_indexOf_0f7a4 3 = .ok (.invokevirtual 633, 3) := by decide +kernel
theorem dJ0_indexOf_0f7a4_6 : decode cJ0_indexOf_0f7a4 6 = .ok (.ireturn, 1) := by decide +kernel
theorem dJ0_indexOf_7cf53_0 : decode cJ0_indexOf_7cf53 0 = .ok (.aload_n 0, 1) := by decide +kernel
theorem dJ0_indexOf_7cf53_1 : decode cJ0_indexOf_7cf53 1 = .ok (.invokevirtual 492, 3) := by decide +kernel
theorem dJ0_indexOf_7cf53_4 : decode cJ0_indexOf_7cf53 4 = .ok (.ifCond .eq 19, 3) := by decide +kernel
theorem dJ0_indexOf_7cf53_7 : decode cJ0_indexOf_7cf53 7 = .ok (.aload_n 0, 1) := by decide +kernel
theorem dJ0_indexOf_7cf53_8 : decode cJ0_indexOf_7cf53 8 = .ok (.getfield 9, 3) := by decide +kernel
theorem dJ0_indexOf_7cf53_11 : decode cJ0_indexOf_7cf53 11 = .ok (.iload_n 1, 1) := by decide +kernel
theorem dJ0_indexOf_7cf53_12 : decode cJ0_indexOf_7cf53 12 = .ok (.iload_n 2, 1) := by decide +kernel
theorem dJ0_indexOf_7cf53_13 : decode cJ0_indexOf_7cf53 13 = .ok (.aload_n 0, 1) := by decide +kernel
theorem dJ0_indexOf_7cf53_14 : decode cJ0_indexOf_7cf53 14 = .ok (.invokevirtual 505, 3) := by decide +kernel
theorem dJ0_indexOf_7cf53_17 : decode cJ0_indexOf_7cf53 17 = .ok (.invokestatic 637, 3) := by decide +kernel
theorem dJ0_indexOf_7cf53_20 : decode cJ0_indexOf_7cf53 20 = .ok (.goto 16, 3) := by decide +kernel
theorem dJ0_indexOf_7cf53_23 : decode cJ0_indexOf_7cf53 23 = .ok (.aload_n 0, 1) := by decide +kernel
theorem dJ0_indexOf_7cf53_24 : decode cJ0_indexOf_7cf53 24 = .ok (.getfield 9, 3) := by decide +kernel
theorem dJ0_indexOf_7cf53_27 : decode cJ0_indexOf_7cf53 27 = .ok (.iload_n 1, 1) := by decide +kernel
theorem dJ0_indexOf_7cf53_28 : decode cJ0_indexOf_7cf53 28 = .ok (.iload_n 2, 1) := by decide +kernel
theorem dJ0_indexOf_7cf53_29 : decode cJ0_indexOf_7cf53 29 = .ok (.aload_n 0, 1) := by decide +kernel
theorem dJ0_indexOf_7cf53_30 : decode cJ0_indexOf_7cf53 30 = .ok (.invokevirtual 505, 3) := by decide +kernel
theorem dJ0_indexOf_7cf53_33 : decode cJ0_indexOf_7cf53 33 = .ok (.invokestatic 640, 3) := by decide +kernel
theorem dJ0_indexOf_7cf53_36 : decode cJ0_indexOf_7cf53 36 = .ok (.ireturn, 1) := by decide +kernel
theorem dJ0_coder_7d493_0 : decode cJ0_coder_7d493 0 = .ok (.getstatic 38, 3) := by decide +kernel
theorem dJ0_coder_7d493_3 : decode cJ0_coder_7d493 3 = .ok (.ifCond .eq 10, 3) := by decide +kernel
theorem dJ0_coder_7d493_6 : decode cJ0_coder_7d493 6 = .ok (.aload_n 0, 1) := by decide +kernel
theorem dJ0_coder_7d493_7 : decode cJ0_coder_7d493 7 = .ok (.getfield 15, 3) := by decide +kernel
theorem dJ0_coder_7d493_10 : decode cJ0_coder_7d493 10 = .ok (.goto 4, 3) := by decide +kernel
theorem dJ0_coder_7d493_13 : decode cJ0_coder_7d493 13 = .ok (.iconst 1, 1) := by decide +kernel
theorem dJ0_coder_7d493_14 : decode cJ0_coder_7d493 14 = .ok (.ireturn, 1) := by decide +kernel
theorem dJ0_isLatin1_aae02_0 : decode cJ0_isLatin1_aae02 0 = .ok (.getstatic 38, 3) := by decide +kernel
theorem dJ0_isLatin1_aae02_3 : decode cJ0_isLatin1_aae02 3 = .ok (.ifCond .eq 14, 3) := by decide +kernel
theorem dJ0_isLatin1_aae02_6 : decode cJ0_isLatin1_aae02 6 = .ok (.aload_n 0, 1) := by decide +kernel
theorem dJ0_isLatin1_aae02_7 : decode cJ0_isLatin1_aae02 7 = .ok (.getfield 15, 3) := by decide +kernel
theorem dJ0_isLatin1_aae02_10 : decode cJ0_isLatin1_aae02 10 = .ok (.ifCond .ne 7, 3) := by decide +kernel
theorem dJ0_isLatin1_aae02_13 : decode cJ0_isLatin1_aae02 13 = .ok (.iconst 1, 1) := by decide +kernel
theorem dJ0_isLatin1_aae02_14 : decode cJ0_isLatin1_aae02 14 = .ok (.goto 4, 3) := by decide +kernel
theorem dJ0_isLatin1_aae02_17 : decode cJ0_isLatin1_aae02 17 = .ok (.iconst 0, 1) := by decide +kernel
theorem dJ0_isLatin1_aae02_18 : decode cJ0_isLatin1_aae02 18 = .ok (.ireturn, 1) := by decide +kernel
theorem dJ0_checkIndex_df160_0 : decode cJ0_checkIndex_df160 0 = .ok (.iload_n 0, 1) := by decide +kernel
theorem dJ0_checkIndex_df160_1 : decode cJ0_checkIndex_df160 1 = .ok (.iload_n 1, 1) := by decide +kernel
theorem dJ0_checkIndex_df160_2 : decode cJ0_checkIndex_df160 2 = .ok (.getstatic 1053, 3) := by decide +kernel
theorem dJ0_checkIndex_df160_5 : decode cJ0_checkIndex_df160 5 = .ok (.invokestatic 1059, 3) := by decide +kernel
theorem dJ0_checkIndex_df160_8 : decode cJ0_checkIndex_df160 8 = .ok (.pop, 1) := by decide +kernel
theorem dJ0_checkIndex_df160_9 : decode cJ0_checkIndex_df160 9 = .ok (.return_, 1) := by decide +kernel
theorem dJ0_checkBoundsOffCount_cabcc_0 : decode cJ0_checkBoundsOffCount_cabcc 0 = .ok (.iload_n 0, 1) := by decide +kernel
theorem dJ0_checkBoundsOffCount_cabcc_1 : decode cJ0_checkBoundsOffCount_cabcc 1 = .ok (.iload_n 1, 1) := by decide +kernel
theorem dJ0_checkBoundsOffCount_cabcc_2 : decode cJ0_checkBoundsOffCount_cabcc 2 = .ok (.iload_n 2, 1) := by decide +kernel
theorem dJ0_checkBoundsOffCount_cabcc_3 : decode cJ0_checkBoundsOffCount_cabcc 3 = .ok (.getstatic 1053, 3) := by decide +kernel
theorem dJ0_checkBoundsOffCount_cabcc_6 : decode cJ0_checkBoundsOffCount_cabcc 6 = .ok (.invokestatic 1065, 3) := by decide +kernel
theorem dJ0_checkBoundsOffCount_cabcc_9 : decode cJ0_checkBoundsOffCount_cabcc 9 = .ok (.ireturn, 1) := by decide +kernel
theorem dJ0_checkBoundsBeginEnd_23922_0 : decode cJ0_checkBoundsBeginEnd_23922 0 = .ok (.iload_n 0, 1) := by decide +kernel
theorem dJ0_checkBoundsBeginEnd_23922_1 : decode cJ0_checkBoundsBeginEnd_23922 1 = .ok (.iload_n 1, 1) := by decide +kernel
theorem dJ0_checkBoundsBeginEnd_23922_2 : decode cJ0_checkBoundsBeginEnd_23922 2 = .ok (.iload_n 2, 1) := by decide +kernel
theorem dJ0_checkBoundsBeginEnd_23922_3 : decode cJ0_checkBoundsBeginEnd_23922 3 = .ok (.getstatic 1053, 3) := by decide +kernel
theorem dJ0_checkBoundsBeginEnd_23922_6 : decode cJ0_checkBoundsBeginEnd_23922 6 = .ok (.invokestatic 1062, 3) := by decide +kernel
theorem dJ0_checkBoundsBeginEnd_23922_9 : decode cJ0_checkBoundsBeginEnd_23922 9 = .ok (.pop, 1) := by decide +kernel
theorem dJ0_checkBoundsBeginEnd_23922_10 : decode cJ0_checkBoundsBeginEnd_23922 10 = .ok (.return_, 1) := by decide +kernel
theorem dJ4_init_da8c8_0 : decode cJ4_init_da8c8 0 = .ok (.aload_n 0, 1) := by decide +kernel
theorem dJ4_init_da8c8_1 : decode cJ4_init_da8c8 1 = .ok (.bipush 16, 2) := by decide +kernel
theorem dJ4_init_da8c8_3 : decode cJ4_init_da8c8 3 = .ok (.invokespecial 1, 3) := by decide +kernel
theorem dJ4_init_da8c8_6 : decode cJ4_init_da8c8 6 = .ok (.return_, 1) := by decide +kernel
theorem dJ4_append_cf468_0 : decode cJ4_append_cf468 0 = .ok (.aload_n 0, 1) := by decide +kernel
theorem dJ4_append_cf468_1 : decode cJ4_append_cf468 1 = .ok (.iload_n 1, 1) := by decide +kernel
theorem dJ4_append_cf468_2 : decode cJ4_append_cf468 2 = .ok (.invokespecial 50, 3) := by decide +kernel
theorem dJ4_append_cf468_5 : decode cJ4_append_cf468 5 = .ok (.pop, 1) := by decide +kernel
theorem dJ4_append_cf468_6 : decode cJ4_append_cf468 6 = .ok (.aload_n 0, 1) := by decide +kernel
theorem dJ4_append_cf468_7 : decode cJ4_append_cf468 7 = .ok (.areturn, 1) := by decide +kernel
theorem dJ4_append_f7089_0 : decode cJ4_append_f7089 0 = .ok (.aload_n 0, 1) := by decide +kernel
theorem dJ4_append_f7089_1 : decode cJ4_append_f7089 1 = .ok (.lload_n 1, 1) := by decide +kernel
theorem dJ4_append_f7089_2 : decode cJ4_append_f7089 2 = .ok (.invokespecial 56, 3) := by decide +kernel
theorem dJ4_append_f7089_5 : decode cJ4_append_f7089 5 = .ok (.pop, 1) := by decide +kernel
theorem dJ4_append_f7089_6 : decode cJ4_append_f7089 6 = .ok (.aload_n 0, 1) := by decide +kernel
theorem dJ4_append_f7089_7 : decode cJ4_append_f7089 7 = .ok (.areturn, 1) := by decide +kernel
theorem dJ4_charAt_5068e_0 : decode cJ4_charAt_5068e 0 = .ok (.aload_n 0, 1) := by decide +kernel
theorem dJ4_charAt_5068e_1 : decode cJ4_charAt_5068e 1 = .ok (.iload_n 1, 1) := by decide +kernel
theorem dJ4_charAt_5068e_2 : decode cJ4_charAt_5068e 2 = .ok (.invokespecial 329, 3) := by decide +kernel
theorem dJ4_charAt_5068e_5 : decode cJ4_charAt_5068e 5 = .ok (.ireturn, 1) := by decide +kernel
theorem dJ4_length_8abf5_0 : decode cJ4_length_8abf5 0 = .ok (.aload_n 0, 1) := by decide +kernel
theorem dJ4_length_8abf5_1 : decode cJ4_length_8abf5 1 = .ok (.invokespecial 343, 3) := by decide +kernel
theorem dJ4_length_8abf5_4 : decode cJ4_length_8abf5 4 = .ok (.ireturn, 1) := by decide +kernel
theorem dJ1_charAt_3b067_0 : decode cJ1_charAt_3b067 0 = .ok (.iload_n 1, 1) := by decide +kernel
theorem dJ1_charAt_3b067_1 : decode cJ1_charAt_3b067 1 = .ok (.aload_n 0, 1) := by decide +kernel
theorem dJ1_charAt_3b067_2 : decode cJ1_charAt_3b067 2 = .ok (.arraylength, 1) := by decide +kernel
theorem dJ1_charAt_3b067_3 : decode cJ1_charAt_3b067 3 = .ok (.invokestatic 9, 3) := by decide +kernel
theorem dJ1_charAt_3b067_6 : decode cJ1_charAt_3b067 6 = .ok (.aload_n 0, 1) := by decide +kernel
theorem dJ1_charAt_3b067_7 : decode cJ1_charAt_3b067 7 = .ok (.iload_n 1, 1) := by decide +kernel
theorem dJ1_charAt_3b067_8 : decode cJ1_charAt_3b067 8 = .ok (.baload, 1) := by decide +kernel
theorem dJ1_charAt_3b067_9 : decode cJ1_charAt_3b067 9 = .ok (.sipush 255, 3) := by decide +kernel
theorem dJ1_charAt_3b067_12 : decode cJ1_charAt_3b067 12 = .ok (.iand, 1) := by decide +kernel
theorem dJ1_charAt_3b067_13 : decode cJ1_charAt_3b067 13 = .ok (.i2c, 1) := by decide +kernel
theorem dJ1_charAt_3b067_14 : decode cJ1_charAt_3b067 14 = .ok (.ireturn, 1) := by decide +kernel
theorem dJ1_canEncode_fc78d_0 : decode cJ1_canEncode_fc78d 0 = .ok (.iload_n 0, 1) := by decide +kernel
theorem dJ1_canEncode_fc78d_1 : decode cJ1_canEncode_fc78d 1 = .ok (.sipush 255, 3) := by decide +kernel
theorem dJ1_canEncode_fc78d_4 : decode cJ1_canEncode_fc78d 4 = .ok (.if_icmp .gt 7, 3) := by decide +kernel
theorem dJ1_canEncode_fc78d_7 : decode cJ1_canEncode_fc78d 7 = .ok (.iconst 1, 1) := by decide +kernel
theorem dJ1_canEncode_fc78d_8 : decode cJ1_canEncode_fc78d 8 = .ok (.goto 4, 3) := by decide +kernel
theorem dJ1_canEncode_fc78d_11 : decode cJ1_canEncode_fc78d 11 = .ok (.iconst 0, 1) := by decide +kernel
theorem dJ1_canEncode_fc78d_12 : decode cJ1_canEncode_fc78d 12 = .ok (.ireturn, 1) := by decide +kernel
theorem dJ1_canEncode_9a6ad_0 : decode cJ1_canEncode_9a6ad 0 = .ok (.iload_n 0, 1) := by decide +kernel
theorem dJ1_canEncode_9a6ad_1 : decode cJ1_canEncode_9a6ad 1 = .ok (.ifCond .lt 14, 3) := by decide +kernel
theorem dJ1_canEncode_9a6ad_4 : decode cJ1_canEncode_9a6ad 4 = .ok (.iload_n 0, 1) := by decide +kernel
theorem dJ1_canEncode_9a6ad_5 : decode cJ1_canEncode_9a6ad 5 = .ok (.sipush 255, 3) := by decide +kernel
theorem dJ1_canEncode_9a6ad_8 : decode cJ1_canEncode_9a6ad 8 = .ok (.if_icmp .gt 7, 3) := by decide +kernel
theorem dJ1_canEncode_9a6ad_11 : decode cJ1_canEncode_9a6ad 11 = .ok (.iconst 1, 1) := by decide +kernel
theorem dJ1_canEncode_9a6ad_12 : decode cJ1_canEncode_9a6ad 12 = .ok (.goto 4, 3) := by decide +kernel
theorem dJ1_canEncode_9a6ad_15 : decode cJ1_canEncode_9a6ad 15 = .ok (.iconst 0, 1) := by decide +kernel
theorem dJ1_canEncode_9a6ad_16 : decode cJ1_canEncode_9a6ad 16 = .ok (.ireturn, 1) := by decide +kernel
theorem dJ1_indexOf_4cfef_0 : decode cJ1_indexOf_4cfef 0 = .ok (.iload_n 1, 1) := by decide +kernel
theorem dJ1_indexOf_4cfef_1 : decode cJ1_indexOf_4cfef 1 = .ok (.invokestatic 88, 3) := by decide +kernel
theorem dJ1_indexOf_4cfef_4 : decode cJ1_indexOf_4cfef 4 = .ok (.ifCond .ne 5, 3) := by decide +kernel
theorem dJ1_indexOf_4cfef_7 : decode cJ1_indexOf_4cfef 7 = .ok (.iconst (-1), 1) := by decide +kernel
theorem dJ1_indexOf_4cfef_8 : decode cJ1_indexOf_4cfef 8 = .ok (.ireturn, 1) := by decide +kernel
theorem dJ1_indexOf_4cfef_9 : decode cJ1_indexOf_4cfef 9 = .ok (.iload_n 2, 1) := by decide +kernel
theorem dJ1_indexOf_4cfef_10 : decode cJ1_indexOf_4cfef 10 = .ok (.iconst 0, 1) := by decide +kernel
theorem dJ1_indexOf_4cfef_11 : decode cJ1_indexOf_4cfef 11 = .ok (.invokestatic 92, 3) := by decide +kernel
theorem dJ1_indexOf_4cfef_14 : decode cJ1_indexOf_4cfef 14 = .ok (.istore_n 2, 1) := by decide +kernel
theorem dJ1_indexOf_4cfef_15 : decode cJ1_indexOf_4cfef 15 = .ok (.iload_n 3, 1) := by decide +kernel
theorem dJ1_indexOf_4cfef_16 : decode cJ1_indexOf_4cfef 16 = .ok (.aload_n 0, 1) := by decide +kernel
theorem dJ1_indexOf_4cfef_17 : decode cJ1_indexOf_4cfef 17 = .ok (.arraylength, 1) := by decide +kernel
theorem dJ1_indexOf_4cfef_18 : decode cJ1_indexOf_4cfef 18 = .ok (.invokestatic 38, 3) := by decide +kernel
theorem dJ1_indexOf_4cfef_21 : decode cJ1_indexOf_4cfef 21 = .ok (.istore_n 3, 1) := by decide +kernel
theorem dJ1_indexOf_4cfef_22 : decode cJ1_indexOf_4cfef 22 = .ok (.iload_n 2, 1) := by decide +kernel
theorem dJ1_indexOf_4cfef_23 : decode cJ1_indexOf_4cfef 23 = .ok (.iload_n 3, 1) := by decide +kernel
theorem dJ1_indexOf_4cfef_24 : decode cJ1_indexOf_4cfef 24 = .ok (.if_icmp .lt 5, 3) := by decide +kernel
theorem dJ1_indexOf_4cfef_27 : decode cJ1_indexOf_4cfef 27 = .ok (.iconst (-1), 1) := by decide +kernel
theorem dJ1_indexOf_4cfef_28 : decode cJ1_indexOf_4cfef 28 = .ok (.ireturn, 1) := by decide +kernel
theorem dJ1_indexOf_4cfef_29 : decode cJ1_indexOf_4cfef 29 = .ok (.aload_n 0, 1) := by decide +kernel
theorem dJ1_indexOf_4cfef_30 : decode cJ1_indexOf_4cfef 30 = .ok (.iload_n 1, 1) := by decide +kernel
theorem dJ1_indexOf_4cfef_31 : decode cJ1_indexOf_4cfef 31 = .ok (.iload_n 2, 1) := by decide +kernel
theorem dJ1_indexOf_4cfef_32 : decode cJ1_indexOf_4cfef 32 = .ok (.iload_n 3, 1) := by decide +kernel
theorem dJ1_indexOf_4cfef_33 : decode cJ1_indexOf_4cfef 33 = .ok (.invokestatic 95, 3) := by decide +kernel
theorem dJ1_indexOf_4cfef_36 : decode cJ1_indexOf_4cfef 36 = .ok (.ireturn, 1) := by decide +kernel
theorem dJ1_indexOfChar_4cfef_0 : decode cJ1_indexOfChar_4cfef 0 = .ok (.iload_n 1, 1) := by decide +kernel
theorem dJ1_indexOfChar_4cfef_1 : decode cJ1_indexOfChar_4cfef 1 = .ok (.i2b, 1) := by decide +kernel
theorem dJ1_indexOfChar_4cfef_2 : decode cJ1_indexOfChar_4cfef 2 = .ok (.istore 4, 2) := by decide +kernel
theorem dJ1_indexOfChar_4cfef_4 : decode cJ1_indexOfChar_4cfef 4 = .ok (.iload_n 2, 1) := by decide +kernel
theorem dJ1_indexOfChar_4cfef_5 : decode cJ1_indexOfChar_4cfef 5 = .ok (.istore 5, 2) := by decide +kernel
theorem dJ1_indexOfChar_4cfef_7 : decode cJ1_indexOfChar_4cfef 7 = .ok (.iload 5, 2) := by decide +kernel
theorem dJ1_indexOfChar_4cfef_9 : decode cJ1_indexOfChar_4cfef 9 = .ok (.iload_n 3, 1) := by decide +kernel
theorem dJ1_indexOfChar_4cfef_10 : decode cJ1_indexOfChar_4cfef 10 = .ok (.if_icmp .ge 21, 3) := by decide +kernel
theorem dJ1_indexOfChar_4cfef_13 : decode cJ1_indexOfChar_4cfef 13 = .ok (.aload_n 0, 1) := by decide +kernel
theorem dJ1_indexOfChar_4cfef_14 : decode cJ1_indexOfChar_4cfef 14 = .ok (.iload 5, 2) := by decide +kernel
theorem dJ1_indexOfChar_4cfef_16 : decode cJ1_indexOfChar_4cfef 16 = .ok (.baload, 1) := by decide +kernel
theorem dJ1_indexOfChar_4cfef_17 : decode cJ1_indexOfChar_4cfef 17 = .ok (.iload 4, 2) := by decide +kernel
theorem dJ1_indexOfChar_4cfef_19 : decode cJ1_indexOfChar_4cfef 19 = .ok (.if_icmp .ne 6, 3) := by decide +kernel
theorem dJ1_indexOfChar_4cfef_22 : decode cJ1_indexOfChar_4cfef 22 = .ok (.iload 5, 2) := by decide +kernel
theorem dJ1_indexOfChar_4cfef_24 : decode cJ1_indexOfChar_4cfef 24 = .ok (.ireturn, 1) := by decide +kernel
theorem dJ1_indexOfChar_4cfef_25 : decode cJ1_indexOfChar_4cfef 25 = .ok (.iinc 5 1, 3) := by decide +kernel
theorem dJ1_indexOfChar_4cfef_28 : decode cJ1_indexOfChar_4cfef 28 = .ok (.goto (-21), 3) := by decide +kernel
theorem dJ1_indexOfChar_4cfef_31 : decode cJ1_indexOfChar_4cfef 31 = .ok (.iconst (-1), 1) := by decide +kernel
theorem dJ1_indexOfChar_4cfef_32 : decode cJ1_indexOfChar_4cfef 32 = .ok (.ireturn, 1) := by decide +kernel
theorem dJ1_inflate_0e8fd_0 : decode cJ1_inflate_0e8fd 0 = .ok (.aload_n 0, 1) := by decide +kernel
theorem dJ1_inflate_0e8fd_1 : decode cJ1_inflate_0e8fd 1 = .ok (.iload_n 1, 1) := by decide +kernel
theorem dJ1_inflate_0e8fd_2 : decode cJ1_inflate_0e8fd 2 = .ok (.aload_n 2, 1) := by decide +kernel
theorem dJ1_inflate_0e8fd_3 : decode cJ1_inflate_0e8fd 3 = .ok (.iload_n 3, 1) := by decide +kernel
theorem dJ1_inflate_0e8fd_4 : decode cJ1_inflate_0e8fd 4 = .ok (.iload 4, 2) := by decide +kernel
theorem dJ1_inflate_0e8fd_6 : decode cJ1_inflate_0e8fd 6 = .ok (.invokestatic 240, 3) := by decide +kernel
theorem dJ1_inflate_0e8fd_9 : decode cJ1_inflate_0e8fd 9 = .ok (.return_, 1) := by decide +kernel
theorem dJ2_newBytesFor_77867_0 : decode cJ2_newBytesFor_77867 0 = .ok (.iload_n 0, 1) := by decide +kernel
theorem dJ2_newBytesFor_77867_1 : decode cJ2_newBytesFor_77867 1 = .ok (.invokestatic 11, 3) := by decide +kernel
theorem dJ2_newBytesFor_77867_4 : decode cJ2_newBytesFor_77867 4 = .ok (.newarray .byte, 2) := by decide +kernel
theorem dJ2_newBytesFor_77867_6 : decode cJ2_newBytesFor_77867 6 = .ok (.areturn, 1) := by decide +kernel
theorem dJ2_newBytesLength_0f7a4_0 : decode cJ2_newBytesLength_0f7a4 0 = .ok (.iload_n 0, 1) := by decide +kernel
theorem dJ2_newBytesLength_0f7a4_1 : decode cJ2_newBytesLength_0f7a4 1 = .ok (.ifCond .ge 11, 3) := by decide +kernel
theorem dJ2_newBytesLength_0f7a4_4 : decode cJ2_newBytesLength_0f7a4 4 = .ok (.new 17, 3) := by decide +kernel
theorem dJ2_newBytesLength_0f7a4_7 : decode cJ2_newBytesLength_0f7a4 7 = .ok (.dup, 1) := by decide +kernel
theorem dJ2_newBytesLength_0f7a4_8 : decode cJ2_newBytesLength_0f7a4 8 = .ok (.invokespecial 19, 3) := by decide +kernel
theorem dJ2_newBytesLength_0f7a4_11 : decode cJ2_newBytesLength_0f7a4 11 = .ok (.athrow, 1) := by decide +kernel
theorem dJ2_newBytesLength_0f7a4_12 : decode cJ2_newBytesLength_0f7a4 12 = .ok (.iload_n 0, 1) := by decide +kernel
theorem dJ2_newBytesLength_0f7a4_13 : decode cJ2_newBytesLength_0f7a4 13 = .ok (.ldc 20, 2) := by decide +kernel
theorem dJ2_newBytesLength_0f7a4_15 : decode cJ2_newBytesLength_0f7a4 15 = .ok (.if_icmp .lt 40, 3) := by decide +kernel
theorem dJ2_newBytesLength_0f7a4_18 : decode cJ2_newBytesLength_0f7a4 18 = .ok (.new 21, 3) := by decide +kernel
theorem dJ2_newBytesLength_0f7a4_21 : decode cJ2_newBytesLength_0f7a4 21 = .ok (.dup, 1) := by decide +kernel
theorem dJ2_newBytesLength_0f7a4_22 : decode cJ2_newBytesLength_0f7a4 22 = .ok (.new 23, 3) := by decide +kernel
theorem dJ2_newBytesLength_0f7a4_25 : decode cJ2_newBytesLength_0f7a4 25 = .ok (.dup, 1) := by decide +kernel
theorem dJ2_newBytesLength_0f7a4_26 : decode cJ2_newBytesLength_0f7a4 26 = .ok (.invokespecial 25, 3) := by decide +kernel
theorem dJ2_newBytesLength_0f7a4_29 : decode cJ2_newBytesLength_0f7a4 29 = .ok (.ldc 26, 2) := by decide +kernel
theorem dJ2_newBytesLength_0f7a4_31 : decode cJ2_newBytesLength_0f7a4 31 = .ok (.invokevirtual 28, 3) := by decide +kernel
theorem dJ2_newBytesLength_0f7a4_34 : decode cJ2_newBytesLength_0f7a4 34 = .ok (.iload_n 0, 1) := by decide +kernel
theorem dJ2_newBytesLength_0f7a4_35 : decode cJ2_newBytesLength_0f7a4 35 = .ok (.invokevirtual 32, 3) := by decide +kernel
theorem dJ2_newBytesLength_0f7a4_38 : decode cJ2_newBytesLength_0f7a4 38 = .ok (.ldc 35, 2) := by decide +kernel
theorem dJ2_newBytesLength_0f7a4_40 : decode cJ2_newBytesLength_0f7a4 40 = .ok (.invokevirtual 28, 3) := by decide +kernel
theorem dJ2_newBytesLength_0f7a4_43 : decode cJ2_newBytesLength_0f7a4 43 = .ok (.ldc 20, 2) := by decide +kernel
theorem dJ2_newBytesLength_0f7a4_45 : decode cJ2_newBytesLength_0f7a4 45 = .ok (.invokevirtual 32, 3) := by decide +kernel
theorem dJ2_newBytesLength_0f7a4_48 : decode cJ2_newBytesLength_0f7a4 48 = .ok (.invokevirtual 37, 3) := by decide +kernel
theorem dJ2_newBytesLength_0f7a4_51 : decode cJ2_newBytesLength_0f7a4 51 = .ok (.invokespecial 41, 3) := by decide +kernel
theorem dJ2_newBytesLength_0f7a4_54 : decode cJ2_newBytesLength_0f7a4 54 = .ok (.athrow, 1) := by decide +kernel
theorem dJ2_newBytesLength_0f7a4_55 : decode cJ2_newBytesLength_0f7a4 55 = .ok (.iload_n 0, 1) := by decide +kernel
theorem dJ2_newBytesLength_0f7a4_56 : decode cJ2_newBytesLength_0f7a4 56 = .ok (.iconst 1, 1) := by decide +kernel
theorem dJ2_newBytesLength_0f7a4_57 : decode cJ2_newBytesLength_0f7a4 57 = .ok (.ishl, 1) := by decide +kernel
theorem dJ2_newBytesLength_0f7a4_58 : decode cJ2_newBytesLength_0f7a4 58 = .ok (.ireturn, 1) := by decide +kernel
theorem dJ2_putChar_b72d1_0 : decode cJ2_putChar_b72d1 0 = .ok (.getstatic 44, 3) := by decide +kernel
theorem dJ2_putChar_b72d1_3 : decode cJ2_putChar_b72d1 3 = .ok (.ifCond .ne 25, 3) := by decide +kernel
theorem dJ2_putChar_b72d1_6 : decode cJ2_putChar_b72d1 6 = .ok (.iload_n 1, 1) := by decide +kernel
theorem dJ2_putChar_b72d1_7 : decode cJ2_putChar_b72d1 7 = .ok (.ifCond .lt 11, 3) := by decide +kernel
theorem dJ2_putChar_b72d1_10 : decode cJ2_putChar_b72d1 10 = .ok (.iload_n 1, 1) := by decide +kernel
theorem dJ2_putChar_b72d1_11 : decode cJ2_putChar_b72d1 11 = .ok (.aload_n 0, 1) := by decide +kernel
theorem dJ2_putChar_b72d1_12 : decode cJ2_putChar_b72d1 12 = .ok (.invokestatic 48, 3) := by decide +kernel
theorem dJ2_putChar_b72d1_15 : decode cJ2_putChar_b72d1 15 = .ok (.if_icmp .lt 13, 3) := by decide +kernel
theorem dJ2_putChar_b72d1_18 : decode cJ2_putChar_b72d1 18 = .ok (.new 52, 3) := by decide +kernel
theorem dJ2_putChar_b72d1_21 : decode cJ2_putChar_b72d1 21 = .ok (.dup, 1) := by decide +kernel
theorem dJ2_putChar_b72d1_22 : decode cJ2_putChar_b72d1 22 = .ok (.ldc 54, 2) := by decide +kernel
theorem dJ2_putChar_b72d1_24 : decode cJ2_putChar_b72d1 24 = .ok (.invokespecial 56, 3) := by decide +kernel
theorem dJ2_putChar_b72d1_27 : decode cJ2_putChar_b72d1 27 = .ok (.athrow, 1) := by decide +kernel
theorem dJ2_putChar_b72d1_28 : decode cJ2_putChar_b72d1 28 = .ok (.iload_n 1, 1) := by decide +kernel
theorem dJ2_putChar_b72d1_29 : decode cJ2_putChar_b72d1 29 = .ok (.iconst 1, 1) := by decide +kernel
theorem dJ2_putChar_b72d1_30 : decode cJ2_putChar_b72d1 30 = .ok (.ishl, 1) := by decide +kernel
theorem dJ2_putChar_b72d1_31 : decode cJ2_putChar_b72d1 31 = .ok (.istore_n 1, 1) := by decide +kernel
theorem dJ2_putChar_b72d1_32 : decode cJ2_putChar_b72d1 32 = .ok (.aload_n 0, 1) := by decide +kernel
theorem dJ2_putChar_b72d1_33 : decode cJ2_putChar_b72d1 33 = .ok (.iload_n 1, 1) := by decide +kernel
theorem dJ2_putChar_b72d1_34 : decode cJ2_putChar_b72d1 34 = .ok (.iinc 1 1, 3) := by decide +kernel
theorem dJ2_putChar_b72d1_37 : decode cJ2_putChar_b72d1 37 = .ok (.iload_n 2, 1) := by decide +kernel
theorem dJ2_putChar_b72d1_38 : decode cJ2_putChar_b72d1 38 = .ok (.getstatic 59, 3) := by decide +kernel
theorem dJ2_putChar_b72d1_41 : decode cJ2_putChar_b72d1 41 = .ok (.ishr, 1) := by decide +kernel
theorem dJ2_putChar_b72d1_42 : decode cJ2_putChar_b72d1 42 = .ok (.i2b, 1) := by decide +kernel
theorem dJ2_putChar_b72d1_43 : decode cJ2_putChar_b72d1 43 = .ok (.bastore, 1) := by decide +kernel
theorem dJ2_putChar_b72d1_44 : decode cJ2_putChar_b72d1 44 = .ok (.aload_n 0, 1) := by decide +kernel
theorem dJ2_putChar_b72d1_45 : decode cJ2_putChar_b72d1 45 = .ok (.iload_n 1, 1) := by decide +kernel
theorem dJ2_putChar_b72d1_46 : decode cJ2_putChar_b72d1 46 = .ok (.iload_n 2, 1) := by decide +kernel
theorem dJ2_putChar_b72d1_47 : decode cJ2_putChar_b72d1 47 = .ok (.getstatic 63, 3) := by decide +kernel
theorem dJ2_putChar_b72d1_50 : decode cJ2_putChar_b72d1 50 = .ok (.ishr, 1) := by decide +kernel
theorem dJ2_putChar_b72d1_51 : decode cJ2_putChar_b72d1 51 = .ok (.i2b, 1) := by decide +kernel
theorem dJ2_putChar_b72d1_52 : decode cJ2_putChar_b72d1 52 = .ok (.bastore, 1) := by decide +kernel
theorem dJ2_putChar_b72d1_53 : decode cJ2_putChar_b72d1 53 = .ok (.return_, 1) := by decide +kernel
theorem dJ2_getChar_3b067_0 : decode cJ2_getChar_3b067 0 = .ok (.getstatic 44, 3) := by decide +kernel
theorem dJ2_getChar_3b067_3 : decode cJ2_getChar_3b067 3 = .ok (.ifCond .ne 25, 3) := by decide +kernel
theorem dJ2_getChar_3b067_6 : decode cJ2_getChar_3b067 6 = .ok (.iload_n 1, 1) := by decide +kernel
theorem dJ2_getChar_3b067_7 : decode cJ2_getChar_3b067 7 = .ok (.ifCond .lt 11, 3) := by decide +kernel
theorem dJ2_getChar_3b067_10 : decode cJ2_getChar_3b067 10 = .ok (.iload_n 1, 1) := by decide +kernel
theorem dJ2_getChar_3b067_11 : decode cJ2_getChar_3b067 11 = .ok (.aload_n 0, 1) := by decide +kernel
theorem dJ2_getChar_3b067_12 : decode cJ2_getChar_3b067 12 = .ok (.invokestatic 48, 3) := by decide +kernel
theorem dJ2_getChar_3b067_15 : decode cJ2_getChar_3b067 15 = .ok (.if_icmp .lt 13, 3) := by decide +kernel
theorem dJ2_getChar_3b067_18 : decode cJ2_getChar_3b067 18 = .ok (.new 52, 3) := by decide +kernel
theorem dJ2_getChar_3b067_21 : decode cJ2_getChar_3b067 21 = .ok (.dup, 1) := by decide +kernel
theorem dJ2_getChar_3b067_22 : decode cJ2_getChar_3b067 22 = .ok (.ldc 54, 2) := by decide +kernel
theorem dJ2_getChar_3b067_24 : decode cJ2_getChar_3b067 24 = .ok (.invokespecial 56, 3) := by decide +kernel
theorem dJ2_getChar_3b067_27 : decode cJ2_getChar_3b067 27 = .ok (.athrow, 1) := by decide +kernel
theorem dJ2_getChar_3b067_28 : decode cJ2_getChar_3b067 28 = .ok (.iload_n 1, 1) := by decide +kernel
theorem dJ2_getChar_3b067_29 : decode cJ2_getChar_3b067 29 = .ok (.iconst 1, 1) := by decide +kernel
theorem dJ2_getChar_3b067_30 : decode cJ2_getChar_3b067 30 = .ok (.ishl, 1) := by decide +kernel
theorem dJ2_getChar_3b067_31 : decode cJ2_getChar_3b067 31 = .ok (.istore_n 1, 1) := by decide +kernel
theorem dJ2_getChar_3b067_32 : decode cJ2_getChar_3b067 32 = .ok (.aload_n 0, 1) := by decide +kernel
theorem dJ2_getChar_3b067_33 : decode cJ2_getChar_3b067 33 = .ok (.iload_n 1, 1) := by decide +kernel
theorem dJ2_getChar_3b067_34 : decode cJ2_getChar_3b067 34 = .ok (.iinc 1 1, 3) := by decide +kernel
theorem dJ2_getChar_3b067_37 : decode cJ2_getChar_3b067 37 = .ok (.baload, 1) := by decide +kernel
theorem dJ2_getChar_3b067_38 : decode cJ2_getChar_3b067 38 = .ok (.sipush 255, 3) := by decide +kernel
theorem dJ2_getChar_3b067_41 : decode cJ2_getChar_3b067 41 = .ok (.iand, 1) := by decide +kernel
theorem dJ2_getChar_3b067_42 : decode cJ2_getChar_3b067 42 = .ok (.getstatic 59, 3) := by decide +kernel
theorem dJ2_getChar_3b067_45 : decode cJ2_getChar_3b067 45 = .ok (.ishl, 1) := by decide +kernel
theorem dJ2_getChar_3b067_46 : decode cJ2_getChar_3b067 46 = .ok (.aload_n 0, 1) := by decide +kernel
theorem dJ2_getChar_3b067_47 : decode cJ2_getChar_3b067 47 = .ok (.iload_n 1, 1) := by decide +kernel
theorem dJ2_getChar_3b067_48 : decode cJ2_getChar_3b067 48 = .ok (.baload, 1) := by decide +kernel
theorem dJ2_getChar_3b067_49 : decode cJ2_getChar_3b067 49 = .ok (.sipush 255, 3) := by decide +kernel
theorem dJ2_getChar_3b067_52 : decode cJ2_getChar_3b067 52 = .ok (.iand, 1) := by decide +kernel
theorem dJ2_getChar_3b067_53 : decode cJ2_getChar_3b067 53 = .ok (.getstatic 63, 3) := by decide +kernel
theorem dJ2_getChar_3b067_56 : decode cJ2_getChar_3b067 56 = .ok (.ishl, 1) := by decide +kernel
theorem dJ2_getChar_3b067_57 : decode cJ2_getChar_3b067 57 = .ok (.ior, 1) := by decide +kernel
theorem dJ2_getChar_3b067_58 : decode cJ2_getChar_3b067 58 = .ok (.i2c, 1) := by decide +kernel
theorem dJ2_getChar_3b067_59 : decode cJ2_getChar_3b067 59 = .ok (.ireturn, 1) := by decide +kernel
theorem dJ2_length_9d52b_0 : decode cJ2_length_9d52b 0 = .ok (.aload_n 0, 1) := by decide +kernel
theorem dJ2_length_9d52b_1 : decode cJ2_length_9d52b 1 = .ok (.arraylength, 1) := by decide +kernel
theorem dJ2_length_9d52b_2 : decode cJ2_length_9d52b 2 = .ok (.iconst 1, 1) := by decide +kernel
theorem dJ2_length_9d52b_3 : decode cJ2_length_9d52b 3 = .ok (.ishr, 1) := by decide +kernel
theorem dJ2_length_9d52b_4 : decode cJ2_length_9d52b 4 = .ok (.ireturn, 1) := by decide +kernel
theorem dJ2_indexOf_4cfef_0 : decode cJ2_indexOf_4cfef 0 = .ok (.iload_n 2, 1) := by decide +kernel
theorem dJ2_indexOf_4cfef_1 : decode cJ2_indexOf_4cfef 1 = .ok (.iconst 0, 1) := by decide +kernel
theorem dJ2_indexOf_4cfef_2 : decode cJ2_indexOf_4cfef 2 = .ok (.invokestatic 224, 3) := by decide +kernel
theorem dJ2_indexOf_4cfef_5 : decode cJ2_indexOf_4cfef 5 = .ok (.istore_n 2, 1) := by decide +kernel
theorem dJ2_indexOf_4cfef_6 : decode cJ2_indexOf_4cfef 6 = .ok (.iload_n 3, 1) := by decide +kernel
theorem dJ2_indexOf_4cfef_7 : decode cJ2_indexOf_4cfef 7 = .ok (.aload_n 0, 1) := by decide +kernel
theorem dJ2_indexOf_4cfef_8 : decode cJ2_indexOf_4cfef 8 = .ok (.arraylength, 1) := by decide +kernel
theorem dJ2_indexOf_4cfef_9 : decode cJ2_indexOf_4cfef 9 = .ok (.iconst 1, 1) := by decide +kernel
theorem dJ2_indexOf_4cfef_10 : decode cJ2_indexOf_4cfef 10 = .ok (.ishr, 1) := by decide +kernel
theorem dJ2_indexOf_4cfef_11 : decode cJ2_indexOf_4cfef 11 = .ok (.invokestatic 183, 3) := by decide +kernel
theorem dJ2_indexOf_4cfef_14 : decode cJ2_indexOf_4cfef 14 = .ok (.istore_n 3, 1) := by decide +kernel
theorem dJ2_indexOf_4cfef_15 : decode cJ2_indexOf_4cfef 15 = .ok (.iload_n 2, 1) := by decide +kernel
theorem dJ2_indexOf_4cfef_16 : decode cJ2_indexOf_4cfef 16 = .ok (.iload_n 3, 1) := by decide +kernel
theorem dJ2_indexOf_4cfef_17 : decode cJ2_indexOf_4cfef 17 = .ok (.if_icmp .lt 5, 3) := by decide +kernel
theorem dJ2_indexOf_4cfef_20 : decode cJ2_indexOf_4cfef 20 = .ok (.iconst (-1), 1) := by decide +kernel
theorem dJ2_indexOf_4cfef_21 : decode cJ2_indexOf_4cfef 21 = .ok (.ireturn, 1) := by decide +kernel
theorem dJ2_indexOf_4cfef_22 : decode cJ2_indexOf_4cfef 22 = .ok (.iload_n 1, 1) := by decide +kernel
theorem dJ2_indexOf_4cfef_23 : decode cJ2_indexOf_4cfef 23 = .ok (.ldc 227, 2) := by decide +kernel
theorem dJ2_indexOf_4cfef_25 : decode cJ2_indexOf_4cfef 25 = .ok (.if_icmp .ge 11, 3) := by decide +kernel
theorem dJ2_indexOf_4cfef_28 : decode cJ2_indexOf_4cfef 28 = .ok (.aload_n 0, 1) := by decide +kernel
theorem dJ2_indexOf_4cfef_29 : decode cJ2_indexOf_4cfef 29 = .ok (.iload_n 1, 1) := by decide +kernel
theorem dJ2_indexOf_4cfef_30 : decode cJ2_indexOf_4cfef 30 = .ok (.iload_n 2, 1) := by decide +kernel
theorem dJ2_indexOf_4cfef_31 : decode cJ2_indexOf_4cfef 31 = .ok (.iload_n 3, 1) := by decide +kernel
theorem dJ2_indexOf_4cfef_32 : decode cJ2_indexOf_4cfef 32 = .ok (.invokestatic 228, 3) := by decide +kernel
theorem dJ2_indexOf_4cfef_35 : decode cJ2_indexOf_4cfef 35 = .ok (.ireturn, 1) := by decide +kernel
theorem dJ2_indexOf_4cfef_36 : decode cJ2_indexOf_4cfef 36 = .ok (.aload_n 0, 1) := by decide +kernel
theorem dJ2_indexOf_4cfef_37 : decode cJ2_indexOf_4cfef 37 = .ok (.iload_n 1, 1) := by decide +kernel
theorem dJ2_indexOf_4cfef_38 : decode cJ2_indexOf_4cfef 38 = .ok (.iload_n 2, 1) := by decide +kernel
theorem dJ2_indexOf_4cfef_39 : decode cJ2_indexOf_4cfef 39 = .ok (.iload_n 3, 1) := by decide +kernel
theorem dJ2_indexOf_4cfef_40 : decode cJ2_indexOf_4cfef 40 = .ok (.invokestatic 232, 3) := by decide +kernel
theorem dJ2_indexOf_4cfef_43 : decode cJ2_indexOf_4cfef 43 = .ok (.ireturn, 1) := by decide +kernel
theorem dJ2_indexOfChar_4cfef_0 : decode cJ2_indexOfChar_4cfef 0 = .ok (.iload_n 2, 1) := by decide +kernel
theorem dJ2_indexOfChar_4cfef_1 : decode cJ2_indexOfChar_4cfef 1 = .ok (.iload_n 3, 1) := by decide +kernel
theorem dJ2_indexOfChar_4cfef_2 : decode cJ2_indexOfChar_4cfef 2 = .ok (.aload_n 0, 1) := by decide +kernel
theorem dJ2_indexOfChar_4cfef_3 : decode cJ2_indexOfChar_4cfef 3 = .ok (.invokestatic 96, 3) := by decide +kernel
theorem dJ2_indexOfChar_4cfef_6 : decode cJ2_indexOfChar_4cfef 6 = .ok (.aload_n 0, 1) := by decide +kernel
theorem dJ2_indexOfChar_4cfef_7 : decode cJ2_indexOfChar_4cfef 7 = .ok (.iload_n 1, 1) := by decide +kernel
theorem dJ2_indexOfChar_4cfef_8 : decode cJ2_indexOfChar_4cfef 8 = .ok (.iload_n 2, 1) := by decide +kernel
theorem dJ2_indexOfChar_4cfef_9 : decode cJ2_indexOfChar_4cfef 9 = .ok (.iload_n 3, 1) := by decide +kernel
theorem dJ2_indexOfChar_4cfef_10 : decode cJ2_indexOfChar_4cfef 10 = .ok (.invokestatic 244, 3) := by decide +kernel
theorem dJ2_indexOfChar_4cfef_13 : decode cJ2_indexOfChar_4cfef 13 = .ok (.ireturn, 1) := by decide +kernel
theorem dJ2_indexOfCharUnsafe_4cfef_0 : decode cJ2_indexOfCharUnsafe_4cfef 0 = .ok (.iload_n 2, 1) := by decide +kernel
theorem dJ2_indexOfCharUnsafe_4cfef_1 : decode cJ2_indexOfCharUnsafe_4cfef 1 = .ok (.istore 4, 2) := by decide +kernel
theorem dJ2_indexOfCharUnsafe_4cfef_3 : decode cJ2_indexOfCharUnsafe_4cfef 3 = .ok (.iload 4, 2) := by decide +kernel
theorem dJ2_indexOfCharUnsafe_4cfef_5 : decode cJ2_indexOfCharUnsafe_4cfef 5 = .ok (.iload_n 3, 1) := by decide +kernel
theorem dJ2_indexOfCharUnsafe_4cfef_6 : decode cJ2_indexOfCharUnsafe_4cfef 6 = .ok (.if_icmp .ge 22, 3) := by decide +kernel
theorem dJ2_indexOfCharUnsafe_4cfef_9 : decode cJ2_indexOfCharUnsafe_4cfef 9 = .ok (.aload_n 0, 1) := by decide +kernel
theorem dJ2_indexOfCharUnsafe_4cfef_10 : decode cJ2_indexOfCharUnsafe_4cfef 10 = .ok (.iload 4, 2) := by decide +kernel
theorem dJ2_indexOfCharUnsafe_4cfef_12 : decode cJ2_indexOfCharUnsafe_4cfef 12 = .ok (.invokestatic 71, 3) := by decide +kernel
theorem dJ2_indexOfCharUnsafe_4cfef_15 : decode cJ2_indexOfCharUnsafe_4cfef 15 = .ok (.iload_n 1, 1) := by decide +kernel
theorem dJ2_indexOfCharUnsafe_4cfef_16 : decode cJ2_indexOfCharUnsafe_4cfef 16 = .ok (.if_icmp .ne 6, 3) := by decide +kernel
theorem dJ2_indexOfCharUnsafe_4cfef_19 : decode cJ2_indexOfCharUnsafe_4cfef 19 = .ok (.iload 4, 2) := by decide +kernel
theorem dJ2_indexOfCharUnsafe_4cfef_21 : decode cJ2_indexOfCharUnsafe_4cfef 21 = .ok (.ireturn, 1) := by decide +kernel
theorem dJ2_indexOfCharUnsafe_4cfef_22 : decode cJ2_indexOfCharUnsafe_4cfef 22 = .ok (.iinc 4 1, 3) := by decide +kernel
theorem dJ2_indexOfCharUnsafe_4cfef_25 : decode cJ2_indexOfCharUnsafe_4cfef 25 = .ok (.goto (-22), 3) := by decide +kernel
theorem dJ2_indexOfCharUnsafe_4cfef_28 : decode cJ2_indexOfCharUnsafe_4cfef 28 = .ok (.iconst (-1), 1) := by decide +kernel
theorem dJ2_indexOfCharUnsafe_4cfef_29 : decode cJ2_indexOfCharUnsafe_4cfef 29 = .ok (.ireturn, 1) := by decide +kernel
theorem dJ2_indexOfSupplementary_4cfef_0 : decode cJ2_indexOfSupplementary_4cfef 0 = .ok (.iload_n 1, 1) := by decide +kernel
theorem dJ2_indexOfSupplementary_4cfef_1 : decode cJ2_indexOfSupplementary_4cfef 1 = .ok (.invokestatic 164, 3) := by decide +kernel
theorem dJ2_indexOfSupplementary_4cfef_4 : decode cJ2_indexOfSupplementary_4cfef 4 = .ok (.ifCond .eq 65, 3) := by decide +kernel
theorem dJ2_indexOfSupplementary_4cfef_7 : decode cJ2_indexOfSupplementary_4cfef 7 = .ok (.iload_n 1, 1) := by decide +kernel
theorem dJ2_indexOfSupplementary_4cfef_8 : decode cJ2_indexOfSupplementary_4cfef 8 = .ok (.invokestatic 157, 3) := by decide +kernel
theorem dJ2_indexOfSupplementary_4cfef_11 : decode cJ2_indexOfSupplementary_4cfef 11 = .ok (.istore 4, 2) := by decide +kernel
theorem dJ2_indexOfSupplementary_4cfef_13 : decode cJ2_indexOfSupplementary_4cfef 13 = .ok (.iload_n 1, 1) := by decide +kernel
theorem dJ2_indexOfSupplementary_4cfef_14 : decode cJ2_indexOfSupplementary_4cfef 14 = .ok (.invokestatic 161, 3) := by decide +kernel
theorem dJ2_indexOfSupplementary_4cfef_17 : decode cJ2_indexOfSupplementary_4cfef 17 = .ok (.istore 5, 2) := by decide +kernel
theorem dJ2_indexOfSupplementary_4cfef_19 : decode cJ2_indexOfSupplementary_4cfef 19 = .ok (.iload_n 2, 1) := by decide +kernel
theorem dJ2_indexOfSupplementary_4cfef_20 : decode cJ2_indexOfSupplementary_4cfef 20 = .ok (.iload_n 3, 1) := by decide +kernel
theorem dJ2_indexOfSupplementary_4cfef_21 : decode cJ2_indexOfSupplementary_4cfef 21 = .ok (.aload_n 0, 1) := by decide +kernel
theorem dJ2_indexOfSupplementary_4cfef_22 : decode cJ2_indexOfSupplementary_4cfef 22 = .ok (.invokestatic 96, 3) := by decide +kernel
theorem dJ2_indexOfSupplementary_4cfef_25 : decode cJ2_indexOfSupplementary_4cfef 25 = .ok (.iload_n 2, 1) := by decide +kernel
theorem dJ2_indexOfSupplementary_4cfef_26 : decode cJ2_indexOfSupplementary_4cfef 26 = .ok (.istore 6, 2) := by decide +kernel
theorem dJ2_indexOfSupplementary_4cfef_28 : decode cJ2_indexOfSupplementary_4cfef 28 = .ok (.iload 6, 2) := by decide +kernel
theorem dJ2_indexOfSupplementary_4cfef_30 : decode cJ2_indexOfSupplementary_4cfef 30 = .ok (.iload_n 3, 1) := by decide +kernel
theorem dJ2_indexOfSupplementary_4cfef_31 : decode cJ2_indexOfSupplementary_4cfef 31 = .ok (.iconst 1, 1) := by decide +kernel
theorem dJ2_indexOfSupplementary_4cfef_32 : decode cJ2_indexOfSupplementary_4cfef 32 = .ok (.isub, 1) := by decide +kernel
theorem dJ2_indexOfSupplementary_4cfef_33 : decode cJ2_indexOfSupplementary_4cfef 33 = .ok (.if_icmp .ge 36, 3) := by decide +kernel
theorem dJ2_indexOfSupplementary_4cfef_36 : decode cJ2_indexOfSupplementary_4cfef 36 = .ok (.aload_n 0, 1) := by decide +kernel
theorem dJ2_indexOfSupplementary_4cfef_37 : decode cJ2_indexOfSupplementary_4cfef 37 = .ok (.iload 6, 2) := by decide +kernel
theorem dJ2_indexOfSupplementary_4cfef_39 : decode cJ2_indexOfSupplementary_4cfef 39 = .ok (.invokestatic 71, 3) := by decide +kernel
theorem dJ2_indexOfSupplementary_4cfef_42 : decode cJ2_indexOfSupplementary_4cfef 42 = .ok (.iload 4, 2) := by decide +kernel
theorem dJ2_indexOfSupplementary_4cfef_44 : decode cJ2_indexOfSupplementary_4cfef 44 = .ok (.if_icmp .ne 19, 3) := by decide +kernel
theorem dJ2_indexOfSupplementary_4cfef_47 : decode cJ2_indexOfSupplementary_4cfef 47 = .ok (.aload_n 0, 1) := by decide +kernel
theorem dJ2_indexOfSupplementary_4cfef_48 : decode cJ2_indexOfSupplementary_4cfef 48 = .ok (.iload 6, 2) := by decide +kernel
theorem dJ2_indexOfSupplementary_4cfef_50 : decode cJ2_indexOfSupplementary_4cfef 50 = .ok (.iconst 1, 1) := by decide +kernel
theorem dJ2_indexOfSupplementary_4cfef_51 : decode cJ2_indexOfSupplementary_4cfef 51 = .ok (.iadd, 1) := by decide +kernel
theorem dJ2_indexOfSupplementary_4cfef_52 : decode cJ2_indexOfSupplementary_4cfef 52 = .ok (.invokestatic 71, 3) := by decide +kernel
theorem dJ2_indexOfSupplementary_4cfef_55 : decode cJ2_indexOfSupplementary_4cfef 55 = .ok (.iload 5, 2) := by decide +kernel
theorem dJ2_indexOfSupplementary_4cfef_57 : decode cJ2_indexOfSupplementary_4cfef 57 = .ok (.if_icmp .ne 6, 3) := by decide +kernel
theorem dJ2_indexOfSupplementary_4cfef_60 : decode cJ2_indexOfSupplementary_4cfef 60 = .ok (.iload 6, 2) := by decide +kernel
theorem dJ2_indexOfSupplementary_4cfef_62 : decode cJ2_indexOfSupplementary_4cfef 62 = .ok (.ireturn, 1) := by decide +kernel
theorem dJ2_indexOfSupplementary_4cfef_63 : decode cJ2_indexOfSupplementary_4cfef 63 = .ok (.iinc 6 1, 3) := by decide +kernel
theorem dJ2_indexOfSupplementary_4cfef_66 : decode cJ2_indexOfSupplementary_4cfef 66 = .ok (.goto (-38), 3) := by decide +kernel
theorem dJ2_indexOfSupplementary_4cfef_69 : decode cJ2_indexOfSupplementary_4cfef 69 = .ok (.iconst (-1), 1) := by decide +kernel
theorem dJ2_indexOfSupplementary_4cfef_70 : decode cJ2_indexOfSupplementary_4cfef 70 = .ok (.ireturn, 1) := by decide +kernel
theorem dJ2_putCharSB_b72d1_0 : decode cJ2_putCharSB_b72d1 0 = .ok (.iload_n 1, 1) := by decide +kernel
theorem dJ2_putCharSB_b72d1_1 : decode cJ2_putCharSB_b72d1 1 = .ok (.aload_n 0, 1) := by decide +kernel
theorem dJ2_putCharSB_b72d1_2 : decode cJ2_putCharSB_b72d1 2 = .ok (.invokestatic 67, 3) := by decide +kernel
theorem dJ2_putCharSB_b72d1_5 : decode cJ2_putCharSB_b72d1 5 = .ok (.aload_n 0, 1) := by decide +kernel
theorem dJ2_putCharSB_b72d1_6 : decode cJ2_putCharSB_b72d1 6 = .ok (.iload_n 1, 1) := by decide +kernel
theorem dJ2_putCharSB_b72d1_7 : decode cJ2_putCharSB_b72d1 7 = .ok (.iload_n 2, 1) := by decide +kernel
theorem dJ2_putCharSB_b72d1_8 : decode cJ2_putCharSB_b72d1 8 = .ok (.invokestatic 111, 3) := by decide +kernel
theorem dJ2_putCharSB_b72d1_11 : decode cJ2_putCharSB_b72d1 11 = .ok (.return_, 1) := by decide +kernel
theorem dJ2_getChars_1ba55_0 : decode cJ2_getChars_1ba55 0 = .ok (.iload_n 2, 1) := by decide +kernel
theorem dJ2_getChars_1ba55_1 : decode cJ2_getChars_1ba55 1 = .ok (.iload_n 3, 1) := by decide +kernel
theorem dJ2_getChars_1ba55_2 : decode cJ2_getChars_1ba55 2 = .ok (.aload 4, 2) := by decide +kernel
theorem dJ2_getChars_1ba55_4 : decode cJ2_getChars_1ba55 4 = .ok (.invokestatic 96, 3) := by decide +kernel
theorem dJ2_getChars_1ba55_7 : decode cJ2_getChars_1ba55 7 = .ok (.lload_n 0, 1) := by decide +kernel
theorem dJ2_getChars_1ba55_8 : decode cJ2_getChars_1ba55 8 = .ok (.iload_n 3, 1) := by decide +kernel
theorem dJ2_getChars_1ba55_9 : decode cJ2_getChars_1ba55 9 = .ok (.aload 4, 2) := by decide +kernel
theorem dJ2_getChars_1ba55_11 : decode cJ2_getChars_1ba55 11 = .ok (.invokestatic 396, 3) := by decide +kernel
theorem dJ2_getChars_1ba55_14 : decode cJ2_getChars_1ba55 14 = .ok (.istore 5, 2) := by decide +kernel
theorem dJ2_getChars_1ba55_16 : decode cJ2_getChars_1ba55 16 = .ok (.getstatic 44, 3) := by decide +kernel
theorem dJ2_getChars_1ba55_19 : decode cJ2_getChars_1ba55 19 = .ok (.ifCond .ne 17, 3) := by decide +kernel
theorem dJ2_getChars_1ba55_22 : decode cJ2_getChars_1ba55 22 = .ok (.iload_n 2, 1) := by decide +kernel
theorem dJ2_getChars_1ba55_23 : decode cJ2_getChars_1ba55 23 = .ok (.iload 5, 2) := by decide +kernel
theorem dJ2_getChars_1ba55_25 : decode cJ2_getChars_1ba55 25 = .ok (.if_icmp .eq 11, 3) := by decide +kernel
theorem dJ2_getChars_1ba55_28 : decode cJ2_getChars_1ba55 28 = .ok (.new 52, 3) := by decide +kernel
theorem dJ2_getChars_1ba55_31 : decode cJ2_getChars_1ba55 31 = .ok (.dup, 1) := by decide +kernel
theorem dJ2_getChars_1ba55_32 : decode cJ2_getChars_1ba55 32 = .ok (.invokespecial 66, 3) := by decide +kernel
theorem dJ2_getChars_1ba55_35 : decode cJ2_getChars_1ba55 35 = .ok (.athrow, 1) := by decide +kernel
theorem dJ2_getChars_1ba55_36 : decode cJ2_getChars_1ba55 36 = .ok (.iload 5, 2) := by decide +kernel
theorem dJ2_getChars_1ba55_38 : decode cJ2_getChars_1ba55 38 = .ok (.ireturn, 1) := by decide +kernel
theorem dJ2_charAt_3b067_0 : decode cJ2_charAt_3b067 0 = .ok (.iload_n 1, 1) := by decide +kernel
theorem dJ2_charAt_3b067_1 : decode cJ2_charAt_3b067 1 = .ok (.aload_n 0, 1) := by decide +kernel
theorem dJ2_charAt_3b067_2 : decode cJ2_charAt_3b067 2 = .ok (.invokestatic 67, 3) := by decide +kernel
theorem dJ2_charAt_3b067_5 : decode cJ2_charAt_3b067 5 = .ok (.aload_n 0, 1) := by decide +kernel
theorem dJ2_charAt_3b067_6 : decode cJ2_charAt_3b067 6 = .ok (.iload_n 1, 1) := by decide +kernel
theorem dJ2_charAt_3b067_7 : decode cJ2_charAt_3b067 7 = .ok (.invokestatic 71, 3) := by decide +kernel
theorem dJ2_charAt_3b067_10 : decode cJ2_charAt_3b067 10 = .ok (.ireturn, 1) := by decide +kernel
theorem dJ2_inflate_0e8fd_0 : decode cJ2_inflate_0e8fd 0 = .ok (.iload_n 3, 1) := by decide +kernel
theorem dJ2_inflate_0e8fd_1 : decode cJ2_inflate_0e8fd 1 = .ok (.iload 4, 2) := by decide +kernel
theorem dJ2_inflate_0e8fd_3 : decode cJ2_inflate_0e8fd 3 = .ok (.aload_n 2, 1) := by decide +kernel
theorem dJ2_inflate_0e8fd_4 : decode cJ2_inflate_0e8fd 4 = .ok (.invokestatic 173, 3) := by decide +kernel
theorem dJ2_inflate_0e8fd_7 : decode cJ2_inflate_0e8fd 7 = .ok (.iconst 0, 1) := by decide +kernel
theorem dJ2_inflate_0e8fd_8 : decode cJ2_inflate_0e8fd 8 = .ok (.istore 5, 2) := by decide +kernel
theorem dJ2_inflate_0e8fd_10 : decode cJ2_inflate_0e8fd 10 = .ok (.iload 5, 2) := by decide +kernel
theorem dJ2_inflate_0e8fd_12 : decode cJ2_inflate_0e8fd 12 = .ok (.iload 4, 2) := by decide +kernel
theorem dJ2_inflate_0e8fd_14 : decode cJ2_inflate_0e8fd 14 = .ok (.if_icmp .ge 27, 3) := by decide +kernel
theorem dJ2_inflate_0e8fd_17 : decode cJ2_inflate_0e8fd 17 = .ok (.aload_n 2, 1) := by decide +kernel
theorem dJ2_inflate_0e8fd_18 : decode cJ2_inflate_0e8fd 18 = .ok (.iload_n 3, 1) := by decide +kernel
theorem dJ2_inflate_0e8fd_19 : decode cJ2_inflate_0e8fd 19 = .ok (.iinc 3 1, 3) := by decide +kernel
theorem dJ2_inflate_0e8fd_22 : decode cJ2_inflate_0e8fd 22 = .ok (.aload_n 0, 1) := by decide +kernel
theorem dJ2_inflate_0e8fd_23 : decode cJ2_inflate_0e8fd 23 = .ok (.iload_n 1, 1) := by decide +kernel
theorem dJ2_inflate_0e8fd_24 : decode cJ2_inflate_0e8fd 24 = .ok (.iinc 1 1, 3) := by decide +kernel
theorem dJ2_inflate_0e8fd_27 : decode cJ2_inflate_0e8fd 27 = .ok (.baload, 1) := by decide +kernel
theorem dJ2_inflate_0e8fd_28 : decode cJ2_inflate_0e8fd 28 = .ok (.sipush 255, 3) := by decide +kernel
theorem dJ2_inflate_0e8fd_31 : decode cJ2_inflate_0e8fd 31 = .ok (.iand, 1) := by decide +kernel
theorem dJ2_inflate_0e8fd_32 : decode cJ2_inflate_0e8fd 32 = .ok (.invokestatic 111, 3) := by decide +kernel
theorem dJ2_inflate_0e8fd_35 : decode cJ2_inflate_0e8fd 35 = .ok (.iinc 5 1, 3) := by decide +kernel
theorem dJ2_inflate_0e8fd_38 : decode cJ2_inflate_0e8fd 38 = .ok (.goto (-28), 3) := by decide +kernel
theorem dJ2_inflate_0e8fd_41 : decode cJ2_inflate_0e8fd 41 = .ok (.return_, 1) := by decide +kernel
theorem dJ2_getChars_11360_0 : decode cJ2_getChars_11360 0 = .ok (.iload_n 2, 1) := by decide +kernel
theorem dJ2_getChars_11360_1 : decode cJ2_getChars_11360 1 = .ok (.istore 7, 2) := by decide +kernel
theorem dJ2_getChars_11360_3 : decode cJ2_getChars_11360 3 = .ok (.lload_n 0, 1) := by decide +kernel
theorem dJ2_getChars_11360_4 : decode cJ2_getChars_11360 4 = .ok (.lconst 0, 1) := by decide +kernel
theorem dJ2_getChars_11360_5 : decode cJ2_getChars_11360 5 = .ok (.lcmp, 1) := by decide +kernel
theorem dJ2_getChars_11360_6 : decode cJ2_getChars_11360 6 = .ok (.ifCond .ge 7, 3) := by decide +kernel
theorem dJ2_getChars_11360_9 : decode cJ2_getChars_11360 9 = .ok (.iconst 1, 1) := by decide +kernel
theorem dJ2_getChars_11360_10 : decode cJ2_getChars_11360 10 = .ok (.goto 4, 3) := by decide +kernel
theorem dJ2_getChars_11360_13 : decode cJ2_getChars_11360 13 = .ok (.iconst 0, 1) := by decide +kernel
theorem dJ2_getChars_11360_14 : decode cJ2_getChars_11360 14 = .ok (.istore 8, 2) := by decide +kernel
theorem dJ2_getChars_11360_16 : decode cJ2_getChars_11360 16 = .ok (.iload 8, 2) := by decide +kernel
theorem dJ2_getChars_11360_18 : decode cJ2_getChars_11360 18 = .ok (.ifCond .ne 6, 3) := by decide +kernel
theorem dJ2_getChars_11360_21 : decode cJ2_getChars_11360 21 = .ok (.lload_n 0, 1) := by decide +kernel
theorem dJ2_getChars_11360_22 : decode cJ2_getChars_11360 22 = .ok (.lneg, 1) := by decide +kernel
theorem dJ2_getChars_11360_23 : decode cJ2_getChars_11360 23 = .ok (.lstore_n 0, 1) := by decide +kernel
theorem dJ2_getChars_11360_24 : decode cJ2_getChars_11360 24 = .ok (.lload_n 0, 1) := by decide +kernel
theorem dJ2_getChars_11360_25 : decode cJ2_getChars_11360 25 = .ok (.ldc2_w 410, 3) := by decide +kernel
theorem dJ2_getChars_11360_28 : decode cJ2_getChars_11360 28 = .ok (.lcmp, 1) := by decide +kernel
theorem dJ2_getChars_11360_29 : decode cJ2_getChars_11360 29 = .ok (.ifCond .gt 57, 3) := by decide +kernel
theorem dJ2_getChars_11360_32 : decode cJ2_getChars_11360 32 = .ok (.lload_n 0, 1) := by decide +kernel
theorem dJ2_getChars_11360_33 : decode cJ2_getChars_11360 33 = .ok (.ldc2_w 412, 3) := by decide +kernel
theorem dJ2_getChars_11360_36 : decode cJ2_getChars_11360 36 = .ok (.ldiv, 1) := by decide +kernel
theorem dJ2_getChars_11360_37 : decode cJ2_getChars_11360 37 = .ok (.lstore 4, 2) := by decide +kernel
theorem dJ2_getChars_11360_39 : decode cJ2_getChars_11360 39 = .ok (.lload 4, 2) := by decide +kernel
theorem dJ2_getChars_11360_41 : decode cJ2_getChars_11360 41 = .ok (.ldc2_w 412, 3) := by decide +kernel
theorem dJ2_getChars_11360_44 : decode cJ2_getChars_11360 44 = .ok (.lmul, 1) := by decide +kernel
theorem dJ2_getChars_11360_45 : decode cJ2_getChars_11360 45 = .ok (.lload_n 0, 1) := by decide +kernel
theorem dJ2_getChars_11360_46 : decode cJ2_getChars_11360 46 = .ok (.lsub, 1) := by decide +kernel
theorem dJ2_getChars_11360_47 : decode cJ2_getChars_11360 47 = .ok (.l2i, 1) := by decide +kernel
theorem dJ2_getChars_11360_48 : decode cJ2_getChars_11360 48 = .ok (.istore 6, 2) := by decide +kernel
theorem dJ2_getChars_11360_50 : decode cJ2_getChars_11360 50 = .ok (.lload 4, 2) := by decide +kernel
theorem dJ2_getChars_11360_52 : decode cJ2_getChars_11360 52 = .ok (.lstore_n 0, 1) := by decide +kernel
theorem dJ2_getChars_11360_53 : decode cJ2_getChars_11360 53 = .ok (.aload_n 3, 1) := by decide +kernel
theorem dJ2_getChars_11360_54 : decode cJ2_getChars_11360 54 = .ok (.iinc 7 (-1), 3) := by decide +kernel
theorem dJ2_getChars_11360_57 : decode cJ2_getChars_11360 57 = .ok (.iload 7, 2) := by decide +kernel
theorem dJ2_getChars_11360_59 : decode cJ2_getChars_11360 59 = .ok (.getstatic 403, 3) := by decide +kernel
theorem dJ2_getChars_11360_62 : decode cJ2_getChars_11360 62 = .ok (.iload 6, 2) := by decide +kernel
theorem dJ2_getChars_11360_64 : decode cJ2_getChars_11360 64 = .ok (.baload, 1) := by decide +kernel
theorem dJ2_getChars_11360_65 : decode cJ2_getChars_11360 65 = .ok (.invokestatic 111, 3) := by decide +kernel
theorem dJ2_getChars_11360_68 : decode cJ2_getChars_11360 68 = .ok (.aload_n 3, 1) := by decide +kernel
theorem dJ2_getChars_11360_69 : decode cJ2_getChars_11360 69 = .ok (.iinc 7 (-1), 3) := by decide +kernel
theorem dJ2_getChars_11360_72 : decode cJ2_getChars_11360 72 = .ok (.iload 7, 2) := by decide +kernel
theorem dJ2_getChars_11360_74 : decode cJ2_getChars_11360 74 = .ok (.getstatic 407, 3) := by decide +kernel
theorem dJ2_getChars_11360_77 : decode cJ2_getChars_11360 77 = .ok (.iload 6, 2) := by decide +kernel
theorem dJ2_getChars_11360_79 : decode cJ2_getChars_11360 79 = .ok (.baload, 1) := by decide +kernel
theorem dJ2_getChars_11360_80 : decode cJ2_getChars_11360 80 = .ok (.invokestatic 111, 3) := by decide +kernel
theorem dJ2_getChars_11360_83 : decode cJ2_getChars_11360 83 = .ok (.goto (-59), 3) := by decide +kernel
theorem dJ2_getChars_11360_86 : decode cJ2_getChars_11360 86 = .ok (.lload_n 0, 1) := by decide +kernel
theorem dJ2_getChars_11360_87 : decode cJ2_getChars_11360 87 = .ok (.l2i, 1) := by decide +kernel
theorem dJ2_getChars_11360_88 : decode cJ2_getChars_11360 88 = .ok (.istore 10, 2) := by decide +kernel
theorem dJ2_getChars_11360_90 : decode cJ2_getChars_11360 90 = .ok (.iload 10, 2) := by decide +kernel
theorem dJ2_getChars_11360_92 : decode cJ2_getChars_11360 92 = .ok (.bipush (-100), 2) := by decide +kernel
theorem dJ2_getChars_11360_94 : decode cJ2_getChars_11360 94 = .ok (.if_icmp .gt 57, 3) := by decide +kernel
theorem dJ2_getChars_11360_97 : decode cJ2_getChars_11360 97 = .ok (.iload 10, 2) := by decide +kernel
theorem dJ2_getChars_11360_99 : decode cJ2_getChars_11360 99 = .ok (.bipush 100, 2) := by decide +kernel
theorem dJ2_getChars_11360_101 : decode cJ2_getChars_11360 101 = .ok (.idiv, 1) := by decide +kernel
theorem dJ2_getChars_11360_102 : decode cJ2_getChars_11360 102 = .ok (.istore 9, 2) := by decide +kernel
theorem dJ2_getChars_11360_104 : decode cJ2_getChars_11360 104 = .ok (.iload 9, 2) := by decide +kernel
theorem dJ2_getChars_11360_106 : decode cJ2_getChars_11360 106 = .ok (.bipush 100, 2) := by decide +kernel
theorem dJ2_getChars_11360_108 : decode cJ2_getChars_11360 108 = .ok (.imul, 1) := by decide +kernel
theorem dJ2_getChars_11360_109 : decode cJ2_getChars_11360 109 = .ok (.iload 10, 2) := by decide +kernel
theorem dJ2_getChars_11360_111 : decode cJ2_getChars_11360 111 = .ok (.isub, 1) := by decide +kernel
theorem dJ2_getChars_11360_112 : decode cJ2_getChars_11360 112 = .ok (.istore 6, 2) := by decide +kernel
theorem dJ2_getChars_11360_114 : decode cJ2_getChars_11360 114 = .ok (.iload 9, 2) := by decide +kernel
theorem dJ2_getChars_11360_116 : decode cJ2_getChars_11360 116 = .ok (.istore 10, 2) := by decide +kernel
theorem dJ2_getChars_11360_118 : decode cJ2_getChars_11360 118 = .ok (.aload_n 3, 1) := by decide +kernel
theorem dJ2_getChars_11360_119 : decode cJ2_getChars_11360 119 = .ok (.iinc 7 (-1), 3) := by decide +kernel
theorem dJ2_getChars_11360_122 : decode cJ2_getChars_11360 122 = .ok (.iload 7, 2) := by decide +kernel
theorem dJ2_getChars_11360_124 : decode cJ2_getChars_11360 124 = .ok (.getstatic 403, 3) := by decide +kernel
theorem dJ2_getChars_11360_127 : decode cJ2_getChars_11360 127 = .ok (.iload 6, 2) := by decide +kernel
theorem dJ2_getChars_11360_129 : decode cJ2_getChars_11360 129 = .ok (.baload, 1) := by decide +kernel
theorem dJ2_getChars_11360_130 : decode cJ2_getChars_11360 130 = .ok (.invokestatic 111, 3) := by decide +kernel
theorem dJ2_getChars_11360_133 : decode cJ2_getChars_11360 133 = .ok (.aload_n 3, 1) := by decide +kernel
theorem dJ2_getChars_11360_134 : decode cJ2_getChars_11360 134 = .ok (.iinc 7 (-1), 3) := by decide +kernel
theorem dJ2_getChars_11360_137 : decode cJ2_getChars_11360 137 = .ok (.iload 7, 2) := by decide +kernel
theorem dJ2_getChars_11360_139 : decode cJ2_getChars_11360 139 = .ok (.getstatic 407, 3) := by decide +kernel
theorem dJ2_getChars_11360_142 : decode cJ2_getChars_11360 142 = .ok (.iload 6, 2) := by decide +kernel
theorem dJ2_getChars_11360_144 : decode cJ2_getChars_11360 144 = .ok (.baload, 1) := by decide +kernel
theorem dJ2_getChars_11360_145 : decode cJ2_getChars_11360 145 = .ok (.invokestatic 111, 3) := by decide +kernel
theorem dJ2_getChars_11360_148 : decode cJ2_getChars_11360 148 = .ok (.goto (-58), 3) := by decide +kernel
theorem dJ2_getChars_11360_151 : decode cJ2_getChars_11360 151 = .ok (.aload_n 3, 1) := by decide +kernel
theorem dJ2_getChars_11360_152 : decode cJ2_getChars_11360 152 = .ok (.iinc 7 (-1), 3) := by decide +kernel
theorem dJ2_getChars_11360_155 : decode cJ2_getChars_11360 155 = .ok (.iload 7, 2) := by decide +kernel
theorem dJ2_getChars_11360_157 : decode cJ2_getChars_11360 157 = .ok (.getstatic 403, 3) := by decide +kernel
theorem dJ2_getChars_11360_160 : decode cJ2_getChars_11360 160 = .ok (.iload 10, 2) := by decide +kernel
theorem dJ2_getChars_11360_162 : decode cJ2_getChars_11360 162 = .ok (.ineg, 1) := by decide +kernel
theorem dJ2_getChars_11360_163 : decode cJ2_getChars_11360 163 = .ok (.baload, 1) := by decide +kernel
theorem dJ2_getChars_11360_164 : decode cJ2_getChars_11360 164 = .ok (.invokestatic 111, 3) := by decide +kernel
theorem dJ2_getChars_11360_167 : decode cJ2_getChars_11360 167 = .ok (.iload 10, 2) := by decide +kernel
theorem dJ2_getChars_11360_169 : decode cJ2_getChars_11360 169 = .ok (.bipush (-9), 2) := by decide +kernel
theorem dJ2_getChars_11360_171 : decode cJ2_getChars_11360 171 = .ok (.if_icmp .ge 19, 3) := by decide +kernel
theorem dJ2_getChars_11360_174 : decode cJ2_getChars_11360 174 = .ok (.aload_n 3, 1) := by decide +kernel
theorem dJ2_getChars_11360_175 : decode cJ2_getChars_11360 175 = .ok (.iinc 7 (-1), 3) := by decide +kernel
theorem dJ2_getChars_11360_178 : decode cJ2_getChars_11360 178 = .ok (.iload 7, 2) := by decide +kernel
theorem dJ2_getChars_11360_180 : decode cJ2_getChars_11360 180 = .ok (.getstatic 407, 3) := by decide +kernel
theorem dJ2_getChars_11360_183 : decode cJ2_getChars_11360 183 = .ok (.iload 10, 2) := by decide +kernel
theorem dJ2_getChars_11360_185 : decode cJ2_getChars_11360 185 = .ok (.ineg, 1) := by decide +kernel
theorem dJ2_getChars_11360_186 : decode cJ2_getChars_11360 186 = .ok (.baload, 1) := by decide +kernel
theorem dJ2_getChars_11360_187 : decode cJ2_getChars_11360 187 = .ok (.invokestatic 111, 3) := by decide +kernel
theorem dJ2_getChars_11360_190 : decode cJ2_getChars_11360 190 = .ok (.iload 8, 2) := by decide +kernel
theorem dJ2_getChars_11360_192 : decode cJ2_getChars_11360 192 = .ok (.ifCond .eq 14, 3) := by decide +kernel
theorem dJ2_getChars_11360_195 : decode cJ2_getChars_11360 195 = .ok (.aload_n 3, 1) := by decide +kernel
theorem dJ2_getChars_11360_196 : decode cJ2_getChars_11360 196 = .ok (.iinc 7 (-1), 3) := by decide +kernel
theorem dJ2_getChars_11360_199 : decode cJ2_getChars_11360 199 = .ok (.iload 7, 2) := by decide +kernel
theorem dJ2_getChars_11360_201 : decode cJ2_getChars_11360 201 = .ok (.bipush 45, 2) := by decide +kernel
theorem dJ2_getChars_11360_203 : decode cJ2_getChars_11360 203 = .ok (.invokestatic 111, 3) := by decide +kernel
theorem dJ2_getChars_11360_206 : decode cJ2_getChars_11360 206 = .ok (.iload 7, 2) := by decide +kernel
theorem dJ2_getChars_11360_208 : decode cJ2_getChars_11360 208 = .ok (.ireturn, 1) := by decide +kernel
theorem dJ2_checkIndex_2214a_0 : decode cJ2_checkIndex_2214a 0 = .ok (.iload_n 0, 1) := by decide +kernel
theorem dJ2_checkIndex_2214a_1 : decode cJ2_checkIndex_2214a 1 = .ok (.aload_n 1, 1) := by decide +kernel
theorem dJ2_checkIndex_2214a_2 : decode cJ2_checkIndex_2214a 2 = .ok (.invokestatic 48, 3) := by decide +kernel
theorem dJ2_checkIndex_2214a_5 : decode cJ2_checkIndex_2214a 5 = .ok (.invokestatic 414, 3) := by decide +kernel
theorem dJ2_checkIndex_2214a_8 : decode cJ2_checkIndex_2214a 8 = .ok (.return_, 1) := by decide +kernel
theorem dJ2_checkBoundsBeginEnd_d044e_0 : decode cJ2_checkBoundsBeginEnd_d044e 0 = .ok (.iload_n 0, 1) := by decide +kernel
theorem dJ2_checkBoundsBeginEnd_d044e_1 : decode cJ2_checkBoundsBeginEnd_d044e 1 = .ok (.iload_n 1, 1) := by decide +kernel
theorem dJ2_checkBoundsBeginEnd_d044e_2 : decode cJ2_checkBoundsBeginEnd_d044e 2 = .ok (.aload_n 2, 1) := by decide +kernel
theorem dJ2_checkBoundsBeginEnd_d044e_3 : decode cJ2_checkBoundsBeginEnd_d044e 3 = .ok (.invokestatic 48, 3) := by decide +kernel
theorem dJ2_checkBoundsBeginEnd_d044e_6 : decode cJ2_checkBoundsBeginEnd_d044e 6 = .ok (.invokestatic 241, 3) := by decide +kernel
theorem dJ2_checkBoundsBeginEnd_d044e_9 : decode cJ2_checkBoundsBeginEnd_d044e 9 = .ok (.return_, 1) := by decide +kernel
theorem dJ2_checkBoundsOffCount_d044e_0 : decode cJ2_checkBoundsOffCount_d044e 0 = .ok (.iload_n 0, 1) := by decide +kernel
theorem dJ2_checkBoundsOffCount_d044e_1 : decode cJ2_checkBoundsOffCount_d044e 1 = .ok (.iload_n 1, 1) := by decide +kernel
theorem dJ2_checkBoundsOffCount_d044e_2 : decode cJ2_checkBoundsOffCount_d044e 2 = .ok (.aload_n 2, 1) := by decide +kernel
theorem dJ2_checkBoundsOffCount_d044e_3 : decode cJ2_checkBoundsOffCount_d044e 3 = .ok (.invokestatic 48, 3) := by decide +kernel
theorem dJ2_checkBoundsOffCount_d044e_6 : decode cJ2_checkBoundsOffCount_d044e 6 = .ok (.invokestatic 419, 3) := by decide +kernel
theorem dJ2_checkBoundsOffCount_d044e_9 : decode cJ2_checkBoundsOffCount_d044e 9 = .ok (.pop, 1) := by decide +kernel
theorem dJ2_checkBoundsOffCount_d044e_10 : decode cJ2_checkBoundsOffCount_d044e 10 = .ok (.return_, 1) := by decide +kernel
theorem dJ7_copyOf_9075b_0 : decode cJ7_copyOf_9075b 0 = .ok (.iload_n 1, 1) := by decide +kernel
theorem dJ7_copyOf_9075b_1 : decode cJ7_copyOf_9075b 1 = .ok (.aload_n 0, 1) := by decide +kernel
theorem dJ7_copyOf_9075b_2 : decode cJ7_copyOf_9075b 2 = .ok (.arraylength, 1) := by decide +kernel
theorem dJ7_copyOf_9075b_3 : decode cJ7_copyOf_9075b 3 = .ok (.if_icmp .ne 11, 3) := by decide +kernel
theorem dJ7_copyOf_9075b_6 : decode cJ7_copyOf_9075b 6 = .ok (.aload_n 0, 1) := by decide +kernel
theorem dJ7_copyOf_9075b_7 : decode cJ7_copyOf_9075b 7 = .ok (.invokevirtual 310, 3) := by decide +kernel
theorem dJ7_copyOf_9075b_10 : decode cJ7_copyOf_9075b 10 = .ok (.checkcast 311, 3) := by decide +kernel
theorem dJ7_copyOf_9075b_13 : decode cJ7_copyOf_9075b 13 = .ok (.areturn, 1) := by decide +kernel
theorem dJ7_copyOf_9075b_14 : decode cJ7_copyOf_9075b 14 = .ok (.iload_n 1, 1) := by decide +kernel
theorem dJ7_copyOf_9075b_15 : decode cJ7_copyOf_9075b 15 = .ok (.newarray .byte, 2) := by decide +kernel
theorem dJ7_copyOf_9075b_17 : decode cJ7_copyOf_9075b 17 = .ok (.astore_n 2, 1) := by decide +kernel
theorem dJ7_copyOf_9075b_18 : decode cJ7_copyOf_9075b 18 = .ok (.aload_n 0, 1) := by decide +kernel
theorem dJ7_copyOf_9075b_19 : decode cJ7_copyOf_9075b 19 = .ok (.iconst 0, 1) := by decide +kernel
theorem dJ7_copyOf_9075b_20 : decode cJ7_copyOf_9075b 20 = .ok (.aload_n 2, 1) := by decide +kernel
theorem dJ7_copyOf_9075b_21 : decode cJ7_copyOf_9075b 21 = .ok (.iconst 0, 1) := by decide +kernel
theorem dJ7_copyOf_9075b_22 : decode cJ7_copyOf_9075b 22 = .ok (.aload_n 0, 1) := by decide +kernel
theorem dJ7_copyOf_9075b_23 : decode cJ7_copyOf_9075b 23 = .ok (.arraylength, 1) := by decide +kernel
theorem dJ7_copyOf_9075b_24 : decode cJ7_copyOf_9075b 24 = .ok (.iload_n 1, 1) := by decide +kernel
theorem dJ7_copyOf_9075b_25 : decode cJ7_copyOf_9075b 25 = .ok (.invokestatic 304, 3) := by decide +kernel
theorem dJ7_copyOf_9075b_28 : decode cJ7_copyOf_9075b 28 = .ok (.invokestatic 150, 3) := by decide +kernel
theorem dJ7_copyOf_9075b_31 : decode cJ7_copyOf_9075b 31 = .ok (.aload_n 2, 1) := by decide +kernel
theorem dJ7_copyOf_9075b_32 : decode cJ7_copyOf_9075b 32 = .ok (.areturn, 1) := by decide +kernel
theorem dJ8_newLength_cabcc_0 : decode cJ8_newLength_cabcc 0 = .ok (.iload_n 0, 1) := by decide +kernel
theorem dJ8_newLength_cabcc_1 : decode cJ8_newLength_cabcc 1 = .ok (.iload_n 1, 1) := by decide +kernel
theorem dJ8_newLength_cabcc_2 : decode cJ8_newLength_cabcc 2 = .ok (.iload_n 2, 1) := by decide +kernel
theorem dJ8_newLength_cabcc_3 : decode cJ8_newLength_cabcc 3 = .ok (.invokestatic 194, 3) := by decide +kernel
theorem dJ8_newLength_cabcc_6 : decode cJ8_newLength_cabcc 6 = .ok (.iadd, 1) := by decide +kernel
theorem dJ8_newLength_cabcc_7 : decode cJ8_newLength_cabcc 7 = .ok (.istore_n 3, 1) := by decide +kernel
theorem dJ8_newLength_cabcc_8 : decode cJ8_newLength_cabcc 8 = .ok (.iconst 0, 1) := by decide +kernel
theorem dJ8_newLength_cabcc_9 : decode cJ8_newLength_cabcc 9 = .ok (.iload_n 3, 1) := by decide +kernel
theorem dJ8_newLength_cabcc_10 : decode cJ8_newLength_cabcc 10 = .ok (.if_icmp .ge 11, 3) := by decide +kernel
theorem dJ8_newLength_cabcc_13 : decode cJ8_newLength_cabcc 13 = .ok (.iload_n 3, 1) := by decide +kernel
theorem dJ8_newLength_cabcc_14 : decode cJ8_newLength_cabcc 14 = .ok (.ldc 200, 2) := by decide +kernel
theorem dJ8_newLength_cabcc_16 : decode cJ8_newLength_cabcc 16 = .ok (.if_icmp .gt 5, 3) := by decide +kernel
theorem dJ8_newLength_cabcc_19 : decode cJ8_newLength_cabcc 19 = .ok (.iload_n 3, 1) := by decide +kernel
theorem dJ8_newLength_cabcc_20 : decode cJ8_newLength_cabcc 20 = .ok (.ireturn, 1) := by decide +kernel
theorem dJ8_newLength_cabcc_21 : decode cJ8_newLength_cabcc 21 = .ok (.iload_n 0, 1) := by decide +kernel
theorem dJ8_newLength_cabcc_22 : decode cJ8_newLength_cabcc 22 = .ok (.iload_n 1, 1) := by decide +kernel
theorem dJ8_newLength_cabcc_23 : decode cJ8_newLength_cabcc 23 = .ok (.invokestatic 201, 3) := by decide +kernel
theorem dJ8_newLength_cabcc_26 : decode cJ8_newLength_cabcc 26 = .ok (.ireturn, 1) := by decide +kernel
theorem dJ8_hugeLength_7cf53_0 : decode cJ8_hugeLength_7cf53 0 = .ok (.iload_n 0, 1) := by decide +kernel
theorem dJ8_hugeLength_7cf53_1 : decode cJ8_hugeLength_7cf53 1 = .ok (.iload_n 1, 1) := by decide +kernel
theorem dJ8_hugeLength_7cf53_2 : decode cJ8_hugeLength_7cf53 2 = .ok (.iadd, 1) := by decide +kernel
theorem dJ8_hugeLength_7cf53_3 : decode cJ8_hugeLength_7cf53 3 = .ok (.istore_n 2, 1) := by decide +kernel
theorem dJ8_hugeLength_7cf53_4 : decode cJ8_hugeLength_7cf53 4 = .ok (.iload_n 2, 1) := by decide +kernel
theorem dJ8_hugeLength_7cf53_5 : decode cJ8_hugeLength_7cf53 5 = .ok (.ifCond .ge 44, 3) := by decide +kernel
theorem dJ8_hugeLength_7cf53_8 : decode cJ8_hugeLength_7cf53 8 = .ok (.new 204, 3) := by decide +kernel
theorem dJ8_hugeLength_7cf53_11 : decode cJ8_hugeLength_7cf53 11 = .ok (.dup, 1) := by decide +kernel
theorem dJ8_hugeLength_7cf53_12 : decode cJ8_hugeLength_7cf53 12 = .ok (.new 89, 3) := by decide +kernel
theorem dJ8_hugeLength_7cf53_15 : decode cJ8_hugeLength_7cf53 15 = .ok (.dup, 1) := by decide +kernel
theorem dJ8_hugeLength_7cf53_16 : decode cJ8_hugeLength_7cf53 16 = .ok (.invokespecial 91, 3) := by decide +kernel
theorem dJ8_hugeLength_7cf53_19 : decode cJ8_hugeLength_7cf53 19 = .ok (.ldc 206, 2) := by decide +kernel
theorem dJ8_hugeLength_7cf53_21 : decode cJ8_hugeLength_7cf53 21 = .ok (.invokevirtual 94, 3) := by decide +kernel
theorem dJ8_hugeLength_7cf53_24 : decode cJ8_hugeLength_7cf53 24 = .ok (.iload_n 0, 1) := by decide +kernel
theorem dJ8_hugeLength_7cf53_25 : decode cJ8_hugeLength_7cf53 25 = .ok (.invokevirtual 98, 3) := by decide +kernel
theorem dJ8_hugeLength_7cf53_28 : decode cJ8_hugeLength_7cf53 28 = .ok (.ldc 208, 2) := by decide +kernel
theorem dJ8_hugeLength_7cf53_30 : decode cJ8_hugeLength_7cf53 30 = .ok (.invokevirtual 94, 3) := by decide +kernel
theorem dJ8_hugeLength_7cf53_33 : decode cJ8_hugeLength_7cf53 33 = .ok (.iload_n 1, 1) := by decide +kernel
theorem dJ8_hugeLength_7cf53_34 : decode cJ8_hugeLength_7cf53 34 = .ok (.invokevirtual 98, 3) := by decide +kernel
theorem dJ8_hugeLength_7cf53_37 : decode cJ8_hugeLength_7cf53 37 = .ok (.ldc 210, 2) := by decide +kernel
theorem dJ8_hugeLength_7cf53_39 : decode cJ8_hugeLength_7cf53 39 = .ok (.invokevirtual 94, 3) := by decide +kernel
theorem dJ8_hugeLength_7cf53_42 : decode cJ8_hugeLength_7cf53 42 = .ok (.invokevirtual 101, 3) := by decide +kernel
theorem dJ8_hugeLength_7cf53_45 : decode cJ8_hugeLength_7cf53 45 = .ok (.invokespecial 212, 3) := by decide +kernel
theorem dJ8_hugeLength_7cf53_48 : decode cJ8_hugeLength_7cf53 48 = .ok (.athrow, 1) := by decide +kernel
theorem dJ8_hugeLength_7cf53_49 : decode cJ8_hugeLength_7cf53 49 = .ok (.iload_n 2, 1) := by decide +kernel
theorem dJ8_hugeLength_7cf53_50 : decode cJ8_hugeLength_7cf53 50 = .ok (.ldc 200, 2) := by decide +kernel
theorem dJ8_hugeLength_7cf53_52 : decode cJ8_hugeLength_7cf53 52 = .ok (.if_icmp .gt 6, 3) := by decide +kernel
theorem dJ8_hugeLength_7cf53_55 : decode cJ8_hugeLength_7cf53 55 = .ok (.ldc 200, 2) := by decide +kernel
theorem dJ8_hugeLength_7cf53_57 : decode cJ8_hugeLength_7cf53 57 = .ok (.ireturn, 1) := by decide +kernel
theorem dJ8_hugeLength_7cf53_58 : decode cJ8_hugeLength_7cf53 58 = .ok (.iload_n 2, 1) := by decide +kernel
theorem dJ8_hugeLength_7cf53_59 : decode cJ8_hugeLength_7cf53 59 = .ok (.ireturn, 1) := by decide +kernel
theorem dJ3_checkIndex_8e157_0 : decode cJ3_checkIndex_8e157 0 = .ok (.iload_n 0, 1) := by decide +kernel
theorem dJ3_checkIndex_8e157_1 : decode cJ3_checkIndex_8e157 1 = .ok (.ifCond .lt 8, 3) := by decide +kernel
theorem dJ3_checkIndex_8e157_4 : decode cJ3_checkIndex_8e157 4 = .ok (.iload_n 0, 1) := by decide +kernel
theorem dJ3_checkIndex_8e157_5 : decode cJ3_checkIndex_8e157 5 = .ok (.iload_n 1, 1) := by decide +kernel
theorem dJ3_checkIndex_8e157_6 : decode cJ3_checkIndex_8e157 6 = .ok (.if_icmp .lt 10, 3) := by decide +kernel
theorem dJ3_checkIndex_8e157_9 : decode cJ3_checkIndex_8e157 9 = .ok (.aload_n 2, 1) := by decide +kernel
theorem dJ3_checkIndex_8e157_10 : decode cJ3_checkIndex_8e157 10 = .ok (.iload_n 0, 1) := by decide +kernel
theorem dJ3_checkIndex_8e157_11 : decode cJ3_checkIndex_8e157 11 = .ok (.iload_n 1, 1) := by decide +kernel
theorem dJ3_checkIndex_8e157_12 : decode cJ3_checkIndex_8e157 12 = .ok (.invokestatic 95, 3) := by decide +kernel
theorem dJ3_checkIndex_8e157_15 : decode cJ3_checkIndex_8e157 15 = .ok (.athrow, 1) := by decide +kernel
theorem dJ3_checkIndex_8e157_16 : decode cJ3_checkIndex_8e157 16 = .ok (.iload_n 0, 1) := by decide +kernel
theorem dJ3_checkIndex_8e157_17 : decode cJ3_checkIndex_8e157 17 = .ok (.ireturn, 1) := by decide +kernel
theorem dJ3_checkFromToIndex_8c36e_0 : decode cJ3_checkFromToIndex_8c36e 0 = .ok (.iload_n 0, 1) := by decide +kernel
theorem dJ3_checkFromToIndex_8c36e_1 : decode cJ3_checkFromToIndex_8c36e 1 = .ok (.ifCond .lt 13, 3) := by decide +kernel
theorem dJ3_checkFromToIndex_8c36e_4 : decode cJ3_checkFromToIndex_8c36e 4 = .ok (.iload_n 0, 1) := by decide +kernel
theorem dJ3_checkFromToIndex_8c36e_5 : decode cJ3_checkFromToIndex_8c36e 5 = .ok (.iload_n 1, 1) := by decide +kernel
theorem dJ3_checkFromToIndex_8c36e_6 : decode cJ3_checkFromToIndex_8c36e 6 = .ok (.if_icmp .gt 8, 3) := by decide +kernel
theorem dJ3_checkFromToIndex_8c36e_9 : decode cJ3_checkFromToIndex_8c36e 9 = .ok (.iload_n 1, 1) := by decide +kernel
theorem dJ3_checkFromToIndex_8c36e_10 : decode cJ3_checkFromToIndex_8c36e 10 = .ok (.iload_n 2, 1) := by decide +kernel
theorem dJ3_checkFromToIndex_8c36e_11 : decode cJ3_checkFromToIndex_8c36e 11 = .ok (.if_icmp .le 11, 3) := by decide +kernel
theorem dJ3_checkFromToIndex_8c36e_14 : decode cJ3_checkFromToIndex_8c36e 14 = .ok (.aload_n 3, 1) := by decide +kernel
theorem dJ3_checkFromToIndex_8c36e_15 : decode cJ3_checkFromToIndex_8c36e 15 = .ok (.iload_n 0, 1) := by decide +kernel
theorem dJ3_checkFromToIndex_8c36e_16 : decode cJ3_checkFromToIndex_8c36e 16 = .ok (.iload_n 1, 1) := by decide +kernel
theorem dJ3_checkFromToIndex_8c36e_17 : decode cJ3_checkFromToIndex_8c36e 17 = .ok (.iload_n 2, 1) := by decide +kernel
theorem dJ3_checkFromToIndex_8c36e_18 : decode cJ3_checkFromToIndex_8c36e 18 = .ok (.invokestatic 99, 3) := by decide +kernel
theorem dJ3_checkFromToIndex_8c36e_21 : decode cJ3_checkFromToIndex_8c36e 21 = .ok (.athrow, 1) := by decide +kernel
theorem dJ3_checkFromToIndex_8c36e_22 : decode cJ3_checkFromToIndex_8c36e 22 = .ok (.iload_n 0, 1) := by decide +kernel
theorem dJ3_checkFromToIndex_8c36e_23 : decode cJ3_checkFromToIndex_8c36e 23 = .ok (.ireturn, 1) := by decide +kernel
theorem dJ3_checkFromIndexSize_8c36e_0 : decode cJ3_checkFromIndexSize_8c36e 0 = .ok (.iload_n 2, 1) := by decide +kernel
theorem dJ3_checkFromIndexSize_8c36e_1 : decode cJ3_checkFromIndexSize_8c36e 1 = .ok (.iload_n 0, 1) := by decide +kernel
theorem dJ3_checkFromIndexSize_8c36e_2 : decode cJ3_checkFromIndexSize_8c36e 2 = .ok (.ior, 1) := by decide +kernel
theorem dJ3_checkFromIndexSize_8c36e_3 : decode cJ3_checkFromIndexSize_8c36e 3 = .ok (.iload_n 1, 1) := by decide +kernel
theorem dJ3_checkFromIndexSize_8c36e_4 : decode cJ3_checkFromIndexSize_8c36e 4 = .ok (.ior, 1) := by decide +kernel
theorem dJ3_checkFromIndexSize_8c36e_5 : decode cJ3_checkFromIndexSize_8c36e 5 = .ok (.ifCond .lt 10, 3) := by decide +kernel
theorem dJ3_checkFromIndexSize_8c36e_8 : decode cJ3_checkFromIndexSize_8c36e 8 = .ok (.iload_n 1, 1) := by decide +kernel
theorem dJ3_checkFromIndexSize_8c36e_9 : decode cJ3_checkFromIndexSize_8c36e 9 = .ok (.iload_n 2, 1) := by decide +kernel
theorem dJ3_checkFromIndexSize_8c36e_10 : decode cJ3_checkFromIndexSize_8c36e 10 = .ok (.iload_n 0, 1) := by decide +kernel
theorem dJ3_checkFromIndexSize_8c36e_11 : decode cJ3_checkFromIndexSize_8c36e 11 = .ok (.isub, 1) := by decide +kernel
theorem dJ3_checkFromIndexSize_8c36e_12 : decode cJ3_checkFromIndexSize_8c36e 12 = .ok (.if_icmp .le 11, 3) := by decide +kernel
theorem dJ3_checkFromIndexSize_8c36e_15 : decode cJ3_checkFromIndexSize_8c36e 15 = .ok (.aload_n 3, 1) := by decide +kernel
theorem dJ3_checkFromIndexSize_8c36e_16 : decode cJ3_checkFromIndexSize_8c36e 16 = .ok (.iload_n 0, 1) := by decide +kernel
theorem dJ3_checkFromIndexSize_8c36e_17 : decode cJ3_checkFromIndexSize_8c36e 17 = .ok (.iload_n 1, 1) := by decide +kernel
theorem dJ3_checkFromIndexSize_8c36e_18 : decode cJ3_checkFromIndexSize_8c36e 18 = .ok (.iload_n 2, 1) := by decide +kernel
theorem dJ3_checkFromIndexSize_8c36e_19 : decode cJ3_checkFromIndexSize_8c36e 19 = .ok (.invokestatic 103, 3) := by decide +kernel
theorem dJ3_checkFromIndexSize_8c36e_22 : decode cJ3_checkFromIndexSize_8c36e 22 = .ok (.athrow, 1) := by decide +kernel
theorem dJ3_checkFromIndexSize_8c36e_23 : decode cJ3_checkFromIndexSize_8c36e 23 = .ok (.iload_n 0, 1) := by decide +kernel
theorem dJ3_checkFromIndexSize_8c36e_24 : decode cJ3_checkFromIndexSize_8c36e 24 = .ok (.ireturn, 1) := by decide +kernel
theorem dL_cell_0 : decode cL_cell 0 = .ok (.ldc 7, 2) := by decide +kernel
theorem dL_cell_2 : decode cL_cell 2 = .ok (.iload_n 1, 1) := by decide +kernel
theorem dL_cell_3 : decode cL_cell 3 = .ok (.aload_n 0, 1) := by decide +kernel
theorem dL_cell_4 : decode cL_cell 4 = .ok (.arraylength, 1) := by decide +kernel
theorem dL_cell_5 : decode cL_cell 5 = .ok (.if_icmp .ge 9, 3) := by decide +kernel
theorem dL_cell_8 : decode cL_cell 8 = .ok (.aload_n 0, 1) := by decide +kernel
theorem dL_cell_9 : decode cL_cell 9 = .ok (.iload_n 1, 1) := by decide +kernel
theorem dL_cell_10 : decode cL_cell 10 = .ok (.iaload, 1) := by decide +kernel
theorem dL_cell_11 : decode cL_cell 11 = .ok (.goto 4, 3) := by decide +kernel
theorem dL_cell_14 : decode cL_cell 14 = .ok (.iconst 0, 1) := by decide +kernel
theorem dL_cell_15 : decode cL_cell 15 = .ok (.sipush 1009, 3) := by decide +kernel
theorem dL_cell_18 : decode cL_cell 18 = .ok (.iload_n 1, 1) := by decide +kernel
theorem dL_cell_19 : decode cL_cell 19 = .ok (.imul, 1) := by decide +kernel
theorem dL_cell_20 : decode cL_cell 20 = .ok (.iadd, 1) := by decide +kernel
theorem dL_cell_21 : decode cL_cell 21 = .ok (.imul, 1) := by decide +kernel
theorem dL_cell_22 : decode cL_cell 22 = .ok (.sipush 12345, 3) := by decide +kernel
theorem dL_cell_25 : decode cL_cell 25 = .ok (.iadd, 1) := by decide +kernel
theorem dL_cell_26 : decode cL_cell 26 = .ok (.istore_n 2, 1) := by decide +kernel
theorem dL_cell_27 : decode cL_cell 27 = .ok (.iload_n 2, 1) := by decide +kernel
theorem dL_cell_28 : decode cL_cell 28 = .ok (.iload_n 2, 1) := by decide +kernel
theorem dL_cell_29 : decode cL_cell 29 = .ok (.bipush 13, 2) := by decide +kernel
theorem dL_cell_31 : decode cL_cell 31 = .ok (.iushr, 1) := by decide +kernel
theorem dL_cell_32 : decode cL_cell 32 = .ok (.ixor, 1) := by decide +kernel
theorem dL_cell_33 : decode cL_cell 33 = .ok (.ldc 8, 2) := by decide +kernel
theorem dL_cell_35 : decode cL_cell 35 = .ok (.imul, 1) := by decide +kernel
theorem dL_cell_36 : decode cL_cell 36 = .ok (.istore_n 2, 1) := by decide +kernel
theorem dL_cell_37 : decode cL_cell 37 = .ok (.iload_n 2, 1) := by decide +kernel
theorem dL_cell_38 : decode cL_cell 38 = .ok (.iload_n 2, 1) := by decide +kernel
theorem dL_cell_39 : decode cL_cell 39 = .ok (.bipush 16, 2) := by decide +kernel
theorem dL_cell_41 : decode cL_cell 41 = .ok (.iushr, 1) := by decide +kernel
theorem dL_cell_42 : decode cL_cell 42 = .ok (.ixor, 1) := by decide +kernel
theorem dL_cell_43 : decode cL_cell 43 = .ok (.ireturn, 1) := by decide +kernel
theorem dL_addVariable_0 : decode cL_addVariable 0 = .ok (.aload_n 0, 1) := by decide +kernel
theorem dL_addVariable_1 : decode cL_addVariable 1 = .ok (.iload_n 1, 1) := by decide +kernel
theorem dL_addVariable_2 : decode cL_addVariable 2 = .ok (.iload_n 2, 1) := by decide +kernel
theorem dL_addVariable_3 : decode cL_addVariable 3 = .ok (.iload_n 3, 1) := by decide +kernel
theorem dL_addVariable_4 : decode cL_addVariable 4 = .ok (.invokevirtual 9, 3) := by decide +kernel
theorem dL_addVariable_7 : decode cL_addVariable 7 = .ok (.ireturn, 1) := by decide +kernel
theorem dL_addVariable_8 : decode cL_addVariable 8 = .ok (.astore 4, 2) := by decide +kernel
theorem dL_addVariable_10 : decode cL_addVariable 10 = .ok (.ldc 17, 2) := by decide +kernel
theorem dL_addVariable_12 : decode cL_addVariable 12 = .ok (.ireturn, 1) := by decide +kernel
theorem dL_addVariable_13 : decode cL_addVariable 13 = .ok (.astore 4, 2) := by decide +kernel
theorem dL_addVariable_15 : decode cL_addVariable 15 = .ok (.ldc 20, 2) := by decide +kernel
theorem dL_addVariable_17 : decode cL_addVariable 17 = .ok (.ireturn, 1) := by decide +kernel
theorem dL_addFunction_0 : decode cL_addFunction 0 = .ok (.aload_n 0, 1) := by decide +kernel
theorem dL_addFunction_1 : decode cL_addFunction 1 = .ok (.iload_n 1, 1) := by decide +kernel
theorem dL_addFunction_2 : decode cL_addFunction 2 = .ok (.iload_n 2, 1) := by decide +kernel
theorem dL_addFunction_3 : decode cL_addFunction 3 = .ok (.iload_n 3, 1) := by decide +kernel
theorem dL_addFunction_4 : decode cL_addFunction 4 = .ok (.invokevirtual 21, 3) := by decide +kernel
theorem dL_addFunction_7 : decode cL_addFunction 7 = .ok (.ireturn, 1) := by decide +kernel
theorem dL_addFunction_8 : decode cL_addFunction 8 = .ok (.astore 4, 2) := by decide +kernel
theorem dL_addFunction_10 : decode cL_addFunction 10 = .ok (.ldc 17, 2) := by decide +kernel
theorem dL_addFunction_12 : decode cL_addFunction 12 = .ok (.ireturn, 1) := by decide +kernel
theorem dL_addFunction_13 : decode cL_addFunction 13 = .ok (.astore 4, 2) := by decide +kernel
theorem dL_addFunction_15 : decode cL_addFunction 15 = .ok (.ldc 20, 2) := by decide +kernel
theorem dL_addFunction_17 : decode cL_addFunction 17 = .ok (.ireturn, 1) := by decide +kernel
theorem dL_addFunction_18 : decode cL_addFunction 18 = .ok (.astore 4, 2) := by decide +kernel
theorem dL_addFunction_20 : decode cL_addFunction 20 = .ok (.ldc 29, 2) := by decide +kernel
theorem dL_addFunction_22 : decode cL_addFunction 22 = .ok (.ireturn, 1) := by decide +kernel
theorem dL_addFunction_23 : decode cL_addFunction 23 = .ok (.astore 4, 2) := by decide +kernel
theorem dL_addFunction_25 : decode cL_addFunction 25 = .ok (.ldc 30, 2) := by decide +kernel
theorem dL_addFunction_27 : decode cL_addFunction 27 = .ok (.ireturn, 1) := by decide +kernel
theorem dL_setBody_0 : decode cL_setBody 0 = .ok (.aload_n 0, 1) := by decide +kernel
theorem dL_setBody_1 : decode cL_setBody 1 = .ok (.iload_n 1, 1) := by decide +kernel
theorem dL_setBody_2 : decode cL_setBody 2 = .ok (.iload_n 2, 1) := by decide +kernel
theorem dL_setBody_3 : decode cL_setBody 3 = .ok (.invokevirtual 31, 3) := by decide +kernel
theorem dL_setBody_6 : decode cL_setBody 6 = .ok (.ireturn, 1) := by decide +kernel
theorem dL_setBody_7 : decode cL_setBody 7 = .ok (.astore_n 3, 1) := by decide +kernel
theorem dL_setBody_8 : decode cL_setBody 8 = .ok (.ldc 17, 2) := by decide +kernel
theorem dL_setBody_10 : decode cL_setBody 10 = .ok (.ireturn, 1) := by decide +kernel
theorem dL_setBody_11 : decode cL_setBody 11 = .ok (.astore_n 3, 1) := by decide +kernel
theorem dL_setBody_12 : decode cL_setBody 12 = .ok (.ldc 20, 2) := by decide +kernel
theorem dL_setBody_14 : decode cL_setBody 14 = .ok (.ireturn, 1) := by decide +kernel
theorem dL_number_0 : decode cL_number 0 = .ok (.aload_n 0, 1) := by decide +kernel
theorem dL_number_1 : decode cL_number 1 = .ok (.iload_n 1, 1) := by decide +kernel
theorem dL_number_2 : decode cL_number 2 = .ok (.iload_n 2, 1) := by decide +kernel
theorem dL_number_3 : decode cL_number 3 = .ok (.invokevirtual 35, 3) := by decide +kernel
theorem dL_number_6 : decode cL_number 6 = .ok (.ireturn, 1) := by decide +kernel
theorem dL_number_7 : decode cL_number 7 = .ok (.astore_n 3, 1) := by decide +kernel
theorem dL_number_8 : decode cL_number 8 = .ok (.ldc 17, 2) := by decide +kernel
theorem dL_number_10 : decode cL_number 10 = .ok (.ireturn, 1) := by decide +kernel
theorem dL_number_11 : decode cL_number 11 = .ok (.astore_n 3, 1) := by decide +kernel
theorem dL_number_12 : decode cL_number 12 = .ok (.ldc 20, 2) := by decide +kernel
theorem dL_number_14 : decode cL_number 14 = .ok (.ireturn, 1) := by decide +kernel
theorem dL_name_0 : decode cL_name 0 = .ok (.aload_n 0, 1) := by decide +kernel
theorem dL_name_1 : decode cL_name 1 = .ok (.iload_n 1, 1) := by decide +kernel
theorem dL_name_2 : decode cL_name 2 = .ok (.invokevirtual 38, 3) := by decide +kernel
theorem dL_name_5 : decode cL_name 5 = .ok (.ireturn, 1) := by decide +kernel
theorem dL_name_6 : decode cL_name 6 = .ok (.astore_n 2, 1) := by decide +kernel
theorem dL_name_7 : decode cL_name 7 = .ok (.ldc 17, 2) := by decide +kernel
theorem dL_name_9 : decode cL_name 9 = .ok (.ireturn, 1) := by decide +kernel
theorem dL_name_10 : decode cL_name 10 = .ok (.astore_n 2, 1) := by decide +kernel
theorem dL_name_11 : decode cL_name 11 = .ok (.ldc 20, 2) := by decide +kernel
theorem dL_name_13 : decode cL_name 13 = .ok (.ireturn, 1) := by decide +kernel
theorem dL_unary_0 : decode cL_unary 0 = .ok (.aload_n 0, 1) := by decide +kernel
theorem dL_unary_1 : decode cL_unary 1 = .ok (.iload_n 1, 1) := by decide +kernel
theorem dL_unary_2 : decode cL_unary 2 = .ok (.iload_n 2, 1) := by decide +kernel
theorem dL_unary_3 : decode cL_unary 3 = .ok (.invokevirtual 42, 3) := by decide +kernel
theorem dL_unary_6 : decode cL_unary 6 = .ok (.ireturn, 1) := by decide +kernel
theorem dL_unary_7 : decode cL_unary 7 = .ok (.astore_n 3, 1) := by decide +kernel
theorem dL_unary_8 : decode cL_unary 8 = .ok (.ldc 17, 2) := by decide +kernel
theorem dL_unary_10 : decode cL_unary 10 = .ok (.ireturn, 1) := by decide +kernel
theorem dL_unary_11 : decode cL_unary 11 = .ok (.astore_n 3, 1) := by decide +kernel
theorem dL_unary_12 : decode cL_unary 12 = .ok (.ldc 20, 2) := by decide +kernel
theorem dL_unary_14 : decode cL_unary 14 = .ok (.ireturn, 1) := by decide +kernel
theorem dL_unary_15 : decode cL_unary 15 = .ok (.astore_n 3, 1) := by decide +kernel
theorem dL_unary_16 : decode cL_unary 16 = .ok (.ldc 29, 2) := by decide +kernel
theorem dL_unary_18 : decode cL_unary 18 = .ok (.ireturn, 1) := by decide +kernel
theorem dL_unary_19 : decode cL_unary 19 = .ok (.astore_n 3, 1) := by decide +kernel
theorem dL_unary_20 : decode cL_unary 20 = .ok (.ldc 30, 2) := by decide +kernel
theorem dL_unary_22 : decode cL_unary 22 = .ok (.ireturn, 1) := by decide +kernel
theorem dL_cast_0 : decode cL_cast 0 = .ok (.aload_n 0, 1) := by decide +kernel
theorem dL_cast_1 : decode cL_cast 1 = .ok (.iload_n 1, 1) := by decide +kernel
theorem dL_cast_2 : decode cL_cast 2 = .ok (.iload_n 2, 1) := by decide +kernel
theorem dL_cast_3 : decode cL_cast 3 = .ok (.invokevirtual 46, 3) := by decide +kernel
theorem dL_cast_6 : decode cL_cast 6 = .ok (.ireturn, 1) := by decide +kernel
theorem dL_cast_7 : decode cL_cast 7 = .ok (.astore_n 3, 1) := by decide +kernel
theorem dL_cast_8 : decode cL_cast 8 = .ok (.ldc 17, 2) := by decide +kernel
theorem dL_cast_10 : decode cL_cast 10 = .ok (.ireturn, 1) := by decide +kernel
theorem dL_cast_11 : decode cL_cast 11 = .ok (.astore_n 3, 1) := by decide +kernel
theorem dL_cast_12 : decode cL_cast 12 = .ok (.ldc 20, 2) := by decide +kernel
theorem dL_cast_14 : decode cL_cast 14 = .ok (.ireturn, 1) := by decide +kernel
theorem dL_cast_15 : decode cL_cast 15 = .ok (.astore_n 3, 1) := by decide +kernel
theorem dL_cast_16 : decode cL_cast 16 = .ok (.ldc 29, 2) := by decide +kernel
theorem dL_cast_18 : decode cL_cast 18 = .ok (.ireturn, 1) := by decide +kernel
theorem dL_cast_19 : decode cL_cast 19 = .ok (.astore_n 3, 1) := by decide +kernel
theorem dL_cast_20 : decode cL_cast 20 = .ok (.ldc 30, 2) := by decide +kernel
theorem dL_cast_22 : decode cL_cast 22 = .ok (.ireturn, 1) := by decide +kernel
theorem dL_binary_0 : decode cL_binary 0 = .ok (.aload_n 0, 1) := by decide +kernel
theorem dL_binary_1 : decode cL_binary 1 = .ok (.iload_n 1, 1) := by decide +kernel
theorem dL_binary_2 : decode cL_binary 2 = .ok (.iload_n 2, 1) := by decide +kernel
theorem dL_binary_3 : decode cL_binary 3 = .ok (.iload_n 3, 1) := by decide +kernel
theorem dL_binary_4 : decode cL_binary 4 = .ok (.invokevirtual 49, 3) := by decide +kernel
theorem dL_binary_7 : decode cL_binary 7 = .ok (.ireturn, 1) := by decide +kernel
theorem dL_binary_8 : decode cL_binary 8 = .ok (.astore 4, 2) := by decide +kernel
theorem dL_binary_10 : decode cL_binary 10 = .ok (.ldc 17, 2) := by decide +kernel
theorem dL_binary_12 : decode cL_binary 12 = .ok (.ireturn, 1) := by decide +kernel
theorem dL_binary_13 : decode cL_binary 13 = .ok (.astore 4, 2) := by decide +kernel
theorem dL_binary_15 : decode cL_binary 15 = .ok (.ldc 20, 2) := by decide +kernel
theorem dL_binary_17 : decode cL_binary 17 = .ok (.ireturn, 1) := by decide +kernel
theorem dL_binary_18 : decode cL_binary 18 = .ok (.astore 4, 2) := by decide +kernel
theorem dL_binary_20 : decode cL_binary 20 = .ok (.ldc 29, 2) := by decide +kernel
theorem dL_binary_22 : decode cL_binary 22 = .ok (.ireturn, 1) := by decide +kernel
theorem dL_binary_23 : decode cL_binary 23 = .ok (.astore 4, 2) := by decide +kernel
theorem dL_binary_25 : decode cL_binary 25 = .ok (.ldc 30, 2) := by decide +kernel
theorem dL_binary_27 : decode cL_binary 27 = .ok (.ireturn, 1) := by decide +kernel
theorem dL_choose_0 : decode cL_choose 0 = .ok (.aload_n 0, 1) := by decide +kernel
theorem dL_choose_1 : decode cL_choose 1 = .ok (.iload_n 1, 1) := by decide +kernel
theorem dL_choose_2 : decode cL_choose 2 = .ok (.iload_n 2, 1) := by decide +kernel
theorem dL_choose_3 : decode cL_choose 3 = .ok (.iload_n 3, 1) := by decide +kernel
theorem dL_choose_4 : decode cL_choose 4 = .ok (.invokevirtual 53, 3) := by decide +kernel
theorem dL_choose_7 : decode cL_choose 7 = .ok (.ireturn, 1) := by decide +kernel
theorem dL_choose_8 : decode cL_choose 8 = .ok (.astore 4, 2) := by decide +kernel
theorem dL_choose_10 : decode cL_choose 10 = .ok (.ldc 17, 2) := by decide +kernel
theorem dL_choose_12 : decode cL_choose 12 = .ok (.ireturn, 1) := by decide +kernel
theorem dL_choose_13 : decode cL_choose 13 = .ok (.astore 4, 2) := by decide +kernel
theorem dL_choose_15 : decode cL_choose 15 = .ok (.ldc 20, 2) := by decide +kernel
theorem dL_choose_17 : decode cL_choose 17 = .ok (.ireturn, 1) := by decide +kernel
theorem dL_choose_18 : decode cL_choose 18 = .ok (.astore 4, 2) := by decide +kernel
theorem dL_choose_20 : decode cL_choose 20 = .ok (.ldc 29, 2) := by decide +kernel
theorem dL_choose_22 : decode cL_choose 22 = .ok (.ireturn, 1) := by decide +kernel
theorem dL_assign_0 : decode cL_assign 0 = .ok (.aload_n 0, 1) := by decide +kernel
theorem dL_assign_1 : decode cL_assign 1 = .ok (.iload_n 1, 1) := by decide +kernel
theorem dL_assign_2 : decode cL_assign 2 = .ok (.iload_n 2, 1) := by decide +kernel
theorem dL_assign_3 : decode cL_assign 3 = .ok (.iload_n 3, 1) := by decide +kernel
theorem dL_assign_4 : decode cL_assign 4 = .ok (.invokevirtual 56, 3) := by decide +kernel
theorem dL_assign_7 : decode cL_assign 7 = .ok (.ireturn, 1) := by decide +kernel
theorem dL_assign_8 : decode cL_assign 8 = .ok (.astore 4, 2) := by decide +kernel
theorem dL_assign_10 : decode cL_assign 10 = .ok (.ldc 17, 2) := by decide +kernel
theorem dL_assign_12 : decode cL_assign 12 = .ok (.ireturn, 1) := by decide +kernel
theorem dL_assign_13 : decode cL_assign 13 = .ok (.astore 4, 2) := by decide +kernel
theorem dL_assign_15 : decode cL_assign 15 = .ok (.ldc 20, 2) := by decide +kernel
theorem dL_assign_17 : decode cL_assign 17 = .ok (.ireturn, 1) := by decide +kernel
theorem dL_assign_18 : decode cL_assign 18 = .ok (.astore 4, 2) := by decide +kernel
theorem dL_assign_20 : decode cL_assign 20 = .ok (.ldc 29, 2) := by decide +kernel
theorem dL_assign_22 : decode cL_assign 22 = .ok (.ireturn, 1) := by decide +kernel
theorem dL_assign_23 : decode cL_assign 23 = .ok (.astore 4, 2) := by decide +kernel
theorem dL_assign_25 : decode cL_assign 25 = .ok (.ldc 30, 2) := by decide +kernel
theorem dL_assign_27 : decode cL_assign 27 = .ok (.ireturn, 1) := by decide +kernel
theorem dL_typeOf_0 : decode cL_typeOf 0 = .ok (.aload_n 0, 1) := by decide +kernel
theorem dL_typeOf_1 : decode cL_typeOf 1 = .ok (.iload_n 1, 1) := by decide +kernel
theorem dL_typeOf_2 : decode cL_typeOf 2 = .ok (.invokevirtual 59, 3) := by decide +kernel
theorem dL_typeOf_5 : decode cL_typeOf 5 = .ok (.ireturn, 1) := by decide +kernel
theorem dL_typeOf_6 : decode cL_typeOf 6 = .ok (.astore_n 2, 1) := by decide +kernel
theorem dL_typeOf_7 : decode cL_typeOf 7 = .ok (.ldc 17, 2) := by decide +kernel
theorem dL_typeOf_9 : decode cL_typeOf 9 = .ok (.ireturn, 1) := by decide +kernel
theorem dL_simple_0 : decode cL_simple 0 = .ok (.aload_n 0, 1) := by decide +kernel
theorem dL_simple_1 : decode cL_simple 1 = .ok (.iload_n 1, 1) := by decide +kernel
theorem dL_simple_2 : decode cL_simple 2 = .ok (.iload_n 2, 1) := by decide +kernel
theorem dL_simple_3 : decode cL_simple 3 = .ok (.invokevirtual 62, 3) := by decide +kernel
theorem dL_simple_6 : decode cL_simple 6 = .ok (.ireturn, 1) := by decide +kernel
theorem dL_simple_7 : decode cL_simple 7 = .ok (.astore_n 3, 1) := by decide +kernel
theorem dL_simple_8 : decode cL_simple 8 = .ok (.ldc 17, 2) := by decide +kernel
theorem dL_simple_10 : decode cL_simple 10 = .ok (.ireturn, 1) := by decide +kernel
theorem dL_simple_11 : decode cL_simple 11 = .ok (.astore_n 3, 1) := by decide +kernel
theorem dL_simple_12 : decode cL_simple 12 = .ok (.ldc 20, 2) := by decide +kernel
theorem dL_simple_14 : decode cL_simple 14 = .ok (.ireturn, 1) := by decide +kernel
theorem dL_simple_15 : decode cL_simple 15 = .ok (.astore_n 3, 1) := by decide +kernel
theorem dL_simple_16 : decode cL_simple 16 = .ok (.ldc 29, 2) := by decide +kernel
theorem dL_simple_18 : decode cL_simple 18 = .ok (.ireturn, 1) := by decide +kernel
theorem dL_simple_19 : decode cL_simple 19 = .ok (.astore_n 3, 1) := by decide +kernel
theorem dL_simple_20 : decode cL_simple 20 = .ok (.ldc 30, 2) := by decide +kernel
theorem dL_simple_22 : decode cL_simple 22 = .ok (.ireturn, 1) := by decide +kernel
theorem dL_then_0 : decode cL_then 0 = .ok (.aload_n 0, 1) := by decide +kernel
theorem dL_then_1 : decode cL_then 1 = .ok (.iload_n 1, 1) := by decide +kernel
theorem dL_then_2 : decode cL_then 2 = .ok (.iload_n 2, 1) := by decide +kernel
theorem dL_then_3 : decode cL_then 3 = .ok (.invokevirtual 65, 3) := by decide +kernel
theorem dL_then_6 : decode cL_then 6 = .ok (.ireturn, 1) := by decide +kernel
theorem dL_then_7 : decode cL_then 7 = .ok (.astore_n 3, 1) := by decide +kernel
theorem dL_then_8 : decode cL_then 8 = .ok (.ldc 17, 2) := by decide +kernel
theorem dL_then_10 : decode cL_then 10 = .ok (.ireturn, 1) := by decide +kernel
theorem dL_then_11 : decode cL_then 11 = .ok (.astore_n 3, 1) := by decide +kernel
theorem dL_then_12 : decode cL_then 12 = .ok (.ldc 20, 2) := by decide +kernel
theorem dL_then_14 : decode cL_then 14 = .ok (.ireturn, 1) := by decide +kernel
theorem dL_then_15 : decode cL_then 15 = .ok (.astore_n 3, 1) := by decide +kernel
theorem dL_then_16 : decode cL_then 16 = .ok (.ldc 29, 2) := by decide +kernel
theorem dL_then_18 : decode cL_then 18 = .ok (.ireturn, 1) := by decide +kernel
theorem dL_run_0 : decode cL_run 0 = .ok (.aload_n 0, 1) := by decide +kernel
theorem dL_run_1 : decode cL_run 1 = .ok (.iload_n 1, 1) := by decide +kernel
theorem dL_run_2 : decode cL_run 2 = .ok (.invokevirtual 68, 3) := by decide +kernel
theorem dL_run_5 : decode cL_run 5 = .ok (.ireturn, 1) := by decide +kernel
theorem dL_run_6 : decode cL_run 6 = .ok (.astore_n 2, 1) := by decide +kernel
theorem dL_run_7 : decode cL_run 7 = .ok (.ldc 17, 2) := by decide +kernel
theorem dL_run_9 : decode cL_run 9 = .ok (.ireturn, 1) := by decide +kernel
theorem dL_run_10 : decode cL_run 10 = .ok (.astore_n 2, 1) := by decide +kernel
theorem dL_run_11 : decode cL_run 11 = .ok (.ldc 20, 2) := by decide +kernel
theorem dL_run_13 : decode cL_run 13 = .ok (.ireturn, 1) := by decide +kernel
theorem dL_kindOf_0 : decode cL_kindOf 0 = .ok (.aload_n 0, 1) := by decide +kernel
theorem dL_kindOf_1 : decode cL_kindOf 1 = .ok (.invokevirtual 72, 3) := by decide +kernel
theorem dL_kindOf_4 : decode cL_kindOf 4 = .ok (.ireturn, 1) := by decide +kernel
theorem dL_kindOf_5 : decode cL_kindOf 5 = .ok (.astore_n 1, 1) := by decide +kernel
theorem dL_kindOf_6 : decode cL_kindOf 6 = .ok (.ldc 17, 2) := by decide +kernel
theorem dL_kindOf_8 : decode cL_kindOf 8 = .ok (.ireturn, 1) := by decide +kernel
theorem dL_placeOf_0 : decode cL_placeOf 0 = .ok (.aload_n 0, 1) := by decide +kernel
theorem dL_placeOf_1 : decode cL_placeOf 1 = .ok (.invokevirtual 78, 3) := by decide +kernel
theorem dL_placeOf_4 : decode cL_placeOf 4 = .ok (.ireturn, 1) := by decide +kernel
theorem dL_placeOf_5 : decode cL_placeOf 5 = .ok (.astore_n 1, 1) := by decide +kernel
theorem dL_placeOf_6 : decode cL_placeOf 6 = .ok (.ldc 17, 2) := by decide +kernel
theorem dL_placeOf_8 : decode cL_placeOf 8 = .ok (.ireturn, 1) := by decide +kernel
theorem dL_printedAt_0 : decode cL_printedAt 0 = .ok (.aload_n 0, 1) := by decide +kernel
theorem dL_printedAt_1 : decode cL_printedAt 1 = .ok (.iload_n 1, 1) := by decide +kernel
theorem dL_printedAt_2 : decode cL_printedAt 2 = .ok (.invokevirtual 82, 3) := by decide +kernel
theorem dL_printedAt_5 : decode cL_printedAt 5 = .ok (.ireturn, 1) := by decide +kernel
theorem dL_printedAt_6 : decode cL_printedAt 6 = .ok (.astore_n 2, 1) := by decide +kernel
theorem dL_printedAt_7 : decode cL_printedAt 7 = .ok (.ldc 17, 2) := by decide +kernel
theorem dL_printedAt_9 : decode cL_printedAt 9 = .ok (.ireturn, 1) := by decide +kernel
theorem dL_behaviours_0 : decode cL_behaviours 0 = .ok (.aload_n 0, 1) := by decide +kernel
theorem dL_behaviours_1 : decode cL_behaviours 1 = .ok (.invokevirtual 85, 3) := by decide +kernel
theorem dL_behaviours_4 : decode cL_behaviours 4 = .ok (.ireturn, 1) := by decide +kernel
theorem dL_behaviours_5 : decode cL_behaviours 5 = .ok (.astore_n 1, 1) := by decide +kernel
theorem dL_behaviours_6 : decode cL_behaviours 6 = .ok (.ldc 17, 2) := by decide +kernel
theorem dL_behaviours_8 : decode cL_behaviours 8 = .ok (.ireturn, 1) := by decide +kernel
theorem dL_undefinedOrders_0 : decode cL_undefinedOrders 0 = .ok (.aload_n 0, 1) := by decide +kernel
theorem dL_undefinedOrders_1 : decode cL_undefinedOrders 1 = .ok (.invokevirtual 88, 3) := by decide +kernel
theorem dL_undefinedOrders_4 : decode cL_undefinedOrders 4 = .ok (.ireturn, 1) := by decide +kernel
theorem dL_undefinedOrders_5 : decode cL_undefinedOrders 5 = .ok (.astore_n 1, 1) := by decide +kernel
theorem dL_undefinedOrders_6 : decode cL_undefinedOrders 6 = .ok (.ldc 17, 2) := by decide +kernel
theorem dL_undefinedOrders_8 : decode cL_undefinedOrders 8 = .ok (.ireturn, 1) := by decide +kernel
theorem dL_isAsIf_0 : decode cL_isAsIf 0 = .ok (.aload_n 0, 1) := by decide +kernel
theorem dL_isAsIf_1 : decode cL_isAsIf 1 = .ok (.invokevirtual 91, 3) := by decide +kernel
theorem dL_isAsIf_4 : decode cL_isAsIf 4 = .ok (.ifCond .eq 7, 3) := by decide +kernel
theorem dL_isAsIf_7 : decode cL_isAsIf 7 = .ok (.iconst 1, 1) := by decide +kernel
theorem dL_isAsIf_8 : decode cL_isAsIf 8 = .ok (.goto 4, 3) := by decide +kernel
theorem dL_isAsIf_11 : decode cL_isAsIf 11 = .ok (.iconst 0, 1) := by decide +kernel
theorem dL_isAsIf_12 : decode cL_isAsIf 12 = .ok (.ireturn, 1) := by decide +kernel
theorem dL_isAsIf_13 : decode cL_isAsIf 13 = .ok (.astore_n 1, 1) := by decide +kernel
theorem dL_isAsIf_14 : decode cL_isAsIf 14 = .ok (.ldc 17, 2) := by decide +kernel
theorem dL_isAsIf_16 : decode cL_isAsIf 16 = .ok (.ireturn, 1) := by decide +kernel
theorem dL_in_0 : decode cL_in 0 = .ok (.aload_n 0, 1) := by decide +kernel
theorem dL_in_1 : decode cL_in 1 = .ok (.iload_n 1, 1) := by decide +kernel
theorem dL_in_2 : decode cL_in 2 = .ok (.invokestatic 95, 3) := by decide +kernel
theorem dL_in_5 : decode cL_in 5 = .ok (.ldc 101, 2) := by decide +kernel
theorem dL_in_7 : decode cL_in 7 = .ok (.iand, 1) := by decide +kernel
theorem dL_in_8 : decode cL_in 8 = .ok (.iload_n 2, 1) := by decide +kernel
theorem dL_in_9 : decode cL_in 9 = .ok (.irem, 1) := by decide +kernel
theorem dL_in_10 : decode cL_in 10 = .ok (.ireturn, 1) := by decide +kernel
theorem dL_bits_0 : decode cL_bits 0 = .ok (.iload_n 0, 1) := by decide +kernel
theorem dL_bits_1 : decode cL_bits 1 = .ok (.iconst 2, 1) := by decide +kernel
theorem dL_bits_2 : decode cL_bits 2 = .ok (.if_icmp .ge 8, 3) := by decide +kernel
theorem dL_bits_5 : decode cL_bits 5 = .ok (.bipush 8, 2) := by decide +kernel
theorem dL_bits_7 : decode cL_bits 7 = .ok (.goto 15, 3) := by decide +kernel
theorem dL_bits_10 : decode cL_bits 10 = .ok (.iload_n 0, 1) := by decide +kernel
theorem dL_bits_11 : decode cL_bits 11 = .ok (.iconst 4, 1) := by decide +kernel
theorem dL_bits_12 : decode cL_bits 12 = .ok (.if_icmp .ge 8, 3) := by decide +kernel
theorem dL_bits_15 : decode cL_bits 15 = .ok (.bipush 16, 2) := by decide +kernel
theorem dL_bits_17 : decode cL_bits 17 = .ok (.goto 5, 3) := by decide +kernel
theorem dL_bits_20 : decode cL_bits 20 = .ok (.bipush 32, 2) := by decide +kernel
theorem dL_bits_22 : decode cL_bits 22 = .ok (.ireturn, 1) := by decide +kernel
theorem dL_isSigned_0 : decode cL_isSigned 0 = .ok (.iload_n 0, 1) := by decide +kernel
theorem dL_isSigned_1 : decode cL_isSigned 1 = .ok (.iconst 2, 1) := by decide +kernel
theorem dL_isSigned_2 : decode cL_isSigned 2 = .ok (.irem, 1) := by decide +kernel
theorem dL_isSigned_3 : decode cL_isSigned 3 = .ok (.ifCond .ne 7, 3) := by decide +kernel
theorem dL_isSigned_6 : decode cL_isSigned 6 = .ok (.iconst 1, 1) := by decide +kernel
theorem dL_isSigned_7 : decode cL_isSigned 7 = .ok (.goto 4, 3) := by decide +kernel
theorem dL_isSigned_10 : decode cL_isSigned 10 = .ok (.iconst 0, 1) := by decide +kernel
theorem dL_isSigned_11 : decode cL_isSigned 11 = .ok (.ireturn, 1) := by decide +kernel
theorem dL_least_0 : decode cL_least 0 = .ok (.iload_n 0, 1) := by decide +kernel
theorem dL_least_1 : decode cL_least 1 = .ok (.invokestatic 102, 3) := by decide +kernel
theorem dL_least_4 : decode cL_least 4 = .ok (.ifCond .eq 15, 3) := by decide +kernel
theorem dL_least_7 : decode cL_least 7 = .ok (.lconst 1, 1) := by decide +kernel
theorem dL_least_8 : decode cL_least 8 = .ok (.iload_n 0, 1) := by decide +kernel
theorem dL_least_9 : decode cL_least 9 = .ok (.invokestatic 106, 3) := by decide +kernel
theorem dL_least_12 : decode cL_least 12 = .ok (.iconst 1, 1) := by decide +kernel
theorem dL_least_13 : decode cL_least 13 = .ok (.isub, 1) := by decide +kernel
theorem dL_least_14 : decode cL_least 14 = .ok (.lshl, 1) := by decide +kernel
theorem dL_least_15 : decode cL_least 15 = .ok (.lneg, 1) := by decide +kernel
theorem dL_least_16 : decode cL_least 16 = .ok (.goto 4, 3) := by decide +kernel
theorem dL_least_19 : decode cL_least 19 = .ok (.lconst 0, 1) := by decide +kernel
theorem dL_least_20 : decode cL_least 20 = .ok (.lreturn, 1) := by decide +kernel
theorem dL_most_0 : decode cL_most 0 = .ok (.iload_n 0, 1) := by decide +kernel
theorem dL_most_1 : decode cL_most 1 = .ok (.invokestatic 102, 3) := by decide +kernel
theorem dL_most_4 : decode cL_most 4 = .ok (.ifCond .eq 16, 3) := by decide +kernel
theorem dL_most_7 : decode cL_most 7 = .ok (.lconst 1, 1) := by decide +kernel
theorem dL_most_8 : decode cL_most 8 = .ok (.iload_n 0, 1) := by decide +kernel
theorem dL_most_9 : decode cL_most 9 = .ok (.invokestatic 106, 3) := by decide +kernel
theorem dL_most_12 : decode cL_most 12 = .ok (.iconst 1, 1) := by decide +kernel
theorem dL_most_13 : decode cL_most 13 = .ok (.isub, 1) := by decide +kernel
theorem dL_most_14 : decode cL_most 14 = .ok (.lshl, 1) := by decide +kernel
theorem dL_most_15 : decode cL_most 15 = .ok (.lconst 1, 1) := by decide +kernel
theorem dL_most_16 : decode cL_most 16 = .ok (.lsub, 1) := by decide +kernel
theorem dL_most_17 : decode cL_most 17 = .ok (.goto 11, 3) := by decide +kernel
theorem dL_most_20 : decode cL_most 20 = .ok (.lconst 1, 1) := by decide +kernel
theorem dL_most_21 : decode cL_most 21 = .ok (.iload_n 0, 1) := by decide +kernel
theorem dL_most_22 : decode cL_most 22 = .ok (.invokestatic 106, 3) := by decide +kernel
theorem dL_most_25 : decode cL_most 25 = .ok (.lshl, 1) := by decide +kernel
theorem dL_most_26 : decode cL_most 26 = .ok (.lconst 1, 1) := by decide +kernel
