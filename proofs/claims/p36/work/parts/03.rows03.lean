theorem dL_most_27 : decode cL_most 27 = .ok (.lsub, 1) := by decide +kernel
theorem dL_most_28 : decode cL_most 28 = .ok (.lreturn, 1) := by decide +kernel
theorem dL_brought_0 : decode cL_brought 0 = .ok (.lconst 1, 1) := by decide +kernel
theorem dL_brought_1 : decode cL_brought 1 = .ok (.iload_n 0, 1) := by decide +kernel
theorem dL_brought_2 : decode cL_brought 2 = .ok (.invokestatic 106, 3) := by decide +kernel
theorem dL_brought_5 : decode cL_brought 5 = .ok (.lshl, 1) := by decide +kernel
theorem dL_brought_6 : decode cL_brought 6 = .ok (.lstore_n 3, 1) := by decide +kernel
theorem dL_brought_7 : decode cL_brought 7 = .ok (.lload_n 1, 1) := by decide +kernel
theorem dL_brought_8 : decode cL_brought 8 = .ok (.lload_n 3, 1) := by decide +kernel
theorem dL_brought_9 : decode cL_brought 9 = .ok (.lrem, 1) := by decide +kernel
theorem dL_brought_10 : decode cL_brought 10 = .ok (.lstore 5, 2) := by decide +kernel
theorem dL_brought_12 : decode cL_brought 12 = .ok (.lload 5, 2) := by decide +kernel
theorem dL_brought_14 : decode cL_brought 14 = .ok (.lconst 0, 1) := by decide +kernel
theorem dL_brought_15 : decode cL_brought 15 = .ok (.lcmp, 1) := by decide +kernel
theorem dL_brought_16 : decode cL_brought 16 = .ok (.ifCond .ge 10, 3) := by decide +kernel
theorem dL_brought_19 : decode cL_brought 19 = .ok (.lload 5, 2) := by decide +kernel
theorem dL_brought_21 : decode cL_brought 21 = .ok (.lload_n 3, 1) := by decide +kernel
theorem dL_brought_22 : decode cL_brought 22 = .ok (.ladd, 1) := by decide +kernel
theorem dL_brought_23 : decode cL_brought 23 = .ok (.goto 5, 3) := by decide +kernel
theorem dL_brought_26 : decode cL_brought 26 = .ok (.lload 5, 2) := by decide +kernel
theorem dL_brought_28 : decode cL_brought 28 = .ok (.lstore 5, 2) := by decide +kernel
theorem dL_brought_30 : decode cL_brought 30 = .ok (.lload 5, 2) := by decide +kernel
theorem dL_brought_32 : decode cL_brought 32 = .ok (.iload_n 0, 1) := by decide +kernel
theorem dL_brought_33 : decode cL_brought 33 = .ok (.invokestatic 109, 3) := by decide +kernel
theorem dL_brought_36 : decode cL_brought 36 = .ok (.lcmp, 1) := by decide +kernel
theorem dL_brought_37 : decode cL_brought 37 = .ok (.ifCond .le 10, 3) := by decide +kernel
theorem dL_brought_40 : decode cL_brought 40 = .ok (.lload 5, 2) := by decide +kernel
theorem dL_brought_42 : decode cL_brought 42 = .ok (.lload_n 3, 1) := by decide +kernel
theorem dL_brought_43 : decode cL_brought 43 = .ok (.lsub, 1) := by decide +kernel
theorem dL_brought_44 : decode cL_brought 44 = .ok (.goto 5, 3) := by decide +kernel
theorem dL_brought_47 : decode cL_brought 47 = .ok (.lload 5, 2) := by decide +kernel
theorem dL_brought_49 : decode cL_brought 49 = .ok (.lreturn, 1) := by decide +kernel
theorem dL_promoted_0 : decode cL_promoted 0 = .ok (.iload_n 0, 1) := by decide +kernel
theorem dL_promoted_1 : decode cL_promoted 1 = .ok (.iconst 2, 1) := by decide +kernel
theorem dL_promoted_2 : decode cL_promoted 2 = .ok (.if_icmp .ge 7, 3) := by decide +kernel
theorem dL_promoted_5 : decode cL_promoted 5 = .ok (.iconst 2, 1) := by decide +kernel
theorem dL_promoted_6 : decode cL_promoted 6 = .ok (.goto 4, 3) := by decide +kernel
theorem dL_promoted_9 : decode cL_promoted 9 = .ok (.iload_n 0, 1) := by decide +kernel
theorem dL_promoted_10 : decode cL_promoted 10 = .ok (.ireturn, 1) := by decide +kernel
theorem dL_common_0 : decode cL_common 0 = .ok (.iload_n 0, 1) := by decide +kernel
theorem dL_common_1 : decode cL_common 1 = .ok (.invokestatic 113, 3) := by decide +kernel
theorem dL_common_4 : decode cL_common 4 = .ok (.istore_n 2, 1) := by decide +kernel
theorem dL_common_5 : decode cL_common 5 = .ok (.iload_n 1, 1) := by decide +kernel
theorem dL_common_6 : decode cL_common 6 = .ok (.invokestatic 113, 3) := by decide +kernel
theorem dL_common_9 : decode cL_common 9 = .ok (.istore_n 3, 1) := by decide +kernel
theorem dL_common_10 : decode cL_common 10 = .ok (.iload_n 2, 1) := by decide +kernel
theorem dL_common_11 : decode cL_common 11 = .ok (.invokestatic 106, 3) := by decide +kernel
theorem dL_common_14 : decode cL_common 14 = .ok (.iload_n 3, 1) := by decide +kernel
theorem dL_common_15 : decode cL_common 15 = .ok (.invokestatic 106, 3) := by decide +kernel
theorem dL_common_18 : decode cL_common 18 = .ok (.if_icmp .eq 20, 3) := by decide +kernel
theorem dL_common_21 : decode cL_common 21 = .ok (.iload_n 2, 1) := by decide +kernel
theorem dL_common_22 : decode cL_common 22 = .ok (.invokestatic 106, 3) := by decide +kernel
theorem dL_common_25 : decode cL_common 25 = .ok (.iload_n 3, 1) := by decide +kernel
theorem dL_common_26 : decode cL_common 26 = .ok (.invokestatic 106, 3) := by decide +kernel
theorem dL_common_29 : decode cL_common 29 = .ok (.if_icmp .le 7, 3) := by decide +kernel
theorem dL_common_32 : decode cL_common 32 = .ok (.iload_n 2, 1) := by decide +kernel
theorem dL_common_33 : decode cL_common 33 = .ok (.goto 4, 3) := by decide +kernel
theorem dL_common_36 : decode cL_common 36 = .ok (.iload_n 3, 1) := by decide +kernel
theorem dL_common_37 : decode cL_common 37 = .ok (.ireturn, 1) := by decide +kernel
theorem dL_common_38 : decode cL_common 38 = .ok (.iload_n 2, 1) := by decide +kernel
theorem dL_common_39 : decode cL_common 39 = .ok (.invokestatic 102, 3) := by decide +kernel
theorem dL_common_42 : decode cL_common 42 = .ok (.ifCond .eq 7, 3) := by decide +kernel
theorem dL_common_45 : decode cL_common 45 = .ok (.iload_n 3, 1) := by decide +kernel
theorem dL_common_46 : decode cL_common 46 = .ok (.goto 4, 3) := by decide +kernel
theorem dL_common_49 : decode cL_common 49 = .ok (.iload_n 2, 1) := by decide +kernel
theorem dL_common_50 : decode cL_common 50 = .ok (.ireturn, 1) := by decide +kernel
theorem dL_isPrinted_0 : decode cL_isPrinted 0 = .ok (.iconst 0, 1) := by decide +kernel
theorem dL_isPrinted_1 : decode cL_isPrinted 1 = .ok (.istore_n 2, 1) := by decide +kernel
theorem dL_isPrinted_2 : decode cL_isPrinted 2 = .ok (.aload_n 1, 1) := by decide +kernel
theorem dL_isPrinted_3 : decode cL_isPrinted 3 = .ok (.astore_n 3, 1) := by decide +kernel
theorem dL_isPrinted_4 : decode cL_isPrinted 4 = .ok (.aload_n 3, 1) := by decide +kernel
theorem dL_isPrinted_5 : decode cL_isPrinted 5 = .ok (.arraylength, 1) := by decide +kernel
theorem dL_isPrinted_6 : decode cL_isPrinted 6 = .ok (.istore 4, 2) := by decide +kernel
theorem dL_isPrinted_8 : decode cL_isPrinted 8 = .ok (.iconst 0, 1) := by decide +kernel
theorem dL_isPrinted_9 : decode cL_isPrinted 9 = .ok (.istore 5, 2) := by decide +kernel
theorem dL_isPrinted_11 : decode cL_isPrinted 11 = .ok (.iload 5, 2) := by decide +kernel
theorem dL_isPrinted_13 : decode cL_isPrinted 13 = .ok (.iload 4, 2) := by decide +kernel
theorem dL_isPrinted_15 : decode cL_isPrinted 15 = .ok (.if_icmp .ge 73, 3) := by decide +kernel
theorem dL_isPrinted_18 : decode cL_isPrinted 18 = .ok (.aload_n 3, 1) := by decide +kernel
theorem dL_isPrinted_19 : decode cL_isPrinted 19 = .ok (.iload 5, 2) := by decide +kernel
theorem dL_isPrinted_21 : decode cL_isPrinted 21 = .ok (.laload, 1) := by decide +kernel
theorem dL_isPrinted_22 : decode cL_isPrinted 22 = .ok (.lstore 6, 2) := by decide +kernel
theorem dL_isPrinted_24 : decode cL_isPrinted 24 = .ok (.new 116, 3) := by decide +kernel
theorem dL_isPrinted_27 : decode cL_isPrinted 27 = .ok (.dup, 1) := by decide +kernel
theorem dL_isPrinted_28 : decode cL_isPrinted 28 = .ok (.invokespecial 118, 3) := by decide +kernel
theorem dL_isPrinted_31 : decode cL_isPrinted 31 = .ok (.lload 6, 2) := by decide +kernel
theorem dL_isPrinted_33 : decode cL_isPrinted 33 = .ok (.invokevirtual 119, 3) := by decide +kernel
theorem dL_isPrinted_36 : decode cL_isPrinted 36 = .ok (.bipush 32, 2) := by decide +kernel
theorem dL_isPrinted_38 : decode cL_isPrinted 38 = .ok (.invokevirtual 123, 3) := by decide +kernel
theorem dL_isPrinted_41 : decode cL_isPrinted 41 = .ok (.astore 8, 2) := by decide +kernel
theorem dL_isPrinted_43 : decode cL_isPrinted 43 = .ok (.iconst 0, 1) := by decide +kernel
theorem dL_isPrinted_44 : decode cL_isPrinted 44 = .ok (.istore 9, 2) := by decide +kernel
theorem dL_isPrinted_46 : decode cL_isPrinted 46 = .ok (.iload 9, 2) := by decide +kernel
theorem dL_isPrinted_48 : decode cL_isPrinted 48 = .ok (.aload 8, 2) := by decide +kernel
theorem dL_isPrinted_50 : decode cL_isPrinted 50 = .ok (.invokevirtual 126, 3) := by decide +kernel
theorem dL_isPrinted_53 : decode cL_isPrinted 53 = .ok (.if_icmp .ge 29, 3) := by decide +kernel
theorem dL_isPrinted_56 : decode cL_isPrinted 56 = .ok (.aload_n 0, 1) := by decide +kernel
theorem dL_isPrinted_57 : decode cL_isPrinted 57 = .ok (.iload_n 2, 1) := by decide +kernel
theorem dL_isPrinted_58 : decode cL_isPrinted 58 = .ok (.invokestatic 129, 3) := by decide +kernel
theorem dL_isPrinted_61 : decode cL_isPrinted 61 = .ok (.aload 8, 2) := by decide +kernel
theorem dL_isPrinted_63 : decode cL_isPrinted 63 = .ok (.iload 9, 2) := by decide +kernel
theorem dL_isPrinted_65 : decode cL_isPrinted 65 = .ok (.invokevirtual 132, 3) := by decide +kernel
theorem dL_isPrinted_68 : decode cL_isPrinted 68 = .ok (.if_icmp .eq 5, 3) := by decide +kernel
theorem dL_isPrinted_71 : decode cL_isPrinted 71 = .ok (.iconst 0, 1) := by decide +kernel
theorem dL_isPrinted_72 : decode cL_isPrinted 72 = .ok (.ireturn, 1) := by decide +kernel
theorem dL_isPrinted_73 : decode cL_isPrinted 73 = .ok (.iinc 2 1, 3) := by decide +kernel
theorem dL_isPrinted_76 : decode cL_isPrinted 76 = .ok (.iinc 9 1, 3) := by decide +kernel
theorem dL_isPrinted_79 : decode cL_isPrinted 79 = .ok (.goto (-33), 3) := by decide +kernel
theorem dL_isPrinted_82 : decode cL_isPrinted 82 = .ok (.iinc 5 1, 3) := by decide +kernel
theorem dL_isPrinted_85 : decode cL_isPrinted 85 = .ok (.goto (-74), 3) := by decide +kernel
theorem dL_isPrinted_88 : decode cL_isPrinted 88 = .ok (.aload_n 0, 1) := by decide +kernel
theorem dL_isPrinted_89 : decode cL_isPrinted 89 = .ok (.invokevirtual 135, 3) := by decide +kernel
theorem dL_isPrinted_92 : decode cL_isPrinted 92 = .ok (.iload_n 2, 1) := by decide +kernel
theorem dL_isPrinted_93 : decode cL_isPrinted 93 = .ok (.if_icmp .ne 17, 3) := by decide +kernel
theorem dL_isPrinted_96 : decode cL_isPrinted 96 = .ok (.aload_n 0, 1) := by decide +kernel
theorem dL_isPrinted_97 : decode cL_isPrinted 97 = .ok (.iload_n 2, 1) := by decide +kernel
theorem dL_isPrinted_98 : decode cL_isPrinted 98 = .ok (.invokestatic 129, 3) := by decide +kernel
theorem dL_isPrinted_101 : decode cL_isPrinted 101 = .ok (.ldc 17, 2) := by decide +kernel
theorem dL_isPrinted_103 : decode cL_isPrinted 103 = .ok (.if_icmp .ne 7, 3) := by decide +kernel
theorem dL_isPrinted_106 : decode cL_isPrinted 106 = .ok (.iconst 1, 1) := by decide +kernel
theorem dL_isPrinted_107 : decode cL_isPrinted 107 = .ok (.goto 4, 3) := by decide +kernel
theorem dL_isPrinted_110 : decode cL_isPrinted 110 = .ok (.iconst 0, 1) := by decide +kernel
theorem dL_isPrinted_111 : decode cL_isPrinted 111 = .ok (.ireturn, 1) := by decide +kernel
theorem dL_shown_0 : decode cL_shown 0 = .ok (.aload_n 0, 1) := by decide +kernel
theorem dL_shown_1 : decode cL_shown 1 = .ok (.bipush 112, 2) := by decide +kernel
theorem dL_shown_3 : decode cL_shown 3 = .ok (.iload_n 1, 1) := by decide +kernel
theorem dL_shown_4 : decode cL_shown 4 = .ok (.invokestatic 138, 3) := by decide +kernel
theorem dL_shown_7 : decode cL_shown 7 = .ok (.ireturn, 1) := by decide +kernel
theorem dL_put_0 : decode cL_put 0 = .ok (.aload_n 0, 1) := by decide +kernel
theorem dL_put_1 : decode cL_put 1 = .ok (.iload_n 1, 1) := by decide +kernel
theorem dL_put_2 : decode cL_put 2 = .ok (.invokestatic 141, 3) := by decide +kernel
theorem dL_put_5 : decode cL_put 5 = .ok (.istore 4, 2) := by decide +kernel
theorem dL_put_7 : decode cL_put 7 = .ok (.aload_n 0, 1) := by decide +kernel
theorem dL_put_8 : decode cL_put 8 = .ok (.bipush 101, 2) := by decide +kernel
theorem dL_put_10 : decode cL_put 10 = .ok (.aload_n 0, 1) := by decide +kernel
theorem dL_put_11 : decode cL_put 11 = .ok (.bipush 115, 2) := by decide +kernel
theorem dL_put_13 : decode cL_put 13 = .ok (.iload 4, 2) := by decide +kernel
theorem dL_put_15 : decode cL_put 15 = .ok (.aload_n 0, 1) := by decide +kernel
theorem dL_put_16 : decode cL_put 16 = .ok (.iload_n 2, 1) := by decide +kernel
theorem dL_put_17 : decode cL_put 17 = .ok (.iload_n 3, 1) := by decide +kernel
theorem dL_put_18 : decode cL_put 18 = .ok (.invokestatic 143, 3) := by decide +kernel
theorem dL_put_21 : decode cL_put 21 = .ok (.invokestatic 146, 3) := by decide +kernel
theorem dL_put_24 : decode cL_put 24 = .ok (.invokestatic 138, 3) := by decide +kernel
theorem dL_put_27 : decode cL_put 27 = .ok (.ireturn, 1) := by decide +kernel
theorem dL_kept_0 : decode cL_kept 0 = .ok (.bipush 6, 2) := by decide +kernel
theorem dL_kept_2 : decode cL_kept 2 = .ok (.newarray .int, 2) := by decide +kernel
theorem dL_kept_4 : decode cL_kept 4 = .ok (.dup, 1) := by decide +kernel
theorem dL_kept_5 : decode cL_kept 5 = .ok (.iconst 0, 1) := by decide +kernel
theorem dL_kept_6 : decode cL_kept 6 = .ok (.iload_n 2, 1) := by decide +kernel
theorem dL_kept_7 : decode cL_kept 7 = .ok (.iastore, 1) := by decide +kernel
theorem dL_kept_8 : decode cL_kept 8 = .ok (.dup, 1) := by decide +kernel
theorem dL_kept_9 : decode cL_kept 9 = .ok (.iconst 1, 1) := by decide +kernel
theorem dL_kept_10 : decode cL_kept 10 = .ok (.iload_n 3, 1) := by decide +kernel
theorem dL_kept_11 : decode cL_kept 11 = .ok (.iastore, 1) := by decide +kernel
theorem dL_kept_12 : decode cL_kept 12 = .ok (.dup, 1) := by decide +kernel
theorem dL_kept_13 : decode cL_kept 13 = .ok (.iconst 2, 1) := by decide +kernel
theorem dL_kept_14 : decode cL_kept 14 = .ok (.iload 4, 2) := by decide +kernel
theorem dL_kept_16 : decode cL_kept 16 = .ok (.iastore, 1) := by decide +kernel
theorem dL_kept_17 : decode cL_kept 17 = .ok (.dup, 1) := by decide +kernel
theorem dL_kept_18 : decode cL_kept 18 = .ok (.iconst 3, 1) := by decide +kernel
theorem dL_kept_19 : decode cL_kept 19 = .ok (.iload 5, 2) := by decide +kernel
theorem dL_kept_21 : decode cL_kept 21 = .ok (.iastore, 1) := by decide +kernel
theorem dL_kept_22 : decode cL_kept 22 = .ok (.dup, 1) := by decide +kernel
theorem dL_kept_23 : decode cL_kept 23 = .ok (.iconst 4, 1) := by decide +kernel
theorem dL_kept_24 : decode cL_kept 24 = .ok (.iload 6, 2) := by decide +kernel
theorem dL_kept_26 : decode cL_kept 26 = .ok (.iastore, 1) := by decide +kernel
theorem dL_kept_27 : decode cL_kept 27 = .ok (.dup, 1) := by decide +kernel
theorem dL_kept_28 : decode cL_kept 28 = .ok (.iconst 5, 1) := by decide +kernel
theorem dL_kept_29 : decode cL_kept 29 = .ok (.iload 7, 2) := by decide +kernel
theorem dL_kept_31 : decode cL_kept 31 = .ok (.iastore, 1) := by decide +kernel
theorem dL_kept_32 : decode cL_kept 32 = .ok (.astore 8, 2) := by decide +kernel
theorem dL_kept_34 : decode cL_kept 34 = .ok (.iconst 0, 1) := by decide +kernel
theorem dL_kept_35 : decode cL_kept 35 = .ok (.istore 9, 2) := by decide +kernel
theorem dL_kept_37 : decode cL_kept 37 = .ok (.iload 9, 2) := by decide +kernel
theorem dL_kept_39 : decode cL_kept 39 = .ok (.bipush 6, 2) := by decide +kernel
theorem dL_kept_41 : decode cL_kept 41 = .ok (.if_icmp .ge 23, 3) := by decide +kernel
theorem dL_kept_44 : decode cL_kept 44 = .ok (.aload_n 0, 1) := by decide +kernel
theorem dL_kept_45 : decode cL_kept 45 = .ok (.bipush 6, 2) := by decide +kernel
theorem dL_kept_47 : decode cL_kept 47 = .ok (.iload_n 1, 1) := by decide +kernel
theorem dL_kept_48 : decode cL_kept 48 = .ok (.imul, 1) := by decide +kernel
theorem dL_kept_49 : decode cL_kept 49 = .ok (.iload 9, 2) := by decide +kernel
theorem dL_kept_51 : decode cL_kept 51 = .ok (.iadd, 1) := by decide +kernel
theorem dL_kept_52 : decode cL_kept 52 = .ok (.aload 8, 2) := by decide +kernel
theorem dL_kept_54 : decode cL_kept 54 = .ok (.iload 9, 2) := by decide +kernel
theorem dL_kept_56 : decode cL_kept 56 = .ok (.iaload, 1) := by decide +kernel
theorem dL_kept_57 : decode cL_kept 57 = .ok (.iastore, 1) := by decide +kernel
theorem dL_kept_58 : decode cL_kept 58 = .ok (.iinc 9 1, 3) := by decide +kernel
theorem dL_kept_61 : decode cL_kept 61 = .ok (.goto (-24), 3) := by decide +kernel
theorem dL_kept_64 : decode cL_kept 64 = .ok (.return_, 1) := by decide +kernel
theorem dL_edge_0 : decode cL_edge 0 = .ok (.aload_n 0, 1) := by decide +kernel
theorem dL_edge_1 : decode cL_edge 1 = .ok (.iload_n 1, 1) := by decide +kernel
theorem dL_edge_2 : decode cL_edge 2 = .ok (.bipush 6, 2) := by decide +kernel
theorem dL_edge_4 : decode cL_edge 4 = .ok (.invokestatic 149, 3) := by decide +kernel
theorem dL_edge_7 : decode cL_edge 7 = .ok (.istore_n 3, 1) := by decide +kernel
theorem dL_edge_8 : decode cL_edge 8 = .ok (.iload_n 2, 1) := by decide +kernel
theorem dL_edge_9 : decode cL_edge 9 = .ok (.invokestatic 153, 3) := by decide +kernel
theorem dL_edge_12 : decode cL_edge 12 = .ok (.lstore 4, 2) := by decide +kernel
theorem dL_edge_14 : decode cL_edge 14 = .ok (.iload_n 2, 1) := by decide +kernel
theorem dL_edge_15 : decode cL_edge 15 = .ok (.iconst 5, 1) := by decide +kernel
theorem dL_edge_16 : decode cL_edge 16 = .ok (.if_icmp .ne 9, 3) := by decide +kernel
theorem dL_edge_19 : decode cL_edge 19 = .ok (.ldc2_w 158, 3) := by decide +kernel
theorem dL_edge_22 : decode cL_edge 22 = .ok (.goto 7, 3) := by decide +kernel
theorem dL_edge_25 : decode cL_edge 25 = .ok (.iload_n 2, 1) := by decide +kernel
theorem dL_edge_26 : decode cL_edge 26 = .ok (.invokestatic 109, 3) := by decide +kernel
theorem dL_edge_29 : decode cL_edge 29 = .ok (.lstore 6, 2) := by decide +kernel
theorem dL_edge_31 : decode cL_edge 31 = .ok (.iload_n 3, 1) := by decide +kernel
theorem dL_edge_32 : decode cL_edge 32 = .ok (.ifCond .ne 8, 3) := by decide +kernel
theorem dL_edge_35 : decode cL_edge 35 = .ok (.lload 4, 2) := by decide +kernel
theorem dL_edge_37 : decode cL_edge 37 = .ok (.goto 65, 3) := by decide +kernel
theorem dL_edge_40 : decode cL_edge 40 = .ok (.iload_n 3, 1) := by decide +kernel
theorem dL_edge_41 : decode cL_edge 41 = .ok (.iconst 1, 1) := by decide +kernel
theorem dL_edge_42 : decode cL_edge 42 = .ok (.if_icmp .ne 8, 3) := by decide +kernel
theorem dL_edge_45 : decode cL_edge 45 = .ok (.lload 6, 2) := by decide +kernel
theorem dL_edge_47 : decode cL_edge 47 = .ok (.goto 55, 3) := by decide +kernel
theorem dL_edge_50 : decode cL_edge 50 = .ok (.iload_n 3, 1) := by decide +kernel
theorem dL_edge_51 : decode cL_edge 51 = .ok (.iconst 2, 1) := by decide +kernel
theorem dL_edge_52 : decode cL_edge 52 = .ok (.if_icmp .ne 7, 3) := by decide +kernel
theorem dL_edge_55 : decode cL_edge 55 = .ok (.lconst 0, 1) := by decide +kernel
theorem dL_edge_56 : decode cL_edge 56 = .ok (.goto 46, 3) := by decide +kernel
theorem dL_edge_59 : decode cL_edge 59 = .ok (.iload_n 3, 1) := by decide +kernel
theorem dL_edge_60 : decode cL_edge 60 = .ok (.iconst 3, 1) := by decide +kernel
theorem dL_edge_61 : decode cL_edge 61 = .ok (.if_icmp .ne 7, 3) := by decide +kernel
theorem dL_edge_64 : decode cL_edge 64 = .ok (.lconst 1, 1) := by decide +kernel
theorem dL_edge_65 : decode cL_edge 65 = .ok (.goto 37, 3) := by decide +kernel
theorem dL_edge_68 : decode cL_edge 68 = .ok (.iload_n 3, 1) := by decide +kernel
theorem dL_edge_69 : decode cL_edge 69 = .ok (.iconst 4, 1) := by decide +kernel
theorem dL_edge_70 : decode cL_edge 70 = .ok (.if_icmp .ne 22, 3) := by decide +kernel
theorem dL_edge_73 : decode cL_edge 73 = .ok (.lload 6, 2) := by decide +kernel
theorem dL_edge_75 : decode cL_edge 75 = .ok (.aload_n 0, 1) := by decide +kernel
theorem dL_edge_76 : decode cL_edge 76 = .ok (.iload_n 1, 1) := by decide +kernel
theorem dL_edge_77 : decode cL_edge 77 = .ok (.iconst 1, 1) := by decide +kernel
theorem dL_edge_78 : decode cL_edge 78 = .ok (.iadd, 1) := by decide +kernel
theorem dL_edge_79 : decode cL_edge 79 = .ok (.bipush 100, 2) := by decide +kernel
theorem dL_edge_81 : decode cL_edge 81 = .ok (.invokestatic 149, 3) := by decide +kernel
theorem dL_edge_84 : decode cL_edge 84 = .ok (.i2l, 1) := by decide +kernel
theorem dL_edge_85 : decode cL_edge 85 = .ok (.lload 6, 2) := by decide +kernel
theorem dL_edge_87 : decode cL_edge 87 = .ok (.lrem, 1) := by decide +kernel
theorem dL_edge_88 : decode cL_edge 88 = .ok (.lsub, 1) := by decide +kernel
theorem dL_edge_89 : decode cL_edge 89 = .ok (.goto 13, 3) := by decide +kernel
theorem dL_edge_92 : decode cL_edge 92 = .ok (.aload_n 0, 1) := by decide +kernel
theorem dL_edge_93 : decode cL_edge 93 = .ok (.iload_n 1, 1) := by decide +kernel
theorem dL_edge_94 : decode cL_edge 94 = .ok (.iconst 1, 1) := by decide +kernel
theorem dL_edge_95 : decode cL_edge 95 = .ok (.iadd, 1) := by decide +kernel
theorem dL_edge_96 : decode cL_edge 96 = .ok (.bipush 40, 2) := by decide +kernel
theorem dL_edge_98 : decode cL_edge 98 = .ok (.invokestatic 149, 3) := by decide +kernel
theorem dL_edge_101 : decode cL_edge 101 = .ok (.i2l, 1) := by decide +kernel
theorem dL_edge_102 : decode cL_edge 102 = .ok (.lstore 8, 2) := by decide +kernel
theorem dL_edge_104 : decode cL_edge 104 = .ok (.lload 8, 2) := by decide +kernel
theorem dL_edge_106 : decode cL_edge 106 = .ok (.lload 6, 2) := by decide +kernel
theorem dL_edge_108 : decode cL_edge 108 = .ok (.lcmp, 1) := by decide +kernel
theorem dL_edge_109 : decode cL_edge 109 = .ok (.ifCond .le 8, 3) := by decide +kernel
theorem dL_edge_112 : decode cL_edge 112 = .ok (.lload 6, 2) := by decide +kernel
theorem dL_edge_114 : decode cL_edge 114 = .ok (.goto 18, 3) := by decide +kernel
theorem dL_edge_117 : decode cL_edge 117 = .ok (.lload 8, 2) := by decide +kernel
theorem dL_edge_119 : decode cL_edge 119 = .ok (.lload 4, 2) := by decide +kernel
theorem dL_edge_121 : decode cL_edge 121 = .ok (.lcmp, 1) := by decide +kernel
theorem dL_edge_122 : decode cL_edge 122 = .ok (.ifCond .ge 8, 3) := by decide +kernel
theorem dL_edge_125 : decode cL_edge 125 = .ok (.lload 4, 2) := by decide +kernel
theorem dL_edge_127 : decode cL_edge 127 = .ok (.goto 5, 3) := by decide +kernel
theorem dL_edge_130 : decode cL_edge 130 = .ok (.lload 8, 2) := by decide +kernel
theorem dL_edge_132 : decode cL_edge 132 = .ok (.l2i, 1) := by decide +kernel
theorem dL_edge_133 : decode cL_edge 133 = .ok (.ireturn, 1) := by decide +kernel
theorem dL_built_0 : decode cL_built 0 = .ok (.iload 4, 2) := by decide +kernel
theorem dL_built_2 : decode cL_built 2 = .ok (.ifCond .ne 12, 3) := by decide +kernel
theorem dL_built_5 : decode cL_built 5 = .ok (.aload_n 2, 1) := by decide +kernel
theorem dL_built_6 : decode cL_built 6 = .ok (.iload_n 3, 1) := by decide +kernel
theorem dL_built_7 : decode cL_built 7 = .ok (.iconst 2, 1) := by decide +kernel
theorem dL_built_8 : decode cL_built 8 = .ok (.invokestatic 149, 3) := by decide +kernel
theorem dL_built_11 : decode cL_built 11 = .ok (.goto 10, 3) := by decide +kernel
theorem dL_built_14 : decode cL_built 14 = .ok (.aload_n 2, 1) := by decide +kernel
theorem dL_built_15 : decode cL_built 15 = .ok (.iload_n 3, 1) := by decide +kernel
theorem dL_built_16 : decode cL_built 16 = .ok (.bipush 9, 2) := by decide +kernel
theorem dL_built_18 : decode cL_built 18 = .ok (.invokestatic 149, 3) := by decide +kernel
theorem dL_built_21 : decode cL_built 21 = .ok (.istore 5, 2) := by decide +kernel
theorem dL_built_23 : decode cL_built 23 = .ok (.iload 5, 2) := by decide +kernel
theorem dL_built_25 : decode cL_built 25 = .ok (.ifCond .ne 68, 3) := by decide +kernel
theorem dL_built_28 : decode cL_built 28 = .ok (.aload_n 2, 1) := by decide +kernel
theorem dL_built_29 : decode cL_built 29 = .ok (.iload_n 3, 1) := by decide +kernel
theorem dL_built_30 : decode cL_built 30 = .ok (.iconst 1, 1) := by decide +kernel
theorem dL_built_31 : decode cL_built 31 = .ok (.iadd, 1) := by decide +kernel
theorem dL_built_32 : decode cL_built 32 = .ok (.bipush 6, 2) := by decide +kernel
theorem dL_built_34 : decode cL_built 34 = .ok (.invokestatic 149, 3) := by decide +kernel
theorem dL_built_37 : decode cL_built 37 = .ok (.istore 6, 2) := by decide +kernel
theorem dL_built_39 : decode cL_built 39 = .ok (.aload_n 2, 1) := by decide +kernel
theorem dL_built_40 : decode cL_built 40 = .ok (.iload_n 3, 1) := by decide +kernel
theorem dL_built_41 : decode cL_built 41 = .ok (.iconst 2, 1) := by decide +kernel
theorem dL_built_42 : decode cL_built 42 = .ok (.iadd, 1) := by decide +kernel
theorem dL_built_43 : decode cL_built 43 = .ok (.iload 6, 2) := by decide +kernel
theorem dL_built_45 : decode cL_built 45 = .ok (.invokestatic 160, 3) := by decide +kernel
theorem dL_built_48 : decode cL_built 48 = .ok (.istore 7, 2) := by decide +kernel
theorem dL_built_50 : decode cL_built 50 = .ok (.aload_n 0, 1) := by decide +kernel
theorem dL_built_51 : decode cL_built 51 = .ok (.iload 7, 2) := by decide +kernel
theorem dL_built_53 : decode cL_built 53 = .ok (.iload 6, 2) := by decide +kernel
theorem dL_built_55 : decode cL_built 55 = .ok (.invokestatic 143, 3) := by decide +kernel
theorem dL_built_58 : decode cL_built 58 = .ok (.istore 8, 2) := by decide +kernel
theorem dL_built_60 : decode cL_built 60 = .ok (.aload_n 1, 1) := by decide +kernel
theorem dL_built_61 : decode cL_built 61 = .ok (.iload 8, 2) := by decide +kernel
theorem dL_built_63 : decode cL_built 63 = .ok (.bipush 78, 2) := by decide +kernel
theorem dL_built_65 : decode cL_built 65 = .ok (.iload 6, 2) := by decide +kernel
theorem dL_built_67 : decode cL_built 67 = .ok (.iconst 0, 1) := by decide +kernel
theorem dL_built_68 : decode cL_built 68 = .ok (.iconst 0, 1) := by decide +kernel
theorem dL_built_69 : decode cL_built 69 = .ok (.iconst 0, 1) := by decide +kernel
theorem dL_built_70 : decode cL_built 70 = .ok (.iload 7, 2) := by decide +kernel
theorem dL_built_72 : decode cL_built 72 = .ok (.invokestatic 163, 3) := by decide +kernel
theorem dL_built_75 : decode cL_built 75 = .ok (.aload_n 0, 1) := by decide +kernel
theorem dL_built_76 : decode cL_built 76 = .ok (.iload 8, 2) := by decide +kernel
theorem dL_built_78 : decode cL_built 78 = .ok (.invokestatic 167, 3) := by decide +kernel
theorem dL_built_81 : decode cL_built 81 = .ok (.iload 6, 2) := by decide +kernel
theorem dL_built_83 : decode cL_built 83 = .ok (.if_icmp .ne 8, 3) := by decide +kernel
theorem dL_built_86 : decode cL_built 86 = .ok (.iload 8, 2) := by decide +kernel
theorem dL_built_88 : decode cL_built 88 = .ok (.goto 4, 3) := by decide +kernel
theorem dL_built_91 : decode cL_built 91 = .ok (.iconst (-1), 1) := by decide +kernel
theorem dL_built_92 : decode cL_built 92 = .ok (.ireturn, 1) := by decide +kernel
theorem dL_built_93 : decode cL_built 93 = .ok (.iload 5, 2) := by decide +kernel
theorem dL_built_95 : decode cL_built 95 = .ok (.iconst 1, 1) := by decide +kernel
theorem dL_built_96 : decode cL_built 96 = .ok (.if_icmp .ne 55, 3) := by decide +kernel
theorem dL_built_99 : decode cL_built 99 = .ok (.aload_n 2, 1) := by decide +kernel
theorem dL_built_100 : decode cL_built 100 = .ok (.iload_n 3, 1) := by decide +kernel
theorem dL_built_101 : decode cL_built 101 = .ok (.iconst 1, 1) := by decide +kernel
theorem dL_built_102 : decode cL_built 102 = .ok (.iadd, 1) := by decide +kernel
theorem dL_built_103 : decode cL_built 103 = .ok (.bipush 6, 2) := by decide +kernel
theorem dL_built_105 : decode cL_built 105 = .ok (.invokestatic 149, 3) := by decide +kernel
theorem dL_built_108 : decode cL_built 108 = .ok (.istore 6, 2) := by decide +kernel
theorem dL_built_110 : decode cL_built 110 = .ok (.aload_n 0, 1) := by decide +kernel
theorem dL_built_111 : decode cL_built 111 = .ok (.iload 6, 2) := by decide +kernel
theorem dL_built_113 : decode cL_built 113 = .ok (.invokestatic 141, 3) := by decide +kernel
theorem dL_built_116 : decode cL_built 116 = .ok (.istore 7, 2) := by decide +kernel
theorem dL_built_118 : decode cL_built 118 = .ok (.aload_n 1, 1) := by decide +kernel
theorem dL_built_119 : decode cL_built 119 = .ok (.iload 7, 2) := by decide +kernel
theorem dL_built_121 : decode cL_built 121 = .ok (.bipush 86, 2) := by decide +kernel
theorem dL_built_123 : decode cL_built 123 = .ok (.iload 6, 2) := by decide +kernel
theorem dL_built_125 : decode cL_built 125 = .ok (.iconst 0, 1) := by decide +kernel
theorem dL_built_126 : decode cL_built 126 = .ok (.iconst 0, 1) := by decide +kernel
theorem dL_built_127 : decode cL_built 127 = .ok (.iconst 0, 1) := by decide +kernel
theorem dL_built_128 : decode cL_built 128 = .ok (.iload 6, 2) := by decide +kernel
theorem dL_built_130 : decode cL_built 130 = .ok (.invokestatic 163, 3) := by decide +kernel
theorem dL_built_133 : decode cL_built 133 = .ok (.aload_n 0, 1) := by decide +kernel
theorem dL_built_134 : decode cL_built 134 = .ok (.iload 7, 2) := by decide +kernel
theorem dL_built_136 : decode cL_built 136 = .ok (.invokestatic 167, 3) := by decide +kernel
theorem dL_built_139 : decode cL_built 139 = .ok (.iload 6, 2) := by decide +kernel
theorem dL_built_141 : decode cL_built 141 = .ok (.if_icmp .ne 8, 3) := by decide +kernel
theorem dL_built_144 : decode cL_built 144 = .ok (.iload 7, 2) := by decide +kernel
theorem dL_built_146 : decode cL_built 146 = .ok (.goto 4, 3) := by decide +kernel
theorem dL_built_149 : decode cL_built 149 = .ok (.iconst (-1), 1) := by decide +kernel
theorem dL_built_150 : decode cL_built 150 = .ok (.ireturn, 1) := by decide +kernel
theorem dL_built_151 : decode cL_built 151 = .ok (.aload_n 0, 1) := by decide +kernel
theorem dL_built_152 : decode cL_built 152 = .ok (.aload_n 1, 1) := by decide +kernel
theorem dL_built_153 : decode cL_built 153 = .ok (.aload_n 2, 1) := by decide +kernel
theorem dL_built_154 : decode cL_built 154 = .ok (.iconst 3, 1) := by decide +kernel
theorem dL_built_155 : decode cL_built 155 = .ok (.iload_n 3, 1) := by decide +kernel
theorem dL_built_156 : decode cL_built 156 = .ok (.imul, 1) := by decide +kernel
theorem dL_built_157 : decode cL_built 157 = .ok (.iconst 1, 1) := by decide +kernel
theorem dL_built_158 : decode cL_built 158 = .ok (.iadd, 1) := by decide +kernel
theorem dL_built_159 : decode cL_built 159 = .ok (.iload 4, 2) := by decide +kernel
theorem dL_built_161 : decode cL_built 161 = .ok (.iconst 1, 1) := by decide +kernel
theorem dL_built_162 : decode cL_built 162 = .ok (.isub, 1) := by decide +kernel
theorem dL_built_163 : decode cL_built 163 = .ok (.invokestatic 169, 3) := by decide +kernel
theorem dL_built_166 : decode cL_built 166 = .ok (.istore 6, 2) := by decide +kernel
theorem dL_built_168 : decode cL_built 168 = .ok (.iload 6, 2) := by decide +kernel
theorem dL_built_170 : decode cL_built 170 = .ok (.ifCond .ge 5, 3) := by decide +kernel
theorem dL_built_173 : decode cL_built 173 = .ok (.iconst (-1), 1) := by decide +kernel
theorem dL_built_174 : decode cL_built 174 = .ok (.ireturn, 1) := by decide +kernel
theorem dL_built_175 : decode cL_built 175 = .ok (.aload_n 1, 1) := by decide +kernel
theorem dL_built_176 : decode cL_built 176 = .ok (.bipush 6, 2) := by decide +kernel
theorem dL_built_178 : decode cL_built 178 = .ok (.iload 6, 2) := by decide +kernel
theorem dL_built_180 : decode cL_built 180 = .ok (.imul, 1) := by decide +kernel
theorem dL_built_181 : decode cL_built 181 = .ok (.iconst 1, 1) := by decide +kernel
theorem dL_built_182 : decode cL_built 182 = .ok (.iadd, 1) := by decide +kernel
theorem dL_built_183 : decode cL_built 183 = .ok (.iaload, 1) := by decide +kernel
theorem dL_built_184 : decode cL_built 184 = .ok (.istore 7, 2) := by decide +kernel
theorem dL_built_186 : decode cL_built 186 = .ok (.iload 5, 2) := by decide +kernel
theorem dL_built_188 : decode cL_built 188 = .ok (.iconst 2, 1) := by decide +kernel
theorem dL_built_189 : decode cL_built 189 = .ok (.if_icmp .ne 83, 3) := by decide +kernel
theorem dL_built_192 : decode cL_built 192 = .ok (.ldc 173, 2) := by decide +kernel
theorem dL_built_194 : decode cL_built 194 = .ok (.aload_n 2, 1) := by decide +kernel
theorem dL_built_195 : decode cL_built 195 = .ok (.iload_n 3, 1) := by decide +kernel
theorem dL_built_196 : decode cL_built 196 = .ok (.iconst 1, 1) := by decide +kernel
theorem dL_built_197 : decode cL_built 197 = .ok (.iadd, 1) := by decide +kernel
theorem dL_built_198 : decode cL_built 198 = .ok (.iconst 3, 1) := by decide +kernel
theorem dL_built_199 : decode cL_built 199 = .ok (.invokestatic 149, 3) := by decide +kernel
theorem dL_built_202 : decode cL_built 202 = .ok (.invokevirtual 175, 3) := by decide +kernel
theorem dL_built_205 : decode cL_built 205 = .ok (.istore 8, 2) := by decide +kernel
theorem dL_built_207 : decode cL_built 207 = .ok (.aload_n 0, 1) := by decide +kernel
theorem dL_built_208 : decode cL_built 208 = .ok (.iload 8, 2) := by decide +kernel
theorem dL_built_210 : decode cL_built 210 = .ok (.i2c, 1) := by decide +kernel
theorem dL_built_211 : decode cL_built 211 = .ok (.iload 6, 2) := by decide +kernel
theorem dL_built_213 : decode cL_built 213 = .ok (.invokestatic 178, 3) := by decide +kernel
theorem dL_built_216 : decode cL_built 216 = .ok (.istore 9, 2) := by decide +kernel
theorem dL_built_218 : decode cL_built 218 = .ok (.aload_n 1, 1) := by decide +kernel
theorem dL_built_219 : decode cL_built 219 = .ok (.iload 9, 2) := by decide +kernel
theorem dL_built_221 : decode cL_built 221 = .ok (.iload 8, 2) := by decide +kernel
theorem dL_built_223 : decode cL_built 223 = .ok (.iload 8, 2) := by decide +kernel
theorem dL_built_225 : decode cL_built 225 = .ok (.bipush 33, 2) := by decide +kernel
theorem dL_built_227 : decode cL_built 227 = .ok (.if_icmp .ne 7, 3) := by decide +kernel
theorem dL_built_230 : decode cL_built 230 = .ok (.iconst 2, 1) := by decide +kernel
theorem dL_built_231 : decode cL_built 231 = .ok (.goto 8, 3) := by decide +kernel
theorem dL_built_234 : decode cL_built 234 = .ok (.iload 7, 2) := by decide +kernel
theorem dL_built_236 : decode cL_built 236 = .ok (.invokestatic 113, 3) := by decide +kernel
theorem dL_built_239 : decode cL_built 239 = .ok (.iload 6, 2) := by decide +kernel
theorem dL_built_241 : decode cL_built 241 = .ok (.iconst 0, 1) := by decide +kernel
theorem dL_built_242 : decode cL_built 242 = .ok (.iconst 0, 1) := by decide +kernel
theorem dL_built_243 : decode cL_built 243 = .ok (.iconst 0, 1) := by decide +kernel
theorem dL_built_244 : decode cL_built 244 = .ok (.invokestatic 163, 3) := by decide +kernel
theorem dL_built_247 : decode cL_built 247 = .ok (.aload_n 0, 1) := by decide +kernel
theorem dL_built_248 : decode cL_built 248 = .ok (.iload 9, 2) := by decide +kernel
theorem dL_built_250 : decode cL_built 250 = .ok (.invokestatic 167, 3) := by decide +kernel
theorem dL_built_253 : decode cL_built 253 = .ok (.aload_n 1, 1) := by decide +kernel
theorem dL_built_254 : decode cL_built 254 = .ok (.bipush 6, 2) := by decide +kernel
theorem dL_built_256 : decode cL_built 256 = .ok (.iload 9, 2) := by decide +kernel
theorem dL_built_258 : decode cL_built 258 = .ok (.imul, 1) := by decide +kernel
theorem dL_built_259 : decode cL_built 259 = .ok (.iconst 1, 1) := by decide +kernel
theorem dL_built_260 : decode cL_built 260 = .ok (.iadd, 1) := by decide +kernel
theorem dL_built_261 : decode cL_built 261 = .ok (.iaload, 1) := by decide +kernel
theorem dL_built_262 : decode cL_built 262 = .ok (.if_icmp .ne 8, 3) := by decide +kernel
theorem dL_built_265 : decode cL_built 265 = .ok (.iload 9, 2) := by decide +kernel
theorem dL_built_267 : decode cL_built 267 = .ok (.goto 4, 3) := by decide +kernel
theorem dL_built_270 : decode cL_built 270 = .ok (.iconst (-1), 1) := by decide +kernel
theorem dL_built_271 : decode cL_built 271 = .ok (.ireturn, 1) := by decide +kernel
theorem dL_built_272 : decode cL_built 272 = .ok (.iload 5, 2) := by decide +kernel
theorem dL_built_274 : decode cL_built 274 = .ok (.iconst 3, 1) := by decide +kernel
theorem dL_built_275 : decode cL_built 275 = .ok (.if_icmp .ne 57, 3) := by decide +kernel
theorem dL_built_278 : decode cL_built 278 = .ok (.aload_n 2, 1) := by decide +kernel
theorem dL_built_279 : decode cL_built 279 = .ok (.iload_n 3, 1) := by decide +kernel
theorem dL_built_280 : decode cL_built 280 = .ok (.iconst 1, 1) := by decide +kernel
theorem dL_built_281 : decode cL_built 281 = .ok (.iadd, 1) := by decide +kernel
theorem dL_built_282 : decode cL_built 282 = .ok (.bipush 6, 2) := by decide +kernel
theorem dL_built_284 : decode cL_built 284 = .ok (.invokestatic 149, 3) := by decide +kernel
theorem dL_built_287 : decode cL_built 287 = .ok (.istore 8, 2) := by decide +kernel
theorem dL_built_289 : decode cL_built 289 = .ok (.aload_n 0, 1) := by decide +kernel
theorem dL_built_290 : decode cL_built 290 = .ok (.iload 8, 2) := by decide +kernel
theorem dL_built_292 : decode cL_built 292 = .ok (.iload 6, 2) := by decide +kernel
theorem dL_built_294 : decode cL_built 294 = .ok (.invokestatic 180, 3) := by decide +kernel
theorem dL_built_297 : decode cL_built 297 = .ok (.istore 9, 2) := by decide +kernel
theorem dL_built_299 : decode cL_built 299 = .ok (.aload_n 1, 1) := by decide +kernel
theorem dL_built_300 : decode cL_built 300 = .ok (.iload 9, 2) := by decide +kernel
theorem dL_built_302 : decode cL_built 302 = .ok (.bipush 67, 2) := by decide +kernel
theorem dL_built_304 : decode cL_built 304 = .ok (.iload 8, 2) := by decide +kernel
theorem dL_built_306 : decode cL_built 306 = .ok (.iload 6, 2) := by decide +kernel
theorem dL_built_308 : decode cL_built 308 = .ok (.iconst 0, 1) := by decide +kernel
theorem dL_built_309 : decode cL_built 309 = .ok (.iconst 0, 1) := by decide +kernel
theorem dL_built_310 : decode cL_built 310 = .ok (.iconst 0, 1) := by decide +kernel
theorem dL_built_311 : decode cL_built 311 = .ok (.invokestatic 163, 3) := by decide +kernel
theorem dL_built_314 : decode cL_built 314 = .ok (.aload_n 0, 1) := by decide +kernel
theorem dL_built_315 : decode cL_built 315 = .ok (.iload 9, 2) := by decide +kernel
theorem dL_built_317 : decode cL_built 317 = .ok (.invokestatic 167, 3) := by decide +kernel
theorem dL_built_320 : decode cL_built 320 = .ok (.iload 8, 2) := by decide +kernel
theorem dL_built_322 : decode cL_built 322 = .ok (.if_icmp .ne 8, 3) := by decide +kernel
theorem dL_built_325 : decode cL_built 325 = .ok (.iload 9, 2) := by decide +kernel
theorem dL_built_327 : decode cL_built 327 = .ok (.goto 4, 3) := by decide +kernel
theorem dL_built_330 : decode cL_built 330 = .ok (.iconst (-1), 1) := by decide +kernel
theorem dL_built_331 : decode cL_built 331 = .ok (.ireturn, 1) := by decide +kernel
theorem dL_built_332 : decode cL_built 332 = .ok (.aload_n 0, 1) := by decide +kernel
theorem dL_built_333 : decode cL_built 333 = .ok (.aload_n 1, 1) := by decide +kernel
theorem dL_built_334 : decode cL_built 334 = .ok (.aload_n 2, 1) := by decide +kernel
theorem dL_built_335 : decode cL_built 335 = .ok (.iconst 3, 1) := by decide +kernel
theorem dL_built_336 : decode cL_built 336 = .ok (.iload_n 3, 1) := by decide +kernel
theorem dL_built_337 : decode cL_built 337 = .ok (.imul, 1) := by decide +kernel
theorem dL_built_338 : decode cL_built 338 = .ok (.iconst 2, 1) := by decide +kernel
theorem dL_built_339 : decode cL_built 339 = .ok (.iadd, 1) := by decide +kernel
theorem dL_built_340 : decode cL_built 340 = .ok (.iload 4, 2) := by decide +kernel
theorem dL_built_342 : decode cL_built 342 = .ok (.iconst 1, 1) := by decide +kernel
theorem dL_built_343 : decode cL_built 343 = .ok (.isub, 1) := by decide +kernel
theorem dL_built_344 : decode cL_built 344 = .ok (.invokestatic 169, 3) := by decide +kernel
theorem dL_built_347 : decode cL_built 347 = .ok (.istore 8, 2) := by decide +kernel
theorem dL_built_349 : decode cL_built 349 = .ok (.iload 8, 2) := by decide +kernel
theorem dL_built_351 : decode cL_built 351 = .ok (.ifCond .ge 5, 3) := by decide +kernel
theorem dL_built_354 : decode cL_built 354 = .ok (.iconst (-1), 1) := by decide +kernel
theorem dL_built_355 : decode cL_built 355 = .ok (.ireturn, 1) := by decide +kernel
theorem dL_built_356 : decode cL_built 356 = .ok (.iload 7, 2) := by decide +kernel
theorem dL_built_358 : decode cL_built 358 = .ok (.aload_n 1, 1) := by decide +kernel
theorem dL_built_359 : decode cL_built 359 = .ok (.bipush 6, 2) := by decide +kernel
theorem dL_built_361 : decode cL_built 361 = .ok (.iload 8, 2) := by decide +kernel
theorem dL_built_363 : decode cL_built 363 = .ok (.imul, 1) := by decide +kernel
theorem dL_built_364 : decode cL_built 364 = .ok (.iconst 1, 1) := by decide +kernel
theorem dL_built_365 : decode cL_built 365 = .ok (.iadd, 1) := by decide +kernel
theorem dL_built_366 : decode cL_built 366 = .ok (.iaload, 1) := by decide +kernel
theorem dL_built_367 : decode cL_built 367 = .ok (.invokestatic 182, 3) := by decide +kernel
theorem dL_built_370 : decode cL_built 370 = .ok (.istore 9, 2) := by decide +kernel
theorem dL_built_372 : decode cL_built 372 = .ok (.iload 5, 2) := by decide +kernel
theorem dL_built_374 : decode cL_built 374 = .ok (.iconst 4, 1) := by decide +kernel
theorem dL_built_375 : decode cL_built 375 = .ok (.if_icmp .ne 71, 3) := by decide +kernel
theorem dL_built_378 : decode cL_built 378 = .ok (.aload_n 0, 1) := by decide +kernel
theorem dL_built_379 : decode cL_built 379 = .ok (.aload_n 1, 1) := by decide +kernel
theorem dL_built_380 : decode cL_built 380 = .ok (.aload_n 2, 1) := by decide +kernel
theorem dL_built_381 : decode cL_built 381 = .ok (.iconst 3, 1) := by decide +kernel
theorem dL_built_382 : decode cL_built 382 = .ok (.iload_n 3, 1) := by decide +kernel
theorem dL_built_383 : decode cL_built 383 = .ok (.imul, 1) := by decide +kernel
theorem dL_built_384 : decode cL_built 384 = .ok (.iconst 3, 1) := by decide +kernel
theorem dL_built_385 : decode cL_built 385 = .ok (.iadd, 1) := by decide +kernel
theorem dL_built_386 : decode cL_built 386 = .ok (.iconst 0, 1) := by decide +kernel
theorem dL_built_387 : decode cL_built 387 = .ok (.invokestatic 169, 3) := by decide +kernel
theorem dL_built_390 : decode cL_built 390 = .ok (.istore 10, 2) := by decide +kernel
theorem dL_built_392 : decode cL_built 392 = .ok (.iload 10, 2) := by decide +kernel
theorem dL_built_394 : decode cL_built 394 = .ok (.ifCond .ge 5, 3) := by decide +kernel
theorem dL_built_397 : decode cL_built 397 = .ok (.iconst (-1), 1) := by decide +kernel
theorem dL_built_398 : decode cL_built 398 = .ok (.ireturn, 1) := by decide +kernel
theorem dL_built_399 : decode cL_built 399 = .ok (.aload_n 0, 1) := by decide +kernel
theorem dL_built_400 : decode cL_built 400 = .ok (.iload 10, 2) := by decide +kernel
theorem dL_built_402 : decode cL_built 402 = .ok (.iload 6, 2) := by decide +kernel
theorem dL_built_404 : decode cL_built 404 = .ok (.iload 8, 2) := by decide +kernel
theorem dL_built_406 : decode cL_built 406 = .ok (.invokestatic 185, 3) := by decide +kernel
theorem dL_built_409 : decode cL_built 409 = .ok (.istore 11, 2) := by decide +kernel
theorem dL_built_411 : decode cL_built 411 = .ok (.aload_n 1, 1) := by decide +kernel
theorem dL_built_412 : decode cL_built 412 = .ok (.iload 11, 2) := by decide +kernel
theorem dL_built_414 : decode cL_built 414 = .ok (.bipush 63, 2) := by decide +kernel
theorem dL_built_416 : decode cL_built 416 = .ok (.iload 9, 2) := by decide +kernel
theorem dL_built_418 : decode cL_built 418 = .ok (.iload 10, 2) := by decide +kernel
theorem dL_built_420 : decode cL_built 420 = .ok (.iload 6, 2) := by decide +kernel
theorem dL_built_422 : decode cL_built 422 = .ok (.iload 8, 2) := by decide +kernel
theorem dL_built_424 : decode cL_built 424 = .ok (.iconst 0, 1) := by decide +kernel
theorem dL_built_425 : decode cL_built 425 = .ok (.invokestatic 163, 3) := by decide +kernel
theorem dL_built_428 : decode cL_built 428 = .ok (.aload_n 0, 1) := by decide +kernel
theorem dL_built_429 : decode cL_built 429 = .ok (.iload 11, 2) := by decide +kernel
theorem dL_built_431 : decode cL_built 431 = .ok (.invokestatic 167, 3) := by decide +kernel
theorem dL_built_434 : decode cL_built 434 = .ok (.iload 9, 2) := by decide +kernel
theorem dL_built_436 : decode cL_built 436 = .ok (.if_icmp .ne 8, 3) := by decide +kernel
theorem dL_built_439 : decode cL_built 439 = .ok (.iload 11, 2) := by decide +kernel
theorem dL_built_441 : decode cL_built 441 = .ok (.goto 4, 3) := by decide +kernel
theorem dL_built_444 : decode cL_built 444 = .ok (.iconst (-1), 1) := by decide +kernel
theorem dL_built_445 : decode cL_built 445 = .ok (.ireturn, 1) := by decide +kernel
theorem dL_built_446 : decode cL_built 446 = .ok (.ldc 188, 2) := by decide +kernel
theorem dL_built_448 : decode cL_built 448 = .ok (.aload_n 2, 1) := by decide +kernel
theorem dL_built_449 : decode cL_built 449 = .ok (.iload_n 3, 1) := by decide +kernel
theorem dL_built_450 : decode cL_built 450 = .ok (.iconst 1, 1) := by decide +kernel
theorem dL_built_451 : decode cL_built 451 = .ok (.iadd, 1) := by decide +kernel
theorem dL_built_452 : decode cL_built 452 = .ok (.bipush 15, 2) := by decide +kernel
theorem dL_built_454 : decode cL_built 454 = .ok (.invokestatic 149, 3) := by decide +kernel
theorem dL_built_457 : decode cL_built 457 = .ok (.invokevirtual 175, 3) := by decide +kernel
theorem dL_built_460 : decode cL_built 460 = .ok (.istore 10, 2) := by decide +kernel
theorem dL_built_462 : decode cL_built 462 = .ok (.aload_n 0, 1) := by decide +kernel
theorem dL_built_463 : decode cL_built 463 = .ok (.iload 10, 2) := by decide +kernel
theorem dL_built_465 : decode cL_built 465 = .ok (.i2c, 1) := by decide +kernel
theorem dL_built_466 : decode cL_built 466 = .ok (.iload 6, 2) := by decide +kernel
theorem dL_built_468 : decode cL_built 468 = .ok (.iload 8, 2) := by decide +kernel
theorem dL_built_470 : decode cL_built 470 = .ok (.invokestatic 190, 3) := by decide +kernel
theorem dL_built_473 : decode cL_built 473 = .ok (.istore 11, 2) := by decide +kernel
theorem dL_built_475 : decode cL_built 475 = .ok (.iload 10, 2) := by decide +kernel
theorem dL_built_477 : decode cL_built 477 = .ok (.bipush 60, 2) := by decide +kernel
theorem dL_built_479 : decode cL_built 479 = .ok (.if_icmp .eq 24, 3) := by decide +kernel
theorem dL_built_482 : decode cL_built 482 = .ok (.iload 10, 2) := by decide +kernel
theorem dL_built_484 : decode cL_built 484 = .ok (.bipush 61, 2) := by decide +kernel
theorem dL_built_486 : decode cL_built 486 = .ok (.if_icmp .eq 17, 3) := by decide +kernel
theorem dL_built_489 : decode cL_built 489 = .ok (.iload 10, 2) := by decide +kernel
theorem dL_built_491 : decode cL_built 491 = .ok (.bipush 97, 2) := by decide +kernel
theorem dL_built_493 : decode cL_built 493 = .ok (.if_icmp .eq 10, 3) := by decide +kernel
theorem dL_built_496 : decode cL_built 496 = .ok (.iload 10, 2) := by decide +kernel
theorem dL_built_498 : decode cL_built 498 = .ok (.bipush 111, 2) := by decide +kernel
theorem dL_built_500 : decode cL_built 500 = .ok (.if_icmp .ne 7, 3) := by decide +kernel
theorem dL_built_503 : decode cL_built 503 = .ok (.iconst 1, 1) := by decide +kernel
theorem dL_built_504 : decode cL_built 504 = .ok (.goto 4, 3) := by decide +kernel
theorem dL_built_507 : decode cL_built 507 = .ok (.iconst 0, 1) := by decide +kernel
theorem dL_built_508 : decode cL_built 508 = .ok (.istore 12, 2) := by decide +kernel
theorem dL_built_510 : decode cL_built 510 = .ok (.iload 12, 2) := by decide +kernel
theorem dL_built_512 : decode cL_built 512 = .ok (.ifCond .eq 7, 3) := by decide +kernel
theorem dL_built_515 : decode cL_built 515 = .ok (.iconst 2, 1) := by decide +kernel
theorem dL_built_516 : decode cL_built 516 = .ok (.goto 46, 3) := by decide +kernel
theorem dL_built_519 : decode cL_built 519 = .ok (.iload 10, 2) := by decide +kernel
theorem dL_built_521 : decode cL_built 521 = .ok (.bipush 44, 2) := by decide +kernel
theorem dL_built_523 : decode cL_built 523 = .ok (.if_icmp .ne 15, 3) := by decide +kernel
theorem dL_built_526 : decode cL_built 526 = .ok (.aload_n 1, 1) := by decide +kernel
theorem dL_built_527 : decode cL_built 527 = .ok (.bipush 6, 2) := by decide +kernel
theorem dL_built_529 : decode cL_built 529 = .ok (.iload 8, 2) := by decide +kernel
theorem dL_built_531 : decode cL_built 531 = .ok (.imul, 1) := by decide +kernel
theorem dL_built_532 : decode cL_built 532 = .ok (.iconst 1, 1) := by decide +kernel
theorem dL_built_533 : decode cL_built 533 = .ok (.iadd, 1) := by decide +kernel
theorem dL_built_534 : decode cL_built 534 = .ok (.iaload, 1) := by decide +kernel
theorem dL_built_535 : decode cL_built 535 = .ok (.goto 27, 3) := by decide +kernel
theorem dL_built_538 : decode cL_built 538 = .ok (.iload 10, 2) := by decide +kernel
theorem dL_built_540 : decode cL_built 540 = .ok (.bipush 108, 2) := by decide +kernel
theorem dL_built_542 : decode cL_built 542 = .ok (.if_icmp .eq 10, 3) := by decide +kernel
theorem dL_built_545 : decode cL_built 545 = .ok (.iload 10, 2) := by decide +kernel
theorem dL_built_547 : decode cL_built 547 = .ok (.bipush 114, 2) := by decide +kernel
theorem dL_built_549 : decode cL_built 549 = .ok (.if_icmp .ne 11, 3) := by decide +kernel
theorem dL_built_552 : decode cL_built 552 = .ok (.iload 7, 2) := by decide +kernel
theorem dL_built_554 : decode cL_built 554 = .ok (.invokestatic 113, 3) := by decide +kernel
theorem dL_built_557 : decode cL_built 557 = .ok (.goto 5, 3) := by decide +kernel
theorem dL_built_560 : decode cL_built 560 = .ok (.iload 9, 2) := by decide +kernel
theorem dL_built_562 : decode cL_built 562 = .ok (.istore 13, 2) := by decide +kernel
theorem dL_built_564 : decode cL_built 564 = .ok (.aload_n 1, 1) := by decide +kernel
theorem dL_built_565 : decode cL_built 565 = .ok (.iload 11, 2) := by decide +kernel
theorem dL_built_567 : decode cL_built 567 = .ok (.iload 10, 2) := by decide +kernel
theorem dL_built_569 : decode cL_built 569 = .ok (.iload 13, 2) := by decide +kernel
theorem dL_built_571 : decode cL_built 571 = .ok (.iload 6, 2) := by decide +kernel
theorem dL_built_573 : decode cL_built 573 = .ok (.iload 8, 2) := by decide +kernel
theorem dL_built_575 : decode cL_built 575 = .ok (.iconst 0, 1) := by decide +kernel
theorem dL_built_576 : decode cL_built 576 = .ok (.iconst 1, 1) := by decide +kernel
theorem dL_built_577 : decode cL_built 577 = .ok (.invokestatic 163, 3) := by decide +kernel
theorem dL_built_580 : decode cL_built 580 = .ok (.aload_n 0, 1) := by decide +kernel
theorem dL_built_581 : decode cL_built 581 = .ok (.iload 11, 2) := by decide +kernel
theorem dL_built_583 : decode cL_built 583 = .ok (.invokestatic 167, 3) := by decide +kernel
theorem dL_built_586 : decode cL_built 586 = .ok (.iload 13, 2) := by decide +kernel
theorem dL_built_588 : decode cL_built 588 = .ok (.if_icmp .ne 8, 3) := by decide +kernel
theorem dL_built_591 : decode cL_built 591 = .ok (.iload 11, 2) := by decide +kernel
theorem dL_built_593 : decode cL_built 593 = .ok (.goto 4, 3) := by decide +kernel
theorem dL_built_596 : decode cL_built 596 = .ok (.iconst (-1), 1) := by decide +kernel
theorem dL_built_597 : decode cL_built 597 = .ok (.ireturn, 1) := by decide +kernel
theorem dL_fitted_0 : decode cL_fitted 0 = .ok (.iload_n 0, 1) := by decide +kernel
theorem dL_fitted_1 : decode cL_fitted 1 = .ok (.invokestatic 102, 3) := by decide +kernel
theorem dL_fitted_4 : decode cL_fitted 4 = .ok (.ifCond .eq 32, 3) := by decide +kernel
theorem dL_fitted_7 : decode cL_fitted 7 = .ok (.lload_n 1, 1) := by decide +kernel
theorem dL_fitted_8 : decode cL_fitted 8 = .ok (.iload_n 0, 1) := by decide +kernel
theorem dL_fitted_9 : decode cL_fitted 9 = .ok (.invokestatic 153, 3) := by decide +kernel
theorem dL_fitted_12 : decode cL_fitted 12 = .ok (.lcmp, 1) := by decide +kernel
theorem dL_fitted_13 : decode cL_fitted 13 = .ok (.ifCond .lt 12, 3) := by decide +kernel
theorem dL_fitted_16 : decode cL_fitted 16 = .ok (.lload_n 1, 1) := by decide +kernel
theorem dL_fitted_17 : decode cL_fitted 17 = .ok (.iload_n 0, 1) := by decide +kernel
theorem dL_fitted_18 : decode cL_fitted 18 = .ok (.invokestatic 109, 3) := by decide +kernel
theorem dL_fitted_21 : decode cL_fitted 21 = .ok (.lcmp, 1) := by decide +kernel
theorem dL_fitted_22 : decode cL_fitted 22 = .ok (.ifCond .le 14, 3) := by decide +kernel
theorem dL_fitted_25 : decode cL_fitted 25 = .ok (.new 192, 3) := by decide +kernel
theorem dL_fitted_28 : decode cL_fitted 28 = .ok (.dup, 1) := by decide +kernel
theorem dL_fitted_29 : decode cL_fitted 29 = .ok (.iload_n 3, 1) := by decide +kernel
theorem dL_fitted_30 : decode cL_fitted 30 = .ok (.iload 4, 2) := by decide +kernel
theorem dL_fitted_32 : decode cL_fitted 32 = .ok (.invokespecial 194, 3) := by decide +kernel
theorem dL_fitted_35 : decode cL_fitted 35 = .ok (.athrow, 1) := by decide +kernel
theorem dL_fitted_36 : decode cL_fitted 36 = .ok (.iload_n 0, 1) := by decide +kernel
theorem dL_fitted_37 : decode cL_fitted 37 = .ok (.lload_n 1, 1) := by decide +kernel
theorem dL_fitted_38 : decode cL_fitted 38 = .ok (.invokestatic 197, 3) := by decide +kernel
theorem dL_fitted_41 : decode cL_fitted 41 = .ok (.lreturn, 1) := by decide +kernel
theorem dL_value_0 : decode cL_value 0 = .ok (.bipush 6, 2) := by decide +kernel
theorem dL_value_2 : decode cL_value 2 = .ok (.iload_n 1, 1) := by decide +kernel
theorem dL_value_3 : decode cL_value 3 = .ok (.imul, 1) := by decide +kernel
theorem dL_value_4 : decode cL_value 4 = .ok (.istore_n 3, 1) := by decide +kernel
theorem dL_value_5 : decode cL_value 5 = .ok (.aload_n 0, 1) := by decide +kernel
theorem dL_value_6 : decode cL_value 6 = .ok (.iload_n 3, 1) := by decide +kernel
theorem dL_value_7 : decode cL_value 7 = .ok (.iaload, 1) := by decide +kernel
theorem dL_value_8 : decode cL_value 8 = .ok (.istore 4, 2) := by decide +kernel
theorem dL_value_10 : decode cL_value 10 = .ok (.aload_n 0, 1) := by decide +kernel
theorem dL_value_11 : decode cL_value 11 = .ok (.iload_n 3, 1) := by decide +kernel
theorem dL_value_12 : decode cL_value 12 = .ok (.iconst 1, 1) := by decide +kernel
theorem dL_value_13 : decode cL_value 13 = .ok (.iadd, 1) := by decide +kernel
theorem dL_value_14 : decode cL_value 14 = .ok (.iaload, 1) := by decide +kernel
theorem dL_value_15 : decode cL_value 15 = .ok (.istore 5, 2) := by decide +kernel
theorem dL_value_17 : decode cL_value 17 = .ok (.iload 4, 2) := by decide +kernel
theorem dL_value_19 : decode cL_value 19 = .ok (.bipush 78, 2) := by decide +kernel
theorem dL_value_21 : decode cL_value 21 = .ok (.if_icmp .ne 10, 3) := by decide +kernel
theorem dL_value_24 : decode cL_value 24 = .ok (.aload_n 0, 1) := by decide +kernel
theorem dL_value_25 : decode cL_value 25 = .ok (.iload_n 3, 1) := by decide +kernel
theorem dL_value_26 : decode cL_value 26 = .ok (.iconst 5, 1) := by decide +kernel
theorem dL_value_27 : decode cL_value 27 = .ok (.iadd, 1) := by decide +kernel
theorem dL_value_28 : decode cL_value 28 = .ok (.iaload, 1) := by decide +kernel
theorem dL_value_29 : decode cL_value 29 = .ok (.i2l, 1) := by decide +kernel
theorem dL_value_30 : decode cL_value 30 = .ok (.lreturn, 1) := by decide +kernel
theorem dL_value_31 : decode cL_value 31 = .ok (.iload 4, 2) := by decide +kernel
theorem dL_value_33 : decode cL_value 33 = .ok (.bipush 86, 2) := by decide +kernel
theorem dL_value_35 : decode cL_value 35 = .ok (.if_icmp .ne 11, 3) := by decide +kernel
theorem dL_value_38 : decode cL_value 38 = .ok (.aload_n 2, 1) := by decide +kernel
theorem dL_value_39 : decode cL_value 39 = .ok (.aload_n 0, 1) := by decide +kernel
theorem dL_value_40 : decode cL_value 40 = .ok (.iload_n 3, 1) := by decide +kernel
theorem dL_value_41 : decode cL_value 41 = .ok (.iconst 5, 1) := by decide +kernel
theorem dL_value_42 : decode cL_value 42 = .ok (.iadd, 1) := by decide +kernel
theorem dL_value_43 : decode cL_value 43 = .ok (.iaload, 1) := by decide +kernel
theorem dL_value_44 : decode cL_value 44 = .ok (.laload, 1) := by decide +kernel
theorem dL_value_45 : decode cL_value 45 = .ok (.lreturn, 1) := by decide +kernel
theorem dL_value_46 : decode cL_value 46 = .ok (.aload_n 0, 1) := by decide +kernel
theorem dL_value_47 : decode cL_value 47 = .ok (.aload_n 0, 1) := by decide +kernel
theorem dL_value_48 : decode cL_value 48 = .ok (.iload_n 3, 1) := by decide +kernel
theorem dL_value_49 : decode cL_value 49 = .ok (.iconst 2, 1) := by decide +kernel
theorem dL_value_50 : decode cL_value 50 = .ok (.iadd, 1) := by decide +kernel
theorem dL_value_51 : decode cL_value 51 = .ok (.iaload, 1) := by decide +kernel
theorem dL_value_52 : decode cL_value 52 = .ok (.aload_n 2, 1) := by decide +kernel
theorem dL_value_53 : decode cL_value 53 = .ok (.invokestatic 201, 3) := by decide +kernel
theorem dL_value_56 : decode cL_value 56 = .ok (.lstore 6, 2) := by decide +kernel
theorem dL_value_58 : decode cL_value 58 = .ok (.iload 4, 2) := by decide +kernel
theorem dL_value_60 : decode cL_value 60 = .ok (.bipush 63, 2) := by decide +kernel
theorem dL_value_62 : decode cL_value 62 = .ok (.if_icmp .ne 32, 3) := by decide +kernel
theorem dL_value_65 : decode cL_value 65 = .ok (.iload 5, 2) := by decide +kernel
theorem dL_value_67 : decode cL_value 67 = .ok (.aload_n 0, 1) := by decide +kernel
theorem dL_value_68 : decode cL_value 68 = .ok (.aload_n 0, 1) := by decide +kernel
theorem dL_value_69 : decode cL_value 69 = .ok (.lload 6, 2) := by decide +kernel
theorem dL_value_71 : decode cL_value 71 = .ok (.lconst 0, 1) := by decide +kernel
theorem dL_value_72 : decode cL_value 72 = .ok (.lcmp, 1) := by decide +kernel
theorem dL_value_73 : decode cL_value 73 = .ok (.ifCond .eq 9, 3) := by decide +kernel
theorem dL_value_76 : decode cL_value 76 = .ok (.iload_n 3, 1) := by decide +kernel
theorem dL_value_77 : decode cL_value 77 = .ok (.iconst 3, 1) := by decide +kernel
theorem dL_value_78 : decode cL_value 78 = .ok (.iadd, 1) := by decide +kernel
theorem dL_value_79 : decode cL_value 79 = .ok (.goto 6, 3) := by decide +kernel
theorem dL_value_82 : decode cL_value 82 = .ok (.iload_n 3, 1) := by decide +kernel
theorem dL_value_83 : decode cL_value 83 = .ok (.iconst 4, 1) := by decide +kernel
theorem dL_value_84 : decode cL_value 84 = .ok (.iadd, 1) := by decide +kernel
theorem dL_value_85 : decode cL_value 85 = .ok (.iaload, 1) := by decide +kernel
theorem dL_value_86 : decode cL_value 86 = .ok (.aload_n 2, 1) := by decide +kernel
theorem dL_value_87 : decode cL_value 87 = .ok (.invokestatic 201, 3) := by decide +kernel
theorem dL_value_90 : decode cL_value 90 = .ok (.invokestatic 197, 3) := by decide +kernel
theorem dL_value_93 : decode cL_value 93 = .ok (.lreturn, 1) := by decide +kernel
theorem dL_value_94 : decode cL_value 94 = .ok (.iload 4, 2) := by decide +kernel
theorem dL_value_96 : decode cL_value 96 = .ok (.bipush 97, 2) := by decide +kernel
theorem dL_value_98 : decode cL_value 98 = .ok (.if_icmp .eq 10, 3) := by decide +kernel
theorem dL_value_101 : decode cL_value 101 = .ok (.iload 4, 2) := by decide +kernel
theorem dL_value_103 : decode cL_value 103 = .ok (.bipush 111, 2) := by decide +kernel
theorem dL_value_105 : decode cL_value 105 = .ok (.if_icmp .ne 78, 3) := by decide +kernel
theorem dL_value_108 : decode cL_value 108 = .ok (.lload 6, 2) := by decide +kernel
theorem dL_value_110 : decode cL_value 110 = .ok (.lconst 0, 1) := by decide +kernel
theorem dL_value_111 : decode cL_value 111 = .ok (.lcmp, 1) := by decide +kernel
theorem dL_value_112 : decode cL_value 112 = .ok (.ifCond .eq 7, 3) := by decide +kernel
theorem dL_value_115 : decode cL_value 115 = .ok (.iconst 1, 1) := by decide +kernel
theorem dL_value_116 : decode cL_value 116 = .ok (.goto 4, 3) := by decide +kernel
theorem dL_value_119 : decode cL_value 119 = .ok (.iconst 0, 1) := by decide +kernel
theorem dL_value_120 : decode cL_value 120 = .ok (.iload 4, 2) := by decide +kernel
theorem dL_value_122 : decode cL_value 122 = .ok (.bipush 111, 2) := by decide +kernel
theorem dL_value_124 : decode cL_value 124 = .ok (.if_icmp .ne 7, 3) := by decide +kernel
theorem dL_value_127 : decode cL_value 127 = .ok (.iconst 1, 1) := by decide +kernel
theorem dL_value_128 : decode cL_value 128 = .ok (.goto 4, 3) := by decide +kernel
theorem dL_value_131 : decode cL_value 131 = .ok (.iconst 0, 1) := by decide +kernel
theorem dL_value_132 : decode cL_value 132 = .ok (.if_icmp .ne 7, 3) := by decide +kernel
theorem dL_value_135 : decode cL_value 135 = .ok (.iconst 1, 1) := by decide +kernel
theorem dL_value_136 : decode cL_value 136 = .ok (.goto 4, 3) := by decide +kernel
theorem dL_value_139 : decode cL_value 139 = .ok (.iconst 0, 1) := by decide +kernel
theorem dL_value_140 : decode cL_value 140 = .ok (.istore 8, 2) := by decide +kernel
theorem dL_value_142 : decode cL_value 142 = .ok (.iload 8, 2) := by decide +kernel
theorem dL_value_144 : decode cL_value 144 = .ok (.ifCond .eq 18, 3) := by decide +kernel
theorem dL_value_147 : decode cL_value 147 = .ok (.iload 4, 2) := by decide +kernel
theorem dL_value_149 : decode cL_value 149 = .ok (.bipush 111, 2) := by decide +kernel
theorem dL_value_151 : decode cL_value 151 = .ok (.if_icmp .ne 7, 3) := by decide +kernel
theorem dL_value_154 : decode cL_value 154 = .ok (.lconst 1, 1) := by decide +kernel
theorem dL_value_155 : decode cL_value 155 = .ok (.goto 27, 3) := by decide +kernel
theorem dL_value_158 : decode cL_value 158 = .ok (.lconst 0, 1) := by decide +kernel
theorem dL_value_159 : decode cL_value 159 = .ok (.goto 23, 3) := by decide +kernel
theorem dL_value_162 : decode cL_value 162 = .ok (.aload_n 0, 1) := by decide +kernel
theorem dL_value_163 : decode cL_value 163 = .ok (.aload_n 0, 1) := by decide +kernel
theorem dL_value_164 : decode cL_value 164 = .ok (.iload_n 3, 1) := by decide +kernel
theorem dL_value_165 : decode cL_value 165 = .ok (.iconst 3, 1) := by decide +kernel
theorem dL_value_166 : decode cL_value 166 = .ok (.iadd, 1) := by decide +kernel
theorem dL_value_167 : decode cL_value 167 = .ok (.iaload, 1) := by decide +kernel
theorem dL_value_168 : decode cL_value 168 = .ok (.aload_n 2, 1) := by decide +kernel
theorem dL_value_169 : decode cL_value 169 = .ok (.invokestatic 201, 3) := by decide +kernel
theorem dL_value_172 : decode cL_value 172 = .ok (.lconst 0, 1) := by decide +kernel
theorem dL_value_173 : decode cL_value 173 = .ok (.lcmp, 1) := by decide +kernel
theorem dL_value_174 : decode cL_value 174 = .ok (.ifCond .eq 7, 3) := by decide +kernel
theorem dL_value_177 : decode cL_value 177 = .ok (.lconst 1, 1) := by decide +kernel
theorem dL_value_178 : decode cL_value 178 = .ok (.goto 4, 3) := by decide +kernel
theorem dL_value_181 : decode cL_value 181 = .ok (.lconst 0, 1) := by decide +kernel
theorem dL_value_182 : decode cL_value 182 = .ok (.lreturn, 1) := by decide +kernel
theorem dL_value_183 : decode cL_value 183 = .ok (.iload 4, 2) := by decide +kernel
theorem dL_value_185 : decode cL_value 185 = .ok (.bipush 33, 2) := by decide +kernel
theorem dL_value_187 : decode cL_value 187 = .ok (.if_icmp .ne 16, 3) := by decide +kernel
theorem dL_value_190 : decode cL_value 190 = .ok (.lload 6, 2) := by decide +kernel
theorem dL_value_192 : decode cL_value 192 = .ok (.lconst 0, 1) := by decide +kernel
theorem dL_value_193 : decode cL_value 193 = .ok (.lcmp, 1) := by decide +kernel
theorem dL_value_194 : decode cL_value 194 = .ok (.ifCond .ne 7, 3) := by decide +kernel
theorem dL_value_197 : decode cL_value 197 = .ok (.lconst 1, 1) := by decide +kernel
theorem dL_value_198 : decode cL_value 198 = .ok (.goto 4, 3) := by decide +kernel
theorem dL_value_201 : decode cL_value 201 = .ok (.lconst 0, 1) := by decide +kernel
theorem dL_value_202 : decode cL_value 202 = .ok (.lreturn, 1) := by decide +kernel
theorem dL_value_203 : decode cL_value 203 = .ok (.iload 4, 2) := by decide +kernel
theorem dL_value_205 : decode cL_value 205 = .ok (.bipush 67, 2) := by decide +kernel
theorem dL_value_207 : decode cL_value 207 = .ok (.if_icmp .ne 11, 3) := by decide +kernel
theorem dL_value_210 : decode cL_value 210 = .ok (.iload 5, 2) := by decide +kernel
theorem dL_value_212 : decode cL_value 212 = .ok (.lload 6, 2) := by decide +kernel
theorem dL_value_214 : decode cL_value 214 = .ok (.invokestatic 197, 3) := by decide +kernel
theorem dL_value_217 : decode cL_value 217 = .ok (.lreturn, 1) := by decide +kernel
theorem dL_value_218 : decode cL_value 218 = .ok (.iload 4, 2) := by decide +kernel
theorem dL_value_220 : decode cL_value 220 = .ok (.bipush 126, 2) := by decide +kernel
theorem dL_value_222 : decode cL_value 222 = .ok (.if_icmp .ne 15, 3) := by decide +kernel
theorem dL_value_225 : decode cL_value 225 = .ok (.iload 5, 2) := by decide +kernel
theorem dL_value_227 : decode cL_value 227 = .ok (.ldc2_w 205, 3) := by decide +kernel
theorem dL_value_230 : decode cL_value 230 = .ok (.lload 6, 2) := by decide +kernel
theorem dL_value_232 : decode cL_value 232 = .ok (.lsub, 1) := by decide +kernel
theorem dL_value_233 : decode cL_value 233 = .ok (.invokestatic 197, 3) := by decide +kernel
theorem dL_value_236 : decode cL_value 236 = .ok (.lreturn, 1) := by decide +kernel
theorem dL_value_237 : decode cL_value 237 = .ok (.iload 4, 2) := by decide +kernel
theorem dL_value_239 : decode cL_value 239 = .ok (.bipush 45, 2) := by decide +kernel
theorem dL_value_241 : decode cL_value 241 = .ok (.if_icmp .ne 23, 3) := by decide +kernel
theorem dL_value_244 : decode cL_value 244 = .ok (.aload_n 0, 1) := by decide +kernel
theorem dL_value_245 : decode cL_value 245 = .ok (.iload_n 3, 1) := by decide +kernel
theorem dL_value_246 : decode cL_value 246 = .ok (.iconst 5, 1) := by decide +kernel
theorem dL_value_247 : decode cL_value 247 = .ok (.iadd, 1) := by decide +kernel
theorem dL_value_248 : decode cL_value 248 = .ok (.iaload, 1) := by decide +kernel
theorem dL_value_249 : decode cL_value 249 = .ok (.ifCond .ne 15, 3) := by decide +kernel
theorem dL_value_252 : decode cL_value 252 = .ok (.iload 5, 2) := by decide +kernel
theorem dL_value_254 : decode cL_value 254 = .ok (.lload 6, 2) := by decide +kernel
theorem dL_value_256 : decode cL_value 256 = .ok (.lneg, 1) := by decide +kernel
theorem dL_value_257 : decode cL_value 257 = .ok (.bipush 111, 2) := by decide +kernel
theorem dL_value_259 : decode cL_value 259 = .ok (.iload_n 1, 1) := by decide +kernel
theorem dL_value_260 : decode cL_value 260 = .ok (.invokestatic 207, 3) := by decide +kernel
theorem dL_value_263 : decode cL_value 263 = .ok (.lreturn, 1) := by decide +kernel
theorem dL_value_264 : decode cL_value 264 = .ok (.aload_n 0, 1) := by decide +kernel
theorem dL_value_265 : decode cL_value 265 = .ok (.aload_n 0, 1) := by decide +kernel
theorem dL_value_266 : decode cL_value 266 = .ok (.iload_n 3, 1) := by decide +kernel
theorem dL_value_267 : decode cL_value 267 = .ok (.iconst 3, 1) := by decide +kernel
theorem dL_value_268 : decode cL_value 268 = .ok (.iadd, 1) := by decide +kernel
theorem dL_value_269 : decode cL_value 269 = .ok (.iaload, 1) := by decide +kernel
theorem dL_value_270 : decode cL_value 270 = .ok (.aload_n 2, 1) := by decide +kernel
theorem dL_value_271 : decode cL_value 271 = .ok (.invokestatic 201, 3) := by decide +kernel
theorem dL_value_274 : decode cL_value 274 = .ok (.lstore 8, 2) := by decide +kernel
theorem dL_value_276 : decode cL_value 276 = .ok (.iload 4, 2) := by decide +kernel
theorem dL_value_278 : decode cL_value 278 = .ok (.bipush 44, 2) := by decide +kernel
theorem dL_value_280 : decode cL_value 280 = .ok (.if_icmp .ne 6, 3) := by decide +kernel
theorem dL_value_283 : decode cL_value 283 = .ok (.lload 8, 2) := by decide +kernel
theorem dL_value_285 : decode cL_value 285 = .ok (.lreturn, 1) := by decide +kernel
theorem dL_value_286 : decode cL_value 286 = .ok (.iload 4, 2) := by decide +kernel
theorem dL_value_288 : decode cL_value 288 = .ok (.bipush 108, 2) := by decide +kernel
theorem dL_value_290 : decode cL_value 290 = .ok (.if_icmp .eq 10, 3) := by decide +kernel
theorem dL_value_293 : decode cL_value 293 = .ok (.iload 4, 2) := by decide +kernel
theorem dL_value_295 : decode cL_value 295 = .ok (.bipush 114, 2) := by decide +kernel
theorem dL_value_297 : decode cL_value 297 = .ok (.if_icmp .ne 97, 3) := by decide +kernel
theorem dL_value_300 : decode cL_value 300 = .ok (.lload 8, 2) := by decide +kernel
theorem dL_value_302 : decode cL_value 302 = .ok (.lconst 0, 1) := by decide +kernel
theorem dL_value_303 : decode cL_value 303 = .ok (.lcmp, 1) := by decide +kernel
theorem dL_value_304 : decode cL_value 304 = .ok (.ifCond .lt 29, 3) := by decide +kernel
theorem dL_value_307 : decode cL_value 307 = .ok (.lload 8, 2) := by decide +kernel
theorem dL_value_309 : decode cL_value 309 = .ok (.iload 5, 2) := by decide +kernel
theorem dL_value_311 : decode cL_value 311 = .ok (.invokestatic 106, 3) := by decide +kernel
theorem dL_value_314 : decode cL_value 314 = .ok (.i2l, 1) := by decide +kernel
theorem dL_value_315 : decode cL_value 315 = .ok (.lcmp, 1) := by decide +kernel
theorem dL_value_316 : decode cL_value 316 = .ok (.ifCond .ge 17, 3) := by decide +kernel
theorem dL_value_319 : decode cL_value 319 = .ok (.iload 4, 2) := by decide +kernel
theorem dL_value_321 : decode cL_value 321 = .ok (.bipush 108, 2) := by decide +kernel
theorem dL_value_323 : decode cL_value 323 = .ok (.if_icmp .ne 14, 3) := by decide +kernel
theorem dL_value_326 : decode cL_value 326 = .ok (.lload 6, 2) := by decide +kernel
theorem dL_value_328 : decode cL_value 328 = .ok (.lconst 0, 1) := by decide +kernel
theorem dL_value_329 : decode cL_value 329 = .ok (.lcmp, 1) := by decide +kernel
theorem dL_value_330 : decode cL_value 330 = .ok (.ifCond .ge 7, 3) := by decide +kernel
theorem dL_value_333 : decode cL_value 333 = .ok (.iconst 1, 1) := by decide +kernel
theorem dL_value_334 : decode cL_value 334 = .ok (.goto 4, 3) := by decide +kernel
theorem dL_value_337 : decode cL_value 337 = .ok (.iconst 0, 1) := by decide +kernel
theorem dL_value_338 : decode cL_value 338 = .ok (.istore 10, 2) := by decide +kernel
theorem dL_value_340 : decode cL_value 340 = .ok (.iload 10, 2) := by decide +kernel
theorem dL_value_342 : decode cL_value 342 = .ok (.ifCond .eq 14, 3) := by decide +kernel
theorem dL_value_345 : decode cL_value 345 = .ok (.new 192, 3) := by decide +kernel
theorem dL_value_348 : decode cL_value 348 = .ok (.dup, 1) := by decide +kernel
theorem dL_value_349 : decode cL_value 349 = .ok (.bipush 115, 2) := by decide +kernel
theorem dL_value_351 : decode cL_value 351 = .ok (.iload_n 1, 1) := by decide +kernel
theorem dL_value_352 : decode cL_value 352 = .ok (.invokespecial 194, 3) := by decide +kernel
theorem dL_value_355 : decode cL_value 355 = .ok (.athrow, 1) := by decide +kernel
theorem dL_value_356 : decode cL_value 356 = .ok (.lconst 1, 1) := by decide +kernel
theorem dL_value_357 : decode cL_value 357 = .ok (.lload 8, 2) := by decide +kernel
theorem dL_value_359 : decode cL_value 359 = .ok (.l2i, 1) := by decide +kernel
theorem dL_value_360 : decode cL_value 360 = .ok (.lshl, 1) := by decide +kernel
theorem dL_value_361 : decode cL_value 361 = .ok (.lstore 11, 2) := by decide +kernel
theorem dL_value_363 : decode cL_value 363 = .ok (.iload 4, 2) := by decide +kernel
theorem dL_value_365 : decode cL_value 365 = .ok (.bipush 108, 2) := by decide +kernel
theorem dL_value_367 : decode cL_value 367 = .ok (.if_icmp .ne 19, 3) := by decide +kernel
theorem dL_value_370 : decode cL_value 370 = .ok (.iload 5, 2) := by decide +kernel
theorem dL_value_372 : decode cL_value 372 = .ok (.lload 6, 2) := by decide +kernel
theorem dL_value_374 : decode cL_value 374 = .ok (.lload 11, 2) := by decide +kernel
theorem dL_value_376 : decode cL_value 376 = .ok (.lmul, 1) := by decide +kernel
theorem dL_value_377 : decode cL_value 377 = .ok (.bipush 115, 2) := by decide +kernel
theorem dL_value_379 : decode cL_value 379 = .ok (.iload_n 1, 1) := by decide +kernel
theorem dL_value_380 : decode cL_value 380 = .ok (.invokestatic 207, 3) := by decide +kernel
theorem dL_value_383 : decode cL_value 383 = .ok (.goto 10, 3) := by decide +kernel
theorem dL_value_386 : decode cL_value 386 = .ok (.lload 6, 2) := by decide +kernel
theorem dL_value_388 : decode cL_value 388 = .ok (.lload 11, 2) := by decide +kernel
theorem dL_value_390 : decode cL_value 390 = .ok (.invokestatic 211, 3) := by decide +kernel
theorem dL_value_393 : decode cL_value 393 = .ok (.lreturn, 1) := by decide +kernel
theorem dL_value_394 : decode cL_value 394 = .ok (.aload_n 0, 1) := by decide +kernel
theorem dL_value_395 : decode cL_value 395 = .ok (.bipush 6, 2) := by decide +kernel
theorem dL_value_397 : decode cL_value 397 = .ok (.aload_n 0, 1) := by decide +kernel
theorem dL_value_398 : decode cL_value 398 = .ok (.iload_n 3, 1) := by decide +kernel
theorem dL_value_399 : decode cL_value 399 = .ok (.iconst 2, 1) := by decide +kernel
theorem dL_value_400 : decode cL_value 400 = .ok (.iadd, 1) := by decide +kernel
theorem dL_value_401 : decode cL_value 401 = .ok (.iaload, 1) := by decide +kernel
theorem dL_value_402 : decode cL_value 402 = .ok (.imul, 1) := by decide +kernel
theorem dL_value_403 : decode cL_value 403 = .ok (.iconst 1, 1) := by decide +kernel
theorem dL_value_404 : decode cL_value 404 = .ok (.iadd, 1) := by decide +kernel
theorem dL_value_405 : decode cL_value 405 = .ok (.iaload, 1) := by decide +kernel
theorem dL_value_406 : decode cL_value 406 = .ok (.aload_n 0, 1) := by decide +kernel
theorem dL_value_407 : decode cL_value 407 = .ok (.bipush 6, 2) := by decide +kernel
theorem dL_value_409 : decode cL_value 409 = .ok (.aload_n 0, 1) := by decide +kernel
theorem dL_value_410 : decode cL_value 410 = .ok (.iload_n 3, 1) := by decide +kernel
theorem dL_value_411 : decode cL_value 411 = .ok (.iconst 3, 1) := by decide +kernel
theorem dL_value_412 : decode cL_value 412 = .ok (.iadd, 1) := by decide +kernel
theorem dL_value_413 : decode cL_value 413 = .ok (.iaload, 1) := by decide +kernel
theorem dL_value_414 : decode cL_value 414 = .ok (.imul, 1) := by decide +kernel
theorem dL_value_415 : decode cL_value 415 = .ok (.iconst 1, 1) := by decide +kernel
theorem dL_value_416 : decode cL_value 416 = .ok (.iadd, 1) := by decide +kernel
theorem dL_value_417 : decode cL_value 417 = .ok (.iaload, 1) := by decide +kernel
theorem dL_value_418 : decode cL_value 418 = .ok (.invokestatic 182, 3) := by decide +kernel
theorem dL_value_421 : decode cL_value 421 = .ok (.istore 10, 2) := by decide +kernel
theorem dL_value_423 : decode cL_value 423 = .ok (.iload 10, 2) := by decide +kernel
theorem dL_value_425 : decode cL_value 425 = .ok (.lload 6, 2) := by decide +kernel
theorem dL_value_427 : decode cL_value 427 = .ok (.invokestatic 197, 3) := by decide +kernel
theorem dL_value_430 : decode cL_value 430 = .ok (.lstore 11, 2) := by decide +kernel
theorem dL_value_432 : decode cL_value 432 = .ok (.iload 10, 2) := by decide +kernel
theorem dL_value_434 : decode cL_value 434 = .ok (.lload 8, 2) := by decide +kernel
theorem dL_value_436 : decode cL_value 436 = .ok (.invokestatic 197, 3) := by decide +kernel
theorem dL_value_439 : decode cL_value 439 = .ok (.lstore 13, 2) := by decide +kernel
theorem dL_value_441 : decode cL_value 441 = .ok (.iload 4, 2) := by decide +kernel
theorem dL_value_443 : decode cL_value 443 = .ok (.bipush 60, 2) := by decide +kernel
theorem dL_value_445 : decode cL_value 445 = .ok (.if_icmp .eq 10, 3) := by decide +kernel
theorem dL_value_448 : decode cL_value 448 = .ok (.iload 4, 2) := by decide +kernel
theorem dL_value_450 : decode cL_value 450 = .ok (.bipush 61, 2) := by decide +kernel
theorem dL_value_452 : decode cL_value 452 = .ok (.if_icmp .ne 35, 3) := by decide +kernel
theorem dL_value_455 : decode cL_value 455 = .ok (.iload 4, 2) := by decide +kernel
theorem dL_value_457 : decode cL_value 457 = .ok (.bipush 60, 2) := by decide +kernel
theorem dL_value_459 : decode cL_value 459 = .ok (.if_icmp .ne 14, 3) := by decide +kernel
theorem dL_value_462 : decode cL_value 462 = .ok (.lload 11, 2) := by decide +kernel
theorem dL_value_464 : decode cL_value 464 = .ok (.lload 13, 2) := by decide +kernel
theorem dL_value_466 : decode cL_value 466 = .ok (.lcmp, 1) := by decide +kernel
theorem dL_value_467 : decode cL_value 467 = .ok (.ifCond .ge 18, 3) := by decide +kernel
theorem dL_value_470 : decode cL_value 470 = .ok (.goto 11, 3) := by decide +kernel
theorem dL_value_473 : decode cL_value 473 = .ok (.lload 11, 2) := by decide +kernel
theorem dL_value_475 : decode cL_value 475 = .ok (.lload 13, 2) := by decide +kernel
theorem dL_value_477 : decode cL_value 477 = .ok (.lcmp, 1) := by decide +kernel
theorem dL_value_478 : decode cL_value 478 = .ok (.ifCond .ne 7, 3) := by decide +kernel
theorem dL_value_481 : decode cL_value 481 = .ok (.lconst 1, 1) := by decide +kernel
theorem dL_value_482 : decode cL_value 482 = .ok (.goto 4, 3) := by decide +kernel
theorem dL_value_485 : decode cL_value 485 = .ok (.lconst 0, 1) := by decide +kernel
theorem dL_value_486 : decode cL_value 486 = .ok (.lreturn, 1) := by decide +kernel
theorem dL_value_487 : decode cL_value 487 = .ok (.iload 4, 2) := by decide +kernel
theorem dL_value_489 : decode cL_value 489 = .ok (.bipush 47, 2) := by decide +kernel
theorem dL_value_491 : decode cL_value 491 = .ok (.if_icmp .eq 10, 3) := by decide +kernel
theorem dL_value_494 : decode cL_value 494 = .ok (.iload 4, 2) := by decide +kernel
theorem dL_value_496 : decode cL_value 496 = .ok (.bipush 37, 2) := by decide +kernel
theorem dL_value_498 : decode cL_value 498 = .ok (.if_icmp .ne 21, 3) := by decide +kernel
theorem dL_value_501 : decode cL_value 501 = .ok (.lload 13, 2) := by decide +kernel
theorem dL_value_503 : decode cL_value 503 = .ok (.lconst 0, 1) := by decide +kernel
theorem dL_value_504 : decode cL_value 504 = .ok (.lcmp, 1) := by decide +kernel
theorem dL_value_505 : decode cL_value 505 = .ok (.ifCond .ne 14, 3) := by decide +kernel
theorem dL_value_508 : decode cL_value 508 = .ok (.new 192, 3) := by decide +kernel
theorem dL_value_511 : decode cL_value 511 = .ok (.dup, 1) := by decide +kernel
theorem dL_value_512 : decode cL_value 512 = .ok (.bipush 122, 2) := by decide +kernel
theorem dL_value_514 : decode cL_value 514 = .ok (.iload_n 1, 1) := by decide +kernel
theorem dL_value_515 : decode cL_value 515 = .ok (.invokespecial 194, 3) := by decide +kernel
theorem dL_value_518 : decode cL_value 518 = .ok (.athrow, 1) := by decide +kernel
theorem dL_value_519 : decode cL_value 519 = .ok (.iload 4, 2) := by decide +kernel
theorem dL_value_521 : decode cL_value 521 = .ok (.bipush 43, 2) := by decide +kernel
theorem dL_value_523 : decode cL_value 523 = .ok (.if_icmp .ne 11, 3) := by decide +kernel
theorem dL_value_526 : decode cL_value 526 = .ok (.lload 11, 2) := by decide +kernel
theorem dL_value_528 : decode cL_value 528 = .ok (.lload 13, 2) := by decide +kernel
theorem dL_value_530 : decode cL_value 530 = .ok (.ladd, 1) := by decide +kernel
theorem dL_value_531 : decode cL_value 531 = .ok (.goto 104, 3) := by decide +kernel
theorem dL_value_534 : decode cL_value 534 = .ok (.iload 4, 2) := by decide +kernel
theorem dL_value_536 : decode cL_value 536 = .ok (.bipush 45, 2) := by decide +kernel
theorem dL_value_538 : decode cL_value 538 = .ok (.if_icmp .ne 11, 3) := by decide +kernel
theorem dL_value_541 : decode cL_value 541 = .ok (.lload 11, 2) := by decide +kernel
theorem dL_value_543 : decode cL_value 543 = .ok (.lload 13, 2) := by decide +kernel
theorem dL_value_545 : decode cL_value 545 = .ok (.lsub, 1) := by decide +kernel
theorem dL_value_546 : decode cL_value 546 = .ok (.goto 89, 3) := by decide +kernel
theorem dL_value_549 : decode cL_value 549 = .ok (.iload 4, 2) := by decide +kernel
theorem dL_value_551 : decode cL_value 551 = .ok (.bipush 42, 2) := by decide +kernel
theorem dL_value_553 : decode cL_value 553 = .ok (.if_icmp .ne 11, 3) := by decide +kernel
theorem dL_value_556 : decode cL_value 556 = .ok (.lload 11, 2) := by decide +kernel
theorem dL_value_558 : decode cL_value 558 = .ok (.lload 13, 2) := by decide +kernel
theorem dL_value_560 : decode cL_value 560 = .ok (.lmul, 1) := by decide +kernel
theorem dL_value_561 : decode cL_value 561 = .ok (.goto 74, 3) := by decide +kernel
theorem dL_value_564 : decode cL_value 564 = .ok (.iload 4, 2) := by decide +kernel
theorem dL_value_566 : decode cL_value 566 = .ok (.bipush 47, 2) := by decide +kernel
theorem dL_value_568 : decode cL_value 568 = .ok (.if_icmp .ne 11, 3) := by decide +kernel
theorem dL_value_571 : decode cL_value 571 = .ok (.lload 11, 2) := by decide +kernel
theorem dL_value_573 : decode cL_value 573 = .ok (.lload 13, 2) := by decide +kernel
theorem dL_value_575 : decode cL_value 575 = .ok (.ldiv, 1) := by decide +kernel
theorem dL_value_576 : decode cL_value 576 = .ok (.goto 59, 3) := by decide +kernel
theorem dL_value_579 : decode cL_value 579 = .ok (.iload 4, 2) := by decide +kernel
theorem dL_value_581 : decode cL_value 581 = .ok (.bipush 37, 2) := by decide +kernel
theorem dL_value_583 : decode cL_value 583 = .ok (.if_icmp .ne 17, 3) := by decide +kernel
theorem dL_value_586 : decode cL_value 586 = .ok (.lload 11, 2) := by decide +kernel
theorem dL_value_588 : decode cL_value 588 = .ok (.lload 11, 2) := by decide +kernel
theorem dL_value_590 : decode cL_value 590 = .ok (.lload 13, 2) := by decide +kernel
theorem dL_value_592 : decode cL_value 592 = .ok (.ldiv, 1) := by decide +kernel
theorem dL_value_593 : decode cL_value 593 = .ok (.lload 13, 2) := by decide +kernel
theorem dL_value_595 : decode cL_value 595 = .ok (.lmul, 1) := by decide +kernel
theorem dL_value_596 : decode cL_value 596 = .ok (.lsub, 1) := by decide +kernel
theorem dL_value_597 : decode cL_value 597 = .ok (.goto 38, 3) := by decide +kernel
theorem dL_value_600 : decode cL_value 600 = .ok (.iload 4, 2) := by decide +kernel
theorem dL_value_602 : decode cL_value 602 = .ok (.bipush 38, 2) := by decide +kernel
theorem dL_value_604 : decode cL_value 604 = .ok (.if_icmp .ne 11, 3) := by decide +kernel
theorem dL_value_607 : decode cL_value 607 = .ok (.lload 11, 2) := by decide +kernel
theorem dL_value_609 : decode cL_value 609 = .ok (.lload 13, 2) := by decide +kernel
theorem dL_value_611 : decode cL_value 611 = .ok (.land, 1) := by decide +kernel
theorem dL_value_612 : decode cL_value 612 = .ok (.goto 23, 3) := by decide +kernel
theorem dL_value_615 : decode cL_value 615 = .ok (.iload 4, 2) := by decide +kernel
theorem dL_value_617 : decode cL_value 617 = .ok (.bipush 124, 2) := by decide +kernel
theorem dL_value_619 : decode cL_value 619 = .ok (.if_icmp .ne 11, 3) := by decide +kernel
theorem dL_value_622 : decode cL_value 622 = .ok (.lload 11, 2) := by decide +kernel
theorem dL_value_624 : decode cL_value 624 = .ok (.lload 13, 2) := by decide +kernel
theorem dL_value_626 : decode cL_value 626 = .ok (.lor, 1) := by decide +kernel
theorem dL_value_627 : decode cL_value 627 = .ok (.goto 8, 3) := by decide +kernel
theorem dL_value_630 : decode cL_value 630 = .ok (.lload 11, 2) := by decide +kernel
theorem dL_value_632 : decode cL_value 632 = .ok (.lload 13, 2) := by decide +kernel
theorem dL_value_634 : decode cL_value 634 = .ok (.lxor, 1) := by decide +kernel
theorem dL_value_635 : decode cL_value 635 = .ok (.lstore 15, 2) := by decide +kernel
theorem dL_value_637 : decode cL_value 637 = .ok (.iload 5, 2) := by decide +kernel
theorem dL_value_639 : decode cL_value 639 = .ok (.lload 15, 2) := by decide +kernel
theorem dL_value_641 : decode cL_value 641 = .ok (.bipush 111, 2) := by decide +kernel
theorem dL_value_643 : decode cL_value 643 = .ok (.iload_n 1, 1) := by decide +kernel
theorem dL_value_644 : decode cL_value 644 = .ok (.invokestatic 207, 3) := by decide +kernel
theorem dL_value_647 : decode cL_value 647 = .ok (.lreturn, 1) := by decide +kernel
theorem dL_law_0 : decode cL_law 0 = .ok (.new 10, 3) := by decide +kernel
theorem dL_law_3 : decode cL_law 3 = .ok (.dup, 1) := by decide +kernel
theorem dL_law_4 : decode cL_law 4 = .ok (.invokespecial 217, 3) := by decide +kernel
theorem dL_law_7 : decode cL_law 7 = .ok (.astore_n 1, 1) := by decide +kernel
theorem dL_law_8 : decode cL_law 8 = .ok (.aload_n 1, 1) := by decide +kernel
theorem dL_law_9 : decode cL_law 9 = .ok (.iconst 0, 1) := by decide +kernel
theorem dL_law_10 : decode cL_law 10 = .ok (.invokestatic 218, 3) := by decide +kernel
theorem dL_law_13 : decode cL_law 13 = .ok (.ldc 17, 2) := by decide +kernel
theorem dL_law_15 : decode cL_law 15 = .ok (.if_icmp .ne 36, 3) := by decide +kernel
theorem dL_law_18 : decode cL_law 18 = .ok (.aload_n 1, 1) := by decide +kernel
theorem dL_law_19 : decode cL_law 19 = .ok (.iconst 0, 1) := by decide +kernel
theorem dL_law_20 : decode cL_law 20 = .ok (.invokestatic 167, 3) := by decide +kernel
theorem dL_law_23 : decode cL_law 23 = .ok (.ldc 17, 2) := by decide +kernel
theorem dL_law_25 : decode cL_law 25 = .ok (.if_icmp .ne 26, 3) := by decide +kernel
theorem dL_law_28 : decode cL_law 28 = .ok (.aload_n 1, 1) := by decide +kernel
theorem dL_law_29 : decode cL_law 29 = .ok (.iconst 0, 1) := by decide +kernel
theorem dL_law_30 : decode cL_law 30 = .ok (.invokestatic 129, 3) := by decide +kernel
theorem dL_law_33 : decode cL_law 33 = .ok (.ldc 17, 2) := by decide +kernel
theorem dL_law_35 : decode cL_law 35 = .ok (.if_icmp .ne 16, 3) := by decide +kernel
theorem dL_law_38 : decode cL_law 38 = .ok (.aload_n 1, 1) := by decide +kernel
theorem dL_law_39 : decode cL_law 39 = .ok (.invokestatic 220, 3) := by decide +kernel
theorem dL_law_42 : decode cL_law 42 = .ok (.ldc 17, 2) := by decide +kernel
theorem dL_law_44 : decode cL_law 44 = .ok (.if_icmp .ne 7, 3) := by decide +kernel
theorem dL_law_47 : decode cL_law 47 = .ok (.iconst 1, 1) := by decide +kernel
theorem dL_law_48 : decode cL_law 48 = .ok (.goto 4, 3) := by decide +kernel
theorem dL_law_51 : decode cL_law 51 = .ok (.iconst 0, 1) := by decide +kernel
theorem dL_law_52 : decode cL_law 52 = .ok (.istore_n 2, 1) := by decide +kernel
theorem dL_law_53 : decode cL_law 53 = .ok (.iconst 0, 1) := by decide +kernel
theorem dL_law_54 : decode cL_law 54 = .ok (.istore_n 3, 1) := by decide +kernel
theorem dL_law_55 : decode cL_law 55 = .ok (.iload_n 3, 1) := by decide +kernel
theorem dL_law_56 : decode cL_law 56 = .ok (.bipush 6, 2) := by decide +kernel
theorem dL_law_58 : decode cL_law 58 = .ok (.if_icmp .ge 28, 3) := by decide +kernel
theorem dL_law_61 : decode cL_law 61 = .ok (.iload_n 2, 1) := by decide +kernel
theorem dL_law_62 : decode cL_law 62 = .ok (.aload_n 1, 1) := by decide +kernel
theorem dL_law_63 : decode cL_law 63 = .ok (.iload_n 3, 1) := by decide +kernel
theorem dL_law_64 : decode cL_law 64 = .ok (.iconst 0, 1) := by decide +kernel
theorem dL_law_65 : decode cL_law 65 = .ok (.iconst 1, 1) := by decide +kernel
theorem dL_law_66 : decode cL_law 66 = .ok (.invokestatic 223, 3) := by decide +kernel
theorem dL_law_69 : decode cL_law 69 = .ok (.iload_n 3, 1) := by decide +kernel
theorem dL_law_70 : decode cL_law 70 = .ok (.if_icmp .ne 7, 3) := by decide +kernel
theorem dL_law_73 : decode cL_law 73 = .ok (.iconst 1, 1) := by decide +kernel
theorem dL_law_74 : decode cL_law 74 = .ok (.goto 4, 3) := by decide +kernel
theorem dL_law_77 : decode cL_law 77 = .ok (.iconst 0, 1) := by decide +kernel
theorem dL_law_78 : decode cL_law 78 = .ok (.iand, 1) := by decide +kernel
theorem dL_law_79 : decode cL_law 79 = .ok (.istore_n 2, 1) := by decide +kernel
theorem dL_law_80 : decode cL_law 80 = .ok (.iinc 3 1, 3) := by decide +kernel
theorem dL_law_83 : decode cL_law 83 = .ok (.goto (-28), 3) := by decide +kernel
theorem dL_law_86 : decode cL_law 86 = .ok (.iload_n 2, 1) := by decide +kernel
theorem dL_law_87 : decode cL_law 87 = .ok (.aload_n 1, 1) := by decide +kernel
theorem dL_law_88 : decode cL_law 88 = .ok (.iconst 4, 1) := by decide +kernel
theorem dL_law_89 : decode cL_law 89 = .ok (.iconst (-1), 1) := by decide +kernel
theorem dL_law_90 : decode cL_law 90 = .ok (.iconst (-1), 1) := by decide +kernel
theorem dL_law_91 : decode cL_law 91 = .ok (.invokestatic 226, 3) := by decide +kernel
theorem dL_law_94 : decode cL_law 94 = .ok (.ifCond .ne 81, 3) := by decide +kernel
theorem dL_law_97 : decode cL_law 97 = .ok (.aload_n 1, 1) := by decide +kernel
theorem dL_law_98 : decode cL_law 98 = .ok (.bipush 6, 2) := by decide +kernel
theorem dL_law_100 : decode cL_law 100 = .ok (.iconst 0, 1) := by decide +kernel
theorem dL_law_101 : decode cL_law 101 = .ok (.iconst 1, 1) := by decide +kernel
theorem dL_law_102 : decode cL_law 102 = .ok (.invokestatic 223, 3) := by decide +kernel
theorem dL_law_105 : decode cL_law 105 = .ok (.ldc 17, 2) := by decide +kernel
theorem dL_law_107 : decode cL_law 107 = .ok (.if_icmp .ne 68, 3) := by decide +kernel
theorem dL_law_110 : decode cL_law 110 = .ok (.aload_n 1, 1) := by decide +kernel
theorem dL_law_111 : decode cL_law 111 = .ok (.iconst 0, 1) := by decide +kernel
theorem dL_law_112 : decode cL_law 112 = .ok (.bipush 9, 2) := by decide +kernel
theorem dL_law_114 : decode cL_law 114 = .ok (.iconst 1, 1) := by decide +kernel
theorem dL_law_115 : decode cL_law 115 = .ok (.invokestatic 223, 3) := by decide +kernel
theorem dL_law_118 : decode cL_law 118 = .ok (.ldc 17, 2) := by decide +kernel
theorem dL_law_120 : decode cL_law 120 = .ok (.if_icmp .ne 55, 3) := by decide +kernel
theorem dL_law_123 : decode cL_law 123 = .ok (.aload_n 1, 1) := by decide +kernel
theorem dL_law_124 : decode cL_law 124 = .ok (.bipush 10, 2) := by decide +kernel
theorem dL_law_126 : decode cL_law 126 = .ok (.iconst 1, 1) := by decide +kernel
theorem dL_law_127 : decode cL_law 127 = .ok (.iconst 1, 1) := by decide +kernel
theorem dL_law_128 : decode cL_law 128 = .ok (.invokestatic 223, 3) := by decide +kernel
theorem dL_law_131 : decode cL_law 131 = .ok (.ldc 17, 2) := by decide +kernel
theorem dL_law_133 : decode cL_law 133 = .ok (.if_icmp .ne 42, 3) := by decide +kernel
theorem dL_law_136 : decode cL_law 136 = .ok (.aload_n 1, 1) := by decide +kernel
theorem dL_law_137 : decode cL_law 137 = .ok (.sipush 128, 3) := by decide +kernel
theorem dL_law_140 : decode cL_law 140 = .ok (.iconst 0, 1) := by decide +kernel
theorem dL_law_141 : decode cL_law 141 = .ok (.invokestatic 143, 3) := by decide +kernel
theorem dL_law_144 : decode cL_law 144 = .ok (.ldc 17, 2) := by decide +kernel
theorem dL_law_146 : decode cL_law 146 = .ok (.if_icmp .ne 29, 3) := by decide +kernel
theorem dL_law_149 : decode cL_law 149 = .ok (.aload_n 1, 1) := by decide +kernel
theorem dL_law_150 : decode cL_law 150 = .ok (.iconst (-1), 1) := by decide +kernel
theorem dL_law_151 : decode cL_law 151 = .ok (.iconst 5, 1) := by decide +kernel
theorem dL_law_152 : decode cL_law 152 = .ok (.invokestatic 143, 3) := by decide +kernel
theorem dL_law_155 : decode cL_law 155 = .ok (.ldc 17, 2) := by decide +kernel
theorem dL_law_157 : decode cL_law 157 = .ok (.if_icmp .ne 18, 3) := by decide +kernel
theorem dL_law_160 : decode cL_law 160 = .ok (.aload_n 1, 1) := by decide +kernel
theorem dL_law_161 : decode cL_law 161 = .ok (.bipush 6, 2) := by decide +kernel
theorem dL_law_163 : decode cL_law 163 = .ok (.invokestatic 141, 3) := by decide +kernel
theorem dL_law_166 : decode cL_law 166 = .ok (.ldc 17, 2) := by decide +kernel
theorem dL_law_168 : decode cL_law 168 = .ok (.if_icmp .ne 7, 3) := by decide +kernel
theorem dL_law_171 : decode cL_law 171 = .ok (.iconst 1, 1) := by decide +kernel
theorem dL_law_172 : decode cL_law 172 = .ok (.goto 4, 3) := by decide +kernel
theorem dL_law_175 : decode cL_law 175 = .ok (.iconst 0, 1) := by decide +kernel
theorem dL_law_176 : decode cL_law 176 = .ok (.iand, 1) := by decide +kernel
theorem dL_law_177 : decode cL_law 177 = .ok (.istore_n 2, 1) := by decide +kernel
theorem dL_law_178 : decode cL_law 178 = .ok (.iload_n 2, 1) := by decide +kernel
theorem dL_law_179 : decode cL_law 179 = .ok (.ifCond .ne 5, 3) := by decide +kernel
theorem dL_law_182 : decode cL_law 182 = .ok (.iconst 0, 1) := by decide +kernel
theorem dL_law_183 : decode cL_law 183 = .ok (.ireturn, 1) := by decide +kernel
theorem dL_law_184 : decode cL_law 184 = .ok (.sipush 700, 3) := by decide +kernel
theorem dL_law_187 : decode cL_law 187 = .ok (.newarray .int, 2) := by decide +kernel
theorem dL_law_189 : decode cL_law 189 = .ok (.astore_n 3, 1) := by decide +kernel
theorem dL_law_190 : decode cL_law 190 = .ok (.bipush 6, 2) := by decide +kernel
theorem dL_law_192 : decode cL_law 192 = .ok (.newarray .long, 2) := by decide +kernel
theorem dL_law_194 : decode cL_law 194 = .ok (.astore 4, 2) := by decide +kernel
theorem dL_law_196 : decode cL_law 196 = .ok (.iconst (-1), 1) := by decide +kernel
theorem dL_law_197 : decode cL_law 197 = .ok (.istore 5, 2) := by decide +kernel
theorem dL_law_199 : decode cL_law 199 = .ok (.iconst 0, 1) := by decide +kernel
theorem dL_law_200 : decode cL_law 200 = .ok (.istore 6, 2) := by decide +kernel
theorem dL_law_202 : decode cL_law 202 = .ok (.iload 6, 2) := by decide +kernel
theorem dL_law_204 : decode cL_law 204 = .ok (.bipush 6, 2) := by decide +kernel
theorem dL_law_206 : decode cL_law 206 = .ok (.if_icmp .ge 61, 3) := by decide +kernel
theorem dL_law_209 : decode cL_law 209 = .ok (.aload 4, 2) := by decide +kernel
theorem dL_law_211 : decode cL_law 211 = .ok (.iload 6, 2) := by decide +kernel
theorem dL_law_213 : decode cL_law 213 = .ok (.aload_n 0, 1) := by decide +kernel
theorem dL_law_214 : decode cL_law 214 = .ok (.iconst 2, 1) := by decide +kernel
theorem dL_law_215 : decode cL_law 215 = .ok (.iload 6, 2) := by decide +kernel
theorem dL_law_217 : decode cL_law 217 = .ok (.imul, 1) := by decide +kernel
theorem dL_law_218 : decode cL_law 218 = .ok (.iload 6, 2) := by decide +kernel
theorem dL_law_220 : decode cL_law 220 = .ok (.invokestatic 160, 3) := by decide +kernel
theorem dL_law_223 : decode cL_law 223 = .ok (.i2l, 1) := by decide +kernel
theorem dL_law_224 : decode cL_law 224 = .ok (.lastore, 1) := by decide +kernel
theorem dL_law_225 : decode cL_law 225 = .ok (.aload_n 1, 1) := by decide +kernel
theorem dL_law_226 : decode cL_law 226 = .ok (.iload 6, 2) := by decide +kernel
theorem dL_law_228 : decode cL_law 228 = .ok (.aload 4, 2) := by decide +kernel
theorem dL_law_230 : decode cL_law 230 = .ok (.iload 6, 2) := by decide +kernel
theorem dL_law_232 : decode cL_law 232 = .ok (.laload, 1) := by decide +kernel
theorem dL_law_233 : decode cL_law 233 = .ok (.l2i, 1) := by decide +kernel
theorem dL_law_234 : decode cL_law 234 = .ok (.iload 6, 2) := by decide +kernel
theorem dL_law_236 : decode cL_law 236 = .ok (.invokestatic 228, 3) := by decide +kernel
theorem dL_law_239 : decode cL_law 239 = .ok (.istore 7, 2) := by decide +kernel
theorem dL_law_241 : decode cL_law 241 = .ok (.iload 5, 2) := by decide +kernel
theorem dL_law_243 : decode cL_law 243 = .ok (.ifCond .ge 8, 3) := by decide +kernel
theorem dL_law_246 : decode cL_law 246 = .ok (.iload 7, 2) := by decide +kernel
theorem dL_law_248 : decode cL_law 248 = .ok (.goto 11, 3) := by decide +kernel
theorem dL_law_251 : decode cL_law 251 = .ok (.aload_n 1, 1) := by decide +kernel
theorem dL_law_252 : decode cL_law 252 = .ok (.iload 5, 2) := by decide +kernel
theorem dL_law_254 : decode cL_law 254 = .ok (.iload 7, 2) := by decide +kernel
theorem dL_law_256 : decode cL_law 256 = .ok (.invokestatic 231, 3) := by decide +kernel
theorem dL_law_259 : decode cL_law 259 = .ok (.istore 5, 2) := by decide +kernel
theorem dL_law_261 : decode cL_law 261 = .ok (.iinc 6 1, 3) := by decide +kernel
theorem dL_law_264 : decode cL_law 264 = .ok (.goto (-62), 3) := by decide +kernel
theorem dL_law_267 : decode cL_law 267 = .ok (.iconst 3, 1) := by decide +kernel
theorem dL_law_268 : decode cL_law 268 = .ok (.newarray .int, 2) := by decide +kernel
theorem dL_law_270 : decode cL_law 270 = .ok (.astore 6, 2) := by decide +kernel
theorem dL_law_272 : decode cL_law 272 = .ok (.iconst 0, 1) := by decide +kernel
theorem dL_law_273 : decode cL_law 273 = .ok (.istore 7, 2) := by decide +kernel
theorem dL_law_275 : decode cL_law 275 = .ok (.iload 7, 2) := by decide +kernel
theorem dL_law_277 : decode cL_law 277 = .ok (.iconst 3, 1) := by decide +kernel
theorem dL_law_278 : decode cL_law 278 = .ok (.if_icmp .ge 55, 3) := by decide +kernel
theorem dL_law_281 : decode cL_law 281 = .ok (.aload 6, 2) := by decide +kernel
theorem dL_law_283 : decode cL_law 283 = .ok (.iload 7, 2) := by decide +kernel
theorem dL_law_285 : decode cL_law 285 = .ok (.aload_n 1, 1) := by decide +kernel
theorem dL_law_286 : decode cL_law 286 = .ok (.aload_n 3, 1) := by decide +kernel
theorem dL_law_287 : decode cL_law 287 = .ok (.aload_n 0, 1) := by decide +kernel
theorem dL_law_288 : decode cL_law 288 = .ok (.bipush 20, 2) := by decide +kernel
theorem dL_law_290 : decode cL_law 290 = .ok (.iconst 5, 1) := by decide +kernel
theorem dL_law_291 : decode cL_law 291 = .ok (.iload 7, 2) := by decide +kernel
theorem dL_law_293 : decode cL_law 293 = .ok (.imul, 1) := by decide +kernel
theorem dL_law_294 : decode cL_law 294 = .ok (.iadd, 1) := by decide +kernel
theorem dL_law_295 : decode cL_law 295 = .ok (.iconst 2, 1) := by decide +kernel
theorem dL_law_296 : decode cL_law 296 = .ok (.invokestatic 169, 3) := by decide +kernel
theorem dL_law_299 : decode cL_law 299 = .ok (.iastore, 1) := by decide +kernel
theorem dL_law_300 : decode cL_law 300 = .ok (.aload 6, 2) := by decide +kernel
theorem dL_law_302 : decode cL_law 302 = .ok (.iload 7, 2) := by decide +kernel
theorem dL_law_304 : decode cL_law 304 = .ok (.iaload, 1) := by decide +kernel
theorem dL_law_305 : decode cL_law 305 = .ok (.ifCond .ge 5, 3) := by decide +kernel
theorem dL_law_308 : decode cL_law 308 = .ok (.iconst 0, 1) := by decide +kernel
theorem dL_law_309 : decode cL_law 309 = .ok (.ireturn, 1) := by decide +kernel
theorem dL_law_310 : decode cL_law 310 = .ok (.aload_n 1, 1) := by decide +kernel
theorem dL_law_311 : decode cL_law 311 = .ok (.iload 5, 2) := by decide +kernel
theorem dL_law_313 : decode cL_law 313 = .ok (.aload_n 1, 1) := by decide +kernel
theorem dL_law_314 : decode cL_law 314 = .ok (.aload 6, 2) := by decide +kernel
theorem dL_law_316 : decode cL_law 316 = .ok (.iload 7, 2) := by decide +kernel
theorem dL_law_318 : decode cL_law 318 = .ok (.iaload, 1) := by decide +kernel
theorem dL_law_319 : decode cL_law 319 = .ok (.invokestatic 233, 3) := by decide +kernel
theorem dL_law_322 : decode cL_law 322 = .ok (.invokestatic 231, 3) := by decide +kernel
theorem dL_law_325 : decode cL_law 325 = .ok (.istore 5, 2) := by decide +kernel
theorem dL_law_327 : decode cL_law 327 = .ok (.iinc 7 1, 3) := by decide +kernel
theorem dL_law_330 : decode cL_law 330 = .ok (.goto (-55), 3) := by decide +kernel
theorem dL_law_333 : decode cL_law 333 = .ok (.aload_n 1, 1) := by decide +kernel
theorem dL_law_334 : decode cL_law 334 = .ok (.iconst 0, 1) := by decide +kernel
theorem dL_law_335 : decode cL_law 335 = .ok (.iload 5, 2) := by decide +kernel
theorem dL_law_337 : decode cL_law 337 = .ok (.invokestatic 236, 3) := by decide +kernel
theorem dL_law_340 : decode cL_law 340 = .ok (.iconst 1, 1) := by decide +kernel
theorem dL_law_341 : decode cL_law 341 = .ok (.if_icmp .eq 5, 3) := by decide +kernel
theorem dL_law_344 : decode cL_law 344 = .ok (.iconst 0, 1) := by decide +kernel
theorem dL_law_345 : decode cL_law 345 = .ok (.ireturn, 1) := by decide +kernel
theorem dL_law_346 : decode cL_law 346 = .ok (.iconst 3, 1) := by decide +kernel
theorem dL_law_347 : decode cL_law 347 = .ok (.newarray .long, 2) := by decide +kernel
theorem dL_law_349 : decode cL_law 349 = .ok (.astore 7, 2) := by decide +kernel
theorem dL_law_351 : decode cL_law 351 = .ok (.iconst 0, 1) := by decide +kernel
theorem dL_law_352 : decode cL_law 352 = .ok (.istore 8, 2) := by decide +kernel
theorem dL_law_354 : decode cL_law 354 = .ok (.aconst_null, 1) := by decide +kernel
theorem dL_law_355 : decode cL_law 355 = .ok (.astore 9, 2) := by decide +kernel
theorem dL_law_357 : decode cL_law 357 = .ok (.iconst 0, 1) := by decide +kernel
theorem dL_law_358 : decode cL_law 358 = .ok (.istore 10, 2) := by decide +kernel
theorem dL_law_360 : decode cL_law 360 = .ok (.iload 10, 2) := by decide +kernel
theorem dL_law_362 : decode cL_law 362 = .ok (.iconst 3, 1) := by decide +kernel
theorem dL_law_363 : decode cL_law 363 = .ok (.if_icmp .ge 42, 3) := by decide +kernel
theorem dL_law_366 : decode cL_law 366 = .ok (.aload 9, 2) := by decide +kernel
theorem dL_law_368 : decode cL_law 368 = .ok (.ifnonnull 37, 3) := by decide +kernel
theorem dL_law_371 : decode cL_law 371 = .ok (.aload 7, 2) := by decide +kernel
theorem dL_law_373 : decode cL_law 373 = .ok (.iload 10, 2) := by decide +kernel
theorem dL_law_375 : decode cL_law 375 = .ok (.aload_n 3, 1) := by decide +kernel
theorem dL_law_376 : decode cL_law 376 = .ok (.aload 6, 2) := by decide +kernel
theorem dL_law_378 : decode cL_law 378 = .ok (.iload 10, 2) := by decide +kernel
theorem dL_law_380 : decode cL_law 380 = .ok (.iaload, 1) := by decide +kernel
theorem dL_law_381 : decode cL_law 381 = .ok (.aload 4, 2) := by decide +kernel
theorem dL_law_383 : decode cL_law 383 = .ok (.invokestatic 201, 3) := by decide +kernel
theorem dL_law_386 : decode cL_law 386 = .ok (.lastore, 1) := by decide +kernel
theorem dL_law_387 : decode cL_law 387 = .ok (.iinc 8 1, 3) := by decide +kernel
theorem dL_law_390 : decode cL_law 390 = .ok (.goto 9, 3) := by decide +kernel
theorem dL_law_393 : decode cL_law 393 = .ok (.astore 11, 2) := by decide +kernel
theorem dL_law_395 : decode cL_law 395 = .ok (.aload 11, 2) := by decide +kernel
theorem dL_law_397 : decode cL_law 397 = .ok (.astore 9, 2) := by decide +kernel
theorem dL_law_399 : decode cL_law 399 = .ok (.iinc 10 1, 3) := by decide +kernel
theorem dL_law_402 : decode cL_law 402 = .ok (.goto (-42), 3) := by decide +kernel
theorem dL_law_405 : decode cL_law 405 = .ok (.iload 8, 2) := by decide +kernel
theorem dL_law_407 : decode cL_law 407 = .ok (.newarray .long, 2) := by decide +kernel
theorem dL_law_409 : decode cL_law 409 = .ok (.astore 10, 2) := by decide +kernel
theorem dL_law_411 : decode cL_law 411 = .ok (.iconst 0, 1) := by decide +kernel
theorem dL_law_412 : decode cL_law 412 = .ok (.istore 11, 2) := by decide +kernel
theorem dL_law_414 : decode cL_law 414 = .ok (.iload 11, 2) := by decide +kernel
theorem dL_law_416 : decode cL_law 416 = .ok (.iload 8, 2) := by decide +kernel
theorem dL_law_418 : decode cL_law 418 = .ok (.if_icmp .ge 19, 3) := by decide +kernel
theorem dL_law_421 : decode cL_law 421 = .ok (.aload 10, 2) := by decide +kernel
theorem dL_law_423 : decode cL_law 423 = .ok (.iload 11, 2) := by decide +kernel
theorem dL_law_425 : decode cL_law 425 = .ok (.aload 7, 2) := by decide +kernel
theorem dL_law_427 : decode cL_law 427 = .ok (.iload 11, 2) := by decide +kernel
theorem dL_law_429 : decode cL_law 429 = .ok (.laload, 1) := by decide +kernel
theorem dL_law_430 : decode cL_law 430 = .ok (.lastore, 1) := by decide +kernel
theorem dL_law_431 : decode cL_law 431 = .ok (.iinc 11 1, 3) := by decide +kernel
theorem dL_law_434 : decode cL_law 434 = .ok (.goto (-20), 3) := by decide +kernel
theorem dL_law_437 : decode cL_law 437 = .ok (.aload_n 1, 1) := by decide +kernel
theorem dL_law_438 : decode cL_law 438 = .ok (.aload_n 0, 1) := by decide +kernel
theorem dL_law_439 : decode cL_law 439 = .ok (.bipush 40, 2) := by decide +kernel
theorem dL_law_441 : decode cL_law 441 = .ok (.bipush 99, 2) := by decide +kernel
theorem dL_law_443 : decode cL_law 443 = .ok (.invokestatic 149, 3) := by decide +kernel
theorem dL_law_446 : decode cL_law 446 = .ok (.invokestatic 218, 3) := by decide +kernel
theorem dL_law_449 : decode cL_law 449 = .ok (.istore 11, 2) := by decide +kernel
theorem dL_law_451 : decode cL_law 451 = .ok (.iload 11, 2) := by decide +kernel
theorem dL_law_453 : decode cL_law 453 = .ok (.aload 9, 2) := by decide +kernel
theorem dL_law_455 : decode cL_law 455 = .ok (.ifnonnull 8, 3) := by decide +kernel
theorem dL_law_458 : decode cL_law 458 = .ok (.bipush 110, 2) := by decide +kernel
theorem dL_law_460 : decode cL_law 460 = .ok (.goto 5, 3) := by decide +kernel
theorem dL_law_463 : decode cL_law 463 = .ok (.bipush 120, 2) := by decide +kernel
theorem dL_law_465 : decode cL_law 465 = .ok (.if_icmp .ne 56, 3) := by decide +kernel
theorem dL_law_468 : decode cL_law 468 = .ok (.aload_n 1, 1) := by decide +kernel
theorem dL_law_469 : decode cL_law 469 = .ok (.aload 10, 2) := by decide +kernel
theorem dL_law_471 : decode cL_law 471 = .ok (.invokestatic 238, 3) := by decide +kernel
theorem dL_law_474 : decode cL_law 474 = .ok (.ifCond .eq 47, 3) := by decide +kernel
theorem dL_law_477 : decode cL_law 477 = .ok (.aload_n 1, 1) := by decide +kernel
theorem dL_law_478 : decode cL_law 478 = .ok (.invokestatic 220, 3) := by decide +kernel
theorem dL_law_481 : decode cL_law 481 = .ok (.aload 9, 2) := by decide +kernel
theorem dL_law_483 : decode cL_law 483 = .ok (.ifnonnull 8, 3) := by decide +kernel
theorem dL_law_486 : decode cL_law 486 = .ok (.ldc 17, 2) := by decide +kernel
theorem dL_law_488 : decode cL_law 488 = .ok (.goto 8, 3) := by decide +kernel
theorem dL_law_491 : decode cL_law 491 = .ok (.aload 9, 2) := by decide +kernel
theorem dL_law_493 : decode cL_law 493 = .ok (.getfield 242, 3) := by decide +kernel
theorem dL_law_496 : decode cL_law 496 = .ok (.if_icmp .ne 25, 3) := by decide +kernel
theorem dL_law_499 : decode cL_law 499 = .ok (.aload_n 1, 1) := by decide +kernel
theorem dL_law_500 : decode cL_law 500 = .ok (.invokestatic 246, 3) := by decide +kernel
theorem dL_law_503 : decode cL_law 503 = .ok (.aload 9, 2) := by decide +kernel
theorem dL_law_505 : decode cL_law 505 = .ok (.ifnonnull 8, 3) := by decide +kernel
theorem dL_law_508 : decode cL_law 508 = .ok (.ldc 17, 2) := by decide +kernel
theorem dL_law_510 : decode cL_law 510 = .ok (.goto 8, 3) := by decide +kernel
theorem dL_law_513 : decode cL_law 513 = .ok (.aload 9, 2) := by decide +kernel
theorem dL_law_515 : decode cL_law 515 = .ok (.getfield 248, 3) := by decide +kernel
theorem dL_law_518 : decode cL_law 518 = .ok (.if_icmp .eq 5, 3) := by decide +kernel
theorem dL_law_521 : decode cL_law 521 = .ok (.iconst 0, 1) := by decide +kernel
theorem dL_law_522 : decode cL_law 522 = .ok (.ireturn, 1) := by decide +kernel
theorem dL_law_523 : decode cL_law 523 = .ok (.aload_n 1, 1) := by decide +kernel
theorem dL_law_524 : decode cL_law 524 = .ok (.invokevirtual 251, 3) := by decide +kernel
theorem dL_law_527 : decode cL_law 527 = .ok (.ifCond .ne 88, 3) := by decide +kernel
theorem dL_law_530 : decode cL_law 530 = .ok (.aload_n 1, 1) := by decide +kernel
theorem dL_law_531 : decode cL_law 531 = .ok (.invokestatic 254, 3) := by decide +kernel
theorem dL_law_534 : decode cL_law 534 = .ok (.iconst 1, 1) := by decide +kernel
theorem dL_law_535 : decode cL_law 535 = .ok (.if_icmp .ne 80, 3) := by decide +kernel
theorem dL_law_538 : decode cL_law 538 = .ok (.aload_n 1, 1) := by decide +kernel
theorem dL_law_539 : decode cL_law 539 = .ok (.invokestatic 256, 3) := by decide +kernel
theorem dL_law_542 : decode cL_law 542 = .ok (.aload 9, 2) := by decide +kernel
theorem dL_law_544 : decode cL_law 544 = .ok (.ifnonnull 7, 3) := by decide +kernel
theorem dL_law_547 : decode cL_law 547 = .ok (.iconst 0, 1) := by decide +kernel
theorem dL_law_548 : decode cL_law 548 = .ok (.goto 5, 3) := by decide +kernel
theorem dL_law_551 : decode cL_law 551 = .ok (.bipush 16, 2) := by decide +kernel
theorem dL_law_553 : decode cL_law 553 = .ok (.if_icmp .ne 62, 3) := by decide +kernel
theorem dL_law_556 : decode cL_law 556 = .ok (.aload_n 1, 1) := by decide +kernel
theorem dL_law_557 : decode cL_law 557 = .ok (.invokestatic 258, 3) := by decide +kernel
theorem dL_law_560 : decode cL_law 560 = .ok (.iconst 1, 1) := by decide +kernel
theorem dL_law_561 : decode cL_law 561 = .ok (.if_icmp .ne 54, 3) := by decide +kernel
theorem dL_law_564 : decode cL_law 564 = .ok (.aload_n 1, 1) := by decide +kernel
theorem dL_law_565 : decode cL_law 565 = .ok (.iconst (-1), 1) := by decide +kernel
theorem dL_law_566 : decode cL_law 566 = .ok (.invokestatic 218, 3) := by decide +kernel
theorem dL_law_569 : decode cL_law 569 = .ok (.ldc 20, 2) := by decide +kernel
theorem dL_law_571 : decode cL_law 571 = .ok (.if_icmp .ne 44, 3) := by decide +kernel
theorem dL_law_574 : decode cL_law 574 = .ok (.aload_n 1, 1) := by decide +kernel
theorem dL_law_575 : decode cL_law 575 = .ok (.iconst 0, 1) := by decide +kernel
theorem dL_law_576 : decode cL_law 576 = .ok (.iload 5, 2) := by decide +kernel
theorem dL_law_578 : decode cL_law 578 = .ok (.invokestatic 236, 3) := by decide +kernel
theorem dL_law_581 : decode cL_law 581 = .ok (.ldc 20, 2) := by decide +kernel
theorem dL_law_583 : decode cL_law 583 = .ok (.if_icmp .ne 32, 3) := by decide +kernel
theorem dL_law_586 : decode cL_law 586 = .ok (.aload_n 1, 1) := by decide +kernel
theorem dL_law_587 : decode cL_law 587 = .ok (.iconst 1, 1) := by decide +kernel
theorem dL_law_588 : decode cL_law 588 = .ok (.iload 5, 2) := by decide +kernel
theorem dL_law_590 : decode cL_law 590 = .ok (.invokestatic 236, 3) := by decide +kernel
theorem dL_law_593 : decode cL_law 593 = .ok (.ldc 17, 2) := by decide +kernel
theorem dL_law_595 : decode cL_law 595 = .ok (.if_icmp .ne 20, 3) := by decide +kernel
theorem dL_law_598 : decode cL_law 598 = .ok (.aload_n 1, 1) := by decide +kernel
theorem dL_law_599 : decode cL_law 599 = .ok (.invokevirtual 260, 3) := by decide +kernel
theorem dL_law_602 : decode cL_law 602 = .ok (.aload_n 1, 1) := by decide +kernel
theorem dL_law_603 : decode cL_law 603 = .ok (.invokevirtual 264, 3) := by decide +kernel
theorem dL_law_606 : decode cL_law 606 = .ok (.i2l, 1) := by decide +kernel
theorem dL_law_607 : decode cL_law 607 = .ok (.lcmp, 1) := by decide +kernel
theorem dL_law_608 : decode cL_law 608 = .ok (.ifCond .ne 7, 3) := by decide +kernel
theorem dL_law_611 : decode cL_law 611 = .ok (.iconst 1, 1) := by decide +kernel
theorem dL_law_612 : decode cL_law 612 = .ok (.goto 4, 3) := by decide +kernel
theorem dL_law_615 : decode cL_law 615 = .ok (.iconst 0, 1) := by decide +kernel
theorem dL_law_616 : decode cL_law 616 = .ok (.ireturn, 1) := by decide +kernel
