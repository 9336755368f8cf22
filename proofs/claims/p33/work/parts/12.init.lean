theorem dX3_init_0 : decode cX3_init 0 = .ok (.aload_n 0, 1) := by decide +kernel
theorem dX3_init_1 : decode cX3_init 1 = .ok (.invokespecial 3, 3) := by decide +kernel
theorem dX3_init_4 : decode cX3_init 4 = .ok (.aload_n 0, 1) := by decide +kernel
theorem dX3_init_5 : decode cX3_init 5 = .ok (.iload_n 1, 1) := by decide +kernel
theorem dX3_init_6 : decode cX3_init 6 = .ok (.putfield 9, 3) := by decide +kernel
theorem dX3_init_9 : decode cX3_init 9 = .ok (.aload_n 0, 1) := by decide +kernel
theorem dX3_init_10 : decode cX3_init 10 = .ok (.iload_n 2, 1) := by decide +kernel
theorem dX3_init_11 : decode cX3_init 11 = .ok (.putfield 15, 3) := by decide +kernel
theorem dX3_init_14 : decode cX3_init 14 = .ok (.aload_n 0, 1) := by decide +kernel
theorem dX3_init_15 : decode cX3_init 15 = .ok (.iload_n 3, 1) := by decide +kernel
theorem dX3_init_16 : decode cX3_init 16 = .ok (.putfield 19, 3) := by decide +kernel
theorem dX3_init_19 : decode cX3_init 19 = .ok (.return_, 1) := by decide +kernel
theorem dX8_init_0 : decode cX8_init 0 = .ok (.aload_n 0, 1) := by decide +kernel
theorem dX8_init_1 : decode cX8_init 1 = .ok (.invokespecial 1, 3) := by decide +kernel
theorem dX8_init_4 : decode cX8_init 4 = .ok (.aload_n 0, 1) := by decide +kernel
theorem dX8_init_5 : decode cX8_init 5 = .ok (.iload_n 1, 1) := by decide +kernel
theorem dX8_init_6 : decode cX8_init 6 = .ok (.putfield 7, 3) := by decide +kernel
theorem dX8_init_9 : decode cX8_init 9 = .ok (.aload_n 0, 1) := by decide +kernel
theorem dX8_init_10 : decode cX8_init 10 = .ok (.aload_n 2, 1) := by decide +kernel
theorem dX8_init_11 : decode cX8_init 11 = .ok (.putfield 13, 3) := by decide +kernel
theorem dX8_init_14 : decode cX8_init 14 = .ok (.aload_n 0, 1) := by decide +kernel
theorem dX8_init_15 : decode cX8_init 15 = .ok (.aload_n 3, 1) := by decide +kernel
theorem dX8_init_16 : decode cX8_init 16 = .ok (.putfield 17, 3) := by decide +kernel
theorem dX8_init_19 : decode cX8_init 19 = .ok (.return_, 1) := by decide +kernel
theorem dX6_init_0 : decode cX6_init 0 = .ok (.aload_n 0, 1) := by decide +kernel
theorem dX6_init_1 : decode cX6_init 1 = .ok (.invokespecial 3, 3) := by decide +kernel
theorem dX6_init_4 : decode cX6_init 4 = .ok (.aload_n 0, 1) := by decide +kernel
theorem dX6_init_5 : decode cX6_init 5 = .ok (.bipush 32, 2) := by decide +kernel
theorem dX6_init_7 : decode cX6_init 7 = .ok (.putfield 9, 3) := by decide +kernel
theorem dX6_init_10 : decode cX6_init 10 = .ok (.aload_n 0, 1) := by decide +kernel
theorem dX6_init_11 : decode cX6_init 11 = .ok (.bipush 32, 2) := by decide +kernel
theorem dX6_init_13 : decode cX6_init 13 = .ok (.putfield 15, 3) := by decide +kernel
theorem dX6_init_16 : decode cX6_init 16 = .ok (.aload_n 0, 1) := by decide +kernel
theorem dX6_init_17 : decode cX6_init 17 = .ok (.bipush 80, 2) := by decide +kernel
theorem dX6_init_19 : decode cX6_init 19 = .ok (.newarray .char, 2) := by decide +kernel
theorem dX6_init_21 : decode cX6_init 21 = .ok (.putfield 18, 3) := by decide +kernel
theorem dX6_init_24 : decode cX6_init 24 = .ok (.return_, 1) := by decide +kernel
theorem dX7_init_0 : decode cX7_init 0 = .ok (.aload_n 0, 1) := by decide +kernel
theorem dX7_init_1 : decode cX7_init 1 = .ok (.invokespecial 3, 3) := by decide +kernel
theorem dX7_init_4 : decode cX7_init 4 = .ok (.aload_n 0, 1) := by decide +kernel
theorem dX7_init_5 : decode cX7_init 5 = .ok (.bipush 10, 2) := by decide +kernel
theorem dX7_init_7 : decode cX7_init 7 = .ok (.anewarray 9, 3) := by decide +kernel
theorem dX7_init_10 : decode cX7_init 10 = .ok (.putfield 11, 3) := by decide +kernel
theorem dX7_init_13 : decode cX7_init 13 = .ok (.aload_n 0, 1) := by decide +kernel
theorem dX7_init_14 : decode cX7_init 14 = .ok (.iconst 3, 1) := by decide +kernel
theorem dX7_init_15 : decode cX7_init 15 = .ok (.anewarray 17, 3) := by decide +kernel
theorem dX7_init_18 : decode cX7_init 18 = .ok (.putfield 19, 3) := by decide +kernel
theorem dX7_init_21 : decode cX7_init 21 = .ok (.aload_n 0, 1) := by decide +kernel
theorem dX7_init_22 : decode cX7_init 22 = .ok (.iconst 3, 1) := by decide +kernel
theorem dX7_init_23 : decode cX7_init 23 = .ok (.anewarray 23, 3) := by decide +kernel
theorem dX7_init_26 : decode cX7_init 26 = .ok (.putfield 25, 3) := by decide +kernel
theorem dX7_init_29 : decode cX7_init 29 = .ok (.aload_n 0, 1) := by decide +kernel
theorem dX7_init_30 : decode cX7_init 30 = .ok (.bipush 100, 2) := by decide +kernel
theorem dX7_init_32 : decode cX7_init 32 = .ok (.anewarray 29, 3) := by decide +kernel
theorem dX7_init_35 : decode cX7_init 35 = .ok (.putfield 31, 3) := by decide +kernel
theorem dX7_init_38 : decode cX7_init 38 = .ok (.aload_n 0, 1) := by decide +kernel
theorem dX7_init_39 : decode cX7_init 39 = .ok (.bipush 60, 2) := by decide +kernel
theorem dX7_init_41 : decode cX7_init 41 = .ok (.anewarray 23, 3) := by decide +kernel
theorem dX7_init_44 : decode cX7_init 44 = .ok (.putfield 35, 3) := by decide +kernel
theorem dX7_init_47 : decode cX7_init 47 = .ok (.return_, 1) := by decide +kernel
theorem dX2_init_0 : decode cX2_init 0 = .ok (.aload_n 0, 1) := by decide +kernel
theorem dX2_init_1 : decode cX2_init 1 = .ok (.invokespecial 5, 3) := by decide +kernel
theorem dX2_init_4 : decode cX2_init 4 = .ok (.aload_n 0, 1) := by decide +kernel
theorem dX2_init_5 : decode cX2_init 5 = .ok (.sipush 192, 3) := by decide +kernel
theorem dX2_init_8 : decode cX2_init 8 = .ok (.newarray .int, 2) := by decide +kernel
theorem dX2_init_10 : decode cX2_init 10 = .ok (.putfield 11, 3) := by decide +kernel
theorem dX2_init_13 : decode cX2_init 13 = .ok (.aload_n 0, 1) := by decide +kernel
theorem dX2_init_14 : decode cX2_init 14 = .ok (.sipush 192, 3) := by decide +kernel
theorem dX2_init_17 : decode cX2_init 17 = .ok (.newarray .int, 2) := by decide +kernel
theorem dX2_init_19 : decode cX2_init 19 = .ok (.putfield 15, 3) := by decide +kernel
theorem dX2_init_22 : decode cX2_init 22 = .ok (.aload_n 0, 1) := by decide +kernel
theorem dX2_init_23 : decode cX2_init 23 = .ok (.sipush 192, 3) := by decide +kernel
theorem dX2_init_26 : decode cX2_init 26 = .ok (.newarray .boolean, 2) := by decide +kernel
theorem dX2_init_28 : decode cX2_init 28 = .ok (.putfield 18, 3) := by decide +kernel
theorem dX2_init_31 : decode cX2_init 31 = .ok (.aload_n 0, 1) := by decide +kernel
theorem dX2_init_32 : decode cX2_init 32 = .ok (.sipush 1728, 3) := by decide +kernel
theorem dX2_init_35 : decode cX2_init 35 = .ok (.newarray .int, 2) := by decide +kernel
theorem dX2_init_37 : decode cX2_init 37 = .ok (.putfield 22, 3) := by decide +kernel
theorem dX2_init_40 : decode cX2_init 40 = .ok (.aload_n 0, 1) := by decide +kernel
theorem dX2_init_41 : decode cX2_init 41 = .ok (.sipush 1728, 3) := by decide +kernel
theorem dX2_init_44 : decode cX2_init 44 = .ok (.newarray .long, 2) := by decide +kernel
theorem dX2_init_46 : decode cX2_init 46 = .ok (.putfield 25, 3) := by decide +kernel
theorem dX2_init_49 : decode cX2_init 49 = .ok (.aload_n 0, 1) := by decide +kernel
theorem dX2_init_50 : decode cX2_init 50 = .ok (.sipush 1728, 3) := by decide +kernel
theorem dX2_init_53 : decode cX2_init 53 = .ok (.newarray .boolean, 2) := by decide +kernel
theorem dX2_init_55 : decode cX2_init 55 = .ok (.putfield 29, 3) := by decide +kernel
theorem dX2_init_58 : decode cX2_init 58 = .ok (.aload_n 0, 1) := by decide +kernel
theorem dX2_init_59 : decode cX2_init 59 = .ok (.sipush 600, 3) := by decide +kernel
theorem dX2_init_62 : decode cX2_init 62 = .ok (.newarray .int, 2) := by decide +kernel
theorem dX2_init_64 : decode cX2_init 64 = .ok (.putfield 32, 3) := by decide +kernel
theorem dX2_init_67 : decode cX2_init 67 = .ok (.aload_n 0, 1) := by decide +kernel
theorem dX2_init_68 : decode cX2_init 68 = .ok (.sipush 600, 3) := by decide +kernel
theorem dX2_init_71 : decode cX2_init 71 = .ok (.newarray .boolean, 2) := by decide +kernel
theorem dX2_init_73 : decode cX2_init 73 = .ok (.putfield 35, 3) := by decide +kernel
theorem dX2_init_76 : decode cX2_init 76 = .ok (.return_, 1) := by decide +kernel
theorem dX1_init_0 : decode cX1_init 0 = .ok (.aload_n 0, 1) := by decide +kernel
theorem dX1_init_1 : decode cX1_init 1 = .ok (.invokespecial 3, 3) := by decide +kernel
theorem dX1_init_4 : decode cX1_init 4 = .ok (.aload_n 0, 1) := by decide +kernel
theorem dX1_init_5 : decode cX1_init 5 = .ok (.new 9, 3) := by decide +kernel
theorem dX1_init_8 : decode cX1_init 8 = .ok (.dup, 1) := by decide +kernel
theorem dX1_init_9 : decode cX1_init 9 = .ok (.invokespecial 11, 3) := by decide +kernel
theorem dX1_init_12 : decode cX1_init 12 = .ok (.putfield 12, 3) := by decide +kernel
theorem dX1_init_15 : decode cX1_init 15 = .ok (.aload_n 0, 1) := by decide +kernel
theorem dX1_init_16 : decode cX1_init 16 = .ok (.bipush 90, 2) := by decide +kernel
theorem dX1_init_18 : decode cX1_init 18 = .ok (.newarray .int, 2) := by decide +kernel
theorem dX1_init_20 : decode cX1_init 20 = .ok (.putfield 18, 3) := by decide +kernel
theorem dX1_init_23 : decode cX1_init 23 = .ok (.return_, 1) := by decide +kernel
theorem dX5_init_0 : decode cX5_init 0 = .ok (.aload_n 0, 1) := by decide +kernel
theorem dX5_init_1 : decode cX5_init 1 = .ok (.invokespecial 3, 3) := by decide +kernel
theorem dX5_init_4 : decode cX5_init 4 = .ok (.aload_n 0, 1) := by decide +kernel
theorem dX5_init_5 : decode cX5_init 5 = .ok (.iconst 3, 1) := by decide +kernel
theorem dX5_init_6 : decode cX5_init 6 = .ok (.anewarray 9, 3) := by decide +kernel
theorem dX5_init_9 : decode cX5_init 9 = .ok (.putfield 11, 3) := by decide +kernel
theorem dX5_init_12 : decode cX5_init 12 = .ok (.aload_n 0, 1) := by decide +kernel
theorem dX5_init_13 : decode cX5_init 13 = .ok (.bipush 100, 2) := by decide +kernel
theorem dX5_init_15 : decode cX5_init 15 = .ok (.anewarray 17, 3) := by decide +kernel
theorem dX5_init_18 : decode cX5_init 18 = .ok (.putfield 19, 3) := by decide +kernel
theorem dX5_init_21 : decode cX5_init 21 = .ok (.aload_n 0, 1) := by decide +kernel
theorem dX5_init_22 : decode cX5_init 22 = .ok (.bipush 60, 2) := by decide +kernel
theorem dX5_init_24 : decode cX5_init 24 = .ok (.anewarray 9, 3) := by decide +kernel
theorem dX5_init_27 : decode cX5_init 27 = .ok (.putfield 23, 3) := by decide +kernel
theorem dX5_init_30 : decode cX5_init 30 = .ok (.aload_n 0, 1) := by decide +kernel
theorem dX5_init_31 : decode cX5_init 31 = .ok (.bipush 100, 2) := by decide +kernel
theorem dX5_init_33 : decode cX5_init 33 = .ok (.anewarray 17, 3) := by decide +kernel
theorem dX5_init_36 : decode cX5_init 36 = .ok (.putfield 26, 3) := by decide +kernel
theorem dX5_init_39 : decode cX5_init 39 = .ok (.aload_n 0, 1) := by decide +kernel
theorem dX5_init_40 : decode cX5_init 40 = .ok (.bipush 60, 2) := by decide +kernel
theorem dX5_init_42 : decode cX5_init 42 = .ok (.anewarray 9, 3) := by decide +kernel
theorem dX5_init_45 : decode cX5_init 45 = .ok (.putfield 29, 3) := by decide +kernel
theorem dX5_init_48 : decode cX5_init 48 = .ok (.aload_n 0, 1) := by decide +kernel
theorem dX5_init_49 : decode cX5_init 49 = .ok (.bipush 100, 2) := by decide +kernel
theorem dX5_init_51 : decode cX5_init 51 = .ok (.newarray .boolean, 2) := by decide +kernel
theorem dX5_init_53 : decode cX5_init 53 = .ok (.putfield 32, 3) := by decide +kernel
theorem dX5_init_56 : decode cX5_init 56 = .ok (.aload_n 0, 1) := by decide +kernel
theorem dX5_init_57 : decode cX5_init 57 = .ok (.bipush 60, 2) := by decide +kernel
theorem dX5_init_59 : decode cX5_init 59 = .ok (.newarray .boolean, 2) := by decide +kernel
theorem dX5_init_61 : decode cX5_init 61 = .ok (.putfield 36, 3) := by decide +kernel
theorem dX5_init_64 : decode cX5_init 64 = .ok (.iconst 0, 1) := by decide +kernel
theorem dX5_init_65 : decode cX5_init 65 = .ok (.istore_n 1, 1) := by decide +kernel
theorem dX5_init_66 : decode cX5_init 66 = .ok (.iload_n 1, 1) := by decide +kernel
theorem dX5_init_67 : decode cX5_init 67 = .ok (.bipush 100, 2) := by decide +kernel
theorem dX5_init_69 : decode cX5_init 69 = .ok (.if_icmp .ge 26, 3) := by decide +kernel
theorem dX5_init_72 : decode cX5_init 72 = .ok (.aload_n 0, 1) := by decide +kernel
theorem dX5_init_73 : decode cX5_init 73 = .ok (.getfield 19, 3) := by decide +kernel
theorem dX5_init_76 : decode cX5_init 76 = .ok (.iload_n 1, 1) := by decide +kernel
theorem dX5_init_77 : decode cX5_init 77 = .ok (.new 17, 3) := by decide +kernel
theorem dX5_init_80 : decode cX5_init 80 = .ok (.dup, 1) := by decide +kernel
theorem dX5_init_81 : decode cX5_init 81 = .ok (.iconst 0, 1) := by decide +kernel
theorem dX5_init_82 : decode cX5_init 82 = .ok (.bipush 32, 2) := by decide +kernel
theorem dX5_init_84 : decode cX5_init 84 = .ok (.iconst 0, 1) := by decide +kernel
theorem dX5_init_85 : decode cX5_init 85 = .ok (.invokespecial 39, 3) := by decide +kernel
theorem dX5_init_88 : decode cX5_init 88 = .ok (.aastore, 1) := by decide +kernel
theorem dX5_init_89 : decode cX5_init 89 = .ok (.iinc 1 1, 3) := by decide +kernel
theorem dX5_init_92 : decode cX5_init 92 = .ok (.goto (-26), 3) := by decide +kernel
theorem dX5_init_95 : decode cX5_init 95 = .ok (.iconst 0, 1) := by decide +kernel
theorem dX5_init_96 : decode cX5_init 96 = .ok (.istore_n 1, 1) := by decide +kernel
theorem dX5_init_97 : decode cX5_init 97 = .ok (.iload_n 1, 1) := by decide +kernel
theorem dX5_init_98 : decode cX5_init 98 = .ok (.bipush 60, 2) := by decide +kernel
theorem dX5_init_100 : decode cX5_init 100 = .ok (.if_icmp .ge 26, 3) := by decide +kernel
theorem dX5_init_103 : decode cX5_init 103 = .ok (.aload_n 0, 1) := by decide +kernel
theorem dX5_init_104 : decode cX5_init 104 = .ok (.getfield 23, 3) := by decide +kernel
theorem dX5_init_107 : decode cX5_init 107 = .ok (.iload_n 1, 1) := by decide +kernel
theorem dX5_init_108 : decode cX5_init 108 = .ok (.new 9, 3) := by decide +kernel
theorem dX5_init_111 : decode cX5_init 111 = .ok (.dup, 1) := by decide +kernel
theorem dX5_init_112 : decode cX5_init 112 = .ok (.bipush 101, 2) := by decide +kernel
theorem dX5_init_114 : decode cX5_init 114 = .ok (.aconst_null, 1) := by decide +kernel
theorem dX5_init_115 : decode cX5_init 115 = .ok (.aconst_null, 1) := by decide +kernel
theorem dX5_init_116 : decode cX5_init 116 = .ok (.invokespecial 42, 3) := by decide +kernel
theorem dX5_init_119 : decode cX5_init 119 = .ok (.aastore, 1) := by decide +kernel
theorem dX5_init_120 : decode cX5_init 120 = .ok (.iinc 1 1, 3) := by decide +kernel
theorem dX5_init_123 : decode cX5_init 123 = .ok (.goto (-26), 3) := by decide +kernel
theorem dX5_init_126 : decode cX5_init 126 = .ok (.return_, 1) := by decide +kernel
theorem dX11_init_0 : decode cX11_init 0 = .ok (.aload_n 0, 1) := by decide +kernel
theorem dX11_init_1 : decode cX11_init 1 = .ok (.invokespecial 1, 3) := by decide +kernel
theorem dX11_init_4 : decode cX11_init 4 = .ok (.aload_n 0, 1) := by decide +kernel
theorem dX11_init_5 : decode cX11_init 5 = .ok (.new 7, 3) := by decide +kernel
theorem dX11_init_8 : decode cX11_init 8 = .ok (.dup, 1) := by decide +kernel
theorem dX11_init_9 : decode cX11_init 9 = .ok (.invokespecial 9, 3) := by decide +kernel
theorem dX11_init_12 : decode cX11_init 12 = .ok (.putfield 10, 3) := by decide +kernel
theorem dX11_init_15 : decode cX11_init 15 = .ok (.aload_n 0, 1) := by decide +kernel
theorem dX11_init_16 : decode cX11_init 16 = .ok (.new 16, 3) := by decide +kernel
theorem dX11_init_19 : decode cX11_init 19 = .ok (.dup, 1) := by decide +kernel
theorem dX11_init_20 : decode cX11_init 20 = .ok (.invokespecial 18, 3) := by decide +kernel
theorem dX11_init_23 : decode cX11_init 23 = .ok (.putfield 19, 3) := by decide +kernel
theorem dX11_init_26 : decode cX11_init 26 = .ok (.aload_n 0, 1) := by decide +kernel
theorem dX11_init_27 : decode cX11_init 27 = .ok (.new 23, 3) := by decide +kernel
theorem dX11_init_30 : decode cX11_init 30 = .ok (.dup, 1) := by decide +kernel
theorem dX11_init_31 : decode cX11_init 31 = .ok (.invokespecial 25, 3) := by decide +kernel
theorem dX11_init_34 : decode cX11_init 34 = .ok (.putfield 26, 3) := by decide +kernel
theorem dX11_init_37 : decode cX11_init 37 = .ok (.aload_n 0, 1) := by decide +kernel
theorem dX11_init_38 : decode cX11_init 38 = .ok (.new 30, 3) := by decide +kernel
theorem dX11_init_41 : decode cX11_init 41 = .ok (.dup, 1) := by decide +kernel
theorem dX11_init_42 : decode cX11_init 42 = .ok (.invokespecial 32, 3) := by decide +kernel
theorem dX11_init_45 : decode cX11_init 45 = .ok (.putfield 33, 3) := by decide +kernel
theorem dX11_init_48 : decode cX11_init 48 = .ok (.aload_n 0, 1) := by decide +kernel
theorem dX11_init_49 : decode cX11_init 49 = .ok (.new 30, 3) := by decide +kernel
theorem dX11_init_52 : decode cX11_init 52 = .ok (.dup, 1) := by decide +kernel
theorem dX11_init_53 : decode cX11_init 53 = .ok (.invokespecial 32, 3) := by decide +kernel
theorem dX11_init_56 : decode cX11_init 56 = .ok (.putfield 37, 3) := by decide +kernel
theorem dX11_init_59 : decode cX11_init 59 = .ok (.aload_n 0, 1) := by decide +kernel
theorem dX11_init_60 : decode cX11_init 60 = .ok (.bipush 16, 2) := by decide +kernel
theorem dX11_init_62 : decode cX11_init 62 = .ok (.anewarray 30, 3) := by decide +kernel
theorem dX11_init_65 : decode cX11_init 65 = .ok (.putfield 40, 3) := by decide +kernel
theorem dX11_init_68 : decode cX11_init 68 = .ok (.iconst 0, 1) := by decide +kernel
theorem dX11_init_69 : decode cX11_init 69 = .ok (.istore_n 1, 1) := by decide +kernel
theorem dX11_init_70 : decode cX11_init 70 = .ok (.iload_n 1, 1) := by decide +kernel
theorem dX11_init_71 : decode cX11_init 71 = .ok (.bipush 16, 2) := by decide +kernel
theorem dX11_init_73 : decode cX11_init 73 = .ok (.if_icmp .ge 22, 3) := by decide +kernel
theorem dX11_init_76 : decode cX11_init 76 = .ok (.aload_n 0, 1) := by decide +kernel
theorem dX11_init_77 : decode cX11_init 77 = .ok (.getfield 40, 3) := by decide +kernel
theorem dX11_init_80 : decode cX11_init 80 = .ok (.iload_n 1, 1) := by decide +kernel
theorem dX11_init_81 : decode cX11_init 81 = .ok (.new 30, 3) := by decide +kernel
theorem dX11_init_84 : decode cX11_init 84 = .ok (.dup, 1) := by decide +kernel
theorem dX11_init_85 : decode cX11_init 85 = .ok (.invokespecial 32, 3) := by decide +kernel
theorem dX11_init_88 : decode cX11_init 88 = .ok (.aastore, 1) := by decide +kernel
theorem dX11_init_89 : decode cX11_init 89 = .ok (.iinc 1 1, 3) := by decide +kernel
theorem dX11_init_92 : decode cX11_init 92 = .ok (.goto (-22), 3) := by decide +kernel
theorem dX11_init_95 : decode cX11_init 95 = .ok (.return_, 1) := by decide +kernel
theorem dX18_init_0 : decode cX18_init 0 = .ok (.aload_n 0, 1) := by decide +kernel
theorem dX18_init_1 : decode cX18_init 1 = .ok (.invokespecial 1, 3) := by decide +kernel
theorem dX18_init_4 : decode cX18_init 4 = .ok (.aload_n 0, 1) := by decide +kernel
theorem dX18_init_5 : decode cX18_init 5 = .ok (.bipush 10, 2) := by decide +kernel
theorem dX18_init_7 : decode cX18_init 7 = .ok (.newarray .int, 2) := by decide +kernel
theorem dX18_init_9 : decode cX18_init 9 = .ok (.putfield 9, 3) := by decide +kernel
theorem dX18_init_12 : decode cX18_init 12 = .ok (.aload_n 0, 1) := by decide +kernel
theorem dX18_init_13 : decode cX18_init 13 = .ok (.bipush 10, 2) := by decide +kernel
theorem dX18_init_15 : decode cX18_init 15 = .ok (.newarray .int, 2) := by decide +kernel
theorem dX18_init_17 : decode cX18_init 17 = .ok (.putfield 13, 3) := by decide +kernel
theorem dX18_init_20 : decode cX18_init 20 = .ok (.aload_n 0, 1) := by decide +kernel
theorem dX18_init_21 : decode cX18_init 21 = .ok (.bipush 10, 2) := by decide +kernel
theorem dX18_init_23 : decode cX18_init 23 = .ok (.newarray .boolean, 2) := by decide +kernel
theorem dX18_init_25 : decode cX18_init 25 = .ok (.putfield 16, 3) := by decide +kernel
theorem dX18_init_28 : decode cX18_init 28 = .ok (.aload_n 0, 1) := by decide +kernel
theorem dX18_init_29 : decode cX18_init 29 = .ok (.iconst 3, 1) := by decide +kernel
theorem dX18_init_30 : decode cX18_init 30 = .ok (.newarray .int, 2) := by decide +kernel
theorem dX18_init_32 : decode cX18_init 32 = .ok (.putfield 20, 3) := by decide +kernel
theorem dX18_init_35 : decode cX18_init 35 = .ok (.aload_n 0, 1) := by decide +kernel
theorem dX18_init_36 : decode cX18_init 36 = .ok (.iconst 3, 1) := by decide +kernel
theorem dX18_init_37 : decode cX18_init 37 = .ok (.newarray .int, 2) := by decide +kernel
theorem dX18_init_39 : decode cX18_init 39 = .ok (.putfield 23, 3) := by decide +kernel
theorem dX18_init_42 : decode cX18_init 42 = .ok (.aload_n 0, 1) := by decide +kernel
theorem dX18_init_43 : decode cX18_init 43 = .ok (.iconst 3, 1) := by decide +kernel
theorem dX18_init_44 : decode cX18_init 44 = .ok (.newarray .int, 2) := by decide +kernel
theorem dX18_init_46 : decode cX18_init 46 = .ok (.putfield 26, 3) := by decide +kernel
theorem dX18_init_49 : decode cX18_init 49 = .ok (.aload_n 0, 1) := by decide +kernel
theorem dX18_init_50 : decode cX18_init 50 = .ok (.iconst 3, 1) := by decide +kernel
theorem dX18_init_51 : decode cX18_init 51 = .ok (.anewarray 29, 3) := by decide +kernel
theorem dX18_init_54 : decode cX18_init 54 = .ok (.putfield 31, 3) := by decide +kernel
theorem dX18_init_57 : decode cX18_init 57 = .ok (.aload_n 0, 1) := by decide +kernel
theorem dX18_init_58 : decode cX18_init 58 = .ok (.bipush 100, 2) := by decide +kernel
theorem dX18_init_60 : decode cX18_init 60 = .ok (.anewarray 35, 3) := by decide +kernel
theorem dX18_init_63 : decode cX18_init 63 = .ok (.putfield 37, 3) := by decide +kernel
theorem dX18_init_66 : decode cX18_init 66 = .ok (.aload_n 0, 1) := by decide +kernel
theorem dX18_init_67 : decode cX18_init 67 = .ok (.bipush 60, 2) := by decide +kernel
theorem dX18_init_69 : decode cX18_init 69 = .ok (.anewarray 29, 3) := by decide +kernel
theorem dX18_init_72 : decode cX18_init 72 = .ok (.putfield 41, 3) := by decide +kernel
theorem dX18_init_75 : decode cX18_init 75 = .ok (.return_, 1) := by decide +kernel
/-! what the constructors want of the tables beside their words: nest mates, arrays of the own classes -/
def nw (U : State) : Prop := (va_Nw (.methodLinkNest RX11 9 yX7_init RX11) U ∧ va_Nw (.methodLinkNest RX11 25 yX1_init RX11) U ∧ va_Nw (.methodLinkNest RX11 32 yX6_init RX11) U ∧ va_Nw (.methodLinkNest RX1 11 yX2_init RX11) U) ∧ va_AO RX10 U ∧ va_AO RX0 U ∧ va_AO RX8 U ∧ va_AO RX3 U ∧ va_AO RX6 U
theorem nw.warm {s U : State} (hW : s.WarmedH U.vm) (h : nw s) : nw U := ⟨⟨va_Nw.warmM hW h.1.1, va_Nw.warmM hW h.1.2.1, va_Nw.warmM hW h.1.2.2.1, va_Nw.warmM hW h.1.2.2.2⟩, va_AO.moved hW.alike h.2.1, va_AO.moved hW.alike h.2.2.1, va_AO.moved hW.alike h.2.2.2.1, va_AO.moved hW.alike h.2.2.2.2.1, va_AO.moved hW.alike h.2.2.2.2.2⟩
theorem nw.blind {U : State} (a : Array Value) (g : JFrame) (mk : MethodId) (h : nw U) : nw (U.calling g mk a) := ⟨⟨va_Nw.same (u := U) rfl rfl h.1.1, va_Nw.same (u := U) rfl rfl h.1.2.1, va_Nw.same (u := U) rfl rfl h.1.2.2.1, va_Nw.same (u := U) rfl rfl h.1.2.2.2⟩, va_AO.moved (u := U) (Vm.Alike.refl U.vm) h.2.1, va_AO.moved (u := U) (Vm.Alike.refl U.vm) h.2.2.1, va_AO.moved (u := U) (Vm.Alike.refl U.vm) h.2.2.2.1, va_AO.moved (u := U) (Vm.Alike.refl U.vm) h.2.2.2.2.1, va_AO.moved (u := U) (Vm.Alike.refl U.vm) h.2.2.2.2.2⟩
def wc_X3_init : List Cond := .code yX3_init cX3_init 4 none :: ([.methodLink RX3 3 objectInit, .instanceMethod objectInit, .code objectInit ⟨#[0xb1]⟩ 1 none, .fieldLink RX3 9 "Sequencepoint$Node" "shape" "I", .fieldLink RX3 15 "Sequencepoint$Node" "kind" "C", .fieldLink RX3 19 "Sequencepoint$Node" "type" "I"] ++ (wsX30 ++ []))
set_option maxHeartbeats 4000000 in
set_option maxRecDepth 100000 in
theorem c_X3_init (l : Launch) (dC : Nat → ClassId) (dI : Nat → Nat → Nat) (h : Nat) (sz : Nat) : Met l yX3_init wc_X3_init ({ frames := 1, cells := 0, slots := 0, locals := 12 }) (va_Pc [.ref h, .int 0, .int 32, .int 0] (fun U => U.heap.size = sz ∧ va_P (dC, dI) vwCl [(h, .inr (7, [.int 0, .int 0, .int 0, .int 0, .long 0, .null, .null, .null, .null, .null, .int 0, .int 0, .int 0, .int 0]))] U.heap ∧ va_K (dC, dI) vwCl [] U ∧ va_D (fun _ => True) [(h, .inr (7, [.int 0, .int 0, .int 0, .int 0, .long 0, .null, .null, .null, .null, .null, .int 0, .int 0, .int 0, .int 0]))])) (va_Qv (fun _ : Unit => True) (fun _ t => (va_P (dC, dI) vwCl [(h, .inr (7, [.int 0, .int 0, .int 32, .int 0, .long 0, .null, .null, .null, .null, .null, .int 0, .int 0, .int 0, .int 0]))] t.heap ∧ va_K (dC, dI) vwCl [] t ∧ va_D (va_A [(h, .inr (7, [.int 0, .int 0, .int 0, .int 0, .long 0, .null, .null, .null, .null, .null, .int 0, .int 0, .int 0, .int 0]))] sz) [(h, .inr (7, [.int 0, .int 0, .int 32, .int 0, .long 0, .null, .null, .null, .null, .null, .int 0, .int 0, .int 0, .int 0]))])) (va_A [(h, .inr (7, [.int 0, .int 0, .int 0, .int 0, .long 0, .null, .null, .null, .null, .null, .int 0, .int 0, .int 0, .int 0]))] sz)) 0 0 (va_A [(h, .inr (7, [.int 0, .int 0, .int 0, .int 0, .long 0, .null, .null, .null, .null, .null, .int 0, .int 0, .int 0, .int 0]))] sz) := by
  refine Met.ofW (cc := cX3_init) (maxL := 4) (ret := none) (by decide) rfl ?_
  intro p e s m args below meth c s₁ B hml hv
  obtain ⟨rfl, hsz, hP, hK, hD0⟩ := hv
  have hx := B.exec
  have hb := B.bytes
  have hr := B.returns
  have hts := atoms_spec (ws := wc_X3_init) B.pre
  have hown : s.vm.findClass RX3 = some m.cls := findClass_of_methodNamed B.named
  have hlocks := B.notSynchronized
  have hin : meth.name = "<init>" := (name_of_methodNamed B.named B.method).1
  subst hsz
  have hD := hD0.self (sz := s.heap.size)
  generalize hAe : va_A [(h, .inr (7, [.int 0, .int 0, .int 0, .int 0, .long 0, .null, .null, .null, .null, .null, .int 0, .int 0, .int 0, .int 0]))] s.heap.size = A at hD ⊢
  have hA : ∀ q : Nat, s.heap.size ≤ q → A q := fun q h => by rw [← hAe]; exact Or.inr h
  have hS : va_S A s.heap s.heap [] := va_S.rf
  have hP : va_P (dC, dI) vwCl [(h, .inr (7, [.int 0, .int 0, .int 0, .int 0, .long 0, .null, .null, .null, .null, .null, .int 0, .int 0, .int 0, .int 0]))] s.heap := hP
  have hl := lv_entry ([.ref h, .int 0, .int 32, .int 0]) (n := 4) (Nat.le_of_ble_eq_true rfl)
  rw [lg_entry_eq]
  generalize (lg_sl ([.ref h, .int 0, .int 32, .int 0]) ++ List.replicate (4 - (lg_sl ([.ref h, .int 0, .int 32, .int 0])).length) Slot.unset).toArray = ls at hl ⊢
  have hl : lv_has ls 4 [(0, .ref h), (1, .int 0), (2, .int 32), (3, .int 0)] := hl
  refine lv_aload_n hx hb dX3_init_0 rfl (lv_at hl 0 rfl) ?_
  refine W.objInit hx hb hown (hts (.methodLink RX3 3 objectInit) (by decide +kernel)) (hts (.instanceMethod objectInit) (by decide +kernel)) (hts (.code objectInit ⟨#[0xb1]⟩ 1 none) (by decide +kernel)) rfl (by rw [hml]; exact hl.1) rfl dX3_init_1 (Nat.le_of_ble_eq_true rfl) (Nat.le_of_ble_eq_true rfl) ?_
  refine W.eq (g2 := F0 m 4 ls []) rfl ?_
  refine lv_aload_n hx hb dX3_init_4 rfl (lv_at hl 0 rfl) ?_
  refine lv_iload_n hx hb dX3_init_5 rfl (lv_at hl 1 rfl) ?_
  refine va_put (D := (dC, dI)) (ci := 7) (v := .int 0) (ty := .int) (C := RX3) (T := TX3) (N := 14) hx hb hts (fun w h => (List.mem_cons_of_mem _ (List.mem_append_right _ (List.mem_append_left _ h)))) tyX3 tyX3_ok nmX3 hown hK hP hD hS 0 rfl rfl 1 (by decide) (hts (.fieldLink RX3 9 "Sequencepoint$Node" "shape" "I") (by decide +kernel)) (fun _ h9 => h9) rfl (by decide +kernel) (by decide +kernel) (by decide +kernel) (Nat.le_of_ble_eq_true rfl) dX3_init_6 (fun H locs hP hD hS => ?_)
  have hP : va_P (dC, dI) vwCl [(h, .inr (7, [.int 0, .int 0, .int 0, .int 0, .long 0, .null, .null, .null, .null, .null, .int 0, .int 0, .int 0, .int 0]))] H := hP
  have hD : va_D A [(h, .inr (7, [.int 0, .int 0, .int 0, .int 0, .long 0, .null, .null, .null, .null, .null, .int 0, .int 0, .int 0, .int 0]))] := hD
  refine lv_aload_n hx hb dX3_init_9 rfl (lv_at hl 0 rfl) ?_
  refine lv_iload_n hx hb dX3_init_10 rfl (lv_at hl 2 rfl) ?_
  refine va_put (D := (dC, dI)) (ci := 7) (v := .int 32) (ty := .char) (C := RX3) (T := TX3) (N := 14) hx hb hts (fun w h => (List.mem_cons_of_mem _ (List.mem_append_right _ (List.mem_append_left _ h)))) tyX3 tyX3_ok nmX3 hown hK hP hD hS 0 rfl rfl 2 (by decide) (hts (.fieldLink RX3 15 "Sequencepoint$Node" "kind" "C") (by decide +kernel)) (fun _ h9 => h9) rfl (by decide +kernel) (by decide +kernel) (by decide +kernel) (Nat.le_of_ble_eq_true rfl) dX3_init_11 (fun H locs hP hD hS => ?_)
  have hP : va_P (dC, dI) vwCl [(h, .inr (7, [.int 0, .int 0, .int 32, .int 0, .long 0, .null, .null, .null, .null, .null, .int 0, .int 0, .int 0, .int 0]))] H := hP
  have hD : va_D A [(h, .inr (7, [.int 0, .int 0, .int 32, .int 0, .long 0, .null, .null, .null, .null, .null, .int 0, .int 0, .int 0, .int 0]))] := hD
  refine lv_aload_n hx hb dX3_init_14 rfl (lv_at hl 0 rfl) ?_
  refine lv_iload_n hx hb dX3_init_15 rfl (lv_at hl 3 rfl) ?_
  refine va_put (D := (dC, dI)) (ci := 7) (v := .int 0) (ty := .int) (C := RX3) (T := TX3) (N := 14) hx hb hts (fun w h => (List.mem_cons_of_mem _ (List.mem_append_right _ (List.mem_append_left _ h)))) tyX3 tyX3_ok nmX3 hown hK hP hD hS 0 rfl rfl 3 (by decide) (hts (.fieldLink RX3 19 "Sequencepoint$Node" "type" "I") (by decide +kernel)) (fun _ h9 => h9) rfl (by decide +kernel) (by decide +kernel) (by decide +kernel) (Nat.le_of_ble_eq_true rfl) dX3_init_16 (fun H locs hP hD hS => ?_)
  have hP : va_P (dC, dI) vwCl [(h, .inr (7, [.int 0, .int 0, .int 32, .int 0, .long 0, .null, .null, .null, .null, .null, .int 0, .int 0, .int 0, .int 0]))] H := hP
  have hD : va_D A [(h, .inr (7, [.int 0, .int 0, .int 32, .int 0, .long 0, .null, .null, .null, .null, .null, .int 0, .int 0, .int 0, .int 0]))] := hD
  have hP9 := hP.sub (ws' := [(h, .inr (7, [.int 0, .int 0, .int 32, .int 0, .long 0, .null, .null, .null, .null, .null, .int 0, .int 0, .int 0, .int 0]))]) [0] rfl
  have hD9 := hD.sub (ws' := [(h, .inr (7, [.int 0, .int 0, .int 32, .int 0, .long 0, .null, .null, .null, .null, .null, .int 0, .int 0, .int 0, .int 0]))]) [0] (by decide) rfl
  have hK9 := hK.sub (tys' := []) [] rfl
  exact W.vret hx hb hr (fun t ht hW => ⟨⟨(), rfl, trivial, ⟨by rw [ht]; exact hP9, va_K.moved hW.alike hK9, hD9⟩⟩, hS.F ht⟩) hS.2.2 dX3_init_19

def wc_X8_init : List Cond := .code yX8_init cX8_init 4 none :: ([.methodLink RX8 1 objectInit, .instanceMethod objectInit, .code objectInit ⟨#[0xb1]⟩ 1 none, .fieldLink RX8 7 "Sequencepoint$Statement" "kind" "C", .fieldLink RX8 13 "Sequencepoint$Statement" "node" "LSequencepoint$Node;", .fieldLink RX8 17 "Sequencepoint$Statement" "variable" "LSequencepoint$Variable;"] ++ (wsX80 ++ []))
set_option maxHeartbeats 4000000 in
set_option maxRecDepth 100000 in
theorem c_X8_init (l : Launch) (dC : Nat → ClassId) (dI : Nat → Nat → Nat) (h : Nat) (sz : Nat) : Met l yX8_init wc_X8_init ({ frames := 1, cells := 0, slots := 0, locals := 12 }) (va_Pc [.ref h, .int 101, .null, .null] (fun U => U.heap.size = sz ∧ va_P (dC, dI) vwCl [(h, .inr (11, [.int 0, .int 0, .null, .null, .null, .null, .int 0, .int 0, .int 0]))] U.heap ∧ va_K (dC, dI) vwCl [] U ∧ va_D (fun _ => True) [(h, .inr (11, [.int 0, .int 0, .null, .null, .null, .null, .int 0, .int 0, .int 0]))])) (va_Qv (fun _ : Unit => True) (fun _ t => (va_P (dC, dI) vwCl [(h, .inr (11, [.int 0, .int 101, .null, .null, .null, .null, .int 0, .int 0, .int 0]))] t.heap ∧ va_K (dC, dI) vwCl [] t ∧ va_D (va_A [(h, .inr (11, [.int 0, .int 0, .null, .null, .null, .null, .int 0, .int 0, .int 0]))] sz) [(h, .inr (11, [.int 0, .int 101, .null, .null, .null, .null, .int 0, .int 0, .int 0]))])) (va_A [(h, .inr (11, [.int 0, .int 0, .null, .null, .null, .null, .int 0, .int 0, .int 0]))] sz)) 0 0 (va_A [(h, .inr (11, [.int 0, .int 0, .null, .null, .null, .null, .int 0, .int 0, .int 0]))] sz) := by
  refine Met.ofW (cc := cX8_init) (maxL := 4) (ret := none) (by decide) rfl ?_
  intro p e s m args below meth c s₁ B hml hv
  obtain ⟨rfl, hsz, hP, hK, hD0⟩ := hv
  have hx := B.exec
  have hb := B.bytes
  have hr := B.returns
  have hts := atoms_spec (ws := wc_X8_init) B.pre
  have hown : s.vm.findClass RX8 = some m.cls := findClass_of_methodNamed B.named
  have hlocks := B.notSynchronized
  have hin : meth.name = "<init>" := (name_of_methodNamed B.named B.method).1
  subst hsz
  have hD := hD0.self (sz := s.heap.size)
  generalize hAe : va_A [(h, .inr (11, [.int 0, .int 0, .null, .null, .null, .null, .int 0, .int 0, .int 0]))] s.heap.size = A at hD ⊢
  have hA : ∀ q : Nat, s.heap.size ≤ q → A q := fun q h => by rw [← hAe]; exact Or.inr h
  have hS : va_S A s.heap s.heap [] := va_S.rf
  have hP : va_P (dC, dI) vwCl [(h, .inr (11, [.int 0, .int 0, .null, .null, .null, .null, .int 0, .int 0, .int 0]))] s.heap := hP
  have hl := lv_entry ([.ref h, .int 101, .null, .null]) (n := 4) (Nat.le_of_ble_eq_true rfl)
  rw [lg_entry_eq]
  generalize (lg_sl ([.ref h, .int 101, .null, .null]) ++ List.replicate (4 - (lg_sl ([.ref h, .int 101, .null, .null])).length) Slot.unset).toArray = ls at hl ⊢
  have hl : lv_has ls 4 [(0, .ref h), (1, .int 101), (2, .null), (3, .null)] := hl
  refine lv_aload_n hx hb dX8_init_0 rfl (lv_at hl 0 rfl) ?_
  refine W.objInit hx hb hown (hts (.methodLink RX8 1 objectInit) (by decide +kernel)) (hts (.instanceMethod objectInit) (by decide +kernel)) (hts (.code objectInit ⟨#[0xb1]⟩ 1 none) (by decide +kernel)) rfl (by rw [hml]; exact hl.1) rfl dX8_init_1 (Nat.le_of_ble_eq_true rfl) (Nat.le_of_ble_eq_true rfl) ?_
  refine W.eq (g2 := F0 m 4 ls []) rfl ?_
  refine lv_aload_n hx hb dX8_init_4 rfl (lv_at hl 0 rfl) ?_
  refine lv_iload_n hx hb dX8_init_5 rfl (lv_at hl 1 rfl) ?_
  refine va_put (D := (dC, dI)) (ci := 11) (v := .int 101) (ty := .char) (C := RX8) (T := TX8) (N := 9) hx hb hts (fun w h => (List.mem_cons_of_mem _ (List.mem_append_right _ (List.mem_append_left _ h)))) tyX8 tyX8_ok nmX8 hown hK hP hD hS 0 rfl rfl 1 (by decide) (hts (.fieldLink RX8 7 "Sequencepoint$Statement" "kind" "C") (by decide +kernel)) (fun _ h9 => h9) rfl (by decide +kernel) (by decide +kernel) (by decide +kernel) (Nat.le_of_ble_eq_true rfl) dX8_init_6 (fun H locs hP hD hS => ?_)
  have hP : va_P (dC, dI) vwCl [(h, .inr (11, [.int 0, .int 101, .null, .null, .null, .null, .int 0, .int 0, .int 0]))] H := hP
  have hD : va_D A [(h, .inr (11, [.int 0, .int 101, .null, .null, .null, .null, .int 0, .int 0, .int 0]))] := hD
  refine lv_aload_n hx hb dX8_init_9 rfl (lv_at hl 0 rfl) ?_
  refine lv_aload_nN hx hb dX8_init_10 rfl (lv_at hl 2 rfl) ?_
  refine va_put (D := (dC, dI)) (ci := 11) (v := .null) (ty := (tyX8 2)) (C := RX8) (T := TX8) (N := 9) hx hb hts (fun w h => (List.mem_cons_of_mem _ (List.mem_append_right _ (List.mem_append_left _ h)))) tyX8 tyX8_ok nmX8 hown hK hP hD hS 0 rfl rfl 2 (by decide) (hts (.fieldLink RX8 13 "Sequencepoint$Statement" "node" "LSequencepoint$Node;") (by decide +kernel)) (fun _ h9 => h9) rfl (by decide +kernel) rfl rfl (Nat.le_of_ble_eq_true rfl) dX8_init_11 (fun H locs hP hD hS => ?_)
  have hP : va_P (dC, dI) vwCl [(h, .inr (11, [.int 0, .int 101, .null, .null, .null, .null, .int 0, .int 0, .int 0]))] H := hP
  have hD : va_D A [(h, .inr (11, [.int 0, .int 101, .null, .null, .null, .null, .int 0, .int 0, .int 0]))] := hD
  refine lv_aload_n hx hb dX8_init_14 rfl (lv_at hl 0 rfl) ?_
  refine lv_aload_nN hx hb dX8_init_15 rfl (lv_at hl 3 rfl) ?_
  refine va_put (D := (dC, dI)) (ci := 11) (v := .null) (ty := (tyX8 3)) (C := RX8) (T := TX8) (N := 9) hx hb hts (fun w h => (List.mem_cons_of_mem _ (List.mem_append_right _ (List.mem_append_left _ h)))) tyX8 tyX8_ok nmX8 hown hK hP hD hS 0 rfl rfl 3 (by decide) (hts (.fieldLink RX8 17 "Sequencepoint$Statement" "variable" "LSequencepoint$Variable;") (by decide +kernel)) (fun _ h9 => h9) rfl (by decide +kernel) rfl rfl (Nat.le_of_ble_eq_true rfl) dX8_init_16 (fun H locs hP hD hS => ?_)
  have hP : va_P (dC, dI) vwCl [(h, .inr (11, [.int 0, .int 101, .null, .null, .null, .null, .int 0, .int 0, .int 0]))] H := hP
  have hD : va_D A [(h, .inr (11, [.int 0, .int 101, .null, .null, .null, .null, .int 0, .int 0, .int 0]))] := hD
  have hP9 := hP.sub (ws' := [(h, .inr (11, [.int 0, .int 101, .null, .null, .null, .null, .int 0, .int 0, .int 0]))]) [0] rfl
  have hD9 := hD.sub (ws' := [(h, .inr (11, [.int 0, .int 101, .null, .null, .null, .null, .int 0, .int 0, .int 0]))]) [0] (by decide) rfl
  have hK9 := hK.sub (tys' := []) [] rfl
  exact W.vret hx hb hr (fun t ht hW => ⟨⟨(), rfl, trivial, ⟨by rw [ht]; exact hP9, va_K.moved hW.alike hK9, hD9⟩⟩, hS.F ht⟩) hS.2.2 dX8_init_19

def wc_X6_init : List Cond := .code yX6_init cX6_init 1 none :: ([.methodLink RX6 3 objectInit, .instanceMethod objectInit, .code objectInit ⟨#[0xb1]⟩ 1 none, .fieldLink RX6 9 "Sequencepoint$Outcome" "ending" "C", .fieldLink RX6 15 "Sequencepoint$Outcome" "kind" "C", .arrayClass .char, .fieldLink RX6 18 "Sequencepoint$Outcome" "text" "[C"] ++ (wsX60 ++ []))
set_option maxHeartbeats 4000000 in
set_option maxRecDepth 100000 in
theorem c_X6_init (l : Launch) (dC : Nat → ClassId) (dI : Nat → Nat → Nat) (h : Nat) (sz : Nat) : Met l yX6_init wc_X6_init ({ frames := 1, cells := 1, slots := 80, locals := 12 }) (va_Pc [.ref h] (fun U => U.heap.size = sz ∧ va_P (dC, dI) vwCl [(h, .inr (9, [.int 0, .int 0, .int 0, .int 0, .int 0, .int 0, .null]))] U.heap ∧ va_K (dC, dI) vwCl [] U ∧ va_D (fun _ => True) [(h, .inr (9, [.int 0, .int 0, .int 0, .int 0, .int 0, .int 0, .null]))])) (va_Qv (fun _ : Unit => True) (fun _ t => (∃ tx : Nat, va_P (dC, dI) vwCl [(h, .inr (9, [.int 32, .int 32, .int 0, .int 0, .int 0, .int 0, .ref tx]))] t.heap ∧ va_K (dC, dI) vwCl [] t ∧ va_D (va_A [(h, .inr (9, [.int 0, .int 0, .int 0, .int 0, .int 0, .int 0, .null]))] sz) [(h, .inr (9, [.int 32, .int 32, .int 0, .int 0, .int 0, .int 0, .ref tx]))])) (va_A [(h, .inr (9, [.int 0, .int 0, .int 0, .int 0, .int 0, .int 0, .null]))] sz)) 1 80 (va_A [(h, .inr (9, [.int 0, .int 0, .int 0, .int 0, .int 0, .int 0, .null]))] sz) := by
  refine Met.ofW (cc := cX6_init) (maxL := 1) (ret := none) (by decide) rfl ?_
  intro p e s m args below meth c s₁ B hml hv
  obtain ⟨rfl, hsz, hP, hK, hD0⟩ := hv
  have hx := B.exec
  have hb := B.bytes
  have hr := B.returns
  have hts := atoms_spec (ws := wc_X6_init) B.pre
  have hown : s.vm.findClass RX6 = some m.cls := findClass_of_methodNamed B.named
  have hlocks := B.notSynchronized
  have hin : meth.name = "<init>" := (name_of_methodNamed B.named B.method).1
  subst hsz
  have hD := hD0.self (sz := s.heap.size)
  generalize hAe : va_A [(h, .inr (9, [.int 0, .int 0, .int 0, .int 0, .int 0, .int 0, .null]))] s.heap.size = A at hD ⊢
  have hA : ∀ q : Nat, s.heap.size ≤ q → A q := fun q h => by rw [← hAe]; exact Or.inr h
  have hS : va_S A s.heap s.heap [] := va_S.rf
  have hP : va_P (dC, dI) vwCl [(h, .inr (9, [.int 0, .int 0, .int 0, .int 0, .int 0, .int 0, .null]))] s.heap := hP
  have hl := lv_entry ([.ref h]) (n := 1) (Nat.le_of_ble_eq_true rfl)
  rw [lg_entry_eq]
  generalize (lg_sl ([.ref h]) ++ List.replicate (1 - (lg_sl ([.ref h])).length) Slot.unset).toArray = ls at hl ⊢
  have hl : lv_has ls 1 [(0, .ref h)] := hl
  refine lv_aload_n hx hb dX6_init_0 rfl (lv_at hl 0 rfl) ?_
  refine W.objInit hx hb hown (hts (.methodLink RX6 3 objectInit) (by decide +kernel)) (hts (.instanceMethod objectInit) (by decide +kernel)) (hts (.code objectInit ⟨#[0xb1]⟩ 1 none) (by decide +kernel)) rfl (by rw [hml]; exact hl.1) rfl dX6_init_1 (Nat.le_of_ble_eq_true rfl) (Nat.le_of_ble_eq_true rfl) ?_
  refine W.eq (g2 := F0 m 4 ls []) rfl ?_
  refine lv_aload_n hx hb dX6_init_4 rfl (lv_at hl 0 rfl) ?_
  refine lv_bipush (v := 32) hx hb dX6_init_5 (by decide) ?_
  refine va_put (D := (dC, dI)) (ci := 9) (v := .int 32) (ty := .char) (C := RX6) (T := TX6) (N := 7) hx hb hts (fun w h => (List.mem_cons_of_mem _ (List.mem_append_right _ (List.mem_append_left _ h)))) tyX6 tyX6_ok nmX6 hown hK hP hD hS 0 rfl rfl 0 (by decide) (hts (.fieldLink RX6 9 "Sequencepoint$Outcome" "ending" "C") (by decide +kernel)) (fun _ h9 => h9) rfl (by decide +kernel) (by decide +kernel) (by decide +kernel) (Nat.le_of_ble_eq_true rfl) dX6_init_7 (fun H locs hP hD hS => ?_)
  have hP : va_P (dC, dI) vwCl [(h, .inr (9, [.int 32, .int 0, .int 0, .int 0, .int 0, .int 0, .null]))] H := hP
  have hD : va_D A [(h, .inr (9, [.int 32, .int 0, .int 0, .int 0, .int 0, .int 0, .null]))] := hD
  refine lv_aload_n hx hb dX6_init_10 rfl (lv_at hl 0 rfl) ?_
  refine lv_bipush (v := 32) hx hb dX6_init_11 (by decide) ?_
  refine va_put (D := (dC, dI)) (ci := 9) (v := .int 32) (ty := .char) (C := RX6) (T := TX6) (N := 7) hx hb hts (fun w h => (List.mem_cons_of_mem _ (List.mem_append_right _ (List.mem_append_left _ h)))) tyX6 tyX6_ok nmX6 hown hK hP hD hS 0 rfl rfl 1 (by decide) (hts (.fieldLink RX6 15 "Sequencepoint$Outcome" "kind" "C") (by decide +kernel)) (fun _ h9 => h9) rfl (by decide +kernel) (by decide +kernel) (by decide +kernel) (Nat.le_of_ble_eq_true rfl) dX6_init_13 (fun H locs hP hD hS => ?_)
  have hP : va_P (dC, dI) vwCl [(h, .inr (9, [.int 32, .int 32, .int 0, .int 0, .int 0, .int 0, .null]))] H := hP
  have hD : va_D A [(h, .inr (9, [.int 32, .int 32, .int 0, .int 0, .int 0, .int 0, .null]))] := hD
  refine lv_aload_n hx hb dX6_init_16 rfl (lv_at hl 0 rfl) ?_
  refine lv_bipush (v := 80) hx hb dX6_init_17 (by decide) ?_
  refine va_newa (atype := .char) (ty := .char) (a0 := (80, .inl (fun _ => (0 : Int32)))) (N' := 80) hx hb (hts (.arrayClass .char) (by decide +kernel)) rfl hK hP hD hS hA (fun _ => rfl) (by decide) (by decide) (Nat.le_of_ble_eq_true rfl) (Nat.le_of_ble_eq_true rfl) (Nat.le_of_ble_eq_true rfl) dX6_init_19 (fun q1 cA2 H hK hP hD hS => ?_)
  have hK : va_K (dC, dI) vwCl [(cA2, .char)] s := hK
  have hP : va_P (dC, dI) vwCl [(h, .inr (9, [.int 32, .int 32, .int 0, .int 0, .int 0, .int 0, .null])), (q1, .inl (cA2, 80, .inl (fun _ => (0 : Int32))))] H := hP
  have hD : va_D A [(h, .inr (9, [.int 32, .int 32, .int 0, .int 0, .int 0, .int 0, .null])), (q1, .inl (cA2, 80, .inl (fun _ => (0 : Int32))))] := hD
  refine W.widen (k := 1) (n := 80) (by decide) (by decide) ?_
  refine va_putF (D := (dC, dI)) (ci := 9) (v := .ref q1) (ty := (tyX6 6)) (C := RX6) (T := TX6) (N := 7) hx hb hts (fun w h => (List.mem_cons_of_mem _ (List.mem_append_right _ (List.mem_append_left _ h)))) tyX6 tyX6_ok nmX6 hown hK hP hD hS 0 rfl rfl 6 (by decide) (hts (.fieldLink RX6 18 "Sequencepoint$Outcome" "text" "[C") (by decide +kernel)) (fun _ h9 => h9) rfl hin rfl (by decide +kernel) rfl rfl (Nat.le_of_ble_eq_true rfl) dX6_init_21 (fun H locs hP hD hS => ?_)
  have hP : va_P (dC, dI) vwCl [(h, .inr (9, [.int 32, .int 32, .int 0, .int 0, .int 0, .int 0, .ref q1])), (q1, .inl (cA2, 80, .inl (fun _ => (0 : Int32))))] H := hP
  have hD : va_D A [(h, .inr (9, [.int 32, .int 32, .int 0, .int 0, .int 0, .int 0, .ref q1])), (q1, .inl (cA2, 80, .inl (fun _ => (0 : Int32))))] := hD
  have hP9 := hP.sub (ws' := [(h, .inr (9, [.int 32, .int 32, .int 0, .int 0, .int 0, .int 0, .ref q1]))]) [0] rfl
  have hD9 := hD.sub (ws' := [(h, .inr (9, [.int 32, .int 32, .int 0, .int 0, .int 0, .int 0, .ref q1]))]) [0] (by decide) rfl
  have hK9 := hK.sub (tys' := []) [] rfl
  exact W.vret hx hb hr (fun t ht hW => ⟨⟨(), rfl, trivial, ⟨q1, by rw [ht]; exact hP9, va_K.moved hW.alike hK9, hD9⟩⟩, hS.F ht⟩) hS.2.2 dX6_init_24

def wc_X7_init : List Cond := .code yX7_init cX7_init 1 none :: ([.methodLink RX7 3 objectInit, .instanceMethod objectInit, .code objectInit ⟨#[0xb1]⟩ 1 none, .classLink RX7 9 RX10, .fieldLink RX7 11 "Sequencepoint$Program" "variables" "[LSequencepoint$Variable;", .classLink RX7 17 RX0, .fieldLink RX7 19 "Sequencepoint$Program" "functions" "[LSequencepoint$Function;", .classLink RX7 23 RX8, .fieldLink RX7 25 "Sequencepoint$Program" "bodies" "[LSequencepoint$Statement;", .classLink RX7 29 RX3, .fieldLink RX7 31 "Sequencepoint$Program" "nodes" "[LSequencepoint$Node;", .fieldLink RX7 35 "Sequencepoint$Program" "statements" "[LSequencepoint$Statement;"] ++ (wsX70 ++ []))
set_option maxHeartbeats 4000000 in
set_option maxRecDepth 100000 in
theorem c_X7_init (l : Launch) (dC : Nat → ClassId) (dI : Nat → Nat → Nat) (h : Nat) (sz : Nat) : Met l yX7_init wc_X7_init ({ frames := 1, cells := 5, slots := 276, locals := 12 }) (va_Pc [.ref h] (fun U => U.heap.size = sz ∧ va_P (dC, dI) vwCl [(h, .inr (10, [.null, .null, .null, .null, .null, .int 0, .int 0, .int 0, .int 0]))] U.heap ∧ va_K (dC, dI) vwCl [] U ∧ va_D (fun _ => True) [(h, .inr (10, [.null, .null, .null, .null, .null, .int 0, .int 0, .int 0, .int 0]))] ∧ nw U)) (va_Qv (fun _ : Unit => True) (fun _ t => True) (va_A [(h, .inr (10, [.null, .null, .null, .null, .null, .int 0, .int 0, .int 0, .int 0]))] sz)) 5 276 (va_A [(h, .inr (10, [.null, .null, .null, .null, .null, .int 0, .int 0, .int 0, .int 0]))] sz) := by
  refine Met.ofW (cc := cX7_init) (maxL := 1) (ret := none) (by decide) rfl ?_
  intro p e s m args below meth c s₁ B hml hv
  obtain ⟨rfl, hsz, hP, hK, hD0, hH⟩ := hv
  have hx := B.exec
  have hb := B.bytes
  have hr := B.returns
  have hts := atoms_spec (ws := wc_X7_init) B.pre
  have hown : s.vm.findClass RX7 = some m.cls := findClass_of_methodNamed B.named
  have hlocks := B.notSynchronized
  have hin : meth.name = "<init>" := (name_of_methodNamed B.named B.method).1
  subst hsz
  have hD := hD0.self (sz := s.heap.size)
  generalize hAe : va_A [(h, .inr (10, [.null, .null, .null, .null, .null, .int 0, .int 0, .int 0, .int 0]))] s.heap.size = A at hD ⊢
  have hA : ∀ q : Nat, s.heap.size ≤ q → A q := fun q h => by rw [← hAe]; exact Or.inr h
  have hS : va_S A s.heap s.heap [] := va_S.rf
  have hP : va_P (dC, dI) vwCl [(h, .inr (10, [.null, .null, .null, .null, .null, .int 0, .int 0, .int 0, .int 0]))] s.heap := hP
  have hl := lv_entry ([.ref h]) (n := 1) (Nat.le_of_ble_eq_true rfl)
  rw [lg_entry_eq]
  generalize (lg_sl ([.ref h]) ++ List.replicate (1 - (lg_sl ([.ref h])).length) Slot.unset).toArray = ls at hl ⊢
  have hl : lv_has ls 1 [(0, .ref h)] := hl
  refine lv_aload_n hx hb dX7_init_0 rfl (lv_at hl 0 rfl) ?_
  refine W.objInit hx hb hown (hts (.methodLink RX7 3 objectInit) (by decide +kernel)) (hts (.instanceMethod objectInit) (by decide +kernel)) (hts (.code objectInit ⟨#[0xb1]⟩ 1 none) (by decide +kernel)) rfl (by rw [hml]; exact hl.1) rfl dX7_init_1 (Nat.le_of_ble_eq_true rfl) (Nat.le_of_ble_eq_true rfl) ?_
  refine W.eq (g2 := F0 m 4 ls []) rfl ?_
  refine lv_aload_n hx hb dX7_init_4 rfl (lv_at hl 0 rfl) ?_
  refine lv_bipush (v := 10) hx hb dX7_init_5 (by decide) ?_
  refine va_newq (C := RX10) (N' := 10) hx hb hown (hts (.classLink RX7 9 RX10) (by decide +kernel)) hH.2.1 hK hP hD hS hA (by decide) (by decide) (Nat.le_of_ble_eq_true rfl) (Nat.le_of_ble_eq_true rfl) (Nat.le_of_ble_eq_true rfl) dX7_init_7 (fun q1 cA2 H hK hP hD hS => ?_)
  have hK : va_K (dC, dI) vwCl [(cA2, .object "Sequencepoint$Variable")] s := hK
  have hP : va_P (dC, dI) vwCl [(h, .inr (10, [.null, .null, .null, .null, .null, .int 0, .int 0, .int 0, .int 0])), (q1, .inl (cA2, 10, .inr (.inr (.inr (.inr (fun _ => none))))))] H := hP
  have hD : va_D A [(h, .inr (10, [.null, .null, .null, .null, .null, .int 0, .int 0, .int 0, .int 0])), (q1, .inl (cA2, 10, .inr (.inr (.inr (.inr (fun _ => none))))))] := hD
  refine W.widen (k := 1) (n := 10) (by decide) (by decide) ?_
  refine va_putF (D := (dC, dI)) (ci := 10) (v := .ref q1) (ty := (tyX7 0)) (C := RX7) (T := TX7) (N := 9) hx hb hts (fun w h => (List.mem_cons_of_mem _ (List.mem_append_right _ (List.mem_append_left _ h)))) tyX7 tyX7_ok nmX7 hown hK hP hD hS 0 rfl rfl 0 (by decide) (hts (.fieldLink RX7 11 "Sequencepoint$Program" "variables" "[LSequencepoint$Variable;") (by decide +kernel)) (fun _ h9 => h9) rfl hin rfl (by decide +kernel) rfl rfl (Nat.le_of_ble_eq_true rfl) dX7_init_10 (fun H locs hP hD hS => ?_)
  have hP : va_P (dC, dI) vwCl [(h, .inr (10, [.ref q1, .null, .null, .null, .null, .int 0, .int 0, .int 0, .int 0])), (q1, .inl (cA2, 10, .inr (.inr (.inr (.inr (fun _ => none))))))] H := hP
  have hD : va_D A [(h, .inr (10, [.ref q1, .null, .null, .null, .null, .int 0, .int 0, .int 0, .int 0])), (q1, .inl (cA2, 10, .inr (.inr (.inr (.inr (fun _ => none))))))] := hD
  refine lv_aload_n hx hb dX7_init_13 rfl (lv_at hl 0 rfl) ?_
  refine lv_iconst (v := 3) hx hb dX7_init_14 (by decide) ?_
  refine va_newq (C := RX0) (N' := 3) hx hb hown (hts (.classLink RX7 17 RX0) (by decide +kernel)) hH.2.2.1 hK hP hD hS hA (by decide) (by decide) (Nat.le_of_ble_eq_true rfl) (Nat.le_of_ble_eq_true rfl) (Nat.le_of_ble_eq_true rfl) dX7_init_15 (fun q3 cA4 H hK hP hD hS => ?_)
  have hK : va_K (dC, dI) vwCl [(cA2, .object "Sequencepoint$Variable"), (cA4, .object "Sequencepoint$Function")] s := hK
  have hP : va_P (dC, dI) vwCl [(h, .inr (10, [.ref q1, .null, .null, .null, .null, .int 0, .int 0, .int 0, .int 0])), (q1, .inl (cA2, 10, .inr (.inr (.inr (.inr (fun _ => none)))))), (q3, .inl (cA4, 3, .inr (.inr (.inr (.inr (fun _ => none))))))] H := hP
  have hD : va_D A [(h, .inr (10, [.ref q1, .null, .null, .null, .null, .int 0, .int 0, .int 0, .int 0])), (q1, .inl (cA2, 10, .inr (.inr (.inr (.inr (fun _ => none)))))), (q3, .inl (cA4, 3, .inr (.inr (.inr (.inr (fun _ => none))))))] := hD
  refine W.widen (k := 2) (n := 13) (by decide) (by decide) ?_
  refine va_putF (D := (dC, dI)) (ci := 10) (v := .ref q3) (ty := (tyX7 1)) (C := RX7) (T := TX7) (N := 9) hx hb hts (fun w h => (List.mem_cons_of_mem _ (List.mem_append_right _ (List.mem_append_left _ h)))) tyX7 tyX7_ok nmX7 hown hK hP hD hS 0 rfl rfl 1 (by decide) (hts (.fieldLink RX7 19 "Sequencepoint$Program" "functions" "[LSequencepoint$Function;") (by decide +kernel)) (fun _ h9 => h9) rfl hin rfl (by decide +kernel) rfl rfl (Nat.le_of_ble_eq_true rfl) dX7_init_18 (fun H locs hP hD hS => ?_)
  have hP : va_P (dC, dI) vwCl [(h, .inr (10, [.ref q1, .ref q3, .null, .null, .null, .int 0, .int 0, .int 0, .int 0])), (q1, .inl (cA2, 10, .inr (.inr (.inr (.inr (fun _ => none)))))), (q3, .inl (cA4, 3, .inr (.inr (.inr (.inr (fun _ => none))))))] H := hP
  have hD : va_D A [(h, .inr (10, [.ref q1, .ref q3, .null, .null, .null, .int 0, .int 0, .int 0, .int 0])), (q1, .inl (cA2, 10, .inr (.inr (.inr (.inr (fun _ => none)))))), (q3, .inl (cA4, 3, .inr (.inr (.inr (.inr (fun _ => none))))))] := hD
  refine lv_aload_n hx hb dX7_init_21 rfl (lv_at hl 0 rfl) ?_
  refine lv_iconst (v := 3) hx hb dX7_init_22 (by decide) ?_
  refine va_newq (C := RX8) (N' := 3) hx hb hown (hts (.classLink RX7 23 RX8) (by decide +kernel)) hH.2.2.2.1 hK hP hD hS hA (by decide) (by decide) (Nat.le_of_ble_eq_true rfl) (Nat.le_of_ble_eq_true rfl) (Nat.le_of_ble_eq_true rfl) dX7_init_23 (fun q5 cA6 H hK hP hD hS => ?_)
  have hK : va_K (dC, dI) vwCl [(cA2, .object "Sequencepoint$Variable"), (cA4, .object "Sequencepoint$Function"), (cA6, .object "Sequencepoint$Statement")] s := hK
  have hP : va_P (dC, dI) vwCl [(h, .inr (10, [.ref q1, .ref q3, .null, .null, .null, .int 0, .int 0, .int 0, .int 0])), (q1, .inl (cA2, 10, .inr (.inr (.inr (.inr (fun _ => none)))))), (q3, .inl (cA4, 3, .inr (.inr (.inr (.inr (fun _ => none)))))), (q5, .inl (cA6, 3, .inr (.inr (.inr (.inr (fun _ => none))))))] H := hP
  have hD : va_D A [(h, .inr (10, [.ref q1, .ref q3, .null, .null, .null, .int 0, .int 0, .int 0, .int 0])), (q1, .inl (cA2, 10, .inr (.inr (.inr (.inr (fun _ => none)))))), (q3, .inl (cA4, 3, .inr (.inr (.inr (.inr (fun _ => none)))))), (q5, .inl (cA6, 3, .inr (.inr (.inr (.inr (fun _ => none))))))] := hD
  refine W.widen (k := 3) (n := 16) (by decide) (by decide) ?_
  refine va_putF (D := (dC, dI)) (ci := 10) (v := .ref q5) (ty := (tyX7 2)) (C := RX7) (T := TX7) (N := 9) hx hb hts (fun w h => (List.mem_cons_of_mem _ (List.mem_append_right _ (List.mem_append_left _ h)))) tyX7 tyX7_ok nmX7 hown hK hP hD hS 0 rfl rfl 2 (by decide) (hts (.fieldLink RX7 25 "Sequencepoint$Program" "bodies" "[LSequencepoint$Statement;") (by decide +kernel)) (fun _ h9 => h9) rfl hin rfl (by decide +kernel) rfl rfl (Nat.le_of_ble_eq_true rfl) dX7_init_26 (fun H locs hP hD hS => ?_)
  have hP : va_P (dC, dI) vwCl [(h, .inr (10, [.ref q1, .ref q3, .ref q5, .null, .null, .int 0, .int 0, .int 0, .int 0])), (q1, .inl (cA2, 10, .inr (.inr (.inr (.inr (fun _ => none)))))), (q3, .inl (cA4, 3, .inr (.inr (.inr (.inr (fun _ => none)))))), (q5, .inl (cA6, 3, .inr (.inr (.inr (.inr (fun _ => none))))))] H := hP
  have hD : va_D A [(h, .inr (10, [.ref q1, .ref q3, .ref q5, .null, .null, .int 0, .int 0, .int 0, .int 0])), (q1, .inl (cA2, 10, .inr (.inr (.inr (.inr (fun _ => none)))))), (q3, .inl (cA4, 3, .inr (.inr (.inr (.inr (fun _ => none)))))), (q5, .inl (cA6, 3, .inr (.inr (.inr (.inr (fun _ => none))))))] := hD
  refine lv_aload_n hx hb dX7_init_29 rfl (lv_at hl 0 rfl) ?_
  refine lv_bipush (v := 100) hx hb dX7_init_30 (by decide) ?_
  refine va_newq (C := RX3) (N' := 100) hx hb hown (hts (.classLink RX7 29 RX3) (by decide +kernel)) hH.2.2.2.2.1 hK hP hD hS hA (by decide) (by decide) (Nat.le_of_ble_eq_true rfl) (Nat.le_of_ble_eq_true rfl) (Nat.le_of_ble_eq_true rfl) dX7_init_32 (fun q7 cA8 H hK hP hD hS => ?_)
  have hK : va_K (dC, dI) vwCl [(cA2, .object "Sequencepoint$Variable"), (cA4, .object "Sequencepoint$Function"), (cA6, .object "Sequencepoint$Statement"), (cA8, .object "Sequencepoint$Node")] s := hK
  have hP : va_P (dC, dI) vwCl [(h, .inr (10, [.ref q1, .ref q3, .ref q5, .null, .null, .int 0, .int 0, .int 0, .int 0])), (q1, .inl (cA2, 10, .inr (.inr (.inr (.inr (fun _ => none)))))), (q3, .inl (cA4, 3, .inr (.inr (.inr (.inr (fun _ => none)))))), (q5, .inl (cA6, 3, .inr (.inr (.inr (.inr (fun _ => none)))))), (q7, .inl (cA8, 100, .inr (.inr (.inr (.inr (fun _ => none))))))] H := hP
  have hD : va_D A [(h, .inr (10, [.ref q1, .ref q3, .ref q5, .null, .null, .int 0, .int 0, .int 0, .int 0])), (q1, .inl (cA2, 10, .inr (.inr (.inr (.inr (fun _ => none)))))), (q3, .inl (cA4, 3, .inr (.inr (.inr (.inr (fun _ => none)))))), (q5, .inl (cA6, 3, .inr (.inr (.inr (.inr (fun _ => none)))))), (q7, .inl (cA8, 100, .inr (.inr (.inr (.inr (fun _ => none))))))] := hD
  refine W.widen (k := 4) (n := 116) (by decide) (by decide) ?_
  refine va_putF (D := (dC, dI)) (ci := 10) (v := .ref q7) (ty := (tyX7 3)) (C := RX7) (T := TX7) (N := 9) hx hb hts (fun w h => (List.mem_cons_of_mem _ (List.mem_append_right _ (List.mem_append_left _ h)))) tyX7 tyX7_ok nmX7 hown hK hP hD hS 0 rfl rfl 3 (by decide) (hts (.fieldLink RX7 31 "Sequencepoint$Program" "nodes" "[LSequencepoint$Node;") (by decide +kernel)) (fun _ h9 => h9) rfl hin rfl (by decide +kernel) rfl rfl (Nat.le_of_ble_eq_true rfl) dX7_init_35 (fun H locs hP hD hS => ?_)
  have hP : va_P (dC, dI) vwCl [(h, .inr (10, [.ref q1, .ref q3, .ref q5, .ref q7, .null, .int 0, .int 0, .int 0, .int 0])), (q1, .inl (cA2, 10, .inr (.inr (.inr (.inr (fun _ => none)))))), (q3, .inl (cA4, 3, .inr (.inr (.inr (.inr (fun _ => none)))))), (q5, .inl (cA6, 3, .inr (.inr (.inr (.inr (fun _ => none)))))), (q7, .inl (cA8, 100, .inr (.inr (.inr (.inr (fun _ => none))))))] H := hP
  have hD : va_D A [(h, .inr (10, [.ref q1, .ref q3, .ref q5, .ref q7, .null, .int 0, .int 0, .int 0, .int 0])), (q1, .inl (cA2, 10, .inr (.inr (.inr (.inr (fun _ => none)))))), (q3, .inl (cA4, 3, .inr (.inr (.inr (.inr (fun _ => none)))))), (q5, .inl (cA6, 3, .inr (.inr (.inr (.inr (fun _ => none)))))), (q7, .inl (cA8, 100, .inr (.inr (.inr (.inr (fun _ => none))))))] := hD
  refine lv_aload_n hx hb dX7_init_38 rfl (lv_at hl 0 rfl) ?_
  refine lv_bipush (v := 60) hx hb dX7_init_39 (by decide) ?_
  refine va_newq (C := RX8) (N' := 60) hx hb hown (hts (.classLink RX7 23 RX8) (by decide +kernel)) hH.2.2.2.1 hK hP hD hS hA (by decide) (by decide) (Nat.le_of_ble_eq_true rfl) (Nat.le_of_ble_eq_true rfl) (Nat.le_of_ble_eq_true rfl) dX7_init_41 (fun q9 cA10 H hK hP hD hS => ?_)
  have hK : va_K (dC, dI) vwCl [(cA2, .object "Sequencepoint$Variable"), (cA4, .object "Sequencepoint$Function"), (cA6, .object "Sequencepoint$Statement"), (cA8, .object "Sequencepoint$Node"), (cA10, .object "Sequencepoint$Statement")] s := hK
  have hP : va_P (dC, dI) vwCl [(h, .inr (10, [.ref q1, .ref q3, .ref q5, .ref q7, .null, .int 0, .int 0, .int 0, .int 0])), (q1, .inl (cA2, 10, .inr (.inr (.inr (.inr (fun _ => none)))))), (q3, .inl (cA4, 3, .inr (.inr (.inr (.inr (fun _ => none)))))), (q5, .inl (cA6, 3, .inr (.inr (.inr (.inr (fun _ => none)))))), (q7, .inl (cA8, 100, .inr (.inr (.inr (.inr (fun _ => none)))))), (q9, .inl (cA10, 60, .inr (.inr (.inr (.inr (fun _ => none))))))] H := hP
  have hD : va_D A [(h, .inr (10, [.ref q1, .ref q3, .ref q5, .ref q7, .null, .int 0, .int 0, .int 0, .int 0])), (q1, .inl (cA2, 10, .inr (.inr (.inr (.inr (fun _ => none)))))), (q3, .inl (cA4, 3, .inr (.inr (.inr (.inr (fun _ => none)))))), (q5, .inl (cA6, 3, .inr (.inr (.inr (.inr (fun _ => none)))))), (q7, .inl (cA8, 100, .inr (.inr (.inr (.inr (fun _ => none)))))), (q9, .inl (cA10, 60, .inr (.inr (.inr (.inr (fun _ => none))))))] := hD
  refine W.widen (k := 5) (n := 176) (by decide) (by decide) ?_
  refine va_putF (D := (dC, dI)) (ci := 10) (v := .ref q9) (ty := (tyX7 4)) (C := RX7) (T := TX7) (N := 9) hx hb hts (fun w h => (List.mem_cons_of_mem _ (List.mem_append_right _ (List.mem_append_left _ h)))) tyX7 tyX7_ok nmX7 hown hK hP hD hS 0 rfl rfl 4 (by decide) (hts (.fieldLink RX7 35 "Sequencepoint$Program" "statements" "[LSequencepoint$Statement;") (by decide +kernel)) (fun _ h9 => h9) rfl hin rfl (by decide +kernel) rfl rfl (Nat.le_of_ble_eq_true rfl) dX7_init_44 (fun H locs hP hD hS => ?_)
  have hP : va_P (dC, dI) vwCl [(h, .inr (10, [.ref q1, .ref q3, .ref q5, .ref q7, .ref q9, .int 0, .int 0, .int 0, .int 0])), (q1, .inl (cA2, 10, .inr (.inr (.inr (.inr (fun _ => none)))))), (q3, .inl (cA4, 3, .inr (.inr (.inr (.inr (fun _ => none)))))), (q5, .inl (cA6, 3, .inr (.inr (.inr (.inr (fun _ => none)))))), (q7, .inl (cA8, 100, .inr (.inr (.inr (.inr (fun _ => none)))))), (q9, .inl (cA10, 60, .inr (.inr (.inr (.inr (fun _ => none))))))] H := hP
  have hD : va_D A [(h, .inr (10, [.ref q1, .ref q3, .ref q5, .ref q7, .ref q9, .int 0, .int 0, .int 0, .int 0])), (q1, .inl (cA2, 10, .inr (.inr (.inr (.inr (fun _ => none)))))), (q3, .inl (cA4, 3, .inr (.inr (.inr (.inr (fun _ => none)))))), (q5, .inl (cA6, 3, .inr (.inr (.inr (.inr (fun _ => none)))))), (q7, .inl (cA8, 100, .inr (.inr (.inr (.inr (fun _ => none)))))), (q9, .inl (cA10, 60, .inr (.inr (.inr (.inr (fun _ => none))))))] := hD
  refine W.widen (k := 5) (n := 276) (by decide) (by decide) ?_
  exact W.vret hx hb hr (fun t ht hW => ⟨⟨(), rfl, trivial, trivial⟩, hS.F ht⟩) hS.2.2 dX7_init_47

def wc_X2_init : List Cond := .code yX2_init cX2_init 1 none :: ([.methodLink RX2 5 objectInit, .instanceMethod objectInit, .code objectInit ⟨#[0xb1]⟩ 1 none, .arrayClass .int, .fieldLink RX2 11 "Sequencepoint$Memory" "firstCell" "[I", .fieldLink RX2 15 "Sequencepoint$Memory" "lastCell" "[I", .arrayClass .boolean, .fieldLink RX2 18 "Sequencepoint$Memory" "isAlive" "[Z", .fieldLink RX2 22 "Sequencepoint$Memory" "owner" "[I", .arrayClass .long, .fieldLink RX2 25 "Sequencepoint$Memory" "values" "[J", .fieldLink RX2 29 "Sequencepoint$Memory" "isDetermined" "[Z", .fieldLink RX2 32 "Sequencepoint$Memory" "loggedCell" "[I", .fieldLink RX2 35 "Sequencepoint$Memory" "loggedWrite" "[Z"] ++ (wsX20 ++ []))
set_option maxHeartbeats 4000000 in
set_option maxRecDepth 100000 in
theorem c_X2_init (l : Launch) (dC : Nat → ClassId) (dI : Nat → Nat → Nat) (h : Nat) (sz : Nat) : Met l yX2_init wc_X2_init ({ frames := 1, cells := 8, slots := 6960, locals := 12 }) (va_Pc [.ref h] (fun U => U.heap.size = sz ∧ va_P (dC, dI) vwCl [(h, .inr (6, [.null, .null, .null, .null, .null, .null, .null, .null, .int 0, .int 0, .int 0]))] U.heap ∧ va_K (dC, dI) vwCl [] U ∧ va_D (fun _ => True) [(h, .inr (6, [.null, .null, .null, .null, .null, .null, .null, .null, .int 0, .int 0, .int 0]))])) (va_Qv (fun _ : Unit => True) (fun _ t => True) (va_A [(h, .inr (6, [.null, .null, .null, .null, .null, .null, .null, .null, .int 0, .int 0, .int 0]))] sz)) 8 6960 (va_A [(h, .inr (6, [.null, .null, .null, .null, .null, .null, .null, .null, .int 0, .int 0, .int 0]))] sz) := by
  refine Met.ofW (cc := cX2_init) (maxL := 1) (ret := none) (by decide) rfl ?_
  intro p e s m args below meth c s₁ B hml hv
  obtain ⟨rfl, hsz, hP, hK, hD0⟩ := hv
  have hx := B.exec
  have hb := B.bytes
  have hr := B.returns
  have hts := atoms_spec (ws := wc_X2_init) B.pre
  have hown : s.vm.findClass RX2 = some m.cls := findClass_of_methodNamed B.named
  have hlocks := B.notSynchronized
  have hin : meth.name = "<init>" := (name_of_methodNamed B.named B.method).1
  subst hsz
  have hD := hD0.self (sz := s.heap.size)
  generalize hAe : va_A [(h, .inr (6, [.null, .null, .null, .null, .null, .null, .null, .null, .int 0, .int 0, .int 0]))] s.heap.size = A at hD ⊢
  have hA : ∀ q : Nat, s.heap.size ≤ q → A q := fun q h => by rw [← hAe]; exact Or.inr h
  have hS : va_S A s.heap s.heap [] := va_S.rf
  have hP : va_P (dC, dI) vwCl [(h, .inr (6, [.null, .null, .null, .null, .null, .null, .null, .null, .int 0, .int 0, .int 0]))] s.heap := hP
  have hl := lv_entry ([.ref h]) (n := 1) (Nat.le_of_ble_eq_true rfl)
  rw [lg_entry_eq]
  generalize (lg_sl ([.ref h]) ++ List.replicate (1 - (lg_sl ([.ref h])).length) Slot.unset).toArray = ls at hl ⊢
  have hl : lv_has ls 1 [(0, .ref h)] := hl
  refine lv_aload_n hx hb dX2_init_0 rfl (lv_at hl 0 rfl) ?_
  refine W.objInit hx hb hown (hts (.methodLink RX2 5 objectInit) (by decide +kernel)) (hts (.instanceMethod objectInit) (by decide +kernel)) (hts (.code objectInit ⟨#[0xb1]⟩ 1 none) (by decide +kernel)) rfl (by rw [hml]; exact hl.1) rfl dX2_init_1 (Nat.le_of_ble_eq_true rfl) (Nat.le_of_ble_eq_true rfl) ?_
  refine W.eq (g2 := F0 m 4 ls []) rfl ?_
  refine lv_aload_n hx hb dX2_init_4 rfl (lv_at hl 0 rfl) ?_
  refine lv_sipush (v := 192) hx hb dX2_init_5 (by decide) ?_
  refine va_newa (atype := .int) (ty := .int) (a0 := (192, .inl (fun _ => (0 : Int32)))) (N' := 192) hx hb (hts (.arrayClass .int) (by decide +kernel)) rfl hK hP hD hS hA (fun _ => rfl) (by decide) (by decide) (Nat.le_of_ble_eq_true rfl) (Nat.le_of_ble_eq_true rfl) (Nat.le_of_ble_eq_true rfl) dX2_init_8 (fun q1 cA2 H hK hP hD hS => ?_)
  have hK : va_K (dC, dI) vwCl [(cA2, .int)] s := hK
  have hP : va_P (dC, dI) vwCl [(h, .inr (6, [.null, .null, .null, .null, .null, .null, .null, .null, .int 0, .int 0, .int 0])), (q1, .inl (cA2, 192, .inl (fun _ => (0 : Int32))))] H := hP
  have hD : va_D A [(h, .inr (6, [.null, .null, .null, .null, .null, .null, .null, .null, .int 0, .int 0, .int 0])), (q1, .inl (cA2, 192, .inl (fun _ => (0 : Int32))))] := hD
  refine W.widen (k := 1) (n := 192) (by decide) (by decide) ?_
  refine va_putF (D := (dC, dI)) (ci := 6) (v := .ref q1) (ty := (tyX2 0)) (C := RX2) (T := TX2) (N := 11) hx hb hts (fun w h => (List.mem_cons_of_mem _ (List.mem_append_right _ (List.mem_append_left _ h)))) tyX2 tyX2_ok nmX2 hown hK hP hD hS 0 rfl rfl 0 (by decide) (hts (.fieldLink RX2 11 "Sequencepoint$Memory" "firstCell" "[I") (by decide +kernel)) (fun _ h9 => h9) rfl hin rfl (by decide +kernel) rfl rfl (Nat.le_of_ble_eq_true rfl) dX2_init_10 (fun H locs hP hD hS => ?_)
  have hP : va_P (dC, dI) vwCl [(h, .inr (6, [.ref q1, .null, .null, .null, .null, .null, .null, .null, .int 0, .int 0, .int 0])), (q1, .inl (cA2, 192, .inl (fun _ => (0 : Int32))))] H := hP
  have hD : va_D A [(h, .inr (6, [.ref q1, .null, .null, .null, .null, .null, .null, .null, .int 0, .int 0, .int 0])), (q1, .inl (cA2, 192, .inl (fun _ => (0 : Int32))))] := hD
  refine lv_aload_n hx hb dX2_init_13 rfl (lv_at hl 0 rfl) ?_
  refine lv_sipush (v := 192) hx hb dX2_init_14 (by decide) ?_
  refine va_newa (atype := .int) (ty := .int) (a0 := (192, .inl (fun _ => (0 : Int32)))) (N' := 192) hx hb (hts (.arrayClass .int) (by decide +kernel)) rfl hK hP hD hS hA (fun _ => rfl) (by decide) (by decide) (Nat.le_of_ble_eq_true rfl) (Nat.le_of_ble_eq_true rfl) (Nat.le_of_ble_eq_true rfl) dX2_init_17 (fun q3 cA4 H hK hP hD hS => ?_)
  have hK : va_K (dC, dI) vwCl [(cA2, .int), (cA4, .int)] s := hK
  have hP : va_P (dC, dI) vwCl [(h, .inr (6, [.ref q1, .null, .null, .null, .null, .null, .null, .null, .int 0, .int 0, .int 0])), (q1, .inl (cA2, 192, .inl (fun _ => (0 : Int32)))), (q3, .inl (cA4, 192, .inl (fun _ => (0 : Int32))))] H := hP
  have hD : va_D A [(h, .inr (6, [.ref q1, .null, .null, .null, .null, .null, .null, .null, .int 0, .int 0, .int 0])), (q1, .inl (cA2, 192, .inl (fun _ => (0 : Int32)))), (q3, .inl (cA4, 192, .inl (fun _ => (0 : Int32))))] := hD
  refine W.widen (k := 2) (n := 384) (by decide) (by decide) ?_
  refine va_putF (D := (dC, dI)) (ci := 6) (v := .ref q3) (ty := (tyX2 1)) (C := RX2) (T := TX2) (N := 11) hx hb hts (fun w h => (List.mem_cons_of_mem _ (List.mem_append_right _ (List.mem_append_left _ h)))) tyX2 tyX2_ok nmX2 hown hK hP hD hS 0 rfl rfl 1 (by decide) (hts (.fieldLink RX2 15 "Sequencepoint$Memory" "lastCell" "[I") (by decide +kernel)) (fun _ h9 => h9) rfl hin rfl (by decide +kernel) rfl rfl (Nat.le_of_ble_eq_true rfl) dX2_init_19 (fun H locs hP hD hS => ?_)
  have hP : va_P (dC, dI) vwCl [(h, .inr (6, [.ref q1, .ref q3, .null, .null, .null, .null, .null, .null, .int 0, .int 0, .int 0])), (q1, .inl (cA2, 192, .inl (fun _ => (0 : Int32)))), (q3, .inl (cA4, 192, .inl (fun _ => (0 : Int32))))] H := hP
  have hD : va_D A [(h, .inr (6, [.ref q1, .ref q3, .null, .null, .null, .null, .null, .null, .int 0, .int 0, .int 0])), (q1, .inl (cA2, 192, .inl (fun _ => (0 : Int32)))), (q3, .inl (cA4, 192, .inl (fun _ => (0 : Int32))))] := hD
  refine lv_aload_n hx hb dX2_init_22 rfl (lv_at hl 0 rfl) ?_
  refine lv_sipush (v := 192) hx hb dX2_init_23 (by decide) ?_
  refine va_newa (atype := .boolean) (ty := .boolean) (a0 := (192, .inl (fun _ => (0 : Int32)))) (N' := 192) hx hb (hts (.arrayClass .boolean) (by decide +kernel)) rfl hK hP hD hS hA (fun _ => rfl) (by decide) (by decide) (Nat.le_of_ble_eq_true rfl) (Nat.le_of_ble_eq_true rfl) (Nat.le_of_ble_eq_true rfl) dX2_init_26 (fun q5 cA6 H hK hP hD hS => ?_)
  have hK : va_K (dC, dI) vwCl [(cA2, .int), (cA4, .int), (cA6, .boolean)] s := hK
  have hP : va_P (dC, dI) vwCl [(h, .inr (6, [.ref q1, .ref q3, .null, .null, .null, .null, .null, .null, .int 0, .int 0, .int 0])), (q1, .inl (cA2, 192, .inl (fun _ => (0 : Int32)))), (q3, .inl (cA4, 192, .inl (fun _ => (0 : Int32)))), (q5, .inl (cA6, 192, .inl (fun _ => (0 : Int32))))] H := hP
  have hD : va_D A [(h, .inr (6, [.ref q1, .ref q3, .null, .null, .null, .null, .null, .null, .int 0, .int 0, .int 0])), (q1, .inl (cA2, 192, .inl (fun _ => (0 : Int32)))), (q3, .inl (cA4, 192, .inl (fun _ => (0 : Int32)))), (q5, .inl (cA6, 192, .inl (fun _ => (0 : Int32))))] := hD
  refine W.widen (k := 3) (n := 576) (by decide) (by decide) ?_
  refine va_putF (D := (dC, dI)) (ci := 6) (v := .ref q5) (ty := (tyX2 2)) (C := RX2) (T := TX2) (N := 11) hx hb hts (fun w h => (List.mem_cons_of_mem _ (List.mem_append_right _ (List.mem_append_left _ h)))) tyX2 tyX2_ok nmX2 hown hK hP hD hS 0 rfl rfl 2 (by decide) (hts (.fieldLink RX2 18 "Sequencepoint$Memory" "isAlive" "[Z") (by decide +kernel)) (fun _ h9 => h9) rfl hin rfl (by decide +kernel) rfl rfl (Nat.le_of_ble_eq_true rfl) dX2_init_28 (fun H locs hP hD hS => ?_)
  have hP : va_P (dC, dI) vwCl [(h, .inr (6, [.ref q1, .ref q3, .ref q5, .null, .null, .null, .null, .null, .int 0, .int 0, .int 0])), (q1, .inl (cA2, 192, .inl (fun _ => (0 : Int32)))), (q3, .inl (cA4, 192, .inl (fun _ => (0 : Int32)))), (q5, .inl (cA6, 192, .inl (fun _ => (0 : Int32))))] H := hP
  have hD : va_D A [(h, .inr (6, [.ref q1, .ref q3, .ref q5, .null, .null, .null, .null, .null, .int 0, .int 0, .int 0])), (q1, .inl (cA2, 192, .inl (fun _ => (0 : Int32)))), (q3, .inl (cA4, 192, .inl (fun _ => (0 : Int32)))), (q5, .inl (cA6, 192, .inl (fun _ => (0 : Int32))))] := hD
  refine lv_aload_n hx hb dX2_init_31 rfl (lv_at hl 0 rfl) ?_
  refine lv_sipush (v := 1728) hx hb dX2_init_32 (by decide) ?_
  refine va_newa (atype := .int) (ty := .int) (a0 := (1728, .inl (fun _ => (0 : Int32)))) (N' := 1728) hx hb (hts (.arrayClass .int) (by decide +kernel)) rfl hK hP hD hS hA (fun _ => rfl) (by decide) (by decide) (Nat.le_of_ble_eq_true rfl) (Nat.le_of_ble_eq_true rfl) (Nat.le_of_ble_eq_true rfl) dX2_init_35 (fun q7 cA8 H hK hP hD hS => ?_)
  have hK : va_K (dC, dI) vwCl [(cA2, .int), (cA4, .int), (cA6, .boolean), (cA8, .int)] s := hK
  have hP : va_P (dC, dI) vwCl [(h, .inr (6, [.ref q1, .ref q3, .ref q5, .null, .null, .null, .null, .null, .int 0, .int 0, .int 0])), (q1, .inl (cA2, 192, .inl (fun _ => (0 : Int32)))), (q3, .inl (cA4, 192, .inl (fun _ => (0 : Int32)))), (q5, .inl (cA6, 192, .inl (fun _ => (0 : Int32)))), (q7, .inl (cA8, 1728, .inl (fun _ => (0 : Int32))))] H := hP
  have hD : va_D A [(h, .inr (6, [.ref q1, .ref q3, .ref q5, .null, .null, .null, .null, .null, .int 0, .int 0, .int 0])), (q1, .inl (cA2, 192, .inl (fun _ => (0 : Int32)))), (q3, .inl (cA4, 192, .inl (fun _ => (0 : Int32)))), (q5, .inl (cA6, 192, .inl (fun _ => (0 : Int32)))), (q7, .inl (cA8, 1728, .inl (fun _ => (0 : Int32))))] := hD
  refine W.widen (k := 4) (n := 2304) (by decide) (by decide) ?_
  refine va_putF (D := (dC, dI)) (ci := 6) (v := .ref q7) (ty := (tyX2 3)) (C := RX2) (T := TX2) (N := 11) hx hb hts (fun w h => (List.mem_cons_of_mem _ (List.mem_append_right _ (List.mem_append_left _ h)))) tyX2 tyX2_ok nmX2 hown hK hP hD hS 0 rfl rfl 3 (by decide) (hts (.fieldLink RX2 22 "Sequencepoint$Memory" "owner" "[I") (by decide +kernel)) (fun _ h9 => h9) rfl hin rfl (by decide +kernel) rfl rfl (Nat.le_of_ble_eq_true rfl) dX2_init_37 (fun H locs hP hD hS => ?_)
  have hP : va_P (dC, dI) vwCl [(h, .inr (6, [.ref q1, .ref q3, .ref q5, .ref q7, .null, .null, .null, .null, .int 0, .int 0, .int 0])), (q1, .inl (cA2, 192, .inl (fun _ => (0 : Int32)))), (q3, .inl (cA4, 192, .inl (fun _ => (0 : Int32)))), (q5, .inl (cA6, 192, .inl (fun _ => (0 : Int32)))), (q7, .inl (cA8, 1728, .inl (fun _ => (0 : Int32))))] H := hP
  have hD : va_D A [(h, .inr (6, [.ref q1, .ref q3, .ref q5, .ref q7, .null, .null, .null, .null, .int 0, .int 0, .int 0])), (q1, .inl (cA2, 192, .inl (fun _ => (0 : Int32)))), (q3, .inl (cA4, 192, .inl (fun _ => (0 : Int32)))), (q5, .inl (cA6, 192, .inl (fun _ => (0 : Int32)))), (q7, .inl (cA8, 1728, .inl (fun _ => (0 : Int32))))] := hD
  refine lv_aload_n hx hb dX2_init_40 rfl (lv_at hl 0 rfl) ?_
  refine lv_sipush (v := 1728) hx hb dX2_init_41 (by decide) ?_
  refine va_newa (atype := .long) (ty := .long) (a0 := (1728, .inr (.inl (fun _ => (0 : Int64))))) (N' := 1728) hx hb (hts (.arrayClass .long) (by decide +kernel)) rfl hK hP hD hS hA (fun _ => rfl) (by decide) (by decide) (Nat.le_of_ble_eq_true rfl) (Nat.le_of_ble_eq_true rfl) (Nat.le_of_ble_eq_true rfl) dX2_init_44 (fun q9 cA10 H hK hP hD hS => ?_)
  have hK : va_K (dC, dI) vwCl [(cA2, .int), (cA4, .int), (cA6, .boolean), (cA8, .int), (cA10, .long)] s := hK
  have hP : va_P (dC, dI) vwCl [(h, .inr (6, [.ref q1, .ref q3, .ref q5, .ref q7, .null, .null, .null, .null, .int 0, .int 0, .int 0])), (q1, .inl (cA2, 192, .inl (fun _ => (0 : Int32)))), (q3, .inl (cA4, 192, .inl (fun _ => (0 : Int32)))), (q5, .inl (cA6, 192, .inl (fun _ => (0 : Int32)))), (q7, .inl (cA8, 1728, .inl (fun _ => (0 : Int32)))), (q9, .inl (cA10, 1728, .inr (.inl (fun _ => (0 : Int64)))))] H := hP
  have hD : va_D A [(h, .inr (6, [.ref q1, .ref q3, .ref q5, .ref q7, .null, .null, .null, .null, .int 0, .int 0, .int 0])), (q1, .inl (cA2, 192, .inl (fun _ => (0 : Int32)))), (q3, .inl (cA4, 192, .inl (fun _ => (0 : Int32)))), (q5, .inl (cA6, 192, .inl (fun _ => (0 : Int32)))), (q7, .inl (cA8, 1728, .inl (fun _ => (0 : Int32)))), (q9, .inl (cA10, 1728, .inr (.inl (fun _ => (0 : Int64)))))] := hD
  refine W.widen (k := 5) (n := 4032) (by decide) (by decide) ?_
  refine va_putF (D := (dC, dI)) (ci := 6) (v := .ref q9) (ty := (tyX2 4)) (C := RX2) (T := TX2) (N := 11) hx hb hts (fun w h => (List.mem_cons_of_mem _ (List.mem_append_right _ (List.mem_append_left _ h)))) tyX2 tyX2_ok nmX2 hown hK hP hD hS 0 rfl rfl 4 (by decide) (hts (.fieldLink RX2 25 "Sequencepoint$Memory" "values" "[J") (by decide +kernel)) (fun _ h9 => h9) rfl hin rfl (by decide +kernel) rfl rfl (Nat.le_of_ble_eq_true rfl) dX2_init_46 (fun H locs hP hD hS => ?_)
  have hP : va_P (dC, dI) vwCl [(h, .inr (6, [.ref q1, .ref q3, .ref q5, .ref q7, .ref q9, .null, .null, .null, .int 0, .int 0, .int 0])), (q1, .inl (cA2, 192, .inl (fun _ => (0 : Int32)))), (q3, .inl (cA4, 192, .inl (fun _ => (0 : Int32)))), (q5, .inl (cA6, 192, .inl (fun _ => (0 : Int32)))), (q7, .inl (cA8, 1728, .inl (fun _ => (0 : Int32)))), (q9, .inl (cA10, 1728, .inr (.inl (fun _ => (0 : Int64)))))] H := hP
  have hD : va_D A [(h, .inr (6, [.ref q1, .ref q3, .ref q5, .ref q7, .ref q9, .null, .null, .null, .int 0, .int 0, .int 0])), (q1, .inl (cA2, 192, .inl (fun _ => (0 : Int32)))), (q3, .inl (cA4, 192, .inl (fun _ => (0 : Int32)))), (q5, .inl (cA6, 192, .inl (fun _ => (0 : Int32)))), (q7, .inl (cA8, 1728, .inl (fun _ => (0 : Int32)))), (q9, .inl (cA10, 1728, .inr (.inl (fun _ => (0 : Int64)))))] := hD
  refine lv_aload_n hx hb dX2_init_49 rfl (lv_at hl 0 rfl) ?_
  refine lv_sipush (v := 1728) hx hb dX2_init_50 (by decide) ?_
  refine va_newa (atype := .boolean) (ty := .boolean) (a0 := (1728, .inl (fun _ => (0 : Int32)))) (N' := 1728) hx hb (hts (.arrayClass .boolean) (by decide +kernel)) rfl hK hP hD hS hA (fun _ => rfl) (by decide) (by decide) (Nat.le_of_ble_eq_true rfl) (Nat.le_of_ble_eq_true rfl) (Nat.le_of_ble_eq_true rfl) dX2_init_53 (fun q11 cA12 H hK hP hD hS => ?_)
  have hK : va_K (dC, dI) vwCl [(cA2, .int), (cA4, .int), (cA6, .boolean), (cA8, .int), (cA10, .long), (cA12, .boolean)] s := hK
  have hP : va_P (dC, dI) vwCl [(h, .inr (6, [.ref q1, .ref q3, .ref q5, .ref q7, .ref q9, .null, .null, .null, .int 0, .int 0, .int 0])), (q1, .inl (cA2, 192, .inl (fun _ => (0 : Int32)))), (q3, .inl (cA4, 192, .inl (fun _ => (0 : Int32)))), (q5, .inl (cA6, 192, .inl (fun _ => (0 : Int32)))), (q7, .inl (cA8, 1728, .inl (fun _ => (0 : Int32)))), (q9, .inl (cA10, 1728, .inr (.inl (fun _ => (0 : Int64))))), (q11, .inl (cA12, 1728, .inl (fun _ => (0 : Int32))))] H := hP
  have hD : va_D A [(h, .inr (6, [.ref q1, .ref q3, .ref q5, .ref q7, .ref q9, .null, .null, .null, .int 0, .int 0, .int 0])), (q1, .inl (cA2, 192, .inl (fun _ => (0 : Int32)))), (q3, .inl (cA4, 192, .inl (fun _ => (0 : Int32)))), (q5, .inl (cA6, 192, .inl (fun _ => (0 : Int32)))), (q7, .inl (cA8, 1728, .inl (fun _ => (0 : Int32)))), (q9, .inl (cA10, 1728, .inr (.inl (fun _ => (0 : Int64))))), (q11, .inl (cA12, 1728, .inl (fun _ => (0 : Int32))))] := hD
  refine W.widen (k := 6) (n := 5760) (by decide) (by decide) ?_
  refine va_putF (D := (dC, dI)) (ci := 6) (v := .ref q11) (ty := (tyX2 5)) (C := RX2) (T := TX2) (N := 11) hx hb hts (fun w h => (List.mem_cons_of_mem _ (List.mem_append_right _ (List.mem_append_left _ h)))) tyX2 tyX2_ok nmX2 hown hK hP hD hS 0 rfl rfl 5 (by decide) (hts (.fieldLink RX2 29 "Sequencepoint$Memory" "isDetermined" "[Z") (by decide +kernel)) (fun _ h9 => h9) rfl hin rfl (by decide +kernel) rfl rfl (Nat.le_of_ble_eq_true rfl) dX2_init_55 (fun H locs hP hD hS => ?_)
  have hP : va_P (dC, dI) vwCl [(h, .inr (6, [.ref q1, .ref q3, .ref q5, .ref q7, .ref q9, .ref q11, .null, .null, .int 0, .int 0, .int 0])), (q1, .inl (cA2, 192, .inl (fun _ => (0 : Int32)))), (q3, .inl (cA4, 192, .inl (fun _ => (0 : Int32)))), (q5, .inl (cA6, 192, .inl (fun _ => (0 : Int32)))), (q7, .inl (cA8, 1728, .inl (fun _ => (0 : Int32)))), (q9, .inl (cA10, 1728, .inr (.inl (fun _ => (0 : Int64))))), (q11, .inl (cA12, 1728, .inl (fun _ => (0 : Int32))))] H := hP
  have hD : va_D A [(h, .inr (6, [.ref q1, .ref q3, .ref q5, .ref q7, .ref q9, .ref q11, .null, .null, .int 0, .int 0, .int 0])), (q1, .inl (cA2, 192, .inl (fun _ => (0 : Int32)))), (q3, .inl (cA4, 192, .inl (fun _ => (0 : Int32)))), (q5, .inl (cA6, 192, .inl (fun _ => (0 : Int32)))), (q7, .inl (cA8, 1728, .inl (fun _ => (0 : Int32)))), (q9, .inl (cA10, 1728, .inr (.inl (fun _ => (0 : Int64))))), (q11, .inl (cA12, 1728, .inl (fun _ => (0 : Int32))))] := hD
  refine lv_aload_n hx hb dX2_init_58 rfl (lv_at hl 0 rfl) ?_
  refine lv_sipush (v := 600) hx hb dX2_init_59 (by decide) ?_
  refine va_newa (atype := .int) (ty := .int) (a0 := (600, .inl (fun _ => (0 : Int32)))) (N' := 600) hx hb (hts (.arrayClass .int) (by decide +kernel)) rfl hK hP hD hS hA (fun _ => rfl) (by decide) (by decide) (Nat.le_of_ble_eq_true rfl) (Nat.le_of_ble_eq_true rfl) (Nat.le_of_ble_eq_true rfl) dX2_init_62 (fun q13 cA14 H hK hP hD hS => ?_)
  have hK : va_K (dC, dI) vwCl [(cA2, .int), (cA4, .int), (cA6, .boolean), (cA8, .int), (cA10, .long), (cA12, .boolean), (cA14, .int)] s := hK
  have hP : va_P (dC, dI) vwCl [(h, .inr (6, [.ref q1, .ref q3, .ref q5, .ref q7, .ref q9, .ref q11, .null, .null, .int 0, .int 0, .int 0])), (q1, .inl (cA2, 192, .inl (fun _ => (0 : Int32)))), (q3, .inl (cA4, 192, .inl (fun _ => (0 : Int32)))), (q5, .inl (cA6, 192, .inl (fun _ => (0 : Int32)))), (q7, .inl (cA8, 1728, .inl (fun _ => (0 : Int32)))), (q9, .inl (cA10, 1728, .inr (.inl (fun _ => (0 : Int64))))), (q11, .inl (cA12, 1728, .inl (fun _ => (0 : Int32)))), (q13, .inl (cA14, 600, .inl (fun _ => (0 : Int32))))] H := hP
  have hD : va_D A [(h, .inr (6, [.ref q1, .ref q3, .ref q5, .ref q7, .ref q9, .ref q11, .null, .null, .int 0, .int 0, .int 0])), (q1, .inl (cA2, 192, .inl (fun _ => (0 : Int32)))), (q3, .inl (cA4, 192, .inl (fun _ => (0 : Int32)))), (q5, .inl (cA6, 192, .inl (fun _ => (0 : Int32)))), (q7, .inl (cA8, 1728, .inl (fun _ => (0 : Int32)))), (q9, .inl (cA10, 1728, .inr (.inl (fun _ => (0 : Int64))))), (q11, .inl (cA12, 1728, .inl (fun _ => (0 : Int32)))), (q13, .inl (cA14, 600, .inl (fun _ => (0 : Int32))))] := hD
  refine W.widen (k := 7) (n := 6360) (by decide) (by decide) ?_
  refine va_putF (D := (dC, dI)) (ci := 6) (v := .ref q13) (ty := (tyX2 6)) (C := RX2) (T := TX2) (N := 11) hx hb hts (fun w h => (List.mem_cons_of_mem _ (List.mem_append_right _ (List.mem_append_left _ h)))) tyX2 tyX2_ok nmX2 hown hK hP hD hS 0 rfl rfl 6 (by decide) (hts (.fieldLink RX2 32 "Sequencepoint$Memory" "loggedCell" "[I") (by decide +kernel)) (fun _ h9 => h9) rfl hin rfl (by decide +kernel) rfl rfl (Nat.le_of_ble_eq_true rfl) dX2_init_64 (fun H locs hP hD hS => ?_)
  have hP : va_P (dC, dI) vwCl [(h, .inr (6, [.ref q1, .ref q3, .ref q5, .ref q7, .ref q9, .ref q11, .ref q13, .null, .int 0, .int 0, .int 0])), (q1, .inl (cA2, 192, .inl (fun _ => (0 : Int32)))), (q3, .inl (cA4, 192, .inl (fun _ => (0 : Int32)))), (q5, .inl (cA6, 192, .inl (fun _ => (0 : Int32)))), (q7, .inl (cA8, 1728, .inl (fun _ => (0 : Int32)))), (q9, .inl (cA10, 1728, .inr (.inl (fun _ => (0 : Int64))))), (q11, .inl (cA12, 1728, .inl (fun _ => (0 : Int32)))), (q13, .inl (cA14, 600, .inl (fun _ => (0 : Int32))))] H := hP
  have hD : va_D A [(h, .inr (6, [.ref q1, .ref q3, .ref q5, .ref q7, .ref q9, .ref q11, .ref q13, .null, .int 0, .int 0, .int 0])), (q1, .inl (cA2, 192, .inl (fun _ => (0 : Int32)))), (q3, .inl (cA4, 192, .inl (fun _ => (0 : Int32)))), (q5, .inl (cA6, 192, .inl (fun _ => (0 : Int32)))), (q7, .inl (cA8, 1728, .inl (fun _ => (0 : Int32)))), (q9, .inl (cA10, 1728, .inr (.inl (fun _ => (0 : Int64))))), (q11, .inl (cA12, 1728, .inl (fun _ => (0 : Int32)))), (q13, .inl (cA14, 600, .inl (fun _ => (0 : Int32))))] := hD
  refine lv_aload_n hx hb dX2_init_67 rfl (lv_at hl 0 rfl) ?_
  refine lv_sipush (v := 600) hx hb dX2_init_68 (by decide) ?_
  refine va_newa (atype := .boolean) (ty := .boolean) (a0 := (600, .inl (fun _ => (0 : Int32)))) (N' := 600) hx hb (hts (.arrayClass .boolean) (by decide +kernel)) rfl hK hP hD hS hA (fun _ => rfl) (by decide) (by decide) (Nat.le_of_ble_eq_true rfl) (Nat.le_of_ble_eq_true rfl) (Nat.le_of_ble_eq_true rfl) dX2_init_71 (fun q15 cA16 H hK hP hD hS => ?_)
  have hK : va_K (dC, dI) vwCl [(cA2, .int), (cA4, .int), (cA6, .boolean), (cA8, .int), (cA10, .long), (cA12, .boolean), (cA14, .int), (cA16, .boolean)] s := hK
  have hP : va_P (dC, dI) vwCl [(h, .inr (6, [.ref q1, .ref q3, .ref q5, .ref q7, .ref q9, .ref q11, .ref q13, .null, .int 0, .int 0, .int 0])), (q1, .inl (cA2, 192, .inl (fun _ => (0 : Int32)))), (q3, .inl (cA4, 192, .inl (fun _ => (0 : Int32)))), (q5, .inl (cA6, 192, .inl (fun _ => (0 : Int32)))), (q7, .inl (cA8, 1728, .inl (fun _ => (0 : Int32)))), (q9, .inl (cA10, 1728, .inr (.inl (fun _ => (0 : Int64))))), (q11, .inl (cA12, 1728, .inl (fun _ => (0 : Int32)))), (q13, .inl (cA14, 600, .inl (fun _ => (0 : Int32)))), (q15, .inl (cA16, 600, .inl (fun _ => (0 : Int32))))] H := hP
  have hD : va_D A [(h, .inr (6, [.ref q1, .ref q3, .ref q5, .ref q7, .ref q9, .ref q11, .ref q13, .null, .int 0, .int 0, .int 0])), (q1, .inl (cA2, 192, .inl (fun _ => (0 : Int32)))), (q3, .inl (cA4, 192, .inl (fun _ => (0 : Int32)))), (q5, .inl (cA6, 192, .inl (fun _ => (0 : Int32)))), (q7, .inl (cA8, 1728, .inl (fun _ => (0 : Int32)))), (q9, .inl (cA10, 1728, .inr (.inl (fun _ => (0 : Int64))))), (q11, .inl (cA12, 1728, .inl (fun _ => (0 : Int32)))), (q13, .inl (cA14, 600, .inl (fun _ => (0 : Int32)))), (q15, .inl (cA16, 600, .inl (fun _ => (0 : Int32))))] := hD
  refine W.widen (k := 8) (n := 6960) (by decide) (by decide) ?_
  refine va_putF (D := (dC, dI)) (ci := 6) (v := .ref q15) (ty := (tyX2 7)) (C := RX2) (T := TX2) (N := 11) hx hb hts (fun w h => (List.mem_cons_of_mem _ (List.mem_append_right _ (List.mem_append_left _ h)))) tyX2 tyX2_ok nmX2 hown hK hP hD hS 0 rfl rfl 7 (by decide) (hts (.fieldLink RX2 35 "Sequencepoint$Memory" "loggedWrite" "[Z") (by decide +kernel)) (fun _ h9 => h9) rfl hin rfl (by decide +kernel) rfl rfl (Nat.le_of_ble_eq_true rfl) dX2_init_73 (fun H locs hP hD hS => ?_)
  have hP : va_P (dC, dI) vwCl [(h, .inr (6, [.ref q1, .ref q3, .ref q5, .ref q7, .ref q9, .ref q11, .ref q13, .ref q15, .int 0, .int 0, .int 0])), (q1, .inl (cA2, 192, .inl (fun _ => (0 : Int32)))), (q3, .inl (cA4, 192, .inl (fun _ => (0 : Int32)))), (q5, .inl (cA6, 192, .inl (fun _ => (0 : Int32)))), (q7, .inl (cA8, 1728, .inl (fun _ => (0 : Int32)))), (q9, .inl (cA10, 1728, .inr (.inl (fun _ => (0 : Int64))))), (q11, .inl (cA12, 1728, .inl (fun _ => (0 : Int32)))), (q13, .inl (cA14, 600, .inl (fun _ => (0 : Int32)))), (q15, .inl (cA16, 600, .inl (fun _ => (0 : Int32))))] H := hP
  have hD : va_D A [(h, .inr (6, [.ref q1, .ref q3, .ref q5, .ref q7, .ref q9, .ref q11, .ref q13, .ref q15, .int 0, .int 0, .int 0])), (q1, .inl (cA2, 192, .inl (fun _ => (0 : Int32)))), (q3, .inl (cA4, 192, .inl (fun _ => (0 : Int32)))), (q5, .inl (cA6, 192, .inl (fun _ => (0 : Int32)))), (q7, .inl (cA8, 1728, .inl (fun _ => (0 : Int32)))), (q9, .inl (cA10, 1728, .inr (.inl (fun _ => (0 : Int64))))), (q11, .inl (cA12, 1728, .inl (fun _ => (0 : Int32)))), (q13, .inl (cA14, 600, .inl (fun _ => (0 : Int32)))), (q15, .inl (cA16, 600, .inl (fun _ => (0 : Int32))))] := hD
  exact W.vret hx hb hr (fun t ht hW => ⟨⟨(), rfl, trivial, trivial⟩, hS.F ht⟩) hS.2.2 dX2_init_76

def wc_X1_init : List Cond := .code yX1_init cX1_init 1 none :: ([.methodLink RX1 3 objectInit, .instanceMethod objectInit, .code objectInit ⟨#[0xb1]⟩ 1 none, .classLink RX1 9 RX2, .instantiable RX2 11, .initialized RX2, .instanceMethod yX2_init, .fieldLink RX1 12 "Sequencepoint$Machine" "memory" "LSequencepoint$Memory;", .arrayClass .int, .fieldLink RX1 18 "Sequencepoint$Machine" "rows" "[I"] ++ (wsX20 ++ (wc_X2_init ++ (wsX10 ++ []))))
set_option maxHeartbeats 4000000 in
set_option maxRecDepth 100000 in
theorem c_X1_init (l : Launch) (dC : Nat → ClassId) (dI : Nat → Nat → Nat) (h : Nat) (sz : Nat) : Met l yX1_init wc_X1_init ({ frames := 2, cells := 10, slots := 7061, locals := 32 }) (va_Pc [.ref h] (fun U => U.heap.size = sz ∧ va_P (dC, dI) vwCl [(h, .inr (5, [.null, .null, .null, .null, .int 0, .int 0, .int 0, .long 0]))] U.heap ∧ va_K (dC, dI) vwCl [] U ∧ va_D (fun _ => True) [(h, .inr (5, [.null, .null, .null, .null, .int 0, .int 0, .int 0, .long 0]))] ∧ nw U)) (va_Qv (fun _ : Unit => True) (fun _ t => True) (va_A [(h, .inr (5, [.null, .null, .null, .null, .int 0, .int 0, .int 0, .long 0]))] sz)) 10 7061 (va_A [(h, .inr (5, [.null, .null, .null, .null, .int 0, .int 0, .int 0, .long 0]))] sz) := by
  refine Met.ofW (cc := cX1_init) (maxL := 1) (ret := none) (by decide) rfl ?_
  intro p e s m args below meth c s₁ B hml hv
  obtain ⟨rfl, hsz, hP, hK, hD0, hH⟩ := hv
  have hx := B.exec
  have hb := B.bytes
  have hr := B.returns
  have hts := atoms_spec (ws := wc_X1_init) B.pre
  have hown : s.vm.findClass RX1 = some m.cls := findClass_of_methodNamed B.named
  have hlocks := B.notSynchronized
  have hin : meth.name = "<init>" := (name_of_methodNamed B.named B.method).1
  subst hsz
  have hD := hD0.self (sz := s.heap.size)
  generalize hAe : va_A [(h, .inr (5, [.null, .null, .null, .null, .int 0, .int 0, .int 0, .long 0]))] s.heap.size = A at hD ⊢
  have hA : ∀ q : Nat, s.heap.size ≤ q → A q := fun q h => by rw [← hAe]; exact Or.inr h
  have hS : va_S A s.heap s.heap [] := va_S.rf
  have hP : va_P (dC, dI) vwCl [(h, .inr (5, [.null, .null, .null, .null, .int 0, .int 0, .int 0, .long 0]))] s.heap := hP
  have hl := lv_entry ([.ref h]) (n := 1) (Nat.le_of_ble_eq_true rfl)
  rw [lg_entry_eq]
  generalize (lg_sl ([.ref h]) ++ List.replicate (1 - (lg_sl ([.ref h])).length) Slot.unset).toArray = ls at hl ⊢
  have hl : lv_has ls 1 [(0, .ref h)] := hl
  refine lv_aload_n hx hb dX1_init_0 rfl (lv_at hl 0 rfl) ?_
  refine W.objInit hx hb hown (hts (.methodLink RX1 3 objectInit) (by decide +kernel)) (hts (.instanceMethod objectInit) (by decide +kernel)) (hts (.code objectInit ⟨#[0xb1]⟩ 1 none) (by decide +kernel)) rfl (by rw [hml]; exact hl.1) rfl dX1_init_1 (Nat.le_of_ble_eq_true rfl) (Nat.le_of_ble_eq_true rfl) ?_
  refine W.eq (g2 := F0 m 4 ls []) rfl ?_
  refine lv_aload_n hx hb dX1_init_4 rfl (lv_at hl 0 rfl) ?_
  refine va_new (ci := 6) (fs := [.null, .null, .null, .null, .null, .null, .null, .null, .int 0, .int 0, .int 0]) (C := RX2) (T := TX2) (N := 11) hx hb hts (fun w h => (List.mem_cons_of_mem _ (List.mem_append_right _ (List.mem_append_left _ h)))) tyX2 tyX2_ok hown (hts (.classLink RX1 9 RX2) (by decide +kernel)) (hts (.instantiable RX2 11) (by decide +kernel)) (hts (.initialized RX2) (by decide +kernel)) hK hP hD hS hA rfl (fun j hj => by rcases (show j = 0 ∨ j = 1 ∨ j = 2 ∨ j = 3 ∨ j = 4 ∨ j = 5 ∨ j = 6 ∨ j = 7 ∨ j = 8 ∨ j = 9 ∨ j = 10 by omega) with rfl | rfl | rfl | rfl | rfl | rfl | rfl | rfl | rfl | rfl | rfl <;> rfl) (Nat.le_of_ble_eq_true rfl) (Nat.le_of_ble_eq_true rfl) dX1_init_5 (fun q1 H hP hD hS => ?_)
  have hP : va_P (dC, dI) vwCl [(h, .inr (5, [.null, .null, .null, .null, .int 0, .int 0, .int 0, .long 0])), (q1, .inr (6, [.null, .null, .null, .null, .null, .null, .null, .null, .int 0, .int 0, .int 0]))] H := hP
  have hD : va_D A [(h, .inr (5, [.null, .null, .null, .null, .int 0, .int 0, .int 0, .long 0])), (q1, .inr (6, [.null, .null, .null, .null, .null, .null, .null, .null, .int 0, .int 0, .int 0]))] := hD
  refine W.widen (k := 1) (n := 11) (by decide) (by decide) ?_
  refine lv_dup hx hb dX1_init_8 rfl ?_
  have hPc := hP.sub (ws' := [(q1, .inr (6, [.null, .null, .null, .null, .null, .null, .null, .null, .int 0, .int 0, .int 0]))]) [1] rfl
  have hKc := hK.sub (tys' := []) [] rfl
  have hDc := hD.sub (ws' := [(q1, .inr (6, [.null, .null, .null, .null, .null, .null, .null, .null, .int 0, .int 0, .int 0]))]) [1] (by decide) rfl
  have hFc := va_free (wc := [(q1, .inr (6, [.null, .null, .null, .null, .null, .null, .null, .null, .int 0, .int 0, .int 0]))]) hD hS hA [1] rfl
  refine va_callv (va_runIN (As := []) (rest := [.ref q1, .ref h]) ⟨hx, hb, hml, hown, hts⟩ (c_X2_init l dC dI q1 _) (⟨va_cnB (host := RX11) 0 hts (goodIn_sub (ws := wc_X2_init) (fun w h => (List.mem_cons_of_mem _ (List.mem_append_right _ (List.mem_append_right _ (List.mem_append_left _ h))))) (by decide +kernel)) rfl rfl rfl hH.1.2.2.2 (hts (.initialized RX2) (by decide +kernel)) (by decide +kernel) ⟨Nat.le_of_ble_eq_true rfl, Nat.le_of_ble_eq_true rfl⟩, rfl, (hts (.instanceMethod yX2_init) (by decide +kernel))⟩) ⟨fun a U g mk q => by obtain ⟨q0, q1, qP, qK, qD⟩ := q; exact ⟨q0, q1, qP, va_K.moved (u := U) (U := U.calling g mk a) (Vm.Alike.refl U.vm) qK, qD⟩, fun U hU hW => ⟨rfl, by rw [hU], by rw [hU]; exact hPc, va_K.moved hW.alike hKc, hDc.weaken (fun _ _ _ _ => trivial)⟩⟩ rfl rfl hl.1 rfl (lv_room (Nat.le_of_ble_eq_true rfl)) dX1_init_9 ⟨(Nat.le_of_ble_eq_true rfl), (Nat.le_of_ble_eq_true rfl)⟩) hS (fun q _ h => hFc q h) hFc (fun u t H1 locs ht hvm hw hB hz1 hk1 hS => ?_)
  have hP1 : va_P (dC, dI) vwCl [] H1 := fun k q h => by simp at h
  have hD1 : ∀ B : Nat → Prop, va_D B [] := fun B => ⟨fun i j p q h => by simp at h, fun k q h => by simp at h⟩
  try dsimp only at hw
  obtain ⟨hP, hD⟩ := va_join (wr := [(h, .inr (5, [.null, .null, .null, .null, .int 0, .int 0, .int 0, .long 0]))]) (w1 := []) hP hD [1] [0] rfl rfl (by decide) (by decide) hk1 hFc hP1 (hD1 _)
  generalize H1 = H at hP hS ⊢
  have hP : va_P (dC, dI) vwCl [(h, .inr (5, [.null, .null, .null, .null, .int 0, .int 0, .int 0, .long 0]))] H := hP
  have hD : va_D A [(h, .inr (5, [.null, .null, .null, .null, .int 0, .int 0, .int 0, .long 0]))] := hD
  refine va_putF (D := (dC, dI)) (ci := 5) (v := .ref q1) (ty := (tyX1 0)) (C := RX1) (T := TX1) (N := 8) hx hb hts (fun w h => (List.mem_cons_of_mem _ (List.mem_append_right _ (List.mem_append_right _ (List.mem_append_right _ (List.mem_append_left _ h)))))) tyX1 tyX1_ok nmX1 hown hK hP hD hS 0 rfl rfl 0 (by decide) (hts (.fieldLink RX1 12 "Sequencepoint$Machine" "memory" "LSequencepoint$Memory;") (by decide +kernel)) (fun _ h9 => h9) rfl hin rfl (by decide +kernel) rfl rfl (Nat.le_of_ble_eq_true rfl) dX1_init_12 (fun H locs hP hD hS => ?_)
  have hP : va_P (dC, dI) vwCl [(h, .inr (5, [.ref q1, .null, .null, .null, .int 0, .int 0, .int 0, .long 0]))] H := hP
  have hD : va_D A [(h, .inr (5, [.ref q1, .null, .null, .null, .int 0, .int 0, .int 0, .long 0]))] := hD
  refine lv_aload_n hx hb dX1_init_15 rfl (lv_at hl 0 rfl) ?_
  refine lv_bipush (v := 90) hx hb dX1_init_16 (by decide) ?_
  refine va_newa (atype := .int) (ty := .int) (a0 := (90, .inl (fun _ => (0 : Int32)))) (N' := 90) hx hb (hts (.arrayClass .int) (by decide +kernel)) rfl hK hP hD hS hA (fun _ => rfl) (by decide) (by decide) (Nat.le_of_ble_eq_true rfl) (Nat.le_of_ble_eq_true rfl) (Nat.le_of_ble_eq_true rfl) dX1_init_18 (fun q3 cA4 H hK hP hD hS => ?_)
  have hK : va_K (dC, dI) vwCl [(cA4, .int)] s := hK
  have hP : va_P (dC, dI) vwCl [(h, .inr (5, [.ref q1, .null, .null, .null, .int 0, .int 0, .int 0, .long 0])), (q3, .inl (cA4, 90, .inl (fun _ => (0 : Int32))))] H := hP
  have hD : va_D A [(h, .inr (5, [.ref q1, .null, .null, .null, .int 0, .int 0, .int 0, .long 0])), (q3, .inl (cA4, 90, .inl (fun _ => (0 : Int32))))] := hD
  refine W.widen (k := 10) (n := 7061) (by decide) (by decide) ?_
  refine va_putF (D := (dC, dI)) (ci := 5) (v := .ref q3) (ty := (tyX1 1)) (C := RX1) (T := TX1) (N := 8) hx hb hts (fun w h => (List.mem_cons_of_mem _ (List.mem_append_right _ (List.mem_append_right _ (List.mem_append_right _ (List.mem_append_left _ h)))))) tyX1 tyX1_ok nmX1 hown hK hP hD hS 0 rfl rfl 1 (by decide) (hts (.fieldLink RX1 18 "Sequencepoint$Machine" "rows" "[I") (by decide +kernel)) (fun _ h9 => h9) rfl hin rfl (by decide +kernel) rfl rfl (Nat.le_of_ble_eq_true rfl) dX1_init_20 (fun H locs hP hD hS => ?_)
  have hP : va_P (dC, dI) vwCl [(h, .inr (5, [.ref q1, .ref q3, .null, .null, .int 0, .int 0, .int 0, .long 0])), (q3, .inl (cA4, 90, .inl (fun _ => (0 : Int32))))] H := hP
  have hD : va_D A [(h, .inr (5, [.ref q1, .ref q3, .null, .null, .int 0, .int 0, .int 0, .long 0])), (q3, .inl (cA4, 90, .inl (fun _ => (0 : Int32))))] := hD
  exact W.vret hx hb hr (fun t ht hW => ⟨⟨(), rfl, trivial, trivial⟩, hS.F ht⟩) hS.2.2 dX1_init_23

def wc_X5_init : List Cond := .code yX5_init cX5_init 2 none :: ([.methodLink RX5 3 objectInit, .instanceMethod objectInit, .code objectInit ⟨#[0xb1]⟩ 1 none, .classLink RX5 9 RX8, .fieldLink RX5 11 "Sequencepoint$Optimiser" "bodies" "[LSequencepoint$Statement;", .classLink RX5 17 RX3, .fieldLink RX5 19 "Sequencepoint$Optimiser" "nodes" "[LSequencepoint$Node;", .fieldLink RX5 23 "Sequencepoint$Optimiser" "statements" "[LSequencepoint$Statement;", .fieldLink RX5 26 "Sequencepoint$Optimiser" "became" "[LSequencepoint$Node;", .fieldLink RX5 29 "Sequencepoint$Optimiser" "statementBecame" "[LSequencepoint$Statement;", .arrayClass .boolean, .fieldLink RX5 32 "Sequencepoint$Optimiser" "isUsed" "[Z", .fieldLink RX5 36 "Sequencepoint$Optimiser" "isStatementUsed" "[Z", .instantiable RX8 9, .initialized RX8, .methodLink RX5 42 yX8_init, .instanceMethod yX8_init, .instantiable RX3 14, .initialized RX3, .methodLink RX5 39 yX3_init, .instanceMethod yX3_init] ++ (wsX50 ++ (wsX80 ++ (wc_X8_init ++ (wsX30 ++ (wc_X3_init ++ []))))))
set_option maxHeartbeats 4000000 in
set_option maxRecDepth 100000 in
theorem c_X5_init (l : Launch) (dC : Nat → ClassId) (dI : Nat → Nat → Nat) (h : Nat) (sz : Nat) : Met l yX5_init wc_X5_init ({ frames := 2, cells := 167, slots := 2423, locals := 35 }) (va_Pc [.ref h] (fun U => U.heap.size = sz ∧ va_P (dC, dI) vwCl [(h, .inr (8, [.null, .int 0, .int 0, .null, .null, .null, .null, .null, .null]))] U.heap ∧ va_K (dC, dI) vwCl [] U ∧ va_D (fun _ => True) [(h, .inr (8, [.null, .int 0, .int 0, .null, .null, .null, .null, .null, .null]))] ∧ nw U)) (va_Qv (fun _ : Unit => True) (fun _ t => True) (va_A [(h, .inr (8, [.null, .int 0, .int 0, .null, .null, .null, .null, .null, .null]))] sz)) 167 2423 (va_A [(h, .inr (8, [.null, .int 0, .int 0, .null, .null, .null, .null, .null, .null]))] sz) := by
  refine Met.ofW (cc := cX5_init) (maxL := 2) (ret := none) (by decide) rfl ?_
  intro p e s m args below meth c s₁ B hml hv
  obtain ⟨rfl, hsz, hP, hK, hD0, hH⟩ := hv
  have hx := B.exec
  have hb := B.bytes
  have hr := B.returns
  have hts := atoms_spec (ws := wc_X5_init) B.pre
  have hown : s.vm.findClass RX5 = some m.cls := findClass_of_methodNamed B.named
  have hlocks := B.notSynchronized
  have hin : meth.name = "<init>" := (name_of_methodNamed B.named B.method).1
  subst hsz
  have hD := hD0.self (sz := s.heap.size)
  generalize hAe : va_A [(h, .inr (8, [.null, .int 0, .int 0, .null, .null, .null, .null, .null, .null]))] s.heap.size = A at hD ⊢
  have hA : ∀ q : Nat, s.heap.size ≤ q → A q := fun q h => by rw [← hAe]; exact Or.inr h
  have hS : va_S A s.heap s.heap [] := va_S.rf
  have hP : va_P (dC, dI) vwCl [(h, .inr (8, [.null, .int 0, .int 0, .null, .null, .null, .null, .null, .null]))] s.heap := hP
  have hl := lv_entry ([.ref h]) (n := 2) (Nat.le_of_ble_eq_true rfl)
  rw [lg_entry_eq]
  generalize (lg_sl ([.ref h]) ++ List.replicate (2 - (lg_sl ([.ref h])).length) Slot.unset).toArray = ls at hl ⊢
  have hl : lv_has ls 2 [(0, .ref h)] := hl
  refine lv_aload_n hx hb dX5_init_0 rfl (lv_at hl 0 rfl) ?_
  refine W.objInit hx hb hown (hts (.methodLink RX5 3 objectInit) (by decide +kernel)) (hts (.instanceMethod objectInit) (by decide +kernel)) (hts (.code objectInit ⟨#[0xb1]⟩ 1 none) (by decide +kernel)) rfl (by rw [hml]; exact hl.1) rfl dX5_init_1 (Nat.le_of_ble_eq_true rfl) (Nat.le_of_ble_eq_true rfl) ?_
  refine W.eq (g2 := F0 m 4 ls []) rfl ?_
  refine lv_aload_n hx hb dX5_init_4 rfl (lv_at hl 0 rfl) ?_
  refine lv_iconst (v := 3) hx hb dX5_init_5 (by decide) ?_
  refine va_newq (C := RX8) (N' := 3) hx hb hown (hts (.classLink RX5 9 RX8) (by decide +kernel)) hH.2.2.2.1 hK hP hD hS hA (by decide) (by decide) (Nat.le_of_ble_eq_true rfl) (Nat.le_of_ble_eq_true rfl) (Nat.le_of_ble_eq_true rfl) dX5_init_6 (fun q1 cA2 H hK hP hD hS => ?_)
  have hK : va_K (dC, dI) vwCl [(cA2, .object "Sequencepoint$Statement")] s := hK
  have hP : va_P (dC, dI) vwCl [(h, .inr (8, [.null, .int 0, .int 0, .null, .null, .null, .null, .null, .null])), (q1, .inl (cA2, 3, .inr (.inr (.inr (.inr (fun _ => none))))))] H := hP
  have hD : va_D A [(h, .inr (8, [.null, .int 0, .int 0, .null, .null, .null, .null, .null, .null])), (q1, .inl (cA2, 3, .inr (.inr (.inr (.inr (fun _ => none))))))] := hD
  refine W.widen (k := 1) (n := 3) (by decide) (by decide) ?_
  refine va_putF (D := (dC, dI)) (ci := 8) (v := .ref q1) (ty := (tyX5 0)) (C := RX5) (T := TX5) (N := 9) hx hb hts (fun w h => (List.mem_cons_of_mem _ (List.mem_append_right _ (List.mem_append_left _ h)))) tyX5 tyX5_ok nmX5 hown hK hP hD hS 0 rfl rfl 0 (by decide) (hts (.fieldLink RX5 11 "Sequencepoint$Optimiser" "bodies" "[LSequencepoint$Statement;") (by decide +kernel)) (fun _ h9 => h9) rfl hin rfl (by decide +kernel) rfl rfl (Nat.le_of_ble_eq_true rfl) dX5_init_9 (fun H locs hP hD hS => ?_)
  have hP : va_P (dC, dI) vwCl [(h, .inr (8, [.ref q1, .int 0, .int 0, .null, .null, .null, .null, .null, .null])), (q1, .inl (cA2, 3, .inr (.inr (.inr (.inr (fun _ => none))))))] H := hP
  have hD : va_D A [(h, .inr (8, [.ref q1, .int 0, .int 0, .null, .null, .null, .null, .null, .null])), (q1, .inl (cA2, 3, .inr (.inr (.inr (.inr (fun _ => none))))))] := hD
  refine lv_aload_n hx hb dX5_init_12 rfl (lv_at hl 0 rfl) ?_
  refine lv_bipush (v := 100) hx hb dX5_init_13 (by decide) ?_
  refine va_newq (C := RX3) (N' := 100) hx hb hown (hts (.classLink RX5 17 RX3) (by decide +kernel)) hH.2.2.2.2.1 hK hP hD hS hA (by decide) (by decide) (Nat.le_of_ble_eq_true rfl) (Nat.le_of_ble_eq_true rfl) (Nat.le_of_ble_eq_true rfl) dX5_init_15 (fun q3 cA4 H hK hP hD hS => ?_)
  have hK : va_K (dC, dI) vwCl [(cA2, .object "Sequencepoint$Statement"), (cA4, .object "Sequencepoint$Node")] s := hK
  have hP : va_P (dC, dI) vwCl [(h, .inr (8, [.ref q1, .int 0, .int 0, .null, .null, .null, .null, .null, .null])), (q1, .inl (cA2, 3, .inr (.inr (.inr (.inr (fun _ => none)))))), (q3, .inl (cA4, 100, .inr (.inr (.inr (.inr (fun _ => none))))))] H := hP
  have hD : va_D A [(h, .inr (8, [.ref q1, .int 0, .int 0, .null, .null, .null, .null, .null, .null])), (q1, .inl (cA2, 3, .inr (.inr (.inr (.inr (fun _ => none)))))), (q3, .inl (cA4, 100, .inr (.inr (.inr (.inr (fun _ => none))))))] := hD
  refine W.widen (k := 2) (n := 103) (by decide) (by decide) ?_
  refine va_putF (D := (dC, dI)) (ci := 8) (v := .ref q3) (ty := (tyX5 3)) (C := RX5) (T := TX5) (N := 9) hx hb hts (fun w h => (List.mem_cons_of_mem _ (List.mem_append_right _ (List.mem_append_left _ h)))) tyX5 tyX5_ok nmX5 hown hK hP hD hS 0 rfl rfl 3 (by decide) (hts (.fieldLink RX5 19 "Sequencepoint$Optimiser" "nodes" "[LSequencepoint$Node;") (by decide +kernel)) (fun _ h9 => h9) rfl hin rfl (by decide +kernel) rfl rfl (Nat.le_of_ble_eq_true rfl) dX5_init_18 (fun H locs hP hD hS => ?_)
  have hP : va_P (dC, dI) vwCl [(h, .inr (8, [.ref q1, .int 0, .int 0, .ref q3, .null, .null, .null, .null, .null])), (q1, .inl (cA2, 3, .inr (.inr (.inr (.inr (fun _ => none)))))), (q3, .inl (cA4, 100, .inr (.inr (.inr (.inr (fun _ => none))))))] H := hP
  have hD : va_D A [(h, .inr (8, [.ref q1, .int 0, .int 0, .ref q3, .null, .null, .null, .null, .null])), (q1, .inl (cA2, 3, .inr (.inr (.inr (.inr (fun _ => none)))))), (q3, .inl (cA4, 100, .inr (.inr (.inr (.inr (fun _ => none))))))] := hD
  refine lv_aload_n hx hb dX5_init_21 rfl (lv_at hl 0 rfl) ?_
  refine lv_bipush (v := 60) hx hb dX5_init_22 (by decide) ?_
  refine va_newq (C := RX8) (N' := 60) hx hb hown (hts (.classLink RX5 9 RX8) (by decide +kernel)) hH.2.2.2.1 hK hP hD hS hA (by decide) (by decide) (Nat.le_of_ble_eq_true rfl) (Nat.le_of_ble_eq_true rfl) (Nat.le_of_ble_eq_true rfl) dX5_init_24 (fun q5 cA6 H hK hP hD hS => ?_)
  have hK : va_K (dC, dI) vwCl [(cA2, .object "Sequencepoint$Statement"), (cA4, .object "Sequencepoint$Node"), (cA6, .object "Sequencepoint$Statement")] s := hK
  have hP : va_P (dC, dI) vwCl [(h, .inr (8, [.ref q1, .int 0, .int 0, .ref q3, .null, .null, .null, .null, .null])), (q1, .inl (cA2, 3, .inr (.inr (.inr (.inr (fun _ => none)))))), (q3, .inl (cA4, 100, .inr (.inr (.inr (.inr (fun _ => none)))))), (q5, .inl (cA6, 60, .inr (.inr (.inr (.inr (fun _ => none))))))] H := hP
  have hD : va_D A [(h, .inr (8, [.ref q1, .int 0, .int 0, .ref q3, .null, .null, .null, .null, .null])), (q1, .inl (cA2, 3, .inr (.inr (.inr (.inr (fun _ => none)))))), (q3, .inl (cA4, 100, .inr (.inr (.inr (.inr (fun _ => none)))))), (q5, .inl (cA6, 60, .inr (.inr (.inr (.inr (fun _ => none))))))] := hD
  refine W.widen (k := 3) (n := 163) (by decide) (by decide) ?_
  refine va_putF (D := (dC, dI)) (ci := 8) (v := .ref q5) (ty := (tyX5 4)) (C := RX5) (T := TX5) (N := 9) hx hb hts (fun w h => (List.mem_cons_of_mem _ (List.mem_append_right _ (List.mem_append_left _ h)))) tyX5 tyX5_ok nmX5 hown hK hP hD hS 0 rfl rfl 4 (by decide) (hts (.fieldLink RX5 23 "Sequencepoint$Optimiser" "statements" "[LSequencepoint$Statement;") (by decide +kernel)) (fun _ h9 => h9) rfl hin rfl (by decide +kernel) rfl rfl (Nat.le_of_ble_eq_true rfl) dX5_init_27 (fun H locs hP hD hS => ?_)
  have hP : va_P (dC, dI) vwCl [(h, .inr (8, [.ref q1, .int 0, .int 0, .ref q3, .ref q5, .null, .null, .null, .null])), (q1, .inl (cA2, 3, .inr (.inr (.inr (.inr (fun _ => none)))))), (q3, .inl (cA4, 100, .inr (.inr (.inr (.inr (fun _ => none)))))), (q5, .inl (cA6, 60, .inr (.inr (.inr (.inr (fun _ => none))))))] H := hP
  have hD : va_D A [(h, .inr (8, [.ref q1, .int 0, .int 0, .ref q3, .ref q5, .null, .null, .null, .null])), (q1, .inl (cA2, 3, .inr (.inr (.inr (.inr (fun _ => none)))))), (q3, .inl (cA4, 100, .inr (.inr (.inr (.inr (fun _ => none)))))), (q5, .inl (cA6, 60, .inr (.inr (.inr (.inr (fun _ => none))))))] := hD
  refine lv_aload_n hx hb dX5_init_30 rfl (lv_at hl 0 rfl) ?_
  refine lv_bipush (v := 100) hx hb dX5_init_31 (by decide) ?_
  refine va_newq (C := RX3) (N' := 100) hx hb hown (hts (.classLink RX5 17 RX3) (by decide +kernel)) hH.2.2.2.2.1 hK hP hD hS hA (by decide) (by decide) (Nat.le_of_ble_eq_true rfl) (Nat.le_of_ble_eq_true rfl) (Nat.le_of_ble_eq_true rfl) dX5_init_33 (fun q7 cA8 H hK hP hD hS => ?_)
  have hK : va_K (dC, dI) vwCl [(cA2, .object "Sequencepoint$Statement"), (cA4, .object "Sequencepoint$Node"), (cA6, .object "Sequencepoint$Statement"), (cA8, .object "Sequencepoint$Node")] s := hK
  have hP : va_P (dC, dI) vwCl [(h, .inr (8, [.ref q1, .int 0, .int 0, .ref q3, .ref q5, .null, .null, .null, .null])), (q1, .inl (cA2, 3, .inr (.inr (.inr (.inr (fun _ => none)))))), (q3, .inl (cA4, 100, .inr (.inr (.inr (.inr (fun _ => none)))))), (q5, .inl (cA6, 60, .inr (.inr (.inr (.inr (fun _ => none)))))), (q7, .inl (cA8, 100, .inr (.inr (.inr (.inr (fun _ => none))))))] H := hP
  have hD : va_D A [(h, .inr (8, [.ref q1, .int 0, .int 0, .ref q3, .ref q5, .null, .null, .null, .null])), (q1, .inl (cA2, 3, .inr (.inr (.inr (.inr (fun _ => none)))))), (q3, .inl (cA4, 100, .inr (.inr (.inr (.inr (fun _ => none)))))), (q5, .inl (cA6, 60, .inr (.inr (.inr (.inr (fun _ => none)))))), (q7, .inl (cA8, 100, .inr (.inr (.inr (.inr (fun _ => none))))))] := hD
  refine W.widen (k := 4) (n := 263) (by decide) (by decide) ?_
  refine va_putF (D := (dC, dI)) (ci := 8) (v := .ref q7) (ty := (tyX5 5)) (C := RX5) (T := TX5) (N := 9) hx hb hts (fun w h => (List.mem_cons_of_mem _ (List.mem_append_right _ (List.mem_append_left _ h)))) tyX5 tyX5_ok nmX5 hown hK hP hD hS 0 rfl rfl 5 (by decide) (hts (.fieldLink RX5 26 "Sequencepoint$Optimiser" "became" "[LSequencepoint$Node;") (by decide +kernel)) (fun _ h9 => h9) rfl hin rfl (by decide +kernel) rfl rfl (Nat.le_of_ble_eq_true rfl) dX5_init_36 (fun H locs hP hD hS => ?_)
  have hP : va_P (dC, dI) vwCl [(h, .inr (8, [.ref q1, .int 0, .int 0, .ref q3, .ref q5, .ref q7, .null, .null, .null])), (q1, .inl (cA2, 3, .inr (.inr (.inr (.inr (fun _ => none)))))), (q3, .inl (cA4, 100, .inr (.inr (.inr (.inr (fun _ => none)))))), (q5, .inl (cA6, 60, .inr (.inr (.inr (.inr (fun _ => none)))))), (q7, .inl (cA8, 100, .inr (.inr (.inr (.inr (fun _ => none))))))] H := hP
  have hD : va_D A [(h, .inr (8, [.ref q1, .int 0, .int 0, .ref q3, .ref q5, .ref q7, .null, .null, .null])), (q1, .inl (cA2, 3, .inr (.inr (.inr (.inr (fun _ => none)))))), (q3, .inl (cA4, 100, .inr (.inr (.inr (.inr (fun _ => none)))))), (q5, .inl (cA6, 60, .inr (.inr (.inr (.inr (fun _ => none)))))), (q7, .inl (cA8, 100, .inr (.inr (.inr (.inr (fun _ => none))))))] := hD
  refine lv_aload_n hx hb dX5_init_39 rfl (lv_at hl 0 rfl) ?_
  refine lv_bipush (v := 60) hx hb dX5_init_40 (by decide) ?_
  refine va_newq (C := RX8) (N' := 60) hx hb hown (hts (.classLink RX5 9 RX8) (by decide +kernel)) hH.2.2.2.1 hK hP hD hS hA (by decide) (by decide) (Nat.le_of_ble_eq_true rfl) (Nat.le_of_ble_eq_true rfl) (Nat.le_of_ble_eq_true rfl) dX5_init_42 (fun q9 cA10 H hK hP hD hS => ?_)
  have hK : va_K (dC, dI) vwCl [(cA2, .object "Sequencepoint$Statement"), (cA4, .object "Sequencepoint$Node"), (cA6, .object "Sequencepoint$Statement"), (cA8, .object "Sequencepoint$Node"), (cA10, .object "Sequencepoint$Statement")] s := hK
  have hP : va_P (dC, dI) vwCl [(h, .inr (8, [.ref q1, .int 0, .int 0, .ref q3, .ref q5, .ref q7, .null, .null, .null])), (q1, .inl (cA2, 3, .inr (.inr (.inr (.inr (fun _ => none)))))), (q3, .inl (cA4, 100, .inr (.inr (.inr (.inr (fun _ => none)))))), (q5, .inl (cA6, 60, .inr (.inr (.inr (.inr (fun _ => none)))))), (q7, .inl (cA8, 100, .inr (.inr (.inr (.inr (fun _ => none)))))), (q9, .inl (cA10, 60, .inr (.inr (.inr (.inr (fun _ => none))))))] H := hP
  have hD : va_D A [(h, .inr (8, [.ref q1, .int 0, .int 0, .ref q3, .ref q5, .ref q7, .null, .null, .null])), (q1, .inl (cA2, 3, .inr (.inr (.inr (.inr (fun _ => none)))))), (q3, .inl (cA4, 100, .inr (.inr (.inr (.inr (fun _ => none)))))), (q5, .inl (cA6, 60, .inr (.inr (.inr (.inr (fun _ => none)))))), (q7, .inl (cA8, 100, .inr (.inr (.inr (.inr (fun _ => none)))))), (q9, .inl (cA10, 60, .inr (.inr (.inr (.inr (fun _ => none))))))] := hD
  refine W.widen (k := 5) (n := 323) (by decide) (by decide) ?_
  refine va_putF (D := (dC, dI)) (ci := 8) (v := .ref q9) (ty := (tyX5 6)) (C := RX5) (T := TX5) (N := 9) hx hb hts (fun w h => (List.mem_cons_of_mem _ (List.mem_append_right _ (List.mem_append_left _ h)))) tyX5 tyX5_ok nmX5 hown hK hP hD hS 0 rfl rfl 6 (by decide) (hts (.fieldLink RX5 29 "Sequencepoint$Optimiser" "statementBecame" "[LSequencepoint$Statement;") (by decide +kernel)) (fun _ h9 => h9) rfl hin rfl (by decide +kernel) rfl rfl (Nat.le_of_ble_eq_true rfl) dX5_init_45 (fun H locs hP hD hS => ?_)
  have hP : va_P (dC, dI) vwCl [(h, .inr (8, [.ref q1, .int 0, .int 0, .ref q3, .ref q5, .ref q7, .ref q9, .null, .null])), (q1, .inl (cA2, 3, .inr (.inr (.inr (.inr (fun _ => none)))))), (q3, .inl (cA4, 100, .inr (.inr (.inr (.inr (fun _ => none)))))), (q5, .inl (cA6, 60, .inr (.inr (.inr (.inr (fun _ => none)))))), (q7, .inl (cA8, 100, .inr (.inr (.inr (.inr (fun _ => none)))))), (q9, .inl (cA10, 60, .inr (.inr (.inr (.inr (fun _ => none))))))] H := hP
  have hD : va_D A [(h, .inr (8, [.ref q1, .int 0, .int 0, .ref q3, .ref q5, .ref q7, .ref q9, .null, .null])), (q1, .inl (cA2, 3, .inr (.inr (.inr (.inr (fun _ => none)))))), (q3, .inl (cA4, 100, .inr (.inr (.inr (.inr (fun _ => none)))))), (q5, .inl (cA6, 60, .inr (.inr (.inr (.inr (fun _ => none)))))), (q7, .inl (cA8, 100, .inr (.inr (.inr (.inr (fun _ => none)))))), (q9, .inl (cA10, 60, .inr (.inr (.inr (.inr (fun _ => none))))))] := hD
  refine lv_aload_n hx hb dX5_init_48 rfl (lv_at hl 0 rfl) ?_
  refine lv_bipush (v := 100) hx hb dX5_init_49 (by decide) ?_
  refine va_newa (atype := .boolean) (ty := .boolean) (a0 := (100, .inl (fun _ => (0 : Int32)))) (N' := 100) hx hb (hts (.arrayClass .boolean) (by decide +kernel)) rfl hK hP hD hS hA (fun _ => rfl) (by decide) (by decide) (Nat.le_of_ble_eq_true rfl) (Nat.le_of_ble_eq_true rfl) (Nat.le_of_ble_eq_true rfl) dX5_init_51 (fun q11 cA12 H hK hP hD hS => ?_)
  have hK : va_K (dC, dI) vwCl [(cA2, .object "Sequencepoint$Statement"), (cA4, .object "Sequencepoint$Node"), (cA6, .object "Sequencepoint$Statement"), (cA8, .object "Sequencepoint$Node"), (cA10, .object "Sequencepoint$Statement"), (cA12, .boolean)] s := hK
  have hP : va_P (dC, dI) vwCl [(h, .inr (8, [.ref q1, .int 0, .int 0, .ref q3, .ref q5, .ref q7, .ref q9, .null, .null])), (q1, .inl (cA2, 3, .inr (.inr (.inr (.inr (fun _ => none)))))), (q3, .inl (cA4, 100, .inr (.inr (.inr (.inr (fun _ => none)))))), (q5, .inl (cA6, 60, .inr (.inr (.inr (.inr (fun _ => none)))))), (q7, .inl (cA8, 100, .inr (.inr (.inr (.inr (fun _ => none)))))), (q9, .inl (cA10, 60, .inr (.inr (.inr (.inr (fun _ => none)))))), (q11, .inl (cA12, 100, .inl (fun _ => (0 : Int32))))] H := hP
  have hD : va_D A [(h, .inr (8, [.ref q1, .int 0, .int 0, .ref q3, .ref q5, .ref q7, .ref q9, .null, .null])), (q1, .inl (cA2, 3, .inr (.inr (.inr (.inr (fun _ => none)))))), (q3, .inl (cA4, 100, .inr (.inr (.inr (.inr (fun _ => none)))))), (q5, .inl (cA6, 60, .inr (.inr (.inr (.inr (fun _ => none)))))), (q7, .inl (cA8, 100, .inr (.inr (.inr (.inr (fun _ => none)))))), (q9, .inl (cA10, 60, .inr (.inr (.inr (.inr (fun _ => none)))))), (q11, .inl (cA12, 100, .inl (fun _ => (0 : Int32))))] := hD
  refine W.widen (k := 6) (n := 423) (by decide) (by decide) ?_
  refine va_putF (D := (dC, dI)) (ci := 8) (v := .ref q11) (ty := (tyX5 7)) (C := RX5) (T := TX5) (N := 9) hx hb hts (fun w h => (List.mem_cons_of_mem _ (List.mem_append_right _ (List.mem_append_left _ h)))) tyX5 tyX5_ok nmX5 hown hK hP hD hS 0 rfl rfl 7 (by decide) (hts (.fieldLink RX5 32 "Sequencepoint$Optimiser" "isUsed" "[Z") (by decide +kernel)) (fun _ h9 => h9) rfl hin rfl (by decide +kernel) rfl rfl (Nat.le_of_ble_eq_true rfl) dX5_init_53 (fun H locs hP hD hS => ?_)
  have hP : va_P (dC, dI) vwCl [(h, .inr (8, [.ref q1, .int 0, .int 0, .ref q3, .ref q5, .ref q7, .ref q9, .ref q11, .null])), (q1, .inl (cA2, 3, .inr (.inr (.inr (.inr (fun _ => none)))))), (q3, .inl (cA4, 100, .inr (.inr (.inr (.inr (fun _ => none)))))), (q5, .inl (cA6, 60, .inr (.inr (.inr (.inr (fun _ => none)))))), (q7, .inl (cA8, 100, .inr (.inr (.inr (.inr (fun _ => none)))))), (q9, .inl (cA10, 60, .inr (.inr (.inr (.inr (fun _ => none)))))), (q11, .inl (cA12, 100, .inl (fun _ => (0 : Int32))))] H := hP
  have hD : va_D A [(h, .inr (8, [.ref q1, .int 0, .int 0, .ref q3, .ref q5, .ref q7, .ref q9, .ref q11, .null])), (q1, .inl (cA2, 3, .inr (.inr (.inr (.inr (fun _ => none)))))), (q3, .inl (cA4, 100, .inr (.inr (.inr (.inr (fun _ => none)))))), (q5, .inl (cA6, 60, .inr (.inr (.inr (.inr (fun _ => none)))))), (q7, .inl (cA8, 100, .inr (.inr (.inr (.inr (fun _ => none)))))), (q9, .inl (cA10, 60, .inr (.inr (.inr (.inr (fun _ => none)))))), (q11, .inl (cA12, 100, .inl (fun _ => (0 : Int32))))] := hD
  refine lv_aload_n hx hb dX5_init_56 rfl (lv_at hl 0 rfl) ?_
  refine lv_bipush (v := 60) hx hb dX5_init_57 (by decide) ?_
  refine va_newa (atype := .boolean) (ty := .boolean) (a0 := (60, .inl (fun _ => (0 : Int32)))) (N' := 60) hx hb (hts (.arrayClass .boolean) (by decide +kernel)) rfl hK hP hD hS hA (fun _ => rfl) (by decide) (by decide) (Nat.le_of_ble_eq_true rfl) (Nat.le_of_ble_eq_true rfl) (Nat.le_of_ble_eq_true rfl) dX5_init_59 (fun q13 cA14 H hK hP hD hS => ?_)
  have hK : va_K (dC, dI) vwCl [(cA2, .object "Sequencepoint$Statement"), (cA4, .object "Sequencepoint$Node"), (cA6, .object "Sequencepoint$Statement"), (cA8, .object "Sequencepoint$Node"), (cA10, .object "Sequencepoint$Statement"), (cA12, .boolean), (cA14, .boolean)] s := hK
  have hP : va_P (dC, dI) vwCl [(h, .inr (8, [.ref q1, .int 0, .int 0, .ref q3, .ref q5, .ref q7, .ref q9, .ref q11, .null])), (q1, .inl (cA2, 3, .inr (.inr (.inr (.inr (fun _ => none)))))), (q3, .inl (cA4, 100, .inr (.inr (.inr (.inr (fun _ => none)))))), (q5, .inl (cA6, 60, .inr (.inr (.inr (.inr (fun _ => none)))))), (q7, .inl (cA8, 100, .inr (.inr (.inr (.inr (fun _ => none)))))), (q9, .inl (cA10, 60, .inr (.inr (.inr (.inr (fun _ => none)))))), (q11, .inl (cA12, 100, .inl (fun _ => (0 : Int32)))), (q13, .inl (cA14, 60, .inl (fun _ => (0 : Int32))))] H := hP
  have hD : va_D A [(h, .inr (8, [.ref q1, .int 0, .int 0, .ref q3, .ref q5, .ref q7, .ref q9, .ref q11, .null])), (q1, .inl (cA2, 3, .inr (.inr (.inr (.inr (fun _ => none)))))), (q3, .inl (cA4, 100, .inr (.inr (.inr (.inr (fun _ => none)))))), (q5, .inl (cA6, 60, .inr (.inr (.inr (.inr (fun _ => none)))))), (q7, .inl (cA8, 100, .inr (.inr (.inr (.inr (fun _ => none)))))), (q9, .inl (cA10, 60, .inr (.inr (.inr (.inr (fun _ => none)))))), (q11, .inl (cA12, 100, .inl (fun _ => (0 : Int32)))), (q13, .inl (cA14, 60, .inl (fun _ => (0 : Int32))))] := hD
  refine W.widen (k := 7) (n := 483) (by decide) (by decide) ?_
  refine va_putF (D := (dC, dI)) (ci := 8) (v := .ref q13) (ty := (tyX5 8)) (C := RX5) (T := TX5) (N := 9) hx hb hts (fun w h => (List.mem_cons_of_mem _ (List.mem_append_right _ (List.mem_append_left _ h)))) tyX5 tyX5_ok nmX5 hown hK hP hD hS 0 rfl rfl 8 (by decide) (hts (.fieldLink RX5 36 "Sequencepoint$Optimiser" "isStatementUsed" "[Z") (by decide +kernel)) (fun _ h9 => h9) rfl hin rfl (by decide +kernel) rfl rfl (Nat.le_of_ble_eq_true rfl) dX5_init_61 (fun H locs hP hD hS => ?_)
  have hP : va_P (dC, dI) vwCl [(h, .inr (8, [.ref q1, .int 0, .int 0, .ref q3, .ref q5, .ref q7, .ref q9, .ref q11, .ref q13])), (q1, .inl (cA2, 3, .inr (.inr (.inr (.inr (fun _ => none)))))), (q3, .inl (cA4, 100, .inr (.inr (.inr (.inr (fun _ => none)))))), (q5, .inl (cA6, 60, .inr (.inr (.inr (.inr (fun _ => none)))))), (q7, .inl (cA8, 100, .inr (.inr (.inr (.inr (fun _ => none)))))), (q9, .inl (cA10, 60, .inr (.inr (.inr (.inr (fun _ => none)))))), (q11, .inl (cA12, 100, .inl (fun _ => (0 : Int32)))), (q13, .inl (cA14, 60, .inl (fun _ => (0 : Int32))))] H := hP
  have hD : va_D A [(h, .inr (8, [.ref q1, .int 0, .int 0, .ref q3, .ref q5, .ref q7, .ref q9, .ref q11, .ref q13])), (q1, .inl (cA2, 3, .inr (.inr (.inr (.inr (fun _ => none)))))), (q3, .inl (cA4, 100, .inr (.inr (.inr (.inr (fun _ => none)))))), (q5, .inl (cA6, 60, .inr (.inr (.inr (.inr (fun _ => none)))))), (q7, .inl (cA8, 100, .inr (.inr (.inr (.inr (fun _ => none)))))), (q9, .inl (cA10, 60, .inr (.inr (.inr (.inr (fun _ => none)))))), (q11, .inl (cA12, 100, .inl (fun _ => (0 : Int32)))), (q13, .inl (cA14, 60, .inl (fun _ => (0 : Int32))))] := hD
  refine lv_iconst (v := 0) hx hb dX5_init_64 (by decide) ?_
  refine lv_istore_n (lv' := [(1, .int 0), (0, .ref h)]) hx hb dX5_init_65 rfl hl (by decide) rfl (fun ls hl => ?_)
  generalize hQlp15 : (MQ below _ _ _ _ _ _) = Q
  have lp15 : ∀ (n i : Nat), i + n = 100 → ∀ (f_2 : Nat → Option Nat) (H : Heap) (locs : List Loc) (ls : Array Slot), va_P (dC, dI) vwCl [(h, .inr (8, [.ref q1, .int 0, .int 0, .ref q3, .ref q5, .ref q7, .ref q9, .ref q11, .ref q13])), (q1, .inl (cA2, 3, .inr (.inr (.inr (.inr (fun _ => none)))))), (q3, .inl (cA4, 100, .inr (.inr (.inr (.inr f_2))))), (q5, .inl (cA6, 60, .inr (.inr (.inr (.inr (fun _ => none)))))), (q7, .inl (cA8, 100, .inr (.inr (.inr (.inr (fun _ => none)))))), (q9, .inl (cA10, 60, .inr (.inr (.inr (.inr (fun _ => none)))))), (q11, .inl (cA12, 100, .inl (fun _ => (0 : Int32)))), (q13, .inl (cA14, 60, .inl (fun _ => (0 : Int32))))] H → va_D A [(h, .inr (8, [.ref q1, .int 0, .int 0, .ref q3, .ref q5, .ref q7, .ref q9, .ref q11, .ref q13])), (q1, .inl (cA2, 3, .inr (.inr (.inr (.inr (fun _ => none)))))), (q3, .inl (cA4, 100, .inr (.inr (.inr (.inr f_2))))), (q5, .inl (cA6, 60, .inr (.inr (.inr (.inr (fun _ => none)))))), (q7, .inl (cA8, 100, .inr (.inr (.inr (.inr (fun _ => none)))))), (q9, .inl (cA10, 60, .inr (.inr (.inr (.inr (fun _ => none)))))), (q11, .inl (cA12, 100, .inl (fun _ => (0 : Int32)))), (q13, .inl (cA14, 60, .inl (fun _ => (0 : Int32))))] → va_S A s.heap H locs → lv_has ls 2 [(1, .int (nI i)), (0, .ref h)] → W p l e (headSpec wc_X5_init ({ frames := 2, cells := 167, slots := 2423, locals := 35 })).room s m #[.ref h] below meth c H locs (7 + 1 * i) (483 + 14 * i) Q (F0 m 66 ls []) := by
    intro n
    induction n with
    | zero =>
      intro i hi f_2 H locs ls hP hD hS hl
      obtain rfl : i = 100 := by omega
      rw [show 7 + 1 * 100 = 107 from rfl, show 483 + 14 * 100 = 1883 from rfl]
      rw [← hQlp15]
      refine lv_iload_n hx hb dX5_init_66 rfl (lv_at hl 0 rfl) ?_
      refine lv_bipush (v := 100) hx hb dX5_init_67 (by decide) ?_
      refine lv_icmp_ge (tgt := 95) hx hb dX5_init_69 (by decide) (fun c_16 => ?_) (fun c_16 => absurd (by decide) c_16)
      refine lv_iconst (v := 0) hx hb dX5_init_95 (by decide) ?_
      refine lv_istore_n (lv' := [(1, .int 0), (0, .ref h)]) hx hb dX5_init_96 rfl hl (by decide) rfl (fun ls hl => ?_)
      generalize hQlp17 : (MQ below _ _ _ _ _ _) = Q
      have lp17 : ∀ (n i : Nat), i + n = 60 → ∀ (f_3 : Nat → Option Nat) (H : Heap) (locs : List Loc) (ls : Array Slot), va_P (dC, dI) vwCl [(h, .inr (8, [.ref q1, .int 0, .int 0, .ref q3, .ref q5, .ref q7, .ref q9, .ref q11, .ref q13])), (q1, .inl (cA2, 3, .inr (.inr (.inr (.inr (fun _ => none)))))), (q3, .inl (cA4, 100, .inr (.inr (.inr (.inr f_2))))), (q5, .inl (cA6, 60, .inr (.inr (.inr (.inr f_3))))), (q7, .inl (cA8, 100, .inr (.inr (.inr (.inr (fun _ => none)))))), (q9, .inl (cA10, 60, .inr (.inr (.inr (.inr (fun _ => none)))))), (q11, .inl (cA12, 100, .inl (fun _ => (0 : Int32)))), (q13, .inl (cA14, 60, .inl (fun _ => (0 : Int32))))] H → va_D A [(h, .inr (8, [.ref q1, .int 0, .int 0, .ref q3, .ref q5, .ref q7, .ref q9, .ref q11, .ref q13])), (q1, .inl (cA2, 3, .inr (.inr (.inr (.inr (fun _ => none)))))), (q3, .inl (cA4, 100, .inr (.inr (.inr (.inr f_2))))), (q5, .inl (cA6, 60, .inr (.inr (.inr (.inr f_3))))), (q7, .inl (cA8, 100, .inr (.inr (.inr (.inr (fun _ => none)))))), (q9, .inl (cA10, 60, .inr (.inr (.inr (.inr (fun _ => none)))))), (q11, .inl (cA12, 100, .inl (fun _ => (0 : Int32)))), (q13, .inl (cA14, 60, .inl (fun _ => (0 : Int32))))] → va_S A s.heap H locs → lv_has ls 2 [(1, .int (nI i)), (0, .ref h)] → W p l e (headSpec wc_X5_init ({ frames := 2, cells := 167, slots := 2423, locals := 35 })).room s m #[.ref h] below meth c H locs (107 + 1 * i) (1883 + 9 * i) Q (F0 m 97 ls []) := by
        intro n
        induction n with
        | zero =>
          intro i hi f_3 H locs ls hP hD hS hl
          obtain rfl : i = 60 := by omega
          rw [show 107 + 1 * 60 = 167 from rfl, show 1883 + 9 * 60 = 2423 from rfl]
          rw [← hQlp17]
          refine lv_iload_n hx hb dX5_init_97 rfl (lv_at hl 0 rfl) ?_
          refine lv_bipush (v := 60) hx hb dX5_init_98 (by decide) ?_
          refine lv_icmp_ge (tgt := 126) hx hb dX5_init_100 (by decide) (fun c_18 => ?_) (fun c_18 => absurd (by decide) c_18)
          exact W.vret hx hb hr (fun t ht hW => ⟨⟨(), rfl, trivial, trivial⟩, hS.F ht⟩) hS.2.2 dX5_init_126
        | succ n ih =>
          intro i hi f_3 H locs ls hP hD hS hl
          refine lv_iload_n hx hb dX5_init_97 rfl (lv_at hl 0 rfl) ?_
          refine lv_bipush (v := 60) hx hb dX5_init_98 (by decide) ?_
          refine lv_icmp_ge (tgt := 126) hx hb dX5_init_100 (by decide) (fun c_19 => absurd c_19 (nI_ge (b := 60) (by omega) (by decide))) (fun c_19 => ?_)
          refine lv_aload_n hx hb dX5_init_103 rfl (lv_at hl 1 rfl) ?_
          refine va_get (D := (dC, dI)) (ci := 8) (v := .ref q5) (C := RX5) (T := TX5) (N := 9) hx hb hts (fun w h => (List.mem_cons_of_mem _ (List.mem_append_right _ (List.mem_append_left _ h)))) hown hK hP 0 rfl rfl 4 (by decide) (hts (.fieldLink RX5 23 "Sequencepoint$Optimiser" "statements" "[LSequencepoint$Statement;") (by decide +kernel)) (fun _ h9 => h9) rfl dX5_init_104 ?_
          refine lv_iload_n hx hb dX5_init_107 rfl (lv_at hl 0 rfl) ?_
          refine va_new (ci := 11) (fs := [.int 0, .int 0, .null, .null, .null, .null, .int 0, .int 0, .int 0]) (C := RX8) (T := TX8) (N := 9) hx hb hts (fun w h => (List.mem_cons_of_mem _ (List.mem_append_right _ (List.mem_append_right _ (List.mem_append_left _ h))))) tyX8 tyX8_ok hown (hts (.classLink RX5 9 RX8) (by decide +kernel)) (hts (.instantiable RX8 9) (by decide +kernel)) (hts (.initialized RX8) (by decide +kernel)) hK hP hD hS hA rfl (fun j hj => by rcases (show j = 0 ∨ j = 1 ∨ j = 2 ∨ j = 3 ∨ j = 4 ∨ j = 5 ∨ j = 6 ∨ j = 7 ∨ j = 8 by omega) with rfl | rfl | rfl | rfl | rfl | rfl | rfl | rfl | rfl <;> rfl) (show 107 + 1 * i + 1 ≤ 167 by omega) (show 1883 + 9 * i + 9 ≤ 2423 by omega) dX5_init_108 (fun q20 H hP hD hS => ?_)
          have hP : va_P (dC, dI) vwCl [(h, .inr (8, [.ref q1, .int 0, .int 0, .ref q3, .ref q5, .ref q7, .ref q9, .ref q11, .ref q13])), (q1, .inl (cA2, 3, .inr (.inr (.inr (.inr (fun _ => none)))))), (q3, .inl (cA4, 100, .inr (.inr (.inr (.inr f_2))))), (q5, .inl (cA6, 60, .inr (.inr (.inr (.inr f_3))))), (q7, .inl (cA8, 100, .inr (.inr (.inr (.inr (fun _ => none)))))), (q9, .inl (cA10, 60, .inr (.inr (.inr (.inr (fun _ => none)))))), (q11, .inl (cA12, 100, .inl (fun _ => (0 : Int32)))), (q13, .inl (cA14, 60, .inl (fun _ => (0 : Int32)))), (q20, .inr (11, [.int 0, .int 0, .null, .null, .null, .null, .int 0, .int 0, .int 0]))] H := hP
          have hD : va_D A [(h, .inr (8, [.ref q1, .int 0, .int 0, .ref q3, .ref q5, .ref q7, .ref q9, .ref q11, .ref q13])), (q1, .inl (cA2, 3, .inr (.inr (.inr (.inr (fun _ => none)))))), (q3, .inl (cA4, 100, .inr (.inr (.inr (.inr f_2))))), (q5, .inl (cA6, 60, .inr (.inr (.inr (.inr f_3))))), (q7, .inl (cA8, 100, .inr (.inr (.inr (.inr (fun _ => none)))))), (q9, .inl (cA10, 60, .inr (.inr (.inr (.inr (fun _ => none)))))), (q11, .inl (cA12, 100, .inl (fun _ => (0 : Int32)))), (q13, .inl (cA14, 60, .inl (fun _ => (0 : Int32)))), (q20, .inr (11, [.int 0, .int 0, .null, .null, .null, .null, .int 0, .int 0, .int 0]))] := hD
          refine lv_dup hx hb dX5_init_111 rfl ?_
          refine lv_bipush (v := 101) hx hb dX5_init_112 (by decide) ?_
          refine lv_null hx hb dX5_init_114 ?_
          refine lv_null hx hb dX5_init_115 ?_
          have hPc := hP.sub (ws' := [(q20, .inr (11, [.int 0, .int 0, .null, .null, .null, .null, .int 0, .int 0, .int 0]))]) [8] rfl
          have hKc := hK.sub (tys' := []) [] rfl
          have hDc := hD.sub (ws' := [(q20, .inr (11, [.int 0, .int 0, .null, .null, .null, .null, .int 0, .int 0, .int 0]))]) [8] (by decide) rfl
          have hFc := va_free (wc := [(q20, .inr (11, [.int 0, .int 0, .null, .null, .null, .null, .int 0, .int 0, .int 0]))]) hD hS hA [8] rfl
          refine va_callv (va_runI (As := [.int 101, .null, .null]) (rest := [.ref q20, .int (nI i), .ref q5]) ⟨hx, hb, hml, hown, hts⟩ (c_X8_init l dC dI q20 _) (cwI 3 hts (goodIn_sub (ws := wc_X8_init) (fun w h => (List.mem_cons_of_mem _ (List.mem_append_right _ (List.mem_append_right _ (List.mem_append_right _ (List.mem_append_left _ h)))))) (by decide +kernel)) rfl rfl rfl (hts (.initialized RX8) (by decide +kernel)) (hts (.methodLink RX5 42 yX8_init) (by decide +kernel)) (hts (.instanceMethod yX8_init) (by decide +kernel)) rfl (by decide +kernel) ⟨Nat.le_of_ble_eq_true rfl, Nat.le_of_ble_eq_true rfl⟩) ⟨fun a U g mk q => by obtain ⟨q0, q1, qP, qK, qD⟩ := q; exact ⟨q0, q1, qP, va_K.moved (u := U) (U := U.calling g mk a) (Vm.Alike.refl U.vm) qK, qD⟩, fun U hU hW => ⟨rfl, by rw [hU], by rw [hU]; exact hPc, va_K.moved hW.alike hKc, hDc.weaken (fun _ _ _ _ => trivial)⟩⟩ rfl rfl hl.1 rfl (lv_room (Nat.le_of_ble_eq_true rfl)) dX5_init_116 ⟨(show 107 + 1 * i + 1 + 0 ≤ 167 by omega), (show 1883 + 9 * i + 9 + 0 ≤ 2423 by omega)⟩) hS (fun q _ h => hFc q h) hFc (fun u t H1 locs ht hvm hw hB hz1 hk1 hS => ?_)
          obtain ⟨hP1, hK1, hD1⟩ := hB
          rw [ht] at hP1
          have hK1 := va_K.moved hvm.symm hK1
          try dsimp only at hw
          obtain ⟨hP, hD⟩ := va_join (wr := [(h, .inr (8, [.ref q1, .int 0, .int 0, .ref q3, .ref q5, .ref q7, .ref q9, .ref q11, .ref q13])), (q1, .inl (cA2, 3, .inr (.inr (.inr (.inr (fun _ => none)))))), (q3, .inl (cA4, 100, .inr (.inr (.inr (.inr f_2))))), (q5, .inl (cA6, 60, .inr (.inr (.inr (.inr f_3))))), (q7, .inl (cA8, 100, .inr (.inr (.inr (.inr (fun _ => none)))))), (q9, .inl (cA10, 60, .inr (.inr (.inr (.inr (fun _ => none)))))), (q11, .inl (cA12, 100, .inl (fun _ => (0 : Int32)))), (q13, .inl (cA14, 60, .inl (fun _ => (0 : Int32))))]) (w1 := [(q20, .inr (11, [.int 0, .int 101, .null, .null, .null, .null, .int 0, .int 0, .int 0]))]) hP hD [8] [0, 1, 2, 3, 4, 5, 6, 7] rfl rfl (by decide) (by decide) hk1 hFc hP1 hD1
          generalize H1 = H at hP hS ⊢
          have hP : va_P (dC, dI) vwCl [(h, .inr (8, [.ref q1, .int 0, .int 0, .ref q3, .ref q5, .ref q7, .ref q9, .ref q11, .ref q13])), (q1, .inl (cA2, 3, .inr (.inr (.inr (.inr (fun _ => none)))))), (q3, .inl (cA4, 100, .inr (.inr (.inr (.inr f_2))))), (q5, .inl (cA6, 60, .inr (.inr (.inr (.inr f_3))))), (q7, .inl (cA8, 100, .inr (.inr (.inr (.inr (fun _ => none)))))), (q9, .inl (cA10, 60, .inr (.inr (.inr (.inr (fun _ => none)))))), (q11, .inl (cA12, 100, .inl (fun _ => (0 : Int32)))), (q13, .inl (cA14, 60, .inl (fun _ => (0 : Int32)))), (q20, .inr (11, [.int 0, .int 101, .null, .null, .null, .null, .int 0, .int 0, .int 0]))] H := hP
          have hD : va_D A [(h, .inr (8, [.ref q1, .int 0, .int 0, .ref q3, .ref q5, .ref q7, .ref q9, .ref q11, .ref q13])), (q1, .inl (cA2, 3, .inr (.inr (.inr (.inr (fun _ => none)))))), (q3, .inl (cA4, 100, .inr (.inr (.inr (.inr f_2))))), (q5, .inl (cA6, 60, .inr (.inr (.inr (.inr f_3))))), (q7, .inl (cA8, 100, .inr (.inr (.inr (.inr (fun _ => none)))))), (q9, .inl (cA10, 60, .inr (.inr (.inr (.inr (fun _ => none)))))), (q11, .inl (cA12, 100, .inl (fun _ => (0 : Int32)))), (q13, .inl (cA14, 60, .inl (fun _ => (0 : Int32)))), (q20, .inr (11, [.int 0, .int 101, .null, .null, .null, .null, .int 0, .int 0, .int 0]))] := hD
          refine va_astq hx hb hK hP hD hS 3 2 8 11 rfl rfl rfl rfl (vp_in_nI (by omega) (by decide)) dX5_init_119 (fun H locs hP hD hS => ?_)
          have hP : va_P (dC, dI) vwCl [(h, .inr (8, [.ref q1, .int 0, .int 0, .ref q3, .ref q5, .ref q7, .ref q9, .ref q11, .ref q13])), (q1, .inl (cA2, 3, .inr (.inr (.inr (.inr (fun _ => none)))))), (q3, .inl (cA4, 100, .inr (.inr (.inr (.inr f_2))))), (q5, .inl (cA6, 60, .inr (.inr (.inr (.inr (va_up f_3 ((nI i).toNatClampNeg) (some q20))))))), (q7, .inl (cA8, 100, .inr (.inr (.inr (.inr (fun _ => none)))))), (q9, .inl (cA10, 60, .inr (.inr (.inr (.inr (fun _ => none)))))), (q11, .inl (cA12, 100, .inl (fun _ => (0 : Int32)))), (q13, .inl (cA14, 60, .inl (fun _ => (0 : Int32)))), (q20, .inr (11, [.int 0, .int 101, .null, .null, .null, .null, .int 0, .int 0, .int 0]))] H := hP
          have hD : va_D A [(h, .inr (8, [.ref q1, .int 0, .int 0, .ref q3, .ref q5, .ref q7, .ref q9, .ref q11, .ref q13])), (q1, .inl (cA2, 3, .inr (.inr (.inr (.inr (fun _ => none)))))), (q3, .inl (cA4, 100, .inr (.inr (.inr (.inr f_2))))), (q5, .inl (cA6, 60, .inr (.inr (.inr (.inr (va_up f_3 ((nI i).toNatClampNeg) (some q20))))))), (q7, .inl (cA8, 100, .inr (.inr (.inr (.inr (fun _ => none)))))), (q9, .inl (cA10, 60, .inr (.inr (.inr (.inr (fun _ => none)))))), (q11, .inl (cA12, 100, .inl (fun _ => (0 : Int32)))), (q13, .inl (cA14, 60, .inl (fun _ => (0 : Int32)))), (q20, .inr (11, [.int 0, .int 101, .null, .null, .null, .null, .int 0, .int 0, .int 0]))] := hD
          refine lv_iinc (v := (nI (i + 1))) (lv' := [(1, .int (nI (i + 1))), (0, .ref h)]) hx hb dX5_init_120 hl (k := 0) rfl (nI_1 i) (by decide) rfl (fun ls hl => ?_)
          refine lv_goto (tgt := 97) hx hb dX5_init_123 (by decide) ?_
          refine W.widen (k := 107 + 1 * (i + 1)) (n := 1883 + 9 * (i + 1)) (by omega) (by omega) ?_
          exact ih (i + 1) (by omega) _ _ _ _ (hP.sub [0, 1, 2, 3, 4, 5, 6, 7] rfl) (hD.sub [0, 1, 2, 3, 4, 5, 6, 7] (by decide) rfl) hS (lv_sub hl [0, 1] rfl)
      exact lp17 60 0 (by omega) _ _ _ _ hP hD hS hl
    | succ n ih =>
      intro i hi f_2 H locs ls hP hD hS hl
      refine lv_iload_n hx hb dX5_init_66 rfl (lv_at hl 0 rfl) ?_
      refine lv_bipush (v := 100) hx hb dX5_init_67 (by decide) ?_
      refine lv_icmp_ge (tgt := 95) hx hb dX5_init_69 (by decide) (fun c_22 => absurd c_22 (nI_ge (b := 100) (by omega) (by decide))) (fun c_22 => ?_)
      refine lv_aload_n hx hb dX5_init_72 rfl (lv_at hl 1 rfl) ?_
      refine va_get (D := (dC, dI)) (ci := 8) (v := .ref q3) (C := RX5) (T := TX5) (N := 9) hx hb hts (fun w h => (List.mem_cons_of_mem _ (List.mem_append_right _ (List.mem_append_left _ h)))) hown hK hP 0 rfl rfl 3 (by decide) (hts (.fieldLink RX5 19 "Sequencepoint$Optimiser" "nodes" "[LSequencepoint$Node;") (by decide +kernel)) (fun _ h9 => h9) rfl dX5_init_73 ?_
      refine lv_iload_n hx hb dX5_init_76 rfl (lv_at hl 0 rfl) ?_
      refine va_new (ci := 7) (fs := [.int 0, .int 0, .int 0, .int 0, .long 0, .null, .null, .null, .null, .null, .int 0, .int 0, .int 0, .int 0]) (C := RX3) (T := TX3) (N := 14) hx hb hts (fun w h => (List.mem_cons_of_mem _ (List.mem_append_right _ (List.mem_append_right _ (List.mem_append_right _ (List.mem_append_right _ (List.mem_append_left _ h))))))) tyX3 tyX3_ok hown (hts (.classLink RX5 17 RX3) (by decide +kernel)) (hts (.instantiable RX3 14) (by decide +kernel)) (hts (.initialized RX3) (by decide +kernel)) hK hP hD hS hA rfl (fun j hj => by rcases (show j = 0 ∨ j = 1 ∨ j = 2 ∨ j = 3 ∨ j = 4 ∨ j = 5 ∨ j = 6 ∨ j = 7 ∨ j = 8 ∨ j = 9 ∨ j = 10 ∨ j = 11 ∨ j = 12 ∨ j = 13 by omega) with rfl | rfl | rfl | rfl | rfl | rfl | rfl | rfl | rfl | rfl | rfl | rfl | rfl | rfl <;> rfl) (show 7 + 1 * i + 1 ≤ 167 by omega) (show 483 + 14 * i + 14 ≤ 2423 by omega) dX5_init_77 (fun q23 H hP hD hS => ?_)
      have hP : va_P (dC, dI) vwCl [(h, .inr (8, [.ref q1, .int 0, .int 0, .ref q3, .ref q5, .ref q7, .ref q9, .ref q11, .ref q13])), (q1, .inl (cA2, 3, .inr (.inr (.inr (.inr (fun _ => none)))))), (q3, .inl (cA4, 100, .inr (.inr (.inr (.inr f_2))))), (q5, .inl (cA6, 60, .inr (.inr (.inr (.inr (fun _ => none)))))), (q7, .inl (cA8, 100, .inr (.inr (.inr (.inr (fun _ => none)))))), (q9, .inl (cA10, 60, .inr (.inr (.inr (.inr (fun _ => none)))))), (q11, .inl (cA12, 100, .inl (fun _ => (0 : Int32)))), (q13, .inl (cA14, 60, .inl (fun _ => (0 : Int32)))), (q23, .inr (7, [.int 0, .int 0, .int 0, .int 0, .long 0, .null, .null, .null, .null, .null, .int 0, .int 0, .int 0, .int 0]))] H := hP
      have hD : va_D A [(h, .inr (8, [.ref q1, .int 0, .int 0, .ref q3, .ref q5, .ref q7, .ref q9, .ref q11, .ref q13])), (q1, .inl (cA2, 3, .inr (.inr (.inr (.inr (fun _ => none)))))), (q3, .inl (cA4, 100, .inr (.inr (.inr (.inr f_2))))), (q5, .inl (cA6, 60, .inr (.inr (.inr (.inr (fun _ => none)))))), (q7, .inl (cA8, 100, .inr (.inr (.inr (.inr (fun _ => none)))))), (q9, .inl (cA10, 60, .inr (.inr (.inr (.inr (fun _ => none)))))), (q11, .inl (cA12, 100, .inl (fun _ => (0 : Int32)))), (q13, .inl (cA14, 60, .inl (fun _ => (0 : Int32)))), (q23, .inr (7, [.int 0, .int 0, .int 0, .int 0, .long 0, .null, .null, .null, .null, .null, .int 0, .int 0, .int 0, .int 0]))] := hD
      refine lv_dup hx hb dX5_init_80 rfl ?_
      refine lv_iconst (v := 0) hx hb dX5_init_81 (by decide) ?_
      refine lv_bipush (v := 32) hx hb dX5_init_82 (by decide) ?_
      refine lv_iconst (v := 0) hx hb dX5_init_84 (by decide) ?_
      have hPc := hP.sub (ws' := [(q23, .inr (7, [.int 0, .int 0, .int 0, .int 0, .long 0, .null, .null, .null, .null, .null, .int 0, .int 0, .int 0, .int 0]))]) [8] rfl
      have hKc := hK.sub (tys' := []) [] rfl
      have hDc := hD.sub (ws' := [(q23, .inr (7, [.int 0, .int 0, .int 0, .int 0, .long 0, .null, .null, .null, .null, .null, .int 0, .int 0, .int 0, .int 0]))]) [8] (by decide) rfl
      have hFc := va_free (wc := [(q23, .inr (7, [.int 0, .int 0, .int 0, .int 0, .long 0, .null, .null, .null, .null, .null, .int 0, .int 0, .int 0, .int 0]))]) hD hS hA [8] rfl
      refine va_callv (va_runI (As := [.int 0, .int 32, .int 0]) (rest := [.ref q23, .int (nI i), .ref q3]) ⟨hx, hb, hml, hown, hts⟩ (c_X3_init l dC dI q23 _) (cwI 3 hts (goodIn_sub (ws := wc_X3_init) (fun w h => (List.mem_cons_of_mem _ (List.mem_append_right _ (List.mem_append_right _ (List.mem_append_right _ (List.mem_append_right _ (List.mem_append_right _ (List.mem_append_left _ h)))))))) (by decide +kernel)) rfl rfl rfl (hts (.initialized RX3) (by decide +kernel)) (hts (.methodLink RX5 39 yX3_init) (by decide +kernel)) (hts (.instanceMethod yX3_init) (by decide +kernel)) rfl (by decide +kernel) ⟨Nat.le_of_ble_eq_true rfl, Nat.le_of_ble_eq_true rfl⟩) ⟨fun a U g mk q => by obtain ⟨q0, q1, qP, qK, qD⟩ := q; exact ⟨q0, q1, qP, va_K.moved (u := U) (U := U.calling g mk a) (Vm.Alike.refl U.vm) qK, qD⟩, fun U hU hW => ⟨rfl, by rw [hU], by rw [hU]; exact hPc, va_K.moved hW.alike hKc, hDc.weaken (fun _ _ _ _ => trivial)⟩⟩ rfl rfl hl.1 rfl (lv_room (Nat.le_of_ble_eq_true rfl)) dX5_init_85 ⟨(show 7 + 1 * i + 1 + 0 ≤ 167 by omega), (show 483 + 14 * i + 14 + 0 ≤ 2423 by omega)⟩) hS (fun q _ h => hFc q h) hFc (fun u t H1 locs ht hvm hw hB hz1 hk1 hS => ?_)
      obtain ⟨hP1, hK1, hD1⟩ := hB
      rw [ht] at hP1
      have hK1 := va_K.moved hvm.symm hK1
      try dsimp only at hw
      obtain ⟨hP, hD⟩ := va_join (wr := [(h, .inr (8, [.ref q1, .int 0, .int 0, .ref q3, .ref q5, .ref q7, .ref q9, .ref q11, .ref q13])), (q1, .inl (cA2, 3, .inr (.inr (.inr (.inr (fun _ => none)))))), (q3, .inl (cA4, 100, .inr (.inr (.inr (.inr f_2))))), (q5, .inl (cA6, 60, .inr (.inr (.inr (.inr (fun _ => none)))))), (q7, .inl (cA8, 100, .inr (.inr (.inr (.inr (fun _ => none)))))), (q9, .inl (cA10, 60, .inr (.inr (.inr (.inr (fun _ => none)))))), (q11, .inl (cA12, 100, .inl (fun _ => (0 : Int32)))), (q13, .inl (cA14, 60, .inl (fun _ => (0 : Int32))))]) (w1 := [(q23, .inr (7, [.int 0, .int 0, .int 32, .int 0, .long 0, .null, .null, .null, .null, .null, .int 0, .int 0, .int 0, .int 0]))]) hP hD [8] [0, 1, 2, 3, 4, 5, 6, 7] rfl rfl (by decide) (by decide) hk1 hFc hP1 hD1
      generalize H1 = H at hP hS ⊢
      have hP : va_P (dC, dI) vwCl [(h, .inr (8, [.ref q1, .int 0, .int 0, .ref q3, .ref q5, .ref q7, .ref q9, .ref q11, .ref q13])), (q1, .inl (cA2, 3, .inr (.inr (.inr (.inr (fun _ => none)))))), (q3, .inl (cA4, 100, .inr (.inr (.inr (.inr f_2))))), (q5, .inl (cA6, 60, .inr (.inr (.inr (.inr (fun _ => none)))))), (q7, .inl (cA8, 100, .inr (.inr (.inr (.inr (fun _ => none)))))), (q9, .inl (cA10, 60, .inr (.inr (.inr (.inr (fun _ => none)))))), (q11, .inl (cA12, 100, .inl (fun _ => (0 : Int32)))), (q13, .inl (cA14, 60, .inl (fun _ => (0 : Int32)))), (q23, .inr (7, [.int 0, .int 0, .int 32, .int 0, .long 0, .null, .null, .null, .null, .null, .int 0, .int 0, .int 0, .int 0]))] H := hP
      have hD : va_D A [(h, .inr (8, [.ref q1, .int 0, .int 0, .ref q3, .ref q5, .ref q7, .ref q9, .ref q11, .ref q13])), (q1, .inl (cA2, 3, .inr (.inr (.inr (.inr (fun _ => none)))))), (q3, .inl (cA4, 100, .inr (.inr (.inr (.inr f_2))))), (q5, .inl (cA6, 60, .inr (.inr (.inr (.inr (fun _ => none)))))), (q7, .inl (cA8, 100, .inr (.inr (.inr (.inr (fun _ => none)))))), (q9, .inl (cA10, 60, .inr (.inr (.inr (.inr (fun _ => none)))))), (q11, .inl (cA12, 100, .inl (fun _ => (0 : Int32)))), (q13, .inl (cA14, 60, .inl (fun _ => (0 : Int32)))), (q23, .inr (7, [.int 0, .int 0, .int 32, .int 0, .long 0, .null, .null, .null, .null, .null, .int 0, .int 0, .int 0, .int 0]))] := hD
      refine va_astq hx hb hK hP hD hS 2 1 8 7 rfl rfl rfl rfl (vp_in_nI (by omega) (by decide)) dX5_init_88 (fun H locs hP hD hS => ?_)
      have hP : va_P (dC, dI) vwCl [(h, .inr (8, [.ref q1, .int 0, .int 0, .ref q3, .ref q5, .ref q7, .ref q9, .ref q11, .ref q13])), (q1, .inl (cA2, 3, .inr (.inr (.inr (.inr (fun _ => none)))))), (q3, .inl (cA4, 100, .inr (.inr (.inr (.inr (va_up f_2 ((nI i).toNatClampNeg) (some q23))))))), (q5, .inl (cA6, 60, .inr (.inr (.inr (.inr (fun _ => none)))))), (q7, .inl (cA8, 100, .inr (.inr (.inr (.inr (fun _ => none)))))), (q9, .inl (cA10, 60, .inr (.inr (.inr (.inr (fun _ => none)))))), (q11, .inl (cA12, 100, .inl (fun _ => (0 : Int32)))), (q13, .inl (cA14, 60, .inl (fun _ => (0 : Int32)))), (q23, .inr (7, [.int 0, .int 0, .int 32, .int 0, .long 0, .null, .null, .null, .null, .null, .int 0, .int 0, .int 0, .int 0]))] H := hP
      have hD : va_D A [(h, .inr (8, [.ref q1, .int 0, .int 0, .ref q3, .ref q5, .ref q7, .ref q9, .ref q11, .ref q13])), (q1, .inl (cA2, 3, .inr (.inr (.inr (.inr (fun _ => none)))))), (q3, .inl (cA4, 100, .inr (.inr (.inr (.inr (va_up f_2 ((nI i).toNatClampNeg) (some q23))))))), (q5, .inl (cA6, 60, .inr (.inr (.inr (.inr (fun _ => none)))))), (q7, .inl (cA8, 100, .inr (.inr (.inr (.inr (fun _ => none)))))), (q9, .inl (cA10, 60, .inr (.inr (.inr (.inr (fun _ => none)))))), (q11, .inl (cA12, 100, .inl (fun _ => (0 : Int32)))), (q13, .inl (cA14, 60, .inl (fun _ => (0 : Int32)))), (q23, .inr (7, [.int 0, .int 0, .int 32, .int 0, .long 0, .null, .null, .null, .null, .null, .int 0, .int 0, .int 0, .int 0]))] := hD
      refine lv_iinc (v := (nI (i + 1))) (lv' := [(1, .int (nI (i + 1))), (0, .ref h)]) hx hb dX5_init_89 hl (k := 0) rfl (nI_1 i) (by decide) rfl (fun ls hl => ?_)
      refine lv_goto (tgt := 66) hx hb dX5_init_92 (by decide) ?_
      refine W.widen (k := 7 + 1 * (i + 1)) (n := 483 + 14 * (i + 1)) (by omega) (by omega) ?_
      exact ih (i + 1) (by omega) _ _ _ _ (hP.sub [0, 1, 2, 3, 4, 5, 6, 7] rfl) (hD.sub [0, 1, 2, 3, 4, 5, 6, 7] (by decide) rfl) hS (lv_sub hl [0, 1] rfl)
  exact lp15 100 0 (by omega) _ _ _ _ hP hD hS hl

def wc_X11_init : List Cond := .code yX11_init cX11_init 2 none :: ([.methodLink RX11 1 objectInit, .instanceMethod objectInit, .code objectInit ⟨#[0xb1]⟩ 1 none, .classLink RX11 7 RX7, .instantiable RX7 9, .initialized RX7, .instanceMethod yX7_init, .fieldLink RX11 10 "Sequencepoint" "program" "LSequencepoint$Program;", .classLink RX11 16 RX5, .instantiable RX5 9, .initialized RX5, .methodLink RX11 18 yX5_init, .instanceMethod yX5_init, .fieldLink RX11 19 "Sequencepoint" "optimiser" "LSequencepoint$Optimiser;", .classLink RX11 23 RX1, .instantiable RX1 8, .initialized RX1, .instanceMethod yX1_init, .fieldLink RX11 26 "Sequencepoint" "machine" "LSequencepoint$Machine;", .classLink RX11 30 RX6, .instantiable RX6 7, .initialized RX6, .instanceMethod yX6_init, .fieldLink RX11 33 "Sequencepoint" "last" "LSequencepoint$Outcome;", .fieldLink RX11 37 "Sequencepoint" "tried" "LSequencepoint$Outcome;", .fieldLink RX11 40 "Sequencepoint" "outcomes" "[LSequencepoint$Outcome;"] ++ (wsX70 ++ (wc_X7_init ++ (wsX110 ++ (wsX50 ++ (wc_X5_init ++ (wsX10 ++ (wc_X1_init ++ (wsX60 ++ (wc_X6_init ++ []))))))))))
set_option maxHeartbeats 4000000 in
set_option maxRecDepth 100000 in
theorem c_X11_init (l : Launch) (dC : Nat → ClassId) (dI : Nat → Nat → Nat) (h : Nat) (sz : Nat) : Met l yX11_init wc_X11_init ({ frames := 3, cells := 222, slots := 11368, locals := 56 }) (va_Pc [.ref h] (fun U => U.heap.size = sz ∧ va_P (dC, dI) vwCl [(h, .inr (13, [.null, .null, .null, .null, .null, .null, .long 0]))] U.heap ∧ va_K (dC, dI) vwCl [] U ∧ va_D (fun _ => True) [(h, .inr (13, [.null, .null, .null, .null, .null, .null, .long 0]))] ∧ nw U)) (va_Qv (fun _ : Unit => True) (fun _ t => (∃ a1 : Nat, ∃ a2 : Nat, ∃ a3 : Nat, ∃ a4 : Nat, ∃ a5 : Nat, ∃ a6 : Nat, va_P (dC, dI) vwCl [(h, .inr (13, [.ref a1, .ref a2, .ref a3, .ref a4, .ref a5, .ref a6, .long 0]))] t.heap ∧ va_K (dC, dI) vwCl [] t ∧ va_D (va_A [(h, .inr (13, [.null, .null, .null, .null, .null, .null, .long 0]))] sz) [(h, .inr (13, [.ref a1, .ref a2, .ref a3, .ref a4, .ref a5, .ref a6, .long 0]))])) (va_A [(h, .inr (13, [.null, .null, .null, .null, .null, .null, .long 0]))] sz)) 222 11368 (va_A [(h, .inr (13, [.null, .null, .null, .null, .null, .null, .long 0]))] sz) := by
  refine Met.ofW (cc := cX11_init) (maxL := 2) (ret := none) (by decide) rfl ?_
  intro p e s m args below meth c s₁ B hml hv
  obtain ⟨rfl, hsz, hP, hK, hD0, hH⟩ := hv
  have hx := B.exec
  have hb := B.bytes
  have hr := B.returns
  have hts := atoms_spec (ws := wc_X11_init) B.pre
  have hown : s.vm.findClass RX11 = some m.cls := findClass_of_methodNamed B.named
  have hlocks := B.notSynchronized
  have hin : meth.name = "<init>" := (name_of_methodNamed B.named B.method).1
  subst hsz
  have hD := hD0.self (sz := s.heap.size)
  generalize hAe : va_A [(h, .inr (13, [.null, .null, .null, .null, .null, .null, .long 0]))] s.heap.size = A at hD ⊢
  have hA : ∀ q : Nat, s.heap.size ≤ q → A q := fun q h => by rw [← hAe]; exact Or.inr h
  have hS : va_S A s.heap s.heap [] := va_S.rf
  have hP : va_P (dC, dI) vwCl [(h, .inr (13, [.null, .null, .null, .null, .null, .null, .long 0]))] s.heap := hP
  have hl := lv_entry ([.ref h]) (n := 2) (Nat.le_of_ble_eq_true rfl)
  rw [lg_entry_eq]
  generalize (lg_sl ([.ref h]) ++ List.replicate (2 - (lg_sl ([.ref h])).length) Slot.unset).toArray = ls at hl ⊢
  have hl : lv_has ls 2 [(0, .ref h)] := hl
  refine lv_aload_n hx hb dX11_init_0 rfl (lv_at hl 0 rfl) ?_
  refine W.objInit hx hb hown (hts (.methodLink RX11 1 objectInit) (by decide +kernel)) (hts (.instanceMethod objectInit) (by decide +kernel)) (hts (.code objectInit ⟨#[0xb1]⟩ 1 none) (by decide +kernel)) rfl (by rw [hml]; exact hl.1) rfl dX11_init_1 (Nat.le_of_ble_eq_true rfl) (Nat.le_of_ble_eq_true rfl) ?_
  refine W.eq (g2 := F0 m 4 ls []) rfl ?_
  refine lv_aload_n hx hb dX11_init_4 rfl (lv_at hl 0 rfl) ?_
  refine va_new (ci := 10) (fs := [.null, .null, .null, .null, .null, .int 0, .int 0, .int 0, .int 0]) (C := RX7) (T := TX7) (N := 9) hx hb hts (fun w h => (List.mem_cons_of_mem _ (List.mem_append_right _ (List.mem_append_left _ h)))) tyX7 tyX7_ok hown (hts (.classLink RX11 7 RX7) (by decide +kernel)) (hts (.instantiable RX7 9) (by decide +kernel)) (hts (.initialized RX7) (by decide +kernel)) hK hP hD hS hA rfl (fun j hj => by rcases (show j = 0 ∨ j = 1 ∨ j = 2 ∨ j = 3 ∨ j = 4 ∨ j = 5 ∨ j = 6 ∨ j = 7 ∨ j = 8 by omega) with rfl | rfl | rfl | rfl | rfl | rfl | rfl | rfl | rfl <;> rfl) (Nat.le_of_ble_eq_true rfl) (Nat.le_of_ble_eq_true rfl) dX11_init_5 (fun q1 H hP hD hS => ?_)
  have hP : va_P (dC, dI) vwCl [(h, .inr (13, [.null, .null, .null, .null, .null, .null, .long 0])), (q1, .inr (10, [.null, .null, .null, .null, .null, .int 0, .int 0, .int 0, .int 0]))] H := hP
  have hD : va_D A [(h, .inr (13, [.null, .null, .null, .null, .null, .null, .long 0])), (q1, .inr (10, [.null, .null, .null, .null, .null, .int 0, .int 0, .int 0, .int 0]))] := hD
  refine W.widen (k := 1) (n := 9) (by decide) (by decide) ?_
  refine lv_dup hx hb dX11_init_8 rfl ?_
  have hPc := hP.sub (ws' := [(q1, .inr (10, [.null, .null, .null, .null, .null, .int 0, .int 0, .int 0, .int 0]))]) [1] rfl
  have hKc := hK.sub (tys' := []) [] rfl
  have hDc := hD.sub (ws' := [(q1, .inr (10, [.null, .null, .null, .null, .null, .int 0, .int 0, .int 0, .int 0]))]) [1] (by decide) rfl
  have hFc := va_free (wc := [(q1, .inr (10, [.null, .null, .null, .null, .null, .int 0, .int 0, .int 0, .int 0]))]) hD hS hA [1] rfl
  refine va_callv (va_runIN (As := []) (rest := [.ref q1, .ref h]) ⟨hx, hb, hml, hown, hts⟩ (c_X7_init l dC dI q1 _) (⟨va_cnB (host := RX11) 0 hts (goodIn_sub (ws := wc_X7_init) (fun w h => (List.mem_cons_of_mem _ (List.mem_append_right _ (List.mem_append_right _ (List.mem_append_left _ h))))) (by decide +kernel)) rfl rfl rfl hH.1.1 (hts (.initialized RX7) (by decide +kernel)) (by decide +kernel) ⟨Nat.le_of_ble_eq_true rfl, Nat.le_of_ble_eq_true rfl⟩, rfl, (hts (.instanceMethod yX7_init) (by decide +kernel))⟩) ⟨fun a U g mk q => by obtain ⟨q0, q1, qP, qK, qD, qH⟩ := q; exact ⟨q0, q1, qP, va_K.moved (u := U) (U := U.calling g mk a) (Vm.Alike.refl U.vm) qK, qD, qH.blind a g mk⟩, fun U hU hW => ⟨rfl, by rw [hU], by rw [hU]; exact hPc, va_K.moved hW.alike hKc, hDc.weaken (fun _ _ _ _ => trivial), hH.warm hW⟩⟩ rfl rfl hl.1 rfl (lv_room (Nat.le_of_ble_eq_true rfl)) dX11_init_9 ⟨(Nat.le_of_ble_eq_true rfl), (Nat.le_of_ble_eq_true rfl)⟩) hS (fun q _ h => hFc q h) hFc (fun u t H1 locs ht hvm hw hB hz1 hk1 hS => ?_)
  have hP1 : va_P (dC, dI) vwCl [] H1 := fun k q h => by simp at h
  have hD1 : ∀ B : Nat → Prop, va_D B [] := fun B => ⟨fun i j p q h => by simp at h, fun k q h => by simp at h⟩
  try dsimp only at hw
  obtain ⟨hP, hD⟩ := va_join (wr := [(h, .inr (13, [.null, .null, .null, .null, .null, .null, .long 0]))]) (w1 := []) hP hD [1] [0] rfl rfl (by decide) (by decide) hk1 hFc hP1 (hD1 _)
  generalize H1 = H at hP hS ⊢
  have hP : va_P (dC, dI) vwCl [(h, .inr (13, [.null, .null, .null, .null, .null, .null, .long 0]))] H := hP
  have hD : va_D A [(h, .inr (13, [.null, .null, .null, .null, .null, .null, .long 0]))] := hD
  refine va_putF (D := (dC, dI)) (ci := 13) (v := .ref q1) (ty := (tyX11 0)) (C := RX11) (T := TX11) (N := 7) hx hb hts (fun w h => (List.mem_cons_of_mem _ (List.mem_append_right _ (List.mem_append_right _ (List.mem_append_right _ (List.mem_append_left _ h)))))) tyX11 tyX11_ok nmX11 hown hK hP hD hS 0 rfl rfl 0 (by decide) (hts (.fieldLink RX11 10 "Sequencepoint" "program" "LSequencepoint$Program;") (by decide +kernel)) (fun _ h9 => h9) rfl hin rfl (by decide +kernel) rfl rfl (Nat.le_of_ble_eq_true rfl) dX11_init_12 (fun H locs hP hD hS => ?_)
  have hP : va_P (dC, dI) vwCl [(h, .inr (13, [.ref q1, .null, .null, .null, .null, .null, .long 0]))] H := hP
  have hD : va_D A [(h, .inr (13, [.ref q1, .null, .null, .null, .null, .null, .long 0]))] := hD
  refine lv_aload_n hx hb dX11_init_15 rfl (lv_at hl 0 rfl) ?_
  refine va_new (ci := 8) (fs := [.null, .int 0, .int 0, .null, .null, .null, .null, .null, .null]) (C := RX5) (T := TX5) (N := 9) hx hb hts (fun w h => (List.mem_cons_of_mem _ (List.mem_append_right _ (List.mem_append_right _ (List.mem_append_right _ (List.mem_append_right _ (List.mem_append_left _ h))))))) tyX5 tyX5_ok hown (hts (.classLink RX11 16 RX5) (by decide +kernel)) (hts (.instantiable RX5 9) (by decide +kernel)) (hts (.initialized RX5) (by decide +kernel)) hK hP hD hS hA rfl (fun j hj => by rcases (show j = 0 ∨ j = 1 ∨ j = 2 ∨ j = 3 ∨ j = 4 ∨ j = 5 ∨ j = 6 ∨ j = 7 ∨ j = 8 by omega) with rfl | rfl | rfl | rfl | rfl | rfl | rfl | rfl | rfl <;> rfl) (Nat.le_of_ble_eq_true rfl) (Nat.le_of_ble_eq_true rfl) dX11_init_16 (fun q3 H hP hD hS => ?_)
  have hP : va_P (dC, dI) vwCl [(h, .inr (13, [.ref q1, .null, .null, .null, .null, .null, .long 0])), (q3, .inr (8, [.null, .int 0, .int 0, .null, .null, .null, .null, .null, .null]))] H := hP
  have hD : va_D A [(h, .inr (13, [.ref q1, .null, .null, .null, .null, .null, .long 0])), (q3, .inr (8, [.null, .int 0, .int 0, .null, .null, .null, .null, .null, .null]))] := hD
  refine W.widen (k := 7) (n := 294) (by decide) (by decide) ?_
  refine lv_dup hx hb dX11_init_19 rfl ?_
  have hPc := hP.sub (ws' := [(q3, .inr (8, [.null, .int 0, .int 0, .null, .null, .null, .null, .null, .null]))]) [1] rfl
  have hKc := hK.sub (tys' := []) [] rfl
  have hDc := hD.sub (ws' := [(q3, .inr (8, [.null, .int 0, .int 0, .null, .null, .null, .null, .null, .null]))]) [1] (by decide) rfl
  have hFc := va_free (wc := [(q3, .inr (8, [.null, .int 0, .int 0, .null, .null, .null, .null, .null, .null]))]) hD hS hA [1] rfl
  refine va_callv (va_runI (As := []) (rest := [.ref q3, .ref h]) ⟨hx, hb, hml, hown, hts⟩ (c_X5_init l dC dI q3 _) (cwI 0 hts (goodIn_sub (ws := wc_X5_init) (fun w h => (List.mem_cons_of_mem _ (List.mem_append_right _ (List.mem_append_right _ (List.mem_append_right _ (List.mem_append_right _ (List.mem_append_right _ (List.mem_append_left _ h)))))))) (by decide +kernel)) rfl rfl rfl (hts (.initialized RX5) (by decide +kernel)) (hts (.methodLink RX11 18 yX5_init) (by decide +kernel)) (hts (.instanceMethod yX5_init) (by decide +kernel)) rfl (by decide +kernel) ⟨Nat.le_of_ble_eq_true rfl, Nat.le_of_ble_eq_true rfl⟩) ⟨fun a U g mk q => by obtain ⟨q0, q1, qP, qK, qD, qH⟩ := q; exact ⟨q0, q1, qP, va_K.moved (u := U) (U := U.calling g mk a) (Vm.Alike.refl U.vm) qK, qD, qH.blind a g mk⟩, fun U hU hW => ⟨rfl, by rw [hU], by rw [hU]; exact hPc, va_K.moved hW.alike hKc, hDc.weaken (fun _ _ _ _ => trivial), hH.warm hW⟩⟩ rfl rfl hl.1 rfl (lv_room (Nat.le_of_ble_eq_true rfl)) dX11_init_20 ⟨(Nat.le_of_ble_eq_true rfl), (Nat.le_of_ble_eq_true rfl)⟩) hS (fun q _ h => hFc q h) hFc (fun u t H1 locs ht hvm hw hB hz1 hk1 hS => ?_)
  have hP1 : va_P (dC, dI) vwCl [] H1 := fun k q h => by simp at h
  have hD1 : ∀ B : Nat → Prop, va_D B [] := fun B => ⟨fun i j p q h => by simp at h, fun k q h => by simp at h⟩
  try dsimp only at hw
  obtain ⟨hP, hD⟩ := va_join (wr := [(h, .inr (13, [.ref q1, .null, .null, .null, .null, .null, .long 0]))]) (w1 := []) hP hD [1] [0] rfl rfl (by decide) (by decide) hk1 hFc hP1 (hD1 _)
  generalize H1 = H at hP hS ⊢
  have hP : va_P (dC, dI) vwCl [(h, .inr (13, [.ref q1, .null, .null, .null, .null, .null, .long 0]))] H := hP
  have hD : va_D A [(h, .inr (13, [.ref q1, .null, .null, .null, .null, .null, .long 0]))] := hD
  refine va_putF (D := (dC, dI)) (ci := 13) (v := .ref q3) (ty := (tyX11 1)) (C := RX11) (T := TX11) (N := 7) hx hb hts (fun w h => (List.mem_cons_of_mem _ (List.mem_append_right _ (List.mem_append_right _ (List.mem_append_right _ (List.mem_append_left _ h)))))) tyX11 tyX11_ok nmX11 hown hK hP hD hS 0 rfl rfl 1 (by decide) (hts (.fieldLink RX11 19 "Sequencepoint" "optimiser" "LSequencepoint$Optimiser;") (by decide +kernel)) (fun _ h9 => h9) rfl hin rfl (by decide +kernel) rfl rfl (Nat.le_of_ble_eq_true rfl) dX11_init_23 (fun H locs hP hD hS => ?_)
  have hP : va_P (dC, dI) vwCl [(h, .inr (13, [.ref q1, .ref q3, .null, .null, .null, .null, .long 0]))] H := hP
  have hD : va_D A [(h, .inr (13, [.ref q1, .ref q3, .null, .null, .null, .null, .long 0]))] := hD
  refine lv_aload_n hx hb dX11_init_26 rfl (lv_at hl 0 rfl) ?_
  refine va_new (ci := 5) (fs := [.null, .null, .null, .null, .int 0, .int 0, .int 0, .long 0]) (C := RX1) (T := TX1) (N := 8) hx hb hts (fun w h => (List.mem_cons_of_mem _ (List.mem_append_right _ (List.mem_append_right _ (List.mem_append_right _ (List.mem_append_right _ (List.mem_append_right _ (List.mem_append_right _ (List.mem_append_left _ h))))))))) tyX1 tyX1_ok hown (hts (.classLink RX11 23 RX1) (by decide +kernel)) (hts (.instantiable RX1 8) (by decide +kernel)) (hts (.initialized RX1) (by decide +kernel)) hK hP hD hS hA rfl (fun j hj => by rcases (show j = 0 ∨ j = 1 ∨ j = 2 ∨ j = 3 ∨ j = 4 ∨ j = 5 ∨ j = 6 ∨ j = 7 by omega) with rfl | rfl | rfl | rfl | rfl | rfl | rfl | rfl <;> rfl) (Nat.le_of_ble_eq_true rfl) (Nat.le_of_ble_eq_true rfl) dX11_init_27 (fun q5 H hP hD hS => ?_)
  have hP : va_P (dC, dI) vwCl [(h, .inr (13, [.ref q1, .ref q3, .null, .null, .null, .null, .long 0])), (q5, .inr (5, [.null, .null, .null, .null, .int 0, .int 0, .int 0, .long 0]))] H := hP
  have hD : va_D A [(h, .inr (13, [.ref q1, .ref q3, .null, .null, .null, .null, .long 0])), (q5, .inr (5, [.null, .null, .null, .null, .int 0, .int 0, .int 0, .long 0]))] := hD
  refine W.widen (k := 175) (n := 2725) (by decide) (by decide) ?_
  refine lv_dup hx hb dX11_init_30 rfl ?_
  have hPc := hP.sub (ws' := [(q5, .inr (5, [.null, .null, .null, .null, .int 0, .int 0, .int 0, .long 0]))]) [1] rfl
  have hKc := hK.sub (tys' := []) [] rfl
  have hDc := hD.sub (ws' := [(q5, .inr (5, [.null, .null, .null, .null, .int 0, .int 0, .int 0, .long 0]))]) [1] (by decide) rfl
  have hFc := va_free (wc := [(q5, .inr (5, [.null, .null, .null, .null, .int 0, .int 0, .int 0, .long 0]))]) hD hS hA [1] rfl
  refine va_callv (va_runIN (As := []) (rest := [.ref q5, .ref h]) ⟨hx, hb, hml, hown, hts⟩ (c_X1_init l dC dI q5 _) (⟨va_cnB (host := RX11) 0 hts (goodIn_sub (ws := wc_X1_init) (fun w h => (List.mem_cons_of_mem _ (List.mem_append_right _ (List.mem_append_right _ (List.mem_append_right _ (List.mem_append_right _ (List.mem_append_right _ (List.mem_append_right _ (List.mem_append_right _ (List.mem_append_left _ h)))))))))) (by decide +kernel)) rfl rfl rfl hH.1.2.1 (hts (.initialized RX1) (by decide +kernel)) (by decide +kernel) ⟨Nat.le_of_ble_eq_true rfl, Nat.le_of_ble_eq_true rfl⟩, rfl, (hts (.instanceMethod yX1_init) (by decide +kernel))⟩) ⟨fun a U g mk q => by obtain ⟨q0, q1, qP, qK, qD, qH⟩ := q; exact ⟨q0, q1, qP, va_K.moved (u := U) (U := U.calling g mk a) (Vm.Alike.refl U.vm) qK, qD, qH.blind a g mk⟩, fun U hU hW => ⟨rfl, by rw [hU], by rw [hU]; exact hPc, va_K.moved hW.alike hKc, hDc.weaken (fun _ _ _ _ => trivial), hH.warm hW⟩⟩ rfl rfl hl.1 rfl (lv_room (Nat.le_of_ble_eq_true rfl)) dX11_init_31 ⟨(Nat.le_of_ble_eq_true rfl), (Nat.le_of_ble_eq_true rfl)⟩) hS (fun q _ h => hFc q h) hFc (fun u t H1 locs ht hvm hw hB hz1 hk1 hS => ?_)
  have hP1 : va_P (dC, dI) vwCl [] H1 := fun k q h => by simp at h
  have hD1 : ∀ B : Nat → Prop, va_D B [] := fun B => ⟨fun i j p q h => by simp at h, fun k q h => by simp at h⟩
  try dsimp only at hw
  obtain ⟨hP, hD⟩ := va_join (wr := [(h, .inr (13, [.ref q1, .ref q3, .null, .null, .null, .null, .long 0]))]) (w1 := []) hP hD [1] [0] rfl rfl (by decide) (by decide) hk1 hFc hP1 (hD1 _)
  generalize H1 = H at hP hS ⊢
  have hP : va_P (dC, dI) vwCl [(h, .inr (13, [.ref q1, .ref q3, .null, .null, .null, .null, .long 0]))] H := hP
  have hD : va_D A [(h, .inr (13, [.ref q1, .ref q3, .null, .null, .null, .null, .long 0]))] := hD
  refine va_putF (D := (dC, dI)) (ci := 13) (v := .ref q5) (ty := (tyX11 2)) (C := RX11) (T := TX11) (N := 7) hx hb hts (fun w h => (List.mem_cons_of_mem _ (List.mem_append_right _ (List.mem_append_right _ (List.mem_append_right _ (List.mem_append_left _ h)))))) tyX11 tyX11_ok nmX11 hown hK hP hD hS 0 rfl rfl 2 (by decide) (hts (.fieldLink RX11 26 "Sequencepoint" "machine" "LSequencepoint$Machine;") (by decide +kernel)) (fun _ h9 => h9) rfl hin rfl (by decide +kernel) rfl rfl (Nat.le_of_ble_eq_true rfl) dX11_init_34 (fun H locs hP hD hS => ?_)
  have hP : va_P (dC, dI) vwCl [(h, .inr (13, [.ref q1, .ref q3, .ref q5, .null, .null, .null, .long 0]))] H := hP
  have hD : va_D A [(h, .inr (13, [.ref q1, .ref q3, .ref q5, .null, .null, .null, .long 0]))] := hD
  refine lv_aload_n hx hb dX11_init_37 rfl (lv_at hl 0 rfl) ?_
  refine va_new (ci := 9) (fs := [.int 0, .int 0, .int 0, .int 0, .int 0, .int 0, .null]) (C := RX6) (T := TX6) (N := 7) hx hb hts (fun w h => (List.mem_cons_of_mem _ (List.mem_append_right _ (List.mem_append_right _ (List.mem_append_right _ (List.mem_append_right _ (List.mem_append_right _ (List.mem_append_right _ (List.mem_append_right _ (List.mem_append_right _ (List.mem_append_left _ h))))))))))) tyX6 tyX6_ok hown (hts (.classLink RX11 30 RX6) (by decide +kernel)) (hts (.instantiable RX6 7) (by decide +kernel)) (hts (.initialized RX6) (by decide +kernel)) hK hP hD hS hA rfl (fun j hj => by rcases (show j = 0 ∨ j = 1 ∨ j = 2 ∨ j = 3 ∨ j = 4 ∨ j = 5 ∨ j = 6 by omega) with rfl | rfl | rfl | rfl | rfl | rfl | rfl <;> rfl) (Nat.le_of_ble_eq_true rfl) (Nat.le_of_ble_eq_true rfl) dX11_init_38 (fun q7 H hP hD hS => ?_)
  have hP : va_P (dC, dI) vwCl [(h, .inr (13, [.ref q1, .ref q3, .ref q5, .null, .null, .null, .long 0])), (q7, .inr (9, [.int 0, .int 0, .int 0, .int 0, .int 0, .int 0, .null]))] H := hP
  have hD : va_D A [(h, .inr (13, [.ref q1, .ref q3, .ref q5, .null, .null, .null, .long 0])), (q7, .inr (9, [.int 0, .int 0, .int 0, .int 0, .int 0, .int 0, .null]))] := hD
  refine W.widen (k := 186) (n := 9793) (by decide) (by decide) ?_
  refine lv_dup hx hb dX11_init_41 rfl ?_
  have hPc := hP.sub (ws' := [(q7, .inr (9, [.int 0, .int 0, .int 0, .int 0, .int 0, .int 0, .null]))]) [1] rfl
  have hKc := hK.sub (tys' := []) [] rfl
  have hDc := hD.sub (ws' := [(q7, .inr (9, [.int 0, .int 0, .int 0, .int 0, .int 0, .int 0, .null]))]) [1] (by decide) rfl
  have hFc := va_free (wc := [(q7, .inr (9, [.int 0, .int 0, .int 0, .int 0, .int 0, .int 0, .null]))]) hD hS hA [1] rfl
  refine va_callv (va_runIN (As := []) (rest := [.ref q7, .ref h]) ⟨hx, hb, hml, hown, hts⟩ (c_X6_init l dC dI q7 _) (⟨va_cnB (host := RX11) 0 hts (goodIn_sub (ws := wc_X6_init) (fun w h => (List.mem_cons_of_mem _ (List.mem_append_right _ (List.mem_append_right _ (List.mem_append_right _ (List.mem_append_right _ (List.mem_append_right _ (List.mem_append_right _ (List.mem_append_right _ (List.mem_append_right _ (List.mem_append_right _ (List.mem_append_left _ h)))))))))))) (by decide +kernel)) rfl rfl rfl hH.1.2.2.1 (hts (.initialized RX6) (by decide +kernel)) (by decide +kernel) ⟨Nat.le_of_ble_eq_true rfl, Nat.le_of_ble_eq_true rfl⟩, rfl, (hts (.instanceMethod yX6_init) (by decide +kernel))⟩) ⟨fun a U g mk q => by obtain ⟨q0, q1, qP, qK, qD⟩ := q; exact ⟨q0, q1, qP, va_K.moved (u := U) (U := U.calling g mk a) (Vm.Alike.refl U.vm) qK, qD⟩, fun U hU hW => ⟨rfl, by rw [hU], by rw [hU]; exact hPc, va_K.moved hW.alike hKc, hDc.weaken (fun _ _ _ _ => trivial)⟩⟩ rfl rfl hl.1 rfl (lv_room (Nat.le_of_ble_eq_true rfl)) dX11_init_42 ⟨(Nat.le_of_ble_eq_true rfl), (Nat.le_of_ble_eq_true rfl)⟩) hS (fun q _ h => hFc q h) hFc (fun u t H1 locs ht hvm hw hB hz1 hk1 hS => ?_)
  obtain ⟨tx_9, hP1, hK1, hD1⟩ := hB
  rw [ht] at hP1
  have hK1 := va_K.moved hvm.symm hK1
  try dsimp only at hw
  obtain ⟨hP, hD⟩ := va_join (wr := [(h, .inr (13, [.ref q1, .ref q3, .ref q5, .null, .null, .null, .long 0]))]) (w1 := [(q7, .inr (9, [.int 32, .int 32, .int 0, .int 0, .int 0, .int 0, .ref tx_9]))]) hP hD [1] [0] rfl rfl (by decide) (by decide) hk1 hFc hP1 hD1
  generalize H1 = H at hP hS ⊢
  have hP : va_P (dC, dI) vwCl [(h, .inr (13, [.ref q1, .ref q3, .ref q5, .null, .null, .null, .long 0])), (q7, .inr (9, [.int 32, .int 32, .int 0, .int 0, .int 0, .int 0, .ref tx_9]))] H := hP
  have hD : va_D A [(h, .inr (13, [.ref q1, .ref q3, .ref q5, .null, .null, .null, .long 0])), (q7, .inr (9, [.int 32, .int 32, .int 0, .int 0, .int 0, .int 0, .ref tx_9]))] := hD
  refine va_putF (D := (dC, dI)) (ci := 13) (v := .ref q7) (ty := (tyX11 3)) (C := RX11) (T := TX11) (N := 7) hx hb hts (fun w h => (List.mem_cons_of_mem _ (List.mem_append_right _ (List.mem_append_right _ (List.mem_append_right _ (List.mem_append_left _ h)))))) tyX11 tyX11_ok nmX11 hown hK hP hD hS 0 rfl rfl 3 (by decide) (hts (.fieldLink RX11 33 "Sequencepoint" "last" "LSequencepoint$Outcome;") (by decide +kernel)) (fun _ h9 => h9) rfl hin rfl (by decide +kernel) rfl rfl (Nat.le_of_ble_eq_true rfl) dX11_init_45 (fun H locs hP hD hS => ?_)
  have hP : va_P (dC, dI) vwCl [(h, .inr (13, [.ref q1, .ref q3, .ref q5, .ref q7, .null, .null, .long 0])), (q7, .inr (9, [.int 32, .int 32, .int 0, .int 0, .int 0, .int 0, .ref tx_9]))] H := hP
  have hD : va_D A [(h, .inr (13, [.ref q1, .ref q3, .ref q5, .ref q7, .null, .null, .long 0])), (q7, .inr (9, [.int 32, .int 32, .int 0, .int 0, .int 0, .int 0, .ref tx_9]))] := hD
  refine lv_aload_n hx hb dX11_init_48 rfl (lv_at hl 0 rfl) ?_
  refine va_new (ci := 9) (fs := [.int 0, .int 0, .int 0, .int 0, .int 0, .int 0, .null]) (C := RX6) (T := TX6) (N := 7) hx hb hts (fun w h => (List.mem_cons_of_mem _ (List.mem_append_right _ (List.mem_append_right _ (List.mem_append_right _ (List.mem_append_right _ (List.mem_append_right _ (List.mem_append_right _ (List.mem_append_right _ (List.mem_append_right _ (List.mem_append_left _ h))))))))))) tyX6 tyX6_ok hown (hts (.classLink RX11 30 RX6) (by decide +kernel)) (hts (.instantiable RX6 7) (by decide +kernel)) (hts (.initialized RX6) (by decide +kernel)) hK hP hD hS hA rfl (fun j hj => by rcases (show j = 0 ∨ j = 1 ∨ j = 2 ∨ j = 3 ∨ j = 4 ∨ j = 5 ∨ j = 6 by omega) with rfl | rfl | rfl | rfl | rfl | rfl | rfl <;> rfl) (Nat.le_of_ble_eq_true rfl) (Nat.le_of_ble_eq_true rfl) dX11_init_49 (fun q10 H hP hD hS => ?_)
  have hP : va_P (dC, dI) vwCl [(h, .inr (13, [.ref q1, .ref q3, .ref q5, .ref q7, .null, .null, .long 0])), (q7, .inr (9, [.int 32, .int 32, .int 0, .int 0, .int 0, .int 0, .ref tx_9])), (q10, .inr (9, [.int 0, .int 0, .int 0, .int 0, .int 0, .int 0, .null]))] H := hP
  have hD : va_D A [(h, .inr (13, [.ref q1, .ref q3, .ref q5, .ref q7, .null, .null, .long 0])), (q7, .inr (9, [.int 32, .int 32, .int 0, .int 0, .int 0, .int 0, .ref tx_9])), (q10, .inr (9, [.int 0, .int 0, .int 0, .int 0, .int 0, .int 0, .null]))] := hD
  refine W.widen (k := 188) (n := 9880) (by decide) (by decide) ?_
  refine lv_dup hx hb dX11_init_52 rfl ?_
  have hPc := hP.sub (ws' := [(q10, .inr (9, [.int 0, .int 0, .int 0, .int 0, .int 0, .int 0, .null]))]) [2] rfl
  have hKc := hK.sub (tys' := []) [] rfl
  have hDc := hD.sub (ws' := [(q10, .inr (9, [.int 0, .int 0, .int 0, .int 0, .int 0, .int 0, .null]))]) [2] (by decide) rfl
  have hFc := va_free (wc := [(q10, .inr (9, [.int 0, .int 0, .int 0, .int 0, .int 0, .int 0, .null]))]) hD hS hA [2] rfl
  refine va_callv (va_runIN (As := []) (rest := [.ref q10, .ref h]) ⟨hx, hb, hml, hown, hts⟩ (c_X6_init l dC dI q10 _) (⟨va_cnB (host := RX11) 0 hts (goodIn_sub (ws := wc_X6_init) (fun w h => (List.mem_cons_of_mem _ (List.mem_append_right _ (List.mem_append_right _ (List.mem_append_right _ (List.mem_append_right _ (List.mem_append_right _ (List.mem_append_right _ (List.mem_append_right _ (List.mem_append_right _ (List.mem_append_right _ (List.mem_append_left _ h)))))))))))) (by decide +kernel)) rfl rfl rfl hH.1.2.2.1 (hts (.initialized RX6) (by decide +kernel)) (by decide +kernel) ⟨Nat.le_of_ble_eq_true rfl, Nat.le_of_ble_eq_true rfl⟩, rfl, (hts (.instanceMethod yX6_init) (by decide +kernel))⟩) ⟨fun a U g mk q => by obtain ⟨q0, q1, qP, qK, qD⟩ := q; exact ⟨q0, q1, qP, va_K.moved (u := U) (U := U.calling g mk a) (Vm.Alike.refl U.vm) qK, qD⟩, fun U hU hW => ⟨rfl, by rw [hU], by rw [hU]; exact hPc, va_K.moved hW.alike hKc, hDc.weaken (fun _ _ _ _ => trivial)⟩⟩ rfl rfl hl.1 rfl (lv_room (Nat.le_of_ble_eq_true rfl)) dX11_init_53 ⟨(Nat.le_of_ble_eq_true rfl), (Nat.le_of_ble_eq_true rfl)⟩) hS (fun q _ h => hFc q h) hFc (fun u t H1 locs ht hvm hw hB hz1 hk1 hS => ?_)
  obtain ⟨tx_12, hP1, hK1, hD1⟩ := hB
  rw [ht] at hP1
  have hK1 := va_K.moved hvm.symm hK1
  try dsimp only at hw
  obtain ⟨hP, hD⟩ := va_join (wr := [(h, .inr (13, [.ref q1, .ref q3, .ref q5, .ref q7, .null, .null, .long 0])), (q7, .inr (9, [.int 32, .int 32, .int 0, .int 0, .int 0, .int 0, .ref tx_9]))]) (w1 := [(q10, .inr (9, [.int 32, .int 32, .int 0, .int 0, .int 0, .int 0, .ref tx_12]))]) hP hD [2] [0, 1] rfl rfl (by decide) (by decide) hk1 hFc hP1 hD1
  generalize H1 = H at hP hS ⊢
  have hP : va_P (dC, dI) vwCl [(h, .inr (13, [.ref q1, .ref q3, .ref q5, .ref q7, .null, .null, .long 0])), (q7, .inr (9, [.int 32, .int 32, .int 0, .int 0, .int 0, .int 0, .ref tx_9])), (q10, .inr (9, [.int 32, .int 32, .int 0, .int 0, .int 0, .int 0, .ref tx_12]))] H := hP
  have hD : va_D A [(h, .inr (13, [.ref q1, .ref q3, .ref q5, .ref q7, .null, .null, .long 0])), (q7, .inr (9, [.int 32, .int 32, .int 0, .int 0, .int 0, .int 0, .ref tx_9])), (q10, .inr (9, [.int 32, .int 32, .int 0, .int 0, .int 0, .int 0, .ref tx_12]))] := hD
  refine va_putF (D := (dC, dI)) (ci := 13) (v := .ref q10) (ty := (tyX11 4)) (C := RX11) (T := TX11) (N := 7) hx hb hts (fun w h => (List.mem_cons_of_mem _ (List.mem_append_right _ (List.mem_append_right _ (List.mem_append_right _ (List.mem_append_left _ h)))))) tyX11 tyX11_ok nmX11 hown hK hP hD hS 0 rfl rfl 4 (by decide) (hts (.fieldLink RX11 37 "Sequencepoint" "tried" "LSequencepoint$Outcome;") (by decide +kernel)) (fun _ h9 => h9) rfl hin rfl (by decide +kernel) rfl rfl (Nat.le_of_ble_eq_true rfl) dX11_init_56 (fun H locs hP hD hS => ?_)
  have hP : va_P (dC, dI) vwCl [(h, .inr (13, [.ref q1, .ref q3, .ref q5, .ref q7, .ref q10, .null, .long 0])), (q7, .inr (9, [.int 32, .int 32, .int 0, .int 0, .int 0, .int 0, .ref tx_9])), (q10, .inr (9, [.int 32, .int 32, .int 0, .int 0, .int 0, .int 0, .ref tx_12]))] H := hP
  have hD : va_D A [(h, .inr (13, [.ref q1, .ref q3, .ref q5, .ref q7, .ref q10, .null, .long 0])), (q7, .inr (9, [.int 32, .int 32, .int 0, .int 0, .int 0, .int 0, .ref tx_9])), (q10, .inr (9, [.int 32, .int 32, .int 0, .int 0, .int 0, .int 0, .ref tx_12]))] := hD
  refine lv_aload_n hx hb dX11_init_59 rfl (lv_at hl 0 rfl) ?_
  refine lv_bipush (v := 16) hx hb dX11_init_60 (by decide) ?_
  refine va_newq (C := RX6) (N' := 16) hx hb hown (hts (.classLink RX11 30 RX6) (by decide +kernel)) hH.2.2.2.2.2 hK hP hD hS hA (by decide) (by decide) (Nat.le_of_ble_eq_true rfl) (Nat.le_of_ble_eq_true rfl) (Nat.le_of_ble_eq_true rfl) dX11_init_62 (fun q13 cA14 H hK hP hD hS => ?_)
  have hK : va_K (dC, dI) vwCl [(cA14, .object "Sequencepoint$Outcome")] s := hK
  have hP : va_P (dC, dI) vwCl [(h, .inr (13, [.ref q1, .ref q3, .ref q5, .ref q7, .ref q10, .null, .long 0])), (q7, .inr (9, [.int 32, .int 32, .int 0, .int 0, .int 0, .int 0, .ref tx_9])), (q10, .inr (9, [.int 32, .int 32, .int 0, .int 0, .int 0, .int 0, .ref tx_12])), (q13, .inl (cA14, 16, .inr (.inr (.inr (.inr (fun _ => none))))))] H := hP
  have hD : va_D A [(h, .inr (13, [.ref q1, .ref q3, .ref q5, .ref q7, .ref q10, .null, .long 0])), (q7, .inr (9, [.int 32, .int 32, .int 0, .int 0, .int 0, .int 0, .ref tx_9])), (q10, .inr (9, [.int 32, .int 32, .int 0, .int 0, .int 0, .int 0, .ref tx_12])), (q13, .inl (cA14, 16, .inr (.inr (.inr (.inr (fun _ => none))))))] := hD
  refine W.widen (k := 190) (n := 9976) (by decide) (by decide) ?_
  refine va_putF (D := (dC, dI)) (ci := 13) (v := .ref q13) (ty := (tyX11 5)) (C := RX11) (T := TX11) (N := 7) hx hb hts (fun w h => (List.mem_cons_of_mem _ (List.mem_append_right _ (List.mem_append_right _ (List.mem_append_right _ (List.mem_append_left _ h)))))) tyX11 tyX11_ok nmX11 hown hK hP hD hS 0 rfl rfl 5 (by decide) (hts (.fieldLink RX11 40 "Sequencepoint" "outcomes" "[LSequencepoint$Outcome;") (by decide +kernel)) (fun _ h9 => h9) rfl hin rfl (by decide +kernel) rfl rfl (Nat.le_of_ble_eq_true rfl) dX11_init_65 (fun H locs hP hD hS => ?_)
  have hP : va_P (dC, dI) vwCl [(h, .inr (13, [.ref q1, .ref q3, .ref q5, .ref q7, .ref q10, .ref q13, .long 0])), (q7, .inr (9, [.int 32, .int 32, .int 0, .int 0, .int 0, .int 0, .ref tx_9])), (q10, .inr (9, [.int 32, .int 32, .int 0, .int 0, .int 0, .int 0, .ref tx_12])), (q13, .inl (cA14, 16, .inr (.inr (.inr (.inr (fun _ => none))))))] H := hP
  have hD : va_D A [(h, .inr (13, [.ref q1, .ref q3, .ref q5, .ref q7, .ref q10, .ref q13, .long 0])), (q7, .inr (9, [.int 32, .int 32, .int 0, .int 0, .int 0, .int 0, .ref tx_9])), (q10, .inr (9, [.int 32, .int 32, .int 0, .int 0, .int 0, .int 0, .ref tx_12])), (q13, .inl (cA14, 16, .inr (.inr (.inr (.inr (fun _ => none))))))] := hD
  refine lv_iconst (v := 0) hx hb dX11_init_68 (by decide) ?_
  refine lv_istore_n (lv' := [(1, .int 0), (0, .ref h)]) hx hb dX11_init_69 rfl hl (by decide) rfl (fun ls hl => ?_)
  generalize hQlp15 : (MQ below _ _ _ _ _ _) = Q
  have lp15 : ∀ (n i : Nat), i + n = 16 → ∀ (f_3 : Nat → Option Nat) (H : Heap) (locs : List Loc) (ls : Array Slot), va_P (dC, dI) vwCl [(h, .inr (13, [.ref q1, .ref q3, .ref q5, .ref q7, .ref q10, .ref q13, .long 0])), (q7, .inr (9, [.int 32, .int 32, .int 0, .int 0, .int 0, .int 0, .ref tx_9])), (q10, .inr (9, [.int 32, .int 32, .int 0, .int 0, .int 0, .int 0, .ref tx_12])), (q13, .inl (cA14, 16, .inr (.inr (.inr (.inr f_3)))))] H → va_D A [(h, .inr (13, [.ref q1, .ref q3, .ref q5, .ref q7, .ref q10, .ref q13, .long 0])), (q7, .inr (9, [.int 32, .int 32, .int 0, .int 0, .int 0, .int 0, .ref tx_9])), (q10, .inr (9, [.int 32, .int 32, .int 0, .int 0, .int 0, .int 0, .ref tx_12])), (q13, .inl (cA14, 16, .inr (.inr (.inr (.inr f_3)))))] → va_S A s.heap H locs → lv_has ls 2 [(1, .int (nI i)), (0, .ref h)] → W p l e (headSpec wc_X11_init ({ frames := 3, cells := 222, slots := 11368, locals := 56 })).room s m #[.ref h] below meth c H locs (190 + 2 * i) (9976 + 87 * i) Q (F0 m 70 ls []) := by
    intro n
    induction n with
    | zero =>
      intro i hi f_3 H locs ls hP hD hS hl
      obtain rfl : i = 16 := by omega
      rw [show 190 + 2 * 16 = 222 from rfl, show 9976 + 87 * 16 = 11368 from rfl]
      rw [← hQlp15]
      refine lv_iload_n hx hb dX11_init_70 rfl (lv_at hl 0 rfl) ?_
      refine lv_bipush (v := 16) hx hb dX11_init_71 (by decide) ?_
      refine lv_icmp_ge (tgt := 95) hx hb dX11_init_73 (by decide) (fun c_16 => ?_) (fun c_16 => absurd (by decide) c_16)
      have hP9 := hP.sub (ws' := [(h, .inr (13, [.ref q1, .ref q3, .ref q5, .ref q7, .ref q10, .ref q13, .long 0]))]) [0] rfl
      have hD9 := hD.sub (ws' := [(h, .inr (13, [.ref q1, .ref q3, .ref q5, .ref q7, .ref q10, .ref q13, .long 0]))]) [0] (by decide) rfl
      have hK9 := hK.sub (tys' := []) [] rfl
      exact W.vret hx hb hr (fun t ht hW => ⟨⟨(), rfl, trivial, ⟨q1, q3, q5, q7, q10, q13, by rw [ht]; exact hP9, va_K.moved hW.alike hK9, hD9⟩⟩, hS.F ht⟩) hS.2.2 dX11_init_95
    | succ n ih =>
      intro i hi f_3 H locs ls hP hD hS hl
      refine lv_iload_n hx hb dX11_init_70 rfl (lv_at hl 0 rfl) ?_
      refine lv_bipush (v := 16) hx hb dX11_init_71 (by decide) ?_
      refine lv_icmp_ge (tgt := 95) hx hb dX11_init_73 (by decide) (fun c_17 => absurd c_17 (nI_ge (b := 16) (by omega) (by decide))) (fun c_17 => ?_)
      refine lv_aload_n hx hb dX11_init_76 rfl (lv_at hl 1 rfl) ?_
      refine va_get (D := (dC, dI)) (ci := 13) (v := .ref q13) (C := RX11) (T := TX11) (N := 7) hx hb hts (fun w h => (List.mem_cons_of_mem _ (List.mem_append_right _ (List.mem_append_right _ (List.mem_append_right _ (List.mem_append_left _ h)))))) hown hK hP 0 rfl rfl 5 (by decide) (hts (.fieldLink RX11 40 "Sequencepoint" "outcomes" "[LSequencepoint$Outcome;") (by decide +kernel)) (fun _ h9 => h9) rfl dX11_init_77 ?_
      refine lv_iload_n hx hb dX11_init_80 rfl (lv_at hl 0 rfl) ?_
      refine va_new (ci := 9) (fs := [.int 0, .int 0, .int 0, .int 0, .int 0, .int 0, .null]) (C := RX6) (T := TX6) (N := 7) hx hb hts (fun w h => (List.mem_cons_of_mem _ (List.mem_append_right _ (List.mem_append_right _ (List.mem_append_right _ (List.mem_append_right _ (List.mem_append_right _ (List.mem_append_right _ (List.mem_append_right _ (List.mem_append_right _ (List.mem_append_left _ h))))))))))) tyX6 tyX6_ok hown (hts (.classLink RX11 30 RX6) (by decide +kernel)) (hts (.instantiable RX6 7) (by decide +kernel)) (hts (.initialized RX6) (by decide +kernel)) hK hP hD hS hA rfl (fun j hj => by rcases (show j = 0 ∨ j = 1 ∨ j = 2 ∨ j = 3 ∨ j = 4 ∨ j = 5 ∨ j = 6 by omega) with rfl | rfl | rfl | rfl | rfl | rfl | rfl <;> rfl) (show 190 + 2 * i + 1 ≤ 222 by omega) (show 9976 + 87 * i + 7 ≤ 11368 by omega) dX11_init_81 (fun q18 H hP hD hS => ?_)
      have hP : va_P (dC, dI) vwCl [(h, .inr (13, [.ref q1, .ref q3, .ref q5, .ref q7, .ref q10, .ref q13, .long 0])), (q7, .inr (9, [.int 32, .int 32, .int 0, .int 0, .int 0, .int 0, .ref tx_9])), (q10, .inr (9, [.int 32, .int 32, .int 0, .int 0, .int 0, .int 0, .ref tx_12])), (q13, .inl (cA14, 16, .inr (.inr (.inr (.inr f_3))))), (q18, .inr (9, [.int 0, .int 0, .int 0, .int 0, .int 0, .int 0, .null]))] H := hP
      have hD : va_D A [(h, .inr (13, [.ref q1, .ref q3, .ref q5, .ref q7, .ref q10, .ref q13, .long 0])), (q7, .inr (9, [.int 32, .int 32, .int 0, .int 0, .int 0, .int 0, .ref tx_9])), (q10, .inr (9, [.int 32, .int 32, .int 0, .int 0, .int 0, .int 0, .ref tx_12])), (q13, .inl (cA14, 16, .inr (.inr (.inr (.inr f_3))))), (q18, .inr (9, [.int 0, .int 0, .int 0, .int 0, .int 0, .int 0, .null]))] := hD
      refine lv_dup hx hb dX11_init_84 rfl ?_
      have hPc := hP.sub (ws' := [(q18, .inr (9, [.int 0, .int 0, .int 0, .int 0, .int 0, .int 0, .null]))]) [4] rfl
      have hKc := hK.sub (tys' := []) [] rfl
      have hDc := hD.sub (ws' := [(q18, .inr (9, [.int 0, .int 0, .int 0, .int 0, .int 0, .int 0, .null]))]) [4] (by decide) rfl
      have hFc := va_free (wc := [(q18, .inr (9, [.int 0, .int 0, .int 0, .int 0, .int 0, .int 0, .null]))]) hD hS hA [4] rfl
      refine va_callv (va_runIN (As := []) (rest := [.ref q18, .int (nI i), .ref q13]) ⟨hx, hb, hml, hown, hts⟩ (c_X6_init l dC dI q18 _) (⟨va_cnB (host := RX11) 0 hts (goodIn_sub (ws := wc_X6_init) (fun w h => (List.mem_cons_of_mem _ (List.mem_append_right _ (List.mem_append_right _ (List.mem_append_right _ (List.mem_append_right _ (List.mem_append_right _ (List.mem_append_right _ (List.mem_append_right _ (List.mem_append_right _ (List.mem_append_right _ (List.mem_append_left _ h)))))))))))) (by decide +kernel)) rfl rfl rfl hH.1.2.2.1 (hts (.initialized RX6) (by decide +kernel)) (by decide +kernel) ⟨Nat.le_of_ble_eq_true rfl, Nat.le_of_ble_eq_true rfl⟩, rfl, (hts (.instanceMethod yX6_init) (by decide +kernel))⟩) ⟨fun a U g mk q => by obtain ⟨q0, q1, qP, qK, qD⟩ := q; exact ⟨q0, q1, qP, va_K.moved (u := U) (U := U.calling g mk a) (Vm.Alike.refl U.vm) qK, qD⟩, fun U hU hW => ⟨rfl, by rw [hU], by rw [hU]; exact hPc, va_K.moved hW.alike hKc, hDc.weaken (fun _ _ _ _ => trivial)⟩⟩ rfl rfl hl.1 rfl (lv_room (Nat.le_of_ble_eq_true rfl)) dX11_init_85 ⟨(show 190 + 2 * i + 1 + 1 ≤ 222 by omega), (show 9976 + 87 * i + 7 + 80 ≤ 11368 by omega)⟩) hS (fun q _ h => hFc q h) hFc (fun u t H1 locs ht hvm hw hB hz1 hk1 hS => ?_)
      obtain ⟨tx_20, hP1, hK1, hD1⟩ := hB
      rw [ht] at hP1
      have hK1 := va_K.moved hvm.symm hK1
      try dsimp only at hw
      obtain ⟨hP, hD⟩ := va_join (wr := [(h, .inr (13, [.ref q1, .ref q3, .ref q5, .ref q7, .ref q10, .ref q13, .long 0])), (q7, .inr (9, [.int 32, .int 32, .int 0, .int 0, .int 0, .int 0, .ref tx_9])), (q10, .inr (9, [.int 32, .int 32, .int 0, .int 0, .int 0, .int 0, .ref tx_12])), (q13, .inl (cA14, 16, .inr (.inr (.inr (.inr f_3)))))]) (w1 := [(q18, .inr (9, [.int 32, .int 32, .int 0, .int 0, .int 0, .int 0, .ref tx_20]))]) hP hD [4] [0, 1, 2, 3] rfl rfl (by decide) (by decide) hk1 hFc hP1 hD1
      generalize H1 = H at hP hS ⊢
      have hP : va_P (dC, dI) vwCl [(h, .inr (13, [.ref q1, .ref q3, .ref q5, .ref q7, .ref q10, .ref q13, .long 0])), (q7, .inr (9, [.int 32, .int 32, .int 0, .int 0, .int 0, .int 0, .ref tx_9])), (q10, .inr (9, [.int 32, .int 32, .int 0, .int 0, .int 0, .int 0, .ref tx_12])), (q13, .inl (cA14, 16, .inr (.inr (.inr (.inr f_3))))), (q18, .inr (9, [.int 32, .int 32, .int 0, .int 0, .int 0, .int 0, .ref tx_20]))] H := hP
      have hD : va_D A [(h, .inr (13, [.ref q1, .ref q3, .ref q5, .ref q7, .ref q10, .ref q13, .long 0])), (q7, .inr (9, [.int 32, .int 32, .int 0, .int 0, .int 0, .int 0, .ref tx_9])), (q10, .inr (9, [.int 32, .int 32, .int 0, .int 0, .int 0, .int 0, .ref tx_12])), (q13, .inl (cA14, 16, .inr (.inr (.inr (.inr f_3))))), (q18, .inr (9, [.int 32, .int 32, .int 0, .int 0, .int 0, .int 0, .ref tx_20]))] := hD
      refine va_astq hx hb hK hP hD hS 3 0 4 9 rfl rfl rfl rfl (vp_in_nI (by omega) (by decide)) dX11_init_88 (fun H locs hP hD hS => ?_)
      have hP : va_P (dC, dI) vwCl [(h, .inr (13, [.ref q1, .ref q3, .ref q5, .ref q7, .ref q10, .ref q13, .long 0])), (q7, .inr (9, [.int 32, .int 32, .int 0, .int 0, .int 0, .int 0, .ref tx_9])), (q10, .inr (9, [.int 32, .int 32, .int 0, .int 0, .int 0, .int 0, .ref tx_12])), (q13, .inl (cA14, 16, .inr (.inr (.inr (.inr (va_up f_3 ((nI i).toNatClampNeg) (some q18))))))), (q18, .inr (9, [.int 32, .int 32, .int 0, .int 0, .int 0, .int 0, .ref tx_20]))] H := hP
      have hD : va_D A [(h, .inr (13, [.ref q1, .ref q3, .ref q5, .ref q7, .ref q10, .ref q13, .long 0])), (q7, .inr (9, [.int 32, .int 32, .int 0, .int 0, .int 0, .int 0, .ref tx_9])), (q10, .inr (9, [.int 32, .int 32, .int 0, .int 0, .int 0, .int 0, .ref tx_12])), (q13, .inl (cA14, 16, .inr (.inr (.inr (.inr (va_up f_3 ((nI i).toNatClampNeg) (some q18))))))), (q18, .inr (9, [.int 32, .int 32, .int 0, .int 0, .int 0, .int 0, .ref tx_20]))] := hD
      refine lv_iinc (v := (nI (i + 1))) (lv' := [(1, .int (nI (i + 1))), (0, .ref h)]) hx hb dX11_init_89 hl (k := 0) rfl (nI_1 i) (by decide) rfl (fun ls hl => ?_)
      refine lv_goto (tgt := 70) hx hb dX11_init_92 (by decide) ?_
      refine W.widen (k := 190 + 2 * (i + 1)) (n := 9976 + 87 * (i + 1)) (by omega) (by omega) ?_
      exact ih (i + 1) (by omega) _ _ _ _ (hP.sub [0, 1, 2, 3] rfl) (hD.sub [0, 1, 2, 3] (by decide) rfl) hS (lv_sub hl [0, 1] rfl)
  exact lp15 16 0 (by omega) _ _ _ _ hP hD hS hl

def nm (U : State) : Prop := va_AO RX16 U ∧ va_AO RX14 U
theorem nm.warm {s U : State} (hW : s.WarmedH U.vm) (h : nm s) : nm U := ⟨va_AO.moved hW.alike h.1, va_AO.moved hW.alike h.2⟩
theorem nm.blind {U : State} (a : Array Value) (g : JFrame) (mk : MethodId) (h : nm U) : nm (U.calling g mk a) := ⟨va_AO.moved (u := U) (Vm.Alike.refl U.vm) h.1, va_AO.moved (u := U) (Vm.Alike.refl U.vm) h.2⟩
def wc_X18_init : List Cond := .code yX18_init cX18_init 1 none :: ([.methodLink RX18 1 objectInit, .instanceMethod objectInit, .code objectInit ⟨#[0xb1]⟩ 1 none, .arrayClass .int, .fieldLink RX18 9 "SequencepointModel" "type" "[I", .fieldLink RX18 13 "SequencepointModel" "length" "[I", .arrayClass .boolean, .fieldLink RX18 16 "SequencepointModel" "isGlobal" "[Z", .fieldLink RX18 20 "SequencepointModel" "result" "[I", .fieldLink RX18 23 "SequencepointModel" "first" "[I", .fieldLink RX18 26 "SequencepointModel" "second" "[I", .classLink RX18 29 RX16, .fieldLink RX18 31 "SequencepointModel" "body" "[LSequencepointModel$Statement;", .classLink RX18 35 RX14, .fieldLink RX18 37 "SequencepointModel" "node" "[LSequencepointModel$Node;", .fieldLink RX18 41 "SequencepointModel" "statement" "[LSequencepointModel$Statement;"] ++ (wsX180 ++ []))
set_option maxHeartbeats 4000000 in
set_option maxRecDepth 100000 in
theorem c_X18_init (l : Launch) (dC : Nat → ClassId) (dI : Nat → Nat → Nat) (h : Nat) (sz : Nat) : Met l yX18_init wc_X18_init ({ frames := 1, cells := 9, slots := 202, locals := 12 }) (va_Pc [.ref h] (fun U => U.heap.size = sz ∧ va_P (dC, dI) vwCl [(h, .inr (20, [.null, .null, .null, .int 0, .int 0, .int 0, .int 0, .null, .null, .null, .null, .null, .null, .null, .long 0, .int 0, .int 0, .int 0]))] U.heap ∧ va_K (dC, dI) vwCl [] U ∧ va_D (fun _ => True) [(h, .inr (20, [.null, .null, .null, .int 0, .int 0, .int 0, .int 0, .null, .null, .null, .null, .null, .null, .null, .long 0, .int 0, .int 0, .int 0]))] ∧ nm U)) (va_Qv (fun _ : Unit => True) (fun _ t => (∃ m0 : Nat, ∃ m1 : Nat, ∃ m2 : Nat, ∃ m7 : Nat, ∃ m8 : Nat, ∃ m9 : Nat, ∃ m10 : Nat, ∃ m11 : Nat, ∃ m12 : Nat, va_P (dC, dI) vwCl [(h, .inr (20, [.ref m0, .ref m1, .ref m2, .int 0, .int 0, .int 0, .int 0, .ref m7, .ref m8, .ref m9, .ref m10, .ref m11, .ref m12, .null, .long 0, .int 0, .int 0, .int 0]))] t.heap ∧ va_K (dC, dI) vwCl [] t ∧ va_D (va_A [(h, .inr (20, [.null, .null, .null, .int 0, .int 0, .int 0, .int 0, .null, .null, .null, .null, .null, .null, .null, .long 0, .int 0, .int 0, .int 0]))] sz) [(h, .inr (20, [.ref m0, .ref m1, .ref m2, .int 0, .int 0, .int 0, .int 0, .ref m7, .ref m8, .ref m9, .ref m10, .ref m11, .ref m12, .null, .long 0, .int 0, .int 0, .int 0]))])) (va_A [(h, .inr (20, [.null, .null, .null, .int 0, .int 0, .int 0, .int 0, .null, .null, .null, .null, .null, .null, .null, .long 0, .int 0, .int 0, .int 0]))] sz)) 9 202 (va_A [(h, .inr (20, [.null, .null, .null, .int 0, .int 0, .int 0, .int 0, .null, .null, .null, .null, .null, .null, .null, .long 0, .int 0, .int 0, .int 0]))] sz) := by
  refine Met.ofW (cc := cX18_init) (maxL := 1) (ret := none) (by decide) rfl ?_
  intro p e s m args below meth c s₁ B hml hv
  obtain ⟨rfl, hsz, hP, hK, hD0, hH⟩ := hv
  have hx := B.exec
  have hb := B.bytes
  have hr := B.returns
  have hts := atoms_spec (ws := wc_X18_init) B.pre
  have hown : s.vm.findClass RX18 = some m.cls := findClass_of_methodNamed B.named
  have hlocks := B.notSynchronized
  have hin : meth.name = "<init>" := (name_of_methodNamed B.named B.method).1
  subst hsz
  have hD := hD0.self (sz := s.heap.size)
  generalize hAe : va_A [(h, .inr (20, [.null, .null, .null, .int 0, .int 0, .int 0, .int 0, .null, .null, .null, .null, .null, .null, .null, .long 0, .int 0, .int 0, .int 0]))] s.heap.size = A at hD ⊢
  have hA : ∀ q : Nat, s.heap.size ≤ q → A q := fun q h => by rw [← hAe]; exact Or.inr h
  have hS : va_S A s.heap s.heap [] := va_S.rf
  have hP : va_P (dC, dI) vwCl [(h, .inr (20, [.null, .null, .null, .int 0, .int 0, .int 0, .int 0, .null, .null, .null, .null, .null, .null, .null, .long 0, .int 0, .int 0, .int 0]))] s.heap := hP
  have hl := lv_entry ([.ref h]) (n := 1) (Nat.le_of_ble_eq_true rfl)
  rw [lg_entry_eq]
  generalize (lg_sl ([.ref h]) ++ List.replicate (1 - (lg_sl ([.ref h])).length) Slot.unset).toArray = ls at hl ⊢
  have hl : lv_has ls 1 [(0, .ref h)] := hl
  refine lv_aload_n hx hb dX18_init_0 rfl (lv_at hl 0 rfl) ?_
  refine W.objInit hx hb hown (hts (.methodLink RX18 1 objectInit) (by decide +kernel)) (hts (.instanceMethod objectInit) (by decide +kernel)) (hts (.code objectInit ⟨#[0xb1]⟩ 1 none) (by decide +kernel)) rfl (by rw [hml]; exact hl.1) rfl dX18_init_1 (Nat.le_of_ble_eq_true rfl) (Nat.le_of_ble_eq_true rfl) ?_
  refine W.eq (g2 := F0 m 4 ls []) rfl ?_
  refine lv_aload_n hx hb dX18_init_4 rfl (lv_at hl 0 rfl) ?_
  refine lv_bipush (v := 10) hx hb dX18_init_5 (by decide) ?_
  refine va_newa (atype := .int) (ty := .int) (a0 := (10, .inl (fun _ => (0 : Int32)))) (N' := 10) hx hb (hts (.arrayClass .int) (by decide +kernel)) rfl hK hP hD hS hA (fun _ => rfl) (by decide) (by decide) (Nat.le_of_ble_eq_true rfl) (Nat.le_of_ble_eq_true rfl) (Nat.le_of_ble_eq_true rfl) dX18_init_7 (fun q1 cA2 H hK hP hD hS => ?_)
  have hK : va_K (dC, dI) vwCl [(cA2, .int)] s := hK
  have hP : va_P (dC, dI) vwCl [(h, .inr (20, [.null, .null, .null, .int 0, .int 0, .int 0, .int 0, .null, .null, .null, .null, .null, .null, .null, .long 0, .int 0, .int 0, .int 0])), (q1, .inl (cA2, 10, .inl (fun _ => (0 : Int32))))] H := hP
  have hD : va_D A [(h, .inr (20, [.null, .null, .null, .int 0, .int 0, .int 0, .int 0, .null, .null, .null, .null, .null, .null, .null, .long 0, .int 0, .int 0, .int 0])), (q1, .inl (cA2, 10, .inl (fun _ => (0 : Int32))))] := hD
  refine W.widen (k := 1) (n := 10) (by decide) (by decide) ?_
  refine va_putF (D := (dC, dI)) (ci := 20) (v := .ref q1) (ty := (tyX18 0)) (C := RX18) (T := TX18) (N := 18) hx hb hts (fun w h => (List.mem_cons_of_mem _ (List.mem_append_right _ (List.mem_append_left _ h)))) tyX18 tyX18_ok nmX18 hown hK hP hD hS 0 rfl rfl 0 (by decide) (hts (.fieldLink RX18 9 "SequencepointModel" "type" "[I") (by decide +kernel)) (fun _ h9 => h9) rfl hin rfl (by decide +kernel) rfl rfl (Nat.le_of_ble_eq_true rfl) dX18_init_9 (fun H locs hP hD hS => ?_)
  have hP : va_P (dC, dI) vwCl [(h, .inr (20, [.ref q1, .null, .null, .int 0, .int 0, .int 0, .int 0, .null, .null, .null, .null, .null, .null, .null, .long 0, .int 0, .int 0, .int 0])), (q1, .inl (cA2, 10, .inl (fun _ => (0 : Int32))))] H := hP
  have hD : va_D A [(h, .inr (20, [.ref q1, .null, .null, .int 0, .int 0, .int 0, .int 0, .null, .null, .null, .null, .null, .null, .null, .long 0, .int 0, .int 0, .int 0])), (q1, .inl (cA2, 10, .inl (fun _ => (0 : Int32))))] := hD
  refine lv_aload_n hx hb dX18_init_12 rfl (lv_at hl 0 rfl) ?_
  refine lv_bipush (v := 10) hx hb dX18_init_13 (by decide) ?_
  refine va_newa (atype := .int) (ty := .int) (a0 := (10, .inl (fun _ => (0 : Int32)))) (N' := 10) hx hb (hts (.arrayClass .int) (by decide +kernel)) rfl hK hP hD hS hA (fun _ => rfl) (by decide) (by decide) (Nat.le_of_ble_eq_true rfl) (Nat.le_of_ble_eq_true rfl) (Nat.le_of_ble_eq_true rfl) dX18_init_15 (fun q3 cA4 H hK hP hD hS => ?_)
  have hK : va_K (dC, dI) vwCl [(cA2, .int), (cA4, .int)] s := hK
  have hP : va_P (dC, dI) vwCl [(h, .inr (20, [.ref q1, .null, .null, .int 0, .int 0, .int 0, .int 0, .null, .null, .null, .null, .null, .null, .null, .long 0, .int 0, .int 0, .int 0])), (q1, .inl (cA2, 10, .inl (fun _ => (0 : Int32)))), (q3, .inl (cA4, 10, .inl (fun _ => (0 : Int32))))] H := hP
  have hD : va_D A [(h, .inr (20, [.ref q1, .null, .null, .int 0, .int 0, .int 0, .int 0, .null, .null, .null, .null, .null, .null, .null, .long 0, .int 0, .int 0, .int 0])), (q1, .inl (cA2, 10, .inl (fun _ => (0 : Int32)))), (q3, .inl (cA4, 10, .inl (fun _ => (0 : Int32))))] := hD
  refine W.widen (k := 2) (n := 20) (by decide) (by decide) ?_
  refine va_putF (D := (dC, dI)) (ci := 20) (v := .ref q3) (ty := (tyX18 1)) (C := RX18) (T := TX18) (N := 18) hx hb hts (fun w h => (List.mem_cons_of_mem _ (List.mem_append_right _ (List.mem_append_left _ h)))) tyX18 tyX18_ok nmX18 hown hK hP hD hS 0 rfl rfl 1 (by decide) (hts (.fieldLink RX18 13 "SequencepointModel" "length" "[I") (by decide +kernel)) (fun _ h9 => h9) rfl hin rfl (by decide +kernel) rfl rfl (Nat.le_of_ble_eq_true rfl) dX18_init_17 (fun H locs hP hD hS => ?_)
  have hP : va_P (dC, dI) vwCl [(h, .inr (20, [.ref q1, .ref q3, .null, .int 0, .int 0, .int 0, .int 0, .null, .null, .null, .null, .null, .null, .null, .long 0, .int 0, .int 0, .int 0])), (q1, .inl (cA2, 10, .inl (fun _ => (0 : Int32)))), (q3, .inl (cA4, 10, .inl (fun _ => (0 : Int32))))] H := hP
  have hD : va_D A [(h, .inr (20, [.ref q1, .ref q3, .null, .int 0, .int 0, .int 0, .int 0, .null, .null, .null, .null, .null, .null, .null, .long 0, .int 0, .int 0, .int 0])), (q1, .inl (cA2, 10, .inl (fun _ => (0 : Int32)))), (q3, .inl (cA4, 10, .inl (fun _ => (0 : Int32))))] := hD
  refine lv_aload_n hx hb dX18_init_20 rfl (lv_at hl 0 rfl) ?_
  refine lv_bipush (v := 10) hx hb dX18_init_21 (by decide) ?_
  refine va_newa (atype := .boolean) (ty := .boolean) (a0 := (10, .inl (fun _ => (0 : Int32)))) (N' := 10) hx hb (hts (.arrayClass .boolean) (by decide +kernel)) rfl hK hP hD hS hA (fun _ => rfl) (by decide) (by decide) (Nat.le_of_ble_eq_true rfl) (Nat.le_of_ble_eq_true rfl) (Nat.le_of_ble_eq_true rfl) dX18_init_23 (fun q5 cA6 H hK hP hD hS => ?_)
  have hK : va_K (dC, dI) vwCl [(cA2, .int), (cA4, .int), (cA6, .boolean)] s := hK
  have hP : va_P (dC, dI) vwCl [(h, .inr (20, [.ref q1, .ref q3, .null, .int 0, .int 0, .int 0, .int 0, .null, .null, .null, .null, .null, .null, .null, .long 0, .int 0, .int 0, .int 0])), (q1, .inl (cA2, 10, .inl (fun _ => (0 : Int32)))), (q3, .inl (cA4, 10, .inl (fun _ => (0 : Int32)))), (q5, .inl (cA6, 10, .inl (fun _ => (0 : Int32))))] H := hP
  have hD : va_D A [(h, .inr (20, [.ref q1, .ref q3, .null, .int 0, .int 0, .int 0, .int 0, .null, .null, .null, .null, .null, .null, .null, .long 0, .int 0, .int 0, .int 0])), (q1, .inl (cA2, 10, .inl (fun _ => (0 : Int32)))), (q3, .inl (cA4, 10, .inl (fun _ => (0 : Int32)))), (q5, .inl (cA6, 10, .inl (fun _ => (0 : Int32))))] := hD
  refine W.widen (k := 3) (n := 30) (by decide) (by decide) ?_
  refine va_putF (D := (dC, dI)) (ci := 20) (v := .ref q5) (ty := (tyX18 2)) (C := RX18) (T := TX18) (N := 18) hx hb hts (fun w h => (List.mem_cons_of_mem _ (List.mem_append_right _ (List.mem_append_left _ h)))) tyX18 tyX18_ok nmX18 hown hK hP hD hS 0 rfl rfl 2 (by decide) (hts (.fieldLink RX18 16 "SequencepointModel" "isGlobal" "[Z") (by decide +kernel)) (fun _ h9 => h9) rfl hin rfl (by decide +kernel) rfl rfl (Nat.le_of_ble_eq_true rfl) dX18_init_25 (fun H locs hP hD hS => ?_)
  have hP : va_P (dC, dI) vwCl [(h, .inr (20, [.ref q1, .ref q3, .ref q5, .int 0, .int 0, .int 0, .int 0, .null, .null, .null, .null, .null, .null, .null, .long 0, .int 0, .int 0, .int 0])), (q1, .inl (cA2, 10, .inl (fun _ => (0 : Int32)))), (q3, .inl (cA4, 10, .inl (fun _ => (0 : Int32)))), (q5, .inl (cA6, 10, .inl (fun _ => (0 : Int32))))] H := hP
  have hD : va_D A [(h, .inr (20, [.ref q1, .ref q3, .ref q5, .int 0, .int 0, .int 0, .int 0, .null, .null, .null, .null, .null, .null, .null, .long 0, .int 0, .int 0, .int 0])), (q1, .inl (cA2, 10, .inl (fun _ => (0 : Int32)))), (q3, .inl (cA4, 10, .inl (fun _ => (0 : Int32)))), (q5, .inl (cA6, 10, .inl (fun _ => (0 : Int32))))] := hD
  refine lv_aload_n hx hb dX18_init_28 rfl (lv_at hl 0 rfl) ?_
  refine lv_iconst (v := 3) hx hb dX18_init_29 (by decide) ?_
  refine va_newa (atype := .int) (ty := .int) (a0 := (3, .inl (fun _ => (0 : Int32)))) (N' := 3) hx hb (hts (.arrayClass .int) (by decide +kernel)) rfl hK hP hD hS hA (fun _ => rfl) (by decide) (by decide) (Nat.le_of_ble_eq_true rfl) (Nat.le_of_ble_eq_true rfl) (Nat.le_of_ble_eq_true rfl) dX18_init_30 (fun q7 cA8 H hK hP hD hS => ?_)
  have hK : va_K (dC, dI) vwCl [(cA2, .int), (cA4, .int), (cA6, .boolean), (cA8, .int)] s := hK
  have hP : va_P (dC, dI) vwCl [(h, .inr (20, [.ref q1, .ref q3, .ref q5, .int 0, .int 0, .int 0, .int 0, .null, .null, .null, .null, .null, .null, .null, .long 0, .int 0, .int 0, .int 0])), (q1, .inl (cA2, 10, .inl (fun _ => (0 : Int32)))), (q3, .inl (cA4, 10, .inl (fun _ => (0 : Int32)))), (q5, .inl (cA6, 10, .inl (fun _ => (0 : Int32)))), (q7, .inl (cA8, 3, .inl (fun _ => (0 : Int32))))] H := hP
  have hD : va_D A [(h, .inr (20, [.ref q1, .ref q3, .ref q5, .int 0, .int 0, .int 0, .int 0, .null, .null, .null, .null, .null, .null, .null, .long 0, .int 0, .int 0, .int 0])), (q1, .inl (cA2, 10, .inl (fun _ => (0 : Int32)))), (q3, .inl (cA4, 10, .inl (fun _ => (0 : Int32)))), (q5, .inl (cA6, 10, .inl (fun _ => (0 : Int32)))), (q7, .inl (cA8, 3, .inl (fun _ => (0 : Int32))))] := hD
  refine W.widen (k := 4) (n := 33) (by decide) (by decide) ?_
  refine va_putF (D := (dC, dI)) (ci := 20) (v := .ref q7) (ty := (tyX18 7)) (C := RX18) (T := TX18) (N := 18) hx hb hts (fun w h => (List.mem_cons_of_mem _ (List.mem_append_right _ (List.mem_append_left _ h)))) tyX18 tyX18_ok nmX18 hown hK hP hD hS 0 rfl rfl 7 (by decide) (hts (.fieldLink RX18 20 "SequencepointModel" "result" "[I") (by decide +kernel)) (fun _ h9 => h9) rfl hin rfl (by decide +kernel) rfl rfl (Nat.le_of_ble_eq_true rfl) dX18_init_32 (fun H locs hP hD hS => ?_)
  have hP : va_P (dC, dI) vwCl [(h, .inr (20, [.ref q1, .ref q3, .ref q5, .int 0, .int 0, .int 0, .int 0, .ref q7, .null, .null, .null, .null, .null, .null, .long 0, .int 0, .int 0, .int 0])), (q1, .inl (cA2, 10, .inl (fun _ => (0 : Int32)))), (q3, .inl (cA4, 10, .inl (fun _ => (0 : Int32)))), (q5, .inl (cA6, 10, .inl (fun _ => (0 : Int32)))), (q7, .inl (cA8, 3, .inl (fun _ => (0 : Int32))))] H := hP
  have hD : va_D A [(h, .inr (20, [.ref q1, .ref q3, .ref q5, .int 0, .int 0, .int 0, .int 0, .ref q7, .null, .null, .null, .null, .null, .null, .long 0, .int 0, .int 0, .int 0])), (q1, .inl (cA2, 10, .inl (fun _ => (0 : Int32)))), (q3, .inl (cA4, 10, .inl (fun _ => (0 : Int32)))), (q5, .inl (cA6, 10, .inl (fun _ => (0 : Int32)))), (q7, .inl (cA8, 3, .inl (fun _ => (0 : Int32))))] := hD
  refine lv_aload_n hx hb dX18_init_35 rfl (lv_at hl 0 rfl) ?_
  refine lv_iconst (v := 3) hx hb dX18_init_36 (by decide) ?_
  refine va_newa (atype := .int) (ty := .int) (a0 := (3, .inl (fun _ => (0 : Int32)))) (N' := 3) hx hb (hts (.arrayClass .int) (by decide +kernel)) rfl hK hP hD hS hA (fun _ => rfl) (by decide) (by decide) (Nat.le_of_ble_eq_true rfl) (Nat.le_of_ble_eq_true rfl) (Nat.le_of_ble_eq_true rfl) dX18_init_37 (fun q9 cA10 H hK hP hD hS => ?_)
  have hK : va_K (dC, dI) vwCl [(cA2, .int), (cA4, .int), (cA6, .boolean), (cA8, .int), (cA10, .int)] s := hK
  have hP : va_P (dC, dI) vwCl [(h, .inr (20, [.ref q1, .ref q3, .ref q5, .int 0, .int 0, .int 0, .int 0, .ref q7, .null, .null, .null, .null, .null, .null, .long 0, .int 0, .int 0, .int 0])), (q1, .inl (cA2, 10, .inl (fun _ => (0 : Int32)))), (q3, .inl (cA4, 10, .inl (fun _ => (0 : Int32)))), (q5, .inl (cA6, 10, .inl (fun _ => (0 : Int32)))), (q7, .inl (cA8, 3, .inl (fun _ => (0 : Int32)))), (q9, .inl (cA10, 3, .inl (fun _ => (0 : Int32))))] H := hP
  have hD : va_D A [(h, .inr (20, [.ref q1, .ref q3, .ref q5, .int 0, .int 0, .int 0, .int 0, .ref q7, .null, .null, .null, .null, .null, .null, .long 0, .int 0, .int 0, .int 0])), (q1, .inl (cA2, 10, .inl (fun _ => (0 : Int32)))), (q3, .inl (cA4, 10, .inl (fun _ => (0 : Int32)))), (q5, .inl (cA6, 10, .inl (fun _ => (0 : Int32)))), (q7, .inl (cA8, 3, .inl (fun _ => (0 : Int32)))), (q9, .inl (cA10, 3, .inl (fun _ => (0 : Int32))))] := hD
  refine W.widen (k := 5) (n := 36) (by decide) (by decide) ?_
  refine va_putF (D := (dC, dI)) (ci := 20) (v := .ref q9) (ty := (tyX18 8)) (C := RX18) (T := TX18) (N := 18) hx hb hts (fun w h => (List.mem_cons_of_mem _ (List.mem_append_right _ (List.mem_append_left _ h)))) tyX18 tyX18_ok nmX18 hown hK hP hD hS 0 rfl rfl 8 (by decide) (hts (.fieldLink RX18 23 "SequencepointModel" "first" "[I") (by decide +kernel)) (fun _ h9 => h9) rfl hin rfl (by decide +kernel) rfl rfl (Nat.le_of_ble_eq_true rfl) dX18_init_39 (fun H locs hP hD hS => ?_)
  have hP : va_P (dC, dI) vwCl [(h, .inr (20, [.ref q1, .ref q3, .ref q5, .int 0, .int 0, .int 0, .int 0, .ref q7, .ref q9, .null, .null, .null, .null, .null, .long 0, .int 0, .int 0, .int 0])), (q1, .inl (cA2, 10, .inl (fun _ => (0 : Int32)))), (q3, .inl (cA4, 10, .inl (fun _ => (0 : Int32)))), (q5, .inl (cA6, 10, .inl (fun _ => (0 : Int32)))), (q7, .inl (cA8, 3, .inl (fun _ => (0 : Int32)))), (q9, .inl (cA10, 3, .inl (fun _ => (0 : Int32))))] H := hP
  have hD : va_D A [(h, .inr (20, [.ref q1, .ref q3, .ref q5, .int 0, .int 0, .int 0, .int 0, .ref q7, .ref q9, .null, .null, .null, .null, .null, .long 0, .int 0, .int 0, .int 0])), (q1, .inl (cA2, 10, .inl (fun _ => (0 : Int32)))), (q3, .inl (cA4, 10, .inl (fun _ => (0 : Int32)))), (q5, .inl (cA6, 10, .inl (fun _ => (0 : Int32)))), (q7, .inl (cA8, 3, .inl (fun _ => (0 : Int32)))), (q9, .inl (cA10, 3, .inl (fun _ => (0 : Int32))))] := hD
  refine lv_aload_n hx hb dX18_init_42 rfl (lv_at hl 0 rfl) ?_
  refine lv_iconst (v := 3) hx hb dX18_init_43 (by decide) ?_
  refine va_newa (atype := .int) (ty := .int) (a0 := (3, .inl (fun _ => (0 : Int32)))) (N' := 3) hx hb (hts (.arrayClass .int) (by decide +kernel)) rfl hK hP hD hS hA (fun _ => rfl) (by decide) (by decide) (Nat.le_of_ble_eq_true rfl) (Nat.le_of_ble_eq_true rfl) (Nat.le_of_ble_eq_true rfl) dX18_init_44 (fun q11 cA12 H hK hP hD hS => ?_)
  have hK : va_K (dC, dI) vwCl [(cA2, .int), (cA4, .int), (cA6, .boolean), (cA8, .int), (cA10, .int), (cA12, .int)] s := hK
  have hP : va_P (dC, dI) vwCl [(h, .inr (20, [.ref q1, .ref q3, .ref q5, .int 0, .int 0, .int 0, .int 0, .ref q7, .ref q9, .null, .null, .null, .null, .null, .long 0, .int 0, .int 0, .int 0])), (q1, .inl (cA2, 10, .inl (fun _ => (0 : Int32)))), (q3, .inl (cA4, 10, .inl (fun _ => (0 : Int32)))), (q5, .inl (cA6, 10, .inl (fun _ => (0 : Int32)))), (q7, .inl (cA8, 3, .inl (fun _ => (0 : Int32)))), (q9, .inl (cA10, 3, .inl (fun _ => (0 : Int32)))), (q11, .inl (cA12, 3, .inl (fun _ => (0 : Int32))))] H := hP
  have hD : va_D A [(h, .inr (20, [.ref q1, .ref q3, .ref q5, .int 0, .int 0, .int 0, .int 0, .ref q7, .ref q9, .null, .null, .null, .null, .null, .long 0, .int 0, .int 0, .int 0])), (q1, .inl (cA2, 10, .inl (fun _ => (0 : Int32)))), (q3, .inl (cA4, 10, .inl (fun _ => (0 : Int32)))), (q5, .inl (cA6, 10, .inl (fun _ => (0 : Int32)))), (q7, .inl (cA8, 3, .inl (fun _ => (0 : Int32)))), (q9, .inl (cA10, 3, .inl (fun _ => (0 : Int32)))), (q11, .inl (cA12, 3, .inl (fun _ => (0 : Int32))))] := hD
  refine W.widen (k := 6) (n := 39) (by decide) (by decide) ?_
  refine va_putF (D := (dC, dI)) (ci := 20) (v := .ref q11) (ty := (tyX18 9)) (C := RX18) (T := TX18) (N := 18) hx hb hts (fun w h => (List.mem_cons_of_mem _ (List.mem_append_right _ (List.mem_append_left _ h)))) tyX18 tyX18_ok nmX18 hown hK hP hD hS 0 rfl rfl 9 (by decide) (hts (.fieldLink RX18 26 "SequencepointModel" "second" "[I") (by decide +kernel)) (fun _ h9 => h9) rfl hin rfl (by decide +kernel) rfl rfl (Nat.le_of_ble_eq_true rfl) dX18_init_46 (fun H locs hP hD hS => ?_)
  have hP : va_P (dC, dI) vwCl [(h, .inr (20, [.ref q1, .ref q3, .ref q5, .int 0, .int 0, .int 0, .int 0, .ref q7, .ref q9, .ref q11, .null, .null, .null, .null, .long 0, .int 0, .int 0, .int 0])), (q1, .inl (cA2, 10, .inl (fun _ => (0 : Int32)))), (q3, .inl (cA4, 10, .inl (fun _ => (0 : Int32)))), (q5, .inl (cA6, 10, .inl (fun _ => (0 : Int32)))), (q7, .inl (cA8, 3, .inl (fun _ => (0 : Int32)))), (q9, .inl (cA10, 3, .inl (fun _ => (0 : Int32)))), (q11, .inl (cA12, 3, .inl (fun _ => (0 : Int32))))] H := hP
  have hD : va_D A [(h, .inr (20, [.ref q1, .ref q3, .ref q5, .int 0, .int 0, .int 0, .int 0, .ref q7, .ref q9, .ref q11, .null, .null, .null, .null, .long 0, .int 0, .int 0, .int 0])), (q1, .inl (cA2, 10, .inl (fun _ => (0 : Int32)))), (q3, .inl (cA4, 10, .inl (fun _ => (0 : Int32)))), (q5, .inl (cA6, 10, .inl (fun _ => (0 : Int32)))), (q7, .inl (cA8, 3, .inl (fun _ => (0 : Int32)))), (q9, .inl (cA10, 3, .inl (fun _ => (0 : Int32)))), (q11, .inl (cA12, 3, .inl (fun _ => (0 : Int32))))] := hD
  refine lv_aload_n hx hb dX18_init_49 rfl (lv_at hl 0 rfl) ?_
  refine lv_iconst (v := 3) hx hb dX18_init_50 (by decide) ?_
  refine va_newq (C := RX16) (N' := 3) hx hb hown (hts (.classLink RX18 29 RX16) (by decide +kernel)) hH.1 hK hP hD hS hA (by decide) (by decide) (Nat.le_of_ble_eq_true rfl) (Nat.le_of_ble_eq_true rfl) (Nat.le_of_ble_eq_true rfl) dX18_init_51 (fun q13 cA14 H hK hP hD hS => ?_)
  have hK : va_K (dC, dI) vwCl [(cA2, .int), (cA4, .int), (cA6, .boolean), (cA8, .int), (cA10, .int), (cA12, .int), (cA14, .object "SequencepointModel$Statement")] s := hK
  have hP : va_P (dC, dI) vwCl [(h, .inr (20, [.ref q1, .ref q3, .ref q5, .int 0, .int 0, .int 0, .int 0, .ref q7, .ref q9, .ref q11, .null, .null, .null, .null, .long 0, .int 0, .int 0, .int 0])), (q1, .inl (cA2, 10, .inl (fun _ => (0 : Int32)))), (q3, .inl (cA4, 10, .inl (fun _ => (0 : Int32)))), (q5, .inl (cA6, 10, .inl (fun _ => (0 : Int32)))), (q7, .inl (cA8, 3, .inl (fun _ => (0 : Int32)))), (q9, .inl (cA10, 3, .inl (fun _ => (0 : Int32)))), (q11, .inl (cA12, 3, .inl (fun _ => (0 : Int32)))), (q13, .inl (cA14, 3, .inr (.inr (.inr (.inr (fun _ => none))))))] H := hP
  have hD : va_D A [(h, .inr (20, [.ref q1, .ref q3, .ref q5, .int 0, .int 0, .int 0, .int 0, .ref q7, .ref q9, .ref q11, .null, .null, .null, .null, .long 0, .int 0, .int 0, .int 0])), (q1, .inl (cA2, 10, .inl (fun _ => (0 : Int32)))), (q3, .inl (cA4, 10, .inl (fun _ => (0 : Int32)))), (q5, .inl (cA6, 10, .inl (fun _ => (0 : Int32)))), (q7, .inl (cA8, 3, .inl (fun _ => (0 : Int32)))), (q9, .inl (cA10, 3, .inl (fun _ => (0 : Int32)))), (q11, .inl (cA12, 3, .inl (fun _ => (0 : Int32)))), (q13, .inl (cA14, 3, .inr (.inr (.inr (.inr (fun _ => none))))))] := hD
  refine W.widen (k := 7) (n := 42) (by decide) (by decide) ?_
  refine va_putF (D := (dC, dI)) (ci := 20) (v := .ref q13) (ty := (tyX18 10)) (C := RX18) (T := TX18) (N := 18) hx hb hts (fun w h => (List.mem_cons_of_mem _ (List.mem_append_right _ (List.mem_append_left _ h)))) tyX18 tyX18_ok nmX18 hown hK hP hD hS 0 rfl rfl 10 (by decide) (hts (.fieldLink RX18 31 "SequencepointModel" "body" "[LSequencepointModel$Statement;") (by decide +kernel)) (fun _ h9 => h9) rfl hin rfl (by decide +kernel) rfl rfl (Nat.le_of_ble_eq_true rfl) dX18_init_54 (fun H locs hP hD hS => ?_)
  have hP : va_P (dC, dI) vwCl [(h, .inr (20, [.ref q1, .ref q3, .ref q5, .int 0, .int 0, .int 0, .int 0, .ref q7, .ref q9, .ref q11, .ref q13, .null, .null, .null, .long 0, .int 0, .int 0, .int 0])), (q1, .inl (cA2, 10, .inl (fun _ => (0 : Int32)))), (q3, .inl (cA4, 10, .inl (fun _ => (0 : Int32)))), (q5, .inl (cA6, 10, .inl (fun _ => (0 : Int32)))), (q7, .inl (cA8, 3, .inl (fun _ => (0 : Int32)))), (q9, .inl (cA10, 3, .inl (fun _ => (0 : Int32)))), (q11, .inl (cA12, 3, .inl (fun _ => (0 : Int32)))), (q13, .inl (cA14, 3, .inr (.inr (.inr (.inr (fun _ => none))))))] H := hP
  have hD : va_D A [(h, .inr (20, [.ref q1, .ref q3, .ref q5, .int 0, .int 0, .int 0, .int 0, .ref q7, .ref q9, .ref q11, .ref q13, .null, .null, .null, .long 0, .int 0, .int 0, .int 0])), (q1, .inl (cA2, 10, .inl (fun _ => (0 : Int32)))), (q3, .inl (cA4, 10, .inl (fun _ => (0 : Int32)))), (q5, .inl (cA6, 10, .inl (fun _ => (0 : Int32)))), (q7, .inl (cA8, 3, .inl (fun _ => (0 : Int32)))), (q9, .inl (cA10, 3, .inl (fun _ => (0 : Int32)))), (q11, .inl (cA12, 3, .inl (fun _ => (0 : Int32)))), (q13, .inl (cA14, 3, .inr (.inr (.inr (.inr (fun _ => none))))))] := hD
  refine lv_aload_n hx hb dX18_init_57 rfl (lv_at hl 0 rfl) ?_
  refine lv_bipush (v := 100) hx hb dX18_init_58 (by decide) ?_
  refine va_newq (C := RX14) (N' := 100) hx hb hown (hts (.classLink RX18 35 RX14) (by decide +kernel)) hH.2 hK hP hD hS hA (by decide) (by decide) (Nat.le_of_ble_eq_true rfl) (Nat.le_of_ble_eq_true rfl) (Nat.le_of_ble_eq_true rfl) dX18_init_60 (fun q15 cA16 H hK hP hD hS => ?_)
  have hK : va_K (dC, dI) vwCl [(cA2, .int), (cA4, .int), (cA6, .boolean), (cA8, .int), (cA10, .int), (cA12, .int), (cA14, .object "SequencepointModel$Statement"), (cA16, .object "SequencepointModel$Node")] s := hK
  have hP : va_P (dC, dI) vwCl [(h, .inr (20, [.ref q1, .ref q3, .ref q5, .int 0, .int 0, .int 0, .int 0, .ref q7, .ref q9, .ref q11, .ref q13, .null, .null, .null, .long 0, .int 0, .int 0, .int 0])), (q1, .inl (cA2, 10, .inl (fun _ => (0 : Int32)))), (q3, .inl (cA4, 10, .inl (fun _ => (0 : Int32)))), (q5, .inl (cA6, 10, .inl (fun _ => (0 : Int32)))), (q7, .inl (cA8, 3, .inl (fun _ => (0 : Int32)))), (q9, .inl (cA10, 3, .inl (fun _ => (0 : Int32)))), (q11, .inl (cA12, 3, .inl (fun _ => (0 : Int32)))), (q13, .inl (cA14, 3, .inr (.inr (.inr (.inr (fun _ => none)))))), (q15, .inl (cA16, 100, .inr (.inr (.inr (.inr (fun _ => none))))))] H := hP
  have hD : va_D A [(h, .inr (20, [.ref q1, .ref q3, .ref q5, .int 0, .int 0, .int 0, .int 0, .ref q7, .ref q9, .ref q11, .ref q13, .null, .null, .null, .long 0, .int 0, .int 0, .int 0])), (q1, .inl (cA2, 10, .inl (fun _ => (0 : Int32)))), (q3, .inl (cA4, 10, .inl (fun _ => (0 : Int32)))), (q5, .inl (cA6, 10, .inl (fun _ => (0 : Int32)))), (q7, .inl (cA8, 3, .inl (fun _ => (0 : Int32)))), (q9, .inl (cA10, 3, .inl (fun _ => (0 : Int32)))), (q11, .inl (cA12, 3, .inl (fun _ => (0 : Int32)))), (q13, .inl (cA14, 3, .inr (.inr (.inr (.inr (fun _ => none)))))), (q15, .inl (cA16, 100, .inr (.inr (.inr (.inr (fun _ => none))))))] := hD
  refine W.widen (k := 8) (n := 142) (by decide) (by decide) ?_
  refine va_putF (D := (dC, dI)) (ci := 20) (v := .ref q15) (ty := (tyX18 11)) (C := RX18) (T := TX18) (N := 18) hx hb hts (fun w h => (List.mem_cons_of_mem _ (List.mem_append_right _ (List.mem_append_left _ h)))) tyX18 tyX18_ok nmX18 hown hK hP hD hS 0 rfl rfl 11 (by decide) (hts (.fieldLink RX18 37 "SequencepointModel" "node" "[LSequencepointModel$Node;") (by decide +kernel)) (fun _ h9 => h9) rfl hin rfl (by decide +kernel) rfl rfl (Nat.le_of_ble_eq_true rfl) dX18_init_63 (fun H locs hP hD hS => ?_)
  have hP : va_P (dC, dI) vwCl [(h, .inr (20, [.ref q1, .ref q3, .ref q5, .int 0, .int 0, .int 0, .int 0, .ref q7, .ref q9, .ref q11, .ref q13, .ref q15, .null, .null, .long 0, .int 0, .int 0, .int 0])), (q1, .inl (cA2, 10, .inl (fun _ => (0 : Int32)))), (q3, .inl (cA4, 10, .inl (fun _ => (0 : Int32)))), (q5, .inl (cA6, 10, .inl (fun _ => (0 : Int32)))), (q7, .inl (cA8, 3, .inl (fun _ => (0 : Int32)))), (q9, .inl (cA10, 3, .inl (fun _ => (0 : Int32)))), (q11, .inl (cA12, 3, .inl (fun _ => (0 : Int32)))), (q13, .inl (cA14, 3, .inr (.inr (.inr (.inr (fun _ => none)))))), (q15, .inl (cA16, 100, .inr (.inr (.inr (.inr (fun _ => none))))))] H := hP
  have hD : va_D A [(h, .inr (20, [.ref q1, .ref q3, .ref q5, .int 0, .int 0, .int 0, .int 0, .ref q7, .ref q9, .ref q11, .ref q13, .ref q15, .null, .null, .long 0, .int 0, .int 0, .int 0])), (q1, .inl (cA2, 10, .inl (fun _ => (0 : Int32)))), (q3, .inl (cA4, 10, .inl (fun _ => (0 : Int32)))), (q5, .inl (cA6, 10, .inl (fun _ => (0 : Int32)))), (q7, .inl (cA8, 3, .inl (fun _ => (0 : Int32)))), (q9, .inl (cA10, 3, .inl (fun _ => (0 : Int32)))), (q11, .inl (cA12, 3, .inl (fun _ => (0 : Int32)))), (q13, .inl (cA14, 3, .inr (.inr (.inr (.inr (fun _ => none)))))), (q15, .inl (cA16, 100, .inr (.inr (.inr (.inr (fun _ => none))))))] := hD
  refine lv_aload_n hx hb dX18_init_66 rfl (lv_at hl 0 rfl) ?_
  refine lv_bipush (v := 60) hx hb dX18_init_67 (by decide) ?_
  refine va_newq (C := RX16) (N' := 60) hx hb hown (hts (.classLink RX18 29 RX16) (by decide +kernel)) hH.1 hK hP hD hS hA (by decide) (by decide) (Nat.le_of_ble_eq_true rfl) (Nat.le_of_ble_eq_true rfl) (Nat.le_of_ble_eq_true rfl) dX18_init_69 (fun q17 cA18 H hK hP hD hS => ?_)
  have hK : va_K (dC, dI) vwCl [(cA2, .int), (cA4, .int), (cA6, .boolean), (cA8, .int), (cA10, .int), (cA12, .int), (cA14, .object "SequencepointModel$Statement"), (cA16, .object "SequencepointModel$Node"), (cA18, .object "SequencepointModel$Statement")] s := hK
  have hP : va_P (dC, dI) vwCl [(h, .inr (20, [.ref q1, .ref q3, .ref q5, .int 0, .int 0, .int 0, .int 0, .ref q7, .ref q9, .ref q11, .ref q13, .ref q15, .null, .null, .long 0, .int 0, .int 0, .int 0])), (q1, .inl (cA2, 10, .inl (fun _ => (0 : Int32)))), (q3, .inl (cA4, 10, .inl (fun _ => (0 : Int32)))), (q5, .inl (cA6, 10, .inl (fun _ => (0 : Int32)))), (q7, .inl (cA8, 3, .inl (fun _ => (0 : Int32)))), (q9, .inl (cA10, 3, .inl (fun _ => (0 : Int32)))), (q11, .inl (cA12, 3, .inl (fun _ => (0 : Int32)))), (q13, .inl (cA14, 3, .inr (.inr (.inr (.inr (fun _ => none)))))), (q15, .inl (cA16, 100, .inr (.inr (.inr (.inr (fun _ => none)))))), (q17, .inl (cA18, 60, .inr (.inr (.inr (.inr (fun _ => none))))))] H := hP
  have hD : va_D A [(h, .inr (20, [.ref q1, .ref q3, .ref q5, .int 0, .int 0, .int 0, .int 0, .ref q7, .ref q9, .ref q11, .ref q13, .ref q15, .null, .null, .long 0, .int 0, .int 0, .int 0])), (q1, .inl (cA2, 10, .inl (fun _ => (0 : Int32)))), (q3, .inl (cA4, 10, .inl (fun _ => (0 : Int32)))), (q5, .inl (cA6, 10, .inl (fun _ => (0 : Int32)))), (q7, .inl (cA8, 3, .inl (fun _ => (0 : Int32)))), (q9, .inl (cA10, 3, .inl (fun _ => (0 : Int32)))), (q11, .inl (cA12, 3, .inl (fun _ => (0 : Int32)))), (q13, .inl (cA14, 3, .inr (.inr (.inr (.inr (fun _ => none)))))), (q15, .inl (cA16, 100, .inr (.inr (.inr (.inr (fun _ => none)))))), (q17, .inl (cA18, 60, .inr (.inr (.inr (.inr (fun _ => none))))))] := hD
  refine W.widen (k := 9) (n := 202) (by decide) (by decide) ?_
  refine va_putF (D := (dC, dI)) (ci := 20) (v := .ref q17) (ty := (tyX18 12)) (C := RX18) (T := TX18) (N := 18) hx hb hts (fun w h => (List.mem_cons_of_mem _ (List.mem_append_right _ (List.mem_append_left _ h)))) tyX18 tyX18_ok nmX18 hown hK hP hD hS 0 rfl rfl 12 (by decide) (hts (.fieldLink RX18 41 "SequencepointModel" "statement" "[LSequencepointModel$Statement;") (by decide +kernel)) (fun _ h9 => h9) rfl hin rfl (by decide +kernel) rfl rfl (Nat.le_of_ble_eq_true rfl) dX18_init_72 (fun H locs hP hD hS => ?_)
  have hP : va_P (dC, dI) vwCl [(h, .inr (20, [.ref q1, .ref q3, .ref q5, .int 0, .int 0, .int 0, .int 0, .ref q7, .ref q9, .ref q11, .ref q13, .ref q15, .ref q17, .null, .long 0, .int 0, .int 0, .int 0])), (q1, .inl (cA2, 10, .inl (fun _ => (0 : Int32)))), (q3, .inl (cA4, 10, .inl (fun _ => (0 : Int32)))), (q5, .inl (cA6, 10, .inl (fun _ => (0 : Int32)))), (q7, .inl (cA8, 3, .inl (fun _ => (0 : Int32)))), (q9, .inl (cA10, 3, .inl (fun _ => (0 : Int32)))), (q11, .inl (cA12, 3, .inl (fun _ => (0 : Int32)))), (q13, .inl (cA14, 3, .inr (.inr (.inr (.inr (fun _ => none)))))), (q15, .inl (cA16, 100, .inr (.inr (.inr (.inr (fun _ => none)))))), (q17, .inl (cA18, 60, .inr (.inr (.inr (.inr (fun _ => none))))))] H := hP
  have hD : va_D A [(h, .inr (20, [.ref q1, .ref q3, .ref q5, .int 0, .int 0, .int 0, .int 0, .ref q7, .ref q9, .ref q11, .ref q13, .ref q15, .ref q17, .null, .long 0, .int 0, .int 0, .int 0])), (q1, .inl (cA2, 10, .inl (fun _ => (0 : Int32)))), (q3, .inl (cA4, 10, .inl (fun _ => (0 : Int32)))), (q5, .inl (cA6, 10, .inl (fun _ => (0 : Int32)))), (q7, .inl (cA8, 3, .inl (fun _ => (0 : Int32)))), (q9, .inl (cA10, 3, .inl (fun _ => (0 : Int32)))), (q11, .inl (cA12, 3, .inl (fun _ => (0 : Int32)))), (q13, .inl (cA14, 3, .inr (.inr (.inr (.inr (fun _ => none)))))), (q15, .inl (cA16, 100, .inr (.inr (.inr (.inr (fun _ => none)))))), (q17, .inl (cA18, 60, .inr (.inr (.inr (.inr (fun _ => none))))))] := hD
  have hP9 := hP.sub (ws' := [(h, .inr (20, [.ref q1, .ref q3, .ref q5, .int 0, .int 0, .int 0, .int 0, .ref q7, .ref q9, .ref q11, .ref q13, .ref q15, .ref q17, .null, .long 0, .int 0, .int 0, .int 0]))]) [0] rfl
  have hD9 := hD.sub (ws' := [(h, .inr (20, [.ref q1, .ref q3, .ref q5, .int 0, .int 0, .int 0, .int 0, .ref q7, .ref q9, .ref q11, .ref q13, .ref q15, .ref q17, .null, .long 0, .int 0, .int 0, .int 0]))]) [0] (by decide) rfl
  have hK9 := hK.sub (tys' := []) [] rfl
  exact W.vret hx hb hr (fun t ht hW => ⟨⟨(), rfl, trivial, ⟨q1, q3, q5, q7, q9, q11, q13, q15, q17, by rw [ht]; exact hP9, va_K.moved hW.alike hK9, hD9⟩⟩, hS.F ht⟩) hS.2.2 dX18_init_75
