theorem d_N_encodeConstant_65 : decode b_N_encodeConstant 65 = .ok (.invokestatic 63, 3) := by decide +kernel
theorem d_N_encodeConstant_68 : decode b_N_encodeConstant 68 = .ok (.putfield 51, 3) := by decide +kernel
theorem d_N_encodeConstant_71 : decode b_N_encodeConstant 71 = .ok (.return_, 1) := by decide +kernel
theorem d_N_encodeNumber_0 : decode b_N_encodeNumber 0 = .ok (.aload_n 0, 1) := by decide +kernel
theorem d_N_encodeNumber_1 : decode b_N_encodeNumber 1 = .ok (.getfield 21, 3) := by decide +kernel
theorem d_N_encodeNumber_4 : decode b_N_encodeNumber 4 = .ok (.getfield 27, 3) := by decide +kernel
theorem d_N_encodeNumber_7 : decode b_N_encodeNumber 7 = .ok (.tableswitch 60 8 12 #[33, 60, 45, 45, 57], 33) := by decide +kernel
theorem d_N_encodeNumber_40 : decode b_N_encodeNumber 40 = .ok (.aload_n 0, 1) := by decide +kernel
theorem d_N_encodeNumber_41 : decode b_N_encodeNumber 41 = .ok (.aload_n 0, 1) := by decide +kernel
theorem d_N_encodeNumber_42 : decode b_N_encodeNumber 42 = .ok (.getfield 30, 3) := by decide +kernel
theorem d_N_encodeNumber_45 : decode b_N_encodeNumber 45 = .ok (.l2i, 1) := by decide +kernel
theorem d_N_encodeNumber_46 : decode b_N_encodeNumber 46 = .ok (.invokevirtual 79, 3) := by decide +kernel
theorem d_N_encodeNumber_49 : decode b_N_encodeNumber 49 = .ok (.goto 46, 3) := by decide +kernel
theorem d_N_encodeNumber_52 : decode b_N_encodeNumber 52 = .ok (.aload_n 0, 1) := by decide +kernel
theorem d_N_encodeNumber_53 : decode b_N_encodeNumber 53 = .ok (.aload_n 0, 1) := by decide +kernel
theorem d_N_encodeNumber_54 : decode b_N_encodeNumber 54 = .ok (.getfield 30, 3) := by decide +kernel
theorem d_N_encodeNumber_57 : decode b_N_encodeNumber 57 = .ok (.l2i, 1) := by decide +kernel
theorem d_N_encodeNumber_58 : decode b_N_encodeNumber 58 = .ok (.putfield 48, 3) := by decide +kernel
theorem d_N_encodeNumber_61 : decode b_N_encodeNumber 61 = .ok (.goto 34, 3) := by decide +kernel
theorem d_N_encodeNumber_64 : decode b_N_encodeNumber 64 = .ok (.goto 31, 3) := by decide +kernel
theorem d_N_encodeNumber_67 : decode b_N_encodeNumber 67 = .ok (.aload_n 0, 1) := by decide +kernel
theorem d_N_encodeNumber_68 : decode b_N_encodeNumber 68 = .ok (.aload_n 0, 1) := by decide +kernel
theorem d_N_encodeNumber_69 : decode b_N_encodeNumber 69 = .ok (.getfield 21, 3) := by decide +kernel
theorem d_N_encodeNumber_72 : decode b_N_encodeNumber 72 = .ok (.aload_n 0, 1) := by decide +kernel
theorem d_N_encodeNumber_73 : decode b_N_encodeNumber 73 = .ok (.getfield 54, 3) := by decide +kernel
theorem d_N_encodeNumber_76 : decode b_N_encodeNumber 76 = .ok (.aload_n 0, 1) := by decide +kernel
theorem d_N_encodeNumber_77 : decode b_N_encodeNumber 77 = .ok (.getfield 57, 3) := by decide +kernel
theorem d_N_encodeNumber_80 : decode b_N_encodeNumber 80 = .ok (.aload_n 0, 1) := by decide +kernel
theorem d_N_encodeNumber_81 : decode b_N_encodeNumber 81 = .ok (.getfield 60, 3) := by decide +kernel
theorem d_N_encodeNumber_84 : decode b_N_encodeNumber 84 = .ok (.aload_n 0, 1) := by decide +kernel
theorem d_N_encodeNumber_85 : decode b_N_encodeNumber 85 = .ok (.getfield 30, 3) := by decide +kernel
theorem d_N_encodeNumber_88 : decode b_N_encodeNumber 88 = .ok (.l2i, 1) := by decide +kernel
theorem d_N_encodeNumber_89 : decode b_N_encodeNumber 89 = .ok (.invokestatic 63, 3) := by decide +kernel
theorem d_N_encodeNumber_92 : decode b_N_encodeNumber 92 = .ok (.putfield 48, 3) := by decide +kernel
theorem d_N_encodeNumber_95 : decode b_N_encodeNumber 95 = .ok (.return_, 1) := by decide +kernel
theorem d_N_encodeWay_0 : decode b_N_encodeWay 0 = .ok (.aload_n 0, 1) := by decide +kernel
theorem d_N_encodeWay_1 : decode b_N_encodeWay 1 = .ok (.getfield 34, 3) := by decide +kernel
theorem d_N_encodeWay_4 : decode b_N_encodeWay 4 = .ok (.ifCond .eq 51, 3) := by decide +kernel
theorem d_N_encodeWay_7 : decode b_N_encodeWay 7 = .ok (.aload_n 0, 1) := by decide +kernel
theorem d_N_encodeWay_8 : decode b_N_encodeWay 8 = .ok (.aload_n 0, 1) := by decide +kernel
theorem d_N_encodeWay_9 : decode b_N_encodeWay 9 = .ok (.getfield 21, 3) := by decide +kernel
theorem d_N_encodeWay_12 : decode b_N_encodeWay 12 = .ok (.aload_n 0, 1) := by decide +kernel
theorem d_N_encodeWay_13 : decode b_N_encodeWay 13 = .ok (.getfield 54, 3) := by decide +kernel
theorem d_N_encodeWay_16 : decode b_N_encodeWay 16 = .ok (.aload_n 0, 1) := by decide +kernel
theorem d_N_encodeWay_17 : decode b_N_encodeWay 17 = .ok (.getfield 57, 3) := by decide +kernel
theorem d_N_encodeWay_20 : decode b_N_encodeWay 20 = .ok (.aload_n 0, 1) := by decide +kernel
theorem d_N_encodeWay_21 : decode b_N_encodeWay 21 = .ok (.getfield 60, 3) := by decide +kernel
theorem d_N_encodeWay_24 : decode b_N_encodeWay 24 = .ok (.bipush 8, 2) := by decide +kernel
theorem d_N_encodeWay_26 : decode b_N_encodeWay 26 = .ok (.invokestatic 63, 3) := by decide +kernel
theorem d_N_encodeWay_29 : decode b_N_encodeWay 29 = .ok (.sipush 4096, 3) := by decide +kernel
theorem d_N_encodeWay_32 : decode b_N_encodeWay 32 = .ok (.ixor, 1) := by decide +kernel
theorem d_N_encodeWay_33 : decode b_N_encodeWay 33 = .ok (.putfield 48, 3) := by decide +kernel
theorem d_N_encodeWay_36 : decode b_N_encodeWay 36 = .ok (.aload_n 0, 1) := by decide +kernel
theorem d_N_encodeWay_37 : decode b_N_encodeWay 37 = .ok (.getstatic 67, 3) := by decide +kernel
theorem d_N_encodeWay_40 : decode b_N_encodeWay 40 = .ok (.iconst 0, 1) := by decide +kernel
theorem d_N_encodeWay_41 : decode b_N_encodeWay 41 = .ok (.iconst 0, 1) := by decide +kernel
theorem d_N_encodeWay_42 : decode b_N_encodeWay 42 = .ok (.iconst 0, 1) := by decide +kernel
theorem d_N_encodeWay_43 : decode b_N_encodeWay 43 = .ok (.iload_n 1, 1) := by decide +kernel
theorem d_N_encodeWay_44 : decode b_N_encodeWay 44 = .ok (.iconst 4, 1) := by decide +kernel
theorem d_N_encodeWay_45 : decode b_N_encodeWay 45 = .ok (.isub, 1) := by decide +kernel
theorem d_N_encodeWay_46 : decode b_N_encodeWay 46 = .ok (.invokestatic 63, 3) := by decide +kernel
theorem d_N_encodeWay_49 : decode b_N_encodeWay 49 = .ok (.putfield 51, 3) := by decide +kernel
theorem d_N_encodeWay_52 : decode b_N_encodeWay 52 = .ok (.goto 27, 3) := by decide +kernel
theorem d_N_encodeWay_55 : decode b_N_encodeWay 55 = .ok (.aload_n 0, 1) := by decide +kernel
theorem d_N_encodeWay_56 : decode b_N_encodeWay 56 = .ok (.aload_n 0, 1) := by decide +kernel
theorem d_N_encodeWay_57 : decode b_N_encodeWay 57 = .ok (.getfield 21, 3) := by decide +kernel
theorem d_N_encodeWay_60 : decode b_N_encodeWay 60 = .ok (.aload_n 0, 1) := by decide +kernel
theorem d_N_encodeWay_61 : decode b_N_encodeWay 61 = .ok (.getfield 54, 3) := by decide +kernel
theorem d_N_encodeWay_64 : decode b_N_encodeWay 64 = .ok (.aload_n 0, 1) := by decide +kernel
theorem d_N_encodeWay_65 : decode b_N_encodeWay 65 = .ok (.getfield 57, 3) := by decide +kernel
theorem d_N_encodeWay_68 : decode b_N_encodeWay 68 = .ok (.aload_n 0, 1) := by decide +kernel
theorem d_N_encodeWay_69 : decode b_N_encodeWay 69 = .ok (.getfield 60, 3) := by decide +kernel
theorem d_N_encodeWay_72 : decode b_N_encodeWay 72 = .ok (.iload_n 1, 1) := by decide +kernel
theorem d_N_encodeWay_73 : decode b_N_encodeWay 73 = .ok (.invokestatic 63, 3) := by decide +kernel
theorem d_N_encodeWay_76 : decode b_N_encodeWay 76 = .ok (.putfield 48, 3) := by decide +kernel
theorem d_N_encodeWay_79 : decode b_N_encodeWay 79 = .ok (.return_, 1) := by decide +kernel
theorem d_N_size_0 : decode b_N_size 0 = .ok (.aload_n 0, 1) := by decide +kernel
theorem d_N_size_1 : decode b_N_size 1 = .ok (.getfield 21, 3) := by decide +kernel
theorem d_N_size_4 : decode b_N_size 4 = .ok (.getfield 27, 3) := by decide +kernel
theorem d_N_size_7 : decode b_N_size 7 = .ok (.tableswitch 124 0 13 #[69, 124, 124, 124, 124, 124, 79, 124, 93, 121, 124, 71, 73, 69], 69) := by decide +kernel
theorem d_N_size_76 : decode b_N_size 76 = .ok (.iconst 0, 1) := by decide +kernel
theorem d_N_size_77 : decode b_N_size 77 = .ok (.ireturn, 1) := by decide +kernel
theorem d_N_size_78 : decode b_N_size 78 = .ok (.iconst 1, 1) := by decide +kernel
theorem d_N_size_79 : decode b_N_size 79 = .ok (.ireturn, 1) := by decide +kernel
theorem d_N_size_80 : decode b_N_size 80 = .ok (.aload_n 0, 1) := by decide +kernel
theorem d_N_size_81 : decode b_N_size 81 = .ok (.getfield 30, 3) := by decide +kernel
theorem d_N_size_84 : decode b_N_size 84 = .ok (.l2i, 1) := by decide +kernel
theorem d_N_size_85 : decode b_N_size 85 = .ok (.ireturn, 1) := by decide +kernel
theorem d_N_size_86 : decode b_N_size 86 = .ok (.aload_n 0, 1) := by decide +kernel
theorem d_N_size_87 : decode b_N_size 87 = .ok (.getfield 34, 3) := by decide +kernel
theorem d_N_size_90 : decode b_N_size 90 = .ok (.ifCond .eq 8, 3) := by decide +kernel
theorem d_N_size_93 : decode b_N_size 93 = .ok (.bipush 8, 2) := by decide +kernel
theorem d_N_size_95 : decode b_N_size 95 = .ok (.goto 4, 3) := by decide +kernel
theorem d_N_size_98 : decode b_N_size 98 = .ok (.iconst 4, 1) := by decide +kernel
theorem d_N_size_99 : decode b_N_size 99 = .ok (.ireturn, 1) := by decide +kernel
theorem d_N_size_100 : decode b_N_size 100 = .ok (.aload_n 0, 1) := by decide +kernel
theorem d_N_size_101 : decode b_N_size 101 = .ok (.getfield 30, 3) := by decide +kernel
theorem d_N_size_104 : decode b_N_size 104 = .ok (.invokestatic 38, 3) := by decide +kernel
theorem d_N_size_107 : decode b_N_size 107 = .ok (.ifCond .ne 14, 3) := by decide +kernel
theorem d_N_size_110 : decode b_N_size 110 = .ok (.aload_n 0, 1) := by decide +kernel
theorem d_N_size_111 : decode b_N_size 111 = .ok (.getfield 30, 3) := by decide +kernel
theorem d_N_size_114 : decode b_N_size 114 = .ok (.l2i, 1) := by decide +kernel
theorem d_N_size_115 : decode b_N_size 115 = .ok (.invokestatic 44, 3) := by decide +kernel
theorem d_N_size_118 : decode b_N_size 118 = .ok (.ifCond .ne 7, 3) := by decide +kernel
theorem d_N_size_121 : decode b_N_size 121 = .ok (.iconst 4, 1) := by decide +kernel
theorem d_N_size_122 : decode b_N_size 122 = .ok (.goto 5, 3) := by decide +kernel
theorem d_N_size_125 : decode b_N_size 125 = .ok (.bipush 8, 2) := by decide +kernel
theorem d_N_size_127 : decode b_N_size 127 = .ok (.ireturn, 1) := by decide +kernel
theorem d_N_size_128 : decode b_N_size 128 = .ok (.bipush 8, 2) := by decide +kernel
theorem d_N_size_130 : decode b_N_size 130 = .ok (.ireturn, 1) := by decide +kernel
theorem d_N_size_131 : decode b_N_size 131 = .ok (.iconst 4, 1) := by decide +kernel
theorem d_N_size_132 : decode b_N_size 132 = .ok (.ireturn, 1) := by decide +kernel
theorem d_O_hasWay_0 : decode b_O_hasWay 0 = .ok (.aload_n 0, 1) := by decide +kernel
theorem d_O_hasWay_1 : decode b_O_hasWay 1 = .ok (.getfield 173, 3) := by decide +kernel
theorem d_O_hasWay_4 : decode b_O_hasWay 4 = .ok (.bipush 6, 2) := by decide +kernel
theorem d_O_hasWay_6 : decode b_O_hasWay 6 = .ok (.if_icmp .eq 12, 3) := by decide +kernel
theorem d_O_hasWay_9 : decode b_O_hasWay 9 = .ok (.aload_n 0, 1) := by decide +kernel
theorem d_O_hasWay_10 : decode b_O_hasWay 10 = .ok (.getfield 173, 3) := by decide +kernel
theorem d_O_hasWay_13 : decode b_O_hasWay 13 = .ok (.bipush 7, 2) := by decide +kernel
theorem d_O_hasWay_15 : decode b_O_hasWay 15 = .ok (.if_icmp .ne 7, 3) := by decide +kernel
theorem d_O_hasWay_18 : decode b_O_hasWay 18 = .ok (.iconst 1, 1) := by decide +kernel
theorem d_O_hasWay_19 : decode b_O_hasWay 19 = .ok (.goto 4, 3) := by decide +kernel
theorem d_O_hasWay_22 : decode b_O_hasWay 22 = .ok (.iconst 0, 1) := by decide +kernel
theorem d_O_hasWay_23 : decode b_O_hasWay 23 = .ok (.ireturn, 1) := by decide +kernel
theorem d_O_leastNumber_0 : decode b_O_leastNumber 0 = .ok (.aload_n 0, 1) := by decide +kernel
theorem d_O_leastNumber_1 : decode b_O_leastNumber 1 = .ok (.getfield 173, 3) := by decide +kernel
theorem d_O_leastNumber_4 : decode b_O_leastNumber 4 = .ok (.tableswitch 66 3 12 #[56, 56, 66, 66, 66, 58, 66, 58, 62, 56], 56) := by decide +kernel
theorem d_O_leastNumber_60 : decode b_O_leastNumber 60 = .ok (.lconst 0, 1) := by decide +kernel
theorem d_O_leastNumber_61 : decode b_O_leastNumber 61 = .ok (.lreturn, 1) := by decide +kernel
theorem d_O_leastNumber_62 : decode b_O_leastNumber 62 = .ok (.ldc2_w 180, 3) := by decide +kernel
theorem d_O_leastNumber_65 : decode b_O_leastNumber 65 = .ok (.lreturn, 1) := by decide +kernel
theorem d_O_leastNumber_66 : decode b_O_leastNumber 66 = .ok (.ldc2_w 182, 3) := by decide +kernel
theorem d_O_leastNumber_69 : decode b_O_leastNumber 69 = .ok (.lreturn, 1) := by decide +kernel
theorem d_O_leastNumber_70 : decode b_O_leastNumber 70 = .ok (.ldc2_w 184, 3) := by decide +kernel
theorem d_O_leastNumber_73 : decode b_O_leastNumber 73 = .ok (.lreturn, 1) := by decide +kernel
theorem d_O_mostNumber_0 : decode b_O_mostNumber 0 = .ok (.aload_n 0, 1) := by decide +kernel
theorem d_O_mostNumber_1 : decode b_O_mostNumber 1 = .ok (.getfield 173, 3) := by decide +kernel
theorem d_O_mostNumber_4 : decode b_O_mostNumber 4 = .ok (.tableswitch 80 3 12 #[56, 60, 80, 80, 80, 68, 80, 72, 76, 64], 56) := by decide +kernel
theorem d_O_mostNumber_60 : decode b_O_mostNumber 60 = .ok (.ldc2_w 186, 3) := by decide +kernel
theorem d_O_mostNumber_63 : decode b_O_mostNumber 63 = .ok (.lreturn, 1) := by decide +kernel
theorem d_O_mostNumber_64 : decode b_O_mostNumber 64 = .ok (.ldc2_w 188, 3) := by decide +kernel
theorem d_O_mostNumber_67 : decode b_O_mostNumber 67 = .ok (.lreturn, 1) := by decide +kernel
theorem d_O_mostNumber_68 : decode b_O_mostNumber 68 = .ok (.ldc2_w 190, 3) := by decide +kernel
theorem d_O_mostNumber_71 : decode b_O_mostNumber 71 = .ok (.lreturn, 1) := by decide +kernel
theorem d_O_mostNumber_72 : decode b_O_mostNumber 72 = .ok (.ldc2_w 192, 3) := by decide +kernel
theorem d_O_mostNumber_75 : decode b_O_mostNumber 75 = .ok (.lreturn, 1) := by decide +kernel
theorem d_O_mostNumber_76 : decode b_O_mostNumber 76 = .ok (.ldc2_w 194, 3) := by decide +kernel
theorem d_O_mostNumber_79 : decode b_O_mostNumber 79 = .ok (.lreturn, 1) := by decide +kernel
theorem d_O_mostNumber_80 : decode b_O_mostNumber 80 = .ok (.ldc2_w 196, 3) := by decide +kernel
theorem d_O_mostNumber_83 : decode b_O_mostNumber 83 = .ok (.lreturn, 1) := by decide +kernel
