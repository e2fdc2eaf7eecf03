theorem d_M_putBranch_90 : decode b_M_putBranch 90 = .ok (.getfield 29, 3) := by decide +kernel
theorem d_M_putBranch_93 : decode b_M_putBranch 93 = .ok (.iload_n 1, 1) := by decide +kernel
theorem d_M_putBranch_94 : decode b_M_putBranch 94 = .ok (.iaload, 1) := by decide +kernel
theorem d_M_putBranch_95 : decode b_M_putBranch 95 = .ok (.sipush 4096, 3) := by decide +kernel
theorem d_M_putBranch_98 : decode b_M_putBranch 98 = .ok (.iadd, 1) := by decide +kernel
theorem d_M_putBranch_99 : decode b_M_putBranch 99 = .ok (.aload_n 0, 1) := by decide +kernel
theorem d_M_putBranch_100 : decode b_M_putBranch 100 = .ok (.getfield 35, 3) := by decide +kernel
theorem d_M_putBranch_103 : decode b_M_putBranch 103 = .ok (.iload_n 1, 1) := by decide +kernel
theorem d_M_putBranch_104 : decode b_M_putBranch 104 = .ok (.iaload, 1) := by decide +kernel
theorem d_M_putBranch_105 : decode b_M_putBranch 105 = .ok (.aload_n 0, 1) := by decide +kernel
theorem d_M_putBranch_106 : decode b_M_putBranch 106 = .ok (.getfield 38, 3) := by decide +kernel
theorem d_M_putBranch_109 : decode b_M_putBranch 109 = .ok (.iload_n 1, 1) := by decide +kernel
theorem d_M_putBranch_110 : decode b_M_putBranch 110 = .ok (.iaload, 1) := by decide +kernel
theorem d_M_putBranch_111 : decode b_M_putBranch 111 = .ok (.bipush 8, 2) := by decide +kernel
theorem d_M_putBranch_113 : decode b_M_putBranch 113 = .ok (.invokestatic 408, 3) := by decide +kernel
theorem d_M_putBranch_116 : decode b_M_putBranch 116 = .ok (.invokevirtual 394, 3) := by decide +kernel
theorem d_M_putBranch_119 : decode b_M_putBranch 119 = .ok (.aload_n 0, 1) := by decide +kernel
theorem d_M_putBranch_120 : decode b_M_putBranch 120 = .ok (.iload_n 2, 1) := by decide +kernel
theorem d_M_putBranch_121 : decode b_M_putBranch 121 = .ok (.iconst 4, 1) := by decide +kernel
theorem d_M_putBranch_122 : decode b_M_putBranch 122 = .ok (.iadd, 1) := by decide +kernel
theorem d_M_putBranch_123 : decode b_M_putBranch 123 = .ok (.iconst 0, 1) := by decide +kernel
theorem d_M_putBranch_124 : decode b_M_putBranch 124 = .ok (.aload_n 0, 1) := by decide +kernel
theorem d_M_putBranch_125 : decode b_M_putBranch 125 = .ok (.iload_n 1, 1) := by decide +kernel
theorem d_M_putBranch_126 : decode b_M_putBranch 126 = .ok (.invokevirtual 384, 3) := by decide +kernel
theorem d_M_putBranch_129 : decode b_M_putBranch 129 = .ok (.iconst 4, 1) := by decide +kernel
theorem d_M_putBranch_130 : decode b_M_putBranch 130 = .ok (.isub, 1) := by decide +kernel
theorem d_M_putBranch_131 : decode b_M_putBranch 131 = .ok (.invokestatic 401, 3) := by decide +kernel
theorem d_M_putBranch_134 : decode b_M_putBranch 134 = .ok (.invokevirtual 394, 3) := by decide +kernel
theorem d_M_putBranch_137 : decode b_M_putBranch 137 = .ok (.return_, 1) := by decide +kernel
theorem d_M_putTwo_0 : decode b_M_putTwo 0 = .ok (.lload_n 3, 1) := by decide +kernel
theorem d_M_putTwo_1 : decode b_M_putTwo 1 = .ok (.invokestatic 363, 3) := by decide +kernel
theorem d_M_putTwo_4 : decode b_M_putTwo 4 = .ok (.istore 7, 2) := by decide +kernel
theorem d_M_putTwo_6 : decode b_M_putTwo 6 = .ok (.lload_n 3, 1) := by decide +kernel
theorem d_M_putTwo_7 : decode b_M_putTwo 7 = .ok (.iload 7, 2) := by decide +kernel
theorem d_M_putTwo_9 : decode b_M_putTwo 9 = .ok (.i2l, 1) := by decide +kernel
theorem d_M_putTwo_10 : decode b_M_putTwo 10 = .ok (.lsub, 1) := by decide +kernel
theorem d_M_putTwo_11 : decode b_M_putTwo 11 = .ok (.bipush 12, 2) := by decide +kernel
theorem d_M_putTwo_13 : decode b_M_putTwo 13 = .ok (.lshr, 1) := by decide +kernel
theorem d_M_putTwo_14 : decode b_M_putTwo 14 = .ok (.l2i, 1) := by decide +kernel
theorem d_M_putTwo_15 : decode b_M_putTwo 15 = .ok (.istore 8, 2) := by decide +kernel
theorem d_M_putTwo_17 : decode b_M_putTwo 17 = .ok (.aload_n 0, 1) := by decide +kernel
theorem d_M_putTwo_18 : decode b_M_putTwo 18 = .ok (.iload_n 1, 1) := by decide +kernel
theorem d_M_putTwo_19 : decode b_M_putTwo 19 = .ok (.bipush 55, 2) := by decide +kernel
theorem d_M_putTwo_21 : decode b_M_putTwo 21 = .ok (.iload_n 2, 1) := by decide +kernel
theorem d_M_putTwo_22 : decode b_M_putTwo 22 = .ok (.bipush 7, 2) := by decide +kernel
theorem d_M_putTwo_24 : decode b_M_putTwo 24 = .ok (.ishl, 1) := by decide +kernel
theorem d_M_putTwo_25 : decode b_M_putTwo 25 = .ok (.ior, 1) := by decide +kernel
theorem d_M_putTwo_26 : decode b_M_putTwo 26 = .ok (.iload 8, 2) := by decide +kernel
theorem d_M_putTwo_28 : decode b_M_putTwo 28 = .ok (.bipush 12, 2) := by decide +kernel
theorem d_M_putTwo_30 : decode b_M_putTwo 30 = .ok (.ishl, 1) := by decide +kernel
theorem d_M_putTwo_31 : decode b_M_putTwo 31 = .ok (.ior, 1) := by decide +kernel
theorem d_M_putTwo_32 : decode b_M_putTwo 32 = .ok (.invokevirtual 394, 3) := by decide +kernel
theorem d_M_putTwo_35 : decode b_M_putTwo 35 = .ok (.iload 6, 2) := by decide +kernel
theorem d_M_putTwo_37 : decode b_M_putTwo 37 = .ok (.ifCond .eq 28, 3) := by decide +kernel
theorem d_M_putTwo_40 : decode b_M_putTwo 40 = .ok (.aload_n 0, 1) := by decide +kernel
theorem d_M_putTwo_41 : decode b_M_putTwo 41 = .ok (.iload_n 1, 1) := by decide +kernel
theorem d_M_putTwo_42 : decode b_M_putTwo 42 = .ok (.iconst 4, 1) := by decide +kernel
theorem d_M_putTwo_43 : decode b_M_putTwo 43 = .ok (.iadd, 1) := by decide +kernel
theorem d_M_putTwo_44 : decode b_M_putTwo 44 = .ok (.iload 5, 2) := by decide +kernel
theorem d_M_putTwo_46 : decode b_M_putTwo 46 = .ok (.iload_n 2, 1) := by decide +kernel
theorem d_M_putTwo_47 : decode b_M_putTwo 47 = .ok (.bipush 7, 2) := by decide +kernel
theorem d_M_putTwo_49 : decode b_M_putTwo 49 = .ok (.ishl, 1) := by decide +kernel
theorem d_M_putTwo_50 : decode b_M_putTwo 50 = .ok (.ior, 1) := by decide +kernel
theorem d_M_putTwo_51 : decode b_M_putTwo 51 = .ok (.iload_n 2, 1) := by decide +kernel
theorem d_M_putTwo_52 : decode b_M_putTwo 52 = .ok (.bipush 15, 2) := by decide +kernel
theorem d_M_putTwo_54 : decode b_M_putTwo 54 = .ok (.ishl, 1) := by decide +kernel
theorem d_M_putTwo_55 : decode b_M_putTwo 55 = .ok (.ior, 1) := by decide +kernel
theorem d_M_putTwo_56 : decode b_M_putTwo 56 = .ok (.iload 7, 2) := by decide +kernel
theorem d_M_putTwo_58 : decode b_M_putTwo 58 = .ok (.bipush 20, 2) := by decide +kernel
theorem d_M_putTwo_60 : decode b_M_putTwo 60 = .ok (.ishl, 1) := by decide +kernel
theorem d_M_putTwo_61 : decode b_M_putTwo 61 = .ok (.ior, 1) := by decide +kernel
theorem d_M_putTwo_62 : decode b_M_putTwo 62 = .ok (.invokevirtual 394, 3) := by decide +kernel
theorem d_M_putTwo_65 : decode b_M_putTwo 65 = .ok (.return_, 1) := by decide +kernel
theorem d_M_putWord_0 : decode b_M_putWord 0 = .ok (.iconst 0, 1) := by decide +kernel
theorem d_M_putWord_1 : decode b_M_putWord 1 = .ok (.istore_n 3, 1) := by decide +kernel
theorem d_M_putWord_2 : decode b_M_putWord 2 = .ok (.iload_n 3, 1) := by decide +kernel
theorem d_M_putWord_3 : decode b_M_putWord 3 = .ok (.iconst 4, 1) := by decide +kernel
theorem d_M_putWord_4 : decode b_M_putWord 4 = .ok (.if_icmp .ge 27, 3) := by decide +kernel
theorem d_M_putWord_7 : decode b_M_putWord 7 = .ok (.aload_n 0, 1) := by decide +kernel
theorem d_M_putWord_8 : decode b_M_putWord 8 = .ok (.getfield 64, 3) := by decide +kernel
theorem d_M_putWord_11 : decode b_M_putWord 11 = .ok (.iload_n 1, 1) := by decide +kernel
theorem d_M_putWord_12 : decode b_M_putWord 12 = .ok (.iload_n 3, 1) := by decide +kernel
theorem d_M_putWord_13 : decode b_M_putWord 13 = .ok (.iadd, 1) := by decide +kernel
theorem d_M_putWord_14 : decode b_M_putWord 14 = .ok (.iload_n 2, 1) := by decide +kernel
theorem d_M_putWord_15 : decode b_M_putWord 15 = .ok (.bipush 8, 2) := by decide +kernel
theorem d_M_putWord_17 : decode b_M_putWord 17 = .ok (.iload_n 3, 1) := by decide +kernel
theorem d_M_putWord_18 : decode b_M_putWord 18 = .ok (.imul, 1) := by decide +kernel
theorem d_M_putWord_19 : decode b_M_putWord 19 = .ok (.ishr, 1) := by decide +kernel
theorem d_M_putWord_20 : decode b_M_putWord 20 = .ok (.sipush 255, 3) := by decide +kernel
theorem d_M_putWord_23 : decode b_M_putWord 23 = .ok (.iand, 1) := by decide +kernel
theorem d_M_putWord_24 : decode b_M_putWord 24 = .ok (.iastore, 1) := by decide +kernel
theorem d_M_putWord_25 : decode b_M_putWord 25 = .ok (.iinc 3 1, 3) := by decide +kernel
theorem d_M_putWord_28 : decode b_M_putWord 28 = .ok (.goto (-26), 3) := by decide +kernel
theorem d_M_putWord_31 : decode b_M_putWord 31 = .ok (.return_, 1) := by decide +kernel
theorem d_M_register_0 : decode b_M_register 0 = .ok (.aload_n 0, 1) := by decide +kernel
theorem d_M_register_1 : decode b_M_register 1 = .ok (.invokevirtual 251, 3) := by decide +kernel
theorem d_M_register_4 : decode b_M_register 4 = .ok (.aload_n 0, 1) := by decide +kernel
theorem d_M_register_5 : decode b_M_register 5 = .ok (.getfield 217, 3) := by decide +kernel
theorem d_M_register_8 : decode b_M_register 8 = .ok (.ifCond .eq 5, 3) := by decide +kernel
theorem d_M_register_11 : decode b_M_register 11 = .ok (.iconst 0, 1) := by decide +kernel
theorem d_M_register_12 : decode b_M_register 12 = .ok (.ireturn, 1) := by decide +kernel
theorem d_M_register_13 : decode b_M_register 13 = .ok (.aload_n 0, 1) := by decide +kernel
theorem d_M_register_14 : decode b_M_register 14 = .ok (.invokevirtual 244, 3) := by decide +kernel
theorem d_M_register_17 : decode b_M_register 17 = .ok (.lstore_n 1, 1) := by decide +kernel
theorem d_M_register_18 : decode b_M_register 18 = .ok (.lload_n 1, 1) := by decide +kernel
theorem d_M_register_19 : decode b_M_register 19 = .ok (.ldc2_w 254, 3) := by decide +kernel
theorem d_M_register_22 : decode b_M_register 22 = .ok (.lcmp, 1) := by decide +kernel
theorem d_M_register_23 : decode b_M_register 23 = .ok (.ifCond .ne 5, 3) := by decide +kernel
theorem d_M_register_26 : decode b_M_register 26 = .ok (.iconst 0, 1) := by decide +kernel
theorem d_M_register_27 : decode b_M_register 27 = .ok (.ireturn, 1) := by decide +kernel
theorem d_M_register_28 : decode b_M_register 28 = .ok (.lload_n 1, 1) := by decide +kernel
theorem d_M_register_29 : decode b_M_register 29 = .ok (.ldc2_w 256, 3) := by decide +kernel
theorem d_M_register_32 : decode b_M_register 32 = .ok (.lcmp, 1) := by decide +kernel
theorem d_M_register_33 : decode b_M_register 33 = .ok (.ifCond .ne 5, 3) := by decide +kernel
theorem d_M_register_36 : decode b_M_register 36 = .ok (.iconst 1, 1) := by decide +kernel
theorem d_M_register_37 : decode b_M_register 37 = .ok (.ireturn, 1) := by decide +kernel
theorem d_M_register_38 : decode b_M_register 38 = .ok (.lload_n 1, 1) := by decide +kernel
theorem d_M_register_39 : decode b_M_register 39 = .ok (.ldc2_w 258, 3) := by decide +kernel
theorem d_M_register_42 : decode b_M_register 42 = .ok (.lcmp, 1) := by decide +kernel
theorem d_M_register_43 : decode b_M_register 43 = .ok (.ifCond .ne 5, 3) := by decide +kernel
theorem d_M_register_46 : decode b_M_register 46 = .ok (.iconst 2, 1) := by decide +kernel
theorem d_M_register_47 : decode b_M_register 47 = .ok (.ireturn, 1) := by decide +kernel
theorem d_M_register_48 : decode b_M_register 48 = .ok (.aload_n 0, 1) := by decide +kernel
theorem d_M_register_49 : decode b_M_register 49 = .ok (.aload_n 0, 1) := by decide +kernel
theorem d_M_register_50 : decode b_M_register 50 = .ok (.getfield 20, 3) := by decide +kernel
theorem d_M_register_53 : decode b_M_register 53 = .ok (.iconst 0, 1) := by decide +kernel
theorem d_M_register_54 : decode b_M_register 54 = .ok (.iaload, 1) := by decide +kernel
theorem d_M_register_55 : decode b_M_register 55 = .ok (.bipush 120, 2) := by decide +kernel
theorem d_M_register_57 : decode b_M_register 57 = .ok (.if_icmp .ne 66, 3) := by decide +kernel
theorem d_M_register_60 : decode b_M_register 60 = .ok (.aload_n 0, 1) := by decide +kernel
theorem d_M_register_61 : decode b_M_register 61 = .ok (.getfield 228, 3) := by decide +kernel
theorem d_M_register_64 : decode b_M_register 64 = .ok (.iconst 2, 1) := by decide +kernel
theorem d_M_register_65 : decode b_M_register 65 = .ok (.if_icmp .eq 22, 3) := by decide +kernel
theorem d_M_register_68 : decode b_M_register 68 = .ok (.aload_n 0, 1) := by decide +kernel
theorem d_M_register_69 : decode b_M_register 69 = .ok (.getfield 228, 3) := by decide +kernel
theorem d_M_register_72 : decode b_M_register 72 = .ok (.iconst 3, 1) := by decide +kernel
theorem d_M_register_73 : decode b_M_register 73 = .ok (.if_icmp .ne 50, 3) := by decide +kernel
theorem d_M_register_76 : decode b_M_register 76 = .ok (.aload_n 0, 1) := by decide +kernel
theorem d_M_register_77 : decode b_M_register 77 = .ok (.getfield 20, 3) := by decide +kernel
theorem d_M_register_80 : decode b_M_register 80 = .ok (.iconst 1, 1) := by decide +kernel
theorem d_M_register_81 : decode b_M_register 81 = .ok (.iaload, 1) := by decide +kernel
theorem d_M_register_82 : decode b_M_register 82 = .ok (.bipush 48, 2) := by decide +kernel
theorem d_M_register_84 : decode b_M_register 84 = .ok (.if_icmp .eq 39, 3) := by decide +kernel
theorem d_M_register_87 : decode b_M_register 87 = .ok (.aload_n 0, 1) := by decide +kernel
theorem d_M_register_88 : decode b_M_register 88 = .ok (.getfield 20, 3) := by decide +kernel
theorem d_M_register_91 : decode b_M_register 91 = .ok (.iconst 1, 1) := by decide +kernel
theorem d_M_register_92 : decode b_M_register 92 = .ok (.iaload, 1) := by decide +kernel
theorem d_M_register_93 : decode b_M_register 93 = .ok (.invokestatic 235, 3) := by decide +kernel
theorem d_M_register_96 : decode b_M_register 96 = .ok (.ifCond .eq 27, 3) := by decide +kernel
theorem d_M_register_99 : decode b_M_register 99 = .ok (.aload_n 0, 1) := by decide +kernel
