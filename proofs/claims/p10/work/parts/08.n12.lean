theorem d_M_init_992 : decode b_M_init 992 = .ok (.bipush 43, 2) := by decide +kernel
theorem d_M_init_994 : decode b_M_init 994 = .ok (.ldc 205, 2) := by decide +kernel
theorem d_M_init_996 : decode b_M_init 996 = .ok (.iastore, 1) := by decide +kernel
theorem d_M_init_997 : decode b_M_init 997 = .ok (.aload_n 0, 1) := by decide +kernel
theorem d_M_init_998 : decode b_M_init 998 = .ok (.getfield 13, 3) := by decide +kernel
theorem d_M_init_1001 : decode b_M_init 1001 = .ok (.bipush 44, 2) := by decide +kernel
theorem d_M_init_1003 : decode b_M_init 1003 = .ok (.ldc 206, 2) := by decide +kernel
theorem d_M_init_1005 : decode b_M_init 1005 = .ok (.iastore, 1) := by decide +kernel
theorem d_M_init_1006 : decode b_M_init 1006 = .ok (.aload_n 0, 1) := by decide +kernel
theorem d_M_init_1007 : decode b_M_init 1007 = .ok (.getfield 13, 3) := by decide +kernel
theorem d_M_init_1010 : decode b_M_init 1010 = .ok (.bipush 45, 2) := by decide +kernel
theorem d_M_init_1012 : decode b_M_init 1012 = .ok (.ldc 207, 2) := by decide +kernel
theorem d_M_init_1014 : decode b_M_init 1014 = .ok (.iastore, 1) := by decide +kernel
theorem d_M_init_1015 : decode b_M_init 1015 = .ok (.return_, 1) := by decide +kernel
theorem d_M_asName_0 : decode b_M_asName 0 = .ok (.aload_n 0, 1) := by decide +kernel
theorem d_M_asName_1 : decode b_M_asName 1 = .ok (.aload_n 0, 1) := by decide +kernel
theorem d_M_asName_2 : decode b_M_asName 2 = .ok (.getfield 228, 3) := by decide +kernel
theorem d_M_asName_5 : decode b_M_asName 5 = .ok (.bipush 6, 2) := by decide +kernel
theorem d_M_asName_7 : decode b_M_asName 7 = .ok (.if_icmp .gt 7, 3) := by decide +kernel
theorem d_M_asName_10 : decode b_M_asName 10 = .ok (.iconst 1, 1) := by decide +kernel
theorem d_M_asName_11 : decode b_M_asName 11 = .ok (.goto 4, 3) := by decide +kernel
theorem d_M_asName_14 : decode b_M_asName 14 = .ok (.iconst 0, 1) := by decide +kernel
theorem d_M_asName_15 : decode b_M_asName 15 = .ok (.invokevirtual 238, 3) := by decide +kernel
theorem d_M_asName_18 : decode b_M_asName 18 = .ok (.iconst 0, 1) := by decide +kernel
theorem d_M_asName_19 : decode b_M_asName 19 = .ok (.istore_n 1, 1) := by decide +kernel
theorem d_M_asName_20 : decode b_M_asName 20 = .ok (.iload_n 1, 1) := by decide +kernel
theorem d_M_asName_21 : decode b_M_asName 21 = .ok (.aload_n 0, 1) := by decide +kernel
theorem d_M_asName_22 : decode b_M_asName 22 = .ok (.getfield 228, 3) := by decide +kernel
theorem d_M_asName_25 : decode b_M_asName 25 = .ok (.if_icmp .ge 22, 3) := by decide +kernel
theorem d_M_asName_28 : decode b_M_asName 28 = .ok (.aload_n 0, 1) := by decide +kernel
theorem d_M_asName_29 : decode b_M_asName 29 = .ok (.aload_n 0, 1) := by decide +kernel
theorem d_M_asName_30 : decode b_M_asName 30 = .ok (.getfield 20, 3) := by decide +kernel
theorem d_M_asName_33 : decode b_M_asName 33 = .ok (.iload_n 1, 1) := by decide +kernel
theorem d_M_asName_34 : decode b_M_asName 34 = .ok (.iaload, 1) := by decide +kernel
theorem d_M_asName_35 : decode b_M_asName 35 = .ok (.invokestatic 231, 3) := by decide +kernel
theorem d_M_asName_38 : decode b_M_asName 38 = .ok (.invokevirtual 238, 3) := by decide +kernel
theorem d_M_asName_41 : decode b_M_asName 41 = .ok (.iinc 1 1, 3) := by decide +kernel
theorem d_M_asName_44 : decode b_M_asName 44 = .ok (.goto (-24), 3) := by decide +kernel
theorem d_M_asName_47 : decode b_M_asName 47 = .ok (.aload_n 0, 1) := by decide +kernel
theorem d_M_asName_48 : decode b_M_asName 48 = .ok (.invokevirtual 244, 3) := by decide +kernel
theorem d_M_asName_51 : decode b_M_asName 51 = .ok (.lreturn, 1) := by decide +kernel
theorem d_M_bits_0 : decode b_M_bits 0 = .ok (.iload_n 0, 1) := by decide +kernel
theorem d_M_bits_1 : decode b_M_bits 1 = .ok (.iload_n 1, 1) := by decide +kernel
theorem d_M_bits_2 : decode b_M_bits 2 = .ok (.ishr, 1) := by decide +kernel
theorem d_M_bits_3 : decode b_M_bits 3 = .ok (.iconst 1, 1) := by decide +kernel
theorem d_M_bits_4 : decode b_M_bits 4 = .ok (.iload_n 2, 1) := by decide +kernel
theorem d_M_bits_5 : decode b_M_bits 5 = .ok (.iload_n 1, 1) := by decide +kernel
theorem d_M_bits_6 : decode b_M_bits 6 = .ok (.isub, 1) := by decide +kernel
theorem d_M_bits_7 : decode b_M_bits 7 = .ok (.iconst 1, 1) := by decide +kernel
theorem d_M_bits_8 : decode b_M_bits 8 = .ok (.iadd, 1) := by decide +kernel
theorem d_M_bits_9 : decode b_M_bits 9 = .ok (.ishl, 1) := by decide +kernel
theorem d_M_bits_10 : decode b_M_bits 10 = .ok (.iconst 1, 1) := by decide +kernel
theorem d_M_bits_11 : decode b_M_bits 11 = .ok (.isub, 1) := by decide +kernel
theorem d_M_bits_12 : decode b_M_bits 12 = .ok (.iand, 1) := by decide +kernel
theorem d_M_bits_13 : decode b_M_bits 13 = .ok (.iload_n 3, 1) := by decide +kernel
theorem d_M_bits_14 : decode b_M_bits 14 = .ok (.ishl, 1) := by decide +kernel
theorem d_M_bits_15 : decode b_M_bits 15 = .ok (.ireturn, 1) := by decide +kernel
theorem d_M_branch_0 : decode b_M_branch 0 = .ok (.iload_n 0, 1) := by decide +kernel
theorem d_M_branch_1 : decode b_M_branch 1 = .ok (.iload_n 1, 1) := by decide +kernel
theorem d_M_branch_2 : decode b_M_branch 2 = .ok (.bipush 15, 2) := by decide +kernel
theorem d_M_branch_4 : decode b_M_branch 4 = .ok (.ishl, 1) := by decide +kernel
theorem d_M_branch_5 : decode b_M_branch 5 = .ok (.iadd, 1) := by decide +kernel
theorem d_M_branch_6 : decode b_M_branch 6 = .ok (.iload_n 2, 1) := by decide +kernel
theorem d_M_branch_7 : decode b_M_branch 7 = .ok (.bipush 20, 2) := by decide +kernel
theorem d_M_branch_9 : decode b_M_branch 9 = .ok (.ishl, 1) := by decide +kernel
theorem d_M_branch_10 : decode b_M_branch 10 = .ok (.ior, 1) := by decide +kernel
theorem d_M_branch_11 : decode b_M_branch 11 = .ok (.iload_n 3, 1) := by decide +kernel
theorem d_M_branch_12 : decode b_M_branch 12 = .ok (.iconst 1, 1) := by decide +kernel
theorem d_M_branch_13 : decode b_M_branch 13 = .ok (.iconst 4, 1) := by decide +kernel
theorem d_M_branch_14 : decode b_M_branch 14 = .ok (.bipush 8, 2) := by decide +kernel
theorem d_M_branch_16 : decode b_M_branch 16 = .ok (.invokestatic 390, 3) := by decide +kernel
theorem d_M_branch_19 : decode b_M_branch 19 = .ok (.ior, 1) := by decide +kernel
theorem d_M_branch_20 : decode b_M_branch 20 = .ok (.iload_n 3, 1) := by decide +kernel
theorem d_M_branch_21 : decode b_M_branch 21 = .ok (.iconst 5, 1) := by decide +kernel
theorem d_M_branch_22 : decode b_M_branch 22 = .ok (.bipush 10, 2) := by decide +kernel
theorem d_M_branch_24 : decode b_M_branch 24 = .ok (.bipush 25, 2) := by decide +kernel
theorem d_M_branch_26 : decode b_M_branch 26 = .ok (.invokestatic 390, 3) := by decide +kernel
theorem d_M_branch_29 : decode b_M_branch 29 = .ok (.ior, 1) := by decide +kernel
theorem d_M_branch_30 : decode b_M_branch 30 = .ok (.iload_n 3, 1) := by decide +kernel
theorem d_M_branch_31 : decode b_M_branch 31 = .ok (.bipush 11, 2) := by decide +kernel
theorem d_M_branch_33 : decode b_M_branch 33 = .ok (.bipush 11, 2) := by decide +kernel
theorem d_M_branch_35 : decode b_M_branch 35 = .ok (.bipush 7, 2) := by decide +kernel
theorem d_M_branch_37 : decode b_M_branch 37 = .ok (.invokestatic 390, 3) := by decide +kernel
theorem d_M_branch_40 : decode b_M_branch 40 = .ok (.ior, 1) := by decide +kernel
theorem d_M_branch_41 : decode b_M_branch 41 = .ok (.iload_n 3, 1) := by decide +kernel
theorem d_M_branch_42 : decode b_M_branch 42 = .ok (.bipush 12, 2) := by decide +kernel
theorem d_M_branch_44 : decode b_M_branch 44 = .ok (.bipush 12, 2) := by decide +kernel
theorem d_M_branch_46 : decode b_M_branch 46 = .ok (.bipush 31, 2) := by decide +kernel
theorem d_M_branch_48 : decode b_M_branch 48 = .ok (.invokestatic 390, 3) := by decide +kernel
theorem d_M_branch_51 : decode b_M_branch 51 = .ok (.ior, 1) := by decide +kernel
theorem d_M_branch_52 : decode b_M_branch 52 = .ok (.ireturn, 1) := by decide +kernel
theorem d_M_bytes_0 : decode b_M_bytes 0 = .ok (.aload_n 0, 1) := by decide +kernel
theorem d_M_bytes_1 : decode b_M_bytes 1 = .ok (.getfield 26, 3) := by decide +kernel
theorem d_M_bytes_4 : decode b_M_bytes 4 = .ok (.iload_n 1, 1) := by decide +kernel
theorem d_M_bytes_5 : decode b_M_bytes 5 = .ok (.iaload, 1) := by decide +kernel
theorem d_M_bytes_6 : decode b_M_bytes 6 = .ok (.istore_n 2, 1) := by decide +kernel
theorem d_M_bytes_7 : decode b_M_bytes 7 = .ok (.iload_n 2, 1) := by decide +kernel
theorem d_M_bytes_8 : decode b_M_bytes 8 = .ok (.ifCond .eq 9, 3) := by decide +kernel
theorem d_M_bytes_11 : decode b_M_bytes 11 = .ok (.iload_n 2, 1) := by decide +kernel
theorem d_M_bytes_12 : decode b_M_bytes 12 = .ok (.bipush 14, 2) := by decide +kernel
theorem d_M_bytes_14 : decode b_M_bytes 14 = .ok (.if_icmp .ne 5, 3) := by decide +kernel
theorem d_M_bytes_17 : decode b_M_bytes 17 = .ok (.iconst 0, 1) := by decide +kernel
theorem d_M_bytes_18 : decode b_M_bytes 18 = .ok (.ireturn, 1) := by decide +kernel
theorem d_M_bytes_19 : decode b_M_bytes 19 = .ok (.iload_n 2, 1) := by decide +kernel
theorem d_M_bytes_20 : decode b_M_bytes 20 = .ok (.bipush 12, 2) := by decide +kernel
theorem d_M_bytes_22 : decode b_M_bytes 22 = .ok (.if_icmp .ne 5, 3) := by decide +kernel
theorem d_M_bytes_25 : decode b_M_bytes 25 = .ok (.iconst 1, 1) := by decide +kernel
theorem d_M_bytes_26 : decode b_M_bytes 26 = .ok (.ireturn, 1) := by decide +kernel
theorem d_M_bytes_27 : decode b_M_bytes 27 = .ok (.iload_n 2, 1) := by decide +kernel
theorem d_M_bytes_28 : decode b_M_bytes 28 = .ok (.bipush 13, 2) := by decide +kernel
theorem d_M_bytes_30 : decode b_M_bytes 30 = .ok (.if_icmp .ne 11, 3) := by decide +kernel
theorem d_M_bytes_33 : decode b_M_bytes 33 = .ok (.aload_n 0, 1) := by decide +kernel
theorem d_M_bytes_34 : decode b_M_bytes 34 = .ok (.getfield 41, 3) := by decide +kernel
theorem d_M_bytes_37 : decode b_M_bytes 37 = .ok (.iload_n 1, 1) := by decide +kernel
theorem d_M_bytes_38 : decode b_M_bytes 38 = .ok (.laload, 1) := by decide +kernel
theorem d_M_bytes_39 : decode b_M_bytes 39 = .ok (.l2i, 1) := by decide +kernel
theorem d_M_bytes_40 : decode b_M_bytes 40 = .ok (.ireturn, 1) := by decide +kernel
theorem d_M_bytes_41 : decode b_M_bytes 41 = .ok (.iload_n 2, 1) := by decide +kernel
theorem d_M_bytes_42 : decode b_M_bytes 42 = .ok (.bipush 9, 2) := by decide +kernel
theorem d_M_bytes_44 : decode b_M_bytes 44 = .ok (.if_icmp .ne 48, 3) := by decide +kernel
theorem d_M_bytes_47 : decode b_M_bytes 47 = .ok (.aload_n 0, 1) := by decide +kernel
theorem d_M_bytes_48 : decode b_M_bytes 48 = .ok (.getfield 41, 3) := by decide +kernel
theorem d_M_bytes_51 : decode b_M_bytes 51 = .ok (.iload_n 1, 1) := by decide +kernel
theorem d_M_bytes_52 : decode b_M_bytes 52 = .ok (.laload, 1) := by decide +kernel
theorem d_M_bytes_53 : decode b_M_bytes 53 = .ok (.ldc2_w 266, 3) := by decide +kernel
theorem d_M_bytes_56 : decode b_M_bytes 56 = .ok (.lcmp, 1) := by decide +kernel
theorem d_M_bytes_57 : decode b_M_bytes 57 = .ok (.ifCond .lt 16, 3) := by decide +kernel
theorem d_M_bytes_60 : decode b_M_bytes 60 = .ok (.aload_n 0, 1) := by decide +kernel
theorem d_M_bytes_61 : decode b_M_bytes 61 = .ok (.getfield 41, 3) := by decide +kernel
theorem d_M_bytes_64 : decode b_M_bytes 64 = .ok (.iload_n 1, 1) := by decide +kernel
theorem d_M_bytes_65 : decode b_M_bytes 65 = .ok (.laload, 1) := by decide +kernel
theorem d_M_bytes_66 : decode b_M_bytes 66 = .ok (.ldc2_w 268, 3) := by decide +kernel
theorem d_M_bytes_69 : decode b_M_bytes 69 = .ok (.lcmp, 1) := by decide +kernel
theorem d_M_bytes_70 : decode b_M_bytes 70 = .ok (.ifCond .le 15, 3) := by decide +kernel
theorem d_M_bytes_73 : decode b_M_bytes 73 = .ok (.aload_n 0, 1) := by decide +kernel
theorem d_M_bytes_74 : decode b_M_bytes 74 = .ok (.getfield 41, 3) := by decide +kernel
theorem d_M_bytes_77 : decode b_M_bytes 77 = .ok (.iload_n 1, 1) := by decide +kernel
theorem d_M_bytes_78 : decode b_M_bytes 78 = .ok (.laload, 1) := by decide +kernel
theorem d_M_bytes_79 : decode b_M_bytes 79 = .ok (.invokestatic 363, 3) := by decide +kernel
theorem d_M_bytes_82 : decode b_M_bytes 82 = .ok (.ifCond .ne 7, 3) := by decide +kernel
theorem d_M_bytes_85 : decode b_M_bytes 85 = .ok (.iconst 4, 1) := by decide +kernel
theorem d_M_bytes_86 : decode b_M_bytes 86 = .ok (.goto 5, 3) := by decide +kernel
theorem d_M_bytes_89 : decode b_M_bytes 89 = .ok (.bipush 8, 2) := by decide +kernel
theorem d_M_bytes_91 : decode b_M_bytes 91 = .ok (.ireturn, 1) := by decide +kernel
theorem d_M_bytes_92 : decode b_M_bytes 92 = .ok (.iload_n 2, 1) := by decide +kernel
theorem d_M_bytes_93 : decode b_M_bytes 93 = .ok (.bipush 10, 2) := by decide +kernel
theorem d_M_bytes_95 : decode b_M_bytes 95 = .ok (.if_icmp .eq 18, 3) := by decide +kernel
theorem d_M_bytes_98 : decode b_M_bytes 98 = .ok (.iload_n 2, 1) := by decide +kernel
theorem d_M_bytes_99 : decode b_M_bytes 99 = .ok (.bipush 7, 2) := by decide +kernel
theorem d_M_bytes_101 : decode b_M_bytes 101 = .ok (.if_icmp .ne 17, 3) := by decide +kernel
