theorem d_M_skip_28 : decode b_M_skip 28 = .ok (.putfield 211, 3) := by decide +kernel
theorem d_M_skip_31 : decode b_M_skip 31 = .ok (.iconst 1, 1) := by decide +kernel
theorem d_M_skip_32 : decode b_M_skip 32 = .ok (.ireturn, 1) := by decide +kernel
theorem d_M_sound_0 : decode b_M_sound 0 = .ok (.iload_n 1, 1) := by decide +kernel
theorem d_M_sound_1 : decode b_M_sound 1 = .ok (.ifCond .ne 8, 3) := by decide +kernel
theorem d_M_sound_4 : decode b_M_sound 4 = .ok (.aload_n 0, 1) := by decide +kernel
theorem d_M_sound_5 : decode b_M_sound 5 = .ok (.iconst 1, 1) := by decide +kernel
theorem d_M_sound_6 : decode b_M_sound 6 = .ok (.putfield 217, 3) := by decide +kernel
theorem d_M_sound_9 : decode b_M_sound 9 = .ok (.return_, 1) := by decide +kernel
theorem d_M_take_0 : decode b_M_take 0 = .ok (.aload_n 0, 1) := by decide +kernel
theorem d_M_take_1 : decode b_M_take 1 = .ok (.invokevirtual 225, 3) := by decide +kernel
theorem d_M_take_4 : decode b_M_take 4 = .ok (.aload_n 0, 1) := by decide +kernel
theorem d_M_take_5 : decode b_M_take 5 = .ok (.iconst 0, 1) := by decide +kernel
theorem d_M_take_6 : decode b_M_take 6 = .ok (.putfield 228, 3) := by decide +kernel
theorem d_M_take_9 : decode b_M_take 9 = .ok (.aload_n 0, 1) := by decide +kernel
theorem d_M_take_10 : decode b_M_take 10 = .ok (.invokevirtual 221, 3) := by decide +kernel
theorem d_M_take_13 : decode b_M_take 13 = .ok (.bipush 46, 2) := by decide +kernel
theorem d_M_take_15 : decode b_M_take 15 = .ok (.if_icmp .eq 23, 3) := by decide +kernel
theorem d_M_take_18 : decode b_M_take 18 = .ok (.aload_n 0, 1) := by decide +kernel
theorem d_M_take_19 : decode b_M_take 19 = .ok (.invokevirtual 221, 3) := by decide +kernel
theorem d_M_take_22 : decode b_M_take 22 = .ok (.invokestatic 231, 3) := by decide +kernel
theorem d_M_take_25 : decode b_M_take 25 = .ok (.ifCond .ne 13, 3) := by decide +kernel
theorem d_M_take_28 : decode b_M_take 28 = .ok (.aload_n 0, 1) := by decide +kernel
theorem d_M_take_29 : decode b_M_take 29 = .ok (.invokevirtual 221, 3) := by decide +kernel
theorem d_M_take_32 : decode b_M_take 32 = .ok (.invokestatic 235, 3) := by decide +kernel
theorem d_M_take_35 : decode b_M_take 35 = .ok (.ifCond .eq 7, 3) := by decide +kernel
theorem d_M_take_38 : decode b_M_take 38 = .ok (.iconst 1, 1) := by decide +kernel
theorem d_M_take_39 : decode b_M_take 39 = .ok (.goto 4, 3) := by decide +kernel
theorem d_M_take_42 : decode b_M_take 42 = .ok (.iconst 0, 1) := by decide +kernel
theorem d_M_take_43 : decode b_M_take 43 = .ok (.istore_n 1, 1) := by decide +kernel
theorem d_M_take_44 : decode b_M_take 44 = .ok (.iload_n 1, 1) := by decide +kernel
theorem d_M_take_45 : decode b_M_take 45 = .ok (.ifCond .eq 65, 3) := by decide +kernel
theorem d_M_take_48 : decode b_M_take 48 = .ok (.aload_n 0, 1) := by decide +kernel
theorem d_M_take_49 : decode b_M_take 49 = .ok (.getfield 20, 3) := by decide +kernel
theorem d_M_take_52 : decode b_M_take 52 = .ok (.aload_n 0, 1) := by decide +kernel
theorem d_M_take_53 : decode b_M_take 53 = .ok (.getfield 228, 3) := by decide +kernel
theorem d_M_take_56 : decode b_M_take 56 = .ok (.aload_n 0, 1) := by decide +kernel
theorem d_M_take_57 : decode b_M_take 57 = .ok (.invokevirtual 221, 3) := by decide +kernel
theorem d_M_take_60 : decode b_M_take 60 = .ok (.iastore, 1) := by decide +kernel
theorem d_M_take_61 : decode b_M_take 61 = .ok (.aload_n 0, 1) := by decide +kernel
theorem d_M_take_62 : decode b_M_take 62 = .ok (.dup, 1) := by decide +kernel
theorem d_M_take_63 : decode b_M_take 63 = .ok (.getfield 228, 3) := by decide +kernel
theorem d_M_take_66 : decode b_M_take 66 = .ok (.iconst 1, 1) := by decide +kernel
theorem d_M_take_67 : decode b_M_take 67 = .ok (.iadd, 1) := by decide +kernel
theorem d_M_take_68 : decode b_M_take 68 = .ok (.putfield 228, 3) := by decide +kernel
theorem d_M_take_71 : decode b_M_take 71 = .ok (.aload_n 0, 1) := by decide +kernel
theorem d_M_take_72 : decode b_M_take 72 = .ok (.dup, 1) := by decide +kernel
theorem d_M_take_73 : decode b_M_take 73 = .ok (.getfield 211, 3) := by decide +kernel
theorem d_M_take_76 : decode b_M_take 76 = .ok (.iconst 1, 1) := by decide +kernel
theorem d_M_take_77 : decode b_M_take 77 = .ok (.iadd, 1) := by decide +kernel
theorem d_M_take_78 : decode b_M_take 78 = .ok (.putfield 211, 3) := by decide +kernel
theorem d_M_take_81 : decode b_M_take 81 = .ok (.aload_n 0, 1) := by decide +kernel
theorem d_M_take_82 : decode b_M_take 82 = .ok (.invokevirtual 221, 3) := by decide +kernel
theorem d_M_take_85 : decode b_M_take 85 = .ok (.invokestatic 231, 3) := by decide +kernel
theorem d_M_take_88 : decode b_M_take 88 = .ok (.ifCond .ne 13, 3) := by decide +kernel
theorem d_M_take_91 : decode b_M_take 91 = .ok (.aload_n 0, 1) := by decide +kernel
theorem d_M_take_92 : decode b_M_take 92 = .ok (.invokevirtual 221, 3) := by decide +kernel
theorem d_M_take_95 : decode b_M_take 95 = .ok (.invokestatic 235, 3) := by decide +kernel
theorem d_M_take_98 : decode b_M_take 98 = .ok (.ifCond .eq 7, 3) := by decide +kernel
theorem d_M_take_101 : decode b_M_take 101 = .ok (.iconst 1, 1) := by decide +kernel
theorem d_M_take_102 : decode b_M_take 102 = .ok (.goto 4, 3) := by decide +kernel
theorem d_M_take_105 : decode b_M_take 105 = .ok (.iconst 0, 1) := by decide +kernel
theorem d_M_take_106 : decode b_M_take 106 = .ok (.istore_n 1, 1) := by decide +kernel
theorem d_M_take_107 : decode b_M_take 107 = .ok (.goto (-63), 3) := by decide +kernel
theorem d_M_take_110 : decode b_M_take 110 = .ok (.aload_n 0, 1) := by decide +kernel
theorem d_M_take_111 : decode b_M_take 111 = .ok (.aload_n 0, 1) := by decide +kernel
theorem d_M_take_112 : decode b_M_take 112 = .ok (.getfield 228, 3) := by decide +kernel
theorem d_M_take_115 : decode b_M_take 115 = .ok (.ifCond .le 7, 3) := by decide +kernel
theorem d_M_take_118 : decode b_M_take 118 = .ok (.iconst 1, 1) := by decide +kernel
theorem d_M_take_119 : decode b_M_take 119 = .ok (.goto 4, 3) := by decide +kernel
theorem d_M_take_122 : decode b_M_take 122 = .ok (.iconst 0, 1) := by decide +kernel
theorem d_M_take_123 : decode b_M_take 123 = .ok (.invokevirtual 238, 3) := by decide +kernel
theorem d_M_take_126 : decode b_M_take 126 = .ok (.return_, 1) := by decide +kernel
theorem d_M_there_0 : decode b_M_there 0 = .ok (.iload_n 1, 1) := by decide +kernel
theorem d_M_there_1 : decode b_M_there 1 = .ok (.bipush 16, 2) := by decide +kernel
theorem d_M_there_3 : decode b_M_there 3 = .ok (.irem, 1) := by decide +kernel
theorem d_M_there_4 : decode b_M_there 4 = .ok (.aload_n 0, 1) := by decide +kernel
theorem d_M_there_5 : decode b_M_there 5 = .ok (.getfield 23, 3) := by decide +kernel
theorem d_M_there_8 : decode b_M_there 8 = .ok (.iload_n 1, 1) := by decide +kernel
theorem d_M_there_9 : decode b_M_there 9 = .ok (.bipush 16, 2) := by decide +kernel
theorem d_M_there_11 : decode b_M_there 11 = .ok (.idiv, 1) := by decide +kernel
theorem d_M_there_12 : decode b_M_there 12 = .ok (.iaload, 1) := by decide +kernel
theorem d_M_there_13 : decode b_M_there 13 = .ok (.if_icmp .ge 7, 3) := by decide +kernel
theorem d_M_there_16 : decode b_M_there 16 = .ok (.iconst 1, 1) := by decide +kernel
theorem d_M_there_17 : decode b_M_there 17 = .ok (.goto 4, 3) := by decide +kernel
theorem d_M_there_20 : decode b_M_there 20 = .ok (.iconst 0, 1) := by decide +kernel
theorem d_M_there_21 : decode b_M_there 21 = .ok (.ireturn, 1) := by decide +kernel
theorem d_M_way_0 : decode b_M_way 0 = .ok (.aload_n 0, 1) := by decide +kernel
theorem d_M_way_1 : decode b_M_way 1 = .ok (.getfield 53, 3) := by decide +kernel
theorem d_M_way_4 : decode b_M_way 4 = .ok (.aload_n 0, 1) := by decide +kernel
theorem d_M_way_5 : decode b_M_way 5 = .ok (.getfield 50, 3) := by decide +kernel
theorem d_M_way_8 : decode b_M_way 8 = .ok (.iload_n 1, 1) := by decide +kernel
theorem d_M_way_9 : decode b_M_way 9 = .ok (.iaload, 1) := by decide +kernel
theorem d_M_way_10 : decode b_M_way 10 = .ok (.iaload, 1) := by decide +kernel
theorem d_M_way_11 : decode b_M_way 11 = .ok (.aload_n 0, 1) := by decide +kernel
theorem d_M_way_12 : decode b_M_way 12 = .ok (.getfield 53, 3) := by decide +kernel
theorem d_M_way_15 : decode b_M_way 15 = .ok (.iload_n 1, 1) := by decide +kernel
theorem d_M_way_16 : decode b_M_way 16 = .ok (.iaload, 1) := by decide +kernel
theorem d_M_way_17 : decode b_M_way 17 = .ok (.isub, 1) := by decide +kernel
theorem d_M_way_18 : decode b_M_way 18 = .ok (.ireturn, 1) := by decide +kernel
theorem d_AS_charAt_0 : decode b_AS_charAt 0 = .ok (.aload_n 0, 1) := by decide +kernel
theorem d_AS_charAt_1 : decode b_AS_charAt 1 = .ok (.getfield 22, 3) := by decide +kernel
theorem d_AS_charAt_4 : decode b_AS_charAt 4 = .ok (.istore_n 2, 1) := by decide +kernel
theorem d_AS_charAt_5 : decode b_AS_charAt 5 = .ok (.aload_n 0, 1) := by decide +kernel
theorem d_AS_charAt_6 : decode b_AS_charAt 6 = .ok (.getfield 15, 3) := by decide +kernel
theorem d_AS_charAt_9 : decode b_AS_charAt 9 = .ok (.astore_n 3, 1) := by decide +kernel
theorem d_AS_charAt_10 : decode b_AS_charAt 10 = .ok (.aload_n 0, 1) := by decide +kernel
theorem d_AS_charAt_11 : decode b_AS_charAt 11 = .ok (.getfield 79, 3) := by decide +kernel
theorem d_AS_charAt_14 : decode b_AS_charAt 14 = .ok (.aload_n 3, 1) := by decide +kernel
theorem d_AS_charAt_15 : decode b_AS_charAt 15 = .ok (.arraylength, 1) := by decide +kernel
theorem d_AS_charAt_16 : decode b_AS_charAt 16 = .ok (.iload_n 2, 1) := by decide +kernel
theorem d_AS_charAt_17 : decode b_AS_charAt 17 = .ok (.ishr, 1) := by decide +kernel
theorem d_AS_charAt_18 : decode b_AS_charAt 18 = .ok (.invokestatic 138, 3) := by decide +kernel
theorem d_AS_charAt_21 : decode b_AS_charAt 21 = .ok (.istore 4, 2) := by decide +kernel
theorem d_AS_charAt_23 : decode b_AS_charAt 23 = .ok (.iload_n 1, 1) := by decide +kernel
theorem d_AS_charAt_24 : decode b_AS_charAt 24 = .ok (.iload 4, 2) := by decide +kernel
theorem d_AS_charAt_26 : decode b_AS_charAt 26 = .ok (.invokestatic 144, 3) := by decide +kernel
theorem d_AS_charAt_29 : decode b_AS_charAt 29 = .ok (.iload_n 2, 1) := by decide +kernel
theorem d_AS_charAt_30 : decode b_AS_charAt 30 = .ok (.ifCond .ne 12, 3) := by decide +kernel
theorem d_AS_charAt_33 : decode b_AS_charAt 33 = .ok (.aload_n 3, 1) := by decide +kernel
theorem d_AS_charAt_34 : decode b_AS_charAt 34 = .ok (.iload_n 1, 1) := by decide +kernel
theorem d_AS_charAt_35 : decode b_AS_charAt 35 = .ok (.baload, 1) := by decide +kernel
theorem d_AS_charAt_36 : decode b_AS_charAt 36 = .ok (.sipush 255, 3) := by decide +kernel
theorem d_AS_charAt_39 : decode b_AS_charAt 39 = .ok (.iand, 1) := by decide +kernel
theorem d_AS_charAt_40 : decode b_AS_charAt 40 = .ok (.i2c, 1) := by decide +kernel
theorem d_AS_charAt_41 : decode b_AS_charAt 41 = .ok (.ireturn, 1) := by decide +kernel
theorem d_SB_charAt_0 : decode b_SB_charAt 0 = .ok (.aload_n 0, 1) := by decide +kernel
theorem d_SB_charAt_1 : decode b_SB_charAt 1 = .ok (.iload_n 1, 1) := by decide +kernel
theorem d_SB_charAt_2 : decode b_SB_charAt 2 = .ok (.invokespecial 329, 3) := by decide +kernel
theorem d_SB_charAt_5 : decode b_SB_charAt 5 = .ok (.ireturn, 1) := by decide +kernel
theorem d_AL_elementData_0 : decode b_AL_elementData 0 = .ok (.aload_n 0, 1) := by decide +kernel
theorem d_AL_elementData_1 : decode b_AL_elementData 1 = .ok (.getfield 9, 3) := by decide +kernel
theorem d_AL_elementData_4 : decode b_AL_elementData 4 = .ok (.iload_n 1, 1) := by decide +kernel
theorem d_AL_elementData_5 : decode b_AL_elementData 5 = .ok (.aaload, 1) := by decide +kernel
theorem d_AL_elementData_6 : decode b_AL_elementData 6 = .ok (.areturn, 1) := by decide +kernel
theorem d_AL_get_0 : decode b_AL_get 0 = .ok (.iload_n 1, 1) := by decide +kernel
theorem d_AL_get_1 : decode b_AL_get 1 = .ok (.aload_n 0, 1) := by decide +kernel
theorem d_AL_get_2 : decode b_AL_get 2 = .ok (.getfield 48, 3) := by decide +kernel
theorem d_AL_get_5 : decode b_AL_get 5 = .ok (.invokestatic 118, 3) := by decide +kernel
theorem d_AL_get_8 : decode b_AL_get 8 = .ok (.pop, 1) := by decide +kernel
theorem d_AL_get_9 : decode b_AL_get 9 = .ok (.aload_n 0, 1) := by decide +kernel
theorem d_AL_get_10 : decode b_AL_get 10 = .ok (.iload_n 1, 1) := by decide +kernel
theorem d_AL_get_11 : decode b_AL_get 11 = .ok (.invokevirtual 123, 3) := by decide +kernel
theorem d_AL_get_14 : decode b_AL_get 14 = .ok (.areturn, 1) := by decide +kernel
theorem d_AR_copyOf_1_0 : decode b_AR_copyOf_1 0 = .ok (.aload_n 0, 1) := by decide +kernel
theorem d_AR_copyOf_1_1 : decode b_AR_copyOf_1 1 = .ok (.iload_n 1, 1) := by decide +kernel
theorem d_AR_copyOf_1_2 : decode b_AR_copyOf_1 2 = .ok (.aload_n 0, 1) := by decide +kernel
theorem d_AR_copyOf_1_3 : decode b_AR_copyOf_1 3 = .ok (.invokevirtual 86, 3) := by decide +kernel
theorem d_AR_copyOf_1_6 : decode b_AR_copyOf_1 6 = .ok (.invokestatic 300, 3) := by decide +kernel
theorem d_AR_copyOf_1_9 : decode b_AR_copyOf_1 9 = .ok (.areturn, 1) := by decide +kernel
