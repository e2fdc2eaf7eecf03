abbrev b_T_line : ByteArray := prog_1_method_3_code
abbrev y_T_line : MethodName := ⟨"TwoPass", "line", "(I)I"⟩
theorem kc_T_line : (.code y_T_line b_T_line 4 (some .int) : Cond) ∈ tp_G := tp_Gm 326 (by decide +kernel) (by decide +kernel)
def w_T_line : List Cond := .code y_T_line b_T_line 4 (some .int) :: tp_G
theorem km_T_line : (.instanceMethod y_T_line : Cond) ∈ tp_G := tp_Gm 324 (by decide +kernel) (by decide +kernel)
theorem kv_T_T_line : (.selects "TwoPass" y_T_line y_T_line : Cond) ∈ tp_G := tp_Gm 325 (by decide +kernel) (by decide +kernel)
theorem d_T_line_0 : decode b_T_line 0 = .ok (.aload_n 0, 1) := by decide +kernel
theorem d_T_line_1 : decode b_T_line 1 = .ok (.getfield 10, 3) := by decide +kernel
theorem d_T_line_4 : decode b_T_line 4 = .ok (.invokevirtual 55, 3) := by decide +kernel
theorem d_T_line_7 : decode b_T_line 7 = .ok (.iload_n 1, 1) := by decide +kernel
theorem d_T_line_8 : decode b_T_line 8 = .ok (.invokestatic 58, 3) := by decide +kernel
theorem d_T_line_11 : decode b_T_line 11 = .ok (.aload_n 0, 1) := by decide +kernel
theorem d_T_line_12 : decode b_T_line 12 = .ok (.getfield 10, 3) := by decide +kernel
theorem d_T_line_15 : decode b_T_line 15 = .ok (.invokevirtual 62, 3) := by decide +kernel
theorem d_T_line_18 : decode b_T_line 18 = .ok (.astore_n 2, 1) := by decide +kernel
theorem d_T_line_19 : decode b_T_line 19 = .ok (.aload_n 0, 1) := by decide +kernel
theorem d_T_line_20 : decode b_T_line 20 = .ok (.getfield 19, 3) := by decide +kernel
theorem d_T_line_23 : decode b_T_line 23 = .ok (.iload_n 1, 1) := by decide +kernel
theorem d_T_line_24 : decode b_T_line 24 = .ok (.aaload, 1) := by decide +kernel
theorem d_T_line_25 : decode b_T_line 25 = .ok (.astore_n 3, 1) := by decide +kernel
theorem d_T_line_26 : decode b_T_line 26 = .ok (.aload_n 3, 1) := by decide +kernel
theorem d_T_line_27 : decode b_T_line 27 = .ok (.invokevirtual 66, 3) := by decide +kernel
theorem d_T_line_30 : decode b_T_line 30 = .ok (.bipush 16, 2) := by decide +kernel
theorem d_T_line_32 : decode b_T_line 32 = .ok (.if_icmp .lt 11, 3) := by decide +kernel
theorem d_T_line_35 : decode b_T_line 35 = .ok (.new 48, 3) := by decide +kernel
theorem d_T_line_38 : decode b_T_line 38 = .ok (.dup, 1) := by decide +kernel
theorem d_T_line_39 : decode b_T_line 39 = .ok (.invokespecial 50, 3) := by decide +kernel
theorem d_T_line_42 : decode b_T_line 42 = .ok (.athrow, 1) := by decide +kernel
theorem d_T_line_43 : decode b_T_line 43 = .ok (.aload_n 2, 1) := by decide +kernel
theorem d_T_line_44 : decode b_T_line 44 = .ok (.getfield 69, 3) := by decide +kernel
theorem d_T_line_47 : decode b_T_line 47 = .ok (.ifCond .eq 23, 3) := by decide +kernel
theorem d_T_line_50 : decode b_T_line 50 = .ok (.aload_n 3, 1) := by decide +kernel
theorem d_T_line_51 : decode b_T_line 51 = .ok (.aload_n 2, 1) := by decide +kernel
theorem d_T_line_52 : decode b_T_line 52 = .ok (.getfield 69, 3) := by decide +kernel
theorem d_T_line_55 : decode b_T_line 55 = .ok (.invokevirtual 74, 3) := by decide +kernel
theorem d_T_line_58 : decode b_T_line 58 = .ok (.iconst (-1), 1) := by decide +kernel
theorem d_T_line_59 : decode b_T_line 59 = .ok (.if_icmp .eq 11, 3) := by decide +kernel
theorem d_T_line_62 : decode b_T_line 62 = .ok (.new 48, 3) := by decide +kernel
theorem d_T_line_65 : decode b_T_line 65 = .ok (.dup, 1) := by decide +kernel
theorem d_T_line_66 : decode b_T_line 66 = .ok (.invokespecial 50, 3) := by decide +kernel
theorem d_T_line_69 : decode b_T_line 69 = .ok (.athrow, 1) := by decide +kernel
theorem d_T_line_70 : decode b_T_line 70 = .ok (.aload_n 3, 1) := by decide +kernel
theorem d_T_line_71 : decode b_T_line 71 = .ok (.getfield 78, 3) := by decide +kernel
theorem d_T_line_74 : decode b_T_line 74 = .ok (.aload_n 2, 1) := by decide +kernel
theorem d_T_line_75 : decode b_T_line 75 = .ok (.invokevirtual 82, 3) := by decide +kernel
theorem d_T_line_78 : decode b_T_line 78 = .ok (.pop, 1) := by decide +kernel
theorem d_T_line_79 : decode b_T_line 79 = .ok (.aload_n 0, 1) := by decide +kernel
theorem d_T_line_80 : decode b_T_line 80 = .ok (.iconst 0, 1) := by decide +kernel
theorem d_T_line_81 : decode b_T_line 81 = .ok (.putfield 30, 3) := by decide +kernel
theorem d_T_line_84 : decode b_T_line 84 = .ok (.aload_n 3, 1) := by decide +kernel
theorem d_T_line_85 : decode b_T_line 85 = .ok (.invokevirtual 66, 3) := by decide +kernel
theorem d_T_line_88 : decode b_T_line 88 = .ok (.ireturn, 1) := by decide +kernel
theorem d_N_init_0 : decode b_N_init 0 = .ok (.aload_n 0, 1) := by decide +kernel
theorem d_N_init_1 : decode b_N_init 1 = .ok (.invokespecial 3, 3) := by decide +kernel
theorem d_N_init_4 : decode b_N_init 4 = .ok (.aload_n 0, 1) := by decide +kernel
theorem d_N_init_5 : decode b_N_init 5 = .ok (.iconst 0, 1) := by decide +kernel
theorem d_N_init_6 : decode b_N_init 6 = .ok (.putfield 9, 3) := by decide +kernel
theorem d_N_init_9 : decode b_N_init 9 = .ok (.aload_n 0, 1) := by decide +kernel
theorem d_N_init_10 : decode b_N_init 10 = .ok (.getstatic 15, 3) := by decide +kernel
theorem d_N_init_13 : decode b_N_init 13 = .ok (.putfield 21, 3) := by decide +kernel
theorem d_N_init_16 : decode b_N_init 16 = .ok (.aload_n 0, 1) := by decide +kernel
theorem d_N_init_17 : decode b_N_init 17 = .ok (.iconst 0, 1) := by decide +kernel
theorem d_N_init_18 : decode b_N_init 18 = .ok (.putfield 24, 3) := by decide +kernel
theorem d_N_init_21 : decode b_N_init 21 = .ok (.return_, 1) := by decide +kernel
abbrev b_Y_nextIs : ByteArray := prog_6_method_9_code
abbrev y_Y_nextIs : MethodName := ⟨"TwoPass$Typed", "nextIs", "(C)Z"⟩
theorem kc_Y_nextIs : (.code y_Y_nextIs b_Y_nextIs 2 (some .boolean) : Cond) ∈ tp_G := tp_Gm 411 (by decide +kernel) (by decide +kernel)
def w_Y_nextIs : List Cond := .code y_Y_nextIs b_Y_nextIs 2 (some .boolean) :: tp_G
theorem km_Y_nextIs : (.instanceMethod y_Y_nextIs : Cond) ∈ tp_G := tp_Gm 410 (by decide +kernel) (by decide +kernel)
theorem kp_Y_nextIs : (.selects "TwoPass$Typed" y_Y_nextIs y_Y_nextIs : Cond) ∈ tp_G := List.mem_filter.mpr ⟨by decide +kernel, by decide +kernel⟩
theorem d_Y_nextIs_0 : decode b_Y_nextIs 0 = .ok (.aload_n 0, 1) := by decide +kernel
theorem d_Y_nextIs_1 : decode b_Y_nextIs 1 = .ok (.getfield 22, 3) := by decide +kernel
theorem d_Y_nextIs_4 : decode b_Y_nextIs 4 = .ok (.aload_n 0, 1) := by decide +kernel
theorem d_Y_nextIs_5 : decode b_Y_nextIs 5 = .ok (.getfield 19, 3) := by decide +kernel
theorem d_Y_nextIs_8 : decode b_Y_nextIs 8 = .ok (.if_icmp .ge 20, 3) := by decide +kernel
theorem d_Y_nextIs_11 : decode b_Y_nextIs 11 = .ok (.aload_n 0, 1) := by decide +kernel
theorem d_Y_nextIs_12 : decode b_Y_nextIs 12 = .ok (.getfield 9, 3) := by decide +kernel
theorem d_Y_nextIs_15 : decode b_Y_nextIs 15 = .ok (.aload_n 0, 1) := by decide +kernel
theorem d_Y_nextIs_16 : decode b_Y_nextIs 16 = .ok (.getfield 22, 3) := by decide +kernel
theorem d_Y_nextIs_19 : decode b_Y_nextIs 19 = .ok (.caload, 1) := by decide +kernel
theorem d_Y_nextIs_20 : decode b_Y_nextIs 20 = .ok (.iload_n 1, 1) := by decide +kernel
theorem d_Y_nextIs_21 : decode b_Y_nextIs 21 = .ok (.if_icmp .ne 7, 3) := by decide +kernel
theorem d_Y_nextIs_24 : decode b_Y_nextIs 24 = .ok (.iconst 1, 1) := by decide +kernel
theorem d_Y_nextIs_25 : decode b_Y_nextIs 25 = .ok (.goto 4, 3) := by decide +kernel
theorem d_Y_nextIs_28 : decode b_Y_nextIs 28 = .ok (.iconst 0, 1) := by decide +kernel
theorem d_Y_nextIs_29 : decode b_Y_nextIs 29 = .ok (.ireturn, 1) := by decide +kernel
abbrev b_Y_nextWord : ByteArray := prog_6_method_10_code
abbrev y_Y_nextWord : MethodName := ⟨"TwoPass$Typed", "nextWord", "()V"⟩
theorem kc_Y_nextWord : (.code y_Y_nextWord b_Y_nextWord 1 none : Cond) ∈ tp_G := tp_Gm 400 (by decide +kernel) (by decide +kernel)
def w_Y_nextWord : List Cond := .code y_Y_nextWord b_Y_nextWord 1 none :: tp_G
theorem km_Y_nextWord : (.instanceMethod y_Y_nextWord : Cond) ∈ tp_G := tp_Gm 399 (by decide +kernel) (by decide +kernel)
theorem kp_Y_nextWord : (.selects "TwoPass$Typed" y_Y_nextWord y_Y_nextWord : Cond) ∈ tp_G := List.mem_filter.mpr ⟨by decide +kernel, by decide +kernel⟩
theorem d_Y_nextWord_0 : decode b_Y_nextWord 0 = .ok (.aload_n 0, 1) := by decide +kernel
theorem d_Y_nextWord_1 : decode b_Y_nextWord 1 = .ok (.invokevirtual 112, 3) := by decide +kernel
theorem d_Y_nextWord_4 : decode b_Y_nextWord 4 = .ok (.aload_n 0, 1) := by decide +kernel
theorem d_Y_nextWord_5 : decode b_Y_nextWord 5 = .ok (.aload_n 0, 1) := by decide +kernel
theorem d_Y_nextWord_6 : decode b_Y_nextWord 6 = .ok (.getfield 22, 3) := by decide +kernel
theorem d_Y_nextWord_9 : decode b_Y_nextWord 9 = .ok (.putfield 115, 3) := by decide +kernel
theorem d_Y_nextWord_12 : decode b_Y_nextWord 12 = .ok (.aload_n 0, 1) := by decide +kernel
theorem d_Y_nextWord_13 : decode b_Y_nextWord 13 = .ok (.getfield 22, 3) := by decide +kernel
theorem d_Y_nextWord_16 : decode b_Y_nextWord 16 = .ok (.aload_n 0, 1) := by decide +kernel
theorem d_Y_nextWord_17 : decode b_Y_nextWord 17 = .ok (.getfield 19, 3) := by decide +kernel
theorem d_Y_nextWord_20 : decode b_Y_nextWord 20 = .ok (.if_icmp .ge 31, 3) := by decide +kernel
theorem d_Y_nextWord_23 : decode b_Y_nextWord 23 = .ok (.aload_n 0, 1) := by decide +kernel
theorem d_Y_nextWord_24 : decode b_Y_nextWord 24 = .ok (.getfield 9, 3) := by decide +kernel
theorem d_Y_nextWord_27 : decode b_Y_nextWord 27 = .ok (.aload_n 0, 1) := by decide +kernel
theorem d_Y_nextWord_28 : decode b_Y_nextWord 28 = .ok (.getfield 22, 3) := by decide +kernel
theorem d_Y_nextWord_31 : decode b_Y_nextWord 31 = .ok (.caload, 1) := by decide +kernel
theorem d_Y_nextWord_32 : decode b_Y_nextWord 32 = .ok (.invokestatic 118, 3) := by decide +kernel
theorem d_Y_nextWord_35 : decode b_Y_nextWord 35 = .ok (.ifCond .eq 16, 3) := by decide +kernel
theorem d_Y_nextWord_38 : decode b_Y_nextWord 38 = .ok (.aload_n 0, 1) := by decide +kernel
theorem d_Y_nextWord_39 : decode b_Y_nextWord 39 = .ok (.dup, 1) := by decide +kernel
theorem d_Y_nextWord_40 : decode b_Y_nextWord 40 = .ok (.getfield 22, 3) := by decide +kernel
theorem d_Y_nextWord_43 : decode b_Y_nextWord 43 = .ok (.iconst 1, 1) := by decide +kernel
theorem d_Y_nextWord_44 : decode b_Y_nextWord 44 = .ok (.iadd, 1) := by decide +kernel
theorem d_Y_nextWord_45 : decode b_Y_nextWord 45 = .ok (.putfield 22, 3) := by decide +kernel
theorem d_Y_nextWord_48 : decode b_Y_nextWord 48 = .ok (.goto (-36), 3) := by decide +kernel
theorem d_Y_nextWord_51 : decode b_Y_nextWord 51 = .ok (.aload_n 0, 1) := by decide +kernel
theorem d_Y_nextWord_52 : decode b_Y_nextWord 52 = .ok (.aload_n 0, 1) := by decide +kernel
theorem d_Y_nextWord_53 : decode b_Y_nextWord 53 = .ok (.getfield 22, 3) := by decide +kernel
theorem d_Y_nextWord_56 : decode b_Y_nextWord 56 = .ok (.putfield 121, 3) := by decide +kernel
theorem d_Y_nextWord_59 : decode b_Y_nextWord 59 = .ok (.aload_n 0, 1) := by decide +kernel
theorem d_Y_nextWord_60 : decode b_Y_nextWord 60 = .ok (.invokevirtual 112, 3) := by decide +kernel
theorem d_Y_nextWord_63 : decode b_Y_nextWord 63 = .ok (.return_, 1) := by decide +kernel
abbrev b_Y_read : ByteArray := prog_6_method_4_code
abbrev y_Y_read : MethodName := ⟨"TwoPass$Typed", "read", "()LTwoPass$Line;"⟩
theorem kc_Y_read : (.code y_Y_read b_Y_read 4 (some (.object "TwoPass$Line")) : Cond) ∈ tp_G := tp_Gm 340 (by decide +kernel) (by decide +kernel)
def w_Y_read : List Cond := .code y_Y_read b_Y_read 4 (some (.object "TwoPass$Line")) :: tp_G
theorem km_Y_read : (.instanceMethod y_Y_read : Cond) ∈ tp_G := tp_Gm 338 (by decide +kernel) (by decide +kernel)
theorem kv_Y_Y_read : (.selects "TwoPass$Typed" y_Y_read y_Y_read : Cond) ∈ tp_G := tp_Gm 339 (by decide +kernel) (by decide +kernel)
theorem d_Y_read_0 : decode b_Y_read 0 = .ok (.new 25, 3) := by decide +kernel
theorem d_Y_read_3 : decode b_Y_read 3 = .ok (.dup, 1) := by decide +kernel
theorem d_Y_read_4 : decode b_Y_read 4 = .ok (.invokespecial 27, 3) := by decide +kernel
theorem d_Y_read_7 : decode b_Y_read 7 = .ok (.astore_n 1, 1) := by decide +kernel
theorem d_Y_read_8 : decode b_Y_read 8 = .ok (.aload_n 0, 1) := by decide +kernel
theorem d_Y_read_9 : decode b_Y_read 9 = .ok (.invokevirtual 28, 3) := by decide +kernel
theorem d_Y_read_12 : decode b_Y_read 12 = .ok (.aload_n 0, 1) := by decide +kernel
theorem d_Y_read_13 : decode b_Y_read 13 = .ok (.bipush 58, 2) := by decide +kernel
theorem d_Y_read_15 : decode b_Y_read 15 = .ok (.invokevirtual 31, 3) := by decide +kernel
theorem d_Y_read_18 : decode b_Y_read 18 = .ok (.ifCond .eq 25, 3) := by decide +kernel
theorem d_Y_read_21 : decode b_Y_read 21 = .ok (.aload_n 1, 1) := by decide +kernel
theorem d_Y_read_22 : decode b_Y_read 22 = .ok (.aload_n 0, 1) := by decide +kernel
theorem d_Y_read_23 : decode b_Y_read 23 = .ok (.invokevirtual 35, 3) := by decide +kernel
theorem d_Y_read_26 : decode b_Y_read 26 = .ok (.putfield 39, 3) := by decide +kernel
theorem d_Y_read_29 : decode b_Y_read 29 = .ok (.aload_n 0, 1) := by decide +kernel
theorem d_Y_read_30 : decode b_Y_read 30 = .ok (.dup, 1) := by decide +kernel
theorem d_Y_read_31 : decode b_Y_read 31 = .ok (.getfield 22, 3) := by decide +kernel
theorem d_Y_read_34 : decode b_Y_read 34 = .ok (.iconst 1, 1) := by decide +kernel
theorem d_Y_read_35 : decode b_Y_read 35 = .ok (.iadd, 1) := by decide +kernel
theorem d_Y_read_36 : decode b_Y_read 36 = .ok (.putfield 22, 3) := by decide +kernel
theorem d_Y_read_39 : decode b_Y_read 39 = .ok (.aload_n 0, 1) := by decide +kernel
theorem d_Y_read_40 : decode b_Y_read 40 = .ok (.invokevirtual 28, 3) := by decide +kernel
theorem d_Y_read_43 : decode b_Y_read 43 = .ok (.aload_n 1, 1) := by decide +kernel
theorem d_Y_read_44 : decode b_Y_read 44 = .ok (.aload_n 0, 1) := by decide +kernel
theorem d_Y_read_45 : decode b_Y_read 45 = .ok (.invokevirtual 42, 3) := by decide +kernel
theorem d_Y_read_48 : decode b_Y_read 48 = .ok (.putfield 46, 3) := by decide +kernel
theorem d_Y_read_51 : decode b_Y_read 51 = .ok (.aload_n 1, 1) := by decide +kernel
theorem d_Y_read_52 : decode b_Y_read 52 = .ok (.getfield 46, 3) := by decide +kernel
theorem d_Y_read_55 : decode b_Y_read 55 = .ok (.getfield 50, 3) := by decide +kernel
theorem d_Y_read_58 : decode b_Y_read 58 = .ok (.astore_n 2, 1) := by decide +kernel
theorem d_Y_read_59 : decode b_Y_read 59 = .ok (.iconst 0, 1) := by decide +kernel
theorem d_Y_read_60 : decode b_Y_read 60 = .ok (.istore_n 3, 1) := by decide +kernel
theorem d_Y_read_61 : decode b_Y_read 61 = .ok (.iload_n 3, 1) := by decide +kernel
theorem d_Y_read_62 : decode b_Y_read 62 = .ok (.aload_n 2, 1) := by decide +kernel
theorem d_Y_read_63 : decode b_Y_read 63 = .ok (.invokevirtual 56, 3) := by decide +kernel
theorem d_Y_read_66 : decode b_Y_read 66 = .ok (.if_icmp .ge 19, 3) := by decide +kernel
theorem d_Y_read_69 : decode b_Y_read 69 = .ok (.aload_n 0, 1) := by decide +kernel
theorem d_Y_read_70 : decode b_Y_read 70 = .ok (.aload_n 1, 1) := by decide +kernel
theorem d_Y_read_71 : decode b_Y_read 71 = .ok (.aload_n 2, 1) := by decide +kernel
theorem d_Y_read_72 : decode b_Y_read 72 = .ok (.iload_n 3, 1) := by decide +kernel
theorem d_Y_read_73 : decode b_Y_read 73 = .ok (.invokevirtual 61, 3) := by decide +kernel
theorem d_Y_read_76 : decode b_Y_read 76 = .ok (.invokevirtual 65, 3) := by decide +kernel
theorem d_Y_read_79 : decode b_Y_read 79 = .ok (.iinc 3 1, 3) := by decide +kernel
theorem d_Y_read_82 : decode b_Y_read 82 = .ok (.goto (-21), 3) := by decide +kernel
theorem d_Y_read_85 : decode b_Y_read 85 = .ok (.aload_n 0, 1) := by decide +kernel
theorem d_Y_read_86 : decode b_Y_read 86 = .ok (.getfield 22, 3) := by decide +kernel
theorem d_Y_read_89 : decode b_Y_read 89 = .ok (.aload_n 0, 1) := by decide +kernel
theorem d_Y_read_90 : decode b_Y_read 90 = .ok (.getfield 19, 3) := by decide +kernel
theorem d_Y_read_93 : decode b_Y_read 93 = .ok (.if_icmp .ge 25, 3) := by decide +kernel
theorem d_Y_read_96 : decode b_Y_read 96 = .ok (.aload_n 0, 1) := by decide +kernel
theorem d_Y_read_97 : decode b_Y_read 97 = .ok (.getfield 9, 3) := by decide +kernel
theorem d_Y_read_100 : decode b_Y_read 100 = .ok (.aload_n 0, 1) := by decide +kernel
theorem d_Y_read_101 : decode b_Y_read 101 = .ok (.getfield 22, 3) := by decide +kernel
theorem d_Y_read_104 : decode b_Y_read 104 = .ok (.caload, 1) := by decide +kernel
theorem d_Y_read_105 : decode b_Y_read 105 = .ok (.bipush 35, 2) := by decide +kernel
theorem d_Y_read_107 : decode b_Y_read 107 = .ok (.if_icmp .eq 11, 3) := by decide +kernel
theorem d_Y_read_110 : decode b_Y_read 110 = .ok (.new 69, 3) := by decide +kernel
theorem d_Y_read_113 : decode b_Y_read 113 = .ok (.dup, 1) := by decide +kernel
theorem d_Y_read_114 : decode b_Y_read 114 = .ok (.invokespecial 71, 3) := by decide +kernel
theorem d_Y_read_117 : decode b_Y_read 117 = .ok (.athrow, 1) := by decide +kernel
theorem d_Y_read_118 : decode b_Y_read 118 = .ok (.aload_n 1, 1) := by decide +kernel
theorem d_Y_read_119 : decode b_Y_read 119 = .ok (.areturn, 1) := by decide +kernel
abbrev b_Y_skipBlanks : ByteArray := prog_6_method_11_code
abbrev y_Y_skipBlanks : MethodName := ⟨"TwoPass$Typed", "skipBlanks", "()V"⟩
theorem kc_Y_skipBlanks : (.code y_Y_skipBlanks b_Y_skipBlanks 1 none : Cond) ∈ tp_G := tp_Gm 404 (by decide +kernel) (by decide +kernel)
def w_Y_skipBlanks : List Cond := .code y_Y_skipBlanks b_Y_skipBlanks 1 none :: tp_G
theorem km_Y_skipBlanks : (.instanceMethod y_Y_skipBlanks : Cond) ∈ tp_G := tp_Gm 403 (by decide +kernel) (by decide +kernel)
theorem kp_Y_skipBlanks : (.selects "TwoPass$Typed" y_Y_skipBlanks y_Y_skipBlanks : Cond) ∈ tp_G := List.mem_filter.mpr ⟨by decide +kernel, by decide +kernel⟩
theorem d_Y_skipBlanks_0 : decode b_Y_skipBlanks 0 = .ok (.aload_n 0, 1) := by decide +kernel
theorem d_Y_skipBlanks_1 : decode b_Y_skipBlanks 1 = .ok (.getfield 22, 3) := by decide +kernel
theorem d_Y_skipBlanks_4 : decode b_Y_skipBlanks 4 = .ok (.aload_n 0, 1) := by decide +kernel
theorem d_Y_skipBlanks_5 : decode b_Y_skipBlanks 5 = .ok (.getfield 19, 3) := by decide +kernel
theorem d_Y_skipBlanks_8 : decode b_Y_skipBlanks 8 = .ok (.if_icmp .ge 30, 3) := by decide +kernel
theorem d_Y_skipBlanks_11 : decode b_Y_skipBlanks 11 = .ok (.aload_n 0, 1) := by decide +kernel
theorem d_Y_skipBlanks_12 : decode b_Y_skipBlanks 12 = .ok (.getfield 9, 3) := by decide +kernel
theorem d_Y_skipBlanks_15 : decode b_Y_skipBlanks 15 = .ok (.aload_n 0, 1) := by decide +kernel
theorem d_Y_skipBlanks_16 : decode b_Y_skipBlanks 16 = .ok (.getfield 22, 3) := by decide +kernel
theorem d_Y_skipBlanks_19 : decode b_Y_skipBlanks 19 = .ok (.caload, 1) := by decide +kernel
theorem d_Y_skipBlanks_20 : decode b_Y_skipBlanks 20 = .ok (.bipush 32, 2) := by decide +kernel
theorem d_Y_skipBlanks_22 : decode b_Y_skipBlanks 22 = .ok (.if_icmp .ne 16, 3) := by decide +kernel
theorem d_Y_skipBlanks_25 : decode b_Y_skipBlanks 25 = .ok (.aload_n 0, 1) := by decide +kernel
theorem d_Y_skipBlanks_26 : decode b_Y_skipBlanks 26 = .ok (.dup, 1) := by decide +kernel
theorem d_Y_skipBlanks_27 : decode b_Y_skipBlanks 27 = .ok (.getfield 22, 3) := by decide +kernel
theorem d_Y_skipBlanks_30 : decode b_Y_skipBlanks 30 = .ok (.iconst 1, 1) := by decide +kernel
theorem d_Y_skipBlanks_31 : decode b_Y_skipBlanks 31 = .ok (.iadd, 1) := by decide +kernel
theorem d_Y_skipBlanks_32 : decode b_Y_skipBlanks 32 = .ok (.putfield 22, 3) := by decide +kernel
theorem d_Y_skipBlanks_35 : decode b_Y_skipBlanks 35 = .ok (.goto (-35), 3) := by decide +kernel
theorem d_Y_skipBlanks_38 : decode b_Y_skipBlanks 38 = .ok (.return_, 1) := by decide +kernel
abbrev b_Y_take : ByteArray := prog_6_method_3_code
abbrev y_Y_take : MethodName := ⟨"TwoPass$Typed", "take", "()V"⟩
theorem kc_Y_take : (.code y_Y_take b_Y_take 1 none : Cond) ∈ tp_G := tp_Gm 330 (by decide +kernel) (by decide +kernel)
def w_Y_take : List Cond := .code y_Y_take b_Y_take 1 none :: tp_G
theorem km_Y_take : (.instanceMethod y_Y_take : Cond) ∈ tp_G := tp_Gm 328 (by decide +kernel) (by decide +kernel)
theorem kv_Y_Y_take : (.selects "TwoPass$Typed" y_Y_take y_Y_take : Cond) ∈ tp_G := tp_Gm 329 (by decide +kernel) (by decide +kernel)
theorem d_Y_take_0 : decode b_Y_take 0 = .ok (.aload_n 0, 1) := by decide +kernel
theorem d_Y_take_1 : decode b_Y_take 1 = .ok (.aload_n 0, 1) := by decide +kernel
theorem d_Y_take_2 : decode b_Y_take 2 = .ok (.getfield 15, 3) := by decide +kernel
theorem d_Y_take_5 : decode b_Y_take 5 = .ok (.putfield 19, 3) := by decide +kernel
theorem d_Y_take_8 : decode b_Y_take 8 = .ok (.aload_n 0, 1) := by decide +kernel
theorem d_Y_take_9 : decode b_Y_take 9 = .ok (.iconst 0, 1) := by decide +kernel
theorem d_Y_take_10 : decode b_Y_take 10 = .ok (.putfield 22, 3) := by decide +kernel
theorem d_Y_take_13 : decode b_Y_take 13 = .ok (.aload_n 0, 1) := by decide +kernel
theorem d_Y_take_14 : decode b_Y_take 14 = .ok (.iconst 0, 1) := by decide +kernel
theorem d_Y_take_15 : decode b_Y_take 15 = .ok (.putfield 15, 3) := by decide +kernel
theorem d_Y_take_18 : decode b_Y_take 18 = .ok (.return_, 1) := by decide +kernel
abbrev b_Y_wordAsOperation : ByteArray := prog_6_method_13_code
abbrev y_Y_wordAsOperation : MethodName := ⟨"TwoPass$Typed", "wordAsOperation", "()LTwoPass$Operation;"⟩
theorem kc_Y_wordAsOperation : (.code y_Y_wordAsOperation b_Y_wordAsOperation 2 (some (.object "TwoPass$Operation")) : Cond) ∈ tp_G := tp_Gm 421 (by decide +kernel) (by decide +kernel)
def w_Y_wordAsOperation : List Cond := .code y_Y_wordAsOperation b_Y_wordAsOperation 2 (some (.object "TwoPass$Operation")) :: tp_G
theorem km_Y_wordAsOperation : (.instanceMethod y_Y_wordAsOperation : Cond) ∈ tp_G := tp_Gm 420 (by decide +kernel) (by decide +kernel)
theorem kp_Y_wordAsOperation : (.selects "TwoPass$Typed" y_Y_wordAsOperation y_Y_wordAsOperation : Cond) ∈ tp_G := List.mem_filter.mpr ⟨by decide +kernel, by decide +kernel⟩
theorem d_Y_wordAsOperation_0 : decode b_Y_wordAsOperation 0 = .ok (.iconst 0, 1) := by decide +kernel
theorem d_Y_wordAsOperation_1 : decode b_Y_wordAsOperation 1 = .ok (.istore_n 1, 1) := by decide +kernel
theorem d_Y_wordAsOperation_2 : decode b_Y_wordAsOperation 2 = .ok (.iload_n 1, 1) := by decide +kernel
theorem d_Y_wordAsOperation_3 : decode b_Y_wordAsOperation 3 = .ok (.getstatic 124, 3) := by decide +kernel
theorem d_Y_wordAsOperation_6 : decode b_Y_wordAsOperation 6 = .ok (.arraylength, 1) := by decide +kernel
theorem d_Y_wordAsOperation_7 : decode b_Y_wordAsOperation 7 = .ok (.if_icmp .ge 30, 3) := by decide +kernel
theorem d_Y_wordAsOperation_10 : decode b_Y_wordAsOperation 10 = .ok (.aload_n 0, 1) := by decide +kernel
theorem d_Y_wordAsOperation_11 : decode b_Y_wordAsOperation 11 = .ok (.getstatic 124, 3) := by decide +kernel
theorem d_Y_wordAsOperation_14 : decode b_Y_wordAsOperation 14 = .ok (.iload_n 1, 1) := by decide +kernel
theorem d_Y_wordAsOperation_15 : decode b_Y_wordAsOperation 15 = .ok (.aaload, 1) := by decide +kernel
theorem d_Y_wordAsOperation_16 : decode b_Y_wordAsOperation 16 = .ok (.getfield 128, 3) := by decide +kernel
theorem d_Y_wordAsOperation_19 : decode b_Y_wordAsOperation 19 = .ok (.invokevirtual 131, 3) := by decide +kernel
theorem d_Y_wordAsOperation_22 : decode b_Y_wordAsOperation 22 = .ok (.ifCond .eq 9, 3) := by decide +kernel
theorem d_Y_wordAsOperation_25 : decode b_Y_wordAsOperation 25 = .ok (.getstatic 124, 3) := by decide +kernel
theorem d_Y_wordAsOperation_28 : decode b_Y_wordAsOperation 28 = .ok (.iload_n 1, 1) := by decide +kernel
theorem d_Y_wordAsOperation_29 : decode b_Y_wordAsOperation 29 = .ok (.aaload, 1) := by decide +kernel
theorem d_Y_wordAsOperation_30 : decode b_Y_wordAsOperation 30 = .ok (.areturn, 1) := by decide +kernel
theorem d_Y_wordAsOperation_31 : decode b_Y_wordAsOperation 31 = .ok (.iinc 1 1, 3) := by decide +kernel
theorem d_Y_wordAsOperation_34 : decode b_Y_wordAsOperation 34 = .ok (.goto (-32), 3) := by decide +kernel
theorem d_Y_wordAsOperation_37 : decode b_Y_wordAsOperation 37 = .ok (.new 69, 3) := by decide +kernel
theorem d_Y_wordAsOperation_40 : decode b_Y_wordAsOperation 40 = .ok (.dup, 1) := by decide +kernel
theorem d_Y_wordAsOperation_41 : decode b_Y_wordAsOperation 41 = .ok (.invokespecial 71, 3) := by decide +kernel
theorem d_Y_wordAsOperation_44 : decode b_Y_wordAsOperation 44 = .ok (.athrow, 1) := by decide +kernel
abbrev b_Y_wordIs : ByteArray := prog_6_method_14_code
abbrev y_Y_wordIs : MethodName := ⟨"TwoPass$Typed", "wordIs", "(Ljava/lang/String;)Z"⟩
theorem kc_Y_wordIs : (.code y_Y_wordIs b_Y_wordIs 3 (some .boolean) : Cond) ∈ tp_G := tp_Gm 427 (by decide +kernel) (by decide +kernel)
def w_Y_wordIs : List Cond := .code y_Y_wordIs b_Y_wordIs 3 (some .boolean) :: tp_G
theorem km_Y_wordIs : (.instanceMethod y_Y_wordIs : Cond) ∈ tp_G := tp_Gm 426 (by decide +kernel) (by decide +kernel)
theorem kp_Y_wordIs : (.selects "TwoPass$Typed" y_Y_wordIs y_Y_wordIs : Cond) ∈ tp_G := List.mem_filter.mpr ⟨by decide +kernel, by decide +kernel⟩
theorem d_Y_wordIs_0 : decode b_Y_wordIs 0 = .ok (.aload_n 1, 1) := by decide +kernel
theorem d_Y_wordIs_1 : decode b_Y_wordIs 1 = .ok (.invokevirtual 56, 3) := by decide +kernel
theorem d_Y_wordIs_4 : decode b_Y_wordIs 4 = .ok (.aload_n 0, 1) := by decide +kernel
theorem d_Y_wordIs_5 : decode b_Y_wordIs 5 = .ok (.getfield 121, 3) := by decide +kernel
theorem d_Y_wordIs_8 : decode b_Y_wordIs 8 = .ok (.aload_n 0, 1) := by decide +kernel
theorem d_Y_wordIs_9 : decode b_Y_wordIs 9 = .ok (.getfield 115, 3) := by decide +kernel
theorem d_Y_wordIs_12 : decode b_Y_wordIs 12 = .ok (.isub, 1) := by decide +kernel
theorem d_Y_wordIs_13 : decode b_Y_wordIs 13 = .ok (.if_icmp .eq 5, 3) := by decide +kernel
theorem d_Y_wordIs_16 : decode b_Y_wordIs 16 = .ok (.iconst 0, 1) := by decide +kernel
theorem d_Y_wordIs_17 : decode b_Y_wordIs 17 = .ok (.ireturn, 1) := by decide +kernel
theorem d_Y_wordIs_18 : decode b_Y_wordIs 18 = .ok (.iconst 0, 1) := by decide +kernel
theorem d_Y_wordIs_19 : decode b_Y_wordIs 19 = .ok (.istore_n 2, 1) := by decide +kernel
theorem d_Y_wordIs_20 : decode b_Y_wordIs 20 = .ok (.iload_n 2, 1) := by decide +kernel
theorem d_Y_wordIs_21 : decode b_Y_wordIs 21 = .ok (.aload_n 1, 1) := by decide +kernel
theorem d_Y_wordIs_22 : decode b_Y_wordIs 22 = .ok (.invokevirtual 56, 3) := by decide +kernel
theorem d_Y_wordIs_25 : decode b_Y_wordIs 25 = .ok (.if_icmp .ge 30, 3) := by decide +kernel
theorem d_Y_wordIs_28 : decode b_Y_wordIs 28 = .ok (.aload_n 0, 1) := by decide +kernel
theorem d_Y_wordIs_29 : decode b_Y_wordIs 29 = .ok (.getfield 9, 3) := by decide +kernel
theorem d_Y_wordIs_32 : decode b_Y_wordIs 32 = .ok (.aload_n 0, 1) := by decide +kernel
theorem d_Y_wordIs_33 : decode b_Y_wordIs 33 = .ok (.getfield 115, 3) := by decide +kernel
theorem d_Y_wordIs_36 : decode b_Y_wordIs 36 = .ok (.iload_n 2, 1) := by decide +kernel
theorem d_Y_wordIs_37 : decode b_Y_wordIs 37 = .ok (.iadd, 1) := by decide +kernel
theorem d_Y_wordIs_38 : decode b_Y_wordIs 38 = .ok (.caload, 1) := by decide +kernel
theorem d_Y_wordIs_39 : decode b_Y_wordIs 39 = .ok (.aload_n 1, 1) := by decide +kernel
theorem d_Y_wordIs_40 : decode b_Y_wordIs 40 = .ok (.iload_n 2, 1) := by decide +kernel
theorem d_Y_wordIs_41 : decode b_Y_wordIs 41 = .ok (.invokevirtual 61, 3) := by decide +kernel
theorem d_Y_wordIs_44 : decode b_Y_wordIs 44 = .ok (.if_icmp .eq 5, 3) := by decide +kernel
theorem d_Y_wordIs_47 : decode b_Y_wordIs 47 = .ok (.iconst 0, 1) := by decide +kernel
theorem d_Y_wordIs_48 : decode b_Y_wordIs 48 = .ok (.ireturn, 1) := by decide +kernel
theorem d_Y_wordIs_49 : decode b_Y_wordIs 49 = .ok (.iinc 2 1, 3) := by decide +kernel
theorem d_Y_wordIs_52 : decode b_Y_wordIs 52 = .ok (.goto (-32), 3) := by decide +kernel
theorem d_Y_wordIs_55 : decode b_Y_wordIs 55 = .ok (.iconst 1, 1) := by decide +kernel
theorem d_Y_wordIs_56 : decode b_Y_wordIs 56 = .ok (.ireturn, 1) := by decide +kernel
abbrev b_ST_coder : ByteArray := prog_22_method_152_code
abbrev y_ST_coder : MethodName := ⟨"java/lang/String", "coder", "()B"⟩
theorem kc_ST_coder : (.code y_ST_coder b_ST_coder 1 (some .byte) : Cond) ∈ tp_G := tp_Gm 435 (by decide +kernel) (by decide +kernel)
def w_ST_coder : List Cond := .code y_ST_coder b_ST_coder 1 (some .byte) :: tp_G
theorem km_ST_coder : (.instanceMethod y_ST_coder : Cond) ∈ tp_G := tp_Gm 433 (by decide +kernel) (by decide +kernel)
theorem kv_ST_ST_coder : (.selects "java/lang/String" y_ST_coder y_ST_coder : Cond) ∈ tp_G := tp_Gm 434 (by decide +kernel) (by decide +kernel)
theorem d_ST_coder_0 : decode b_ST_coder 0 = .ok (.getstatic 38, 3) := by decide +kernel
theorem d_ST_coder_3 : decode b_ST_coder 3 = .ok (.ifCond .eq 10, 3) := by decide +kernel
theorem d_ST_coder_6 : decode b_ST_coder 6 = .ok (.aload_n 0, 1) := by decide +kernel
theorem d_ST_coder_7 : decode b_ST_coder 7 = .ok (.getfield 15, 3) := by decide +kernel
theorem d_ST_coder_10 : decode b_ST_coder 10 = .ok (.goto 4, 3) := by decide +kernel
theorem d_ST_coder_13 : decode b_ST_coder 13 = .ok (.iconst 1, 1) := by decide +kernel
theorem d_ST_coder_14 : decode b_ST_coder 14 = .ok (.ireturn, 1) := by decide +kernel
abbrev b_ST_length : ByteArray := prog_22_method_54_code
abbrev y_ST_length : MethodName := ⟨"java/lang/String", "length", "()I"⟩
theorem kc_ST_length : (.code y_ST_length b_ST_length 1 (some .int) : Cond) ∈ tp_G := tp_Gm 431 (by decide +kernel) (by decide +kernel)
def w_ST_length : List Cond := .code y_ST_length b_ST_length 1 (some .int) :: tp_G
theorem km_ST_length : (.instanceMethod y_ST_length : Cond) ∈ tp_G := tp_Gm 429 (by decide +kernel) (by decide +kernel)
theorem kv_ST_ST_length : (.selects "java/lang/String" y_ST_length y_ST_length : Cond) ∈ tp_G := tp_Gm 430 (by decide +kernel) (by decide +kernel)
theorem d_ST_length_0 : decode b_ST_length 0 = .ok (.aload_n 0, 1) := by decide +kernel
theorem d_ST_length_1 : decode b_ST_length 1 = .ok (.getfield 9, 3) := by decide +kernel
theorem d_ST_length_4 : decode b_ST_length 4 = .ok (.arraylength, 1) := by decide +kernel
theorem d_ST_length_5 : decode b_ST_length 5 = .ok (.aload_n 0, 1) := by decide +kernel
theorem d_ST_length_6 : decode b_ST_length 6 = .ok (.invokevirtual 335, 3) := by decide +kernel
theorem d_ST_length_9 : decode b_ST_length 9 = .ok (.ishr, 1) := by decide +kernel
theorem d_ST_length_10 : decode b_ST_length 10 = .ok (.ireturn, 1) := by decide +kernel
abbrev b_AL_add_0 : ByteArray := prog_32_method_25_code
abbrev y_AL_add_0 : MethodName := ⟨"java/util/ArrayList", "add", "(Ljava/lang/Object;)Z"⟩
theorem kc_AL_add_0 : (.code y_AL_add_0 b_AL_add_0 2 (some .boolean) : Cond) ∈ tp_G := tp_Gm 557 (by decide +kernel) (by decide +kernel)
def w_AL_add_0 : List Cond := .code y_AL_add_0 b_AL_add_0 2 (some .boolean) :: tp_G
theorem km_AL_add_0 : (.instanceMethod y_AL_add_0 : Cond) ∈ tp_G := tp_Gm 555 (by decide +kernel) (by decide +kernel)
theorem kv_AL_AL_add_0 : (.selects "java/util/ArrayList" y_AL_add_0 y_AL_add_0 : Cond) ∈ tp_G := tp_Gm 556 (by decide +kernel) (by decide +kernel)
theorem d_AL_add_0_0 : decode b_AL_add_0 0 = .ok (.aload_n 0, 1) := by decide +kernel
theorem d_AL_add_0_1 : decode b_AL_add_0 1 = .ok (.dup, 1) := by decide +kernel
theorem d_AL_add_0_2 : decode b_AL_add_0 2 = .ok (.getfield 63, 3) := by decide +kernel
theorem d_AL_add_0_5 : decode b_AL_add_0 5 = .ok (.iconst 1, 1) := by decide +kernel
theorem d_AL_add_0_6 : decode b_AL_add_0 6 = .ok (.iadd, 1) := by decide +kernel
theorem d_AL_add_0_7 : decode b_AL_add_0 7 = .ok (.putfield 63, 3) := by decide +kernel
theorem d_AL_add_0_10 : decode b_AL_add_0 10 = .ok (.aload_n 0, 1) := by decide +kernel
theorem d_AL_add_0_11 : decode b_AL_add_0 11 = .ok (.aload_n 1, 1) := by decide +kernel
theorem d_AL_add_0_12 : decode b_AL_add_0 12 = .ok (.aload_n 0, 1) := by decide +kernel
theorem d_AL_add_0_13 : decode b_AL_add_0 13 = .ok (.getfield 9, 3) := by decide +kernel
theorem d_AL_add_0_16 : decode b_AL_add_0 16 = .ok (.aload_n 0, 1) := by decide +kernel
theorem d_AL_add_0_17 : decode b_AL_add_0 17 = .ok (.getfield 48, 3) := by decide +kernel
theorem d_AL_add_0_20 : decode b_AL_add_0 20 = .ok (.invokevirtual 131, 3) := by decide +kernel
theorem d_AL_add_0_23 : decode b_AL_add_0 23 = .ok (.iconst 1, 1) := by decide +kernel
theorem d_AL_add_0_24 : decode b_AL_add_0 24 = .ok (.ireturn, 1) := by decide +kernel
abbrev b_AL_add_1 : ByteArray := prog_32_method_24_code
abbrev y_AL_add_1 : MethodName := ⟨"java/util/ArrayList", "add", "(Ljava/lang/Object;[Ljava/lang/Object;I)V"⟩
theorem kc_AL_add_1 : (.code y_AL_add_1 b_AL_add_1 4 none : Cond) ∈ tp_G := tp_Gm 561 (by decide +kernel) (by decide +kernel)
def w_AL_add_1 : List Cond := .code y_AL_add_1 b_AL_add_1 4 none :: tp_G
theorem km_AL_add_1 : (.instanceMethod y_AL_add_1 : Cond) ∈ tp_G := tp_Gm 560 (by decide +kernel) (by decide +kernel)
theorem kp_AL_add_1 : (.selects "java/util/ArrayList" y_AL_add_1 y_AL_add_1 : Cond) ∈ tp_G := List.mem_filter.mpr ⟨by decide +kernel, by decide +kernel⟩
theorem d_AL_add_1_0 : decode b_AL_add_1 0 = .ok (.iload_n 3, 1) := by decide +kernel
theorem d_AL_add_1_1 : decode b_AL_add_1 1 = .ok (.aload_n 2, 1) := by decide +kernel
theorem d_AL_add_1_2 : decode b_AL_add_1 2 = .ok (.arraylength, 1) := by decide +kernel
theorem d_AL_add_1_3 : decode b_AL_add_1 3 = .ok (.if_icmp .ne 8, 3) := by decide +kernel
theorem d_AL_add_1_6 : decode b_AL_add_1 6 = .ok (.aload_n 0, 1) := by decide +kernel
theorem d_AL_add_1_7 : decode b_AL_add_1 7 = .ok (.invokevirtual 129, 3) := by decide +kernel
theorem d_AL_add_1_10 : decode b_AL_add_1 10 = .ok (.astore_n 2, 1) := by decide +kernel
theorem d_AL_add_1_11 : decode b_AL_add_1 11 = .ok (.aload_n 2, 1) := by decide +kernel
theorem d_AL_add_1_12 : decode b_AL_add_1 12 = .ok (.iload_n 3, 1) := by decide +kernel
theorem d_AL_add_1_13 : decode b_AL_add_1 13 = .ok (.aload_n 1, 1) := by decide +kernel
theorem d_AL_add_1_14 : decode b_AL_add_1 14 = .ok (.aastore, 1) := by decide +kernel
theorem d_AL_add_1_15 : decode b_AL_add_1 15 = .ok (.aload_n 0, 1) := by decide +kernel
theorem d_AL_add_1_16 : decode b_AL_add_1 16 = .ok (.iload_n 3, 1) := by decide +kernel
theorem d_AL_add_1_17 : decode b_AL_add_1 17 = .ok (.iconst 1, 1) := by decide +kernel
theorem d_AL_add_1_18 : decode b_AL_add_1 18 = .ok (.iadd, 1) := by decide +kernel
theorem d_AL_add_1_19 : decode b_AL_add_1 19 = .ok (.putfield 48, 3) := by decide +kernel
theorem d_AL_add_1_22 : decode b_AL_add_1 22 = .ok (.return_, 1) := by decide +kernel
abbrev b_AL_grow_0 : ByteArray := prog_32_method_7_code
abbrev y_AL_grow_0 : MethodName := ⟨"java/util/ArrayList", "grow", "()[Ljava/lang/Object;"⟩
theorem kc_AL_grow_0 : (.code y_AL_grow_0 b_AL_grow_0 1 (some (.array (.object "java/lang/Object"))) : Cond) ∈ tp_G := tp_Gm 565 (by decide +kernel) (by decide +kernel)
def w_AL_grow_0 : List Cond := .code y_AL_grow_0 b_AL_grow_0 1 (some (.array (.object "java/lang/Object"))) :: tp_G
theorem km_AL_grow_0 : (.instanceMethod y_AL_grow_0 : Cond) ∈ tp_G := tp_Gm 564 (by decide +kernel) (by decide +kernel)
theorem kp_AL_grow_0 : (.selects "java/util/ArrayList" y_AL_grow_0 y_AL_grow_0 : Cond) ∈ tp_G := List.mem_filter.mpr ⟨by decide +kernel, by decide +kernel⟩
theorem d_AL_grow_0_0 : decode b_AL_grow_0 0 = .ok (.aload_n 0, 1) := by decide +kernel
theorem d_AL_grow_0_1 : decode b_AL_grow_0 1 = .ok (.aload_n 0, 1) := by decide +kernel
theorem d_AL_grow_0_2 : decode b_AL_grow_0 2 = .ok (.getfield 48, 3) := by decide +kernel
theorem d_AL_grow_0_5 : decode b_AL_grow_0 5 = .ok (.iconst 1, 1) := by decide +kernel
theorem d_AL_grow_0_6 : decode b_AL_grow_0 6 = .ok (.iadd, 1) := by decide +kernel
theorem d_AL_grow_0_7 : decode b_AL_grow_0 7 = .ok (.invokevirtual 69, 3) := by decide +kernel
theorem d_AL_grow_0_10 : decode b_AL_grow_0 10 = .ok (.areturn, 1) := by decide +kernel
abbrev b_AL_grow_1 : ByteArray := prog_32_method_6_code
abbrev y_AL_grow_1 : MethodName := ⟨"java/util/ArrayList", "grow", "(I)[Ljava/lang/Object;"⟩
theorem kc_AL_grow_1 : (.code y_AL_grow_1 b_AL_grow_1 4 (some (.array (.object "java/lang/Object"))) : Cond) ∈ tp_G := tp_Gm 569 (by decide +kernel) (by decide +kernel)
def w_AL_grow_1 : List Cond := .code y_AL_grow_1 b_AL_grow_1 4 (some (.array (.object "java/lang/Object"))) :: tp_G
theorem km_AL_grow_1 : (.instanceMethod y_AL_grow_1 : Cond) ∈ tp_G := tp_Gm 568 (by decide +kernel) (by decide +kernel)
theorem kp_AL_grow_1 : (.selects "java/util/ArrayList" y_AL_grow_1 y_AL_grow_1 : Cond) ∈ tp_G := List.mem_filter.mpr ⟨by decide +kernel, by decide +kernel⟩
theorem d_AL_grow_1_0 : decode b_AL_grow_1 0 = .ok (.aload_n 0, 1) := by decide +kernel
theorem d_AL_grow_1_1 : decode b_AL_grow_1 1 = .ok (.getfield 9, 3) := by decide +kernel
theorem d_AL_grow_1_4 : decode b_AL_grow_1 4 = .ok (.arraylength, 1) := by decide +kernel
theorem d_AL_grow_1_5 : decode b_AL_grow_1 5 = .ok (.istore_n 2, 1) := by decide +kernel
theorem d_AL_grow_1_6 : decode b_AL_grow_1 6 = .ok (.iload_n 2, 1) := by decide +kernel
theorem d_AL_grow_1_7 : decode b_AL_grow_1 7 = .ok (.ifCond .gt 13, 3) := by decide +kernel
theorem d_AL_grow_1_10 : decode b_AL_grow_1 10 = .ok (.aload_n 0, 1) := by decide +kernel
theorem d_AL_grow_1_11 : decode b_AL_grow_1 11 = .ok (.getfield 9, 3) := by decide +kernel
theorem d_AL_grow_1_14 : decode b_AL_grow_1 14 = .ok (.getstatic 39, 3) := by decide +kernel
theorem d_AL_grow_1_17 : decode b_AL_grow_1 17 = .ok (.if_acmp .eq 28, 3) := by decide +kernel
theorem d_AL_grow_1_20 : decode b_AL_grow_1 20 = .ok (.iload_n 2, 1) := by decide +kernel
theorem d_AL_grow_1_21 : decode b_AL_grow_1 21 = .ok (.iload_n 1, 1) := by decide +kernel
theorem d_AL_grow_1_22 : decode b_AL_grow_1 22 = .ok (.iload_n 2, 1) := by decide +kernel
theorem d_AL_grow_1_23 : decode b_AL_grow_1 23 = .ok (.isub, 1) := by decide +kernel
theorem d_AL_grow_1_24 : decode b_AL_grow_1 24 = .ok (.iload_n 2, 1) := by decide +kernel
theorem d_AL_grow_1_25 : decode b_AL_grow_1 25 = .ok (.iconst 1, 1) := by decide +kernel
theorem d_AL_grow_1_26 : decode b_AL_grow_1 26 = .ok (.ishr, 1) := by decide +kernel
theorem d_AL_grow_1_27 : decode b_AL_grow_1 27 = .ok (.invokestatic 73, 3) := by decide +kernel
theorem d_AL_grow_1_30 : decode b_AL_grow_1 30 = .ok (.istore_n 3, 1) := by decide +kernel
theorem d_AL_grow_1_31 : decode b_AL_grow_1 31 = .ok (.aload_n 0, 1) := by decide +kernel
theorem d_AL_grow_1_32 : decode b_AL_grow_1 32 = .ok (.aload_n 0, 1) := by decide +kernel
theorem d_AL_grow_1_33 : decode b_AL_grow_1 33 = .ok (.getfield 9, 3) := by decide +kernel
theorem d_AL_grow_1_36 : decode b_AL_grow_1 36 = .ok (.iload_n 3, 1) := by decide +kernel
theorem d_AL_grow_1_37 : decode b_AL_grow_1 37 = .ok (.invokestatic 66, 3) := by decide +kernel
theorem d_AL_grow_1_40 : decode b_AL_grow_1 40 = .ok (.dup_x1, 1) := by decide +kernel
theorem d_AL_grow_1_41 : decode b_AL_grow_1 41 = .ok (.putfield 9, 3) := by decide +kernel
theorem d_AL_grow_1_44 : decode b_AL_grow_1 44 = .ok (.areturn, 1) := by decide +kernel
theorem d_AL_grow_1_45 : decode b_AL_grow_1 45 = .ok (.aload_n 0, 1) := by decide +kernel
theorem d_AL_grow_1_46 : decode b_AL_grow_1 46 = .ok (.bipush 10, 2) := by decide +kernel
theorem d_AL_grow_1_48 : decode b_AL_grow_1 48 = .ok (.iload_n 1, 1) := by decide +kernel
theorem d_AL_grow_1_49 : decode b_AL_grow_1 49 = .ok (.invokestatic 79, 3) := by decide +kernel
theorem d_AL_grow_1_52 : decode b_AL_grow_1 52 = .ok (.anewarray 7, 3) := by decide +kernel
theorem d_AL_grow_1_55 : decode b_AL_grow_1 55 = .ok (.dup_x1, 1) := by decide +kernel
theorem d_AL_grow_1_56 : decode b_AL_grow_1 56 = .ok (.putfield 9, 3) := by decide +kernel
theorem d_AL_grow_1_59 : decode b_AL_grow_1 59 = .ok (.areturn, 1) := by decide +kernel
theorem kl_T_55 : (.methodLink "TwoPass" 55 y_Y_take : Cond) ∈ tp_G := tp_Gm 327 (by decide +kernel) (by decide +kernel)
theorem kl_T_62 : (.methodLink "TwoPass" 62 y_Y_read : Cond) ∈ tp_G := tp_Gm 337 (by decide +kernel) (by decide +kernel)
theorem kl_T_69 : (.fieldLink "TwoPass" 69 "TwoPass$Line" "label" "I" : Cond) ∈ tp_G := tp_Gm 350 (by decide +kernel) (by decide +kernel)
abbrev b_S_labelled : ByteArray := prog_5_method_4_code
abbrev y_S_labelled : MethodName := ⟨"TwoPass$Source", "labelled", "(I)I"⟩
theorem kc_S_labelled : (.code y_S_labelled b_S_labelled 3 (some .int) : Cond) ∈ tp_G := tp_Gm 540 (by decide +kernel) (by decide +kernel)
def w_S_labelled : List Cond := .code y_S_labelled b_S_labelled 3 (some .int) :: tp_G
theorem km_S_labelled : (.instanceMethod y_S_labelled : Cond) ∈ tp_G := tp_Gm 538 (by decide +kernel) (by decide +kernel)
theorem kv_S_S_labelled : (.selects "TwoPass$Source" y_S_labelled y_S_labelled : Cond) ∈ tp_G := tp_Gm 539 (by decide +kernel) (by decide +kernel)
theorem kl_T_74 : (.methodLink "TwoPass" 74 y_S_labelled : Cond) ∈ tp_G := tp_Gm 537 (by decide +kernel) (by decide +kernel)
theorem kl_T_82 : (.methodLink "TwoPass" 82 y_AL_add_0 : Cond) ∈ tp_G := tp_Gm 554 (by decide +kernel) (by decide +kernel)
theorem kl_N_3 : (.methodLink "TwoPass$Line" 3 y_OJ_init : Cond) ∈ tp_G := tp_Gm 346 (by decide +kernel) (by decide +kernel)
theorem kl_N_9 : (.fieldLink "TwoPass$Line" 9 "TwoPass$Line" "label" "I" : Cond) ∈ tp_G := tp_Gm 349 (by decide +kernel) (by decide +kernel)
theorem kl_N_15 : (.fieldLink "TwoPass$Line" 15 "TwoPass$Operation" "NONE" "LTwoPass$Operation;" : Cond) ∈ tp_G := tp_Gm 347 (by decide +kernel) (by decide +kernel)
theorem kl_N_21 : (.fieldLink "TwoPass$Line" 21 "TwoPass$Line" "operation" "LTwoPass$Operation;" : Cond) ∈ tp_G := tp_Gm 353 (by decide +kernel) (by decide +kernel)
theorem kl_N_24 : (.fieldLink "TwoPass$Line" 24 "TwoPass$Line" "name" "I" : Cond) ∈ tp_G := tp_Gm 365 (by decide +kernel) (by decide +kernel)
theorem kl_Y_22 : (.fieldLink "TwoPass$Typed" 22 "TwoPass$Typed" "at" "I" : Cond) ∈ tp_G := tp_Gm 117 (by decide +kernel) (by decide +kernel)
theorem kl_Y_19 : (.fieldLink "TwoPass$Typed" 19 "TwoPass$Typed" "end" "I" : Cond) ∈ tp_G := tp_Gm 116 (by decide +kernel) (by decide +kernel)
theorem kl_Y_112 : (.methodLink "TwoPass$Typed" 112 y_Y_skipBlanks : Cond) ∈ tp_G := tp_Gm 401 (by decide +kernel) (by decide +kernel)
theorem kl_Y_115 : (.fieldLink "TwoPass$Typed" 115 "TwoPass$Typed" "wordStart" "I" : Cond) ∈ tp_G := tp_Gm 118 (by decide +kernel) (by decide +kernel)
abbrev b_Y_isOfWord : ByteArray := prog_6_method_12_code
abbrev y_Y_isOfWord : MethodName := ⟨"TwoPass$Typed", "isOfWord", "(C)Z"⟩
theorem kc_Y_isOfWord : (.code y_Y_isOfWord b_Y_isOfWord 1 (some .boolean) : Cond) ∈ tp_G := tp_Gm 407 (by decide +kernel) (by decide +kernel)
def w_Y_isOfWord : List Cond := .code y_Y_isOfWord b_Y_isOfWord 1 (some .boolean) :: tp_G
theorem ks_Y_isOfWord : (.static y_Y_isOfWord : Cond) ∈ tp_G := tp_Gm 406 (by decide +kernel) (by decide +kernel)
theorem kl_Y_118 : (.methodLink "TwoPass$Typed" 118 y_Y_isOfWord : Cond) ∈ tp_G := tp_Gm 405 (by decide +kernel) (by decide +kernel)
theorem kl_Y_121 : (.fieldLink "TwoPass$Typed" 121 "TwoPass$Typed" "wordEnd" "I" : Cond) ∈ tp_G := tp_Gm 119 (by decide +kernel) (by decide +kernel)
theorem kl_Y_25 : (.classLink "TwoPass$Typed" 25 "TwoPass$Line" : Cond) ∈ tp_G := tp_Gm 341 (by decide +kernel) (by decide +kernel)
theorem kl_Y_28 : (.methodLink "TwoPass$Typed" 28 y_Y_nextWord : Cond) ∈ tp_G := tp_Gm 397 (by decide +kernel) (by decide +kernel)
theorem kl_Y_31 : (.methodLink "TwoPass$Typed" 31 y_Y_nextIs : Cond) ∈ tp_G := tp_Gm 408 (by decide +kernel) (by decide +kernel)
abbrev b_Y_wordAsName : ByteArray := prog_6_method_15_code
abbrev y_Y_wordAsName : MethodName := ⟨"TwoPass$Typed", "wordAsName", "()I"⟩
theorem kc_Y_wordAsName : (.code y_Y_wordAsName b_Y_wordAsName 5 (some .int) : Cond) ∈ tp_G := tp_Gm 415 (by decide +kernel) (by decide +kernel)
def w_Y_wordAsName : List Cond := .code y_Y_wordAsName b_Y_wordAsName 5 (some .int) :: tp_G
theorem km_Y_wordAsName : (.instanceMethod y_Y_wordAsName : Cond) ∈ tp_G := tp_Gm 414 (by decide +kernel) (by decide +kernel)
theorem kp_Y_wordAsName : (.selects "TwoPass$Typed" y_Y_wordAsName y_Y_wordAsName : Cond) ∈ tp_G := List.mem_filter.mpr ⟨by decide +kernel, by decide +kernel⟩
theorem kl_Y_35 : (.methodLink "TwoPass$Typed" 35 y_Y_wordAsName : Cond) ∈ tp_G := tp_Gm 412 (by decide +kernel) (by decide +kernel)
theorem kl_Y_39 : (.fieldLink "TwoPass$Typed" 39 "TwoPass$Line" "label" "I" : Cond) ∈ tp_G := tp_Gm 352 (by decide +kernel) (by decide +kernel)
theorem kl_Y_42 : (.methodLink "TwoPass$Typed" 42 y_Y_wordAsOperation : Cond) ∈ tp_G := tp_Gm 418 (by decide +kernel) (by decide +kernel)
theorem kl_Y_46 : (.fieldLink "TwoPass$Typed" 46 "TwoPass$Line" "operation" "LTwoPass$Operation;" : Cond) ∈ tp_G := tp_Gm 354 (by decide +kernel) (by decide +kernel)
theorem kl_Y_50 : (.fieldLink "TwoPass$Typed" 50 "TwoPass$Operation" "operands" "Ljava/lang/String;" : Cond) ∈ tp_G := tp_Gm 1589 (by decide +kernel) (by decide +kernel)
theorem kl_Y_56 : (.methodLink "TwoPass$Typed" 56 y_ST_length : Cond) ∈ tp_G := tp_Gm 428 (by decide +kernel) (by decide +kernel)
abbrev b_ST_charAt : ByteArray := prog_22_method_56_code
abbrev y_ST_charAt : MethodName := ⟨"java/lang/String", "charAt", "(I)C"⟩
theorem kc_ST_charAt : (.code y_ST_charAt b_ST_charAt 2 (some .char) : Cond) ∈ tp_G := tp_Gm 440 (by decide +kernel) (by decide +kernel)
def w_ST_charAt : List Cond := .code y_ST_charAt b_ST_charAt 2 (some .char) :: tp_G
theorem km_ST_charAt : (.instanceMethod y_ST_charAt : Cond) ∈ tp_G := tp_Gm 438 (by decide +kernel) (by decide +kernel)
theorem kv_ST_ST_charAt : (.selects "java/lang/String" y_ST_charAt y_ST_charAt : Cond) ∈ tp_G := tp_Gm 439 (by decide +kernel) (by decide +kernel)
theorem kl_Y_61 : (.methodLink "TwoPass$Typed" 61 y_ST_charAt : Cond) ∈ tp_G := tp_Gm 437 (by decide +kernel) (by decide +kernel)
abbrev b_Y_readOperand : ByteArray := prog_6_method_5_code
abbrev y_Y_readOperand : MethodName := ⟨"TwoPass$Typed", "readOperand", "(LTwoPass$Line;C)V"⟩
theorem kc_Y_readOperand : (.code y_Y_readOperand b_Y_readOperand 3 none : Cond) ∈ tp_G := tp_Gm 478 (by decide +kernel) (by decide +kernel)
def w_Y_readOperand : List Cond := .code y_Y_readOperand b_Y_readOperand 3 none :: tp_G
theorem km_Y_readOperand : (.instanceMethod y_Y_readOperand : Cond) ∈ tp_G := tp_Gm 477 (by decide +kernel) (by decide +kernel)
theorem kp_Y_readOperand : (.selects "TwoPass$Typed" y_Y_readOperand y_Y_readOperand : Cond) ∈ tp_G := List.mem_filter.mpr ⟨by decide +kernel, by decide +kernel⟩
theorem kl_Y_65 : (.methodLink "TwoPass$Typed" 65 y_Y_readOperand : Cond) ∈ tp_G := tp_Gm 475 (by decide +kernel) (by decide +kernel)
theorem kl_Y_69 : (.classLink "TwoPass$Typed" 69 "java/lang/IllegalArgumentException" : Cond) ∈ tp_G := tp_Gm 416 (by decide +kernel) (by decide +kernel)
theorem kl_Y_71 : (.methodLink "TwoPass$Typed" 71 ⟨"java/lang/IllegalArgumentException", "<init>", "()V"⟩ : Cond) ∈ tp_G := tp_Gm 417 (by decide +kernel) (by decide +kernel)
theorem kl_Y_15 : (.fieldLink "TwoPass$Typed" 15 "TwoPass$Typed" "count" "I" : Cond) ∈ tp_G := tp_Gm 114 (by decide +kernel) (by decide +kernel)
theorem kl_Y_128 : (.fieldLink "TwoPass$Typed" 128 "TwoPass$Operation" "text" "Ljava/lang/String;" : Cond) ∈ tp_G := tp_Gm 1588 (by decide +kernel) (by decide +kernel)
theorem kl_Y_131 : (.methodLink "TwoPass$Typed" 131 y_Y_wordIs : Cond) ∈ tp_G := tp_Gm 424 (by decide +kernel) (by decide +kernel)
theorem kl_ST_38 : (.fieldLink "java/lang/String" 38 "java/lang/String" "COMPACT_STRINGS" "Z" : Cond) ∈ tp_G := tp_Gm 436 (by decide +kernel) (by decide +kernel)
theorem kl_ST_15 : (.fieldLink "java/lang/String" 15 "java/lang/String" "coder" "B" : Cond) ∈ tp_G := tp_Gm 1018 (by decide +kernel) (by decide +kernel)
theorem kl_ST_9 : (.fieldLink "java/lang/String" 9 "java/lang/String" "value" "[B" : Cond) ∈ tp_G := tp_Gm 1017 (by decide +kernel) (by decide +kernel)
theorem kl_ST_335 : (.methodLink "java/lang/String" 335 y_ST_coder : Cond) ∈ tp_G := tp_Gm 432 (by decide +kernel) (by decide +kernel)
theorem kl_AL_131 : (.methodLink "java/util/ArrayList" 131 y_AL_add_1 : Cond) ∈ tp_G := tp_Gm 558 (by decide +kernel) (by decide +kernel)
theorem kl_AL_129 : (.methodLink "java/util/ArrayList" 129 y_AL_grow_0 : Cond) ∈ tp_G := tp_Gm 562 (by decide +kernel) (by decide +kernel)
theorem kl_AL_69 : (.methodLink "java/util/ArrayList" 69 y_AL_grow_1 : Cond) ∈ tp_G := tp_Gm 566 (by decide +kernel) (by decide +kernel)
abbrev b_AU_newLength : ByteArray := prog_40_method_27_code
abbrev y_AU_newLength : MethodName := ⟨"jdk/internal/util/ArraysSupport", "newLength", "(III)I"⟩
theorem kc_AU_newLength : (.code y_AU_newLength b_AU_newLength 4 (some .int) : Cond) ∈ tp_G := tp_Gm 572 (by decide +kernel) (by decide +kernel)
def w_AU_newLength : List Cond := .code y_AU_newLength b_AU_newLength 4 (some .int) :: tp_G
theorem ks_AU_newLength : (.static y_AU_newLength : Cond) ∈ tp_G := tp_Gm 571 (by decide +kernel) (by decide +kernel)
theorem kl_AL_73 : (.methodLink "java/util/ArrayList" 73 y_AU_newLength : Cond) ∈ tp_G := tp_Gm 570 (by decide +kernel) (by decide +kernel)
abbrev b_AR_copyOf_1 : ByteArray := prog_33_method_119_code
abbrev y_AR_copyOf_1 : MethodName := ⟨"java/util/Arrays", "copyOf", "([Ljava/lang/Object;I)[Ljava/lang/Object;"⟩
theorem kc_AR_copyOf_1 : (.code y_AR_copyOf_1 b_AR_copyOf_1 2 (some (.array (.object "java/lang/Object"))) : Cond) ∈ tp_G := tp_Gm 582 (by decide +kernel) (by decide +kernel)
def w_AR_copyOf_1 : List Cond := .code y_AR_copyOf_1 b_AR_copyOf_1 2 (some (.array (.object "java/lang/Object"))) :: tp_G
theorem ks_AR_copyOf_1 : (.static y_AR_copyOf_1 : Cond) ∈ tp_G := tp_Gm 581 (by decide +kernel) (by decide +kernel)
theorem kl_AL_66 : (.methodLink "java/util/ArrayList" 66 y_AR_copyOf_1 : Cond) ∈ tp_G := tp_Gm 580 (by decide +kernel) (by decide +kernel)
abbrev b_MA_max : ByteArray := prog_20_method_65_code
abbrev y_MA_max : MethodName := ⟨"java/lang/Math", "max", "(II)I"⟩
theorem kc_MA_max : (.code y_MA_max b_MA_max 2 (some .int) : Cond) ∈ tp_G := tp_Gm 575 (by decide +kernel) (by decide +kernel)
def w_MA_max : List Cond := .code y_MA_max b_MA_max 2 (some .int) :: tp_G
theorem ks_MA_max : (.static y_MA_max : Cond) ∈ tp_G := tp_Gm 574 (by decide +kernel) (by decide +kernel)
theorem kl_AL_79 : (.methodLink "java/util/ArrayList" 79 y_MA_max : Cond) ∈ tp_G := tp_Gm 615 (by decide +kernel) (by decide +kernel)
theorem kl_AL_7 : (.classLink "java/util/ArrayList" 7 "java/lang/Object" : Cond) ∈ tp_G := tp_Gm 616 (by decide +kernel) (by decide +kernel)
