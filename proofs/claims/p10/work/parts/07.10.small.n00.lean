abbrev b_T_aligned : ByteArray := prog_1_method_22_code
abbrev y_T_aligned : MethodName := ⟨"TwoPass", "aligned", "(I)I"⟩
theorem kc_T_aligned : (.code y_T_aligned b_T_aligned 1 (some .int) : Cond) ∈ tp_G := tp_Gm 682 (by decide +kernel) (by decide +kernel)
def w_T_aligned : List Cond := .code y_T_aligned b_T_aligned 1 (some .int) :: tp_G
theorem ks_T_aligned : (.static y_T_aligned : Cond) ∈ tp_G := tp_Gm 681 (by decide +kernel) (by decide +kernel)
theorem d_T_aligned_0 : decode b_T_aligned 0 = .ok (.iload_n 0, 1) := by decide +kernel
theorem d_T_aligned_1 : decode b_T_aligned 1 = .ok (.iconst 3, 1) := by decide +kernel
theorem d_T_aligned_2 : decode b_T_aligned 2 = .ok (.iadd, 1) := by decide +kernel
theorem d_T_aligned_3 : decode b_T_aligned 3 = .ok (.bipush (-4), 2) := by decide +kernel
theorem d_T_aligned_5 : decode b_T_aligned 5 = .ok (.iand, 1) := by decide +kernel
theorem d_T_aligned_6 : decode b_T_aligned 6 = .ok (.ireturn, 1) := by decide +kernel
abbrev b_T_clear : ByteArray := prog_1_method_4_code
abbrev y_T_clear : MethodName := ⟨"TwoPass", "clear", "(I)V"⟩
theorem kc_T_clear : (.code y_T_clear b_T_clear 2 none : Cond) ∈ tp_G := tp_Gm 623 (by decide +kernel) (by decide +kernel)
def w_T_clear : List Cond := .code y_T_clear b_T_clear 2 none :: tp_G
theorem km_T_clear : (.instanceMethod y_T_clear : Cond) ∈ tp_G := tp_Gm 621 (by decide +kernel) (by decide +kernel)
theorem kv_T_T_clear : (.selects "TwoPass" y_T_clear y_T_clear : Cond) ∈ tp_G := tp_Gm 622 (by decide +kernel) (by decide +kernel)
theorem d_T_clear_0 : decode b_T_clear 0 = .ok (.iload_n 1, 1) := by decide +kernel
theorem d_T_clear_1 : decode b_T_clear 1 = .ok (.invokestatic 58, 3) := by decide +kernel
theorem d_T_clear_4 : decode b_T_clear 4 = .ok (.aload_n 0, 1) := by decide +kernel
theorem d_T_clear_5 : decode b_T_clear 5 = .ok (.getfield 19, 3) := by decide +kernel
theorem d_T_clear_8 : decode b_T_clear 8 = .ok (.iload_n 1, 1) := by decide +kernel
theorem d_T_clear_9 : decode b_T_clear 9 = .ok (.aaload, 1) := by decide +kernel
theorem d_T_clear_10 : decode b_T_clear 10 = .ok (.getfield 78, 3) := by decide +kernel
theorem d_T_clear_13 : decode b_T_clear 13 = .ok (.invokevirtual 87, 3) := by decide +kernel
theorem d_T_clear_16 : decode b_T_clear 16 = .ok (.aload_n 0, 1) := by decide +kernel
theorem d_T_clear_17 : decode b_T_clear 17 = .ok (.iconst 0, 1) := by decide +kernel
theorem d_T_clear_18 : decode b_T_clear 18 = .ok (.putfield 30, 3) := by decide +kernel
theorem d_T_clear_21 : decode b_T_clear 21 = .ok (.return_, 1) := by decide +kernel
abbrev b_T_encodeLines : ByteArray := prog_1_method_26_code
abbrev y_T_encodeLines : MethodName := ⟨"TwoPass", "encodeLines", "()V"⟩
theorem kc_T_encodeLines : (.code y_T_encodeLines b_T_encodeLines 4 none : Cond) ∈ tp_G := tp_Gm 736 (by decide +kernel) (by decide +kernel)
def w_T_encodeLines : List Cond := .code y_T_encodeLines b_T_encodeLines 4 none :: tp_G
theorem km_T_encodeLines : (.instanceMethod y_T_encodeLines : Cond) ∈ tp_G := tp_Gm 735 (by decide +kernel) (by decide +kernel)
theorem kp_T_encodeLines : (.selects "TwoPass" y_T_encodeLines y_T_encodeLines : Cond) ∈ tp_G := List.mem_filter.mpr ⟨by decide +kernel, by decide +kernel⟩
theorem d_T_encodeLines_0 : decode b_T_encodeLines 0 = .ok (.iconst 0, 1) := by decide +kernel
theorem d_T_encodeLines_1 : decode b_T_encodeLines 1 = .ok (.istore_n 1, 1) := by decide +kernel
theorem d_T_encodeLines_2 : decode b_T_encodeLines 2 = .ok (.iload_n 1, 1) := by decide +kernel
theorem d_T_encodeLines_3 : decode b_T_encodeLines 3 = .ok (.iconst 2, 1) := by decide +kernel
theorem d_T_encodeLines_4 : decode b_T_encodeLines 4 = .ok (.if_icmp .ge 96, 3) := by decide +kernel
theorem d_T_encodeLines_7 : decode b_T_encodeLines 7 = .ok (.iconst 0, 1) := by decide +kernel
theorem d_T_encodeLines_8 : decode b_T_encodeLines 8 = .ok (.istore_n 2, 1) := by decide +kernel
theorem d_T_encodeLines_9 : decode b_T_encodeLines 9 = .ok (.iload_n 2, 1) := by decide +kernel
theorem d_T_encodeLines_10 : decode b_T_encodeLines 10 = .ok (.aload_n 0, 1) := by decide +kernel
theorem d_T_encodeLines_11 : decode b_T_encodeLines 11 = .ok (.getfield 19, 3) := by decide +kernel
theorem d_T_encodeLines_14 : decode b_T_encodeLines 14 = .ok (.iload_n 1, 1) := by decide +kernel
theorem d_T_encodeLines_15 : decode b_T_encodeLines 15 = .ok (.aaload, 1) := by decide +kernel
theorem d_T_encodeLines_16 : decode b_T_encodeLines 16 = .ok (.invokevirtual 66, 3) := by decide +kernel
theorem d_T_encodeLines_19 : decode b_T_encodeLines 19 = .ok (.if_icmp .ge 75, 3) := by decide +kernel
theorem d_T_encodeLines_22 : decode b_T_encodeLines 22 = .ok (.aload_n 0, 1) := by decide +kernel
theorem d_T_encodeLines_23 : decode b_T_encodeLines 23 = .ok (.getfield 19, 3) := by decide +kernel
theorem d_T_encodeLines_26 : decode b_T_encodeLines 26 = .ok (.iload_n 1, 1) := by decide +kernel
theorem d_T_encodeLines_27 : decode b_T_encodeLines 27 = .ok (.aaload, 1) := by decide +kernel
theorem d_T_encodeLines_28 : decode b_T_encodeLines 28 = .ok (.iload_n 2, 1) := by decide +kernel
theorem d_T_encodeLines_29 : decode b_T_encodeLines 29 = .ok (.invokevirtual 108, 3) := by decide +kernel
theorem d_T_encodeLines_32 : decode b_T_encodeLines 32 = .ok (.astore_n 3, 1) := by decide +kernel
theorem d_T_encodeLines_33 : decode b_T_encodeLines 33 = .ok (.aload_n 3, 1) := by decide +kernel
theorem d_T_encodeLines_34 : decode b_T_encodeLines 34 = .ok (.getfield 178, 3) := by decide +kernel
theorem d_T_encodeLines_37 : decode b_T_encodeLines 37 = .ok (.invokevirtual 217, 3) := by decide +kernel
theorem d_T_encodeLines_40 : decode b_T_encodeLines 40 = .ok (.ifCond .eq 16, 3) := by decide +kernel
theorem d_T_encodeLines_43 : decode b_T_encodeLines 43 = .ok (.aload_n 3, 1) := by decide +kernel
theorem d_T_encodeLines_44 : decode b_T_encodeLines 44 = .ok (.aload_n 0, 1) := by decide +kernel
theorem d_T_encodeLines_45 : decode b_T_encodeLines 45 = .ok (.iload_n 1, 1) := by decide +kernel
theorem d_T_encodeLines_46 : decode b_T_encodeLines 46 = .ok (.aload_n 3, 1) := by decide +kernel
theorem d_T_encodeLines_47 : decode b_T_encodeLines 47 = .ok (.invokevirtual 210, 3) := by decide +kernel
theorem d_T_encodeLines_50 : decode b_T_encodeLines 50 = .ok (.invokevirtual 220, 3) := by decide +kernel
theorem d_T_encodeLines_53 : decode b_T_encodeLines 53 = .ok (.goto 35, 3) := by decide +kernel
theorem d_T_encodeLines_56 : decode b_T_encodeLines 56 = .ok (.aload_n 3, 1) := by decide +kernel
theorem d_T_encodeLines_57 : decode b_T_encodeLines 57 = .ok (.getfield 178, 3) := by decide +kernel
theorem d_T_encodeLines_60 : decode b_T_encodeLines 60 = .ok (.getfield 181, 3) := by decide +kernel
theorem d_T_encodeLines_63 : decode b_T_encodeLines 63 = .ok (.bipush 9, 2) := by decide +kernel
theorem d_T_encodeLines_65 : decode b_T_encodeLines 65 = .ok (.if_icmp .ne 19, 3) := by decide +kernel
theorem d_T_encodeLines_68 : decode b_T_encodeLines 68 = .ok (.aload_n 3, 1) := by decide +kernel
theorem d_T_encodeLines_69 : decode b_T_encodeLines 69 = .ok (.aload_n 0, 1) := by decide +kernel
theorem d_T_encodeLines_70 : decode b_T_encodeLines 70 = .ok (.iload_n 1, 1) := by decide +kernel
theorem d_T_encodeLines_71 : decode b_T_encodeLines 71 = .ok (.aload_n 3, 1) := by decide +kernel
theorem d_T_encodeLines_72 : decode b_T_encodeLines 72 = .ok (.getfield 184, 3) := by decide +kernel
theorem d_T_encodeLines_75 : decode b_T_encodeLines 75 = .ok (.invokevirtual 187, 3) := by decide +kernel
theorem d_T_encodeLines_78 : decode b_T_encodeLines 78 = .ok (.invokevirtual 223, 3) := by decide +kernel
theorem d_T_encodeLines_81 : decode b_T_encodeLines 81 = .ok (.goto 7, 3) := by decide +kernel
theorem d_T_encodeLines_84 : decode b_T_encodeLines 84 = .ok (.aload_n 3, 1) := by decide +kernel
theorem d_T_encodeLines_85 : decode b_T_encodeLines 85 = .ok (.invokevirtual 226, 3) := by decide +kernel
theorem d_T_encodeLines_88 : decode b_T_encodeLines 88 = .ok (.iinc 2 1, 3) := by decide +kernel
theorem d_T_encodeLines_91 : decode b_T_encodeLines 91 = .ok (.goto (-82), 3) := by decide +kernel
theorem d_T_encodeLines_94 : decode b_T_encodeLines 94 = .ok (.iinc 1 1, 3) := by decide +kernel
theorem d_T_encodeLines_97 : decode b_T_encodeLines 97 = .ok (.goto (-95), 3) := by decide +kernel
theorem d_T_encodeLines_100 : decode b_T_encodeLines 100 = .ok (.return_, 1) := by decide +kernel
abbrev b_T_far : ByteArray := prog_1_method_6_code
abbrev y_T_far : MethodName := ⟨"TwoPass", "far", "()I"⟩
theorem kc_T_far : (.code y_T_far b_T_far 4 (some .int) : Cond) ∈ tp_G := tp_Gm 780 (by decide +kernel) (by decide +kernel)
def w_T_far : List Cond := .code y_T_far b_T_far 4 (some .int) :: tp_G
theorem km_T_far : (.instanceMethod y_T_far : Cond) ∈ tp_G := tp_Gm 778 (by decide +kernel) (by decide +kernel)
theorem kv_T_T_far : (.selects "TwoPass" y_T_far y_T_far : Cond) ∈ tp_G := tp_Gm 779 (by decide +kernel) (by decide +kernel)
theorem d_T_far_0 : decode b_T_far 0 = .ok (.aload_n 0, 1) := by decide +kernel
theorem d_T_far_1 : decode b_T_far 1 = .ok (.invokevirtual 105, 3) := by decide +kernel
theorem d_T_far_4 : decode b_T_far 4 = .ok (.iconst 0, 1) := by decide +kernel
theorem d_T_far_5 : decode b_T_far 5 = .ok (.istore_n 1, 1) := by decide +kernel
theorem d_T_far_6 : decode b_T_far 6 = .ok (.iconst 0, 1) := by decide +kernel
theorem d_T_far_7 : decode b_T_far 7 = .ok (.istore_n 2, 1) := by decide +kernel
theorem d_T_far_8 : decode b_T_far 8 = .ok (.iload_n 2, 1) := by decide +kernel
theorem d_T_far_9 : decode b_T_far 9 = .ok (.iconst 2, 1) := by decide +kernel
theorem d_T_far_10 : decode b_T_far 10 = .ok (.if_icmp .ge 49, 3) := by decide +kernel
theorem d_T_far_13 : decode b_T_far 13 = .ok (.iconst 0, 1) := by decide +kernel
theorem d_T_far_14 : decode b_T_far 14 = .ok (.istore_n 3, 1) := by decide +kernel
theorem d_T_far_15 : decode b_T_far 15 = .ok (.iload_n 3, 1) := by decide +kernel
theorem d_T_far_16 : decode b_T_far 16 = .ok (.aload_n 0, 1) := by decide +kernel
theorem d_T_far_17 : decode b_T_far 17 = .ok (.getfield 19, 3) := by decide +kernel
theorem d_T_far_20 : decode b_T_far 20 = .ok (.iload_n 2, 1) := by decide +kernel
theorem d_T_far_21 : decode b_T_far 21 = .ok (.aaload, 1) := by decide +kernel
theorem d_T_far_22 : decode b_T_far 22 = .ok (.invokevirtual 66, 3) := by decide +kernel
theorem d_T_far_25 : decode b_T_far 25 = .ok (.if_icmp .ge 28, 3) := by decide +kernel
theorem d_T_far_28 : decode b_T_far 28 = .ok (.aload_n 0, 1) := by decide +kernel
theorem d_T_far_29 : decode b_T_far 29 = .ok (.getfield 19, 3) := by decide +kernel
theorem d_T_far_32 : decode b_T_far 32 = .ok (.iload_n 2, 1) := by decide +kernel
theorem d_T_far_33 : decode b_T_far 33 = .ok (.aaload, 1) := by decide +kernel
theorem d_T_far_34 : decode b_T_far 34 = .ok (.iload_n 3, 1) := by decide +kernel
theorem d_T_far_35 : decode b_T_far 35 = .ok (.invokevirtual 108, 3) := by decide +kernel
theorem d_T_far_38 : decode b_T_far 38 = .ok (.getfield 112, 3) := by decide +kernel
theorem d_T_far_41 : decode b_T_far 41 = .ok (.ifCond .eq 6, 3) := by decide +kernel
theorem d_T_far_44 : decode b_T_far 44 = .ok (.iinc 1 1, 3) := by decide +kernel
theorem d_T_far_47 : decode b_T_far 47 = .ok (.iinc 3 1, 3) := by decide +kernel
theorem d_T_far_50 : decode b_T_far 50 = .ok (.goto (-35), 3) := by decide +kernel
theorem d_T_far_53 : decode b_T_far 53 = .ok (.iinc 2 1, 3) := by decide +kernel
theorem d_T_far_56 : decode b_T_far 56 = .ok (.goto (-48), 3) := by decide +kernel
theorem d_T_far_59 : decode b_T_far 59 = .ok (.iload_n 1, 1) := by decide +kernel
theorem d_T_far_60 : decode b_T_far 60 = .ok (.ireturn, 1) := by decide +kernel
abbrev b_T_image : ByteArray := prog_1_method_7_code
abbrev y_T_image : MethodName := ⟨"TwoPass", "image", "(I)I"⟩
theorem kc_T_image : (.code y_T_image b_T_image 5 (some .int) : Cond) ∈ tp_G := tp_Gm 792 (by decide +kernel) (by decide +kernel)
def w_T_image : List Cond := .code y_T_image b_T_image 5 (some .int) :: tp_G
theorem km_T_image : (.instanceMethod y_T_image : Cond) ∈ tp_G := tp_Gm 790 (by decide +kernel) (by decide +kernel)
theorem kv_T_T_image : (.selects "TwoPass" y_T_image y_T_image : Cond) ∈ tp_G := tp_Gm 791 (by decide +kernel) (by decide +kernel)
theorem d_T_image_0 : decode b_T_image 0 = .ok (.aload_n 0, 1) := by decide +kernel
theorem d_T_image_1 : decode b_T_image 1 = .ok (.invokevirtual 105, 3) := by decide +kernel
theorem d_T_image_4 : decode b_T_image 4 = .ok (.iload_n 1, 1) := by decide +kernel
theorem d_T_image_5 : decode b_T_image 5 = .ok (.ifCond .lt 11, 3) := by decide +kernel
theorem d_T_image_8 : decode b_T_image 8 = .ok (.iload_n 1, 1) := by decide +kernel
theorem d_T_image_9 : decode b_T_image 9 = .ok (.aload_n 0, 1) := by decide +kernel
theorem d_T_image_10 : decode b_T_image 10 = .ok (.getfield 34, 3) := by decide +kernel
theorem d_T_image_13 : decode b_T_image 13 = .ok (.if_icmp .lt 11, 3) := by decide +kernel
theorem d_T_image_16 : decode b_T_image 16 = .ok (.new 115, 3) := by decide +kernel
theorem d_T_image_19 : decode b_T_image 19 = .ok (.dup, 1) := by decide +kernel
theorem d_T_image_20 : decode b_T_image 20 = .ok (.invokespecial 117, 3) := by decide +kernel
theorem d_T_image_23 : decode b_T_image 23 = .ok (.athrow, 1) := by decide +kernel
theorem d_T_image_24 : decode b_T_image 24 = .ok (.iconst 0, 1) := by decide +kernel
theorem d_T_image_25 : decode b_T_image 25 = .ok (.istore_n 2, 1) := by decide +kernel
theorem d_T_image_26 : decode b_T_image 26 = .ok (.iload_n 2, 1) := by decide +kernel
theorem d_T_image_27 : decode b_T_image 27 = .ok (.iconst 2, 1) := by decide +kernel
theorem d_T_image_28 : decode b_T_image 28 = .ok (.if_icmp .ge 79, 3) := by decide +kernel
theorem d_T_image_31 : decode b_T_image 31 = .ok (.iconst 0, 1) := by decide +kernel
theorem d_T_image_32 : decode b_T_image 32 = .ok (.istore_n 3, 1) := by decide +kernel
theorem d_T_image_33 : decode b_T_image 33 = .ok (.iload_n 3, 1) := by decide +kernel
theorem d_T_image_34 : decode b_T_image 34 = .ok (.aload_n 0, 1) := by decide +kernel
theorem d_T_image_35 : decode b_T_image 35 = .ok (.getfield 19, 3) := by decide +kernel
theorem d_T_image_38 : decode b_T_image 38 = .ok (.iload_n 2, 1) := by decide +kernel
theorem d_T_image_39 : decode b_T_image 39 = .ok (.aaload, 1) := by decide +kernel
theorem d_T_image_40 : decode b_T_image 40 = .ok (.invokevirtual 66, 3) := by decide +kernel
theorem d_T_image_43 : decode b_T_image 43 = .ok (.if_icmp .ge 58, 3) := by decide +kernel
theorem d_T_image_46 : decode b_T_image 46 = .ok (.aload_n 0, 1) := by decide +kernel
theorem d_T_image_47 : decode b_T_image 47 = .ok (.getfield 19, 3) := by decide +kernel
theorem d_T_image_50 : decode b_T_image 50 = .ok (.iload_n 2, 1) := by decide +kernel
theorem d_T_image_51 : decode b_T_image 51 = .ok (.aaload, 1) := by decide +kernel
theorem d_T_image_52 : decode b_T_image 52 = .ok (.iload_n 3, 1) := by decide +kernel
theorem d_T_image_53 : decode b_T_image 53 = .ok (.invokevirtual 108, 3) := by decide +kernel
theorem d_T_image_56 : decode b_T_image 56 = .ok (.astore 4, 2) := by decide +kernel
theorem d_T_image_58 : decode b_T_image 58 = .ok (.iload_n 1, 1) := by decide +kernel
theorem d_T_image_59 : decode b_T_image 59 = .ok (.aload 4, 2) := by decide +kernel
theorem d_T_image_61 : decode b_T_image 61 = .ok (.getfield 118, 3) := by decide +kernel
theorem d_T_image_64 : decode b_T_image 64 = .ok (.if_icmp .lt 31, 3) := by decide +kernel
theorem d_T_image_67 : decode b_T_image 67 = .ok (.iload_n 1, 1) := by decide +kernel
theorem d_T_image_68 : decode b_T_image 68 = .ok (.aload 4, 2) := by decide +kernel
theorem d_T_image_70 : decode b_T_image 70 = .ok (.getfield 118, 3) := by decide +kernel
theorem d_T_image_73 : decode b_T_image 73 = .ok (.aload 4, 2) := by decide +kernel
theorem d_T_image_75 : decode b_T_image 75 = .ok (.invokevirtual 121, 3) := by decide +kernel
theorem d_T_image_78 : decode b_T_image 78 = .ok (.iadd, 1) := by decide +kernel
theorem d_T_image_79 : decode b_T_image 79 = .ok (.if_icmp .ge 16, 3) := by decide +kernel
theorem d_T_image_82 : decode b_T_image 82 = .ok (.aload 4, 2) := by decide +kernel
theorem d_T_image_84 : decode b_T_image 84 = .ok (.iload_n 1, 1) := by decide +kernel
theorem d_T_image_85 : decode b_T_image 85 = .ok (.aload 4, 2) := by decide +kernel
theorem d_T_image_87 : decode b_T_image 87 = .ok (.getfield 118, 3) := by decide +kernel
theorem d_T_image_90 : decode b_T_image 90 = .ok (.isub, 1) := by decide +kernel
theorem d_T_image_91 : decode b_T_image 91 = .ok (.invokevirtual 124, 3) := by decide +kernel
theorem d_T_image_94 : decode b_T_image 94 = .ok (.ireturn, 1) := by decide +kernel
theorem d_T_image_95 : decode b_T_image 95 = .ok (.iinc 3 1, 3) := by decide +kernel
theorem d_T_image_98 : decode b_T_image 98 = .ok (.goto (-65), 3) := by decide +kernel
theorem d_T_image_101 : decode b_T_image 101 = .ok (.iinc 2 1, 3) := by decide +kernel
theorem d_T_image_104 : decode b_T_image 104 = .ok (.goto (-78), 3) := by decide +kernel
theorem d_T_image_107 : decode b_T_image 107 = .ok (.iconst 0, 1) := by decide +kernel
theorem d_T_image_108 : decode b_T_image 108 = .ok (.ireturn, 1) := by decide +kernel
abbrev b_T_isModule : ByteArray := prog_1_method_13_code
abbrev y_T_isModule : MethodName := ⟨"TwoPass", "isModule", "(I)Z"⟩
theorem kc_T_isModule : (.code y_T_isModule b_T_isModule 1 (some .boolean) : Cond) ∈ tp_G := tp_Gm 336 (by decide +kernel) (by decide +kernel)
def w_T_isModule : List Cond := .code y_T_isModule b_T_isModule 1 (some .boolean) :: tp_G
theorem ks_T_isModule : (.static y_T_isModule : Cond) ∈ tp_G := tp_Gm 335 (by decide +kernel) (by decide +kernel)
theorem d_T_isModule_0 : decode b_T_isModule 0 = .ok (.iload_n 0, 1) := by decide +kernel
theorem d_T_isModule_1 : decode b_T_isModule 1 = .ok (.ifCond .lt 12, 3) := by decide +kernel
theorem d_T_isModule_4 : decode b_T_isModule 4 = .ok (.iload_n 0, 1) := by decide +kernel
theorem d_T_isModule_5 : decode b_T_isModule 5 = .ok (.iconst 2, 1) := by decide +kernel
theorem d_T_isModule_6 : decode b_T_isModule 6 = .ok (.if_icmp .ge 7, 3) := by decide +kernel
theorem d_T_isModule_9 : decode b_T_isModule 9 = .ok (.iconst 1, 1) := by decide +kernel
theorem d_T_isModule_10 : decode b_T_isModule 10 = .ok (.goto 4, 3) := by decide +kernel
theorem d_T_isModule_13 : decode b_T_isModule 13 = .ok (.iconst 0, 1) := by decide +kernel
theorem d_T_isModule_14 : decode b_T_isModule 14 = .ok (.ireturn, 1) := by decide +kernel
abbrev b_T_layOut : ByteArray := prog_1_method_21_code
abbrev y_T_layOut : MethodName := ⟨"TwoPass", "layOut", "()V"⟩
theorem kc_T_layOut : (.code y_T_layOut b_T_layOut 5 none : Cond) ∈ tp_G := tp_Gm 679 (by decide +kernel) (by decide +kernel)
def w_T_layOut : List Cond := .code y_T_layOut b_T_layOut 5 none :: tp_G
theorem km_T_layOut : (.instanceMethod y_T_layOut : Cond) ∈ tp_G := tp_Gm 678 (by decide +kernel) (by decide +kernel)
theorem kp_T_layOut : (.selects "TwoPass" y_T_layOut y_T_layOut : Cond) ∈ tp_G := List.mem_filter.mpr ⟨by decide +kernel, by decide +kernel⟩
theorem d_T_layOut_0 : decode b_T_layOut 0 = .ok (.iconst 0, 1) := by decide +kernel
theorem d_T_layOut_1 : decode b_T_layOut 1 = .ok (.istore_n 1, 1) := by decide +kernel
theorem d_T_layOut_2 : decode b_T_layOut 2 = .ok (.iconst 0, 1) := by decide +kernel
theorem d_T_layOut_3 : decode b_T_layOut 3 = .ok (.istore_n 2, 1) := by decide +kernel
theorem d_T_layOut_4 : decode b_T_layOut 4 = .ok (.iload_n 2, 1) := by decide +kernel
theorem d_T_layOut_5 : decode b_T_layOut 5 = .ok (.iconst 2, 1) := by decide +kernel
theorem d_T_layOut_6 : decode b_T_layOut 6 = .ok (.if_icmp .ge 83, 3) := by decide +kernel
theorem d_T_layOut_9 : decode b_T_layOut 9 = .ok (.iload_n 1, 1) := by decide +kernel
theorem d_T_layOut_10 : decode b_T_layOut 10 = .ok (.invokestatic 204, 3) := by decide +kernel
theorem d_T_layOut_13 : decode b_T_layOut 13 = .ok (.istore_n 1, 1) := by decide +kernel
theorem d_T_layOut_14 : decode b_T_layOut 14 = .ok (.iconst 0, 1) := by decide +kernel
theorem d_T_layOut_15 : decode b_T_layOut 15 = .ok (.istore_n 3, 1) := by decide +kernel
theorem d_T_layOut_16 : decode b_T_layOut 16 = .ok (.iload_n 3, 1) := by decide +kernel
theorem d_T_layOut_17 : decode b_T_layOut 17 = .ok (.aload_n 0, 1) := by decide +kernel
theorem d_T_layOut_18 : decode b_T_layOut 18 = .ok (.getfield 19, 3) := by decide +kernel
theorem d_T_layOut_21 : decode b_T_layOut 21 = .ok (.iload_n 2, 1) := by decide +kernel
theorem d_T_layOut_22 : decode b_T_layOut 22 = .ok (.aaload, 1) := by decide +kernel
theorem d_T_layOut_23 : decode b_T_layOut 23 = .ok (.invokevirtual 66, 3) := by decide +kernel
theorem d_T_layOut_26 : decode b_T_layOut 26 = .ok (.if_icmp .ge 57, 3) := by decide +kernel
theorem d_T_layOut_29 : decode b_T_layOut 29 = .ok (.aload_n 0, 1) := by decide +kernel
theorem d_T_layOut_30 : decode b_T_layOut 30 = .ok (.getfield 19, 3) := by decide +kernel
theorem d_T_layOut_33 : decode b_T_layOut 33 = .ok (.iload_n 2, 1) := by decide +kernel
theorem d_T_layOut_34 : decode b_T_layOut 34 = .ok (.aaload, 1) := by decide +kernel
theorem d_T_layOut_35 : decode b_T_layOut 35 = .ok (.iload_n 3, 1) := by decide +kernel
theorem d_T_layOut_36 : decode b_T_layOut 36 = .ok (.invokevirtual 108, 3) := by decide +kernel
theorem d_T_layOut_39 : decode b_T_layOut 39 = .ok (.astore 4, 2) := by decide +kernel
theorem d_T_layOut_41 : decode b_T_layOut 41 = .ok (.aload 4, 2) := by decide +kernel
theorem d_T_layOut_43 : decode b_T_layOut 43 = .ok (.aload 4, 2) := by decide +kernel
theorem d_T_layOut_45 : decode b_T_layOut 45 = .ok (.getfield 178, 3) := by decide +kernel
theorem d_T_layOut_48 : decode b_T_layOut 48 = .ok (.invokevirtual 207, 3) := by decide +kernel
theorem d_T_layOut_51 : decode b_T_layOut 51 = .ok (.ifCond .eq 10, 3) := by decide +kernel
theorem d_T_layOut_54 : decode b_T_layOut 54 = .ok (.iload_n 1, 1) := by decide +kernel
theorem d_T_layOut_55 : decode b_T_layOut 55 = .ok (.invokestatic 204, 3) := by decide +kernel
theorem d_T_layOut_58 : decode b_T_layOut 58 = .ok (.goto 4, 3) := by decide +kernel
theorem d_T_layOut_61 : decode b_T_layOut 61 = .ok (.iload_n 1, 1) := by decide +kernel
theorem d_T_layOut_62 : decode b_T_layOut 62 = .ok (.putfield 118, 3) := by decide +kernel
theorem d_T_layOut_65 : decode b_T_layOut 65 = .ok (.aload 4, 2) := by decide +kernel
theorem d_T_layOut_67 : decode b_T_layOut 67 = .ok (.getfield 118, 3) := by decide +kernel
theorem d_T_layOut_70 : decode b_T_layOut 70 = .ok (.aload 4, 2) := by decide +kernel
theorem d_T_layOut_72 : decode b_T_layOut 72 = .ok (.invokevirtual 121, 3) := by decide +kernel
theorem d_T_layOut_75 : decode b_T_layOut 75 = .ok (.iadd, 1) := by decide +kernel
theorem d_T_layOut_76 : decode b_T_layOut 76 = .ok (.istore_n 1, 1) := by decide +kernel
theorem d_T_layOut_77 : decode b_T_layOut 77 = .ok (.iinc 3 1, 3) := by decide +kernel
theorem d_T_layOut_80 : decode b_T_layOut 80 = .ok (.goto (-64), 3) := by decide +kernel
theorem d_T_layOut_83 : decode b_T_layOut 83 = .ok (.iinc 2 1, 3) := by decide +kernel
theorem d_T_layOut_86 : decode b_T_layOut 86 = .ok (.goto (-82), 3) := by decide +kernel
theorem d_T_layOut_89 : decode b_T_layOut 89 = .ok (.aload_n 0, 1) := by decide +kernel
theorem d_T_layOut_90 : decode b_T_layOut 90 = .ok (.iload_n 1, 1) := by decide +kernel
theorem d_T_layOut_91 : decode b_T_layOut 91 = .ok (.putfield 34, 3) := by decide +kernel
theorem d_T_layOut_94 : decode b_T_layOut 94 = .ok (.return_, 1) := by decide +kernel
abbrev b_T_letter : ByteArray := prog_1_method_10_code
abbrev y_T_letter : MethodName := ⟨"TwoPass", "letter", "(I)I"⟩
theorem kc_T_letter : (.code y_T_letter b_T_letter 2 (some .int) : Cond) ∈ tp_G := tp_Gm 1123 (by decide +kernel) (by decide +kernel)
def w_T_letter : List Cond := .code y_T_letter b_T_letter 2 (some .int) :: tp_G
theorem km_T_letter : (.instanceMethod y_T_letter : Cond) ∈ tp_G := tp_Gm 1121 (by decide +kernel) (by decide +kernel)
theorem kv_T_T_letter : (.selects "TwoPass" y_T_letter y_T_letter : Cond) ∈ tp_G := tp_Gm 1122 (by decide +kernel) (by decide +kernel)
theorem d_T_letter_0 : decode b_T_letter 0 = .ok (.iload_n 1, 1) := by decide +kernel
theorem d_T_letter_1 : decode b_T_letter 1 = .ok (.ifCond .lt 14, 3) := by decide +kernel
theorem d_T_letter_4 : decode b_T_letter 4 = .ok (.iload_n 1, 1) := by decide +kernel
theorem d_T_letter_5 : decode b_T_letter 5 = .ok (.aload_n 0, 1) := by decide +kernel
theorem d_T_letter_6 : decode b_T_letter 6 = .ok (.getfield 26, 3) := by decide +kernel
theorem d_T_letter_9 : decode b_T_letter 9 = .ok (.invokevirtual 172, 3) := by decide +kernel
theorem d_T_letter_12 : decode b_T_letter 12 = .ok (.if_icmp .lt 11, 3) := by decide +kernel
theorem d_T_letter_15 : decode b_T_letter 15 = .ok (.new 115, 3) := by decide +kernel
theorem d_T_letter_18 : decode b_T_letter 18 = .ok (.dup, 1) := by decide +kernel
theorem d_T_letter_19 : decode b_T_letter 19 = .ok (.invokespecial 117, 3) := by decide +kernel
theorem d_T_letter_22 : decode b_T_letter 22 = .ok (.athrow, 1) := by decide +kernel
theorem d_T_letter_23 : decode b_T_letter 23 = .ok (.aload_n 0, 1) := by decide +kernel
theorem d_T_letter_24 : decode b_T_letter 24 = .ok (.getfield 26, 3) := by decide +kernel
theorem d_T_letter_27 : decode b_T_letter 27 = .ok (.iload_n 1, 1) := by decide +kernel
theorem d_T_letter_28 : decode b_T_letter 28 = .ok (.invokevirtual 173, 3) := by decide +kernel
theorem d_T_letter_31 : decode b_T_letter 31 = .ok (.ireturn, 1) := by decide +kernel
abbrev b_T_lines : ByteArray := prog_1_method_11_code
abbrev y_T_lines : MethodName := ⟨"TwoPass", "lines", "(I)I"⟩
theorem kc_T_lines : (.code y_T_lines b_T_lines 2 (some .int) : Cond) ∈ tp_G := tp_Gm 1140 (by decide +kernel) (by decide +kernel)
def w_T_lines : List Cond := .code y_T_lines b_T_lines 2 (some .int) :: tp_G
theorem km_T_lines : (.instanceMethod y_T_lines : Cond) ∈ tp_G := tp_Gm 1138 (by decide +kernel) (by decide +kernel)
theorem kv_T_T_lines : (.selects "TwoPass" y_T_lines y_T_lines : Cond) ∈ tp_G := tp_Gm 1139 (by decide +kernel) (by decide +kernel)
theorem d_T_lines_0 : decode b_T_lines 0 = .ok (.iload_n 1, 1) := by decide +kernel
theorem d_T_lines_1 : decode b_T_lines 1 = .ok (.invokestatic 58, 3) := by decide +kernel
theorem d_T_lines_4 : decode b_T_lines 4 = .ok (.aload_n 0, 1) := by decide +kernel
theorem d_T_lines_5 : decode b_T_lines 5 = .ok (.getfield 19, 3) := by decide +kernel
theorem d_T_lines_8 : decode b_T_lines 8 = .ok (.iload_n 1, 1) := by decide +kernel
theorem d_T_lines_9 : decode b_T_lines 9 = .ok (.aaload, 1) := by decide +kernel
theorem d_T_lines_10 : decode b_T_lines 10 = .ok (.invokevirtual 66, 3) := by decide +kernel
theorem d_T_lines_13 : decode b_T_lines 13 = .ok (.ireturn, 1) := by decide +kernel
abbrev b_T_link : ByteArray := prog_1_method_5_code
abbrev y_T_link : MethodName := ⟨"TwoPass", "link", "()I"⟩
theorem kc_T_link : (.code y_T_link b_T_link 1 (some .int) : Cond) ∈ tp_G := tp_Gm 636 (by decide +kernel) (by decide +kernel)
def w_T_link : List Cond := .code y_T_link b_T_link 1 (some .int) :: tp_G
theorem km_T_link : (.instanceMethod y_T_link : Cond) ∈ tp_G := tp_Gm 634 (by decide +kernel) (by decide +kernel)
theorem kv_T_T_link : (.selects "TwoPass" y_T_link y_T_link : Cond) ∈ tp_G := tp_Gm 635 (by decide +kernel) (by decide +kernel)
theorem d_T_link_0 : decode b_T_link 0 = .ok (.aload_n 0, 1) := by decide +kernel
theorem d_T_link_1 : decode b_T_link 1 = .ok (.iconst 0, 1) := by decide +kernel
theorem d_T_link_2 : decode b_T_link 2 = .ok (.putfield 30, 3) := by decide +kernel
theorem d_T_link_5 : decode b_T_link 5 = .ok (.aload_n 0, 1) := by decide +kernel
theorem d_T_link_6 : decode b_T_link 6 = .ok (.invokevirtual 90, 3) := by decide +kernel
theorem d_T_link_9 : decode b_T_link 9 = .ok (.aload_n 0, 1) := by decide +kernel
theorem d_T_link_10 : decode b_T_link 10 = .ok (.invokevirtual 93, 3) := by decide +kernel
theorem d_T_link_13 : decode b_T_link 13 = .ok (.aload_n 0, 1) := by decide +kernel
theorem d_T_link_14 : decode b_T_link 14 = .ok (.getfield 34, 3) := by decide +kernel
theorem d_T_link_17 : decode b_T_link 17 = .ok (.sipush 16384, 3) := by decide +kernel
theorem d_T_link_20 : decode b_T_link 20 = .ok (.if_icmp .le 11, 3) := by decide +kernel
theorem d_T_link_23 : decode b_T_link 23 = .ok (.new 96, 3) := by decide +kernel
theorem d_T_link_26 : decode b_T_link 26 = .ok (.dup, 1) := by decide +kernel
theorem d_T_link_27 : decode b_T_link 27 = .ok (.invokespecial 98, 3) := by decide +kernel
theorem d_T_link_30 : decode b_T_link 30 = .ok (.athrow, 1) := by decide +kernel
theorem d_T_link_31 : decode b_T_link 31 = .ok (.aload_n 0, 1) := by decide +kernel
theorem d_T_link_32 : decode b_T_link 32 = .ok (.invokevirtual 99, 3) := by decide +kernel
theorem d_T_link_35 : decode b_T_link 35 = .ok (.aload_n 0, 1) := by decide +kernel
theorem d_T_link_36 : decode b_T_link 36 = .ok (.invokevirtual 102, 3) := by decide +kernel
theorem d_T_link_39 : decode b_T_link 39 = .ok (.aload_n 0, 1) := by decide +kernel
theorem d_T_link_40 : decode b_T_link 40 = .ok (.iconst 1, 1) := by decide +kernel
theorem d_T_link_41 : decode b_T_link 41 = .ok (.putfield 30, 3) := by decide +kernel
theorem d_T_link_44 : decode b_T_link 44 = .ok (.aload_n 0, 1) := by decide +kernel
theorem d_T_link_45 : decode b_T_link 45 = .ok (.getfield 34, 3) := by decide +kernel
theorem d_T_link_48 : decode b_T_link 48 = .ok (.ireturn, 1) := by decide +kernel
abbrev b_T_makeFarBranches : ByteArray := prog_1_method_20_code
abbrev y_T_makeFarBranches : MethodName := ⟨"TwoPass", "makeFarBranches", "()V"⟩
theorem kc_T_makeFarBranches : (.code y_T_makeFarBranches b_T_makeFarBranches 3 none : Cond) ∈ tp_G := tp_Gm 675 (by decide +kernel) (by decide +kernel)
def w_T_makeFarBranches : List Cond := .code y_T_makeFarBranches b_T_makeFarBranches 3 none :: tp_G
theorem km_T_makeFarBranches : (.instanceMethod y_T_makeFarBranches : Cond) ∈ tp_G := tp_Gm 674 (by decide +kernel) (by decide +kernel)
theorem kp_T_makeFarBranches : (.selects "TwoPass" y_T_makeFarBranches y_T_makeFarBranches : Cond) ∈ tp_G := List.mem_filter.mpr ⟨by decide +kernel, by decide +kernel⟩
theorem d_T_makeFarBranches_0 : decode b_T_makeFarBranches 0 = .ok (.iconst 0, 1) := by decide +kernel
theorem d_T_makeFarBranches_1 : decode b_T_makeFarBranches 1 = .ok (.istore_n 1, 1) := by decide +kernel
theorem d_T_makeFarBranches_2 : decode b_T_makeFarBranches 2 = .ok (.iload_n 1, 1) := by decide +kernel
theorem d_T_makeFarBranches_3 : decode b_T_makeFarBranches 3 = .ok (.iconst 2, 1) := by decide +kernel
theorem d_T_makeFarBranches_4 : decode b_T_makeFarBranches 4 = .ok (.if_icmp .ge 44, 3) := by decide +kernel
theorem d_T_makeFarBranches_7 : decode b_T_makeFarBranches 7 = .ok (.iconst 0, 1) := by decide +kernel
theorem d_T_makeFarBranches_8 : decode b_T_makeFarBranches 8 = .ok (.istore_n 2, 1) := by decide +kernel
theorem d_T_makeFarBranches_9 : decode b_T_makeFarBranches 9 = .ok (.iload_n 2, 1) := by decide +kernel
theorem d_T_makeFarBranches_10 : decode b_T_makeFarBranches 10 = .ok (.aload_n 0, 1) := by decide +kernel
theorem d_T_makeFarBranches_11 : decode b_T_makeFarBranches 11 = .ok (.getfield 19, 3) := by decide +kernel
theorem d_T_makeFarBranches_14 : decode b_T_makeFarBranches 14 = .ok (.iload_n 1, 1) := by decide +kernel
theorem d_T_makeFarBranches_15 : decode b_T_makeFarBranches 15 = .ok (.aaload, 1) := by decide +kernel
theorem d_T_makeFarBranches_16 : decode b_T_makeFarBranches 16 = .ok (.invokevirtual 66, 3) := by decide +kernel
theorem d_T_makeFarBranches_19 : decode b_T_makeFarBranches 19 = .ok (.if_icmp .ge 23, 3) := by decide +kernel
theorem d_T_makeFarBranches_22 : decode b_T_makeFarBranches 22 = .ok (.aload_n 0, 1) := by decide +kernel
theorem d_T_makeFarBranches_23 : decode b_T_makeFarBranches 23 = .ok (.getfield 19, 3) := by decide +kernel
theorem d_T_makeFarBranches_26 : decode b_T_makeFarBranches 26 = .ok (.iload_n 1, 1) := by decide +kernel
theorem d_T_makeFarBranches_27 : decode b_T_makeFarBranches 27 = .ok (.aaload, 1) := by decide +kernel
theorem d_T_makeFarBranches_28 : decode b_T_makeFarBranches 28 = .ok (.iload_n 2, 1) := by decide +kernel
theorem d_T_makeFarBranches_29 : decode b_T_makeFarBranches 29 = .ok (.invokevirtual 108, 3) := by decide +kernel
theorem d_T_makeFarBranches_32 : decode b_T_makeFarBranches 32 = .ok (.iconst 0, 1) := by decide +kernel
theorem d_T_makeFarBranches_33 : decode b_T_makeFarBranches 33 = .ok (.putfield 112, 3) := by decide +kernel
theorem d_T_makeFarBranches_36 : decode b_T_makeFarBranches 36 = .ok (.iinc 2 1, 3) := by decide +kernel
theorem d_T_makeFarBranches_39 : decode b_T_makeFarBranches 39 = .ok (.goto (-30), 3) := by decide +kernel
theorem d_T_makeFarBranches_42 : decode b_T_makeFarBranches 42 = .ok (.iinc 1 1, 3) := by decide +kernel
theorem d_T_makeFarBranches_45 : decode b_T_makeFarBranches 45 = .ok (.goto (-43), 3) := by decide +kernel
theorem d_T_makeFarBranches_48 : decode b_T_makeFarBranches 48 = .ok (.aload_n 0, 1) := by decide +kernel
theorem d_T_makeFarBranches_49 : decode b_T_makeFarBranches 49 = .ok (.invokevirtual 197, 3) := by decide +kernel
theorem d_T_makeFarBranches_52 : decode b_T_makeFarBranches 52 = .ok (.iconst 0, 1) := by decide +kernel
theorem d_T_makeFarBranches_53 : decode b_T_makeFarBranches 53 = .ok (.istore_n 1, 1) := by decide +kernel
theorem d_T_makeFarBranches_54 : decode b_T_makeFarBranches 54 = .ok (.iload_n 1, 1) := by decide +kernel
theorem d_T_makeFarBranches_55 : decode b_T_makeFarBranches 55 = .ok (.bipush 32, 2) := by decide +kernel
theorem d_T_makeFarBranches_57 : decode b_T_makeFarBranches 57 = .ok (.if_icmp .gt 20, 3) := by decide +kernel
theorem d_T_makeFarBranches_60 : decode b_T_makeFarBranches 60 = .ok (.aload_n 0, 1) := by decide +kernel
theorem d_T_makeFarBranches_61 : decode b_T_makeFarBranches 61 = .ok (.invokevirtual 200, 3) := by decide +kernel
theorem d_T_makeFarBranches_64 : decode b_T_makeFarBranches 64 = .ok (.ifCond .eq 13, 3) := by decide +kernel
theorem d_T_makeFarBranches_67 : decode b_T_makeFarBranches 67 = .ok (.aload_n 0, 1) := by decide +kernel
theorem d_T_makeFarBranches_68 : decode b_T_makeFarBranches 68 = .ok (.invokevirtual 197, 3) := by decide +kernel
theorem d_T_makeFarBranches_71 : decode b_T_makeFarBranches 71 = .ok (.iinc 1 1, 3) := by decide +kernel
theorem d_T_makeFarBranches_74 : decode b_T_makeFarBranches 74 = .ok (.goto (-20), 3) := by decide +kernel
theorem d_T_makeFarBranches_77 : decode b_T_makeFarBranches 77 = .ok (.return_, 1) := by decide +kernel
abbrev b_T_makeUnreachingFar : ByteArray := prog_1_method_23_code
abbrev y_T_makeUnreachingFar : MethodName := ⟨"TwoPass", "makeUnreachingFar", "()Z"⟩
theorem kc_T_makeUnreachingFar : (.code y_T_makeUnreachingFar b_T_makeUnreachingFar 5 (some .boolean) : Cond) ∈ tp_G := tp_Gm 702 (by decide +kernel) (by decide +kernel)
def w_T_makeUnreachingFar : List Cond := .code y_T_makeUnreachingFar b_T_makeUnreachingFar 5 (some .boolean) :: tp_G
theorem km_T_makeUnreachingFar : (.instanceMethod y_T_makeUnreachingFar : Cond) ∈ tp_G := tp_Gm 701 (by decide +kernel) (by decide +kernel)
theorem kp_T_makeUnreachingFar : (.selects "TwoPass" y_T_makeUnreachingFar y_T_makeUnreachingFar : Cond) ∈ tp_G := List.mem_filter.mpr ⟨by decide +kernel, by decide +kernel⟩
theorem d_T_makeUnreachingFar_0 : decode b_T_makeUnreachingFar 0 = .ok (.iconst 0, 1) := by decide +kernel
theorem d_T_makeUnreachingFar_1 : decode b_T_makeUnreachingFar 1 = .ok (.istore_n 1, 1) := by decide +kernel
theorem d_T_makeUnreachingFar_2 : decode b_T_makeUnreachingFar 2 = .ok (.iconst 0, 1) := by decide +kernel
theorem d_T_makeUnreachingFar_3 : decode b_T_makeUnreachingFar 3 = .ok (.istore_n 2, 1) := by decide +kernel
theorem d_T_makeUnreachingFar_4 : decode b_T_makeUnreachingFar 4 = .ok (.iload_n 2, 1) := by decide +kernel
theorem d_T_makeUnreachingFar_5 : decode b_T_makeUnreachingFar 5 = .ok (.iconst 2, 1) := by decide +kernel
theorem d_T_makeUnreachingFar_6 : decode b_T_makeUnreachingFar 6 = .ok (.if_icmp .ge 84, 3) := by decide +kernel
theorem d_T_makeUnreachingFar_9 : decode b_T_makeUnreachingFar 9 = .ok (.iconst 0, 1) := by decide +kernel
theorem d_T_makeUnreachingFar_10 : decode b_T_makeUnreachingFar 10 = .ok (.istore_n 3, 1) := by decide +kernel
theorem d_T_makeUnreachingFar_11 : decode b_T_makeUnreachingFar 11 = .ok (.iload_n 3, 1) := by decide +kernel
theorem d_T_makeUnreachingFar_12 : decode b_T_makeUnreachingFar 12 = .ok (.aload_n 0, 1) := by decide +kernel
theorem d_T_makeUnreachingFar_13 : decode b_T_makeUnreachingFar 13 = .ok (.getfield 19, 3) := by decide +kernel
theorem d_T_makeUnreachingFar_16 : decode b_T_makeUnreachingFar 16 = .ok (.iload_n 2, 1) := by decide +kernel
theorem d_T_makeUnreachingFar_17 : decode b_T_makeUnreachingFar 17 = .ok (.aaload, 1) := by decide +kernel
theorem d_T_makeUnreachingFar_18 : decode b_T_makeUnreachingFar 18 = .ok (.invokevirtual 66, 3) := by decide +kernel
theorem d_T_makeUnreachingFar_21 : decode b_T_makeUnreachingFar 21 = .ok (.if_icmp .ge 63, 3) := by decide +kernel
theorem d_T_makeUnreachingFar_24 : decode b_T_makeUnreachingFar 24 = .ok (.aload_n 0, 1) := by decide +kernel
theorem d_T_makeUnreachingFar_25 : decode b_T_makeUnreachingFar 25 = .ok (.getfield 19, 3) := by decide +kernel
theorem d_T_makeUnreachingFar_28 : decode b_T_makeUnreachingFar 28 = .ok (.iload_n 2, 1) := by decide +kernel
theorem d_T_makeUnreachingFar_29 : decode b_T_makeUnreachingFar 29 = .ok (.aaload, 1) := by decide +kernel
theorem d_T_makeUnreachingFar_30 : decode b_T_makeUnreachingFar 30 = .ok (.iload_n 3, 1) := by decide +kernel
theorem d_T_makeUnreachingFar_31 : decode b_T_makeUnreachingFar 31 = .ok (.invokevirtual 108, 3) := by decide +kernel
theorem d_T_makeUnreachingFar_34 : decode b_T_makeUnreachingFar 34 = .ok (.astore 4, 2) := by decide +kernel
theorem d_T_makeUnreachingFar_36 : decode b_T_makeUnreachingFar 36 = .ok (.aload 4, 2) := by decide +kernel
theorem d_T_makeUnreachingFar_38 : decode b_T_makeUnreachingFar 38 = .ok (.getfield 178, 3) := by decide +kernel
theorem d_T_makeUnreachingFar_41 : decode b_T_makeUnreachingFar 41 = .ok (.getfield 181, 3) := by decide +kernel
theorem d_T_makeUnreachingFar_44 : decode b_T_makeUnreachingFar 44 = .ok (.bipush 6, 2) := by decide +kernel
theorem d_T_makeUnreachingFar_46 : decode b_T_makeUnreachingFar 46 = .ok (.if_icmp .ne 32, 3) := by decide +kernel
theorem d_T_makeUnreachingFar_49 : decode b_T_makeUnreachingFar 49 = .ok (.aload 4, 2) := by decide +kernel
theorem d_T_makeUnreachingFar_51 : decode b_T_makeUnreachingFar 51 = .ok (.getfield 112, 3) := by decide +kernel
theorem d_T_makeUnreachingFar_54 : decode b_T_makeUnreachingFar 54 = .ok (.ifCond .ne 24, 3) := by decide +kernel
theorem d_T_makeUnreachingFar_57 : decode b_T_makeUnreachingFar 57 = .ok (.aload_n 0, 1) := by decide +kernel
theorem d_T_makeUnreachingFar_58 : decode b_T_makeUnreachingFar 58 = .ok (.iload_n 2, 1) := by decide +kernel
theorem d_T_makeUnreachingFar_59 : decode b_T_makeUnreachingFar 59 = .ok (.aload 4, 2) := by decide +kernel
theorem d_T_makeUnreachingFar_61 : decode b_T_makeUnreachingFar 61 = .ok (.invokevirtual 210, 3) := by decide +kernel
theorem d_T_makeUnreachingFar_64 : decode b_T_makeUnreachingFar 64 = .ok (.invokestatic 214, 3) := by decide +kernel
theorem d_T_makeUnreachingFar_67 : decode b_T_makeUnreachingFar 67 = .ok (.ifCond .ne 11, 3) := by decide +kernel
theorem d_T_makeUnreachingFar_70 : decode b_T_makeUnreachingFar 70 = .ok (.aload 4, 2) := by decide +kernel
theorem d_T_makeUnreachingFar_72 : decode b_T_makeUnreachingFar 72 = .ok (.iconst 1, 1) := by decide +kernel
theorem d_T_makeUnreachingFar_73 : decode b_T_makeUnreachingFar 73 = .ok (.putfield 112, 3) := by decide +kernel
theorem d_T_makeUnreachingFar_76 : decode b_T_makeUnreachingFar 76 = .ok (.iconst 1, 1) := by decide +kernel
theorem d_T_makeUnreachingFar_77 : decode b_T_makeUnreachingFar 77 = .ok (.istore_n 1, 1) := by decide +kernel
theorem d_T_makeUnreachingFar_78 : decode b_T_makeUnreachingFar 78 = .ok (.iinc 3 1, 3) := by decide +kernel
theorem d_T_makeUnreachingFar_81 : decode b_T_makeUnreachingFar 81 = .ok (.goto (-70), 3) := by decide +kernel
theorem d_T_makeUnreachingFar_84 : decode b_T_makeUnreachingFar 84 = .ok (.iinc 2 1, 3) := by decide +kernel
theorem d_T_makeUnreachingFar_87 : decode b_T_makeUnreachingFar 87 = .ok (.goto (-83), 3) := by decide +kernel
theorem d_T_makeUnreachingFar_90 : decode b_T_makeUnreachingFar 90 = .ok (.iload_n 1, 1) := by decide +kernel
theorem d_T_makeUnreachingFar_91 : decode b_T_makeUnreachingFar 91 = .ok (.ireturn, 1) := by decide +kernel
abbrev b_T_place : ByteArray := prog_1_method_8_code
abbrev y_T_place : MethodName := ⟨"TwoPass", "place", "(II)I"⟩
theorem kc_T_place : (.code y_T_place b_T_place 3 (some .int) : Cond) ∈ tp_G := tp_Gm 818 (by decide +kernel) (by decide +kernel)
def w_T_place : List Cond := .code y_T_place b_T_place 3 (some .int) :: tp_G
theorem km_T_place : (.instanceMethod y_T_place : Cond) ∈ tp_G := tp_Gm 816 (by decide +kernel) (by decide +kernel)
theorem kv_T_T_place : (.selects "TwoPass" y_T_place y_T_place : Cond) ∈ tp_G := tp_Gm 817 (by decide +kernel) (by decide +kernel)
theorem d_T_place_0 : decode b_T_place 0 = .ok (.aload_n 0, 1) := by decide +kernel
theorem d_T_place_1 : decode b_T_place 1 = .ok (.invokevirtual 105, 3) := by decide +kernel
theorem d_T_place_4 : decode b_T_place 4 = .ok (.iload_n 1, 1) := by decide +kernel
theorem d_T_place_5 : decode b_T_place 5 = .ok (.invokestatic 127, 3) := by decide +kernel
theorem d_T_place_8 : decode b_T_place 8 = .ok (.ifCond .eq 20, 3) := by decide +kernel
theorem d_T_place_11 : decode b_T_place 11 = .ok (.iload_n 2, 1) := by decide +kernel
theorem d_T_place_12 : decode b_T_place 12 = .ok (.ifCond .lt 16, 3) := by decide +kernel
theorem d_T_place_15 : decode b_T_place 15 = .ok (.iload_n 2, 1) := by decide +kernel
theorem d_T_place_16 : decode b_T_place 16 = .ok (.aload_n 0, 1) := by decide +kernel
theorem d_T_place_17 : decode b_T_place 17 = .ok (.getfield 19, 3) := by decide +kernel
theorem d_T_place_20 : decode b_T_place 20 = .ok (.iload_n 1, 1) := by decide +kernel
theorem d_T_place_21 : decode b_T_place 21 = .ok (.aaload, 1) := by decide +kernel
theorem d_T_place_22 : decode b_T_place 22 = .ok (.invokevirtual 66, 3) := by decide +kernel
theorem d_T_place_25 : decode b_T_place 25 = .ok (.if_icmp .lt 11, 3) := by decide +kernel
theorem d_T_place_28 : decode b_T_place 28 = .ok (.new 115, 3) := by decide +kernel
theorem d_T_place_31 : decode b_T_place 31 = .ok (.dup, 1) := by decide +kernel
theorem d_T_place_32 : decode b_T_place 32 = .ok (.invokespecial 117, 3) := by decide +kernel
theorem d_T_place_35 : decode b_T_place 35 = .ok (.athrow, 1) := by decide +kernel
theorem d_T_place_36 : decode b_T_place 36 = .ok (.aload_n 0, 1) := by decide +kernel
theorem d_T_place_37 : decode b_T_place 37 = .ok (.getfield 19, 3) := by decide +kernel
theorem d_T_place_40 : decode b_T_place 40 = .ok (.iload_n 1, 1) := by decide +kernel
theorem d_T_place_41 : decode b_T_place 41 = .ok (.aaload, 1) := by decide +kernel
theorem d_T_place_42 : decode b_T_place 42 = .ok (.iload_n 2, 1) := by decide +kernel
theorem d_T_place_43 : decode b_T_place 43 = .ok (.invokevirtual 108, 3) := by decide +kernel
theorem d_T_place_46 : decode b_T_place 46 = .ok (.getfield 118, 3) := by decide +kernel
theorem d_T_place_49 : decode b_T_place 49 = .ok (.ireturn, 1) := by decide +kernel
abbrev b_T_requireEvenWays : ByteArray := prog_1_method_25_code
abbrev y_T_requireEvenWays : MethodName := ⟨"TwoPass", "requireEvenWays", "()V"⟩
theorem kc_T_requireEvenWays : (.code y_T_requireEvenWays b_T_requireEvenWays 4 none : Cond) ∈ tp_G := tp_Gm 728 (by decide +kernel) (by decide +kernel)
def w_T_requireEvenWays : List Cond := .code y_T_requireEvenWays b_T_requireEvenWays 4 none :: tp_G
theorem km_T_requireEvenWays : (.instanceMethod y_T_requireEvenWays : Cond) ∈ tp_G := tp_Gm 727 (by decide +kernel) (by decide +kernel)
theorem kp_T_requireEvenWays : (.selects "TwoPass" y_T_requireEvenWays y_T_requireEvenWays : Cond) ∈ tp_G := List.mem_filter.mpr ⟨by decide +kernel, by decide +kernel⟩
theorem d_T_requireEvenWays_0 : decode b_T_requireEvenWays 0 = .ok (.iconst 0, 1) := by decide +kernel
theorem d_T_requireEvenWays_1 : decode b_T_requireEvenWays 1 = .ok (.istore_n 1, 1) := by decide +kernel
theorem d_T_requireEvenWays_2 : decode b_T_requireEvenWays 2 = .ok (.iload_n 1, 1) := by decide +kernel
theorem d_T_requireEvenWays_3 : decode b_T_requireEvenWays 3 = .ok (.iconst 2, 1) := by decide +kernel
theorem d_T_requireEvenWays_4 : decode b_T_requireEvenWays 4 = .ok (.if_icmp .ge 70, 3) := by decide +kernel
theorem d_T_requireEvenWays_7 : decode b_T_requireEvenWays 7 = .ok (.iconst 0, 1) := by decide +kernel
theorem d_T_requireEvenWays_8 : decode b_T_requireEvenWays 8 = .ok (.istore_n 2, 1) := by decide +kernel
theorem d_T_requireEvenWays_9 : decode b_T_requireEvenWays 9 = .ok (.iload_n 2, 1) := by decide +kernel
theorem d_T_requireEvenWays_10 : decode b_T_requireEvenWays 10 = .ok (.aload_n 0, 1) := by decide +kernel
theorem d_T_requireEvenWays_11 : decode b_T_requireEvenWays 11 = .ok (.getfield 19, 3) := by decide +kernel
theorem d_T_requireEvenWays_14 : decode b_T_requireEvenWays 14 = .ok (.iload_n 1, 1) := by decide +kernel
theorem d_T_requireEvenWays_15 : decode b_T_requireEvenWays 15 = .ok (.aaload, 1) := by decide +kernel
theorem d_T_requireEvenWays_16 : decode b_T_requireEvenWays 16 = .ok (.invokevirtual 66, 3) := by decide +kernel
theorem d_T_requireEvenWays_19 : decode b_T_requireEvenWays 19 = .ok (.if_icmp .ge 49, 3) := by decide +kernel
theorem d_T_requireEvenWays_22 : decode b_T_requireEvenWays 22 = .ok (.aload_n 0, 1) := by decide +kernel
theorem d_T_requireEvenWays_23 : decode b_T_requireEvenWays 23 = .ok (.getfield 19, 3) := by decide +kernel
theorem d_T_requireEvenWays_26 : decode b_T_requireEvenWays 26 = .ok (.iload_n 1, 1) := by decide +kernel
theorem d_T_requireEvenWays_27 : decode b_T_requireEvenWays 27 = .ok (.aaload, 1) := by decide +kernel
theorem d_T_requireEvenWays_28 : decode b_T_requireEvenWays 28 = .ok (.iload_n 2, 1) := by decide +kernel
theorem d_T_requireEvenWays_29 : decode b_T_requireEvenWays 29 = .ok (.invokevirtual 108, 3) := by decide +kernel
theorem d_T_requireEvenWays_32 : decode b_T_requireEvenWays 32 = .ok (.astore_n 3, 1) := by decide +kernel
theorem d_T_requireEvenWays_33 : decode b_T_requireEvenWays 33 = .ok (.aload_n 3, 1) := by decide +kernel
theorem d_T_requireEvenWays_34 : decode b_T_requireEvenWays 34 = .ok (.getfield 178, 3) := by decide +kernel
theorem d_T_requireEvenWays_37 : decode b_T_requireEvenWays 37 = .ok (.invokevirtual 217, 3) := by decide +kernel
theorem d_T_requireEvenWays_40 : decode b_T_requireEvenWays 40 = .ok (.ifCond .eq 22, 3) := by decide +kernel
theorem d_T_requireEvenWays_43 : decode b_T_requireEvenWays 43 = .ok (.aload_n 0, 1) := by decide +kernel
theorem d_T_requireEvenWays_44 : decode b_T_requireEvenWays 44 = .ok (.iload_n 1, 1) := by decide +kernel
theorem d_T_requireEvenWays_45 : decode b_T_requireEvenWays 45 = .ok (.aload_n 3, 1) := by decide +kernel
theorem d_T_requireEvenWays_46 : decode b_T_requireEvenWays 46 = .ok (.invokevirtual 210, 3) := by decide +kernel
theorem d_T_requireEvenWays_49 : decode b_T_requireEvenWays 49 = .ok (.iconst 1, 1) := by decide +kernel
theorem d_T_requireEvenWays_50 : decode b_T_requireEvenWays 50 = .ok (.iand, 1) := by decide +kernel
theorem d_T_requireEvenWays_51 : decode b_T_requireEvenWays 51 = .ok (.ifCond .eq 11, 3) := by decide +kernel
theorem d_T_requireEvenWays_54 : decode b_T_requireEvenWays 54 = .ok (.new 48, 3) := by decide +kernel
theorem d_T_requireEvenWays_57 : decode b_T_requireEvenWays 57 = .ok (.dup, 1) := by decide +kernel
theorem d_T_requireEvenWays_58 : decode b_T_requireEvenWays 58 = .ok (.invokespecial 50, 3) := by decide +kernel
theorem d_T_requireEvenWays_61 : decode b_T_requireEvenWays 61 = .ok (.athrow, 1) := by decide +kernel
theorem d_T_requireEvenWays_62 : decode b_T_requireEvenWays 62 = .ok (.iinc 2 1, 3) := by decide +kernel
theorem d_T_requireEvenWays_65 : decode b_T_requireEvenWays 65 = .ok (.goto (-56), 3) := by decide +kernel
theorem d_T_requireEvenWays_68 : decode b_T_requireEvenWays 68 = .ok (.iinc 1 1, 3) := by decide +kernel
theorem d_T_requireEvenWays_71 : decode b_T_requireEvenWays 71 = .ok (.goto (-69), 3) := by decide +kernel
theorem d_T_requireEvenWays_74 : decode b_T_requireEvenWays 74 = .ok (.return_, 1) := by decide +kernel
abbrev b_T_requireImage : ByteArray := prog_1_method_15_code
abbrev y_T_requireImage : MethodName := ⟨"TwoPass", "requireImage", "()V"⟩
theorem kc_T_requireImage : (.code y_T_requireImage b_T_requireImage 1 none : Cond) ∈ tp_G := tp_Gm 784 (by decide +kernel) (by decide +kernel)
def w_T_requireImage : List Cond := .code y_T_requireImage b_T_requireImage 1 none :: tp_G
theorem km_T_requireImage : (.instanceMethod y_T_requireImage : Cond) ∈ tp_G := tp_Gm 783 (by decide +kernel) (by decide +kernel)
theorem kp_T_requireImage : (.selects "TwoPass" y_T_requireImage y_T_requireImage : Cond) ∈ tp_G := List.mem_filter.mpr ⟨by decide +kernel, by decide +kernel⟩
theorem d_T_requireImage_0 : decode b_T_requireImage 0 = .ok (.aload_n 0, 1) := by decide +kernel
theorem d_T_requireImage_1 : decode b_T_requireImage 1 = .ok (.getfield 30, 3) := by decide +kernel
theorem d_T_requireImage_4 : decode b_T_requireImage 4 = .ok (.ifCond .ne 11, 3) := by decide +kernel
theorem d_T_requireImage_7 : decode b_T_requireImage 7 = .ok (.new 48, 3) := by decide +kernel
theorem d_T_requireImage_10 : decode b_T_requireImage 10 = .ok (.dup, 1) := by decide +kernel
theorem d_T_requireImage_11 : decode b_T_requireImage 11 = .ok (.invokespecial 50, 3) := by decide +kernel
theorem d_T_requireImage_14 : decode b_T_requireImage 14 = .ok (.athrow, 1) := by decide +kernel
theorem d_T_requireImage_15 : decode b_T_requireImage 15 = .ok (.return_, 1) := by decide +kernel
abbrev b_T_requireModule : ByteArray := prog_1_method_14_code
abbrev y_T_requireModule : MethodName := ⟨"TwoPass", "requireModule", "(I)V"⟩
theorem kc_T_requireModule : (.code y_T_requireModule b_T_requireModule 1 none : Cond) ∈ tp_G := tp_Gm 333 (by decide +kernel) (by decide +kernel)
def w_T_requireModule : List Cond := .code y_T_requireModule b_T_requireModule 1 none :: tp_G
theorem ks_T_requireModule : (.static y_T_requireModule : Cond) ∈ tp_G := tp_Gm 332 (by decide +kernel) (by decide +kernel)
theorem d_T_requireModule_0 : decode b_T_requireModule 0 = .ok (.iload_n 0, 1) := by decide +kernel
theorem d_T_requireModule_1 : decode b_T_requireModule 1 = .ok (.invokestatic 127, 3) := by decide +kernel
theorem d_T_requireModule_4 : decode b_T_requireModule 4 = .ok (.ifCond .ne 11, 3) := by decide +kernel
theorem d_T_requireModule_7 : decode b_T_requireModule 7 = .ok (.new 38, 3) := by decide +kernel
theorem d_T_requireModule_10 : decode b_T_requireModule 10 = .ok (.dup, 1) := by decide +kernel
theorem d_T_requireModule_11 : decode b_T_requireModule 11 = .ok (.invokespecial 40, 3) := by decide +kernel
theorem d_T_requireModule_14 : decode b_T_requireModule 14 = .ok (.athrow, 1) := by decide +kernel
theorem d_T_requireModule_15 : decode b_T_requireModule 15 = .ok (.return_, 1) := by decide +kernel
abbrev b_T_requireNames : ByteArray := prog_1_method_16_code
abbrev y_T_requireNames : MethodName := ⟨"TwoPass", "requireNames", "()V"⟩
theorem kc_T_requireNames : (.code y_T_requireNames b_T_requireNames 3 none : Cond) ∈ tp_G := tp_Gm 640 (by decide +kernel) (by decide +kernel)
def w_T_requireNames : List Cond := .code y_T_requireNames b_T_requireNames 3 none :: tp_G
theorem km_T_requireNames : (.instanceMethod y_T_requireNames : Cond) ∈ tp_G := tp_Gm 639 (by decide +kernel) (by decide +kernel)
theorem kp_T_requireNames : (.selects "TwoPass" y_T_requireNames y_T_requireNames : Cond) ∈ tp_G := List.mem_filter.mpr ⟨by decide +kernel, by decide +kernel⟩
theorem d_T_requireNames_0 : decode b_T_requireNames 0 = .ok (.iconst 0, 1) := by decide +kernel
theorem d_T_requireNames_1 : decode b_T_requireNames 1 = .ok (.istore_n 1, 1) := by decide +kernel
theorem d_T_requireNames_2 : decode b_T_requireNames 2 = .ok (.iload_n 1, 1) := by decide +kernel
theorem d_T_requireNames_3 : decode b_T_requireNames 3 = .ok (.iconst 2, 1) := by decide +kernel
theorem d_T_requireNames_4 : decode b_T_requireNames 4 = .ok (.if_icmp .ge 45, 3) := by decide +kernel
theorem d_T_requireNames_7 : decode b_T_requireNames 7 = .ok (.iconst 0, 1) := by decide +kernel
theorem d_T_requireNames_8 : decode b_T_requireNames 8 = .ok (.istore_n 2, 1) := by decide +kernel
theorem d_T_requireNames_9 : decode b_T_requireNames 9 = .ok (.iload_n 2, 1) := by decide +kernel
theorem d_T_requireNames_10 : decode b_T_requireNames 10 = .ok (.aload_n 0, 1) := by decide +kernel
theorem d_T_requireNames_11 : decode b_T_requireNames 11 = .ok (.getfield 19, 3) := by decide +kernel
theorem d_T_requireNames_14 : decode b_T_requireNames 14 = .ok (.iload_n 1, 1) := by decide +kernel
theorem d_T_requireNames_15 : decode b_T_requireNames 15 = .ok (.aaload, 1) := by decide +kernel
theorem d_T_requireNames_16 : decode b_T_requireNames 16 = .ok (.invokevirtual 66, 3) := by decide +kernel
theorem d_T_requireNames_19 : decode b_T_requireNames 19 = .ok (.if_icmp .ge 24, 3) := by decide +kernel
theorem d_T_requireNames_22 : decode b_T_requireNames 22 = .ok (.aload_n 0, 1) := by decide +kernel
theorem d_T_requireNames_23 : decode b_T_requireNames 23 = .ok (.iload_n 1, 1) := by decide +kernel
theorem d_T_requireNames_24 : decode b_T_requireNames 24 = .ok (.aload_n 0, 1) := by decide +kernel
theorem d_T_requireNames_25 : decode b_T_requireNames 25 = .ok (.getfield 19, 3) := by decide +kernel
theorem d_T_requireNames_28 : decode b_T_requireNames 28 = .ok (.iload_n 1, 1) := by decide +kernel
theorem d_T_requireNames_29 : decode b_T_requireNames 29 = .ok (.aaload, 1) := by decide +kernel
theorem d_T_requireNames_30 : decode b_T_requireNames 30 = .ok (.iload_n 2, 1) := by decide +kernel
theorem d_T_requireNames_31 : decode b_T_requireNames 31 = .ok (.invokevirtual 108, 3) := by decide +kernel
theorem d_T_requireNames_34 : decode b_T_requireNames 34 = .ok (.invokevirtual 174, 3) := by decide +kernel
theorem d_T_requireNames_37 : decode b_T_requireNames 37 = .ok (.iinc 2 1, 3) := by decide +kernel
theorem d_T_requireNames_40 : decode b_T_requireNames 40 = .ok (.goto (-31), 3) := by decide +kernel
theorem d_T_requireNames_43 : decode b_T_requireNames 43 = .ok (.iinc 1 1, 3) := by decide +kernel
theorem d_T_requireNames_46 : decode b_T_requireNames 46 = .ok (.goto (-44), 3) := by decide +kernel
theorem d_T_requireNames_49 : decode b_T_requireNames 49 = .ok (.return_, 1) := by decide +kernel
abbrev b_S_count : ByteArray := prog_5_method_2_code
abbrev y_S_count : MethodName := ⟨"TwoPass$Source", "count", "()I"⟩
theorem kc_S_count : (.code y_S_count b_S_count 1 (some .int) : Cond) ∈ tp_G := tp_Gm 532 (by decide +kernel) (by decide +kernel)
def w_S_count : List Cond := .code y_S_count b_S_count 1 (some .int) :: tp_G
theorem km_S_count : (.instanceMethod y_S_count : Cond) ∈ tp_G := tp_Gm 530 (by decide +kernel) (by decide +kernel)
theorem kv_S_S_count : (.selects "TwoPass$Source" y_S_count y_S_count : Cond) ∈ tp_G := tp_Gm 531 (by decide +kernel) (by decide +kernel)
theorem d_S_count_0 : decode b_S_count 0 = .ok (.aload_n 0, 1) := by decide +kernel
theorem d_S_count_1 : decode b_S_count 1 = .ok (.getfield 12, 3) := by decide +kernel
theorem d_S_count_4 : decode b_S_count 4 = .ok (.invokevirtual 18, 3) := by decide +kernel
theorem d_S_count_7 : decode b_S_count 7 = .ok (.ireturn, 1) := by decide +kernel
abbrev b_M_clear : ByteArray := prog_8_method_25_code
abbrev y_M_clear : MethodName := ⟨"TwoPassModel", "clear", "(I)V"⟩
theorem kc_M_clear : (.code y_M_clear b_M_clear 2 none : Cond) ∈ tp_G := tp_Gm 1458 (by decide +kernel) (by decide +kernel)
def w_M_clear : List Cond := .code y_M_clear b_M_clear 2 none :: tp_G
theorem km_M_clear : (.instanceMethod y_M_clear : Cond) ∈ tp_G := tp_Gm 1456 (by decide +kernel) (by decide +kernel)
theorem kv_M_M_clear : (.selects "TwoPassModel" y_M_clear y_M_clear : Cond) ∈ tp_G := tp_Gm 1457 (by decide +kernel) (by decide +kernel)
theorem d_M_clear_0 : decode b_M_clear 0 = .ok (.aload_n 0, 1) := by decide +kernel
theorem d_M_clear_1 : decode b_M_clear 1 = .ok (.iload_n 1, 1) := by decide +kernel
theorem d_M_clear_2 : decode b_M_clear 2 = .ok (.iconst 2, 1) := by decide +kernel
theorem d_M_clear_3 : decode b_M_clear 3 = .ok (.invokestatic 350, 3) := by decide +kernel
theorem d_M_clear_6 : decode b_M_clear 6 = .ok (.ifCond .eq 7, 3) := by decide +kernel
theorem d_M_clear_9 : decode b_M_clear 9 = .ok (.iconst 1, 1) := by decide +kernel
theorem d_M_clear_10 : decode b_M_clear 10 = .ok (.goto 4, 3) := by decide +kernel
theorem d_M_clear_13 : decode b_M_clear 13 = .ok (.iconst 0, 1) := by decide +kernel
theorem d_M_clear_14 : decode b_M_clear 14 = .ok (.putfield 208, 3) := by decide +kernel
theorem d_M_clear_17 : decode b_M_clear 17 = .ok (.aload_n 0, 1) := by decide +kernel
theorem d_M_clear_18 : decode b_M_clear 18 = .ok (.getfield 208, 3) := by decide +kernel
theorem d_M_clear_21 : decode b_M_clear 21 = .ok (.ifCond .le 4, 3) := by decide +kernel
theorem d_M_clear_24 : decode b_M_clear 24 = .ok (.return_, 1) := by decide +kernel
theorem d_M_clear_25 : decode b_M_clear 25 = .ok (.aload_n 0, 1) := by decide +kernel
theorem d_M_clear_26 : decode b_M_clear 26 = .ok (.getfield 23, 3) := by decide +kernel
theorem d_M_clear_29 : decode b_M_clear 29 = .ok (.iload_n 1, 1) := by decide +kernel
theorem d_M_clear_30 : decode b_M_clear 30 = .ok (.iconst 0, 1) := by decide +kernel
theorem d_M_clear_31 : decode b_M_clear 31 = .ok (.iastore, 1) := by decide +kernel
theorem d_M_clear_32 : decode b_M_clear 32 = .ok (.aload_n 0, 1) := by decide +kernel
theorem d_M_clear_33 : decode b_M_clear 33 = .ok (.iconst (-1), 1) := by decide +kernel
theorem d_M_clear_34 : decode b_M_clear 34 = .ok (.putfield 60, 3) := by decide +kernel
theorem d_M_clear_37 : decode b_M_clear 37 = .ok (.return_, 1) := by decide +kernel
abbrev b_M_far : ByteArray := prog_8_method_41_code
abbrev y_M_far : MethodName := ⟨"TwoPassModel", "far", "()I"⟩
theorem kc_M_far : (.code y_M_far b_M_far 1 (some .int) : Cond) ∈ tp_G := tp_Gm 1519 (by decide +kernel) (by decide +kernel)
def w_M_far : List Cond := .code y_M_far b_M_far 1 (some .int) :: tp_G
theorem km_M_far : (.instanceMethod y_M_far : Cond) ∈ tp_G := tp_Gm 1517 (by decide +kernel) (by decide +kernel)
theorem kv_M_M_far : (.selects "TwoPassModel" y_M_far y_M_far : Cond) ∈ tp_G := tp_Gm 1518 (by decide +kernel) (by decide +kernel)
theorem d_M_far_0 : decode b_M_far 0 = .ok (.aload_n 0, 1) := by decide +kernel
theorem d_M_far_1 : decode b_M_far 1 = .ok (.aload_n 0, 1) := by decide +kernel
theorem d_M_far_2 : decode b_M_far 2 = .ok (.getfield 60, 3) := by decide +kernel
theorem d_M_far_5 : decode b_M_far 5 = .ok (.ifCond .ge 7, 3) := by decide +kernel
theorem d_M_far_8 : decode b_M_far 8 = .ok (.iconst 1, 1) := by decide +kernel
theorem d_M_far_9 : decode b_M_far 9 = .ok (.goto 4, 3) := by decide +kernel
theorem d_M_far_12 : decode b_M_far 12 = .ok (.iconst 0, 1) := by decide +kernel
theorem d_M_far_13 : decode b_M_far 13 = .ok (.putfield 208, 3) := by decide +kernel
theorem d_M_far_16 : decode b_M_far 16 = .ok (.aload_n 0, 1) := by decide +kernel
theorem d_M_far_17 : decode b_M_far 17 = .ok (.getfield 208, 3) := by decide +kernel
theorem d_M_far_20 : decode b_M_far 20 = .ok (.ifCond .le 7, 3) := by decide +kernel
theorem d_M_far_23 : decode b_M_far 23 = .ok (.iconst 0, 1) := by decide +kernel
theorem d_M_far_24 : decode b_M_far 24 = .ok (.goto 7, 3) := by decide +kernel
theorem d_M_far_27 : decode b_M_far 27 = .ok (.aload_n 0, 1) := by decide +kernel
theorem d_M_far_28 : decode b_M_far 28 = .ok (.getfield 371, 3) := by decide +kernel
theorem d_M_far_31 : decode b_M_far 31 = .ok (.ireturn, 1) := by decide +kernel
abbrev b_M_image : ByteArray := prog_8_method_42_code
abbrev y_M_image : MethodName := ⟨"TwoPassModel", "image", "(I)I"⟩
theorem kc_M_image : (.code y_M_image b_M_image 2 (some .int) : Cond) ∈ tp_G := tp_Gm 1523 (by decide +kernel) (by decide +kernel)
def w_M_image : List Cond := .code y_M_image b_M_image 2 (some .int) :: tp_G
theorem km_M_image : (.instanceMethod y_M_image : Cond) ∈ tp_G := tp_Gm 1521 (by decide +kernel) (by decide +kernel)
theorem kv_M_M_image : (.selects "TwoPassModel" y_M_image y_M_image : Cond) ∈ tp_G := tp_Gm 1522 (by decide +kernel) (by decide +kernel)
theorem d_M_image_0 : decode b_M_image 0 = .ok (.aload_n 0, 1) := by decide +kernel
theorem d_M_image_1 : decode b_M_image 1 = .ok (.aload_n 0, 1) := by decide +kernel
theorem d_M_image_2 : decode b_M_image 2 = .ok (.getfield 60, 3) := by decide +kernel
theorem d_M_image_5 : decode b_M_image 5 = .ok (.ifCond .ge 7, 3) := by decide +kernel
theorem d_M_image_8 : decode b_M_image 8 = .ok (.iconst 1, 1) := by decide +kernel
theorem d_M_image_9 : decode b_M_image 9 = .ok (.goto 19, 3) := by decide +kernel
theorem d_M_image_12 : decode b_M_image 12 = .ok (.iload_n 1, 1) := by decide +kernel
theorem d_M_image_13 : decode b_M_image 13 = .ok (.aload_n 0, 1) := by decide +kernel
theorem d_M_image_14 : decode b_M_image 14 = .ok (.getfield 60, 3) := by decide +kernel
theorem d_M_image_17 : decode b_M_image 17 = .ok (.invokestatic 350, 3) := by decide +kernel
theorem d_M_image_20 : decode b_M_image 20 = .ok (.ifCond .eq 7, 3) := by decide +kernel
theorem d_M_image_23 : decode b_M_image 23 = .ok (.iconst 2, 1) := by decide +kernel
theorem d_M_image_24 : decode b_M_image 24 = .ok (.goto 4, 3) := by decide +kernel
theorem d_M_image_27 : decode b_M_image 27 = .ok (.iconst 0, 1) := by decide +kernel
theorem d_M_image_28 : decode b_M_image 28 = .ok (.putfield 208, 3) := by decide +kernel
theorem d_M_image_31 : decode b_M_image 31 = .ok (.aload_n 0, 1) := by decide +kernel
theorem d_M_image_32 : decode b_M_image 32 = .ok (.getfield 208, 3) := by decide +kernel
theorem d_M_image_35 : decode b_M_image 35 = .ok (.ifCond .le 7, 3) := by decide +kernel
theorem d_M_image_38 : decode b_M_image 38 = .ok (.iconst 0, 1) := by decide +kernel
theorem d_M_image_39 : decode b_M_image 39 = .ok (.goto 9, 3) := by decide +kernel
theorem d_M_image_42 : decode b_M_image 42 = .ok (.aload_n 0, 1) := by decide +kernel
theorem d_M_image_43 : decode b_M_image 43 = .ok (.getfield 64, 3) := by decide +kernel
theorem d_M_image_46 : decode b_M_image 46 = .ok (.iload_n 1, 1) := by decide +kernel
theorem d_M_image_47 : decode b_M_image 47 = .ok (.iaload, 1) := by decide +kernel
theorem d_M_image_48 : decode b_M_image 48 = .ok (.ireturn, 1) := by decide +kernel
abbrev b_M_letter : ByteArray := prog_8_method_51_code
abbrev y_M_letter : MethodName := ⟨"TwoPassModel", "letter", "(I)I"⟩
theorem kc_M_letter : (.code y_M_letter b_M_letter 2 (some .int) : Cond) ∈ tp_G := tp_Gm 1560 (by decide +kernel) (by decide +kernel)
def w_M_letter : List Cond := .code y_M_letter b_M_letter 2 (some .int) :: tp_G
theorem km_M_letter : (.instanceMethod y_M_letter : Cond) ∈ tp_G := tp_Gm 1558 (by decide +kernel) (by decide +kernel)
theorem kv_M_M_letter : (.selects "TwoPassModel" y_M_letter y_M_letter : Cond) ∈ tp_G := tp_Gm 1559 (by decide +kernel) (by decide +kernel)
theorem d_M_letter_0 : decode b_M_letter 0 = .ok (.aload_n 0, 1) := by decide +kernel
theorem d_M_letter_1 : decode b_M_letter 1 = .ok (.iload_n 1, 1) := by decide +kernel
theorem d_M_letter_2 : decode b_M_letter 2 = .ok (.aload_n 0, 1) := by decide +kernel
theorem d_M_letter_3 : decode b_M_letter 3 = .ok (.getfield 411, 3) := by decide +kernel
theorem d_M_letter_6 : decode b_M_letter 6 = .ok (.invokestatic 350, 3) := by decide +kernel
theorem d_M_letter_9 : decode b_M_letter 9 = .ok (.ifCond .eq 7, 3) := by decide +kernel
theorem d_M_letter_12 : decode b_M_letter 12 = .ok (.iconst 1, 1) := by decide +kernel
theorem d_M_letter_13 : decode b_M_letter 13 = .ok (.goto 4, 3) := by decide +kernel
theorem d_M_letter_16 : decode b_M_letter 16 = .ok (.iconst 0, 1) := by decide +kernel
theorem d_M_letter_17 : decode b_M_letter 17 = .ok (.putfield 208, 3) := by decide +kernel
theorem d_M_letter_20 : decode b_M_letter 20 = .ok (.aload_n 0, 1) := by decide +kernel
theorem d_M_letter_21 : decode b_M_letter 21 = .ok (.getfield 208, 3) := by decide +kernel
theorem d_M_letter_24 : decode b_M_letter 24 = .ok (.ifCond .le 7, 3) := by decide +kernel
theorem d_M_letter_27 : decode b_M_letter 27 = .ok (.iconst 0, 1) := by decide +kernel
theorem d_M_letter_28 : decode b_M_letter 28 = .ok (.goto 9, 3) := by decide +kernel
theorem d_M_letter_31 : decode b_M_letter 31 = .ok (.aload_n 0, 1) := by decide +kernel
theorem d_M_letter_32 : decode b_M_letter 32 = .ok (.getfield 67, 3) := by decide +kernel
theorem d_M_letter_35 : decode b_M_letter 35 = .ok (.iload_n 1, 1) := by decide +kernel
theorem d_M_letter_36 : decode b_M_letter 36 = .ok (.iaload, 1) := by decide +kernel
theorem d_M_letter_37 : decode b_M_letter 37 = .ok (.ireturn, 1) := by decide +kernel
abbrev b_M_lines : ByteArray := prog_8_method_44_code
abbrev y_M_lines : MethodName := ⟨"TwoPassModel", "lines", "(I)I"⟩
theorem kc_M_lines : (.code y_M_lines b_M_lines 2 (some .int) : Cond) ∈ tp_G := tp_Gm 1531 (by decide +kernel) (by decide +kernel)
def w_M_lines : List Cond := .code y_M_lines b_M_lines 2 (some .int) :: tp_G
theorem km_M_lines : (.instanceMethod y_M_lines : Cond) ∈ tp_G := tp_Gm 1529 (by decide +kernel) (by decide +kernel)
theorem kv_M_M_lines : (.selects "TwoPassModel" y_M_lines y_M_lines : Cond) ∈ tp_G := tp_Gm 1530 (by decide +kernel) (by decide +kernel)
theorem d_M_lines_0 : decode b_M_lines 0 = .ok (.aload_n 0, 1) := by decide +kernel
theorem d_M_lines_1 : decode b_M_lines 1 = .ok (.iload_n 1, 1) := by decide +kernel
theorem d_M_lines_2 : decode b_M_lines 2 = .ok (.iconst 2, 1) := by decide +kernel
theorem d_M_lines_3 : decode b_M_lines 3 = .ok (.invokestatic 350, 3) := by decide +kernel
theorem d_M_lines_6 : decode b_M_lines 6 = .ok (.ifCond .eq 7, 3) := by decide +kernel
theorem d_M_lines_9 : decode b_M_lines 9 = .ok (.iconst 1, 1) := by decide +kernel
theorem d_M_lines_10 : decode b_M_lines 10 = .ok (.goto 4, 3) := by decide +kernel
theorem d_M_lines_13 : decode b_M_lines 13 = .ok (.iconst 0, 1) := by decide +kernel
theorem d_M_lines_14 : decode b_M_lines 14 = .ok (.putfield 208, 3) := by decide +kernel
theorem d_M_lines_17 : decode b_M_lines 17 = .ok (.aload_n 0, 1) := by decide +kernel
theorem d_M_lines_18 : decode b_M_lines 18 = .ok (.getfield 208, 3) := by decide +kernel
theorem d_M_lines_21 : decode b_M_lines 21 = .ok (.ifCond .le 7, 3) := by decide +kernel
theorem d_M_lines_24 : decode b_M_lines 24 = .ok (.iconst 0, 1) := by decide +kernel
theorem d_M_lines_25 : decode b_M_lines 25 = .ok (.goto 9, 3) := by decide +kernel
theorem d_M_lines_28 : decode b_M_lines 28 = .ok (.aload_n 0, 1) := by decide +kernel
theorem d_M_lines_29 : decode b_M_lines 29 = .ok (.getfield 23, 3) := by decide +kernel
theorem d_M_lines_32 : decode b_M_lines 32 = .ok (.iload_n 1, 1) := by decide +kernel
theorem d_M_lines_33 : decode b_M_lines 33 = .ok (.iaload, 1) := by decide +kernel
theorem d_M_lines_34 : decode b_M_lines 34 = .ok (.ireturn, 1) := by decide +kernel
abbrev b_M_out : ByteArray := prog_8_method_3_code
abbrev y_M_out : MethodName := ⟨"TwoPassModel", "out", "(II)Z"⟩
theorem kc_M_out : (.code y_M_out b_M_out 2 (some .boolean) : Cond) ∈ tp_G := tp_Gm 1450 (by decide +kernel) (by decide +kernel)
def w_M_out : List Cond := .code y_M_out b_M_out 2 (some .boolean) :: tp_G
theorem ks_M_out : (.static y_M_out : Cond) ∈ tp_G := tp_Gm 1449 (by decide +kernel) (by decide +kernel)
theorem d_M_out_0 : decode b_M_out 0 = .ok (.iload_n 0, 1) := by decide +kernel
theorem d_M_out_1 : decode b_M_out 1 = .ok (.ifCond .lt 8, 3) := by decide +kernel
theorem d_M_out_4 : decode b_M_out 4 = .ok (.iload_n 0, 1) := by decide +kernel
theorem d_M_out_5 : decode b_M_out 5 = .ok (.iload_n 1, 1) := by decide +kernel
theorem d_M_out_6 : decode b_M_out 6 = .ok (.if_icmp .lt 7, 3) := by decide +kernel
theorem d_M_out_9 : decode b_M_out 9 = .ok (.iconst 1, 1) := by decide +kernel
theorem d_M_out_10 : decode b_M_out 10 = .ok (.goto 4, 3) := by decide +kernel
theorem d_M_out_13 : decode b_M_out 13 = .ok (.iconst 0, 1) := by decide +kernel
theorem d_M_out_14 : decode b_M_out 14 = .ok (.ireturn, 1) := by decide +kernel
abbrev b_M_place : ByteArray := prog_8_method_43_code
abbrev y_M_place : MethodName := ⟨"TwoPassModel", "place", "(II)I"⟩
theorem kc_M_place : (.code y_M_place b_M_place 3 (some .int) : Cond) ∈ tp_G := tp_Gm 1527 (by decide +kernel) (by decide +kernel)
def w_M_place : List Cond := .code y_M_place b_M_place 3 (some .int) :: tp_G
theorem km_M_place : (.instanceMethod y_M_place : Cond) ∈ tp_G := tp_Gm 1525 (by decide +kernel) (by decide +kernel)
theorem kv_M_M_place : (.selects "TwoPassModel" y_M_place y_M_place : Cond) ∈ tp_G := tp_Gm 1526 (by decide +kernel) (by decide +kernel)
theorem d_M_place_0 : decode b_M_place 0 = .ok (.aload_n 0, 1) := by decide +kernel
theorem d_M_place_1 : decode b_M_place 1 = .ok (.aload_n 0, 1) := by decide +kernel
theorem d_M_place_2 : decode b_M_place 2 = .ok (.getfield 60, 3) := by decide +kernel
theorem d_M_place_5 : decode b_M_place 5 = .ok (.ifCond .ge 7, 3) := by decide +kernel
theorem d_M_place_8 : decode b_M_place 8 = .ok (.iconst 1, 1) := by decide +kernel
theorem d_M_place_9 : decode b_M_place 9 = .ok (.goto 29, 3) := by decide +kernel
theorem d_M_place_12 : decode b_M_place 12 = .ok (.iload_n 1, 1) := by decide +kernel
theorem d_M_place_13 : decode b_M_place 13 = .ok (.iconst 2, 1) := by decide +kernel
theorem d_M_place_14 : decode b_M_place 14 = .ok (.invokestatic 350, 3) := by decide +kernel
theorem d_M_place_17 : decode b_M_place 17 = .ok (.ifCond .ne 16, 3) := by decide +kernel
theorem d_M_place_20 : decode b_M_place 20 = .ok (.iload_n 2, 1) := by decide +kernel
theorem d_M_place_21 : decode b_M_place 21 = .ok (.aload_n 0, 1) := by decide +kernel
theorem d_M_place_22 : decode b_M_place 22 = .ok (.getfield 23, 3) := by decide +kernel
theorem d_M_place_25 : decode b_M_place 25 = .ok (.iload_n 1, 1) := by decide +kernel
theorem d_M_place_26 : decode b_M_place 26 = .ok (.iaload, 1) := by decide +kernel
theorem d_M_place_27 : decode b_M_place 27 = .ok (.invokestatic 350, 3) := by decide +kernel
theorem d_M_place_30 : decode b_M_place 30 = .ok (.ifCond .eq 7, 3) := by decide +kernel
theorem d_M_place_33 : decode b_M_place 33 = .ok (.iconst 2, 1) := by decide +kernel
theorem d_M_place_34 : decode b_M_place 34 = .ok (.goto 4, 3) := by decide +kernel
theorem d_M_place_37 : decode b_M_place 37 = .ok (.iconst 0, 1) := by decide +kernel
theorem d_M_place_38 : decode b_M_place 38 = .ok (.putfield 208, 3) := by decide +kernel
theorem d_M_place_41 : decode b_M_place 41 = .ok (.aload_n 0, 1) := by decide +kernel
theorem d_M_place_42 : decode b_M_place 42 = .ok (.getfield 208, 3) := by decide +kernel
theorem d_M_place_45 : decode b_M_place 45 = .ok (.ifCond .le 7, 3) := by decide +kernel
theorem d_M_place_48 : decode b_M_place 48 = .ok (.iconst 0, 1) := by decide +kernel
theorem d_M_place_49 : decode b_M_place 49 = .ok (.goto 14, 3) := by decide +kernel
theorem d_M_place_52 : decode b_M_place 52 = .ok (.aload_n 0, 1) := by decide +kernel
theorem d_M_place_53 : decode b_M_place 53 = .ok (.getfield 53, 3) := by decide +kernel
theorem d_M_place_56 : decode b_M_place 56 = .ok (.bipush 16, 2) := by decide +kernel
theorem d_M_place_58 : decode b_M_place 58 = .ok (.iload_n 1, 1) := by decide +kernel
theorem d_M_place_59 : decode b_M_place 59 = .ok (.imul, 1) := by decide +kernel
theorem d_M_place_60 : decode b_M_place 60 = .ok (.iload_n 2, 1) := by decide +kernel
theorem d_M_place_61 : decode b_M_place 61 = .ok (.iadd, 1) := by decide +kernel
theorem d_M_place_62 : decode b_M_place 62 = .ok (.iaload, 1) := by decide +kernel
theorem d_M_place_63 : decode b_M_place 63 = .ok (.ireturn, 1) := by decide +kernel
abbrev b_M_thrown : ByteArray := prog_8_method_2_code
abbrev y_M_thrown : MethodName := ⟨"TwoPassModel", "thrown", "()I"⟩
theorem kc_M_thrown : (.code y_M_thrown b_M_thrown 1 (some .int) : Cond) ∈ tp_G := tp_Gm 1348 (by decide +kernel) (by decide +kernel)
def w_M_thrown : List Cond := .code y_M_thrown b_M_thrown 1 (some .int) :: tp_G
theorem km_M_thrown : (.instanceMethod y_M_thrown : Cond) ∈ tp_G := tp_Gm 1346 (by decide +kernel) (by decide +kernel)
theorem kv_M_M_thrown : (.selects "TwoPassModel" y_M_thrown y_M_thrown : Cond) ∈ tp_G := tp_Gm 1347 (by decide +kernel) (by decide +kernel)
theorem d_M_thrown_0 : decode b_M_thrown 0 = .ok (.aload_n 0, 1) := by decide +kernel
theorem d_M_thrown_1 : decode b_M_thrown 1 = .ok (.getfield 208, 3) := by decide +kernel
theorem d_M_thrown_4 : decode b_M_thrown 4 = .ok (.ireturn, 1) := by decide +kernel
abbrev b_AS_length : ByteArray := prog_10_method_6_code
abbrev y_AS_length : MethodName := ⟨"java/lang/AbstractStringBuilder", "length", "()I"⟩
theorem kc_AS_length : (.code y_AS_length b_AS_length 1 (some .int) : Cond) ∈ tp_G := tp_Gm 977 (by decide +kernel) (by decide +kernel)
def w_AS_length : List Cond := .code y_AS_length b_AS_length 1 (some .int) :: tp_G
theorem km_AS_length : (.instanceMethod y_AS_length : Cond) ∈ tp_G := tp_Gm 971 (by decide +kernel) (by decide +kernel)
theorem d_AS_length_0 : decode b_AS_length 0 = .ok (.aload_n 0, 1) := by decide +kernel
theorem d_AS_length_1 : decode b_AS_length 1 = .ok (.getfield 79, 3) := by decide +kernel
theorem d_AS_length_4 : decode b_AS_length 4 = .ok (.ireturn, 1) := by decide +kernel
abbrev b_SB_length : ByteArray := prog_23_method_93_code
abbrev y_SB_length : MethodName := ⟨"java/lang/StringBuilder", "length", "()I"⟩
theorem kc_SB_length : (.code y_SB_length b_SB_length 1 (some .int) : Cond) ∈ tp_G := tp_Gm 975 (by decide +kernel) (by decide +kernel)
def w_SB_length : List Cond := .code y_SB_length b_SB_length 1 (some .int) :: tp_G
theorem km_SB_length : (.instanceMethod y_SB_length : Cond) ∈ tp_G := tp_Gm 974 (by decide +kernel) (by decide +kernel)
theorem kv_SB_SB_length : (.selects "java/lang/StringBuilder" y_SB_length y_SB_length : Cond) ∈ tp_G := tp_Gm 1573 (by decide +kernel) (by decide +kernel)
theorem d_SB_length_0 : decode b_SB_length 0 = .ok (.aload_n 0, 1) := by decide +kernel
theorem d_SB_length_1 : decode b_SB_length 1 = .ok (.invokespecial 343, 3) := by decide +kernel
theorem d_SB_length_4 : decode b_SB_length 4 = .ok (.ireturn, 1) := by decide +kernel
abbrev b_AL_clear : ByteArray := prog_32_method_40_code
abbrev y_AL_clear : MethodName := ⟨"java/util/ArrayList", "clear", "()V"⟩
theorem kc_AL_clear : (.code y_AL_clear b_AL_clear 4 none : Cond) ∈ tp_G := tp_Gm 627 (by decide +kernel) (by decide +kernel)
def w_AL_clear : List Cond := .code y_AL_clear b_AL_clear 4 none :: tp_G
theorem km_AL_clear : (.instanceMethod y_AL_clear : Cond) ∈ tp_G := tp_Gm 625 (by decide +kernel) (by decide +kernel)
theorem kv_AL_AL_clear : (.selects "java/util/ArrayList" y_AL_clear y_AL_clear : Cond) ∈ tp_G := tp_Gm 626 (by decide +kernel) (by decide +kernel)
theorem d_AL_clear_0 : decode b_AL_clear 0 = .ok (.aload_n 0, 1) := by decide +kernel
theorem d_AL_clear_1 : decode b_AL_clear 1 = .ok (.dup, 1) := by decide +kernel
theorem d_AL_clear_2 : decode b_AL_clear 2 = .ok (.getfield 63, 3) := by decide +kernel
theorem d_AL_clear_5 : decode b_AL_clear 5 = .ok (.iconst 1, 1) := by decide +kernel
theorem d_AL_clear_6 : decode b_AL_clear 6 = .ok (.iadd, 1) := by decide +kernel
theorem d_AL_clear_7 : decode b_AL_clear 7 = .ok (.putfield 63, 3) := by decide +kernel
theorem d_AL_clear_10 : decode b_AL_clear 10 = .ok (.aload_n 0, 1) := by decide +kernel
theorem d_AL_clear_11 : decode b_AL_clear 11 = .ok (.getfield 9, 3) := by decide +kernel
theorem d_AL_clear_14 : decode b_AL_clear 14 = .ok (.astore_n 1, 1) := by decide +kernel
theorem d_AL_clear_15 : decode b_AL_clear 15 = .ok (.aload_n 0, 1) := by decide +kernel
theorem d_AL_clear_16 : decode b_AL_clear 16 = .ok (.getfield 48, 3) := by decide +kernel
theorem d_AL_clear_19 : decode b_AL_clear 19 = .ok (.istore_n 2, 1) := by decide +kernel
theorem d_AL_clear_20 : decode b_AL_clear 20 = .ok (.aload_n 0, 1) := by decide +kernel
theorem d_AL_clear_21 : decode b_AL_clear 21 = .ok (.iconst 0, 1) := by decide +kernel
theorem d_AL_clear_22 : decode b_AL_clear 22 = .ok (.dup_x1, 1) := by decide +kernel
theorem d_AL_clear_23 : decode b_AL_clear 23 = .ok (.putfield 48, 3) := by decide +kernel
theorem d_AL_clear_26 : decode b_AL_clear 26 = .ok (.istore_n 3, 1) := by decide +kernel
theorem d_AL_clear_27 : decode b_AL_clear 27 = .ok (.iload_n 3, 1) := by decide +kernel
theorem d_AL_clear_28 : decode b_AL_clear 28 = .ok (.iload_n 2, 1) := by decide +kernel
theorem d_AL_clear_29 : decode b_AL_clear 29 = .ok (.if_icmp .ge 13, 3) := by decide +kernel
theorem d_AL_clear_32 : decode b_AL_clear 32 = .ok (.aload_n 1, 1) := by decide +kernel
theorem d_AL_clear_33 : decode b_AL_clear 33 = .ok (.iload_n 3, 1) := by decide +kernel
theorem d_AL_clear_34 : decode b_AL_clear 34 = .ok (.aconst_null, 1) := by decide +kernel
theorem d_AL_clear_35 : decode b_AL_clear 35 = .ok (.aastore, 1) := by decide +kernel
theorem d_AL_clear_36 : decode b_AL_clear 36 = .ok (.iinc 3 1, 3) := by decide +kernel
theorem d_AL_clear_39 : decode b_AL_clear 39 = .ok (.goto (-12), 3) := by decide +kernel
theorem d_AL_clear_42 : decode b_AL_clear 42 = .ok (.return_, 1) := by decide +kernel
abbrev b_AL_size : ByteArray := prog_32_method_8_code
abbrev y_AL_size : MethodName := ⟨"java/util/ArrayList", "size", "()I"⟩
theorem kc_AL_size : (.code y_AL_size b_AL_size 1 (some .int) : Cond) ∈ tp_G := tp_Gm 536 (by decide +kernel) (by decide +kernel)
def w_AL_size : List Cond := .code y_AL_size b_AL_size 1 (some .int) :: tp_G
theorem km_AL_size : (.instanceMethod y_AL_size : Cond) ∈ tp_G := tp_Gm 534 (by decide +kernel) (by decide +kernel)
theorem kv_AL_AL_size : (.selects "java/util/ArrayList" y_AL_size y_AL_size : Cond) ∈ tp_G := tp_Gm 535 (by decide +kernel) (by decide +kernel)
theorem d_AL_size_0 : decode b_AL_size 0 = .ok (.aload_n 0, 1) := by decide +kernel
theorem d_AL_size_1 : decode b_AL_size 1 = .ok (.getfield 48, 3) := by decide +kernel
theorem d_AL_size_4 : decode b_AL_size 4 = .ok (.ireturn, 1) := by decide +kernel
theorem kl_T_58 : (.methodLink "TwoPass" 58 y_T_requireModule : Cond) ∈ tp_G := tp_Gm 331 (by decide +kernel) (by decide +kernel)
theorem kl_T_19 : (.fieldLink "TwoPass" 19 "TwoPass" "sources" "[LTwoPass$Source;" : Cond) ∈ tp_G := tp_Gm 206 (by decide +kernel) (by decide +kernel)
theorem kl_T_78 : (.fieldLink "TwoPass" 78 "TwoPass$Source" "rows" "Ljava/util/ArrayList;" : Cond) ∈ tp_G := tp_Gm 168 (by decide +kernel) (by decide +kernel)
theorem kl_T_87 : (.methodLink "TwoPass" 87 y_AL_clear : Cond) ∈ tp_G := tp_Gm 624 (by decide +kernel) (by decide +kernel)
theorem kl_T_30 : (.fieldLink "TwoPass" 30 "TwoPass" "linked" "Z" : Cond) ∈ tp_G := tp_Gm 208 (by decide +kernel) (by decide +kernel)
theorem kl_T_66 : (.methodLink "TwoPass" 66 y_S_count : Cond) ∈ tp_G := tp_Gm 529 (by decide +kernel) (by decide +kernel)
abbrev b_S_row : ByteArray := prog_5_method_3_code
abbrev y_S_row : MethodName := ⟨"TwoPass$Source", "row", "(I)LTwoPass$Line;"⟩
theorem kc_S_row : (.code y_S_row b_S_row 2 (some (.object "TwoPass$Line")) : Cond) ∈ tp_G := tp_Gm 644 (by decide +kernel) (by decide +kernel)
def w_S_row : List Cond := .code y_S_row b_S_row 2 (some (.object "TwoPass$Line")) :: tp_G
theorem km_S_row : (.instanceMethod y_S_row : Cond) ∈ tp_G := tp_Gm 642 (by decide +kernel) (by decide +kernel)
theorem kv_S_S_row : (.selects "TwoPass$Source" y_S_row y_S_row : Cond) ∈ tp_G := tp_Gm 643 (by decide +kernel) (by decide +kernel)
theorem kl_T_108 : (.methodLink "TwoPass" 108 y_S_row : Cond) ∈ tp_G := tp_Gm 641 (by decide +kernel) (by decide +kernel)
theorem kl_T_178 : (.fieldLink "TwoPass" 178 "TwoPass$Line" "operation" "LTwoPass$Operation;" : Cond) ∈ tp_G := tp_Gm 356 (by decide +kernel) (by decide +kernel)
abbrev b_O_hasWay : ByteArray := prog_4_method_5_code
abbrev y_O_hasWay : MethodName := ⟨"TwoPass$Operation", "hasWay", "()Z"⟩
theorem kc_O_hasWay : (.code y_O_hasWay b_O_hasWay 1 (some .boolean) : Cond) ∈ tp_G := tp_Gm 732 (by decide +kernel) (by decide +kernel)
def w_O_hasWay : List Cond := .code y_O_hasWay b_O_hasWay 1 (some .boolean) :: tp_G
theorem km_O_hasWay : (.instanceMethod y_O_hasWay : Cond) ∈ tp_G := tp_Gm 730 (by decide +kernel) (by decide +kernel)
theorem kv_O_O_hasWay : (.selects "TwoPass$Operation" y_O_hasWay y_O_hasWay : Cond) ∈ tp_G := tp_Gm 731 (by decide +kernel) (by decide +kernel)
theorem kl_T_217 : (.methodLink "TwoPass" 217 y_O_hasWay : Cond) ∈ tp_G := tp_Gm 729 (by decide +kernel) (by decide +kernel)
abbrev b_T_wayOf : ByteArray := prog_1_method_19_code
abbrev y_T_wayOf : MethodName := ⟨"TwoPass", "wayOf", "(ILTwoPass$Line;)I"⟩
theorem kc_T_wayOf : (.code y_T_wayOf b_T_wayOf 3 (some .int) : Cond) ∈ tp_G := tp_Gm 706 (by decide +kernel) (by decide +kernel)
def w_T_wayOf : List Cond := .code y_T_wayOf b_T_wayOf 3 (some .int) :: tp_G
theorem km_T_wayOf : (.instanceMethod y_T_wayOf : Cond) ∈ tp_G := tp_Gm 705 (by decide +kernel) (by decide +kernel)
theorem kp_T_wayOf : (.selects "TwoPass" y_T_wayOf y_T_wayOf : Cond) ∈ tp_G := List.mem_filter.mpr ⟨by decide +kernel, by decide +kernel⟩
theorem kl_T_210 : (.methodLink "TwoPass" 210 y_T_wayOf : Cond) ∈ tp_G := tp_Gm 703 (by decide +kernel) (by decide +kernel)
abbrev b_N_encodeWay : ByteArray := prog_3_method_4_code
abbrev y_N_encodeWay : MethodName := ⟨"TwoPass$Line", "encodeWay", "(I)V"⟩
theorem kc_N_encodeWay : (.code y_N_encodeWay b_N_encodeWay 2 none : Cond) ∈ tp_G := tp_Gm 740 (by decide +kernel) (by decide +kernel)
def w_N_encodeWay : List Cond := .code y_N_encodeWay b_N_encodeWay 2 none :: tp_G
theorem km_N_encodeWay : (.instanceMethod y_N_encodeWay : Cond) ∈ tp_G := tp_Gm 738 (by decide +kernel) (by decide +kernel)
theorem kv_N_N_encodeWay : (.selects "TwoPass$Line" y_N_encodeWay y_N_encodeWay : Cond) ∈ tp_G := tp_Gm 739 (by decide +kernel) (by decide +kernel)
theorem kl_T_220 : (.methodLink "TwoPass" 220 y_N_encodeWay : Cond) ∈ tp_G := tp_Gm 737 (by decide +kernel) (by decide +kernel)
theorem kl_T_181 : (.fieldLink "TwoPass" 181 "TwoPass$Operation" "layout" "I" : Cond) ∈ tp_G := tp_Gm 1591 (by decide +kernel) (by decide +kernel)
theorem kl_T_184 : (.fieldLink "TwoPass" 184 "TwoPass$Line" "name" "I" : Cond) ∈ tp_G := tp_Gm 368 (by decide +kernel) (by decide +kernel)
abbrev b_T_addressOf : ByteArray := prog_1_method_18_code
abbrev y_T_addressOf : MethodName := ⟨"TwoPass", "addressOf", "(II)I"⟩
theorem kc_T_addressOf : (.code y_T_addressOf b_T_addressOf 6 (some .int) : Cond) ∈ tp_G := tp_Gm 652 (by decide +kernel) (by decide +kernel)
def w_T_addressOf : List Cond := .code y_T_addressOf b_T_addressOf 6 (some .int) :: tp_G
theorem km_T_addressOf : (.instanceMethod y_T_addressOf : Cond) ∈ tp_G := tp_Gm 651 (by decide +kernel) (by decide +kernel)
theorem kp_T_addressOf : (.selects "TwoPass" y_T_addressOf y_T_addressOf : Cond) ∈ tp_G := List.mem_filter.mpr ⟨by decide +kernel, by decide +kernel⟩
theorem kl_T_187 : (.methodLink "TwoPass" 187 y_T_addressOf : Cond) ∈ tp_G := tp_Gm 649 (by decide +kernel) (by decide +kernel)
abbrev b_N_encodeAddress : ByteArray := prog_3_method_5_code
abbrev y_N_encodeAddress : MethodName := ⟨"TwoPass$Line", "encodeAddress", "(I)V"⟩
theorem kc_N_encodeAddress : (.code y_N_encodeAddress b_N_encodeAddress 2 none : Cond) ∈ tp_G := tp_Gm 755 (by decide +kernel) (by decide +kernel)
def w_N_encodeAddress : List Cond := .code y_N_encodeAddress b_N_encodeAddress 2 none :: tp_G
theorem km_N_encodeAddress : (.instanceMethod y_N_encodeAddress : Cond) ∈ tp_G := tp_Gm 753 (by decide +kernel) (by decide +kernel)
theorem kv_N_N_encodeAddress : (.selects "TwoPass$Line" y_N_encodeAddress y_N_encodeAddress : Cond) ∈ tp_G := tp_Gm 754 (by decide +kernel) (by decide +kernel)
theorem kl_T_223 : (.methodLink "TwoPass" 223 y_N_encodeAddress : Cond) ∈ tp_G := tp_Gm 752 (by decide +kernel) (by decide +kernel)
abbrev b_N_encodeNumber : ByteArray := prog_3_method_6_code
abbrev y_N_encodeNumber : MethodName := ⟨"TwoPass$Line", "encodeNumber", "()V"⟩
theorem kc_N_encodeNumber : (.code y_N_encodeNumber b_N_encodeNumber 1 none : Cond) ∈ tp_G := tp_Gm 767 (by decide +kernel) (by decide +kernel)
def w_N_encodeNumber : List Cond := .code y_N_encodeNumber b_N_encodeNumber 1 none :: tp_G
theorem km_N_encodeNumber : (.instanceMethod y_N_encodeNumber : Cond) ∈ tp_G := tp_Gm 765 (by decide +kernel) (by decide +kernel)
theorem kv_N_N_encodeNumber : (.selects "TwoPass$Line" y_N_encodeNumber y_N_encodeNumber : Cond) ∈ tp_G := tp_Gm 766 (by decide +kernel) (by decide +kernel)
theorem kl_T_226 : (.methodLink "TwoPass" 226 y_N_encodeNumber : Cond) ∈ tp_G := tp_Gm 764 (by decide +kernel) (by decide +kernel)
theorem kl_T_105 : (.methodLink "TwoPass" 105 y_T_requireImage : Cond) ∈ tp_G := tp_Gm 781 (by decide +kernel) (by decide +kernel)
theorem kl_T_112 : (.fieldLink "TwoPass" 112 "TwoPass$Line" "isFar" "Z" : Cond) ∈ tp_G := tp_Gm 371 (by decide +kernel) (by decide +kernel)
theorem kl_T_34 : (.fieldLink "TwoPass" 34 "TwoPass" "length" "I" : Cond) ∈ tp_G := tp_Gm 209 (by decide +kernel) (by decide +kernel)
theorem kl_T_115 : (.classLink "TwoPass" 115 "java/lang/IndexOutOfBoundsException" : Cond) ∈ tp_G := tp_Gm 793 (by decide +kernel) (by decide +kernel)
theorem kl_T_117 : (.methodLink "TwoPass" 117 ⟨"java/lang/IndexOutOfBoundsException", "<init>", "()V"⟩ : Cond) ∈ tp_G := tp_Gm 802 (by decide +kernel) (by decide +kernel)
theorem kl_T_118 : (.fieldLink "TwoPass" 118 "TwoPass$Line" "start" "I" : Cond) ∈ tp_G := tp_Gm 369 (by decide +kernel) (by decide +kernel)
abbrev b_N_size : ByteArray := prog_3_method_2_code
abbrev y_N_size : MethodName := ⟨"TwoPass$Line", "size", "()I"⟩
theorem kc_N_size : (.code y_N_size b_N_size 1 (some .int) : Cond) ∈ tp_G := tp_Gm 690 (by decide +kernel) (by decide +kernel)
def w_N_size : List Cond := .code y_N_size b_N_size 1 (some .int) :: tp_G
theorem km_N_size : (.instanceMethod y_N_size : Cond) ∈ tp_G := tp_Gm 688 (by decide +kernel) (by decide +kernel)
theorem kv_N_N_size : (.selects "TwoPass$Line" y_N_size y_N_size : Cond) ∈ tp_G := tp_Gm 689 (by decide +kernel) (by decide +kernel)
theorem kl_T_121 : (.methodLink "TwoPass" 121 y_N_size : Cond) ∈ tp_G := tp_Gm 687 (by decide +kernel) (by decide +kernel)
abbrev b_N_byteAt : ByteArray := prog_3_method_3_code
abbrev y_N_byteAt : MethodName := ⟨"TwoPass$Line", "byteAt", "(I)I"⟩
theorem kc_N_byteAt : (.code y_N_byteAt b_N_byteAt 3 (some .int) : Cond) ∈ tp_G := tp_Gm 811 (by decide +kernel) (by decide +kernel)
def w_N_byteAt : List Cond := .code y_N_byteAt b_N_byteAt 3 (some .int) :: tp_G
theorem km_N_byteAt : (.instanceMethod y_N_byteAt : Cond) ∈ tp_G := tp_Gm 809 (by decide +kernel) (by decide +kernel)
theorem kv_N_N_byteAt : (.selects "TwoPass$Line" y_N_byteAt y_N_byteAt : Cond) ∈ tp_G := tp_Gm 810 (by decide +kernel) (by decide +kernel)
theorem kl_T_124 : (.methodLink "TwoPass" 124 y_N_byteAt : Cond) ∈ tp_G := tp_Gm 808 (by decide +kernel) (by decide +kernel)
theorem kl_T_204 : (.methodLink "TwoPass" 204 y_T_aligned : Cond) ∈ tp_G := tp_Gm 680 (by decide +kernel) (by decide +kernel)
abbrev b_O_putsInstruction : ByteArray := prog_4_method_4_code
abbrev y_O_putsInstruction : MethodName := ⟨"TwoPass$Operation", "putsInstruction", "()Z"⟩
theorem kc_O_putsInstruction : (.code y_O_putsInstruction b_O_putsInstruction 1 (some .boolean) : Cond) ∈ tp_G := tp_Gm 686 (by decide +kernel) (by decide +kernel)
def w_O_putsInstruction : List Cond := .code y_O_putsInstruction b_O_putsInstruction 1 (some .boolean) :: tp_G
theorem km_O_putsInstruction : (.instanceMethod y_O_putsInstruction : Cond) ∈ tp_G := tp_Gm 684 (by decide +kernel) (by decide +kernel)
theorem kv_O_O_putsInstruction : (.selects "TwoPass$Operation" y_O_putsInstruction y_O_putsInstruction : Cond) ∈ tp_G := tp_Gm 685 (by decide +kernel) (by decide +kernel)
theorem kl_T_207 : (.methodLink "TwoPass" 207 y_O_putsInstruction : Cond) ∈ tp_G := tp_Gm 683 (by decide +kernel) (by decide +kernel)
theorem kl_T_26 : (.fieldLink "TwoPass" 26 "TwoPass" "written" "Ljava/lang/StringBuilder;" : Cond) ∈ tp_G := tp_Gm 207 (by decide +kernel) (by decide +kernel)
theorem kl_T_172 : (.methodLink "TwoPass" 172 y_SB_length : Cond) ∈ tp_G := tp_Gm 1116 (by decide +kernel) (by decide +kernel)
abbrev b_SB_charAt : ByteArray := prog_23_method_88_code
abbrev y_SB_charAt : MethodName := ⟨"java/lang/StringBuilder", "charAt", "(I)C"⟩
theorem kc_SB_charAt : (.code y_SB_charAt b_SB_charAt 2 (some .char) : Cond) ∈ tp_G := tp_Gm 1127 (by decide +kernel) (by decide +kernel)
def w_SB_charAt : List Cond := .code y_SB_charAt b_SB_charAt 2 (some .char) :: tp_G
theorem km_SB_charAt : (.instanceMethod y_SB_charAt : Cond) ∈ tp_G := tp_Gm 1125 (by decide +kernel) (by decide +kernel)
theorem kv_SB_SB_charAt : (.selects "java/lang/StringBuilder" y_SB_charAt y_SB_charAt : Cond) ∈ tp_G := tp_Gm 1126 (by decide +kernel) (by decide +kernel)
theorem kl_T_173 : (.methodLink "TwoPass" 173 y_SB_charAt : Cond) ∈ tp_G := tp_Gm 1124 (by decide +kernel) (by decide +kernel)
theorem kl_T_90 : (.methodLink "TwoPass" 90 y_T_requireNames : Cond) ∈ tp_G := tp_Gm 637 (by decide +kernel) (by decide +kernel)
theorem kl_T_93 : (.methodLink "TwoPass" 93 y_T_makeFarBranches : Cond) ∈ tp_G := tp_Gm 672 (by decide +kernel) (by decide +kernel)
theorem kl_T_96 : (.classLink "TwoPass" 96 "java/lang/UnsupportedOperationException" : Cond) ∈ tp_G := tp_Gm 710 (by decide +kernel) (by decide +kernel)
theorem kl_T_98 : (.methodLink "TwoPass" 98 ⟨"java/lang/UnsupportedOperationException", "<init>", "()V"⟩ : Cond) ∈ tp_G := tp_Gm 719 (by decide +kernel) (by decide +kernel)
theorem kl_T_99 : (.methodLink "TwoPass" 99 y_T_requireEvenWays : Cond) ∈ tp_G := tp_Gm 725 (by decide +kernel) (by decide +kernel)
theorem kl_T_102 : (.methodLink "TwoPass" 102 y_T_encodeLines : Cond) ∈ tp_G := tp_Gm 733 (by decide +kernel) (by decide +kernel)
theorem kl_T_197 : (.methodLink "TwoPass" 197 y_T_layOut : Cond) ∈ tp_G := tp_Gm 676 (by decide +kernel) (by decide +kernel)
theorem kl_T_200 : (.methodLink "TwoPass" 200 y_T_makeUnreachingFar : Cond) ∈ tp_G := tp_Gm 699 (by decide +kernel) (by decide +kernel)
abbrev b_T_reaches : ByteArray := prog_1_method_24_code
abbrev y_T_reaches : MethodName := ⟨"TwoPass", "reaches", "(I)Z"⟩
theorem kc_T_reaches : (.code y_T_reaches b_T_reaches 1 (some .boolean) : Cond) ∈ tp_G := tp_Gm 709 (by decide +kernel) (by decide +kernel)
def w_T_reaches : List Cond := .code y_T_reaches b_T_reaches 1 (some .boolean) :: tp_G
theorem ks_T_reaches : (.static y_T_reaches : Cond) ∈ tp_G := tp_Gm 708 (by decide +kernel) (by decide +kernel)
theorem kl_T_214 : (.methodLink "TwoPass" 214 y_T_reaches : Cond) ∈ tp_G := tp_Gm 707 (by decide +kernel) (by decide +kernel)
theorem kl_T_127 : (.methodLink "TwoPass" 127 y_T_isModule : Cond) ∈ tp_G := tp_Gm 334 (by decide +kernel) (by decide +kernel)
theorem kl_T_48 : (.classLink "TwoPass" 48 "java/lang/IllegalStateException" : Cond) ∈ tp_G := tp_Gm 301 (by decide +kernel) (by decide +kernel)
theorem kl_T_50 : (.methodLink "TwoPass" 50 ⟨"java/lang/IllegalStateException", "<init>", "()V"⟩ : Cond) ∈ tp_G := tp_Gm 310 (by decide +kernel) (by decide +kernel)
theorem kl_T_38 : (.classLink "TwoPass" 38 "java/lang/IllegalArgumentException" : Cond) ∈ tp_G := tp_Gm 230 (by decide +kernel) (by decide +kernel)
theorem kl_T_40 : (.methodLink "TwoPass" 40 ⟨"java/lang/IllegalArgumentException", "<init>", "()V"⟩ : Cond) ∈ tp_G := tp_Gm 275 (by decide +kernel) (by decide +kernel)
abbrev b_T_requireName : ByteArray := prog_1_method_17_code
abbrev y_T_requireName : MethodName := ⟨"TwoPass", "requireName", "(ILTwoPass$Line;)V"⟩
theorem kc_T_requireName : (.code y_T_requireName b_T_requireName 3 none : Cond) ∈ tp_G := tp_Gm 648 (by decide +kernel) (by decide +kernel)
def w_T_requireName : List Cond := .code y_T_requireName b_T_requireName 3 none :: tp_G
theorem km_T_requireName : (.instanceMethod y_T_requireName : Cond) ∈ tp_G := tp_Gm 647 (by decide +kernel) (by decide +kernel)
theorem kp_T_requireName : (.selects "TwoPass" y_T_requireName y_T_requireName : Cond) ∈ tp_G := List.mem_filter.mpr ⟨by decide +kernel, by decide +kernel⟩
theorem kl_T_174 : (.methodLink "TwoPass" 174 y_T_requireName : Cond) ∈ tp_G := tp_Gm 645 (by decide +kernel) (by decide +kernel)
theorem kl_S_12 : (.fieldLink "TwoPass$Source" 12 "TwoPass$Source" "rows" "Ljava/util/ArrayList;" : Cond) ∈ tp_G := tp_Gm 167 (by decide +kernel) (by decide +kernel)
theorem kl_S_18 : (.methodLink "TwoPass$Source" 18 y_AL_size : Cond) ∈ tp_G := tp_Gm 533 (by decide +kernel) (by decide +kernel)
theorem kl_M_350 : (.methodLink "TwoPassModel" 350 y_M_out : Cond) ∈ tp_G := tp_Gm 1448 (by decide +kernel) (by decide +kernel)
theorem kl_M_208 : (.fieldLink "TwoPassModel" 208 "TwoPassModel" "thrown" "I" : Cond) ∈ tp_G := tp_Gm 1239 (by decide +kernel) (by decide +kernel)
theorem kl_M_23 : (.fieldLink "TwoPassModel" 23 "TwoPassModel" "count" "[I" : Cond) ∈ tp_G := tp_Gm 1256 (by decide +kernel) (by decide +kernel)
theorem kl_M_60 : (.fieldLink "TwoPassModel" 60 "TwoPassModel" "imageSize" "I" : Cond) ∈ tp_G := tp_Gm 1268 (by decide +kernel) (by decide +kernel)
theorem kl_M_371 : (.fieldLink "TwoPassModel" 371 "TwoPassModel" "farCount" "I" : Cond) ∈ tp_G := tp_Gm 1269 (by decide +kernel) (by decide +kernel)
theorem kl_M_64 : (.fieldLink "TwoPassModel" 64 "TwoPassModel" "image" "[I" : Cond) ∈ tp_G := tp_Gm 1270 (by decide +kernel) (by decide +kernel)
theorem kl_M_411 : (.fieldLink "TwoPassModel" 411 "TwoPassModel" "written" "I" : Cond) ∈ tp_G := tp_Gm 1271 (by decide +kernel) (by decide +kernel)
theorem kl_M_67 : (.fieldLink "TwoPassModel" 67 "TwoPassModel" "out" "[I" : Cond) ∈ tp_G := tp_Gm 1272 (by decide +kernel) (by decide +kernel)
theorem kl_M_53 : (.fieldLink "TwoPassModel" 53 "TwoPassModel" "place" "[I" : Cond) ∈ tp_G := tp_Gm 1266 (by decide +kernel) (by decide +kernel)
theorem kl_AS_79 : (.fieldLink "java/lang/AbstractStringBuilder" 79 "java/lang/AbstractStringBuilder" "count" "I" : Cond) ∈ tp_G := tp_Gm 194 (by decide +kernel) (by decide +kernel)
theorem kq_AS_length : (.sameMethod "java/lang/AbstractStringBuilder" "java/lang/AbstractStringBuilder" "length" "()I" : Cond) ∈ tp_G := tp_Gm 972 (by decide +kernel) (by decide +kernel)
theorem kz_SB : (.superclass "java/lang/StringBuilder" "java/lang/AbstractStringBuilder" : Cond) ∈ tp_G := tp_Gm 203 (by decide +kernel) (by decide +kernel)
theorem kl_SB_343 : (.methodLink "java/lang/StringBuilder" 343 y_AS_length : Cond) ∈ tp_G := tp_Gm 976 (by decide +kernel) (by decide +kernel)
theorem kl_AL_63 : (.fieldLink "java/util/ArrayList" 63 "java/util/ArrayList" "modCount" "I" : Cond) ∈ tp_G := tp_Gm 158 (by decide +kernel) (by decide +kernel)
theorem kl_AL_9 : (.fieldLink "java/util/ArrayList" 9 "java/util/ArrayList" "elementData" "[Ljava/lang/Object;" : Cond) ∈ tp_G := tp_Gm 155 (by decide +kernel) (by decide +kernel)
theorem kl_AL_48 : (.fieldLink "java/util/ArrayList" 48 "java/util/ArrayList" "size" "I" : Cond) ∈ tp_G := tp_Gm 156 (by decide +kernel) (by decide +kernel)
abbrev b_Y_init : ByteArray := prog_6_method_1_code
abbrev y_Y_init : MethodName := ⟨"TwoPass$Typed", "<init>", "()V"⟩
theorem kc_Y_init : (.code y_Y_init b_Y_init 1 none : Cond) ∈ tp_G := tp_Gm 111 (by decide +kernel) (by decide +kernel)
def w_Y_init : List Cond := .code y_Y_init b_Y_init 1 none :: tp_G
theorem km_Y_init : (.instanceMethod y_Y_init : Cond) ∈ tp_G := tp_Gm 110 (by decide +kernel) (by decide +kernel)
theorem kb_T_9 : (.methodLinkNest "TwoPass" 9 y_Y_init "TwoPass" : Cond) ∈ tp_Bd := List.mem_filter.mpr ⟨List.mem_of_getElem? (i := 105) (by decide +kernel), rfl⟩
abbrev b_S_init : ByteArray := prog_5_method_1_code
abbrev y_S_init : MethodName := ⟨"TwoPass$Source", "<init>", "()V"⟩
theorem kc_S_init : (.code y_S_init b_S_init 1 none : Cond) ∈ tp_G := tp_Gm 139 (by decide +kernel) (by decide +kernel)
def w_S_init : List Cond := .code y_S_init b_S_init 1 none :: tp_G
theorem km_S_init : (.instanceMethod y_S_init : Cond) ∈ tp_G := tp_Gm 138 (by decide +kernel) (by decide +kernel)
theorem kb_T_18 : (.methodLinkNest "TwoPass" 18 y_S_init "TwoPass" : Cond) ∈ tp_Bd := List.mem_filter.mpr ⟨List.mem_of_getElem? (i := 133) (by decide +kernel), rfl⟩
abbrev b_N_init : ByteArray := prog_3_method_1_code
abbrev y_N_init : MethodName := ⟨"TwoPass$Line", "<init>", "()V"⟩
theorem kc_N_init : (.code y_N_init b_N_init 1 none : Cond) ∈ tp_G := tp_Gm 345 (by decide +kernel) (by decide +kernel)
def w_N_init : List Cond := .code y_N_init b_N_init 1 none :: tp_G
theorem km_N_init : (.instanceMethod y_N_init : Cond) ∈ tp_G := tp_Gm 344 (by decide +kernel) (by decide +kernel)
theorem kb_Y_27 : (.methodLinkNest "TwoPass$Typed" 27 y_N_init "TwoPass" : Cond) ∈ tp_Bd := List.mem_filter.mpr ⟨List.mem_of_getElem? (i := 339) (by decide +kernel), rfl⟩
abbrev b_AS_isLatin1 : ByteArray := prog_10_method_68_code
abbrev y_AS_isLatin1 : MethodName := ⟨"java/lang/AbstractStringBuilder", "isLatin1", "()Z"⟩
theorem kc_AS_isLatin1 : (.code y_AS_isLatin1 b_AS_isLatin1 1 (some .boolean) : Cond) ∈ tp_G := tp_Gm 876 (by decide +kernel) (by decide +kernel)
def w_AS_isLatin1 : List Cond := .code y_AS_isLatin1 b_AS_isLatin1 1 (some .boolean) :: tp_G
theorem km_AS_isLatin1 : (.instanceMethod y_AS_isLatin1 : Cond) ∈ tp_G := tp_Gm 873 (by decide +kernel) (by decide +kernel)
theorem kv_SB_AS_isLatin1 : (.selects "java/lang/StringBuilder" y_AS_isLatin1 y_AS_isLatin1 : Cond) ∈ tp_G := tp_Gm 875 (by decide +kernel) (by decide +kernel)
theorem kf_C_28 : (.fieldLinkNest "TwoPass$Code" 28 "TwoPass" "OPERATIONS" "[LTwoPass$Operation;" "TwoPass" : Cond) ∈ tp_Bd := List.mem_filter.mpr ⟨List.mem_of_getElem? (i := 1073) (by decide +kernel), rfl⟩
theorem kf_Y_124 : (.fieldLinkNest "TwoPass$Typed" 124 "TwoPass" "OPERATIONS" "[LTwoPass$Operation;" "TwoPass" : Cond) ∈ tp_Bd := List.mem_filter.mpr ⟨List.mem_of_getElem? (i := 418) (by decide +kernel), rfl⟩
theorem kcs_N_OJ : (.castable qR_N "java/lang/Object" : Cond) ∈ tp_Bd := List.mem_filter.mpr ⟨List.mem_of_getElem? (i := 1581) (by decide +kernel), rfl⟩
theorem kct_IllegalArgumentException : (.castable "java/lang/IllegalArgumentException" "java/lang/IllegalArgumentException" : Cond) ∈ tp_Bd := List.mem_filter.mpr ⟨List.mem_of_getElem? (i := 228) (by decide +kernel), rfl⟩
theorem kct_IllegalStateException : (.castable "java/lang/IllegalStateException" "java/lang/IllegalStateException" : Cond) ∈ tp_Bd := List.mem_filter.mpr ⟨List.mem_of_getElem? (i := 299) (by decide +kernel), rfl⟩
theorem kct_IndexOutOfBoundsException : (.castable "java/lang/IndexOutOfBoundsException" "java/lang/IndexOutOfBoundsException" : Cond) ∈ tp_Bd := List.mem_filter.mpr ⟨List.mem_of_getElem? (i := 791) (by decide +kernel), rfl⟩
theorem kny_copy : (.native arraycopyName : Cond) ∈ tp_G := tp_Gm 614 (by decide +kernel) (by decide +kernel)
theorem kns_copy : (.static arraycopyName : Cond) ∈ tp_G := tp_Gm 613 (by decide +kernel) (by decide +kernel)
theorem kx_IllegalArgumentException : (.initialized "java/lang/IllegalArgumentException" : Cond) ∈ tp_G := tp_Gm 80 (by decide +kernel) (by decide +kernel)
theorem kx1_T_40 : ∀ w ∈ (vx_at0 "TwoPass" 40 "java/lang/IllegalArgumentException" ["java/lang/RuntimeException", "java/lang/Exception"]).filter goodWord, w ∈ tp_G := by decide +kernel
theorem kx2_T_40 : ∀ w ∈ (vx_at0 "TwoPass" 40 "java/lang/IllegalArgumentException" ["java/lang/RuntimeException", "java/lang/Exception"]).filter (fun w => !goodWord w), w ∈ tp_Bd := by decide +kernel
theorem kxa_T_40 {args : Array Value} {s : State} (htg : ∀ w ∈ tp_G, w.before args s = true) (hN : tp_N s) : ∀ w ∈ vx_at0 "TwoPass" 40 "java/lang/IllegalArgumentException" ["java/lang/RuntimeException", "java/lang/Exception"], w.before args s = true := vx_hat (fun w h => htg w (kx1_T_40 w h)) kx2_T_40 (fun w h => hN.use h)
theorem kxg_T_40 : ∀ w ∈ Cond.classLink "TwoPass" 38 "java/lang/IllegalArgumentException" :: Cond.initialized "java/lang/IllegalArgumentException" :: vx_at0 "TwoPass" 40 "java/lang/IllegalArgumentException" ["java/lang/RuntimeException", "java/lang/Exception"], vx_ot w = true := by decide +kernel
theorem kx_IllegalStateException : (.initialized "java/lang/IllegalStateException" : Cond) ∈ tp_G := tp_Gm 81 (by decide +kernel) (by decide +kernel)
theorem kx1_T_50 : ∀ w ∈ (vx_at0 "TwoPass" 50 "java/lang/IllegalStateException" ["java/lang/RuntimeException", "java/lang/Exception"]).filter goodWord, w ∈ tp_G := by decide +kernel
theorem kx2_T_50 : ∀ w ∈ (vx_at0 "TwoPass" 50 "java/lang/IllegalStateException" ["java/lang/RuntimeException", "java/lang/Exception"]).filter (fun w => !goodWord w), w ∈ tp_Bd := by decide +kernel
theorem kxa_T_50 {args : Array Value} {s : State} (htg : ∀ w ∈ tp_G, w.before args s = true) (hN : tp_N s) : ∀ w ∈ vx_at0 "TwoPass" 50 "java/lang/IllegalStateException" ["java/lang/RuntimeException", "java/lang/Exception"], w.before args s = true := vx_hat (fun w h => htg w (kx1_T_50 w h)) kx2_T_50 (fun w h => hN.use h)
theorem kxg_T_50 : ∀ w ∈ Cond.classLink "TwoPass" 48 "java/lang/IllegalStateException" :: Cond.initialized "java/lang/IllegalStateException" :: vx_at0 "TwoPass" 50 "java/lang/IllegalStateException" ["java/lang/RuntimeException", "java/lang/Exception"], vx_ot w = true := by decide +kernel
theorem kx_IndexOutOfBoundsException : (.initialized "java/lang/IndexOutOfBoundsException" : Cond) ∈ tp_G := tp_Gm 95 (by decide +kernel) (by decide +kernel)
theorem kx1_T_117 : ∀ w ∈ (vx_at0 "TwoPass" 117 "java/lang/IndexOutOfBoundsException" ["java/lang/RuntimeException", "java/lang/Exception"]).filter goodWord, w ∈ tp_G := by decide +kernel
theorem kx2_T_117 : ∀ w ∈ (vx_at0 "TwoPass" 117 "java/lang/IndexOutOfBoundsException" ["java/lang/RuntimeException", "java/lang/Exception"]).filter (fun w => !goodWord w), w ∈ tp_Bd := by decide +kernel
theorem kxa_T_117 {args : Array Value} {s : State} (htg : ∀ w ∈ tp_G, w.before args s = true) (hN : tp_N s) : ∀ w ∈ vx_at0 "TwoPass" 117 "java/lang/IndexOutOfBoundsException" ["java/lang/RuntimeException", "java/lang/Exception"], w.before args s = true := vx_hat (fun w h => htg w (kx1_T_117 w h)) kx2_T_117 (fun w h => hN.use h)
theorem kxg_T_117 : ∀ w ∈ Cond.classLink "TwoPass" 115 "java/lang/IndexOutOfBoundsException" :: Cond.initialized "java/lang/IndexOutOfBoundsException" :: vx_at0 "TwoPass" 117 "java/lang/IndexOutOfBoundsException" ["java/lang/RuntimeException", "java/lang/Exception"], vx_ot w = true := by decide +kernel
