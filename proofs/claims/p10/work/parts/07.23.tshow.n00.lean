abbrev b_T_show : ByteArray := prog_1_method_9_code
abbrev y_T_show : MethodName := ⟨"TwoPass", "show", "(I)I"⟩
theorem kc_T_show : (.code y_T_show b_T_show 4 (some .int) : Cond) ∈ tp_G := tp_Gm 825 (by decide +kernel) (by decide +kernel)
def w_T_show : List Cond := .code y_T_show b_T_show 4 (some .int) :: tp_G
theorem km_T_show : (.instanceMethod y_T_show : Cond) ∈ tp_G := tp_Gm 823 (by decide +kernel) (by decide +kernel)
theorem kv_T_T_show : (.selects "TwoPass" y_T_show y_T_show : Cond) ∈ tp_G := tp_Gm 824 (by decide +kernel) (by decide +kernel)
theorem d_T_show_0 : decode b_T_show 0 = .ok (.aload_n 0, 1) := by decide +kernel
theorem d_T_show_1 : decode b_T_show 1 = .ok (.getfield 26, 3) := by decide +kernel
theorem d_T_show_4 : decode b_T_show 4 = .ok (.iconst 0, 1) := by decide +kernel
theorem d_T_show_5 : decode b_T_show 5 = .ok (.invokevirtual 131, 3) := by decide +kernel
theorem d_T_show_8 : decode b_T_show 8 = .ok (.iload_n 1, 1) := by decide +kernel
theorem d_T_show_9 : decode b_T_show 9 = .ok (.invokestatic 134, 3) := by decide +kernel
theorem d_T_show_12 : decode b_T_show 12 = .ok (.astore_n 2, 1) := by decide +kernel
theorem d_T_show_13 : decode b_T_show 13 = .ok (.aload_n 2, 1) := by decide +kernel
theorem d_T_show_14 : decode b_T_show 14 = .ok (.getstatic 140, 3) := by decide +kernel
theorem d_T_show_17 : decode b_T_show 17 = .ok (.if_acmp .ne 11, 3) := by decide +kernel
theorem d_T_show_20 : decode b_T_show 20 = .ok (.new 38, 3) := by decide +kernel
theorem d_T_show_23 : decode b_T_show 23 = .ok (.dup, 1) := by decide +kernel
theorem d_T_show_24 : decode b_T_show 24 = .ok (.invokespecial 40, 3) := by decide +kernel
theorem d_T_show_27 : decode b_T_show 27 = .ok (.athrow, 1) := by decide +kernel
theorem d_T_show_28 : decode b_T_show 28 = .ok (.aload_n 0, 1) := by decide +kernel
theorem d_T_show_29 : decode b_T_show 29 = .ok (.getfield 26, 3) := by decide +kernel
theorem d_T_show_32 : decode b_T_show 32 = .ok (.aload_n 2, 1) := by decide +kernel
theorem d_T_show_33 : decode b_T_show 33 = .ok (.getfield 146, 3) := by decide +kernel
theorem d_T_show_36 : decode b_T_show 36 = .ok (.invokevirtual 150, 3) := by decide +kernel
theorem d_T_show_39 : decode b_T_show 39 = .ok (.pop, 1) := by decide +kernel
theorem d_T_show_40 : decode b_T_show 40 = .ok (.aload_n 0, 1) := by decide +kernel
theorem d_T_show_41 : decode b_T_show 41 = .ok (.getfield 26, 3) := by decide +kernel
theorem d_T_show_44 : decode b_T_show 44 = .ok (.bipush 32, 2) := by decide +kernel
theorem d_T_show_46 : decode b_T_show 46 = .ok (.invokevirtual 154, 3) := by decide +kernel
theorem d_T_show_49 : decode b_T_show 49 = .ok (.pop, 1) := by decide +kernel
theorem d_T_show_50 : decode b_T_show 50 = .ok (.iconst 0, 1) := by decide +kernel
theorem d_T_show_51 : decode b_T_show 51 = .ok (.istore_n 3, 1) := by decide +kernel
theorem d_T_show_52 : decode b_T_show 52 = .ok (.iload_n 3, 1) := by decide +kernel
theorem d_T_show_53 : decode b_T_show 53 = .ok (.aload_n 2, 1) := by decide +kernel
theorem d_T_show_54 : decode b_T_show 54 = .ok (.getfield 157, 3) := by decide +kernel
theorem d_T_show_57 : decode b_T_show 57 = .ok (.invokevirtual 160, 3) := by decide +kernel
theorem d_T_show_60 : decode b_T_show 60 = .ok (.if_icmp .ge 23, 3) := by decide +kernel
theorem d_T_show_63 : decode b_T_show 63 = .ok (.aload_n 0, 1) := by decide +kernel
theorem d_T_show_64 : decode b_T_show 64 = .ok (.aload_n 2, 1) := by decide +kernel
theorem d_T_show_65 : decode b_T_show 65 = .ok (.aload_n 2, 1) := by decide +kernel
theorem d_T_show_66 : decode b_T_show 66 = .ok (.getfield 157, 3) := by decide +kernel
theorem d_T_show_69 : decode b_T_show 69 = .ok (.iload_n 3, 1) := by decide +kernel
theorem d_T_show_70 : decode b_T_show 70 = .ok (.invokevirtual 164, 3) := by decide +kernel
theorem d_T_show_73 : decode b_T_show 73 = .ok (.iload_n 1, 1) := by decide +kernel
theorem d_T_show_74 : decode b_T_show 74 = .ok (.invokevirtual 168, 3) := by decide +kernel
theorem d_T_show_77 : decode b_T_show 77 = .ok (.iinc 3 1, 3) := by decide +kernel
theorem d_T_show_80 : decode b_T_show 80 = .ok (.goto (-28), 3) := by decide +kernel
theorem d_T_show_83 : decode b_T_show 83 = .ok (.aload_n 0, 1) := by decide +kernel
theorem d_T_show_84 : decode b_T_show 84 = .ok (.getfield 26, 3) := by decide +kernel
theorem d_T_show_87 : decode b_T_show 87 = .ok (.invokevirtual 172, 3) := by decide +kernel
theorem d_T_show_90 : decode b_T_show 90 = .ok (.ireturn, 1) := by decide +kernel
abbrev b_T_writeOperand : ByteArray := prog_1_method_27_code
abbrev y_T_writeOperand : MethodName := ⟨"TwoPass", "writeOperand", "(LTwoPass$Operation;CI)V"⟩
theorem kc_T_writeOperand : (.code y_T_writeOperand b_T_writeOperand 4 none : Cond) ∈ tp_G := tp_Gm 1104 (by decide +kernel) (by decide +kernel)
def w_T_writeOperand : List Cond := .code y_T_writeOperand b_T_writeOperand 4 none :: tp_G
theorem km_T_writeOperand : (.instanceMethod y_T_writeOperand : Cond) ∈ tp_G := tp_Gm 1103 (by decide +kernel) (by decide +kernel)
theorem kp_T_writeOperand : (.selects "TwoPass" y_T_writeOperand y_T_writeOperand : Cond) ∈ tp_G := List.mem_filter.mpr ⟨by decide +kernel, by decide +kernel⟩
theorem d_T_writeOperand_0 : decode b_T_writeOperand 0 = .ok (.iload_n 2, 1) := by decide +kernel
theorem d_T_writeOperand_1 : decode b_T_writeOperand 1 = .ok (.lookupswitch 109 #[(100, 51), (105, 90), (108, 90), (115, 64), (116, 77)], 51) := by decide +kernel
theorem d_T_writeOperand_52 : decode b_T_writeOperand 52 = .ok (.aload_n 0, 1) := by decide +kernel
theorem d_T_writeOperand_53 : decode b_T_writeOperand 53 = .ok (.iload_n 3, 1) := by decide +kernel
theorem d_T_writeOperand_54 : decode b_T_writeOperand 54 = .ok (.bipush 7, 2) := by decide +kernel
theorem d_T_writeOperand_56 : decode b_T_writeOperand 56 = .ok (.invokestatic 229, 3) := by decide +kernel
theorem d_T_writeOperand_59 : decode b_T_writeOperand 59 = .ok (.invokevirtual 232, 3) := by decide +kernel
theorem d_T_writeOperand_62 : decode b_T_writeOperand 62 = .ok (.goto 57, 3) := by decide +kernel
theorem d_T_writeOperand_65 : decode b_T_writeOperand 65 = .ok (.aload_n 0, 1) := by decide +kernel
theorem d_T_writeOperand_66 : decode b_T_writeOperand 66 = .ok (.iload_n 3, 1) := by decide +kernel
theorem d_T_writeOperand_67 : decode b_T_writeOperand 67 = .ok (.bipush 15, 2) := by decide +kernel
theorem d_T_writeOperand_69 : decode b_T_writeOperand 69 = .ok (.invokestatic 229, 3) := by decide +kernel
theorem d_T_writeOperand_72 : decode b_T_writeOperand 72 = .ok (.invokevirtual 232, 3) := by decide +kernel
theorem d_T_writeOperand_75 : decode b_T_writeOperand 75 = .ok (.goto 44, 3) := by decide +kernel
theorem d_T_writeOperand_78 : decode b_T_writeOperand 78 = .ok (.aload_n 0, 1) := by decide +kernel
theorem d_T_writeOperand_79 : decode b_T_writeOperand 79 = .ok (.iload_n 3, 1) := by decide +kernel
theorem d_T_writeOperand_80 : decode b_T_writeOperand 80 = .ok (.bipush 20, 2) := by decide +kernel
theorem d_T_writeOperand_82 : decode b_T_writeOperand 82 = .ok (.invokestatic 229, 3) := by decide +kernel
theorem d_T_writeOperand_85 : decode b_T_writeOperand 85 = .ok (.invokevirtual 232, 3) := by decide +kernel
theorem d_T_writeOperand_88 : decode b_T_writeOperand 88 = .ok (.goto 31, 3) := by decide +kernel
theorem d_T_writeOperand_91 : decode b_T_writeOperand 91 = .ok (.aload_n 0, 1) := by decide +kernel
theorem d_T_writeOperand_92 : decode b_T_writeOperand 92 = .ok (.getfield 26, 3) := by decide +kernel
theorem d_T_writeOperand_95 : decode b_T_writeOperand 95 = .ok (.aload_n 1, 1) := by decide +kernel
theorem d_T_writeOperand_96 : decode b_T_writeOperand 96 = .ok (.getfield 181, 3) := by decide +kernel
theorem d_T_writeOperand_99 : decode b_T_writeOperand 99 = .ok (.iload_n 3, 1) := by decide +kernel
theorem d_T_writeOperand_100 : decode b_T_writeOperand 100 = .ok (.invokestatic 235, 3) := by decide +kernel
theorem d_T_writeOperand_103 : decode b_T_writeOperand 103 = .ok (.invokevirtual 238, 3) := by decide +kernel
theorem d_T_writeOperand_106 : decode b_T_writeOperand 106 = .ok (.pop, 1) := by decide +kernel
theorem d_T_writeOperand_107 : decode b_T_writeOperand 107 = .ok (.goto 12, 3) := by decide +kernel
theorem d_T_writeOperand_110 : decode b_T_writeOperand 110 = .ok (.aload_n 0, 1) := by decide +kernel
theorem d_T_writeOperand_111 : decode b_T_writeOperand 111 = .ok (.getfield 26, 3) := by decide +kernel
theorem d_T_writeOperand_114 : decode b_T_writeOperand 114 = .ok (.iload_n 2, 1) := by decide +kernel
theorem d_T_writeOperand_115 : decode b_T_writeOperand 115 = .ok (.invokevirtual 154, 3) := by decide +kernel
theorem d_T_writeOperand_118 : decode b_T_writeOperand 118 = .ok (.pop, 1) := by decide +kernel
theorem d_T_writeOperand_119 : decode b_T_writeOperand 119 = .ok (.return_, 1) := by decide +kernel
abbrev b_T_writeRegister : ByteArray := prog_1_method_28_code
abbrev y_T_writeRegister : MethodName := ⟨"TwoPass", "writeRegister", "(I)V"⟩
theorem kc_T_writeRegister : (.code y_T_writeRegister b_T_writeRegister 2 none : Cond) ∈ tp_G := tp_Gm 1111 (by decide +kernel) (by decide +kernel)
def w_T_writeRegister : List Cond := .code y_T_writeRegister b_T_writeRegister 2 none :: tp_G
theorem km_T_writeRegister : (.instanceMethod y_T_writeRegister : Cond) ∈ tp_G := tp_Gm 1110 (by decide +kernel) (by decide +kernel)
theorem kp_T_writeRegister : (.selects "TwoPass" y_T_writeRegister y_T_writeRegister : Cond) ∈ tp_G := List.mem_filter.mpr ⟨by decide +kernel, by decide +kernel⟩
theorem d_T_writeRegister_0 : decode b_T_writeRegister 0 = .ok (.aload_n 0, 1) := by decide +kernel
theorem d_T_writeRegister_1 : decode b_T_writeRegister 1 = .ok (.getfield 26, 3) := by decide +kernel
theorem d_T_writeRegister_4 : decode b_T_writeRegister 4 = .ok (.bipush 120, 2) := by decide +kernel
theorem d_T_writeRegister_6 : decode b_T_writeRegister 6 = .ok (.invokevirtual 154, 3) := by decide +kernel
theorem d_T_writeRegister_9 : decode b_T_writeRegister 9 = .ok (.pop, 1) := by decide +kernel
theorem d_T_writeRegister_10 : decode b_T_writeRegister 10 = .ok (.aload_n 0, 1) := by decide +kernel
theorem d_T_writeRegister_11 : decode b_T_writeRegister 11 = .ok (.getfield 26, 3) := by decide +kernel
theorem d_T_writeRegister_14 : decode b_T_writeRegister 14 = .ok (.iload_n 1, 1) := by decide +kernel
theorem d_T_writeRegister_15 : decode b_T_writeRegister 15 = .ok (.invokevirtual 238, 3) := by decide +kernel
theorem d_T_writeRegister_18 : decode b_T_writeRegister 18 = .ok (.pop, 1) := by decide +kernel
theorem d_T_writeRegister_19 : decode b_T_writeRegister 19 = .ok (.return_, 1) := by decide +kernel
abbrev b_C_bits : ByteArray := prog_2_method_8_code
abbrev y_C_bits : MethodName := ⟨"TwoPass$Code", "bits", "(III)I"⟩
theorem kc_C_bits : (.code y_C_bits b_C_bits 3 (some .int) : Cond) ∈ tp_G := tp_Gm 749 (by decide +kernel) (by decide +kernel)
def w_C_bits : List Cond := .code y_C_bits b_C_bits 3 (some .int) :: tp_G
theorem ks_C_bits : (.static y_C_bits : Cond) ∈ tp_G := tp_Gm 748 (by decide +kernel) (by decide +kernel)
theorem d_C_bits_0 : decode b_C_bits 0 = .ok (.iload_n 0, 1) := by decide +kernel
theorem d_C_bits_1 : decode b_C_bits 1 = .ok (.iload_n 1, 1) := by decide +kernel
theorem d_C_bits_2 : decode b_C_bits 2 = .ok (.iushr, 1) := by decide +kernel
theorem d_C_bits_3 : decode b_C_bits 3 = .ok (.iconst 1, 1) := by decide +kernel
theorem d_C_bits_4 : decode b_C_bits 4 = .ok (.iload_n 2, 1) := by decide +kernel
theorem d_C_bits_5 : decode b_C_bits 5 = .ok (.ishl, 1) := by decide +kernel
theorem d_C_bits_6 : decode b_C_bits 6 = .ok (.iconst 1, 1) := by decide +kernel
theorem d_C_bits_7 : decode b_C_bits 7 = .ok (.isub, 1) := by decide +kernel
theorem d_C_bits_8 : decode b_C_bits 8 = .ok (.iand, 1) := by decide +kernel
theorem d_C_bits_9 : decode b_C_bits 9 = .ok (.ireturn, 1) := by decide +kernel
abbrev b_C_fixedBits : ByteArray := prog_2_method_7_code
abbrev y_C_fixedBits : MethodName := ⟨"TwoPass$Code", "fixedBits", "(I)I"⟩
theorem kc_C_fixedBits : (.code y_C_fixedBits b_C_fixedBits 1 (some .int) : Cond) ∈ tp_G := tp_Gm 1080 (by decide +kernel) (by decide +kernel)
def w_C_fixedBits : List Cond := .code y_C_fixedBits b_C_fixedBits 1 (some .int) :: tp_G
theorem ks_C_fixedBits : (.static y_C_fixedBits : Cond) ∈ tp_G := tp_Gm 1079 (by decide +kernel) (by decide +kernel)
theorem d_C_fixedBits_0 : decode b_C_fixedBits 0 = .ok (.iload_n 0, 1) := by decide +kernel
theorem d_C_fixedBits_1 : decode b_C_fixedBits 1 = .ok (.tableswitch 56 1 7 #[43, 49, 46, 53, 49, 49, 53], 43) := by decide +kernel
theorem d_C_fixedBits_44 : decode b_C_fixedBits 44 = .ok (.ldc 40, 2) := by decide +kernel
theorem d_C_fixedBits_46 : decode b_C_fixedBits 46 = .ok (.ireturn, 1) := by decide +kernel
theorem d_C_fixedBits_47 : decode b_C_fixedBits 47 = .ok (.ldc 41, 2) := by decide +kernel
theorem d_C_fixedBits_49 : decode b_C_fixedBits 49 = .ok (.ireturn, 1) := by decide +kernel
theorem d_C_fixedBits_50 : decode b_C_fixedBits 50 = .ok (.sipush 28799, 3) := by decide +kernel
theorem d_C_fixedBits_53 : decode b_C_fixedBits 53 = .ok (.ireturn, 1) := by decide +kernel
theorem d_C_fixedBits_54 : decode b_C_fixedBits 54 = .ok (.bipush 127, 2) := by decide +kernel
theorem d_C_fixedBits_56 : decode b_C_fixedBits 56 = .ok (.ireturn, 1) := by decide +kernel
theorem d_C_fixedBits_57 : decode b_C_fixedBits 57 = .ok (.iconst 0, 1) := by decide +kernel
theorem d_C_fixedBits_58 : decode b_C_fixedBits 58 = .ok (.ireturn, 1) := by decide +kernel
abbrev b_C_numberOf : ByteArray := prog_2_method_4_code
abbrev y_C_numberOf : MethodName := ⟨"TwoPass$Code", "numberOf", "(II)I"⟩
theorem kc_C_numberOf : (.code y_C_numberOf b_C_numberOf 2 (some .int) : Cond) ∈ tp_G := tp_Gm 1115 (by decide +kernel) (by decide +kernel)
def w_C_numberOf : List Cond := .code y_C_numberOf b_C_numberOf 2 (some .int) :: tp_G
theorem ks_C_numberOf : (.static y_C_numberOf : Cond) ∈ tp_G := tp_Gm 1114 (by decide +kernel) (by decide +kernel)
theorem d_C_numberOf_0 : decode b_C_numberOf 0 = .ok (.iload_n 0, 1) := by decide +kernel
theorem d_C_numberOf_1 : decode b_C_numberOf 1 = .ok (.tableswitch 155 2 7 #[39, 44, 53, 58, 73, 113], 39) := by decide +kernel
theorem d_C_numberOf_40 : decode b_C_numberOf 40 = .ok (.iload_n 1, 1) := by decide +kernel
theorem d_C_numberOf_41 : decode b_C_numberOf 41 = .ok (.bipush 20, 2) := by decide +kernel
theorem d_C_numberOf_43 : decode b_C_numberOf 43 = .ok (.ishr, 1) := by decide +kernel
theorem d_C_numberOf_44 : decode b_C_numberOf 44 = .ok (.ireturn, 1) := by decide +kernel
theorem d_C_numberOf_45 : decode b_C_numberOf 45 = .ok (.iload_n 1, 1) := by decide +kernel
theorem d_C_numberOf_46 : decode b_C_numberOf 46 = .ok (.bipush 20, 2) := by decide +kernel
theorem d_C_numberOf_48 : decode b_C_numberOf 48 = .ok (.bipush 6, 2) := by decide +kernel
theorem d_C_numberOf_50 : decode b_C_numberOf 50 = .ok (.invokestatic 24, 3) := by decide +kernel
theorem d_C_numberOf_53 : decode b_C_numberOf 53 = .ok (.ireturn, 1) := by decide +kernel
theorem d_C_numberOf_54 : decode b_C_numberOf 54 = .ok (.iload_n 1, 1) := by decide +kernel
theorem d_C_numberOf_55 : decode b_C_numberOf 55 = .ok (.bipush 12, 2) := by decide +kernel
theorem d_C_numberOf_57 : decode b_C_numberOf 57 = .ok (.iushr, 1) := by decide +kernel
theorem d_C_numberOf_58 : decode b_C_numberOf 58 = .ok (.ireturn, 1) := by decide +kernel
theorem d_C_numberOf_59 : decode b_C_numberOf 59 = .ok (.iload_n 1, 1) := by decide +kernel
theorem d_C_numberOf_60 : decode b_C_numberOf 60 = .ok (.bipush 7, 2) := by decide +kernel
theorem d_C_numberOf_62 : decode b_C_numberOf 62 = .ok (.iconst 5, 1) := by decide +kernel
theorem d_C_numberOf_63 : decode b_C_numberOf 63 = .ok (.invokestatic 24, 3) := by decide +kernel
theorem d_C_numberOf_66 : decode b_C_numberOf 66 = .ok (.iload_n 1, 1) := by decide +kernel
theorem d_C_numberOf_67 : decode b_C_numberOf 67 = .ok (.bipush 25, 2) := by decide +kernel
theorem d_C_numberOf_69 : decode b_C_numberOf 69 = .ok (.ishr, 1) := by decide +kernel
theorem d_C_numberOf_70 : decode b_C_numberOf 70 = .ok (.iconst 5, 1) := by decide +kernel
theorem d_C_numberOf_71 : decode b_C_numberOf 71 = .ok (.ishl, 1) := by decide +kernel
theorem d_C_numberOf_72 : decode b_C_numberOf 72 = .ok (.ior, 1) := by decide +kernel
theorem d_C_numberOf_73 : decode b_C_numberOf 73 = .ok (.ireturn, 1) := by decide +kernel
theorem d_C_numberOf_74 : decode b_C_numberOf 74 = .ok (.iload_n 1, 1) := by decide +kernel
theorem d_C_numberOf_75 : decode b_C_numberOf 75 = .ok (.bipush 8, 2) := by decide +kernel
theorem d_C_numberOf_77 : decode b_C_numberOf 77 = .ok (.iconst 4, 1) := by decide +kernel
theorem d_C_numberOf_78 : decode b_C_numberOf 78 = .ok (.invokestatic 24, 3) := by decide +kernel
theorem d_C_numberOf_81 : decode b_C_numberOf 81 = .ok (.iconst 1, 1) := by decide +kernel
theorem d_C_numberOf_82 : decode b_C_numberOf 82 = .ok (.ishl, 1) := by decide +kernel
theorem d_C_numberOf_83 : decode b_C_numberOf 83 = .ok (.iload_n 1, 1) := by decide +kernel
theorem d_C_numberOf_84 : decode b_C_numberOf 84 = .ok (.bipush 25, 2) := by decide +kernel
theorem d_C_numberOf_86 : decode b_C_numberOf 86 = .ok (.bipush 6, 2) := by decide +kernel
theorem d_C_numberOf_88 : decode b_C_numberOf 88 = .ok (.invokestatic 24, 3) := by decide +kernel
theorem d_C_numberOf_91 : decode b_C_numberOf 91 = .ok (.iconst 5, 1) := by decide +kernel
theorem d_C_numberOf_92 : decode b_C_numberOf 92 = .ok (.ishl, 1) := by decide +kernel
theorem d_C_numberOf_93 : decode b_C_numberOf 93 = .ok (.ior, 1) := by decide +kernel
theorem d_C_numberOf_94 : decode b_C_numberOf 94 = .ok (.iload_n 1, 1) := by decide +kernel
theorem d_C_numberOf_95 : decode b_C_numberOf 95 = .ok (.bipush 7, 2) := by decide +kernel
theorem d_C_numberOf_97 : decode b_C_numberOf 97 = .ok (.iconst 1, 1) := by decide +kernel
theorem d_C_numberOf_98 : decode b_C_numberOf 98 = .ok (.invokestatic 24, 3) := by decide +kernel
theorem d_C_numberOf_101 : decode b_C_numberOf 101 = .ok (.bipush 11, 2) := by decide +kernel
theorem d_C_numberOf_103 : decode b_C_numberOf 103 = .ok (.ishl, 1) := by decide +kernel
theorem d_C_numberOf_104 : decode b_C_numberOf 104 = .ok (.ior, 1) := by decide +kernel
theorem d_C_numberOf_105 : decode b_C_numberOf 105 = .ok (.iload_n 1, 1) := by decide +kernel
theorem d_C_numberOf_106 : decode b_C_numberOf 106 = .ok (.bipush 31, 2) := by decide +kernel
theorem d_C_numberOf_108 : decode b_C_numberOf 108 = .ok (.ishr, 1) := by decide +kernel
theorem d_C_numberOf_109 : decode b_C_numberOf 109 = .ok (.bipush 12, 2) := by decide +kernel
theorem d_C_numberOf_111 : decode b_C_numberOf 111 = .ok (.ishl, 1) := by decide +kernel
theorem d_C_numberOf_112 : decode b_C_numberOf 112 = .ok (.ior, 1) := by decide +kernel
theorem d_C_numberOf_113 : decode b_C_numberOf 113 = .ok (.ireturn, 1) := by decide +kernel
theorem d_C_numberOf_114 : decode b_C_numberOf 114 = .ok (.iload_n 1, 1) := by decide +kernel
theorem d_C_numberOf_115 : decode b_C_numberOf 115 = .ok (.bipush 21, 2) := by decide +kernel
theorem d_C_numberOf_117 : decode b_C_numberOf 117 = .ok (.bipush 10, 2) := by decide +kernel
theorem d_C_numberOf_119 : decode b_C_numberOf 119 = .ok (.invokestatic 24, 3) := by decide +kernel
theorem d_C_numberOf_122 : decode b_C_numberOf 122 = .ok (.iconst 1, 1) := by decide +kernel
theorem d_C_numberOf_123 : decode b_C_numberOf 123 = .ok (.ishl, 1) := by decide +kernel
theorem d_C_numberOf_124 : decode b_C_numberOf 124 = .ok (.iload_n 1, 1) := by decide +kernel
theorem d_C_numberOf_125 : decode b_C_numberOf 125 = .ok (.bipush 20, 2) := by decide +kernel
theorem d_C_numberOf_127 : decode b_C_numberOf 127 = .ok (.iconst 1, 1) := by decide +kernel
theorem d_C_numberOf_128 : decode b_C_numberOf 128 = .ok (.invokestatic 24, 3) := by decide +kernel
theorem d_C_numberOf_131 : decode b_C_numberOf 131 = .ok (.bipush 11, 2) := by decide +kernel
theorem d_C_numberOf_133 : decode b_C_numberOf 133 = .ok (.ishl, 1) := by decide +kernel
theorem d_C_numberOf_134 : decode b_C_numberOf 134 = .ok (.ior, 1) := by decide +kernel
theorem d_C_numberOf_135 : decode b_C_numberOf 135 = .ok (.iload_n 1, 1) := by decide +kernel
theorem d_C_numberOf_136 : decode b_C_numberOf 136 = .ok (.bipush 12, 2) := by decide +kernel
theorem d_C_numberOf_138 : decode b_C_numberOf 138 = .ok (.bipush 8, 2) := by decide +kernel
theorem d_C_numberOf_140 : decode b_C_numberOf 140 = .ok (.invokestatic 24, 3) := by decide +kernel
theorem d_C_numberOf_143 : decode b_C_numberOf 143 = .ok (.bipush 12, 2) := by decide +kernel
theorem d_C_numberOf_145 : decode b_C_numberOf 145 = .ok (.ishl, 1) := by decide +kernel
theorem d_C_numberOf_146 : decode b_C_numberOf 146 = .ok (.ior, 1) := by decide +kernel
theorem d_C_numberOf_147 : decode b_C_numberOf 147 = .ok (.iload_n 1, 1) := by decide +kernel
theorem d_C_numberOf_148 : decode b_C_numberOf 148 = .ok (.bipush 31, 2) := by decide +kernel
theorem d_C_numberOf_150 : decode b_C_numberOf 150 = .ok (.ishr, 1) := by decide +kernel
theorem d_C_numberOf_151 : decode b_C_numberOf 151 = .ok (.bipush 20, 2) := by decide +kernel
theorem d_C_numberOf_153 : decode b_C_numberOf 153 = .ok (.ishl, 1) := by decide +kernel
theorem d_C_numberOf_154 : decode b_C_numberOf 154 = .ok (.ior, 1) := by decide +kernel
theorem d_C_numberOf_155 : decode b_C_numberOf 155 = .ok (.ireturn, 1) := by decide +kernel
theorem d_C_numberOf_156 : decode b_C_numberOf 156 = .ok (.iconst 0, 1) := by decide +kernel
theorem d_C_numberOf_157 : decode b_C_numberOf 157 = .ok (.ireturn, 1) := by decide +kernel
abbrev b_C_operationOf : ByteArray := prog_2_method_6_code
abbrev y_C_operationOf : MethodName := ⟨"TwoPass$Code", "operationOf", "(I)LTwoPass$Operation;"⟩
theorem kc_C_operationOf : (.code y_C_operationOf b_C_operationOf 3 (some (.object "TwoPass$Operation")) : Cond) ∈ tp_G := tp_Gm 1076 (by decide +kernel) (by decide +kernel)
def w_C_operationOf : List Cond := .code y_C_operationOf b_C_operationOf 3 (some (.object "TwoPass$Operation")) :: tp_G
theorem ks_C_operationOf : (.static y_C_operationOf : Cond) ∈ tp_G := tp_Gm 1075 (by decide +kernel) (by decide +kernel)
theorem d_C_operationOf_0 : decode b_C_operationOf 0 = .ok (.iconst 0, 1) := by decide +kernel
theorem d_C_operationOf_1 : decode b_C_operationOf 1 = .ok (.istore_n 1, 1) := by decide +kernel
theorem d_C_operationOf_2 : decode b_C_operationOf 2 = .ok (.iload_n 1, 1) := by decide +kernel
theorem d_C_operationOf_3 : decode b_C_operationOf 3 = .ok (.getstatic 28, 3) := by decide +kernel
theorem d_C_operationOf_6 : decode b_C_operationOf 6 = .ok (.arraylength, 1) := by decide +kernel
theorem d_C_operationOf_7 : decode b_C_operationOf 7 = .ok (.if_icmp .ge 45, 3) := by decide +kernel
theorem d_C_operationOf_10 : decode b_C_operationOf 10 = .ok (.getstatic 28, 3) := by decide +kernel
theorem d_C_operationOf_13 : decode b_C_operationOf 13 = .ok (.iload_n 1, 1) := by decide +kernel
theorem d_C_operationOf_14 : decode b_C_operationOf 14 = .ok (.aaload, 1) := by decide +kernel
theorem d_C_operationOf_15 : decode b_C_operationOf 15 = .ok (.getfield 15, 3) := by decide +kernel
theorem d_C_operationOf_18 : decode b_C_operationOf 18 = .ok (.invokestatic 32, 3) := by decide +kernel
theorem d_C_operationOf_21 : decode b_C_operationOf 21 = .ok (.istore_n 2, 1) := by decide +kernel
theorem d_C_operationOf_22 : decode b_C_operationOf 22 = .ok (.iload_n 2, 1) := by decide +kernel
theorem d_C_operationOf_23 : decode b_C_operationOf 23 = .ok (.ifCond .eq 23, 3) := by decide +kernel
theorem d_C_operationOf_26 : decode b_C_operationOf 26 = .ok (.iload_n 0, 1) := by decide +kernel
theorem d_C_operationOf_27 : decode b_C_operationOf 27 = .ok (.iload_n 2, 1) := by decide +kernel
theorem d_C_operationOf_28 : decode b_C_operationOf 28 = .ok (.iand, 1) := by decide +kernel
theorem d_C_operationOf_29 : decode b_C_operationOf 29 = .ok (.getstatic 28, 3) := by decide +kernel
theorem d_C_operationOf_32 : decode b_C_operationOf 32 = .ok (.iload_n 1, 1) := by decide +kernel
theorem d_C_operationOf_33 : decode b_C_operationOf 33 = .ok (.aaload, 1) := by decide +kernel
theorem d_C_operationOf_34 : decode b_C_operationOf 34 = .ok (.getfield 9, 3) := by decide +kernel
theorem d_C_operationOf_37 : decode b_C_operationOf 37 = .ok (.if_icmp .ne 9, 3) := by decide +kernel
theorem d_C_operationOf_40 : decode b_C_operationOf 40 = .ok (.getstatic 28, 3) := by decide +kernel
theorem d_C_operationOf_43 : decode b_C_operationOf 43 = .ok (.iload_n 1, 1) := by decide +kernel
theorem d_C_operationOf_44 : decode b_C_operationOf 44 = .ok (.aaload, 1) := by decide +kernel
theorem d_C_operationOf_45 : decode b_C_operationOf 45 = .ok (.areturn, 1) := by decide +kernel
theorem d_C_operationOf_46 : decode b_C_operationOf 46 = .ok (.iinc 1 1, 3) := by decide +kernel
theorem d_C_operationOf_49 : decode b_C_operationOf 49 = .ok (.goto (-47), 3) := by decide +kernel
theorem d_C_operationOf_52 : decode b_C_operationOf 52 = .ok (.getstatic 36, 3) := by decide +kernel
theorem d_C_operationOf_55 : decode b_C_operationOf 55 = .ok (.areturn, 1) := by decide +kernel
abbrev b_C_registerAt : ByteArray := prog_2_method_5_code
abbrev y_C_registerAt : MethodName := ⟨"TwoPass$Code", "registerAt", "(II)I"⟩
theorem kc_C_registerAt : (.code y_C_registerAt b_C_registerAt 2 (some .int) : Cond) ∈ tp_G := tp_Gm 1107 (by decide +kernel) (by decide +kernel)
def w_C_registerAt : List Cond := .code y_C_registerAt b_C_registerAt 2 (some .int) :: tp_G
theorem ks_C_registerAt : (.static y_C_registerAt : Cond) ∈ tp_G := tp_Gm 1106 (by decide +kernel) (by decide +kernel)
theorem d_C_registerAt_0 : decode b_C_registerAt 0 = .ok (.iload_n 0, 1) := by decide +kernel
theorem d_C_registerAt_1 : decode b_C_registerAt 1 = .ok (.iload_n 1, 1) := by decide +kernel
theorem d_C_registerAt_2 : decode b_C_registerAt 2 = .ok (.iconst 5, 1) := by decide +kernel
theorem d_C_registerAt_3 : decode b_C_registerAt 3 = .ok (.invokestatic 24, 3) := by decide +kernel
theorem d_C_registerAt_6 : decode b_C_registerAt 6 = .ok (.ireturn, 1) := by decide +kernel
abbrev b_AS_setLength : ByteArray := prog_10_method_13_code
abbrev y_AS_setLength : MethodName := ⟨"java/lang/AbstractStringBuilder", "setLength", "(I)V"⟩
theorem kc_AS_setLength : (.code y_AS_setLength b_AS_setLength 2 none : Cond) ∈ tp_G := tp_Gm 832 (by decide +kernel) (by decide +kernel)
def w_AS_setLength : List Cond := .code y_AS_setLength b_AS_setLength 2 none :: tp_G
theorem km_AS_setLength : (.instanceMethod y_AS_setLength : Cond) ∈ tp_G := tp_Gm 831 (by decide +kernel) (by decide +kernel)
theorem d_AS_setLength_0 : decode b_AS_setLength 0 = .ok (.iload_n 1, 1) := by decide +kernel
theorem d_AS_setLength_1 : decode b_AS_setLength 1 = .ok (.ifCond .ge 12, 3) := by decide +kernel
theorem d_AS_setLength_4 : decode b_AS_setLength 4 = .ok (.new 129, 3) := by decide +kernel
theorem d_AS_setLength_7 : decode b_AS_setLength 7 = .ok (.dup, 1) := by decide +kernel
theorem d_AS_setLength_8 : decode b_AS_setLength 8 = .ok (.iload_n 1, 1) := by decide +kernel
theorem d_AS_setLength_9 : decode b_AS_setLength 9 = .ok (.invokespecial 131, 3) := by decide +kernel
theorem d_AS_setLength_12 : decode b_AS_setLength 12 = .ok (.athrow, 1) := by decide +kernel
theorem d_AS_setLength_13 : decode b_AS_setLength 13 = .ok (.aload_n 0, 1) := by decide +kernel
theorem d_AS_setLength_14 : decode b_AS_setLength 14 = .ok (.iload_n 1, 1) := by decide +kernel
theorem d_AS_setLength_15 : decode b_AS_setLength 15 = .ok (.invokevirtual 100, 3) := by decide +kernel
theorem d_AS_setLength_18 : decode b_AS_setLength 18 = .ok (.aload_n 0, 1) := by decide +kernel
theorem d_AS_setLength_19 : decode b_AS_setLength 19 = .ok (.getfield 79, 3) := by decide +kernel
theorem d_AS_setLength_22 : decode b_AS_setLength 22 = .ok (.iload_n 1, 1) := by decide +kernel
theorem d_AS_setLength_23 : decode b_AS_setLength 23 = .ok (.if_icmp .ge 40, 3) := by decide +kernel
theorem d_AS_setLength_26 : decode b_AS_setLength 26 = .ok (.aload_n 0, 1) := by decide +kernel
theorem d_AS_setLength_27 : decode b_AS_setLength 27 = .ok (.invokevirtual 83, 3) := by decide +kernel
theorem d_AS_setLength_30 : decode b_AS_setLength 30 = .ok (.ifCond .eq 18, 3) := by decide +kernel
theorem d_AS_setLength_33 : decode b_AS_setLength 33 = .ok (.aload_n 0, 1) := by decide +kernel
theorem d_AS_setLength_34 : decode b_AS_setLength 34 = .ok (.getfield 15, 3) := by decide +kernel
theorem d_AS_setLength_37 : decode b_AS_setLength 37 = .ok (.aload_n 0, 1) := by decide +kernel
theorem d_AS_setLength_38 : decode b_AS_setLength 38 = .ok (.getfield 79, 3) := by decide +kernel
theorem d_AS_setLength_41 : decode b_AS_setLength 41 = .ok (.iload_n 1, 1) := by decide +kernel
theorem d_AS_setLength_42 : decode b_AS_setLength 42 = .ok (.invokestatic 133, 3) := by decide +kernel
theorem d_AS_setLength_45 : decode b_AS_setLength 45 = .ok (.goto 31, 3) := by decide +kernel
theorem d_AS_setLength_48 : decode b_AS_setLength 48 = .ok (.aload_n 0, 1) := by decide +kernel
theorem d_AS_setLength_49 : decode b_AS_setLength 49 = .ok (.getfield 15, 3) := by decide +kernel
theorem d_AS_setLength_52 : decode b_AS_setLength 52 = .ok (.aload_n 0, 1) := by decide +kernel
theorem d_AS_setLength_53 : decode b_AS_setLength 53 = .ok (.getfield 79, 3) := by decide +kernel
theorem d_AS_setLength_56 : decode b_AS_setLength 56 = .ok (.iload_n 1, 1) := by decide +kernel
theorem d_AS_setLength_57 : decode b_AS_setLength 57 = .ok (.invokestatic 137, 3) := by decide +kernel
theorem d_AS_setLength_60 : decode b_AS_setLength 60 = .ok (.goto 16, 3) := by decide +kernel
theorem d_AS_setLength_63 : decode b_AS_setLength 63 = .ok (.aload_n 0, 1) := by decide +kernel
theorem d_AS_setLength_64 : decode b_AS_setLength 64 = .ok (.getfield 79, 3) := by decide +kernel
theorem d_AS_setLength_67 : decode b_AS_setLength 67 = .ok (.iload_n 1, 1) := by decide +kernel
theorem d_AS_setLength_68 : decode b_AS_setLength 68 = .ok (.if_icmp .le 8, 3) := by decide +kernel
theorem d_AS_setLength_71 : decode b_AS_setLength 71 = .ok (.aload_n 0, 1) := by decide +kernel
theorem d_AS_setLength_72 : decode b_AS_setLength 72 = .ok (.iconst 1, 1) := by decide +kernel
theorem d_AS_setLength_73 : decode b_AS_setLength 73 = .ok (.putfield 73, 3) := by decide +kernel
theorem d_AS_setLength_76 : decode b_AS_setLength 76 = .ok (.aload_n 0, 1) := by decide +kernel
theorem d_AS_setLength_77 : decode b_AS_setLength 77 = .ok (.iload_n 1, 1) := by decide +kernel
theorem d_AS_setLength_78 : decode b_AS_setLength 78 = .ok (.putfield 79, 3) := by decide +kernel
theorem d_AS_setLength_81 : decode b_AS_setLength 81 = .ok (.return_, 1) := by decide +kernel
abbrev b_SB_setLength : ByteArray := prog_23_method_89_code
abbrev y_SB_setLength : MethodName := ⟨"java/lang/StringBuilder", "setLength", "(I)V"⟩
theorem kc_SB_setLength : (.code y_SB_setLength b_SB_setLength 2 none : Cond) ∈ tp_G := tp_Gm 829 (by decide +kernel) (by decide +kernel)
def w_SB_setLength : List Cond := .code y_SB_setLength b_SB_setLength 2 none :: tp_G
theorem km_SB_setLength : (.instanceMethod y_SB_setLength : Cond) ∈ tp_G := tp_Gm 827 (by decide +kernel) (by decide +kernel)
theorem kv_SB_SB_setLength : (.selects "java/lang/StringBuilder" y_SB_setLength y_SB_setLength : Cond) ∈ tp_G := tp_Gm 828 (by decide +kernel) (by decide +kernel)
theorem d_SB_setLength_0 : decode b_SB_setLength 0 = .ok (.aload_n 0, 1) := by decide +kernel
theorem d_SB_setLength_1 : decode b_SB_setLength 1 = .ok (.iload_n 1, 1) := by decide +kernel
theorem d_SB_setLength_2 : decode b_SB_setLength 2 = .ok (.invokespecial 333, 3) := by decide +kernel
theorem d_SB_setLength_5 : decode b_SB_setLength 5 = .ok (.return_, 1) := by decide +kernel
theorem kl_T_131 : (.methodLink "TwoPass" 131 y_SB_setLength : Cond) ∈ tp_G := tp_Gm 826 (by decide +kernel) (by decide +kernel)
theorem kl_T_134 : (.methodLink "TwoPass" 134 y_C_operationOf : Cond) ∈ tp_G := tp_Gm 1074 (by decide +kernel) (by decide +kernel)
theorem kl_T_140 : (.fieldLink "TwoPass" 140 "TwoPass$Operation" "NONE" "LTwoPass$Operation;" : Cond) ∈ tp_G := tp_Gm 1084 (by decide +kernel) (by decide +kernel)
theorem kl_T_146 : (.fieldLink "TwoPass" 146 "TwoPass$Operation" "text" "Ljava/lang/String;" : Cond) ∈ tp_G := tp_Gm 1596 (by decide +kernel) (by decide +kernel)
theorem kl_T_150 : (.methodLink "TwoPass" 150 y_SB_append_2 : Cond) ∈ tp_G := tp_Gm 1085 (by decide +kernel) (by decide +kernel)
theorem kl_T_154 : (.methodLink "TwoPass" 154 y_SB_append_0 : Cond) ∈ tp_G := tp_Gm 1086 (by decide +kernel) (by decide +kernel)
theorem kl_T_157 : (.fieldLink "TwoPass" 157 "TwoPass$Operation" "operands" "Ljava/lang/String;" : Cond) ∈ tp_G := tp_Gm 1597 (by decide +kernel) (by decide +kernel)
theorem kl_T_160 : (.methodLink "TwoPass" 160 y_ST_length : Cond) ∈ tp_G := tp_Gm 1099 (by decide +kernel) (by decide +kernel)
theorem kl_T_164 : (.methodLink "TwoPass" 164 y_ST_charAt : Cond) ∈ tp_G := tp_Gm 1100 (by decide +kernel) (by decide +kernel)
theorem kl_T_168 : (.methodLink "TwoPass" 168 y_T_writeOperand : Cond) ∈ tp_G := tp_Gm 1101 (by decide +kernel) (by decide +kernel)
theorem kl_T_229 : (.methodLink "TwoPass" 229 y_C_registerAt : Cond) ∈ tp_G := tp_Gm 1105 (by decide +kernel) (by decide +kernel)
theorem kl_T_232 : (.methodLink "TwoPass" 232 y_T_writeRegister : Cond) ∈ tp_G := tp_Gm 1108 (by decide +kernel) (by decide +kernel)
theorem kl_T_235 : (.methodLink "TwoPass" 235 y_C_numberOf : Cond) ∈ tp_G := tp_Gm 1113 (by decide +kernel) (by decide +kernel)
theorem kl_T_238 : (.methodLink "TwoPass" 238 y_SB_append_1 : Cond) ∈ tp_G := tp_Gm 1112 (by decide +kernel) (by decide +kernel)
theorem kl_C_40 : (.constant "TwoPass$Code" 40 (-33525633) : Cond) ∈ tp_G := tp_Gm 1081 (by decide +kernel) (by decide +kernel)
theorem kl_C_41 : (.constant "TwoPass$Code" 41 (-67080065) : Cond) ∈ tp_G := tp_Gm 1082 (by decide +kernel) (by decide +kernel)
theorem kl_C_24 : (.methodLink "TwoPass$Code" 24 y_C_bits : Cond) ∈ tp_G := tp_Gm 747 (by decide +kernel) (by decide +kernel)
theorem kl_C_15 : (.fieldLink "TwoPass$Code" 15 "TwoPass$Operation" "layout" "I" : Cond) ∈ tp_G := tp_Gm 1595 (by decide +kernel) (by decide +kernel)
theorem kl_C_32 : (.methodLink "TwoPass$Code" 32 y_C_fixedBits : Cond) ∈ tp_G := tp_Gm 1078 (by decide +kernel) (by decide +kernel)
theorem kl_C_9 : (.fieldLink "TwoPass$Code" 9 "TwoPass$Operation" "code" "I" : Cond) ∈ tp_G := tp_Gm 1594 (by decide +kernel) (by decide +kernel)
theorem kl_C_36 : (.fieldLink "TwoPass$Code" 36 "TwoPass$Operation" "NONE" "LTwoPass$Operation;" : Cond) ∈ tp_G := tp_Gm 1083 (by decide +kernel) (by decide +kernel)
theorem kl_AS_129 : (.classLink "java/lang/AbstractStringBuilder" 129 "java/lang/StringIndexOutOfBoundsException" : Cond) ∈ tp_G := tp_Gm 833 (by decide +kernel) (by decide +kernel)
theorem kl_AS_131 : (.methodLink "java/lang/AbstractStringBuilder" 131 ⟨"java/lang/StringIndexOutOfBoundsException", "<init>", "(I)V"⟩ : Cond) ∈ tp_G := tp_Gm 835 (by decide +kernel) (by decide +kernel)
abbrev b_SL_fillNull : ByteArray := prog_25_method_48_code
abbrev y_SL_fillNull : MethodName := ⟨"java/lang/StringLatin1", "fillNull", "([BII)V"⟩
theorem kc_SL_fillNull : (.code y_SL_fillNull b_SL_fillNull 3 none : Cond) ∈ tp_G := tp_Gm 1041 (by decide +kernel) (by decide +kernel)
def w_SL_fillNull : List Cond := .code y_SL_fillNull b_SL_fillNull 3 none :: tp_G
theorem ks_SL_fillNull : (.static y_SL_fillNull : Cond) ∈ tp_G := tp_Gm 1040 (by decide +kernel) (by decide +kernel)
theorem kl_AS_133 : (.methodLink "java/lang/AbstractStringBuilder" 133 y_SL_fillNull : Cond) ∈ tp_G := tp_Gm 1039 (by decide +kernel) (by decide +kernel)
abbrev b_SU_fillNull : ByteArray := prog_26_method_70_code
abbrev y_SU_fillNull : MethodName := ⟨"java/lang/StringUTF16", "fillNull", "([BII)V"⟩
theorem kc_SU_fillNull : (.code y_SU_fillNull b_SU_fillNull 3 none : Cond) ∈ tp_G := tp_Gm 1072 (by decide +kernel) (by decide +kernel)
def w_SU_fillNull : List Cond := .code y_SU_fillNull b_SU_fillNull 3 none :: tp_G
theorem ks_SU_fillNull : (.static y_SU_fillNull : Cond) ∈ tp_G := tp_Gm 1071 (by decide +kernel) (by decide +kernel)
theorem kl_AS_137 : (.methodLink "java/lang/AbstractStringBuilder" 137 y_SU_fillNull : Cond) ∈ tp_G := tp_Gm 1070 (by decide +kernel) (by decide +kernel)
theorem kl_AS_73 : (.fieldLink "java/lang/AbstractStringBuilder" 73 "java/lang/AbstractStringBuilder" "maybeLatin1" "Z" : Cond) ∈ tp_G := tp_Gm 192 (by decide +kernel) (by decide +kernel)
theorem kq_AS_setLength : (.sameMethod "java/lang/AbstractStringBuilder" "java/lang/AbstractStringBuilder" "setLength" "(I)V" : Cond) ∈ tp_G := tp_Gm 1563 (by decide +kernel) (by decide +kernel)
theorem kl_SB_333 : (.methodLink "java/lang/StringBuilder" 333 y_AS_setLength : Cond) ∈ tp_G := tp_Gm 830 (by decide +kernel) (by decide +kernel)
