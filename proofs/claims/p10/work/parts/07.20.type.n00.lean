abbrev b_T_characterOf : ByteArray := prog_1_method_12_code
abbrev y_T_characterOf : MethodName := ⟨"TwoPass", "characterOf", "(JII)I"⟩
theorem kc_T_characterOf : (.code y_T_characterOf b_T_characterOf 4 (some .int) : Cond) ∈ tp_G := tp_Gm 300 (by decide +kernel) (by decide +kernel)
def w_T_characterOf : List Cond := .code y_T_characterOf b_T_characterOf 4 (some .int) :: tp_G
theorem ks_T_characterOf : (.static y_T_characterOf : Cond) ∈ tp_G := tp_Gm 299 (by decide +kernel) (by decide +kernel)
theorem d_T_characterOf_0 : decode b_T_characterOf 0 = .ok (.lload_n 0, 1) := by decide +kernel
theorem d_T_characterOf_1 : decode b_T_characterOf 1 = .ok (.bipush 8, 2) := by decide +kernel
theorem d_T_characterOf_3 : decode b_T_characterOf 3 = .ok (.iload_n 2, 1) := by decide +kernel
theorem d_T_characterOf_4 : decode b_T_characterOf 4 = .ok (.iconst 1, 1) := by decide +kernel
theorem d_T_characterOf_5 : decode b_T_characterOf 5 = .ok (.isub, 1) := by decide +kernel
theorem d_T_characterOf_6 : decode b_T_characterOf 6 = .ok (.iload_n 3, 1) := by decide +kernel
theorem d_T_characterOf_7 : decode b_T_characterOf 7 = .ok (.isub, 1) := by decide +kernel
theorem d_T_characterOf_8 : decode b_T_characterOf 8 = .ok (.imul, 1) := by decide +kernel
theorem d_T_characterOf_9 : decode b_T_characterOf 9 = .ok (.lushr, 1) := by decide +kernel
theorem d_T_characterOf_10 : decode b_T_characterOf 10 = .ok (.l2i, 1) := by decide +kernel
theorem d_T_characterOf_11 : decode b_T_characterOf 11 = .ok (.sipush 255, 3) := by decide +kernel
theorem d_T_characterOf_14 : decode b_T_characterOf 14 = .ok (.iand, 1) := by decide +kernel
theorem d_T_characterOf_15 : decode b_T_characterOf 15 = .ok (.ireturn, 1) := by decide +kernel
abbrev b_T_type : ByteArray := prog_1_method_2_code
abbrev y_T_type : MethodName := ⟨"TwoPass", "type", "(JI)V"⟩
theorem kc_T_type : (.code y_T_type b_T_type 6 none : Cond) ∈ tp_G := tp_Gm 229 (by decide +kernel) (by decide +kernel)
def w_T_type : List Cond := .code y_T_type b_T_type 6 none :: tp_G
theorem km_T_type : (.instanceMethod y_T_type : Cond) ∈ tp_G := tp_Gm 227 (by decide +kernel) (by decide +kernel)
theorem kv_T_T_type : (.selects "TwoPass" y_T_type y_T_type : Cond) ∈ tp_G := tp_Gm 228 (by decide +kernel) (by decide +kernel)
theorem d_T_type_0 : decode b_T_type 0 = .ok (.iload_n 3, 1) := by decide +kernel
theorem d_T_type_1 : decode b_T_type 1 = .ok (.iconst 1, 1) := by decide +kernel
theorem d_T_type_2 : decode b_T_type 2 = .ok (.if_icmp .lt 9, 3) := by decide +kernel
theorem d_T_type_5 : decode b_T_type 5 = .ok (.iload_n 3, 1) := by decide +kernel
theorem d_T_type_6 : decode b_T_type 6 = .ok (.bipush 8, 2) := by decide +kernel
theorem d_T_type_8 : decode b_T_type 8 = .ok (.if_icmp .le 11, 3) := by decide +kernel
theorem d_T_type_11 : decode b_T_type 11 = .ok (.new 38, 3) := by decide +kernel
theorem d_T_type_14 : decode b_T_type 14 = .ok (.dup, 1) := by decide +kernel
theorem d_T_type_15 : decode b_T_type 15 = .ok (.invokespecial 40, 3) := by decide +kernel
theorem d_T_type_18 : decode b_T_type 18 = .ok (.athrow, 1) := by decide +kernel
theorem d_T_type_19 : decode b_T_type 19 = .ok (.iconst 0, 1) := by decide +kernel
theorem d_T_type_20 : decode b_T_type 20 = .ok (.istore 4, 2) := by decide +kernel
theorem d_T_type_22 : decode b_T_type 22 = .ok (.iload 4, 2) := by decide +kernel
theorem d_T_type_24 : decode b_T_type 24 = .ok (.iload_n 3, 1) := by decide +kernel
theorem d_T_type_25 : decode b_T_type 25 = .ok (.if_icmp .ge 40, 3) := by decide +kernel
theorem d_T_type_28 : decode b_T_type 28 = .ok (.lload_n 1, 1) := by decide +kernel
theorem d_T_type_29 : decode b_T_type 29 = .ok (.iload_n 3, 1) := by decide +kernel
theorem d_T_type_30 : decode b_T_type 30 = .ok (.iload 4, 2) := by decide +kernel
theorem d_T_type_32 : decode b_T_type 32 = .ok (.invokestatic 41, 3) := by decide +kernel
theorem d_T_type_35 : decode b_T_type 35 = .ok (.istore 5, 2) := by decide +kernel
theorem d_T_type_37 : decode b_T_type 37 = .ok (.iload 5, 2) := by decide +kernel
theorem d_T_type_39 : decode b_T_type 39 = .ok (.bipush 32, 2) := by decide +kernel
theorem d_T_type_41 : decode b_T_type 41 = .ok (.if_icmp .lt 10, 3) := by decide +kernel
theorem d_T_type_44 : decode b_T_type 44 = .ok (.iload 5, 2) := by decide +kernel
theorem d_T_type_46 : decode b_T_type 46 = .ok (.bipush 126, 2) := by decide +kernel
theorem d_T_type_48 : decode b_T_type 48 = .ok (.if_icmp .le 11, 3) := by decide +kernel
theorem d_T_type_51 : decode b_T_type 51 = .ok (.new 38, 3) := by decide +kernel
theorem d_T_type_54 : decode b_T_type 54 = .ok (.dup, 1) := by decide +kernel
theorem d_T_type_55 : decode b_T_type 55 = .ok (.invokespecial 40, 3) := by decide +kernel
theorem d_T_type_58 : decode b_T_type 58 = .ok (.athrow, 1) := by decide +kernel
theorem d_T_type_59 : decode b_T_type 59 = .ok (.iinc 4 1, 3) := by decide +kernel
theorem d_T_type_62 : decode b_T_type 62 = .ok (.goto (-40), 3) := by decide +kernel
theorem d_T_type_65 : decode b_T_type 65 = .ok (.aload_n 0, 1) := by decide +kernel
theorem d_T_type_66 : decode b_T_type 66 = .ok (.getfield 10, 3) := by decide +kernel
theorem d_T_type_69 : decode b_T_type 69 = .ok (.getfield 45, 3) := by decide +kernel
theorem d_T_type_72 : decode b_T_type 72 = .ok (.iload_n 3, 1) := by decide +kernel
theorem d_T_type_73 : decode b_T_type 73 = .ok (.iadd, 1) := by decide +kernel
theorem d_T_type_74 : decode b_T_type 74 = .ok (.bipush 28, 2) := by decide +kernel
theorem d_T_type_76 : decode b_T_type 76 = .ok (.if_icmp .le 11, 3) := by decide +kernel
theorem d_T_type_79 : decode b_T_type 79 = .ok (.new 48, 3) := by decide +kernel
theorem d_T_type_82 : decode b_T_type 82 = .ok (.dup, 1) := by decide +kernel
theorem d_T_type_83 : decode b_T_type 83 = .ok (.invokespecial 50, 3) := by decide +kernel
theorem d_T_type_86 : decode b_T_type 86 = .ok (.athrow, 1) := by decide +kernel
theorem d_T_type_87 : decode b_T_type 87 = .ok (.iconst 0, 1) := by decide +kernel
theorem d_T_type_88 : decode b_T_type 88 = .ok (.istore 4, 2) := by decide +kernel
theorem d_T_type_90 : decode b_T_type 90 = .ok (.iload 4, 2) := by decide +kernel
theorem d_T_type_92 : decode b_T_type 92 = .ok (.iload_n 3, 1) := by decide +kernel
theorem d_T_type_93 : decode b_T_type 93 = .ok (.if_icmp .ge 24, 3) := by decide +kernel
theorem d_T_type_96 : decode b_T_type 96 = .ok (.aload_n 0, 1) := by decide +kernel
theorem d_T_type_97 : decode b_T_type 97 = .ok (.getfield 10, 3) := by decide +kernel
theorem d_T_type_100 : decode b_T_type 100 = .ok (.lload_n 1, 1) := by decide +kernel
theorem d_T_type_101 : decode b_T_type 101 = .ok (.iload_n 3, 1) := by decide +kernel
theorem d_T_type_102 : decode b_T_type 102 = .ok (.iload 4, 2) := by decide +kernel
theorem d_T_type_104 : decode b_T_type 104 = .ok (.invokestatic 41, 3) := by decide +kernel
theorem d_T_type_107 : decode b_T_type 107 = .ok (.i2c, 1) := by decide +kernel
theorem d_T_type_108 : decode b_T_type 108 = .ok (.invokevirtual 51, 3) := by decide +kernel
theorem d_T_type_111 : decode b_T_type 111 = .ok (.iinc 4 1, 3) := by decide +kernel
theorem d_T_type_114 : decode b_T_type 114 = .ok (.goto (-24), 3) := by decide +kernel
theorem d_T_type_117 : decode b_T_type 117 = .ok (.return_, 1) := by decide +kernel
abbrev b_Y_add : ByteArray := prog_6_method_2_code
abbrev y_Y_add : MethodName := ⟨"TwoPass$Typed", "add", "(C)V"⟩
theorem kc_Y_add : (.code y_Y_add b_Y_add 2 none : Cond) ∈ tp_G := tp_Gm 319 (by decide +kernel) (by decide +kernel)
def w_Y_add : List Cond := .code y_Y_add b_Y_add 2 none :: tp_G
theorem km_Y_add : (.instanceMethod y_Y_add : Cond) ∈ tp_G := tp_Gm 317 (by decide +kernel) (by decide +kernel)
theorem kv_Y_Y_add : (.selects "TwoPass$Typed" y_Y_add y_Y_add : Cond) ∈ tp_G := tp_Gm 318 (by decide +kernel) (by decide +kernel)
theorem d_Y_add_0 : decode b_Y_add 0 = .ok (.aload_n 0, 1) := by decide +kernel
theorem d_Y_add_1 : decode b_Y_add 1 = .ok (.getfield 9, 3) := by decide +kernel
theorem d_Y_add_4 : decode b_Y_add 4 = .ok (.aload_n 0, 1) := by decide +kernel
theorem d_Y_add_5 : decode b_Y_add 5 = .ok (.getfield 15, 3) := by decide +kernel
theorem d_Y_add_8 : decode b_Y_add 8 = .ok (.iload_n 1, 1) := by decide +kernel
theorem d_Y_add_9 : decode b_Y_add 9 = .ok (.castore, 1) := by decide +kernel
theorem d_Y_add_10 : decode b_Y_add 10 = .ok (.aload_n 0, 1) := by decide +kernel
theorem d_Y_add_11 : decode b_Y_add 11 = .ok (.dup, 1) := by decide +kernel
theorem d_Y_add_12 : decode b_Y_add 12 = .ok (.getfield 15, 3) := by decide +kernel
theorem d_Y_add_15 : decode b_Y_add 15 = .ok (.iconst 1, 1) := by decide +kernel
theorem d_Y_add_16 : decode b_Y_add 16 = .ok (.iadd, 1) := by decide +kernel
theorem d_Y_add_17 : decode b_Y_add 17 = .ok (.putfield 15, 3) := by decide +kernel
theorem d_Y_add_20 : decode b_Y_add 20 = .ok (.return_, 1) := by decide +kernel
abbrev b_M_type : ByteArray := prog_8_method_22_code
abbrev y_M_type : MethodName := ⟨"TwoPassModel", "type", "(JI)V"⟩
theorem kc_M_type : (.code y_M_type b_M_type 8 none : Cond) ∈ tp_G := tp_Gm 1352 (by decide +kernel) (by decide +kernel)
def w_M_type : List Cond := .code y_M_type b_M_type 8 none :: tp_G
theorem km_M_type : (.instanceMethod y_M_type : Cond) ∈ tp_G := tp_Gm 1350 (by decide +kernel) (by decide +kernel)
theorem kv_M_M_type : (.selects "TwoPassModel" y_M_type y_M_type : Cond) ∈ tp_G := tp_Gm 1351 (by decide +kernel) (by decide +kernel)
theorem d_M_type_0 : decode b_M_type 0 = .ok (.iload_n 3, 1) := by decide +kernel
theorem d_M_type_1 : decode b_M_type 1 = .ok (.iconst 1, 1) := by decide +kernel
theorem d_M_type_2 : decode b_M_type 2 = .ok (.if_icmp .lt 13, 3) := by decide +kernel
theorem d_M_type_5 : decode b_M_type 5 = .ok (.iload_n 3, 1) := by decide +kernel
theorem d_M_type_6 : decode b_M_type 6 = .ok (.bipush 8, 2) := by decide +kernel
theorem d_M_type_8 : decode b_M_type 8 = .ok (.if_icmp .gt 7, 3) := by decide +kernel
theorem d_M_type_11 : decode b_M_type 11 = .ok (.iconst 1, 1) := by decide +kernel
theorem d_M_type_12 : decode b_M_type 12 = .ok (.goto 4, 3) := by decide +kernel
theorem d_M_type_15 : decode b_M_type 15 = .ok (.iconst 0, 1) := by decide +kernel
theorem d_M_type_16 : decode b_M_type 16 = .ok (.istore 4, 2) := by decide +kernel
theorem d_M_type_18 : decode b_M_type 18 = .ok (.iconst 0, 1) := by decide +kernel
theorem d_M_type_19 : decode b_M_type 19 = .ok (.istore 5, 2) := by decide +kernel
theorem d_M_type_21 : decode b_M_type 21 = .ok (.iload 5, 2) := by decide +kernel
theorem d_M_type_23 : decode b_M_type 23 = .ok (.iload_n 3, 1) := by decide +kernel
theorem d_M_type_24 : decode b_M_type 24 = .ok (.if_icmp .ge 52, 3) := by decide +kernel
theorem d_M_type_27 : decode b_M_type 27 = .ok (.iload 4, 2) := by decide +kernel
theorem d_M_type_29 : decode b_M_type 29 = .ok (.ifCond .eq 47, 3) := by decide +kernel
theorem d_M_type_32 : decode b_M_type 32 = .ok (.lload_n 1, 1) := by decide +kernel
theorem d_M_type_33 : decode b_M_type 33 = .ok (.bipush 8, 2) := by decide +kernel
theorem d_M_type_35 : decode b_M_type 35 = .ok (.iload 5, 2) := by decide +kernel
theorem d_M_type_37 : decode b_M_type 37 = .ok (.imul, 1) := by decide +kernel
theorem d_M_type_38 : decode b_M_type 38 = .ok (.lshr, 1) := by decide +kernel
theorem d_M_type_39 : decode b_M_type 39 = .ok (.ldc2_w 314, 3) := by decide +kernel
theorem d_M_type_42 : decode b_M_type 42 = .ok (.land, 1) := by decide +kernel
theorem d_M_type_43 : decode b_M_type 43 = .ok (.lstore 6, 2) := by decide +kernel
theorem d_M_type_45 : decode b_M_type 45 = .ok (.lload 6, 2) := by decide +kernel
theorem d_M_type_47 : decode b_M_type 47 = .ok (.ldc2_w 343, 3) := by decide +kernel
theorem d_M_type_50 : decode b_M_type 50 = .ok (.lcmp, 1) := by decide +kernel
theorem d_M_type_51 : decode b_M_type 51 = .ok (.ifCond .lt 16, 3) := by decide +kernel
theorem d_M_type_54 : decode b_M_type 54 = .ok (.lload 6, 2) := by decide +kernel
theorem d_M_type_56 : decode b_M_type 56 = .ok (.ldc2_w 345, 3) := by decide +kernel
theorem d_M_type_59 : decode b_M_type 59 = .ok (.lcmp, 1) := by decide +kernel
theorem d_M_type_60 : decode b_M_type 60 = .ok (.ifCond .gt 7, 3) := by decide +kernel
theorem d_M_type_63 : decode b_M_type 63 = .ok (.iconst 1, 1) := by decide +kernel
theorem d_M_type_64 : decode b_M_type 64 = .ok (.goto 4, 3) := by decide +kernel
theorem d_M_type_67 : decode b_M_type 67 = .ok (.iconst 0, 1) := by decide +kernel
theorem d_M_type_68 : decode b_M_type 68 = .ok (.istore 4, 2) := by decide +kernel
theorem d_M_type_70 : decode b_M_type 70 = .ok (.iinc 5 1, 3) := by decide +kernel
theorem d_M_type_73 : decode b_M_type 73 = .ok (.goto (-52), 3) := by decide +kernel
theorem d_M_type_76 : decode b_M_type 76 = .ok (.aload_n 0, 1) := by decide +kernel
theorem d_M_type_77 : decode b_M_type 77 = .ok (.iload 4, 2) := by decide +kernel
theorem d_M_type_79 : decode b_M_type 79 = .ok (.ifCond .ne 7, 3) := by decide +kernel
theorem d_M_type_82 : decode b_M_type 82 = .ok (.iconst 1, 1) := by decide +kernel
theorem d_M_type_83 : decode b_M_type 83 = .ok (.goto 19, 3) := by decide +kernel
theorem d_M_type_86 : decode b_M_type 86 = .ok (.aload_n 0, 1) := by decide +kernel
theorem d_M_type_87 : decode b_M_type 87 = .ok (.getfield 214, 3) := by decide +kernel
theorem d_M_type_90 : decode b_M_type 90 = .ok (.iload_n 3, 1) := by decide +kernel
theorem d_M_type_91 : decode b_M_type 91 = .ok (.iadd, 1) := by decide +kernel
theorem d_M_type_92 : decode b_M_type 92 = .ok (.bipush 28, 2) := by decide +kernel
theorem d_M_type_94 : decode b_M_type 94 = .ok (.if_icmp .le 7, 3) := by decide +kernel
theorem d_M_type_97 : decode b_M_type 97 = .ok (.iconst 2, 1) := by decide +kernel
theorem d_M_type_98 : decode b_M_type 98 = .ok (.goto 4, 3) := by decide +kernel
theorem d_M_type_101 : decode b_M_type 101 = .ok (.iconst 0, 1) := by decide +kernel
theorem d_M_type_102 : decode b_M_type 102 = .ok (.putfield 208, 3) := by decide +kernel
theorem d_M_type_105 : decode b_M_type 105 = .ok (.iload_n 3, 1) := by decide +kernel
theorem d_M_type_106 : decode b_M_type 106 = .ok (.iconst 1, 1) := by decide +kernel
theorem d_M_type_107 : decode b_M_type 107 = .ok (.isub, 1) := by decide +kernel
theorem d_M_type_108 : decode b_M_type 108 = .ok (.istore 5, 2) := by decide +kernel
theorem d_M_type_110 : decode b_M_type 110 = .ok (.iload 5, 2) := by decide +kernel
theorem d_M_type_112 : decode b_M_type 112 = .ok (.ifCond .lt 47, 3) := by decide +kernel
theorem d_M_type_115 : decode b_M_type 115 = .ok (.aload_n 0, 1) := by decide +kernel
theorem d_M_type_116 : decode b_M_type 116 = .ok (.getfield 208, 3) := by decide +kernel
theorem d_M_type_119 : decode b_M_type 119 = .ok (.ifCond .ne 40, 3) := by decide +kernel
theorem d_M_type_122 : decode b_M_type 122 = .ok (.aload_n 0, 1) := by decide +kernel
theorem d_M_type_123 : decode b_M_type 123 = .ok (.getfield 17, 3) := by decide +kernel
theorem d_M_type_126 : decode b_M_type 126 = .ok (.aload_n 0, 1) := by decide +kernel
theorem d_M_type_127 : decode b_M_type 127 = .ok (.getfield 214, 3) := by decide +kernel
theorem d_M_type_130 : decode b_M_type 130 = .ok (.lload_n 1, 1) := by decide +kernel
theorem d_M_type_131 : decode b_M_type 131 = .ok (.bipush 8, 2) := by decide +kernel
theorem d_M_type_133 : decode b_M_type 133 = .ok (.iload 5, 2) := by decide +kernel
theorem d_M_type_135 : decode b_M_type 135 = .ok (.imul, 1) := by decide +kernel
theorem d_M_type_136 : decode b_M_type 136 = .ok (.lshr, 1) := by decide +kernel
theorem d_M_type_137 : decode b_M_type 137 = .ok (.ldc2_w 314, 3) := by decide +kernel
theorem d_M_type_140 : decode b_M_type 140 = .ok (.land, 1) := by decide +kernel
theorem d_M_type_141 : decode b_M_type 141 = .ok (.l2i, 1) := by decide +kernel
theorem d_M_type_142 : decode b_M_type 142 = .ok (.iastore, 1) := by decide +kernel
theorem d_M_type_143 : decode b_M_type 143 = .ok (.aload_n 0, 1) := by decide +kernel
theorem d_M_type_144 : decode b_M_type 144 = .ok (.dup, 1) := by decide +kernel
theorem d_M_type_145 : decode b_M_type 145 = .ok (.getfield 214, 3) := by decide +kernel
theorem d_M_type_148 : decode b_M_type 148 = .ok (.iconst 1, 1) := by decide +kernel
theorem d_M_type_149 : decode b_M_type 149 = .ok (.iadd, 1) := by decide +kernel
theorem d_M_type_150 : decode b_M_type 150 = .ok (.putfield 214, 3) := by decide +kernel
theorem d_M_type_153 : decode b_M_type 153 = .ok (.iinc 5 (-1), 3) := by decide +kernel
theorem d_M_type_156 : decode b_M_type 156 = .ok (.goto (-46), 3) := by decide +kernel
theorem d_M_type_159 : decode b_M_type 159 = .ok (.return_, 1) := by decide +kernel
theorem kl_T_41 : (.methodLink "TwoPass" 41 y_T_characterOf : Cond) ∈ tp_G := tp_Gm 298 (by decide +kernel) (by decide +kernel)
theorem kl_T_45 : (.fieldLink "TwoPass" 45 "TwoPass$Typed" "count" "I" : Cond) ∈ tp_G := tp_Gm 115 (by decide +kernel) (by decide +kernel)
theorem kl_T_51 : (.methodLink "TwoPass" 51 y_Y_add : Cond) ∈ tp_G := tp_Gm 316 (by decide +kernel) (by decide +kernel)
theorem kl_M_314 : (.constantLong "TwoPassModel" 314 255 : Cond) ∈ tp_G := tp_Gm 1353 (by decide +kernel) (by decide +kernel)
theorem kl_M_343 : (.constantLong "TwoPassModel" 343 32 : Cond) ∈ tp_G := tp_Gm 1354 (by decide +kernel) (by decide +kernel)
theorem kl_M_345 : (.constantLong "TwoPassModel" 345 126 : Cond) ∈ tp_G := tp_Gm 1355 (by decide +kernel) (by decide +kernel)
