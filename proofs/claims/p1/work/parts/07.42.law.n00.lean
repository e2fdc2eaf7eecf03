abbrev b_M_layOut : ByteArray := prog_8_method_30_code
abbrev y_M_layOut : MethodName := ⟨"TwoPassModel", "layOut", "()I"⟩
theorem kc_M_layOut : (.code y_M_layOut b_M_layOut 5 (some .int) : Cond) ∈ tp_G := tp_Gm 1478 (by decide +kernel) (by decide +kernel)
def w_M_layOut : List Cond := .code y_M_layOut b_M_layOut 5 (some .int) :: tp_G
theorem km_M_layOut : (.instanceMethod y_M_layOut : Cond) ∈ tp_G := tp_Gm 1477 (by decide +kernel) (by decide +kernel)
theorem kp_M_layOut : (.selects "TwoPassModel" y_M_layOut y_M_layOut : Cond) ∈ tp_G := List.mem_filter.mpr ⟨by decide +kernel, by decide +kernel⟩
theorem d_M_layOut_0 : decode b_M_layOut 0 = .ok (.iconst 0, 1) := by decide +kernel
theorem d_M_layOut_1 : decode b_M_layOut 1 = .ok (.istore_n 1, 1) := by decide +kernel
theorem d_M_layOut_2 : decode b_M_layOut 2 = .ok (.iconst 0, 1) := by decide +kernel
theorem d_M_layOut_3 : decode b_M_layOut 3 = .ok (.istore_n 2, 1) := by decide +kernel
theorem d_M_layOut_4 : decode b_M_layOut 4 = .ok (.iload_n 2, 1) := by decide +kernel
theorem d_M_layOut_5 : decode b_M_layOut 5 = .ok (.iconst 2, 1) := by decide +kernel
theorem d_M_layOut_6 : decode b_M_layOut 6 = .ok (.if_icmp .ge 90, 3) := by decide +kernel
theorem d_M_layOut_9 : decode b_M_layOut 9 = .ok (.iload_n 1, 1) := by decide +kernel
theorem d_M_layOut_10 : decode b_M_layOut 10 = .ok (.iconst 3, 1) := by decide +kernel
theorem d_M_layOut_11 : decode b_M_layOut 11 = .ok (.iadd, 1) := by decide +kernel
theorem d_M_layOut_12 : decode b_M_layOut 12 = .ok (.iconst 4, 1) := by decide +kernel
theorem d_M_layOut_13 : decode b_M_layOut 13 = .ok (.idiv, 1) := by decide +kernel
theorem d_M_layOut_14 : decode b_M_layOut 14 = .ok (.iconst 4, 1) := by decide +kernel
theorem d_M_layOut_15 : decode b_M_layOut 15 = .ok (.imul, 1) := by decide +kernel
theorem d_M_layOut_16 : decode b_M_layOut 16 = .ok (.istore_n 1, 1) := by decide +kernel
theorem d_M_layOut_17 : decode b_M_layOut 17 = .ok (.iconst 0, 1) := by decide +kernel
theorem d_M_layOut_18 : decode b_M_layOut 18 = .ok (.istore_n 3, 1) := by decide +kernel
theorem d_M_layOut_19 : decode b_M_layOut 19 = .ok (.iload_n 3, 1) := by decide +kernel
theorem d_M_layOut_20 : decode b_M_layOut 20 = .ok (.aload_n 0, 1) := by decide +kernel
theorem d_M_layOut_21 : decode b_M_layOut 21 = .ok (.getfield 23, 3) := by decide +kernel
theorem d_M_layOut_24 : decode b_M_layOut 24 = .ok (.iload_n 2, 1) := by decide +kernel
theorem d_M_layOut_25 : decode b_M_layOut 25 = .ok (.iaload, 1) := by decide +kernel
theorem d_M_layOut_26 : decode b_M_layOut 26 = .ok (.if_icmp .ge 64, 3) := by decide +kernel
theorem d_M_layOut_29 : decode b_M_layOut 29 = .ok (.bipush 16, 2) := by decide +kernel
theorem d_M_layOut_31 : decode b_M_layOut 31 = .ok (.iload_n 2, 1) := by decide +kernel
theorem d_M_layOut_32 : decode b_M_layOut 32 = .ok (.imul, 1) := by decide +kernel
theorem d_M_layOut_33 : decode b_M_layOut 33 = .ok (.iload_n 3, 1) := by decide +kernel
theorem d_M_layOut_34 : decode b_M_layOut 34 = .ok (.iadd, 1) := by decide +kernel
theorem d_M_layOut_35 : decode b_M_layOut 35 = .ok (.istore 4, 2) := by decide +kernel
theorem d_M_layOut_37 : decode b_M_layOut 37 = .ok (.aload_n 0, 1) := by decide +kernel
theorem d_M_layOut_38 : decode b_M_layOut 38 = .ok (.getfield 26, 3) := by decide +kernel
theorem d_M_layOut_41 : decode b_M_layOut 41 = .ok (.iload 4, 2) := by decide +kernel
theorem d_M_layOut_43 : decode b_M_layOut 43 = .ok (.iaload, 1) := by decide +kernel
theorem d_M_layOut_44 : decode b_M_layOut 44 = .ok (.ifCond .le 23, 3) := by decide +kernel
theorem d_M_layOut_47 : decode b_M_layOut 47 = .ok (.aload_n 0, 1) := by decide +kernel
theorem d_M_layOut_48 : decode b_M_layOut 48 = .ok (.getfield 26, 3) := by decide +kernel
theorem d_M_layOut_51 : decode b_M_layOut 51 = .ok (.iload 4, 2) := by decide +kernel
theorem d_M_layOut_53 : decode b_M_layOut 53 = .ok (.iaload, 1) := by decide +kernel
theorem d_M_layOut_54 : decode b_M_layOut 54 = .ok (.bipush 11, 2) := by decide +kernel
theorem d_M_layOut_56 : decode b_M_layOut 56 = .ok (.if_icmp .ge 11, 3) := by decide +kernel
theorem d_M_layOut_59 : decode b_M_layOut 59 = .ok (.iload_n 1, 1) := by decide +kernel
theorem d_M_layOut_60 : decode b_M_layOut 60 = .ok (.iconst 3, 1) := by decide +kernel
theorem d_M_layOut_61 : decode b_M_layOut 61 = .ok (.iadd, 1) := by decide +kernel
theorem d_M_layOut_62 : decode b_M_layOut 62 = .ok (.iconst 4, 1) := by decide +kernel
theorem d_M_layOut_63 : decode b_M_layOut 63 = .ok (.idiv, 1) := by decide +kernel
theorem d_M_layOut_64 : decode b_M_layOut 64 = .ok (.iconst 4, 1) := by decide +kernel
theorem d_M_layOut_65 : decode b_M_layOut 65 = .ok (.imul, 1) := by decide +kernel
theorem d_M_layOut_66 : decode b_M_layOut 66 = .ok (.istore_n 1, 1) := by decide +kernel
theorem d_M_layOut_67 : decode b_M_layOut 67 = .ok (.aload_n 0, 1) := by decide +kernel
theorem d_M_layOut_68 : decode b_M_layOut 68 = .ok (.getfield 53, 3) := by decide +kernel
theorem d_M_layOut_71 : decode b_M_layOut 71 = .ok (.iload 4, 2) := by decide +kernel
theorem d_M_layOut_73 : decode b_M_layOut 73 = .ok (.iload_n 1, 1) := by decide +kernel
theorem d_M_layOut_74 : decode b_M_layOut 74 = .ok (.iastore, 1) := by decide +kernel
theorem d_M_layOut_75 : decode b_M_layOut 75 = .ok (.iload_n 1, 1) := by decide +kernel
theorem d_M_layOut_76 : decode b_M_layOut 76 = .ok (.aload_n 0, 1) := by decide +kernel
theorem d_M_layOut_77 : decode b_M_layOut 77 = .ok (.iload 4, 2) := by decide +kernel
theorem d_M_layOut_79 : decode b_M_layOut 79 = .ok (.invokevirtual 367, 3) := by decide +kernel
theorem d_M_layOut_82 : decode b_M_layOut 82 = .ok (.iadd, 1) := by decide +kernel
theorem d_M_layOut_83 : decode b_M_layOut 83 = .ok (.istore_n 1, 1) := by decide +kernel
theorem d_M_layOut_84 : decode b_M_layOut 84 = .ok (.iinc 3 1, 3) := by decide +kernel
theorem d_M_layOut_87 : decode b_M_layOut 87 = .ok (.goto (-68), 3) := by decide +kernel
theorem d_M_layOut_90 : decode b_M_layOut 90 = .ok (.iinc 2 1, 3) := by decide +kernel
theorem d_M_layOut_93 : decode b_M_layOut 93 = .ok (.goto (-89), 3) := by decide +kernel
theorem d_M_layOut_96 : decode b_M_layOut 96 = .ok (.iload_n 1, 1) := by decide +kernel
theorem d_M_layOut_97 : decode b_M_layOut 97 = .ok (.ireturn, 1) := by decide +kernel
abbrev b_M_there : ByteArray := prog_8_method_31_code
abbrev y_M_there : MethodName := ⟨"TwoPassModel", "there", "(I)Z"⟩
theorem kc_M_there : (.code y_M_there b_M_there 2 (some .boolean) : Cond) ∈ tp_G := tp_Gm 1466 (by decide +kernel) (by decide +kernel)
def w_M_there : List Cond := .code y_M_there b_M_there 2 (some .boolean) :: tp_G
theorem km_M_there : (.instanceMethod y_M_there : Cond) ∈ tp_G := tp_Gm 1465 (by decide +kernel) (by decide +kernel)
theorem kp_M_there : (.selects "TwoPassModel" y_M_there y_M_there : Cond) ∈ tp_G := List.mem_filter.mpr ⟨by decide +kernel, by decide +kernel⟩
theorem d_M_there_0 : decode b_M_there 0 = .ok (.iload_n 1, 1) := by decide +kernel
theorem d_M_there_1 : decode b_M_there 1 = .ok (.bipush 16, 2) := by decide +kernel
theorem d_M_there_3 : decode b_M_there 3 = .ok (.irem, 1) := by decide +kernel
theorem d_M_there_4 : decode b_M_there 4 = .ok (.aload_n 0, 1) := by decide +kernel
theorem d_M_there_5 : decode b_M_there 5 = .ok (.getfield 23, 3) := by decide +kernel
theorem d_M_there_8 : decode b_M_there 8 = .ok (.iload_n 1, 1) := by decide +kernel
theorem d_M_there_9 : decode b_M_there 9 = .ok (.bipush 16, 2) := by decide +kernel
theorem d_M_there_11 : decode b_M_there 11 = .ok (.idiv, 1) := by decide +kernel
theorem d_M_there_12 : decode b_M_there 12 = .ok (.iaload, 1) := by decide +kernel
theorem d_M_there_13 : decode b_M_there 13 = .ok (.if_icmp .ge 7, 3) := by decide +kernel
theorem d_M_there_16 : decode b_M_there 16 = .ok (.iconst 1, 1) := by decide +kernel
theorem d_M_there_17 : decode b_M_there 17 = .ok (.goto 4, 3) := by decide +kernel
theorem d_M_there_20 : decode b_M_there 20 = .ok (.iconst 0, 1) := by decide +kernel
theorem d_M_there_21 : decode b_M_there 21 = .ok (.ireturn, 1) := by decide +kernel
theorem kl_L_8 : (.classLink "TwoPassLaw" 8 "TwoPass" : Cond) ∈ tp_G := tp_Gm 99 (by decide +kernel) (by decide +kernel)
theorem kl_L_54 : (.methodLink "TwoPassLaw" 54 y_T_init : Cond) ∈ tp_G := tp_Gm 101 (by decide +kernel) (by decide +kernel)
theorem kl_L_55 : (.classLink "TwoPassLaw" 55 "TwoPassModel" : Cond) ∈ tp_G := tp_Gm 1141 (by decide +kernel) (by decide +kernel)
abbrev b_M_init : ByteArray := prog_8_method_1_code
abbrev y_M_init : MethodName := ⟨"TwoPassModel", "<init>", "()V"⟩
set_option maxRecDepth 100000 in
theorem kc_M_init : (.code y_M_init b_M_init 1 none : Cond) ∈ tp_G := tp_Gm 1145 rfl rfl
def w_M_init : List Cond := .code y_M_init b_M_init 1 none :: tp_G
theorem km_M_init : (.instanceMethod y_M_init : Cond) ∈ tp_G := tp_Gm 1144 (by decide +kernel) (by decide +kernel)
theorem kl_L_57 : (.methodLink "TwoPassLaw" 57 y_M_init : Cond) ∈ tp_G := tp_Gm 1143 (by decide +kernel) (by decide +kernel)
theorem kl_L_58 : (.constantLong "TwoPassLaw" 58 4294967295 : Cond) ∈ tp_G := tp_Gm 1561 (by decide +kernel) (by decide +kernel)
theorem kl_L_60 : (.methodLink "TwoPassLaw" 60 y_L_type : Cond) ∈ tp_G := tp_Gm 221 (by decide +kernel) (by decide +kernel)
theorem kl_L_65 : (.methodLink "TwoPassLaw" 65 y_M_type : Cond) ∈ tp_G := tp_Gm 1349 (by decide +kernel) (by decide +kernel)
theorem kl_L_66 : (.methodLink "TwoPassLaw" 66 y_M_thrown : Cond) ∈ tp_G := tp_Gm 1345 (by decide +kernel) (by decide +kernel)
theorem kl_L_69 : (.methodLink "TwoPassLaw" 69 y_L_line : Cond) ∈ tp_G := tp_Gm 320 (by decide +kernel) (by decide +kernel)
theorem kl_L_72 : (.methodLink "TwoPassLaw" 72 y_M_line : Cond) ∈ tp_G := tp_Gm 1356 (by decide +kernel) (by decide +kernel)
theorem kl_L_73 : (.methodLink "TwoPassLaw" 73 y_L_clear : Cond) ∈ tp_G := tp_Gm 617 (by decide +kernel) (by decide +kernel)
theorem kl_L_76 : (.methodLink "TwoPassLaw" 76 y_M_clear : Cond) ∈ tp_G := tp_Gm 1455 (by decide +kernel) (by decide +kernel)
theorem kl_L_77 : (.methodLink "TwoPassLaw" 77 y_L_link : Cond) ∈ tp_G := tp_Gm 628 (by decide +kernel) (by decide +kernel)
abbrev b_M_link : ByteArray := prog_8_method_33_code
abbrev y_M_link : MethodName := ⟨"TwoPassModel", "link", "()I"⟩
set_option maxRecDepth 100000 in
theorem kc_M_link : (.code y_M_link b_M_link 4 (some .int) : Cond) ∈ tp_G := tp_Gm 1462 rfl rfl
def w_M_link : List Cond := .code y_M_link b_M_link 4 (some .int) :: tp_G
theorem km_M_link : (.instanceMethod y_M_link : Cond) ∈ tp_G := tp_Gm 1460 (by decide +kernel) (by decide +kernel)
theorem kv_M_M_link : (.selects "TwoPassModel" y_M_link y_M_link : Cond) ∈ tp_G := tp_Gm 1461 (by decide +kernel) (by decide +kernel)
theorem kl_L_80 : (.methodLink "TwoPassLaw" 80 y_M_link : Cond) ∈ tp_G := tp_Gm 1459 (by decide +kernel) (by decide +kernel)
theorem kl_L_81 : (.methodLink "TwoPassLaw" 81 y_L_far : Cond) ∈ tp_G := tp_Gm 774 (by decide +kernel) (by decide +kernel)
theorem kl_L_83 : (.methodLink "TwoPassLaw" 83 y_M_far : Cond) ∈ tp_G := tp_Gm 1516 (by decide +kernel) (by decide +kernel)
theorem kl_L_84 : (.methodLink "TwoPassLaw" 84 y_L_image : Cond) ∈ tp_G := tp_Gm 785 (by decide +kernel) (by decide +kernel)
theorem kl_L_86 : (.methodLink "TwoPassLaw" 86 y_M_image : Cond) ∈ tp_G := tp_Gm 1520 (by decide +kernel) (by decide +kernel)
theorem kl_L_87 : (.methodLink "TwoPassLaw" 87 y_L_place : Cond) ∈ tp_G := tp_Gm 812 (by decide +kernel) (by decide +kernel)
theorem kl_L_90 : (.methodLink "TwoPassLaw" 90 y_M_place : Cond) ∈ tp_G := tp_Gm 1524 (by decide +kernel) (by decide +kernel)
theorem kl_L_91 : (.methodLink "TwoPassLaw" 91 y_L_show : Cond) ∈ tp_G := tp_Gm 819 (by decide +kernel) (by decide +kernel)
theorem kl_L_93 : (.methodLink "TwoPassLaw" 93 y_M_show : Cond) ∈ tp_G := tp_Gm 1532 (by decide +kernel) (by decide +kernel)
theorem kl_L_94 : (.methodLink "TwoPassLaw" 94 y_L_letter : Cond) ∈ tp_G := tp_Gm 1117 (by decide +kernel) (by decide +kernel)
theorem kl_L_96 : (.methodLink "TwoPassLaw" 96 y_M_letter : Cond) ∈ tp_G := tp_Gm 1557 (by decide +kernel) (by decide +kernel)
theorem kl_L_97 : (.methodLink "TwoPassLaw" 97 y_L_lines : Cond) ∈ tp_G := tp_Gm 1134 (by decide +kernel) (by decide +kernel)
theorem kl_L_99 : (.methodLink "TwoPassLaw" 99 y_M_lines : Cond) ∈ tp_G := tp_Gm 1528 (by decide +kernel) (by decide +kernel)
theorem kl_M_1 : (.methodLink "TwoPassModel" 1 y_OJ_init : Cond) ∈ tp_G := tp_Gm 1146 (by decide +kernel) (by decide +kernel)
theorem kl_M_20 : (.fieldLink "TwoPassModel" 20 "TwoPassModel" "word" "[I" : Cond) ∈ tp_G := tp_Gm 1247 (by decide +kernel) (by decide +kernel)
theorem kl_M_50 : (.fieldLink "TwoPassModel" 50 "TwoPassModel" "target" "[I" : Cond) ∈ tp_G := tp_Gm 1265 (by decide +kernel) (by decide +kernel)
theorem kl_M_56 : (.fieldLink "TwoPassModel" 56 "TwoPassModel" "far" "[Z" : Cond) ∈ tp_G := tp_Gm 1267 (by decide +kernel) (by decide +kernel)
theorem kl_M_70 : (.constantLong "TwoPassModel" 70 6382692 : Cond) ∈ tp_G := tp_Gm 1147 (by decide +kernel) (by decide +kernel)
theorem kl_M_72 : (.constantLong "TwoPassModel" 72 7566690 : Cond) ∈ tp_G := tp_Gm 1148 (by decide +kernel) (by decide +kernel)
theorem kl_M_74 : (.constantLong "TwoPassModel" 74 7564396 : Cond) ∈ tp_G := tp_Gm 1149 (by decide +kernel) (by decide +kernel)
theorem kl_M_76 : (.constantLong "TwoPassModel" 76 7564404 : Cond) ∈ tp_G := tp_Gm 1150 (by decide +kernel) (by decide +kernel)
theorem kl_M_78 : (.constantLong "TwoPassModel" 78 1936487541 : Cond) ∈ tp_G := tp_Gm 1151 (by decide +kernel) (by decide +kernel)
theorem kl_M_80 : (.constantLong "TwoPassModel" 80 7892850 : Cond) ∈ tp_G := tp_Gm 1152 (by decide +kernel) (by decide +kernel)
theorem kl_M_82 : (.constantLong "TwoPassModel" 82 7565932 : Cond) ∈ tp_G := tp_Gm 1153 (by decide +kernel) (by decide +kernel)
theorem kl_M_84 : (.constantLong "TwoPassModel" 84 7565921 : Cond) ∈ tp_G := tp_Gm 1154 (by decide +kernel) (by decide +kernel)
theorem kl_M_86 : (.constantLong "TwoPassModel" 86 28530 : Cond) ∈ tp_G := tp_Gm 1155 (by decide +kernel) (by decide +kernel)
theorem kl_M_88 : (.constantLong "TwoPassModel" 88 6385252 : Cond) ∈ tp_G := tp_Gm 1156 (by decide +kernel) (by decide +kernel)
theorem kl_M_90 : (.constantLong "TwoPassModel" 90 1633969257 : Cond) ∈ tp_G := tp_Gm 1157 (by decide +kernel) (by decide +kernel)
theorem kl_M_92 : (.constantLong "TwoPassModel" 92 1936487529 : Cond) ∈ tp_G := tp_Gm 1158 (by decide +kernel) (by decide +kernel)
theorem kl_M_94 : (.constantLong "TwoPassModel" 94 2020569705 : Cond) ∈ tp_G := tp_Gm 1159 (by decide +kernel) (by decide +kernel)
theorem kl_M_96 : (.constantLong "TwoPassModel" 96 7303785 : Cond) ∈ tp_G := tp_Gm 1160 (by decide +kernel) (by decide +kernel)
theorem kl_M_98 : (.constantLong "TwoPassModel" 98 1634624617 : Cond) ∈ tp_G := tp_Gm 1161 (by decide +kernel) (by decide +kernel)
theorem kl_M_100 : (.constantLong "TwoPassModel" 100 418296129911 : Cond) ∈ tp_G := tp_Gm 1162 (by decide +kernel) (by decide +kernel)
theorem kl_M_102 : (.constantLong "TwoPassModel" 102 1936485481 : Cond) ∈ tp_G := tp_Gm 1163 (by decide +kernel) (by decide +kernel)
theorem kl_M_104 : (.constantLong "TwoPassModel" 104 1936878697 : Cond) ∈ tp_G := tp_Gm 1164 (by decide +kernel) (by decide +kernel)
theorem kl_M_106 : (.constantLong "TwoPassModel" 106 1936875881 : Cond) ∈ tp_G := tp_Gm 1165 (by decide +kernel) (by decide +kernel)
theorem kl_M_108 : (.constantLong "TwoPassModel" 108 7107945 : Cond) ∈ tp_G := tp_Gm 1166 (by decide +kernel) (by decide +kernel)
theorem kl_M_110 : (.constantLong "TwoPassModel" 110 27746 : Cond) ∈ tp_G := tp_Gm 1167 (by decide +kernel) (by decide +kernel)
theorem kl_M_112 : (.constantLong "TwoPassModel" 112 27767 : Cond) ∈ tp_G := tp_Gm 1168 (by decide +kernel) (by decide +kernel)
theorem kl_M_114 : (.constantLong "TwoPassModel" 114 27748 : Cond) ∈ tp_G := tp_Gm 1169 (by decide +kernel) (by decide +kernel)
theorem kl_M_116 : (.constantLong "TwoPassModel" 116 7103093 : Cond) ∈ tp_G := tp_Gm 1170 (by decide +kernel) (by decide +kernel)
theorem kl_M_118 : (.constantLong "TwoPassModel" 118 1784769650 : Cond) ∈ tp_G := tp_Gm 1171 (by decide +kernel) (by decide +kernel)
theorem kl_M_120 : (.constantLong "TwoPassModel" 120 29538 : Cond) ∈ tp_G := tp_Gm 1172 (by decide +kernel) (by decide +kernel)
theorem kl_M_122 : (.constantLong "TwoPassModel" 122 29559 : Cond) ∈ tp_G := tp_Gm 1173 (by decide +kernel) (by decide +kernel)
theorem kl_M_124 : (.constantLong "TwoPassModel" 124 29540 : Cond) ∈ tp_G := tp_Gm 1174 (by decide +kernel) (by decide +kernel)
theorem kl_M_126 : (.constantLong "TwoPassModel" 126 6448497 : Cond) ∈ tp_G := tp_Gm 1175 (by decide +kernel) (by decide +kernel)
theorem kl_M_128 : (.constantLong "TwoPassModel" 128 6450789 : Cond) ∈ tp_G := tp_Gm 1176 (by decide +kernel) (by decide +kernel)
theorem kl_M_130 : (.constantLong "TwoPassModel" 130 6450292 : Cond) ∈ tp_G := tp_Gm 1177 (by decide +kernel) (by decide +kernel)
theorem kl_M_132 : (.constantLong "TwoPassModel" 132 6448997 : Cond) ∈ tp_G := tp_Gm 1178 (by decide +kernel) (by decide +kernel)
theorem kl_M_134 : (.constantLong "TwoPassModel" 134 6971756 : Cond) ∈ tp_G := tp_Gm 1179 (by decide +kernel) (by decide +kernel)
theorem kl_M_136 : (.constantLong "TwoPassModel" 136 27753 : Cond) ∈ tp_G := tp_Gm 1180 (by decide +kernel) (by decide +kernel)
theorem kl_M_138 : (.constantLong "TwoPassModel" 138 27745 : Cond) ∈ tp_G := tp_Gm 1181 (by decide +kernel) (by decide +kernel)
theorem kl_M_140 : (.constantLong "TwoPassModel" 140 199572288100 : Cond) ∈ tp_G := tp_Gm 1182 (by decide +kernel) (by decide +kernel)
theorem kl_M_142 : (.constantLong "TwoPassModel" 142 199220622437 : Cond) ∈ tp_G := tp_Gm 1183 (by decide +kernel) (by decide +kernel)
theorem kl_M_144 : (.constantLong "TwoPassModel" 144 51073341547365 : Cond) ∈ tp_G := tp_Gm 1184 (by decide +kernel) (by decide +kernel)
theorem kl_M_146 : (.constantLong "TwoPassModel" 146 13061564351537516 : Cond) ∈ tp_G := tp_Gm 1185 (by decide +kernel) (by decide +kernel)
theorem kl_M_148 : (.constantLong "TwoPassModel" 148 7237488 : Cond) ∈ tp_G := tp_Gm 1186 (by decide +kernel) (by decide +kernel)
theorem kl_M_150 : (.constantLong "TwoPassModel" 150 28022 : Cond) ∈ tp_G := tp_Gm 1187 (by decide +kernel) (by decide +kernel)
theorem kl_M_152 : (.constantLong "TwoPassModel" 152 7497076 : Cond) ∈ tp_G := tp_Gm 1188 (by decide +kernel) (by decide +kernel)
theorem kl_M_154 : (.constantLong "TwoPassModel" 154 106 : Cond) ∈ tp_G := tp_Gm 1189 (by decide +kernel) (by decide +kernel)
theorem kl_M_156 : (.constantLong "TwoPassModel" 156 1667329132 : Cond) ∈ tp_G := tp_Gm 1190 (by decide +kernel) (by decide +kernel)
theorem kl_M_158 : (.constantLong "TwoPassModel" 158 1650815354 : Cond) ∈ tp_G := tp_Gm 1191 (by decide +kernel) (by decide +kernel)
theorem kl_M_160 : (.constantLong "TwoPassModel" 160 1651402106 : Cond) ∈ tp_G := tp_Gm 1192 (by decide +kernel) (by decide +kernel)
theorem kl_M_162 : (.constant "TwoPassModel" 162 105100 : Cond) ∈ tp_G := tp_Gm 1193 (by decide +kernel) (by decide +kernel)
theorem kl_M_163 : (.constant "TwoPassModel" 163 105101 : Cond) ∈ tp_G := tp_Gm 1194 (by decide +kernel) (by decide +kernel)
theorem kl_M_164 : (.constant "TwoPassModel" 164 105110 : Cond) ∈ tp_G := tp_Gm 1195 (by decide +kernel) (by decide +kernel)
theorem kl_M_165 : (.constant "TwoPassModel" 165 105120 : Cond) ∈ tp_G := tp_Gm 1196 (by decide +kernel) (by decide +kernel)
theorem kl_M_166 : (.constant "TwoPassModel" 166 105130 : Cond) ∈ tp_G := tp_Gm 1197 (by decide +kernel) (by decide +kernel)
theorem kl_M_167 : (.constant "TwoPassModel" 167 105140 : Cond) ∈ tp_G := tp_Gm 1198 (by decide +kernel) (by decide +kernel)
theorem kl_M_168 : (.constant "TwoPassModel" 168 105150 : Cond) ∈ tp_G := tp_Gm 1199 (by decide +kernel) (by decide +kernel)
theorem kl_M_169 : (.constant "TwoPassModel" 169 105151 : Cond) ∈ tp_G := tp_Gm 1200 (by decide +kernel) (by decide +kernel)
theorem kl_M_170 : (.constant "TwoPassModel" 170 105160 : Cond) ∈ tp_G := tp_Gm 1201 (by decide +kernel) (by decide +kernel)
theorem kl_M_171 : (.constant "TwoPassModel" 171 105170 : Cond) ∈ tp_G := tp_Gm 1202 (by decide +kernel) (by decide +kernel)
theorem kl_M_172 : (.constant "TwoPassModel" 172 201900 : Cond) ∈ tp_G := tp_Gm 1203 (by decide +kernel) (by decide +kernel)
theorem kl_M_173 : (.constant "TwoPassModel" 173 201920 : Cond) ∈ tp_G := tp_Gm 1204 (by decide +kernel) (by decide +kernel)
theorem kl_M_174 : (.constant "TwoPassModel" 174 201940 : Cond) ∈ tp_G := tp_Gm 1205 (by decide +kernel) (by decide +kernel)
theorem kl_M_175 : (.constant "TwoPassModel" 175 201960 : Cond) ∈ tp_G := tp_Gm 1206 (by decide +kernel) (by decide +kernel)
theorem kl_M_176 : (.constant "TwoPassModel" 176 201970 : Cond) ∈ tp_G := tp_Gm 1207 (by decide +kernel) (by decide +kernel)
theorem kl_M_177 : (.constant "TwoPassModel" 177 202700 : Cond) ∈ tp_G := tp_Gm 1208 (by decide +kernel) (by decide +kernel)
theorem kl_M_178 : (.constant "TwoPassModel" 178 301910 : Cond) ∈ tp_G := tp_Gm 1209 (by decide +kernel) (by decide +kernel)
theorem kl_M_179 : (.constant "TwoPassModel" 179 301950 : Cond) ∈ tp_G := tp_Gm 1210 (by decide +kernel) (by decide +kernel)
theorem kl_M_180 : (.constant "TwoPassModel" 180 301951 : Cond) ∈ tp_G := tp_Gm 1211 (by decide +kernel) (by decide +kernel)
theorem kl_M_181 : (.constant "TwoPassModel" 181 405500 : Cond) ∈ tp_G := tp_Gm 1212 (by decide +kernel) (by decide +kernel)
theorem kl_M_182 : (.constant "TwoPassModel" 182 500300 : Cond) ∈ tp_G := tp_Gm 1213 (by decide +kernel) (by decide +kernel)
theorem kl_M_183 : (.constant "TwoPassModel" 183 500320 : Cond) ∈ tp_G := tp_Gm 1214 (by decide +kernel) (by decide +kernel)
theorem kl_M_184 : (.constant "TwoPassModel" 184 500330 : Cond) ∈ tp_G := tp_Gm 1215 (by decide +kernel) (by decide +kernel)
theorem kl_M_185 : (.constant "TwoPassModel" 185 500340 : Cond) ∈ tp_G := tp_Gm 1216 (by decide +kernel) (by decide +kernel)
theorem kl_M_186 : (.constant "TwoPassModel" 186 510300 : Cond) ∈ tp_G := tp_Gm 1217 (by decide +kernel) (by decide +kernel)
theorem kl_M_187 : (.constant "TwoPassModel" 187 603500 : Cond) ∈ tp_G := tp_Gm 1218 (by decide +kernel) (by decide +kernel)
theorem kl_M_188 : (.constant "TwoPassModel" 188 603520 : Cond) ∈ tp_G := tp_Gm 1219 (by decide +kernel) (by decide +kernel)
theorem kl_M_189 : (.constant "TwoPassModel" 189 603530 : Cond) ∈ tp_G := tp_Gm 1220 (by decide +kernel) (by decide +kernel)
theorem kl_M_190 : (.constant "TwoPassModel" 190 709900 : Cond) ∈ tp_G := tp_Gm 1221 (by decide +kernel) (by decide +kernel)
theorem kl_M_191 : (.constant "TwoPassModel" 191 709910 : Cond) ∈ tp_G := tp_Gm 1222 (by decide +kernel) (by decide +kernel)
theorem kl_M_192 : (.constant "TwoPassModel" 192 709940 : Cond) ∈ tp_G := tp_Gm 1223 (by decide +kernel) (by decide +kernel)
theorem kl_M_193 : (.constant "TwoPassModel" 193 709950 : Cond) ∈ tp_G := tp_Gm 1224 (by decide +kernel) (by decide +kernel)
theorem kl_M_194 : (.constant "TwoPassModel" 194 811100 : Cond) ∈ tp_G := tp_Gm 1225 (by decide +kernel) (by decide +kernel)
theorem kl_M_195 : (.constant "TwoPassModel" 195 900000 : Cond) ∈ tp_G := tp_Gm 1226 (by decide +kernel) (by decide +kernel)
theorem kl_M_196 : (.constant "TwoPassModel" 196 1000000 : Cond) ∈ tp_G := tp_Gm 1227 (by decide +kernel) (by decide +kernel)
theorem kl_M_197 : (.constant "TwoPassModel" 197 1100000 : Cond) ∈ tp_G := tp_Gm 1228 (by decide +kernel) (by decide +kernel)
theorem kl_M_198 : (.constant "TwoPassModel" 198 1200000 : Cond) ∈ tp_G := tp_Gm 1229 (by decide +kernel) (by decide +kernel)
theorem kl_M_199 : (.constant "TwoPassModel" 199 1300000 : Cond) ∈ tp_G := tp_Gm 1230 (by decide +kernel) (by decide +kernel)
theorem kl_M_200 : (.constant "TwoPassModel" 200 1400000 : Cond) ∈ tp_G := tp_Gm 1231 (by decide +kernel) (by decide +kernel)
theorem kl_M_201 : (.constant "TwoPassModel" 201 1501900 : Cond) ∈ tp_G := tp_Gm 1232 (by decide +kernel) (by decide +kernel)
theorem kl_M_202 : (.constant "TwoPassModel" 202 1601900 : Cond) ∈ tp_G := tp_Gm 1233 (by decide +kernel) (by decide +kernel)
theorem kl_M_203 : (.constant "TwoPassModel" 203 1710300 : Cond) ∈ tp_G := tp_Gm 1234 (by decide +kernel) (by decide +kernel)
theorem kl_M_204 : (.constant "TwoPassModel" 204 1811100 : Cond) ∈ tp_G := tp_Gm 1235 (by decide +kernel) (by decide +kernel)
theorem kl_M_205 : (.constant "TwoPassModel" 205 1911100 : Cond) ∈ tp_G := tp_Gm 1236 (by decide +kernel) (by decide +kernel)
theorem kl_M_206 : (.constant "TwoPassModel" 206 2009900 : Cond) ∈ tp_G := tp_Gm 1237 (by decide +kernel) (by decide +kernel)
theorem kl_M_207 : (.constant "TwoPassModel" 207 2009910 : Cond) ∈ tp_G := tp_Gm 1238 (by decide +kernel) (by decide +kernel)
abbrev b_M_bytes : ByteArray := prog_8_method_29_code
abbrev y_M_bytes : MethodName := ⟨"TwoPassModel", "bytes", "(I)I"⟩
theorem kc_M_bytes : (.code y_M_bytes b_M_bytes 3 (some .int) : Cond) ∈ tp_G := tp_Gm 1482 (by decide +kernel) (by decide +kernel)
def w_M_bytes : List Cond := .code y_M_bytes b_M_bytes 3 (some .int) :: tp_G
theorem km_M_bytes : (.instanceMethod y_M_bytes : Cond) ∈ tp_G := tp_Gm 1481 (by decide +kernel) (by decide +kernel)
theorem kp_M_bytes : (.selects "TwoPassModel" y_M_bytes y_M_bytes : Cond) ∈ tp_G := List.mem_filter.mpr ⟨by decide +kernel, by decide +kernel⟩
theorem kl_M_367 : (.methodLink "TwoPassModel" 367 y_M_bytes : Cond) ∈ tp_G := tp_Gm 1479 (by decide +kernel) (by decide +kernel)
theorem kl_M_374 : (.methodLink "TwoPassModel" 374 y_M_there : Cond) ∈ tp_G := tp_Gm 1463 (by decide +kernel) (by decide +kernel)
abbrev b_M_resolve : ByteArray := prog_8_method_27_code
abbrev y_M_resolve : MethodName := ⟨"TwoPassModel", "resolve", "(II)I"⟩
theorem kc_M_resolve : (.code y_M_resolve b_M_resolve 6 (some .int) : Cond) ∈ tp_G := tp_Gm 1470 (by decide +kernel) (by decide +kernel)
def w_M_resolve : List Cond := .code y_M_resolve b_M_resolve 6 (some .int) :: tp_G
theorem km_M_resolve : (.instanceMethod y_M_resolve : Cond) ∈ tp_G := tp_Gm 1469 (by decide +kernel) (by decide +kernel)
theorem kp_M_resolve : (.selects "TwoPassModel" y_M_resolve y_M_resolve : Cond) ∈ tp_G := List.mem_filter.mpr ⟨by decide +kernel, by decide +kernel⟩
theorem kl_M_377 : (.methodLink "TwoPassModel" 377 y_M_resolve : Cond) ∈ tp_G := tp_Gm 1467 (by decide +kernel) (by decide +kernel)
theorem kl_M_381 : (.methodLink "TwoPassModel" 381 y_M_layOut : Cond) ∈ tp_G := tp_Gm 1475 (by decide +kernel) (by decide +kernel)
abbrev b_M_way : ByteArray := prog_8_method_32_code
abbrev y_M_way : MethodName := ⟨"TwoPassModel", "way", "(I)I"⟩
theorem kc_M_way : (.code y_M_way b_M_way 2 (some .int) : Cond) ∈ tp_G := tp_Gm 1490 (by decide +kernel) (by decide +kernel)
def w_M_way : List Cond := .code y_M_way b_M_way 2 (some .int) :: tp_G
theorem km_M_way : (.instanceMethod y_M_way : Cond) ∈ tp_G := tp_Gm 1489 (by decide +kernel) (by decide +kernel)
theorem kp_M_way : (.selects "TwoPassModel" y_M_way y_M_way : Cond) ∈ tp_G := List.mem_filter.mpr ⟨by decide +kernel, by decide +kernel⟩
theorem kl_M_384 : (.methodLink "TwoPassModel" 384 y_M_way : Cond) ∈ tp_G := tp_Gm 1487 (by decide +kernel) (by decide +kernel)
abbrev b_M_encode : ByteArray := prog_8_method_39_code
abbrev y_M_encode : MethodName := ⟨"TwoPassModel", "encode", "(I)V"⟩
set_option maxRecDepth 100000 in
theorem kc_M_encode : (.code y_M_encode b_M_encode 6 none : Cond) ∈ tp_G := tp_Gm 1494 rfl rfl
def w_M_encode : List Cond := .code y_M_encode b_M_encode 6 none :: tp_G
theorem km_M_encode : (.instanceMethod y_M_encode : Cond) ∈ tp_G := tp_Gm 1493 (by decide +kernel) (by decide +kernel)
theorem kp_M_encode : (.selects "TwoPassModel" y_M_encode y_M_encode : Cond) ∈ tp_G := List.mem_filter.mpr ⟨by decide +kernel, by decide +kernel⟩
theorem kl_M_387 : (.methodLink "TwoPassModel" 387 y_M_encode : Cond) ∈ tp_G := tp_Gm 1491 (by decide +kernel) (by decide +kernel)
