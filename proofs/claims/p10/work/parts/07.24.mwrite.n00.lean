abbrev b_M_operationOf : ByteArray := prog_8_method_49_code
abbrev y_M_operationOf : MethodName := ⟨"TwoPassModel", "operationOf", "(I)I"⟩
theorem kc_M_operationOf : (.code y_M_operationOf b_M_operationOf 9 (some .int) : Cond) ∈ tp_G := tp_Gm 1539 (by decide +kernel) (by decide +kernel)
def w_M_operationOf : List Cond := .code y_M_operationOf b_M_operationOf 9 (some .int) :: tp_G
theorem km_M_operationOf : (.instanceMethod y_M_operationOf : Cond) ∈ tp_G := tp_Gm 1538 (by decide +kernel) (by decide +kernel)
theorem kp_M_operationOf : (.selects "TwoPassModel" y_M_operationOf y_M_operationOf : Cond) ∈ tp_G := List.mem_filter.mpr ⟨by decide +kernel, by decide +kernel⟩
theorem d_M_operationOf_0 : decode b_M_operationOf 0 = .ok (.iload_n 1, 1) := by decide +kernel
theorem d_M_operationOf_1 : decode b_M_operationOf 1 = .ok (.bipush 127, 2) := by decide +kernel
theorem d_M_operationOf_3 : decode b_M_operationOf 3 = .ok (.iand, 1) := by decide +kernel
theorem d_M_operationOf_4 : decode b_M_operationOf 4 = .ok (.istore_n 2, 1) := by decide +kernel
theorem d_M_operationOf_5 : decode b_M_operationOf 5 = .ok (.iload_n 1, 1) := by decide +kernel
theorem d_M_operationOf_6 : decode b_M_operationOf 6 = .ok (.bipush 12, 2) := by decide +kernel
theorem d_M_operationOf_8 : decode b_M_operationOf 8 = .ok (.ishr, 1) := by decide +kernel
theorem d_M_operationOf_9 : decode b_M_operationOf 9 = .ok (.bipush 7, 2) := by decide +kernel
theorem d_M_operationOf_11 : decode b_M_operationOf 11 = .ok (.iand, 1) := by decide +kernel
theorem d_M_operationOf_12 : decode b_M_operationOf 12 = .ok (.istore_n 3, 1) := by decide +kernel
theorem d_M_operationOf_13 : decode b_M_operationOf 13 = .ok (.iload_n 1, 1) := by decide +kernel
theorem d_M_operationOf_14 : decode b_M_operationOf 14 = .ok (.bipush 25, 2) := by decide +kernel
theorem d_M_operationOf_16 : decode b_M_operationOf 16 = .ok (.iushr, 1) := by decide +kernel
theorem d_M_operationOf_17 : decode b_M_operationOf 17 = .ok (.istore 4, 2) := by decide +kernel
theorem d_M_operationOf_19 : decode b_M_operationOf 19 = .ok (.iconst 0, 1) := by decide +kernel
theorem d_M_operationOf_20 : decode b_M_operationOf 20 = .ok (.istore 5, 2) := by decide +kernel
theorem d_M_operationOf_22 : decode b_M_operationOf 22 = .ok (.iload 5, 2) := by decide +kernel
theorem d_M_operationOf_24 : decode b_M_operationOf 24 = .ok (.bipush 33, 2) := by decide +kernel
theorem d_M_operationOf_26 : decode b_M_operationOf 26 = .ok (.if_icmp .ge 176, 3) := by decide +kernel
theorem d_M_operationOf_29 : decode b_M_operationOf 29 = .ok (.aload_n 0, 1) := by decide +kernel
theorem d_M_operationOf_30 : decode b_M_operationOf 30 = .ok (.getfield 13, 3) := by decide +kernel
theorem d_M_operationOf_33 : decode b_M_operationOf 33 = .ok (.iload 5, 2) := by decide +kernel
theorem d_M_operationOf_35 : decode b_M_operationOf 35 = .ok (.iaload, 1) := by decide +kernel
theorem d_M_operationOf_36 : decode b_M_operationOf 36 = .ok (.ldc_w 321, 3) := by decide +kernel
theorem d_M_operationOf_39 : decode b_M_operationOf 39 = .ok (.idiv, 1) := by decide +kernel
theorem d_M_operationOf_40 : decode b_M_operationOf 40 = .ok (.istore 6, 2) := by decide +kernel
theorem d_M_operationOf_42 : decode b_M_operationOf 42 = .ok (.aload_n 0, 1) := by decide +kernel
theorem d_M_operationOf_43 : decode b_M_operationOf 43 = .ok (.getfield 13, 3) := by decide +kernel
theorem d_M_operationOf_46 : decode b_M_operationOf 46 = .ok (.iload 5, 2) := by decide +kernel
theorem d_M_operationOf_48 : decode b_M_operationOf 48 = .ok (.iaload, 1) := by decide +kernel
theorem d_M_operationOf_49 : decode b_M_operationOf 49 = .ok (.bipush 100, 2) := by decide +kernel
theorem d_M_operationOf_51 : decode b_M_operationOf 51 = .ok (.idiv, 1) := by decide +kernel
theorem d_M_operationOf_52 : decode b_M_operationOf 52 = .ok (.sipush 1000, 3) := by decide +kernel
theorem d_M_operationOf_55 : decode b_M_operationOf 55 = .ok (.irem, 1) := by decide +kernel
theorem d_M_operationOf_56 : decode b_M_operationOf 56 = .ok (.iload_n 2, 1) := by decide +kernel
theorem d_M_operationOf_57 : decode b_M_operationOf 57 = .ok (.if_icmp .ne 37, 3) := by decide +kernel
theorem d_M_operationOf_60 : decode b_M_operationOf 60 = .ok (.iload 6, 2) := by decide +kernel
theorem d_M_operationOf_62 : decode b_M_operationOf 62 = .ok (.iconst 4, 1) := by decide +kernel
theorem d_M_operationOf_63 : decode b_M_operationOf 63 = .ok (.if_icmp .eq 27, 3) := by decide +kernel
theorem d_M_operationOf_66 : decode b_M_operationOf 66 = .ok (.iload 6, 2) := by decide +kernel
theorem d_M_operationOf_68 : decode b_M_operationOf 68 = .ok (.bipush 8, 2) := by decide +kernel
theorem d_M_operationOf_70 : decode b_M_operationOf 70 = .ok (.if_icmp .eq 20, 3) := by decide +kernel
theorem d_M_operationOf_73 : decode b_M_operationOf 73 = .ok (.aload_n 0, 1) := by decide +kernel
theorem d_M_operationOf_74 : decode b_M_operationOf 74 = .ok (.getfield 13, 3) := by decide +kernel
theorem d_M_operationOf_77 : decode b_M_operationOf 77 = .ok (.iload 5, 2) := by decide +kernel
theorem d_M_operationOf_79 : decode b_M_operationOf 79 = .ok (.iaload, 1) := by decide +kernel
theorem d_M_operationOf_80 : decode b_M_operationOf 80 = .ok (.bipush 10, 2) := by decide +kernel
theorem d_M_operationOf_82 : decode b_M_operationOf 82 = .ok (.idiv, 1) := by decide +kernel
theorem d_M_operationOf_83 : decode b_M_operationOf 83 = .ok (.bipush 10, 2) := by decide +kernel
theorem d_M_operationOf_85 : decode b_M_operationOf 85 = .ok (.irem, 1) := by decide +kernel
theorem d_M_operationOf_86 : decode b_M_operationOf 86 = .ok (.iload_n 3, 1) := by decide +kernel
theorem d_M_operationOf_87 : decode b_M_operationOf 87 = .ok (.if_icmp .ne 7, 3) := by decide +kernel
theorem d_M_operationOf_90 : decode b_M_operationOf 90 = .ok (.iconst 1, 1) := by decide +kernel
theorem d_M_operationOf_91 : decode b_M_operationOf 91 = .ok (.goto 4, 3) := by decide +kernel
theorem d_M_operationOf_94 : decode b_M_operationOf 94 = .ok (.iconst 0, 1) := by decide +kernel
theorem d_M_operationOf_95 : decode b_M_operationOf 95 = .ok (.istore 7, 2) := by decide +kernel
theorem d_M_operationOf_97 : decode b_M_operationOf 97 = .ok (.aload_n 0, 1) := by decide +kernel
theorem d_M_operationOf_98 : decode b_M_operationOf 98 = .ok (.getfield 13, 3) := by decide +kernel
theorem d_M_operationOf_101 : decode b_M_operationOf 101 = .ok (.iload 5, 2) := by decide +kernel
theorem d_M_operationOf_103 : decode b_M_operationOf 103 = .ok (.iaload, 1) := by decide +kernel
theorem d_M_operationOf_104 : decode b_M_operationOf 104 = .ok (.bipush 10, 2) := by decide +kernel
theorem d_M_operationOf_106 : decode b_M_operationOf 106 = .ok (.irem, 1) := by decide +kernel
theorem d_M_operationOf_107 : decode b_M_operationOf 107 = .ok (.iconst 1, 1) := by decide +kernel
theorem d_M_operationOf_108 : decode b_M_operationOf 108 = .ok (.if_icmp .ne 7, 3) := by decide +kernel
theorem d_M_operationOf_111 : decode b_M_operationOf 111 = .ok (.iconst 1, 1) := by decide +kernel
theorem d_M_operationOf_112 : decode b_M_operationOf 112 = .ok (.goto 4, 3) := by decide +kernel
theorem d_M_operationOf_115 : decode b_M_operationOf 115 = .ok (.iconst 0, 1) := by decide +kernel
theorem d_M_operationOf_116 : decode b_M_operationOf 116 = .ok (.istore 8, 2) := by decide +kernel
theorem d_M_operationOf_118 : decode b_M_operationOf 118 = .ok (.iload 6, 2) := by decide +kernel
theorem d_M_operationOf_120 : decode b_M_operationOf 120 = .ok (.iconst 1, 1) := by decide +kernel
theorem d_M_operationOf_121 : decode b_M_operationOf 121 = .ok (.if_icmp .ne 31, 3) := by decide +kernel
theorem d_M_operationOf_124 : decode b_M_operationOf 124 = .ok (.iload 7, 2) := by decide +kernel
theorem d_M_operationOf_126 : decode b_M_operationOf 126 = .ok (.ifCond .eq 23, 3) := by decide +kernel
theorem d_M_operationOf_129 : decode b_M_operationOf 129 = .ok (.iload 4, 2) := by decide +kernel
theorem d_M_operationOf_131 : decode b_M_operationOf 131 = .ok (.iload 8, 2) := by decide +kernel
theorem d_M_operationOf_133 : decode b_M_operationOf 133 = .ok (.ifCond .eq 8, 3) := by decide +kernel
theorem d_M_operationOf_136 : decode b_M_operationOf 136 = .ok (.bipush 32, 2) := by decide +kernel
theorem d_M_operationOf_138 : decode b_M_operationOf 138 = .ok (.goto 4, 3) := by decide +kernel
theorem d_M_operationOf_141 : decode b_M_operationOf 141 = .ok (.iconst 0, 1) := by decide +kernel
theorem d_M_operationOf_142 : decode b_M_operationOf 142 = .ok (.if_icmp .ne 7, 3) := by decide +kernel
theorem d_M_operationOf_145 : decode b_M_operationOf 145 = .ok (.iconst 1, 1) := by decide +kernel
theorem d_M_operationOf_146 : decode b_M_operationOf 146 = .ok (.goto 4, 3) := by decide +kernel
theorem d_M_operationOf_149 : decode b_M_operationOf 149 = .ok (.iconst 0, 1) := by decide +kernel
theorem d_M_operationOf_150 : decode b_M_operationOf 150 = .ok (.istore 7, 2) := by decide +kernel
theorem d_M_operationOf_152 : decode b_M_operationOf 152 = .ok (.iload 6, 2) := by decide +kernel
theorem d_M_operationOf_154 : decode b_M_operationOf 154 = .ok (.iconst 3, 1) := by decide +kernel
theorem d_M_operationOf_155 : decode b_M_operationOf 155 = .ok (.if_icmp .ne 33, 3) := by decide +kernel
theorem d_M_operationOf_158 : decode b_M_operationOf 158 = .ok (.iload 7, 2) := by decide +kernel
theorem d_M_operationOf_160 : decode b_M_operationOf 160 = .ok (.ifCond .eq 25, 3) := by decide +kernel
theorem d_M_operationOf_163 : decode b_M_operationOf 163 = .ok (.iload_n 1, 1) := by decide +kernel
theorem d_M_operationOf_164 : decode b_M_operationOf 164 = .ok (.bipush 26, 2) := by decide +kernel
theorem d_M_operationOf_166 : decode b_M_operationOf 166 = .ok (.iushr, 1) := by decide +kernel
theorem d_M_operationOf_167 : decode b_M_operationOf 167 = .ok (.iload 8, 2) := by decide +kernel
theorem d_M_operationOf_169 : decode b_M_operationOf 169 = .ok (.ifCond .eq 8, 3) := by decide +kernel
theorem d_M_operationOf_172 : decode b_M_operationOf 172 = .ok (.bipush 16, 2) := by decide +kernel
theorem d_M_operationOf_174 : decode b_M_operationOf 174 = .ok (.goto 4, 3) := by decide +kernel
theorem d_M_operationOf_177 : decode b_M_operationOf 177 = .ok (.iconst 0, 1) := by decide +kernel
theorem d_M_operationOf_178 : decode b_M_operationOf 178 = .ok (.if_icmp .ne 7, 3) := by decide +kernel
theorem d_M_operationOf_181 : decode b_M_operationOf 181 = .ok (.iconst 1, 1) := by decide +kernel
theorem d_M_operationOf_182 : decode b_M_operationOf 182 = .ok (.goto 4, 3) := by decide +kernel
theorem d_M_operationOf_185 : decode b_M_operationOf 185 = .ok (.iconst 0, 1) := by decide +kernel
theorem d_M_operationOf_186 : decode b_M_operationOf 186 = .ok (.istore 7, 2) := by decide +kernel
theorem d_M_operationOf_188 : decode b_M_operationOf 188 = .ok (.iload 7, 2) := by decide +kernel
theorem d_M_operationOf_190 : decode b_M_operationOf 190 = .ok (.ifCond .eq 6, 3) := by decide +kernel
theorem d_M_operationOf_193 : decode b_M_operationOf 193 = .ok (.iload 5, 2) := by decide +kernel
theorem d_M_operationOf_195 : decode b_M_operationOf 195 = .ok (.ireturn, 1) := by decide +kernel
theorem d_M_operationOf_196 : decode b_M_operationOf 196 = .ok (.iinc 5 1, 3) := by decide +kernel
theorem d_M_operationOf_199 : decode b_M_operationOf 199 = .ok (.goto (-177), 3) := by decide +kernel
theorem d_M_operationOf_202 : decode b_M_operationOf 202 = .ok (.iconst (-1), 1) := by decide +kernel
theorem d_M_operationOf_203 : decode b_M_operationOf 203 = .ok (.ireturn, 1) := by decide +kernel
abbrev b_M_signed : ByteArray := prog_8_method_48_code
abbrev y_M_signed : MethodName := ⟨"TwoPassModel", "signed", "(II)I"⟩
theorem kc_M_signed : (.code y_M_signed b_M_signed 2 (some .int) : Cond) ∈ tp_G := tp_Gm 1555 (by decide +kernel) (by decide +kernel)
def w_M_signed : List Cond := .code y_M_signed b_M_signed 2 (some .int) :: tp_G
theorem ks_M_signed : (.static y_M_signed : Cond) ∈ tp_G := tp_Gm 1554 (by decide +kernel) (by decide +kernel)
theorem d_M_signed_0 : decode b_M_signed 0 = .ok (.iload_n 0, 1) := by decide +kernel
theorem d_M_signed_1 : decode b_M_signed 1 = .ok (.iconst 1, 1) := by decide +kernel
theorem d_M_signed_2 : decode b_M_signed 2 = .ok (.iload_n 1, 1) := by decide +kernel
theorem d_M_signed_3 : decode b_M_signed 3 = .ok (.iconst 1, 1) := by decide +kernel
theorem d_M_signed_4 : decode b_M_signed 4 = .ok (.isub, 1) := by decide +kernel
theorem d_M_signed_5 : decode b_M_signed 5 = .ok (.ishl, 1) := by decide +kernel
theorem d_M_signed_6 : decode b_M_signed 6 = .ok (.if_icmp .lt 11, 3) := by decide +kernel
theorem d_M_signed_9 : decode b_M_signed 9 = .ok (.iload_n 0, 1) := by decide +kernel
theorem d_M_signed_10 : decode b_M_signed 10 = .ok (.iconst 1, 1) := by decide +kernel
theorem d_M_signed_11 : decode b_M_signed 11 = .ok (.iload_n 1, 1) := by decide +kernel
theorem d_M_signed_12 : decode b_M_signed 12 = .ok (.ishl, 1) := by decide +kernel
theorem d_M_signed_13 : decode b_M_signed 13 = .ok (.isub, 1) := by decide +kernel
theorem d_M_signed_14 : decode b_M_signed 14 = .ok (.goto 4, 3) := by decide +kernel
theorem d_M_signed_17 : decode b_M_signed 17 = .ok (.iload_n 0, 1) := by decide +kernel
theorem d_M_signed_18 : decode b_M_signed 18 = .ok (.ireturn, 1) := by decide +kernel
abbrev b_M_write : ByteArray := prog_8_method_45_code
abbrev y_M_write : MethodName := ⟨"TwoPassModel", "write", "(I)V"⟩
theorem kc_M_write : (.code y_M_write b_M_write 2 none : Cond) ∈ tp_G := tp_Gm 1543 (by decide +kernel) (by decide +kernel)
def w_M_write : List Cond := .code y_M_write b_M_write 2 none :: tp_G
theorem km_M_write : (.instanceMethod y_M_write : Cond) ∈ tp_G := tp_Gm 1542 (by decide +kernel) (by decide +kernel)
theorem kp_M_write : (.selects "TwoPassModel" y_M_write y_M_write : Cond) ∈ tp_G := List.mem_filter.mpr ⟨by decide +kernel, by decide +kernel⟩
theorem d_M_write_0 : decode b_M_write 0 = .ok (.aload_n 0, 1) := by decide +kernel
theorem d_M_write_1 : decode b_M_write 1 = .ok (.getfield 67, 3) := by decide +kernel
theorem d_M_write_4 : decode b_M_write 4 = .ok (.aload_n 0, 1) := by decide +kernel
theorem d_M_write_5 : decode b_M_write 5 = .ok (.getfield 411, 3) := by decide +kernel
theorem d_M_write_8 : decode b_M_write 8 = .ok (.iload_n 1, 1) := by decide +kernel
theorem d_M_write_9 : decode b_M_write 9 = .ok (.iastore, 1) := by decide +kernel
theorem d_M_write_10 : decode b_M_write 10 = .ok (.aload_n 0, 1) := by decide +kernel
theorem d_M_write_11 : decode b_M_write 11 = .ok (.dup, 1) := by decide +kernel
theorem d_M_write_12 : decode b_M_write 12 = .ok (.getfield 411, 3) := by decide +kernel
theorem d_M_write_15 : decode b_M_write 15 = .ok (.iconst 1, 1) := by decide +kernel
theorem d_M_write_16 : decode b_M_write 16 = .ok (.iadd, 1) := by decide +kernel
theorem d_M_write_17 : decode b_M_write 17 = .ok (.putfield 411, 3) := by decide +kernel
theorem d_M_write_20 : decode b_M_write 20 = .ok (.return_, 1) := by decide +kernel
abbrev b_M_writeNumber : ByteArray := prog_8_method_46_code
abbrev y_M_writeNumber : MethodName := ⟨"TwoPassModel", "writeNumber", "(I)V"⟩
theorem kc_M_writeNumber : (.code y_M_writeNumber b_M_writeNumber 6 none : Cond) ∈ tp_G := tp_Gm 1551 (by decide +kernel) (by decide +kernel)
def w_M_writeNumber : List Cond := .code y_M_writeNumber b_M_writeNumber 6 none :: tp_G
theorem km_M_writeNumber : (.instanceMethod y_M_writeNumber : Cond) ∈ tp_G := tp_Gm 1550 (by decide +kernel) (by decide +kernel)
theorem kp_M_writeNumber : (.selects "TwoPassModel" y_M_writeNumber y_M_writeNumber : Cond) ∈ tp_G := List.mem_filter.mpr ⟨by decide +kernel, by decide +kernel⟩
theorem d_M_writeNumber_0 : decode b_M_writeNumber 0 = .ok (.iload_n 1, 1) := by decide +kernel
theorem d_M_writeNumber_1 : decode b_M_writeNumber 1 = .ok (.ifCond .ge 9, 3) := by decide +kernel
theorem d_M_writeNumber_4 : decode b_M_writeNumber 4 = .ok (.aload_n 0, 1) := by decide +kernel
theorem d_M_writeNumber_5 : decode b_M_writeNumber 5 = .ok (.bipush 45, 2) := by decide +kernel
theorem d_M_writeNumber_7 : decode b_M_writeNumber 7 = .ok (.invokevirtual 414, 3) := by decide +kernel
theorem d_M_writeNumber_10 : decode b_M_writeNumber 10 = .ok (.iload_n 1, 1) := by decide +kernel
theorem d_M_writeNumber_11 : decode b_M_writeNumber 11 = .ok (.ifCond .ge 9, 3) := by decide +kernel
theorem d_M_writeNumber_14 : decode b_M_writeNumber 14 = .ok (.iload_n 1, 1) := by decide +kernel
theorem d_M_writeNumber_15 : decode b_M_writeNumber 15 = .ok (.i2l, 1) := by decide +kernel
theorem d_M_writeNumber_16 : decode b_M_writeNumber 16 = .ok (.lneg, 1) := by decide +kernel
theorem d_M_writeNumber_17 : decode b_M_writeNumber 17 = .ok (.goto 5, 3) := by decide +kernel
theorem d_M_writeNumber_20 : decode b_M_writeNumber 20 = .ok (.iload_n 1, 1) := by decide +kernel
theorem d_M_writeNumber_21 : decode b_M_writeNumber 21 = .ok (.i2l, 1) := by decide +kernel
theorem d_M_writeNumber_22 : decode b_M_writeNumber 22 = .ok (.lstore_n 2, 1) := by decide +kernel
theorem d_M_writeNumber_23 : decode b_M_writeNumber 23 = .ok (.lconst 1, 1) := by decide +kernel
theorem d_M_writeNumber_24 : decode b_M_writeNumber 24 = .ok (.lstore 4, 2) := by decide +kernel
theorem d_M_writeNumber_26 : decode b_M_writeNumber 26 = .ok (.lload_n 2, 1) := by decide +kernel
theorem d_M_writeNumber_27 : decode b_M_writeNumber 27 = .ok (.lload 4, 2) := by decide +kernel
theorem d_M_writeNumber_29 : decode b_M_writeNumber 29 = .ok (.ldiv, 1) := by decide +kernel
theorem d_M_writeNumber_30 : decode b_M_writeNumber 30 = .ok (.ldc2_w 417, 3) := by decide +kernel
theorem d_M_writeNumber_33 : decode b_M_writeNumber 33 = .ok (.lcmp, 1) := by decide +kernel
theorem d_M_writeNumber_34 : decode b_M_writeNumber 34 = .ok (.ifCond .le 14, 3) := by decide +kernel
theorem d_M_writeNumber_37 : decode b_M_writeNumber 37 = .ok (.ldc2_w 262, 3) := by decide +kernel
theorem d_M_writeNumber_40 : decode b_M_writeNumber 40 = .ok (.lload 4, 2) := by decide +kernel
theorem d_M_writeNumber_42 : decode b_M_writeNumber 42 = .ok (.lmul, 1) := by decide +kernel
theorem d_M_writeNumber_43 : decode b_M_writeNumber 43 = .ok (.lstore 4, 2) := by decide +kernel
theorem d_M_writeNumber_45 : decode b_M_writeNumber 45 = .ok (.goto (-19), 3) := by decide +kernel
theorem d_M_writeNumber_48 : decode b_M_writeNumber 48 = .ok (.lload 4, 2) := by decide +kernel
theorem d_M_writeNumber_50 : decode b_M_writeNumber 50 = .ok (.lconst 0, 1) := by decide +kernel
theorem d_M_writeNumber_51 : decode b_M_writeNumber 51 = .ok (.lcmp, 1) := by decide +kernel
theorem d_M_writeNumber_52 : decode b_M_writeNumber 52 = .ok (.ifCond .le 31, 3) := by decide +kernel
theorem d_M_writeNumber_55 : decode b_M_writeNumber 55 = .ok (.aload_n 0, 1) := by decide +kernel
theorem d_M_writeNumber_56 : decode b_M_writeNumber 56 = .ok (.ldc2_w 264, 3) := by decide +kernel
theorem d_M_writeNumber_59 : decode b_M_writeNumber 59 = .ok (.lload_n 2, 1) := by decide +kernel
theorem d_M_writeNumber_60 : decode b_M_writeNumber 60 = .ok (.lload 4, 2) := by decide +kernel
theorem d_M_writeNumber_62 : decode b_M_writeNumber 62 = .ok (.ldiv, 1) := by decide +kernel
theorem d_M_writeNumber_63 : decode b_M_writeNumber 63 = .ok (.ldc2_w 262, 3) := by decide +kernel
theorem d_M_writeNumber_66 : decode b_M_writeNumber 66 = .ok (.lrem, 1) := by decide +kernel
theorem d_M_writeNumber_67 : decode b_M_writeNumber 67 = .ok (.ladd, 1) := by decide +kernel
theorem d_M_writeNumber_68 : decode b_M_writeNumber 68 = .ok (.l2i, 1) := by decide +kernel
theorem d_M_writeNumber_69 : decode b_M_writeNumber 69 = .ok (.invokevirtual 414, 3) := by decide +kernel
theorem d_M_writeNumber_72 : decode b_M_writeNumber 72 = .ok (.lload 4, 2) := by decide +kernel
theorem d_M_writeNumber_74 : decode b_M_writeNumber 74 = .ok (.ldc2_w 262, 3) := by decide +kernel
theorem d_M_writeNumber_77 : decode b_M_writeNumber 77 = .ok (.ldiv, 1) := by decide +kernel
theorem d_M_writeNumber_78 : decode b_M_writeNumber 78 = .ok (.lstore 4, 2) := by decide +kernel
theorem d_M_writeNumber_80 : decode b_M_writeNumber 80 = .ok (.goto (-32), 3) := by decide +kernel
theorem d_M_writeNumber_83 : decode b_M_writeNumber 83 = .ok (.return_, 1) := by decide +kernel
abbrev b_M_writeRegister : ByteArray := prog_8_method_47_code
abbrev y_M_writeRegister : MethodName := ⟨"TwoPassModel", "writeRegister", "(II)V"⟩
theorem kc_M_writeRegister : (.code y_M_writeRegister b_M_writeRegister 3 none : Cond) ∈ tp_G := tp_Gm 1547 (by decide +kernel) (by decide +kernel)
def w_M_writeRegister : List Cond := .code y_M_writeRegister b_M_writeRegister 3 none :: tp_G
theorem km_M_writeRegister : (.instanceMethod y_M_writeRegister : Cond) ∈ tp_G := tp_Gm 1546 (by decide +kernel) (by decide +kernel)
theorem kp_M_writeRegister : (.selects "TwoPassModel" y_M_writeRegister y_M_writeRegister : Cond) ∈ tp_G := List.mem_filter.mpr ⟨by decide +kernel, by decide +kernel⟩
theorem d_M_writeRegister_0 : decode b_M_writeRegister 0 = .ok (.aload_n 0, 1) := by decide +kernel
theorem d_M_writeRegister_1 : decode b_M_writeRegister 1 = .ok (.iload_n 1, 1) := by decide +kernel
theorem d_M_writeRegister_2 : decode b_M_writeRegister 2 = .ok (.invokevirtual 414, 3) := by decide +kernel
theorem d_M_writeRegister_5 : decode b_M_writeRegister 5 = .ok (.aload_n 0, 1) := by decide +kernel
theorem d_M_writeRegister_6 : decode b_M_writeRegister 6 = .ok (.bipush 120, 2) := by decide +kernel
theorem d_M_writeRegister_8 : decode b_M_writeRegister 8 = .ok (.invokevirtual 414, 3) := by decide +kernel
theorem d_M_writeRegister_11 : decode b_M_writeRegister 11 = .ok (.aload_n 0, 1) := by decide +kernel
theorem d_M_writeRegister_12 : decode b_M_writeRegister 12 = .ok (.iload_n 2, 1) := by decide +kernel
theorem d_M_writeRegister_13 : decode b_M_writeRegister 13 = .ok (.invokevirtual 419, 3) := by decide +kernel
theorem d_M_writeRegister_16 : decode b_M_writeRegister 16 = .ok (.return_, 1) := by decide +kernel
theorem kl_M_13 : (.fieldLink "TwoPassModel" 13 "TwoPassModel" "forms" "[I" : Cond) ∈ tp_G := tp_Gm 1241 (by decide +kernel) (by decide +kernel)
theorem kl_M_321 : (.constant "TwoPassModel" 321 100000 : Cond) ∈ tp_G := tp_Gm 1407 (by decide +kernel) (by decide +kernel)
theorem kl_M_414 : (.methodLink "TwoPassModel" 414 y_M_write : Cond) ∈ tp_G := tp_Gm 1540 (by decide +kernel) (by decide +kernel)
theorem kl_M_417 : (.constantLong "TwoPassModel" 417 9 : Cond) ∈ tp_G := tp_Gm 1552 (by decide +kernel) (by decide +kernel)
theorem kl_M_262 : (.constantLong "TwoPassModel" 262 10 : Cond) ∈ tp_G := tp_Gm 1431 (by decide +kernel) (by decide +kernel)
theorem kl_M_264 : (.constantLong "TwoPassModel" 264 48 : Cond) ∈ tp_G := tp_Gm 1432 (by decide +kernel) (by decide +kernel)
theorem kl_M_419 : (.methodLink "TwoPassModel" 419 y_M_writeNumber : Cond) ∈ tp_G := tp_Gm 1548 (by decide +kernel) (by decide +kernel)
