abbrev b_M_blanks : ByteArray := prog_8_method_6_code
abbrev y_M_blanks : MethodName := ⟨"TwoPassModel", "blanks", "()V"⟩
theorem kc_M_blanks : (.code y_M_blanks b_M_blanks 1 none : Cond) ∈ tp_G := tp_Gm 1371 (by decide +kernel) (by decide +kernel)
def w_M_blanks : List Cond := .code y_M_blanks b_M_blanks 1 none :: tp_G
theorem km_M_blanks : (.instanceMethod y_M_blanks : Cond) ∈ tp_G := tp_Gm 1370 (by decide +kernel) (by decide +kernel)
theorem kp_M_blanks : (.selects "TwoPassModel" y_M_blanks y_M_blanks : Cond) ∈ tp_G := List.mem_filter.mpr ⟨by decide +kernel, by decide +kernel⟩
theorem d_M_blanks_0 : decode b_M_blanks 0 = .ok (.aload_n 0, 1) := by decide +kernel
theorem d_M_blanks_1 : decode b_M_blanks 1 = .ok (.invokevirtual 221, 3) := by decide +kernel
theorem d_M_blanks_4 : decode b_M_blanks 4 = .ok (.bipush 32, 2) := by decide +kernel
theorem d_M_blanks_6 : decode b_M_blanks 6 = .ok (.if_icmp .ne 16, 3) := by decide +kernel
theorem d_M_blanks_9 : decode b_M_blanks 9 = .ok (.aload_n 0, 1) := by decide +kernel
theorem d_M_blanks_10 : decode b_M_blanks 10 = .ok (.dup, 1) := by decide +kernel
theorem d_M_blanks_11 : decode b_M_blanks 11 = .ok (.getfield 211, 3) := by decide +kernel
theorem d_M_blanks_14 : decode b_M_blanks 14 = .ok (.iconst 1, 1) := by decide +kernel
theorem d_M_blanks_15 : decode b_M_blanks 15 = .ok (.iadd, 1) := by decide +kernel
theorem d_M_blanks_16 : decode b_M_blanks 16 = .ok (.putfield 211, 3) := by decide +kernel
theorem d_M_blanks_19 : decode b_M_blanks 19 = .ok (.goto (-19), 3) := by decide +kernel
theorem d_M_blanks_22 : decode b_M_blanks 22 = .ok (.return_, 1) := by decide +kernel
abbrev b_M_isOver : ByteArray := prog_8_method_19_code
abbrev y_M_isOver : MethodName := ⟨"TwoPassModel", "isOver", "()Z"⟩
theorem kc_M_isOver : (.code y_M_isOver b_M_isOver 1 (some .boolean) : Cond) ∈ tp_G := tp_Gm 1367 (by decide +kernel) (by decide +kernel)
def w_M_isOver : List Cond := .code y_M_isOver b_M_isOver 1 (some .boolean) :: tp_G
theorem km_M_isOver : (.instanceMethod y_M_isOver : Cond) ∈ tp_G := tp_Gm 1366 (by decide +kernel) (by decide +kernel)
theorem kp_M_isOver : (.selects "TwoPassModel" y_M_isOver y_M_isOver : Cond) ∈ tp_G := List.mem_filter.mpr ⟨by decide +kernel, by decide +kernel⟩
theorem d_M_isOver_0 : decode b_M_isOver 0 = .ok (.aload_n 0, 1) := by decide +kernel
theorem d_M_isOver_1 : decode b_M_isOver 1 = .ok (.invokevirtual 225, 3) := by decide +kernel
theorem d_M_isOver_4 : decode b_M_isOver 4 = .ok (.aload_n 0, 1) := by decide +kernel
theorem d_M_isOver_5 : decode b_M_isOver 5 = .ok (.getfield 211, 3) := by decide +kernel
theorem d_M_isOver_8 : decode b_M_isOver 8 = .ok (.aload_n 0, 1) := by decide +kernel
theorem d_M_isOver_9 : decode b_M_isOver 9 = .ok (.getfield 214, 3) := by decide +kernel
theorem d_M_isOver_12 : decode b_M_isOver 12 = .ok (.if_icmp .eq 12, 3) := by decide +kernel
theorem d_M_isOver_15 : decode b_M_isOver 15 = .ok (.aload_n 0, 1) := by decide +kernel
theorem d_M_isOver_16 : decode b_M_isOver 16 = .ok (.invokevirtual 221, 3) := by decide +kernel
theorem d_M_isOver_19 : decode b_M_isOver 19 = .ok (.bipush 35, 2) := by decide +kernel
theorem d_M_isOver_21 : decode b_M_isOver 21 = .ok (.if_icmp .ne 7, 3) := by decide +kernel
theorem d_M_isOver_24 : decode b_M_isOver 24 = .ok (.iconst 1, 1) := by decide +kernel
theorem d_M_isOver_25 : decode b_M_isOver 25 = .ok (.goto 4, 3) := by decide +kernel
theorem d_M_isOver_28 : decode b_M_isOver 28 = .ok (.iconst 0, 1) := by decide +kernel
theorem d_M_isOver_29 : decode b_M_isOver 29 = .ok (.ireturn, 1) := by decide +kernel
abbrev b_M_line : ByteArray := prog_8_method_24_code
abbrev y_M_line : MethodName := ⟨"TwoPassModel", "line", "(I)I"⟩
theorem kc_M_line : (.code y_M_line b_M_line 3 (some .int) : Cond) ∈ tp_G := tp_Gm 1359 (by decide +kernel) (by decide +kernel)
def w_M_line : List Cond := .code y_M_line b_M_line 3 (some .int) :: tp_G
theorem km_M_line : (.instanceMethod y_M_line : Cond) ∈ tp_G := tp_Gm 1357 (by decide +kernel) (by decide +kernel)
theorem kv_M_M_line : (.selects "TwoPassModel" y_M_line y_M_line : Cond) ∈ tp_G := tp_Gm 1358 (by decide +kernel) (by decide +kernel)
theorem d_M_line_0 : decode b_M_line 0 = .ok (.aload_n 0, 1) := by decide +kernel
theorem d_M_line_1 : decode b_M_line 1 = .ok (.invokevirtual 347, 3) := by decide +kernel
theorem d_M_line_4 : decode b_M_line 4 = .ok (.aload_n 0, 1) := by decide +kernel
theorem d_M_line_5 : decode b_M_line 5 = .ok (.iconst 0, 1) := by decide +kernel
theorem d_M_line_6 : decode b_M_line 6 = .ok (.putfield 214, 3) := by decide +kernel
theorem d_M_line_9 : decode b_M_line 9 = .ok (.aload_n 0, 1) := by decide +kernel
theorem d_M_line_10 : decode b_M_line 10 = .ok (.aload_n 0, 1) := by decide +kernel
theorem d_M_line_11 : decode b_M_line 11 = .ok (.getfield 217, 3) := by decide +kernel
theorem d_M_line_14 : decode b_M_line 14 = .ok (.ifCond .ne 11, 3) := by decide +kernel
theorem d_M_line_17 : decode b_M_line 17 = .ok (.iload_n 1, 1) := by decide +kernel
theorem d_M_line_18 : decode b_M_line 18 = .ok (.iconst 2, 1) := by decide +kernel
theorem d_M_line_19 : decode b_M_line 19 = .ok (.invokestatic 350, 3) := by decide +kernel
theorem d_M_line_22 : decode b_M_line 22 = .ok (.ifCond .eq 7, 3) := by decide +kernel
theorem d_M_line_25 : decode b_M_line 25 = .ok (.iconst 1, 1) := by decide +kernel
theorem d_M_line_26 : decode b_M_line 26 = .ok (.goto 4, 3) := by decide +kernel
theorem d_M_line_29 : decode b_M_line 29 = .ok (.iconst 0, 1) := by decide +kernel
theorem d_M_line_30 : decode b_M_line 30 = .ok (.putfield 208, 3) := by decide +kernel
theorem d_M_line_33 : decode b_M_line 33 = .ok (.aload_n 0, 1) := by decide +kernel
theorem d_M_line_34 : decode b_M_line 34 = .ok (.getfield 208, 3) := by decide +kernel
theorem d_M_line_37 : decode b_M_line 37 = .ok (.ifCond .le 5, 3) := by decide +kernel
theorem d_M_line_40 : decode b_M_line 40 = .ok (.iconst 0, 1) := by decide +kernel
theorem d_M_line_41 : decode b_M_line 41 = .ok (.ireturn, 1) := by decide +kernel
theorem d_M_line_42 : decode b_M_line 42 = .ok (.aload_n 0, 1) := by decide +kernel
theorem d_M_line_43 : decode b_M_line 43 = .ok (.aload_n 0, 1) := by decide +kernel
theorem d_M_line_44 : decode b_M_line 44 = .ok (.getfield 23, 3) := by decide +kernel
theorem d_M_line_47 : decode b_M_line 47 = .ok (.iload_n 1, 1) := by decide +kernel
theorem d_M_line_48 : decode b_M_line 48 = .ok (.iaload, 1) := by decide +kernel
theorem d_M_line_49 : decode b_M_line 49 = .ok (.bipush 16, 2) := by decide +kernel
theorem d_M_line_51 : decode b_M_line 51 = .ok (.if_icmp .eq 24, 3) := by decide +kernel
theorem d_M_line_54 : decode b_M_line 54 = .ok (.aload_n 0, 1) := by decide +kernel
theorem d_M_line_55 : decode b_M_line 55 = .ok (.getfield 333, 3) := by decide +kernel
theorem d_M_line_58 : decode b_M_line 58 = .ok (.lconst 0, 1) := by decide +kernel
theorem d_M_line_59 : decode b_M_line 59 = .ok (.lcmp, 1) := by decide +kernel
theorem d_M_line_60 : decode b_M_line 60 = .ok (.ifCond .eq 19, 3) := by decide +kernel
theorem d_M_line_63 : decode b_M_line 63 = .ok (.aload_n 0, 1) := by decide +kernel
theorem d_M_line_64 : decode b_M_line 64 = .ok (.iload_n 1, 1) := by decide +kernel
theorem d_M_line_65 : decode b_M_line 65 = .ok (.aload_n 0, 1) := by decide +kernel
theorem d_M_line_66 : decode b_M_line 66 = .ok (.getfield 333, 3) := by decide +kernel
theorem d_M_line_69 : decode b_M_line 69 = .ok (.invokevirtual 353, 3) := by decide +kernel
theorem d_M_line_72 : decode b_M_line 72 = .ok (.ifCond .lt 7, 3) := by decide +kernel
theorem d_M_line_75 : decode b_M_line 75 = .ok (.iconst 2, 1) := by decide +kernel
theorem d_M_line_76 : decode b_M_line 76 = .ok (.goto 4, 3) := by decide +kernel
theorem d_M_line_79 : decode b_M_line 79 = .ok (.iconst 0, 1) := by decide +kernel
theorem d_M_line_80 : decode b_M_line 80 = .ok (.putfield 208, 3) := by decide +kernel
theorem d_M_line_83 : decode b_M_line 83 = .ok (.aload_n 0, 1) := by decide +kernel
theorem d_M_line_84 : decode b_M_line 84 = .ok (.getfield 208, 3) := by decide +kernel
theorem d_M_line_87 : decode b_M_line 87 = .ok (.ifCond .le 5, 3) := by decide +kernel
theorem d_M_line_90 : decode b_M_line 90 = .ok (.iconst 0, 1) := by decide +kernel
theorem d_M_line_91 : decode b_M_line 91 = .ok (.ireturn, 1) := by decide +kernel
theorem d_M_line_92 : decode b_M_line 92 = .ok (.bipush 16, 2) := by decide +kernel
theorem d_M_line_94 : decode b_M_line 94 = .ok (.iload_n 1, 1) := by decide +kernel
theorem d_M_line_95 : decode b_M_line 95 = .ok (.imul, 1) := by decide +kernel
theorem d_M_line_96 : decode b_M_line 96 = .ok (.aload_n 0, 1) := by decide +kernel
theorem d_M_line_97 : decode b_M_line 97 = .ok (.getfield 23, 3) := by decide +kernel
theorem d_M_line_100 : decode b_M_line 100 = .ok (.iload_n 1, 1) := by decide +kernel
theorem d_M_line_101 : decode b_M_line 101 = .ok (.iaload, 1) := by decide +kernel
theorem d_M_line_102 : decode b_M_line 102 = .ok (.iadd, 1) := by decide +kernel
theorem d_M_line_103 : decode b_M_line 103 = .ok (.istore_n 2, 1) := by decide +kernel
theorem d_M_line_104 : decode b_M_line 104 = .ok (.aload_n 0, 1) := by decide +kernel
theorem d_M_line_105 : decode b_M_line 105 = .ok (.getfield 26, 3) := by decide +kernel
theorem d_M_line_108 : decode b_M_line 108 = .ok (.iload_n 2, 1) := by decide +kernel
theorem d_M_line_109 : decode b_M_line 109 = .ok (.aload_n 0, 1) := by decide +kernel
theorem d_M_line_110 : decode b_M_line 110 = .ok (.getfield 326, 3) := by decide +kernel
theorem d_M_line_113 : decode b_M_line 113 = .ok (.iastore, 1) := by decide +kernel
theorem d_M_line_114 : decode b_M_line 114 = .ok (.aload_n 0, 1) := by decide +kernel
theorem d_M_line_115 : decode b_M_line 115 = .ok (.getfield 29, 3) := by decide +kernel
theorem d_M_line_118 : decode b_M_line 118 = .ok (.iload_n 2, 1) := by decide +kernel
theorem d_M_line_119 : decode b_M_line 119 = .ok (.aload_n 0, 1) := by decide +kernel
theorem d_M_line_120 : decode b_M_line 120 = .ok (.getfield 323, 3) := by decide +kernel
theorem d_M_line_123 : decode b_M_line 123 = .ok (.iastore, 1) := by decide +kernel
theorem d_M_line_124 : decode b_M_line 124 = .ok (.aload_n 0, 1) := by decide +kernel
theorem d_M_line_125 : decode b_M_line 125 = .ok (.getfield 32, 3) := by decide +kernel
theorem d_M_line_128 : decode b_M_line 128 = .ok (.iload_n 2, 1) := by decide +kernel
theorem d_M_line_129 : decode b_M_line 129 = .ok (.aload_n 0, 1) := by decide +kernel
theorem d_M_line_130 : decode b_M_line 130 = .ok (.getfield 290, 3) := by decide +kernel
theorem d_M_line_133 : decode b_M_line 133 = .ok (.iastore, 1) := by decide +kernel
theorem d_M_line_134 : decode b_M_line 134 = .ok (.aload_n 0, 1) := by decide +kernel
theorem d_M_line_135 : decode b_M_line 135 = .ok (.getfield 35, 3) := by decide +kernel
theorem d_M_line_138 : decode b_M_line 138 = .ok (.iload_n 2, 1) := by decide +kernel
theorem d_M_line_139 : decode b_M_line 139 = .ok (.aload_n 0, 1) := by decide +kernel
theorem d_M_line_140 : decode b_M_line 140 = .ok (.getfield 281, 3) := by decide +kernel
theorem d_M_line_143 : decode b_M_line 143 = .ok (.iastore, 1) := by decide +kernel
theorem d_M_line_144 : decode b_M_line 144 = .ok (.aload_n 0, 1) := by decide +kernel
theorem d_M_line_145 : decode b_M_line 145 = .ok (.getfield 38, 3) := by decide +kernel
theorem d_M_line_148 : decode b_M_line 148 = .ok (.iload_n 2, 1) := by decide +kernel
theorem d_M_line_149 : decode b_M_line 149 = .ok (.aload_n 0, 1) := by decide +kernel
theorem d_M_line_150 : decode b_M_line 150 = .ok (.getfield 296, 3) := by decide +kernel
theorem d_M_line_153 : decode b_M_line 153 = .ok (.iastore, 1) := by decide +kernel
theorem d_M_line_154 : decode b_M_line 154 = .ok (.aload_n 0, 1) := by decide +kernel
theorem d_M_line_155 : decode b_M_line 155 = .ok (.getfield 41, 3) := by decide +kernel
theorem d_M_line_158 : decode b_M_line 158 = .ok (.iload_n 2, 1) := by decide +kernel
theorem d_M_line_159 : decode b_M_line 159 = .ok (.aload_n 0, 1) := by decide +kernel
theorem d_M_line_160 : decode b_M_line 160 = .ok (.getfield 274, 3) := by decide +kernel
theorem d_M_line_163 : decode b_M_line 163 = .ok (.lastore, 1) := by decide +kernel
theorem d_M_line_164 : decode b_M_line 164 = .ok (.aload_n 0, 1) := by decide +kernel
theorem d_M_line_165 : decode b_M_line 165 = .ok (.getfield 44, 3) := by decide +kernel
theorem d_M_line_168 : decode b_M_line 168 = .ok (.iload_n 2, 1) := by decide +kernel
theorem d_M_line_169 : decode b_M_line 169 = .ok (.aload_n 0, 1) := by decide +kernel
theorem d_M_line_170 : decode b_M_line 170 = .ok (.getfield 333, 3) := by decide +kernel
theorem d_M_line_173 : decode b_M_line 173 = .ok (.lastore, 1) := by decide +kernel
theorem d_M_line_174 : decode b_M_line 174 = .ok (.aload_n 0, 1) := by decide +kernel
theorem d_M_line_175 : decode b_M_line 175 = .ok (.getfield 47, 3) := by decide +kernel
theorem d_M_line_178 : decode b_M_line 178 = .ok (.iload_n 2, 1) := by decide +kernel
theorem d_M_line_179 : decode b_M_line 179 = .ok (.aload_n 0, 1) := by decide +kernel
theorem d_M_line_180 : decode b_M_line 180 = .ok (.getfield 287, 3) := by decide +kernel
theorem d_M_line_183 : decode b_M_line 183 = .ok (.lastore, 1) := by decide +kernel
theorem d_M_line_184 : decode b_M_line 184 = .ok (.aload_n 0, 1) := by decide +kernel
theorem d_M_line_185 : decode b_M_line 185 = .ok (.getfield 23, 3) := by decide +kernel
theorem d_M_line_188 : decode b_M_line 188 = .ok (.iload_n 1, 1) := by decide +kernel
theorem d_M_line_189 : decode b_M_line 189 = .ok (.dup2, 1) := by decide +kernel
theorem d_M_line_190 : decode b_M_line 190 = .ok (.iaload, 1) := by decide +kernel
theorem d_M_line_191 : decode b_M_line 191 = .ok (.iconst 1, 1) := by decide +kernel
theorem d_M_line_192 : decode b_M_line 192 = .ok (.iadd, 1) := by decide +kernel
theorem d_M_line_193 : decode b_M_line 193 = .ok (.iastore, 1) := by decide +kernel
theorem d_M_line_194 : decode b_M_line 194 = .ok (.aload_n 0, 1) := by decide +kernel
theorem d_M_line_195 : decode b_M_line 195 = .ok (.iconst (-1), 1) := by decide +kernel
theorem d_M_line_196 : decode b_M_line 196 = .ok (.putfield 60, 3) := by decide +kernel
theorem d_M_line_199 : decode b_M_line 199 = .ok (.aload_n 0, 1) := by decide +kernel
theorem d_M_line_200 : decode b_M_line 200 = .ok (.getfield 23, 3) := by decide +kernel
theorem d_M_line_203 : decode b_M_line 203 = .ok (.iload_n 1, 1) := by decide +kernel
theorem d_M_line_204 : decode b_M_line 204 = .ok (.iaload, 1) := by decide +kernel
theorem d_M_line_205 : decode b_M_line 205 = .ok (.ireturn, 1) := by decide +kernel
abbrev b_M_peek : ByteArray := prog_8_method_4_code
abbrev y_M_peek : MethodName := ⟨"TwoPassModel", "peek", "()I"⟩
theorem kc_M_peek : (.code y_M_peek b_M_peek 1 (some .int) : Cond) ∈ tp_G := tp_Gm 1375 (by decide +kernel) (by decide +kernel)
def w_M_peek : List Cond := .code y_M_peek b_M_peek 1 (some .int) :: tp_G
theorem km_M_peek : (.instanceMethod y_M_peek : Cond) ∈ tp_G := tp_Gm 1374 (by decide +kernel) (by decide +kernel)
theorem kp_M_peek : (.selects "TwoPassModel" y_M_peek y_M_peek : Cond) ∈ tp_G := List.mem_filter.mpr ⟨by decide +kernel, by decide +kernel⟩
theorem d_M_peek_0 : decode b_M_peek 0 = .ok (.aload_n 0, 1) := by decide +kernel
theorem d_M_peek_1 : decode b_M_peek 1 = .ok (.getfield 211, 3) := by decide +kernel
theorem d_M_peek_4 : decode b_M_peek 4 = .ok (.aload_n 0, 1) := by decide +kernel
theorem d_M_peek_5 : decode b_M_peek 5 = .ok (.getfield 214, 3) := by decide +kernel
theorem d_M_peek_8 : decode b_M_peek 8 = .ok (.if_icmp .ge 15, 3) := by decide +kernel
theorem d_M_peek_11 : decode b_M_peek 11 = .ok (.aload_n 0, 1) := by decide +kernel
theorem d_M_peek_12 : decode b_M_peek 12 = .ok (.getfield 17, 3) := by decide +kernel
theorem d_M_peek_15 : decode b_M_peek 15 = .ok (.aload_n 0, 1) := by decide +kernel
theorem d_M_peek_16 : decode b_M_peek 16 = .ok (.getfield 211, 3) := by decide +kernel
theorem d_M_peek_19 : decode b_M_peek 19 = .ok (.iaload, 1) := by decide +kernel
theorem d_M_peek_20 : decode b_M_peek 20 = .ok (.goto 4, 3) := by decide +kernel
theorem d_M_peek_23 : decode b_M_peek 23 = .ok (.iconst 0, 1) := by decide +kernel
theorem d_M_peek_24 : decode b_M_peek 24 = .ok (.ireturn, 1) := by decide +kernel
abbrev b_M_readLine : ByteArray := prog_8_method_21_code
abbrev y_M_readLine : MethodName := ⟨"TwoPassModel", "readLine", "()V"⟩
theorem kc_M_readLine : (.code y_M_readLine b_M_readLine 1 none : Cond) ∈ tp_G := tp_Gm 1363 (by decide +kernel) (by decide +kernel)
def w_M_readLine : List Cond := .code y_M_readLine b_M_readLine 1 none :: tp_G
theorem km_M_readLine : (.instanceMethod y_M_readLine : Cond) ∈ tp_G := tp_Gm 1362 (by decide +kernel) (by decide +kernel)
theorem kp_M_readLine : (.selects "TwoPassModel" y_M_readLine y_M_readLine : Cond) ∈ tp_G := List.mem_filter.mpr ⟨by decide +kernel, by decide +kernel⟩
theorem d_M_readLine_0 : decode b_M_readLine 0 = .ok (.aload_n 0, 1) := by decide +kernel
theorem d_M_readLine_1 : decode b_M_readLine 1 = .ok (.iconst 0, 1) := by decide +kernel
theorem d_M_readLine_2 : decode b_M_readLine 2 = .ok (.putfield 217, 3) := by decide +kernel
theorem d_M_readLine_5 : decode b_M_readLine 5 = .ok (.aload_n 0, 1) := by decide +kernel
theorem d_M_readLine_6 : decode b_M_readLine 6 = .ok (.iconst 0, 1) := by decide +kernel
theorem d_M_readLine_7 : decode b_M_readLine 7 = .ok (.putfield 211, 3) := by decide +kernel
theorem d_M_readLine_10 : decode b_M_readLine 10 = .ok (.aload_n 0, 1) := by decide +kernel
theorem d_M_readLine_11 : decode b_M_readLine 11 = .ok (.iconst 0, 1) := by decide +kernel
theorem d_M_readLine_12 : decode b_M_readLine 12 = .ok (.putfield 326, 3) := by decide +kernel
theorem d_M_readLine_15 : decode b_M_readLine 15 = .ok (.aload_n 0, 1) := by decide +kernel
theorem d_M_readLine_16 : decode b_M_readLine 16 = .ok (.iconst 0, 1) := by decide +kernel
theorem d_M_readLine_17 : decode b_M_readLine 17 = .ok (.putfield 323, 3) := by decide +kernel
theorem d_M_readLine_20 : decode b_M_readLine 20 = .ok (.aload_n 0, 1) := by decide +kernel
theorem d_M_readLine_21 : decode b_M_readLine 21 = .ok (.iconst 0, 1) := by decide +kernel
theorem d_M_readLine_22 : decode b_M_readLine 22 = .ok (.putfield 290, 3) := by decide +kernel
theorem d_M_readLine_25 : decode b_M_readLine 25 = .ok (.aload_n 0, 1) := by decide +kernel
theorem d_M_readLine_26 : decode b_M_readLine 26 = .ok (.iconst 0, 1) := by decide +kernel
theorem d_M_readLine_27 : decode b_M_readLine 27 = .ok (.putfield 281, 3) := by decide +kernel
theorem d_M_readLine_30 : decode b_M_readLine 30 = .ok (.aload_n 0, 1) := by decide +kernel
theorem d_M_readLine_31 : decode b_M_readLine 31 = .ok (.iconst 0, 1) := by decide +kernel
theorem d_M_readLine_32 : decode b_M_readLine 32 = .ok (.putfield 296, 3) := by decide +kernel
theorem d_M_readLine_35 : decode b_M_readLine 35 = .ok (.aload_n 0, 1) := by decide +kernel
theorem d_M_readLine_36 : decode b_M_readLine 36 = .ok (.lconst 0, 1) := by decide +kernel
theorem d_M_readLine_37 : decode b_M_readLine 37 = .ok (.putfield 274, 3) := by decide +kernel
theorem d_M_readLine_40 : decode b_M_readLine 40 = .ok (.aload_n 0, 1) := by decide +kernel
theorem d_M_readLine_41 : decode b_M_readLine 41 = .ok (.lconst 0, 1) := by decide +kernel
theorem d_M_readLine_42 : decode b_M_readLine 42 = .ok (.putfield 333, 3) := by decide +kernel
theorem d_M_readLine_45 : decode b_M_readLine 45 = .ok (.aload_n 0, 1) := by decide +kernel
theorem d_M_readLine_46 : decode b_M_readLine 46 = .ok (.lconst 0, 1) := by decide +kernel
theorem d_M_readLine_47 : decode b_M_readLine 47 = .ok (.putfield 287, 3) := by decide +kernel
theorem d_M_readLine_50 : decode b_M_readLine 50 = .ok (.aload_n 0, 1) := by decide +kernel
theorem d_M_readLine_51 : decode b_M_readLine 51 = .ok (.invokevirtual 336, 3) := by decide +kernel
theorem d_M_readLine_54 : decode b_M_readLine 54 = .ok (.ifCond .eq 4, 3) := by decide +kernel
theorem d_M_readLine_57 : decode b_M_readLine 57 = .ok (.return_, 1) := by decide +kernel
theorem d_M_readLine_58 : decode b_M_readLine 58 = .ok (.aload_n 0, 1) := by decide +kernel
theorem d_M_readLine_59 : decode b_M_readLine 59 = .ok (.invokevirtual 251, 3) := by decide +kernel
theorem d_M_readLine_62 : decode b_M_readLine 62 = .ok (.aload_n 0, 1) := by decide +kernel
theorem d_M_readLine_63 : decode b_M_readLine 63 = .ok (.getfield 217, 3) := by decide +kernel
theorem d_M_readLine_66 : decode b_M_readLine 66 = .ok (.ifCond .eq 4, 3) := by decide +kernel
theorem d_M_readLine_69 : decode b_M_readLine 69 = .ok (.return_, 1) := by decide +kernel
theorem d_M_readLine_70 : decode b_M_readLine 70 = .ok (.aload_n 0, 1) := by decide +kernel
theorem d_M_readLine_71 : decode b_M_readLine 71 = .ok (.bipush 58, 2) := by decide +kernel
theorem d_M_readLine_73 : decode b_M_readLine 73 = .ok (.invokevirtual 248, 3) := by decide +kernel
theorem d_M_readLine_76 : decode b_M_readLine 76 = .ok (.ifCond .eq 38, 3) := by decide +kernel
theorem d_M_readLine_79 : decode b_M_readLine 79 = .ok (.aload_n 0, 1) := by decide +kernel
theorem d_M_readLine_80 : decode b_M_readLine 80 = .ok (.aload_n 0, 1) := by decide +kernel
theorem d_M_readLine_81 : decode b_M_readLine 81 = .ok (.invokevirtual 284, 3) := by decide +kernel
theorem d_M_readLine_84 : decode b_M_readLine 84 = .ok (.putfield 333, 3) := by decide +kernel
theorem d_M_readLine_87 : decode b_M_readLine 87 = .ok (.aload_n 0, 1) := by decide +kernel
theorem d_M_readLine_88 : decode b_M_readLine 88 = .ok (.getfield 217, 3) := by decide +kernel
theorem d_M_readLine_91 : decode b_M_readLine 91 = .ok (.ifCond .ne 10, 3) := by decide +kernel
theorem d_M_readLine_94 : decode b_M_readLine 94 = .ok (.aload_n 0, 1) := by decide +kernel
theorem d_M_readLine_95 : decode b_M_readLine 95 = .ok (.invokevirtual 336, 3) := by decide +kernel
theorem d_M_readLine_98 : decode b_M_readLine 98 = .ok (.ifCond .eq 4, 3) := by decide +kernel
theorem d_M_readLine_101 : decode b_M_readLine 101 = .ok (.return_, 1) := by decide +kernel
theorem d_M_readLine_102 : decode b_M_readLine 102 = .ok (.aload_n 0, 1) := by decide +kernel
theorem d_M_readLine_103 : decode b_M_readLine 103 = .ok (.invokevirtual 251, 3) := by decide +kernel
theorem d_M_readLine_106 : decode b_M_readLine 106 = .ok (.aload_n 0, 1) := by decide +kernel
theorem d_M_readLine_107 : decode b_M_readLine 107 = .ok (.getfield 217, 3) := by decide +kernel
theorem d_M_readLine_110 : decode b_M_readLine 110 = .ok (.ifCond .eq 4, 3) := by decide +kernel
theorem d_M_readLine_113 : decode b_M_readLine 113 = .ok (.return_, 1) := by decide +kernel
theorem d_M_readLine_114 : decode b_M_readLine 114 = .ok (.aload_n 0, 1) := by decide +kernel
theorem d_M_readLine_115 : decode b_M_readLine 115 = .ok (.invokevirtual 340, 3) := by decide +kernel
theorem d_M_readLine_118 : decode b_M_readLine 118 = .ok (.aload_n 0, 1) := by decide +kernel
theorem d_M_readLine_119 : decode b_M_readLine 119 = .ok (.aload_n 0, 1) := by decide +kernel
theorem d_M_readLine_120 : decode b_M_readLine 120 = .ok (.getfield 217, 3) := by decide +kernel
theorem d_M_readLine_123 : decode b_M_readLine 123 = .ok (.ifCond .ne 10, 3) := by decide +kernel
theorem d_M_readLine_126 : decode b_M_readLine 126 = .ok (.aload_n 0, 1) := by decide +kernel
theorem d_M_readLine_127 : decode b_M_readLine 127 = .ok (.invokevirtual 336, 3) := by decide +kernel
theorem d_M_readLine_130 : decode b_M_readLine 130 = .ok (.ifCond .eq 7, 3) := by decide +kernel
theorem d_M_readLine_133 : decode b_M_readLine 133 = .ok (.iconst 1, 1) := by decide +kernel
theorem d_M_readLine_134 : decode b_M_readLine 134 = .ok (.goto 4, 3) := by decide +kernel
theorem d_M_readLine_137 : decode b_M_readLine 137 = .ok (.iconst 0, 1) := by decide +kernel
theorem d_M_readLine_138 : decode b_M_readLine 138 = .ok (.invokevirtual 238, 3) := by decide +kernel
theorem d_M_readLine_141 : decode b_M_readLine 141 = .ok (.return_, 1) := by decide +kernel
theorem kl_M_221 : (.methodLink "TwoPassModel" 221 y_M_peek : Cond) ∈ tp_G := tp_Gm 1372 (by decide +kernel) (by decide +kernel)
theorem kl_M_211 : (.fieldLink "TwoPassModel" 211 "TwoPassModel" "at" "I" : Cond) ∈ tp_G := tp_Gm 1245 (by decide +kernel) (by decide +kernel)
theorem kl_M_225 : (.methodLink "TwoPassModel" 225 y_M_blanks : Cond) ∈ tp_G := tp_Gm 1368 (by decide +kernel) (by decide +kernel)
theorem kl_M_214 : (.fieldLink "TwoPassModel" 214 "TwoPassModel" "size" "I" : Cond) ∈ tp_G := tp_Gm 1242 (by decide +kernel) (by decide +kernel)
theorem kl_M_347 : (.methodLink "TwoPassModel" 347 y_M_readLine : Cond) ∈ tp_G := tp_Gm 1360 (by decide +kernel) (by decide +kernel)
theorem kl_M_217 : (.fieldLink "TwoPassModel" 217 "TwoPassModel" "bad" "Z" : Cond) ∈ tp_G := tp_Gm 1244 (by decide +kernel) (by decide +kernel)
theorem kl_M_333 : (.fieldLink "TwoPassModel" 333 "TwoPassModel" "label" "J" : Cond) ∈ tp_G := tp_Gm 1254 (by decide +kernel) (by decide +kernel)
abbrev b_M_find : ByteArray := prog_8_method_23_code
abbrev y_M_find : MethodName := ⟨"TwoPassModel", "find", "(IJ)I"⟩
theorem kc_M_find : (.code y_M_find b_M_find 5 (some .int) : Cond) ∈ tp_G := tp_Gm 1454 (by decide +kernel) (by decide +kernel)
def w_M_find : List Cond := .code y_M_find b_M_find 5 (some .int) :: tp_G
theorem km_M_find : (.instanceMethod y_M_find : Cond) ∈ tp_G := tp_Gm 1453 (by decide +kernel) (by decide +kernel)
theorem kp_M_find : (.selects "TwoPassModel" y_M_find y_M_find : Cond) ∈ tp_G := List.mem_filter.mpr ⟨by decide +kernel, by decide +kernel⟩
theorem kl_M_353 : (.methodLink "TwoPassModel" 353 y_M_find : Cond) ∈ tp_G := tp_Gm 1451 (by decide +kernel) (by decide +kernel)
theorem kl_M_26 : (.fieldLink "TwoPassModel" 26 "TwoPassModel" "formOf" "[I" : Cond) ∈ tp_G := tp_Gm 1257 (by decide +kernel) (by decide +kernel)
theorem kl_M_326 : (.fieldLink "TwoPassModel" 326 "TwoPassModel" "form" "I" : Cond) ∈ tp_G := tp_Gm 1248 (by decide +kernel) (by decide +kernel)
theorem kl_M_29 : (.fieldLink "TwoPassModel" 29 "TwoPassModel" "codeOf" "[I" : Cond) ∈ tp_G := tp_Gm 1258 (by decide +kernel) (by decide +kernel)
theorem kl_M_323 : (.fieldLink "TwoPassModel" 323 "TwoPassModel" "code" "I" : Cond) ∈ tp_G := tp_Gm 1249 (by decide +kernel) (by decide +kernel)
theorem kl_M_32 : (.fieldLink "TwoPassModel" 32 "TwoPassModel" "dOf" "[I" : Cond) ∈ tp_G := tp_Gm 1259 (by decide +kernel) (by decide +kernel)
theorem kl_M_290 : (.fieldLink "TwoPassModel" 290 "TwoPassModel" "d" "I" : Cond) ∈ tp_G := tp_Gm 1250 (by decide +kernel) (by decide +kernel)
theorem kl_M_35 : (.fieldLink "TwoPassModel" 35 "TwoPassModel" "sOf" "[I" : Cond) ∈ tp_G := tp_Gm 1260 (by decide +kernel) (by decide +kernel)
theorem kl_M_281 : (.fieldLink "TwoPassModel" 281 "TwoPassModel" "s" "I" : Cond) ∈ tp_G := tp_Gm 1251 (by decide +kernel) (by decide +kernel)
theorem kl_M_38 : (.fieldLink "TwoPassModel" 38 "TwoPassModel" "tOf" "[I" : Cond) ∈ tp_G := tp_Gm 1261 (by decide +kernel) (by decide +kernel)
theorem kl_M_296 : (.fieldLink "TwoPassModel" 296 "TwoPassModel" "t" "I" : Cond) ∈ tp_G := tp_Gm 1252 (by decide +kernel) (by decide +kernel)
theorem kl_M_41 : (.fieldLink "TwoPassModel" 41 "TwoPassModel" "valueOf" "[J" : Cond) ∈ tp_G := tp_Gm 1262 (by decide +kernel) (by decide +kernel)
theorem kl_M_274 : (.fieldLink "TwoPassModel" 274 "TwoPassModel" "value" "J" : Cond) ∈ tp_G := tp_Gm 1253 (by decide +kernel) (by decide +kernel)
theorem kl_M_44 : (.fieldLink "TwoPassModel" 44 "TwoPassModel" "labelOf" "[J" : Cond) ∈ tp_G := tp_Gm 1263 (by decide +kernel) (by decide +kernel)
theorem kl_M_47 : (.fieldLink "TwoPassModel" 47 "TwoPassModel" "nameOf" "[J" : Cond) ∈ tp_G := tp_Gm 1264 (by decide +kernel) (by decide +kernel)
theorem kl_M_287 : (.fieldLink "TwoPassModel" 287 "TwoPassModel" "name" "J" : Cond) ∈ tp_G := tp_Gm 1255 (by decide +kernel) (by decide +kernel)
theorem kl_M_17 : (.fieldLink "TwoPassModel" 17 "TwoPassModel" "text" "[I" : Cond) ∈ tp_G := tp_Gm 1243 (by decide +kernel) (by decide +kernel)
theorem kl_M_336 : (.methodLink "TwoPassModel" 336 y_M_isOver : Cond) ∈ tp_G := tp_Gm 1364 (by decide +kernel) (by decide +kernel)
abbrev b_M_take : ByteArray := prog_8_method_10_code
abbrev y_M_take : MethodName := ⟨"TwoPassModel", "take", "()V"⟩
theorem kc_M_take : (.code y_M_take b_M_take 2 none : Cond) ∈ tp_G := tp_Gm 1379 (by decide +kernel) (by decide +kernel)
def w_M_take : List Cond := .code y_M_take b_M_take 2 none :: tp_G
theorem km_M_take : (.instanceMethod y_M_take : Cond) ∈ tp_G := tp_Gm 1378 (by decide +kernel) (by decide +kernel)
theorem kp_M_take : (.selects "TwoPassModel" y_M_take y_M_take : Cond) ∈ tp_G := List.mem_filter.mpr ⟨by decide +kernel, by decide +kernel⟩
theorem kl_M_251 : (.methodLink "TwoPassModel" 251 y_M_take : Cond) ∈ tp_G := tp_Gm 1376 (by decide +kernel) (by decide +kernel)
abbrev b_M_skip : ByteArray := prog_8_method_7_code
abbrev y_M_skip : MethodName := ⟨"TwoPassModel", "skip", "(I)Z"⟩
theorem kc_M_skip : (.code y_M_skip b_M_skip 2 (some .boolean) : Cond) ∈ tp_G := tp_Gm 1393 (by decide +kernel) (by decide +kernel)
def w_M_skip : List Cond := .code y_M_skip b_M_skip 2 (some .boolean) :: tp_G
theorem km_M_skip : (.instanceMethod y_M_skip : Cond) ∈ tp_G := tp_Gm 1392 (by decide +kernel) (by decide +kernel)
theorem kp_M_skip : (.selects "TwoPassModel" y_M_skip y_M_skip : Cond) ∈ tp_G := List.mem_filter.mpr ⟨by decide +kernel, by decide +kernel⟩
theorem kl_M_248 : (.methodLink "TwoPassModel" 248 y_M_skip : Cond) ∈ tp_G := tp_Gm 1390 (by decide +kernel) (by decide +kernel)
abbrev b_M_asName : ByteArray := prog_8_method_12_code
abbrev y_M_asName : MethodName := ⟨"TwoPassModel", "asName", "()J"⟩
theorem kc_M_asName : (.code y_M_asName b_M_asName 2 (some .long) : Cond) ∈ tp_G := tp_Gm 1397 (by decide +kernel) (by decide +kernel)
def w_M_asName : List Cond := .code y_M_asName b_M_asName 2 (some .long) :: tp_G
theorem km_M_asName : (.instanceMethod y_M_asName : Cond) ∈ tp_G := tp_Gm 1396 (by decide +kernel) (by decide +kernel)
theorem kp_M_asName : (.selects "TwoPassModel" y_M_asName y_M_asName : Cond) ∈ tp_G := List.mem_filter.mpr ⟨by decide +kernel, by decide +kernel⟩
theorem kl_M_284 : (.methodLink "TwoPassModel" 284 y_M_asName : Cond) ∈ tp_G := tp_Gm 1394 (by decide +kernel) (by decide +kernel)
abbrev b_M_operation : ByteArray := prog_8_method_20_code
abbrev y_M_operation : MethodName := ⟨"TwoPassModel", "operation", "()V"⟩
theorem kc_M_operation : (.code y_M_operation b_M_operation 5 none : Cond) ∈ tp_G := tp_Gm 1406 (by decide +kernel) (by decide +kernel)
def w_M_operation : List Cond := .code y_M_operation b_M_operation 5 none :: tp_G
theorem km_M_operation : (.instanceMethod y_M_operation : Cond) ∈ tp_G := tp_Gm 1405 (by decide +kernel) (by decide +kernel)
theorem kp_M_operation : (.selects "TwoPassModel" y_M_operation y_M_operation : Cond) ∈ tp_G := List.mem_filter.mpr ⟨by decide +kernel, by decide +kernel⟩
theorem kl_M_340 : (.methodLink "TwoPassModel" 340 y_M_operation : Cond) ∈ tp_G := tp_Gm 1403 (by decide +kernel) (by decide +kernel)
abbrev b_M_sound : ByteArray := prog_8_method_5_code
abbrev y_M_sound : MethodName := ⟨"TwoPassModel", "sound", "(Z)V"⟩
theorem kc_M_sound : (.code y_M_sound b_M_sound 2 none : Cond) ∈ tp_G := tp_Gm 1389 (by decide +kernel) (by decide +kernel)
def w_M_sound : List Cond := .code y_M_sound b_M_sound 2 none :: tp_G
theorem km_M_sound : (.instanceMethod y_M_sound : Cond) ∈ tp_G := tp_Gm 1388 (by decide +kernel) (by decide +kernel)
theorem kp_M_sound : (.selects "TwoPassModel" y_M_sound y_M_sound : Cond) ∈ tp_G := List.mem_filter.mpr ⟨by decide +kernel, by decide +kernel⟩
theorem kl_M_238 : (.methodLink "TwoPassModel" 238 y_M_sound : Cond) ∈ tp_G := tp_Gm 1386 (by decide +kernel) (by decide +kernel)
