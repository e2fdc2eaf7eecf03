theorem d_M_bytes_104 : decode b_M_bytes 104 = .ok (.aload_n 0, 1) := by decide +kernel
theorem d_M_bytes_105 : decode b_M_bytes 105 = .ok (.getfield 56, 3) := by decide +kernel
theorem d_M_bytes_108 : decode b_M_bytes 108 = .ok (.iload_n 1, 1) := by decide +kernel
theorem d_M_bytes_109 : decode b_M_bytes 109 = .ok (.baload, 1) := by decide +kernel
theorem d_M_bytes_110 : decode b_M_bytes 110 = .ok (.ifCond .eq 8, 3) := by decide +kernel
theorem d_M_bytes_113 : decode b_M_bytes 113 = .ok (.bipush 8, 2) := by decide +kernel
theorem d_M_bytes_115 : decode b_M_bytes 115 = .ok (.goto 4, 3) := by decide +kernel
theorem d_M_bytes_118 : decode b_M_bytes 118 = .ok (.iconst 4, 1) := by decide +kernel
theorem d_M_bytes_119 : decode b_M_bytes 119 = .ok (.ireturn, 1) := by decide +kernel
theorem d_M_comma_0 : decode b_M_comma 0 = .ok (.aload_n 0, 1) := by decide +kernel
theorem d_M_comma_1 : decode b_M_comma 1 = .ok (.aload_n 0, 1) := by decide +kernel
theorem d_M_comma_2 : decode b_M_comma 2 = .ok (.bipush 44, 2) := by decide +kernel
theorem d_M_comma_4 : decode b_M_comma 4 = .ok (.invokevirtual 248, 3) := by decide +kernel
theorem d_M_comma_7 : decode b_M_comma 7 = .ok (.invokevirtual 238, 3) := by decide +kernel
theorem d_M_comma_10 : decode b_M_comma 10 = .ok (.return_, 1) := by decide +kernel
theorem d_M_encode_0 : decode b_M_encode 0 = .ok (.aload_n 0, 1) := by decide +kernel
theorem d_M_encode_1 : decode b_M_encode 1 = .ok (.getfield 26, 3) := by decide +kernel
theorem d_M_encode_4 : decode b_M_encode 4 = .ok (.iload_n 1, 1) := by decide +kernel
theorem d_M_encode_5 : decode b_M_encode 5 = .ok (.iaload, 1) := by decide +kernel
theorem d_M_encode_6 : decode b_M_encode 6 = .ok (.istore_n 2, 1) := by decide +kernel
theorem d_M_encode_7 : decode b_M_encode 7 = .ok (.aload_n 0, 1) := by decide +kernel
theorem d_M_encode_8 : decode b_M_encode 8 = .ok (.getfield 53, 3) := by decide +kernel
theorem d_M_encode_11 : decode b_M_encode 11 = .ok (.iload_n 1, 1) := by decide +kernel
theorem d_M_encode_12 : decode b_M_encode 12 = .ok (.iaload, 1) := by decide +kernel
theorem d_M_encode_13 : decode b_M_encode 13 = .ok (.istore_n 3, 1) := by decide +kernel
theorem d_M_encode_14 : decode b_M_encode 14 = .ok (.aload_n 0, 1) := by decide +kernel
theorem d_M_encode_15 : decode b_M_encode 15 = .ok (.getfield 41, 3) := by decide +kernel
theorem d_M_encode_18 : decode b_M_encode 18 = .ok (.iload_n 1, 1) := by decide +kernel
theorem d_M_encode_19 : decode b_M_encode 19 = .ok (.laload, 1) := by decide +kernel
theorem d_M_encode_20 : decode b_M_encode 20 = .ok (.l2i, 1) := by decide +kernel
theorem d_M_encode_21 : decode b_M_encode 21 = .ok (.istore 4, 2) := by decide +kernel
theorem d_M_encode_23 : decode b_M_encode 23 = .ok (.aload_n 0, 1) := by decide +kernel
theorem d_M_encode_24 : decode b_M_encode 24 = .ok (.getfield 29, 3) := by decide +kernel
theorem d_M_encode_27 : decode b_M_encode 27 = .ok (.iload_n 1, 1) := by decide +kernel
theorem d_M_encode_28 : decode b_M_encode 28 = .ok (.iaload, 1) := by decide +kernel
theorem d_M_encode_29 : decode b_M_encode 29 = .ok (.aload_n 0, 1) := by decide +kernel
theorem d_M_encode_30 : decode b_M_encode 30 = .ok (.getfield 32, 3) := by decide +kernel
theorem d_M_encode_33 : decode b_M_encode 33 = .ok (.iload_n 1, 1) := by decide +kernel
theorem d_M_encode_34 : decode b_M_encode 34 = .ok (.iaload, 1) := by decide +kernel
theorem d_M_encode_35 : decode b_M_encode 35 = .ok (.bipush 7, 2) := by decide +kernel
theorem d_M_encode_37 : decode b_M_encode 37 = .ok (.ishl, 1) := by decide +kernel
theorem d_M_encode_38 : decode b_M_encode 38 = .ok (.ior, 1) := by decide +kernel
theorem d_M_encode_39 : decode b_M_encode 39 = .ok (.aload_n 0, 1) := by decide +kernel
theorem d_M_encode_40 : decode b_M_encode 40 = .ok (.getfield 35, 3) := by decide +kernel
theorem d_M_encode_43 : decode b_M_encode 43 = .ok (.iload_n 1, 1) := by decide +kernel
theorem d_M_encode_44 : decode b_M_encode 44 = .ok (.iaload, 1) := by decide +kernel
theorem d_M_encode_45 : decode b_M_encode 45 = .ok (.bipush 15, 2) := by decide +kernel
theorem d_M_encode_47 : decode b_M_encode 47 = .ok (.ishl, 1) := by decide +kernel
theorem d_M_encode_48 : decode b_M_encode 48 = .ok (.ior, 1) := by decide +kernel
theorem d_M_encode_49 : decode b_M_encode 49 = .ok (.istore 5, 2) := by decide +kernel
theorem d_M_encode_51 : decode b_M_encode 51 = .ok (.iload_n 2, 1) := by decide +kernel
theorem d_M_encode_52 : decode b_M_encode 52 = .ok (.iconst 1, 1) := by decide +kernel
theorem d_M_encode_53 : decode b_M_encode 53 = .ok (.if_icmp .ne 23, 3) := by decide +kernel
theorem d_M_encode_56 : decode b_M_encode 56 = .ok (.aload_n 0, 1) := by decide +kernel
theorem d_M_encode_57 : decode b_M_encode 57 = .ok (.iload_n 3, 1) := by decide +kernel
theorem d_M_encode_58 : decode b_M_encode 58 = .ok (.iload 5, 2) := by decide +kernel
theorem d_M_encode_60 : decode b_M_encode 60 = .ok (.aload_n 0, 1) := by decide +kernel
theorem d_M_encode_61 : decode b_M_encode 61 = .ok (.getfield 38, 3) := by decide +kernel
theorem d_M_encode_64 : decode b_M_encode 64 = .ok (.iload_n 1, 1) := by decide +kernel
theorem d_M_encode_65 : decode b_M_encode 65 = .ok (.iaload, 1) := by decide +kernel
theorem d_M_encode_66 : decode b_M_encode 66 = .ok (.bipush 20, 2) := by decide +kernel
theorem d_M_encode_68 : decode b_M_encode 68 = .ok (.ishl, 1) := by decide +kernel
theorem d_M_encode_69 : decode b_M_encode 69 = .ok (.ior, 1) := by decide +kernel
theorem d_M_encode_70 : decode b_M_encode 70 = .ok (.invokevirtual 394, 3) := by decide +kernel
theorem d_M_encode_73 : decode b_M_encode 73 = .ok (.goto 344, 3) := by decide +kernel
theorem d_M_encode_76 : decode b_M_encode 76 = .ok (.iload_n 2, 1) := by decide +kernel
theorem d_M_encode_77 : decode b_M_encode 77 = .ok (.iconst 2, 1) := by decide +kernel
theorem d_M_encode_78 : decode b_M_encode 78 = .ok (.if_icmp .eq 8, 3) := by decide +kernel
theorem d_M_encode_81 : decode b_M_encode 81 = .ok (.iload_n 2, 1) := by decide +kernel
theorem d_M_encode_82 : decode b_M_encode 82 = .ok (.iconst 5, 1) := by decide +kernel
theorem d_M_encode_83 : decode b_M_encode 83 = .ok (.if_icmp .ne 19, 3) := by decide +kernel
theorem d_M_encode_86 : decode b_M_encode 86 = .ok (.aload_n 0, 1) := by decide +kernel
theorem d_M_encode_87 : decode b_M_encode 87 = .ok (.iload_n 3, 1) := by decide +kernel
theorem d_M_encode_88 : decode b_M_encode 88 = .ok (.iload 5, 2) := by decide +kernel
theorem d_M_encode_90 : decode b_M_encode 90 = .ok (.iload 4, 2) := by decide +kernel
theorem d_M_encode_92 : decode b_M_encode 92 = .ok (.bipush 20, 2) := by decide +kernel
theorem d_M_encode_94 : decode b_M_encode 94 = .ok (.ishl, 1) := by decide +kernel
theorem d_M_encode_95 : decode b_M_encode 95 = .ok (.ior, 1) := by decide +kernel
theorem d_M_encode_96 : decode b_M_encode 96 = .ok (.invokevirtual 394, 3) := by decide +kernel
theorem d_M_encode_99 : decode b_M_encode 99 = .ok (.goto 318, 3) := by decide +kernel
theorem d_M_encode_102 : decode b_M_encode 102 = .ok (.iload_n 2, 1) := by decide +kernel
theorem d_M_encode_103 : decode b_M_encode 103 = .ok (.iconst 3, 1) := by decide +kernel
theorem d_M_encode_104 : decode b_M_encode 104 = .ok (.if_icmp .ne 19, 3) := by decide +kernel
theorem d_M_encode_107 : decode b_M_encode 107 = .ok (.aload_n 0, 1) := by decide +kernel
theorem d_M_encode_108 : decode b_M_encode 108 = .ok (.iload_n 3, 1) := by decide +kernel
theorem d_M_encode_109 : decode b_M_encode 109 = .ok (.iload 5, 2) := by decide +kernel
theorem d_M_encode_111 : decode b_M_encode 111 = .ok (.iload 4, 2) := by decide +kernel
theorem d_M_encode_113 : decode b_M_encode 113 = .ok (.bipush 20, 2) := by decide +kernel
theorem d_M_encode_115 : decode b_M_encode 115 = .ok (.ishl, 1) := by decide +kernel
theorem d_M_encode_116 : decode b_M_encode 116 = .ok (.ior, 1) := by decide +kernel
theorem d_M_encode_117 : decode b_M_encode 117 = .ok (.invokevirtual 394, 3) := by decide +kernel
theorem d_M_encode_120 : decode b_M_encode 120 = .ok (.goto 297, 3) := by decide +kernel
theorem d_M_encode_123 : decode b_M_encode 123 = .ok (.iload_n 2, 1) := by decide +kernel
theorem d_M_encode_124 : decode b_M_encode 124 = .ok (.iconst 4, 1) := by decide +kernel
theorem d_M_encode_125 : decode b_M_encode 125 = .ok (.if_icmp .ne 19, 3) := by decide +kernel
theorem d_M_encode_128 : decode b_M_encode 128 = .ok (.aload_n 0, 1) := by decide +kernel
theorem d_M_encode_129 : decode b_M_encode 129 = .ok (.iload_n 3, 1) := by decide +kernel
theorem d_M_encode_130 : decode b_M_encode 130 = .ok (.iload 5, 2) := by decide +kernel
theorem d_M_encode_132 : decode b_M_encode 132 = .ok (.iload 4, 2) := by decide +kernel
theorem d_M_encode_134 : decode b_M_encode 134 = .ok (.bipush 12, 2) := by decide +kernel
theorem d_M_encode_136 : decode b_M_encode 136 = .ok (.ishl, 1) := by decide +kernel
theorem d_M_encode_137 : decode b_M_encode 137 = .ok (.ior, 1) := by decide +kernel
theorem d_M_encode_138 : decode b_M_encode 138 = .ok (.invokevirtual 394, 3) := by decide +kernel
theorem d_M_encode_141 : decode b_M_encode 141 = .ok (.goto 276, 3) := by decide +kernel
theorem d_M_encode_144 : decode b_M_encode 144 = .ok (.iload_n 2, 1) := by decide +kernel
theorem d_M_encode_145 : decode b_M_encode 145 = .ok (.bipush 6, 2) := by decide +kernel
theorem d_M_encode_147 : decode b_M_encode 147 = .ok (.if_icmp .ne 58, 3) := by decide +kernel
theorem d_M_encode_150 : decode b_M_encode 150 = .ok (.aload_n 0, 1) := by decide +kernel
theorem d_M_encode_151 : decode b_M_encode 151 = .ok (.iload_n 3, 1) := by decide +kernel
theorem d_M_encode_152 : decode b_M_encode 152 = .ok (.aload_n 0, 1) := by decide +kernel
theorem d_M_encode_153 : decode b_M_encode 153 = .ok (.getfield 29, 3) := by decide +kernel
theorem d_M_encode_156 : decode b_M_encode 156 = .ok (.iload_n 1, 1) := by decide +kernel
theorem d_M_encode_157 : decode b_M_encode 157 = .ok (.iaload, 1) := by decide +kernel
theorem d_M_encode_158 : decode b_M_encode 158 = .ok (.aload_n 0, 1) := by decide +kernel
theorem d_M_encode_159 : decode b_M_encode 159 = .ok (.getfield 35, 3) := by decide +kernel
theorem d_M_encode_162 : decode b_M_encode 162 = .ok (.iload_n 1, 1) := by decide +kernel
theorem d_M_encode_163 : decode b_M_encode 163 = .ok (.iaload, 1) := by decide +kernel
theorem d_M_encode_164 : decode b_M_encode 164 = .ok (.bipush 15, 2) := by decide +kernel
theorem d_M_encode_166 : decode b_M_encode 166 = .ok (.ishl, 1) := by decide +kernel
theorem d_M_encode_167 : decode b_M_encode 167 = .ok (.ior, 1) := by decide +kernel
theorem d_M_encode_168 : decode b_M_encode 168 = .ok (.aload_n 0, 1) := by decide +kernel
theorem d_M_encode_169 : decode b_M_encode 169 = .ok (.getfield 38, 3) := by decide +kernel
theorem d_M_encode_172 : decode b_M_encode 172 = .ok (.iload_n 1, 1) := by decide +kernel
theorem d_M_encode_173 : decode b_M_encode 173 = .ok (.iaload, 1) := by decide +kernel
theorem d_M_encode_174 : decode b_M_encode 174 = .ok (.bipush 20, 2) := by decide +kernel
theorem d_M_encode_176 : decode b_M_encode 176 = .ok (.ishl, 1) := by decide +kernel
theorem d_M_encode_177 : decode b_M_encode 177 = .ok (.ior, 1) := by decide +kernel
theorem d_M_encode_178 : decode b_M_encode 178 = .ok (.iload 4, 2) := by decide +kernel
theorem d_M_encode_180 : decode b_M_encode 180 = .ok (.iconst 0, 1) := by decide +kernel
theorem d_M_encode_181 : decode b_M_encode 181 = .ok (.iconst 4, 1) := by decide +kernel
theorem d_M_encode_182 : decode b_M_encode 182 = .ok (.bipush 7, 2) := by decide +kernel
theorem d_M_encode_184 : decode b_M_encode 184 = .ok (.invokestatic 390, 3) := by decide +kernel
theorem d_M_encode_187 : decode b_M_encode 187 = .ok (.ior, 1) := by decide +kernel
theorem d_M_encode_188 : decode b_M_encode 188 = .ok (.iload 4, 2) := by decide +kernel
theorem d_M_encode_190 : decode b_M_encode 190 = .ok (.iconst 5, 1) := by decide +kernel
theorem d_M_encode_191 : decode b_M_encode 191 = .ok (.bipush 11, 2) := by decide +kernel
theorem d_M_encode_193 : decode b_M_encode 193 = .ok (.bipush 25, 2) := by decide +kernel
theorem d_M_encode_195 : decode b_M_encode 195 = .ok (.invokestatic 390, 3) := by decide +kernel
theorem d_M_encode_198 : decode b_M_encode 198 = .ok (.ior, 1) := by decide +kernel
theorem d_M_encode_199 : decode b_M_encode 199 = .ok (.invokevirtual 394, 3) := by decide +kernel
theorem d_M_encode_202 : decode b_M_encode 202 = .ok (.goto 215, 3) := by decide +kernel
theorem d_M_encode_205 : decode b_M_encode 205 = .ok (.iload_n 2, 1) := by decide +kernel
theorem d_M_encode_206 : decode b_M_encode 206 = .ok (.bipush 7, 2) := by decide +kernel
theorem d_M_encode_208 : decode b_M_encode 208 = .ok (.if_icmp .ne 11, 3) := by decide +kernel
theorem d_M_encode_211 : decode b_M_encode 211 = .ok (.aload_n 0, 1) := by decide +kernel
theorem d_M_encode_212 : decode b_M_encode 212 = .ok (.iload_n 1, 1) := by decide +kernel
theorem d_M_encode_213 : decode b_M_encode 213 = .ok (.invokevirtual 398, 3) := by decide +kernel
theorem d_M_encode_216 : decode b_M_encode 216 = .ok (.goto 201, 3) := by decide +kernel
theorem d_M_encode_219 : decode b_M_encode 219 = .ok (.iload_n 2, 1) := by decide +kernel
theorem d_M_encode_220 : decode b_M_encode 220 = .ok (.bipush 8, 2) := by decide +kernel
