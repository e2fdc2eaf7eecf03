theorem d_M_register_100 : decode b_M_register 100 = .ok (.getfield 228, 3) := by decide +kernel
theorem d_M_register_103 : decode b_M_register 103 = .ok (.iconst 2, 1) := by decide +kernel
theorem d_M_register_104 : decode b_M_register 104 = .ok (.if_icmp .eq 15, 3) := by decide +kernel
theorem d_M_register_107 : decode b_M_register 107 = .ok (.aload_n 0, 1) := by decide +kernel
theorem d_M_register_108 : decode b_M_register 108 = .ok (.getfield 20, 3) := by decide +kernel
theorem d_M_register_111 : decode b_M_register 111 = .ok (.iconst 2, 1) := by decide +kernel
theorem d_M_register_112 : decode b_M_register 112 = .ok (.iaload, 1) := by decide +kernel
theorem d_M_register_113 : decode b_M_register 113 = .ok (.invokestatic 235, 3) := by decide +kernel
theorem d_M_register_116 : decode b_M_register 116 = .ok (.ifCond .eq 7, 3) := by decide +kernel
theorem d_M_register_119 : decode b_M_register 119 = .ok (.iconst 1, 1) := by decide +kernel
theorem d_M_register_120 : decode b_M_register 120 = .ok (.goto 4, 3) := by decide +kernel
theorem d_M_register_123 : decode b_M_register 123 = .ok (.iconst 0, 1) := by decide +kernel
theorem d_M_register_124 : decode b_M_register 124 = .ok (.invokevirtual 238, 3) := by decide +kernel
theorem d_M_register_127 : decode b_M_register 127 = .ok (.aload_n 0, 1) := by decide +kernel
theorem d_M_register_128 : decode b_M_register 128 = .ok (.getfield 217, 3) := by decide +kernel
theorem d_M_register_131 : decode b_M_register 131 = .ok (.ifCond .eq 5, 3) := by decide +kernel
theorem d_M_register_134 : decode b_M_register 134 = .ok (.iconst 0, 1) := by decide +kernel
theorem d_M_register_135 : decode b_M_register 135 = .ok (.ireturn, 1) := by decide +kernel
theorem d_M_register_136 : decode b_M_register 136 = .ok (.aload_n 0, 1) := by decide +kernel
theorem d_M_register_137 : decode b_M_register 137 = .ok (.getfield 228, 3) := by decide +kernel
theorem d_M_register_140 : decode b_M_register 140 = .ok (.iconst 2, 1) := by decide +kernel
theorem d_M_register_141 : decode b_M_register 141 = .ok (.if_icmp .ne 15, 3) := by decide +kernel
theorem d_M_register_144 : decode b_M_register 144 = .ok (.aload_n 0, 1) := by decide +kernel
theorem d_M_register_145 : decode b_M_register 145 = .ok (.getfield 20, 3) := by decide +kernel
theorem d_M_register_148 : decode b_M_register 148 = .ok (.iconst 1, 1) := by decide +kernel
theorem d_M_register_149 : decode b_M_register 149 = .ok (.iaload, 1) := by decide +kernel
theorem d_M_register_150 : decode b_M_register 150 = .ok (.bipush 48, 2) := by decide +kernel
theorem d_M_register_152 : decode b_M_register 152 = .ok (.isub, 1) := by decide +kernel
theorem d_M_register_153 : decode b_M_register 153 = .ok (.goto 25, 3) := by decide +kernel
theorem d_M_register_156 : decode b_M_register 156 = .ok (.bipush 10, 2) := by decide +kernel
theorem d_M_register_158 : decode b_M_register 158 = .ok (.aload_n 0, 1) := by decide +kernel
theorem d_M_register_159 : decode b_M_register 159 = .ok (.getfield 20, 3) := by decide +kernel
theorem d_M_register_162 : decode b_M_register 162 = .ok (.iconst 1, 1) := by decide +kernel
theorem d_M_register_163 : decode b_M_register 163 = .ok (.iaload, 1) := by decide +kernel
theorem d_M_register_164 : decode b_M_register 164 = .ok (.bipush 48, 2) := by decide +kernel
theorem d_M_register_166 : decode b_M_register 166 = .ok (.isub, 1) := by decide +kernel
theorem d_M_register_167 : decode b_M_register 167 = .ok (.imul, 1) := by decide +kernel
theorem d_M_register_168 : decode b_M_register 168 = .ok (.aload_n 0, 1) := by decide +kernel
theorem d_M_register_169 : decode b_M_register 169 = .ok (.getfield 20, 3) := by decide +kernel
theorem d_M_register_172 : decode b_M_register 172 = .ok (.iconst 2, 1) := by decide +kernel
theorem d_M_register_173 : decode b_M_register 173 = .ok (.iaload, 1) := by decide +kernel
theorem d_M_register_174 : decode b_M_register 174 = .ok (.iadd, 1) := by decide +kernel
theorem d_M_register_175 : decode b_M_register 175 = .ok (.bipush 48, 2) := by decide +kernel
theorem d_M_register_177 : decode b_M_register 177 = .ok (.isub, 1) := by decide +kernel
theorem d_M_register_178 : decode b_M_register 178 = .ok (.istore_n 3, 1) := by decide +kernel
theorem d_M_register_179 : decode b_M_register 179 = .ok (.aload_n 0, 1) := by decide +kernel
theorem d_M_register_180 : decode b_M_register 180 = .ok (.iload_n 3, 1) := by decide +kernel
theorem d_M_register_181 : decode b_M_register 181 = .ok (.bipush 32, 2) := by decide +kernel
theorem d_M_register_183 : decode b_M_register 183 = .ok (.if_icmp .ge 7, 3) := by decide +kernel
theorem d_M_register_186 : decode b_M_register 186 = .ok (.iconst 1, 1) := by decide +kernel
theorem d_M_register_187 : decode b_M_register 187 = .ok (.goto 4, 3) := by decide +kernel
theorem d_M_register_190 : decode b_M_register 190 = .ok (.iconst 0, 1) := by decide +kernel
theorem d_M_register_191 : decode b_M_register 191 = .ok (.invokevirtual 238, 3) := by decide +kernel
theorem d_M_register_194 : decode b_M_register 194 = .ok (.iload_n 3, 1) := by decide +kernel
theorem d_M_register_195 : decode b_M_register 195 = .ok (.ireturn, 1) := by decide +kernel
theorem d_M_resolve_0 : decode b_M_resolve 0 = .ok (.aload_n 0, 1) := by decide +kernel
theorem d_M_resolve_1 : decode b_M_resolve 1 = .ok (.getfield 26, 3) := by decide +kernel
theorem d_M_resolve_4 : decode b_M_resolve 4 = .ok (.iload_n 2, 1) := by decide +kernel
theorem d_M_resolve_5 : decode b_M_resolve 5 = .ok (.iaload, 1) := by decide +kernel
theorem d_M_resolve_6 : decode b_M_resolve 6 = .ok (.istore_n 3, 1) := by decide +kernel
theorem d_M_resolve_7 : decode b_M_resolve 7 = .ok (.iload_n 3, 1) := by decide +kernel
theorem d_M_resolve_8 : decode b_M_resolve 8 = .ok (.bipush 14, 2) := by decide +kernel
theorem d_M_resolve_10 : decode b_M_resolve 10 = .ok (.if_icmp .ne 23, 3) := by decide +kernel
theorem d_M_resolve_13 : decode b_M_resolve 13 = .ok (.aload_n 0, 1) := by decide +kernel
theorem d_M_resolve_14 : decode b_M_resolve 14 = .ok (.iload_n 1, 1) := by decide +kernel
theorem d_M_resolve_15 : decode b_M_resolve 15 = .ok (.aload_n 0, 1) := by decide +kernel
theorem d_M_resolve_16 : decode b_M_resolve 16 = .ok (.getfield 47, 3) := by decide +kernel
theorem d_M_resolve_19 : decode b_M_resolve 19 = .ok (.iload_n 2, 1) := by decide +kernel
theorem d_M_resolve_20 : decode b_M_resolve 20 = .ok (.laload, 1) := by decide +kernel
theorem d_M_resolve_21 : decode b_M_resolve 21 = .ok (.invokevirtual 353, 3) := by decide +kernel
theorem d_M_resolve_24 : decode b_M_resolve 24 = .ok (.ifCond .ge 7, 3) := by decide +kernel
theorem d_M_resolve_27 : decode b_M_resolve 27 = .ok (.iconst 2, 1) := by decide +kernel
theorem d_M_resolve_28 : decode b_M_resolve 28 = .ok (.goto 4, 3) := by decide +kernel
theorem d_M_resolve_31 : decode b_M_resolve 31 = .ok (.iconst 0, 1) := by decide +kernel
theorem d_M_resolve_32 : decode b_M_resolve 32 = .ok (.ireturn, 1) := by decide +kernel
theorem d_M_resolve_33 : decode b_M_resolve 33 = .ok (.iload_n 3, 1) := by decide +kernel
theorem d_M_resolve_34 : decode b_M_resolve 34 = .ok (.bipush 7, 2) := by decide +kernel
theorem d_M_resolve_36 : decode b_M_resolve 36 = .ok (.if_icmp .eq 17, 3) := by decide +kernel
theorem d_M_resolve_39 : decode b_M_resolve 39 = .ok (.iload_n 3, 1) := by decide +kernel
theorem d_M_resolve_40 : decode b_M_resolve 40 = .ok (.bipush 8, 2) := by decide +kernel
theorem d_M_resolve_42 : decode b_M_resolve 42 = .ok (.if_icmp .eq 11, 3) := by decide +kernel
theorem d_M_resolve_45 : decode b_M_resolve 45 = .ok (.iload_n 3, 1) := by decide +kernel
theorem d_M_resolve_46 : decode b_M_resolve 46 = .ok (.bipush 10, 2) := by decide +kernel
theorem d_M_resolve_48 : decode b_M_resolve 48 = .ok (.if_icmp .eq 5, 3) := by decide +kernel
theorem d_M_resolve_51 : decode b_M_resolve 51 = .ok (.iconst 0, 1) := by decide +kernel
theorem d_M_resolve_52 : decode b_M_resolve 52 = .ok (.ireturn, 1) := by decide +kernel
theorem d_M_resolve_53 : decode b_M_resolve 53 = .ok (.aload_n 0, 1) := by decide +kernel
theorem d_M_resolve_54 : decode b_M_resolve 54 = .ok (.iload_n 1, 1) := by decide +kernel
theorem d_M_resolve_55 : decode b_M_resolve 55 = .ok (.aload_n 0, 1) := by decide +kernel
theorem d_M_resolve_56 : decode b_M_resolve 56 = .ok (.getfield 47, 3) := by decide +kernel
theorem d_M_resolve_59 : decode b_M_resolve 59 = .ok (.iload_n 2, 1) := by decide +kernel
theorem d_M_resolve_60 : decode b_M_resolve 60 = .ok (.laload, 1) := by decide +kernel
theorem d_M_resolve_61 : decode b_M_resolve 61 = .ok (.invokevirtual 353, 3) := by decide +kernel
theorem d_M_resolve_64 : decode b_M_resolve 64 = .ok (.istore 4, 2) := by decide +kernel
theorem d_M_resolve_66 : decode b_M_resolve 66 = .ok (.aload_n 0, 1) := by decide +kernel
theorem d_M_resolve_67 : decode b_M_resolve 67 = .ok (.iconst 1, 1) := by decide +kernel
theorem d_M_resolve_68 : decode b_M_resolve 68 = .ok (.iload_n 1, 1) := by decide +kernel
theorem d_M_resolve_69 : decode b_M_resolve 69 = .ok (.isub, 1) := by decide +kernel
theorem d_M_resolve_70 : decode b_M_resolve 70 = .ok (.aload_n 0, 1) := by decide +kernel
theorem d_M_resolve_71 : decode b_M_resolve 71 = .ok (.getfield 47, 3) := by decide +kernel
theorem d_M_resolve_74 : decode b_M_resolve 74 = .ok (.iload_n 2, 1) := by decide +kernel
theorem d_M_resolve_75 : decode b_M_resolve 75 = .ok (.laload, 1) := by decide +kernel
theorem d_M_resolve_76 : decode b_M_resolve 76 = .ok (.invokevirtual 357, 3) := by decide +kernel
theorem d_M_resolve_79 : decode b_M_resolve 79 = .ok (.ifCond .eq 19, 3) := by decide +kernel
theorem d_M_resolve_82 : decode b_M_resolve 82 = .ok (.aload_n 0, 1) := by decide +kernel
theorem d_M_resolve_83 : decode b_M_resolve 83 = .ok (.iconst 1, 1) := by decide +kernel
theorem d_M_resolve_84 : decode b_M_resolve 84 = .ok (.iload_n 1, 1) := by decide +kernel
theorem d_M_resolve_85 : decode b_M_resolve 85 = .ok (.isub, 1) := by decide +kernel
theorem d_M_resolve_86 : decode b_M_resolve 86 = .ok (.aload_n 0, 1) := by decide +kernel
theorem d_M_resolve_87 : decode b_M_resolve 87 = .ok (.getfield 47, 3) := by decide +kernel
theorem d_M_resolve_90 : decode b_M_resolve 90 = .ok (.iload_n 2, 1) := by decide +kernel
theorem d_M_resolve_91 : decode b_M_resolve 91 = .ok (.laload, 1) := by decide +kernel
theorem d_M_resolve_92 : decode b_M_resolve 92 = .ok (.invokevirtual 353, 3) := by decide +kernel
theorem d_M_resolve_95 : decode b_M_resolve 95 = .ok (.goto 4, 3) := by decide +kernel
theorem d_M_resolve_98 : decode b_M_resolve 98 = .ok (.iconst (-1), 1) := by decide +kernel
theorem d_M_resolve_99 : decode b_M_resolve 99 = .ok (.istore 5, 2) := by decide +kernel
theorem d_M_resolve_101 : decode b_M_resolve 101 = .ok (.aload_n 0, 1) := by decide +kernel
theorem d_M_resolve_102 : decode b_M_resolve 102 = .ok (.getfield 50, 3) := by decide +kernel
theorem d_M_resolve_105 : decode b_M_resolve 105 = .ok (.iload_n 2, 1) := by decide +kernel
theorem d_M_resolve_106 : decode b_M_resolve 106 = .ok (.iload 4, 2) := by decide +kernel
theorem d_M_resolve_108 : decode b_M_resolve 108 = .ok (.ifCond .lt 8, 3) := by decide +kernel
theorem d_M_resolve_111 : decode b_M_resolve 111 = .ok (.iload 4, 2) := by decide +kernel
theorem d_M_resolve_113 : decode b_M_resolve 113 = .ok (.goto 5, 3) := by decide +kernel
theorem d_M_resolve_116 : decode b_M_resolve 116 = .ok (.iload 5, 2) := by decide +kernel
theorem d_M_resolve_118 : decode b_M_resolve 118 = .ok (.iastore, 1) := by decide +kernel
theorem d_M_resolve_119 : decode b_M_resolve 119 = .ok (.aload_n 0, 1) := by decide +kernel
theorem d_M_resolve_120 : decode b_M_resolve 120 = .ok (.getfield 50, 3) := by decide +kernel
theorem d_M_resolve_123 : decode b_M_resolve 123 = .ok (.iload_n 2, 1) := by decide +kernel
theorem d_M_resolve_124 : decode b_M_resolve 124 = .ok (.iaload, 1) := by decide +kernel
theorem d_M_resolve_125 : decode b_M_resolve 125 = .ok (.ifCond .ge 7, 3) := by decide +kernel
theorem d_M_resolve_128 : decode b_M_resolve 128 = .ok (.iconst 1, 1) := by decide +kernel
theorem d_M_resolve_129 : decode b_M_resolve 129 = .ok (.goto 4, 3) := by decide +kernel
theorem d_M_resolve_132 : decode b_M_resolve 132 = .ok (.iconst 0, 1) := by decide +kernel
theorem d_M_resolve_133 : decode b_M_resolve 133 = .ok (.ireturn, 1) := by decide +kernel
theorem d_M_skip_0 : decode b_M_skip 0 = .ok (.aload_n 0, 1) := by decide +kernel
theorem d_M_skip_1 : decode b_M_skip 1 = .ok (.invokevirtual 225, 3) := by decide +kernel
theorem d_M_skip_4 : decode b_M_skip 4 = .ok (.aload_n 0, 1) := by decide +kernel
theorem d_M_skip_5 : decode b_M_skip 5 = .ok (.getfield 217, 3) := by decide +kernel
theorem d_M_skip_8 : decode b_M_skip 8 = .ok (.ifCond .ne 11, 3) := by decide +kernel
theorem d_M_skip_11 : decode b_M_skip 11 = .ok (.aload_n 0, 1) := by decide +kernel
theorem d_M_skip_12 : decode b_M_skip 12 = .ok (.invokevirtual 221, 3) := by decide +kernel
theorem d_M_skip_15 : decode b_M_skip 15 = .ok (.iload_n 1, 1) := by decide +kernel
theorem d_M_skip_16 : decode b_M_skip 16 = .ok (.if_icmp .eq 5, 3) := by decide +kernel
theorem d_M_skip_19 : decode b_M_skip 19 = .ok (.iconst 0, 1) := by decide +kernel
theorem d_M_skip_20 : decode b_M_skip 20 = .ok (.ireturn, 1) := by decide +kernel
theorem d_M_skip_21 : decode b_M_skip 21 = .ok (.aload_n 0, 1) := by decide +kernel
theorem d_M_skip_22 : decode b_M_skip 22 = .ok (.dup, 1) := by decide +kernel
theorem d_M_skip_23 : decode b_M_skip 23 = .ok (.getfield 211, 3) := by decide +kernel
theorem d_M_skip_26 : decode b_M_skip 26 = .ok (.iconst 1, 1) := by decide +kernel
theorem d_M_skip_27 : decode b_M_skip 27 = .ok (.iadd, 1) := by decide +kernel
