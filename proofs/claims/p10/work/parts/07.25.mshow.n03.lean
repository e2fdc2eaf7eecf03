theorem d_M_show_85 : decode b_M_show 85 = .ok (.istore_n 3, 1) := by decide +kernel
theorem d_M_show_86 : decode b_M_show 86 = .ok (.iload_n 1, 1) := by decide +kernel
theorem d_M_show_87 : decode b_M_show 87 = .ok (.bipush 7, 2) := by decide +kernel
theorem d_M_show_89 : decode b_M_show 89 = .ok (.ishr, 1) := by decide +kernel
theorem d_M_show_90 : decode b_M_show 90 = .ok (.bipush 31, 2) := by decide +kernel
theorem d_M_show_92 : decode b_M_show 92 = .ok (.iand, 1) := by decide +kernel
theorem d_M_show_93 : decode b_M_show 93 = .ok (.istore 4, 2) := by decide +kernel
theorem d_M_show_95 : decode b_M_show 95 = .ok (.iload_n 1, 1) := by decide +kernel
theorem d_M_show_96 : decode b_M_show 96 = .ok (.bipush 15, 2) := by decide +kernel
theorem d_M_show_98 : decode b_M_show 98 = .ok (.ishr, 1) := by decide +kernel
theorem d_M_show_99 : decode b_M_show 99 = .ok (.bipush 31, 2) := by decide +kernel
theorem d_M_show_101 : decode b_M_show 101 = .ok (.iand, 1) := by decide +kernel
theorem d_M_show_102 : decode b_M_show 102 = .ok (.istore 5, 2) := by decide +kernel
theorem d_M_show_104 : decode b_M_show 104 = .ok (.iload_n 1, 1) := by decide +kernel
theorem d_M_show_105 : decode b_M_show 105 = .ok (.bipush 20, 2) := by decide +kernel
theorem d_M_show_107 : decode b_M_show 107 = .ok (.ishr, 1) := by decide +kernel
theorem d_M_show_108 : decode b_M_show 108 = .ok (.bipush 31, 2) := by decide +kernel
theorem d_M_show_110 : decode b_M_show 110 = .ok (.iand, 1) := by decide +kernel
theorem d_M_show_111 : decode b_M_show 111 = .ok (.istore 6, 2) := by decide +kernel
theorem d_M_show_113 : decode b_M_show 113 = .ok (.iload_n 3, 1) := by decide +kernel
theorem d_M_show_114 : decode b_M_show 114 = .ok (.bipush 6, 2) := by decide +kernel
theorem d_M_show_116 : decode b_M_show 116 = .ok (.if_icmp .eq 13, 3) := by decide +kernel
theorem d_M_show_119 : decode b_M_show 119 = .ok (.iload_n 3, 1) := by decide +kernel
theorem d_M_show_120 : decode b_M_show 120 = .ok (.bipush 7, 2) := by decide +kernel
theorem d_M_show_122 : decode b_M_show 122 = .ok (.if_icmp .eq 7, 3) := by decide +kernel
theorem d_M_show_125 : decode b_M_show 125 = .ok (.iconst 1, 1) := by decide +kernel
theorem d_M_show_126 : decode b_M_show 126 = .ok (.goto 4, 3) := by decide +kernel
theorem d_M_show_129 : decode b_M_show 129 = .ok (.iconst 0, 1) := by decide +kernel
theorem d_M_show_130 : decode b_M_show 130 = .ok (.istore 7, 2) := by decide +kernel
theorem d_M_show_132 : decode b_M_show 132 = .ok (.aload_n 0, 1) := by decide +kernel
theorem d_M_show_133 : decode b_M_show 133 = .ok (.bipush 32, 2) := by decide +kernel
theorem d_M_show_135 : decode b_M_show 135 = .ok (.iload 7, 2) := by decide +kernel
theorem d_M_show_137 : decode b_M_show 137 = .ok (.ifCond .eq 8, 3) := by decide +kernel
theorem d_M_show_140 : decode b_M_show 140 = .ok (.iload 4, 2) := by decide +kernel
theorem d_M_show_142 : decode b_M_show 142 = .ok (.goto 16, 3) := by decide +kernel
theorem d_M_show_145 : decode b_M_show 145 = .ok (.iload_n 3, 1) := by decide +kernel
theorem d_M_show_146 : decode b_M_show 146 = .ok (.bipush 6, 2) := by decide +kernel
theorem d_M_show_148 : decode b_M_show 148 = .ok (.if_icmp .ne 8, 3) := by decide +kernel
theorem d_M_show_151 : decode b_M_show 151 = .ok (.iload 6, 2) := by decide +kernel
theorem d_M_show_153 : decode b_M_show 153 = .ok (.goto 5, 3) := by decide +kernel
theorem d_M_show_156 : decode b_M_show 156 = .ok (.iload 5, 2) := by decide +kernel
theorem d_M_show_158 : decode b_M_show 158 = .ok (.invokevirtual 425, 3) := by decide +kernel
theorem d_M_show_161 : decode b_M_show 161 = .ok (.iload_n 3, 1) := by decide +kernel
theorem d_M_show_162 : decode b_M_show 162 = .ok (.iconst 4, 1) := by decide +kernel
theorem d_M_show_163 : decode b_M_show 163 = .ok (.if_icmp .ge 11, 3) := by decide +kernel
theorem d_M_show_166 : decode b_M_show 166 = .ok (.aload_n 0, 1) := by decide +kernel
theorem d_M_show_167 : decode b_M_show 167 = .ok (.bipush 44, 2) := by decide +kernel
theorem d_M_show_169 : decode b_M_show 169 = .ok (.iload 5, 2) := by decide +kernel
