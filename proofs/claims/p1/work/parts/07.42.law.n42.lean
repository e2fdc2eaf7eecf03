theorem d_M_link_0 : decode b_M_link 0 = .ok (.aload_n 0, 1) := by decide +kernel
theorem d_M_link_1 : decode b_M_link 1 = .ok (.iconst (-1), 1) := by decide +kernel
theorem d_M_link_2 : decode b_M_link 2 = .ok (.putfield 60, 3) := by decide +kernel
theorem d_M_link_5 : decode b_M_link 5 = .ok (.aload_n 0, 1) := by decide +kernel
theorem d_M_link_6 : decode b_M_link 6 = .ok (.iconst 0, 1) := by decide +kernel
theorem d_M_link_7 : decode b_M_link 7 = .ok (.putfield 371, 3) := by decide +kernel
theorem d_M_link_10 : decode b_M_link 10 = .ok (.aload_n 0, 1) := by decide +kernel
theorem d_M_link_11 : decode b_M_link 11 = .ok (.iconst 0, 1) := by decide +kernel
theorem d_M_link_12 : decode b_M_link 12 = .ok (.putfield 208, 3) := by decide +kernel
theorem d_M_link_15 : decode b_M_link 15 = .ok (.iconst 0, 1) := by decide +kernel
theorem d_M_link_16 : decode b_M_link 16 = .ok (.istore_n 1, 1) := by decide +kernel
theorem d_M_link_17 : decode b_M_link 17 = .ok (.iload_n 1, 1) := by decide +kernel
theorem d_M_link_18 : decode b_M_link 18 = .ok (.bipush 32, 2) := by decide +kernel
theorem d_M_link_20 : decode b_M_link 20 = .ok (.if_icmp .ge 44, 3) := by decide +kernel
theorem d_M_link_23 : decode b_M_link 23 = .ok (.aload_n 0, 1) := by decide +kernel
theorem d_M_link_24 : decode b_M_link 24 = .ok (.getfield 56, 3) := by decide +kernel
theorem d_M_link_27 : decode b_M_link 27 = .ok (.iload_n 1, 1) := by decide +kernel
theorem d_M_link_28 : decode b_M_link 28 = .ok (.iconst 0, 1) := by decide +kernel
theorem d_M_link_29 : decode b_M_link 29 = .ok (.bastore, 1) := by decide +kernel
theorem d_M_link_30 : decode b_M_link 30 = .ok (.aload_n 0, 1) := by decide +kernel
theorem d_M_link_31 : decode b_M_link 31 = .ok (.iload_n 1, 1) := by decide +kernel
theorem d_M_link_32 : decode b_M_link 32 = .ok (.invokevirtual 374, 3) := by decide +kernel
theorem d_M_link_35 : decode b_M_link 35 = .ok (.ifCond .eq 23, 3) := by decide +kernel
theorem d_M_link_58 : decode b_M_link 58 = .ok (.iinc 1 1, 3) := by decide +kernel
theorem d_M_link_61 : decode b_M_link 61 = .ok (.goto (-44), 3) := by decide +kernel
theorem d_M_link_64 : decode b_M_link 64 = .ok (.aload_n 0, 1) := by decide +kernel
theorem d_M_link_65 : decode b_M_link 65 = .ok (.getfield 208, 3) := by decide +kernel
theorem d_M_link_68 : decode b_M_link 68 = .ok (.ifCond .le 5, 3) := by decide +kernel
theorem d_M_link_73 : decode b_M_link 73 = .ok (.aload_n 0, 1) := by decide +kernel
theorem d_M_link_74 : decode b_M_link 74 = .ok (.invokevirtual 381, 3) := by decide +kernel
theorem d_M_link_77 : decode b_M_link 77 = .ok (.istore_n 1, 1) := by decide +kernel
theorem d_M_link_78 : decode b_M_link 78 = .ok (.iconst 1, 1) := by decide +kernel
theorem d_M_link_79 : decode b_M_link 79 = .ok (.istore_n 2, 1) := by decide +kernel
theorem d_M_link_80 : decode b_M_link 80 = .ok (.iload_n 2, 1) := by decide +kernel
theorem d_M_link_81 : decode b_M_link 81 = .ok (.ifCond .eq 96, 3) := by decide +kernel
theorem d_M_link_84 : decode b_M_link 84 = .ok (.iconst 0, 1) := by decide +kernel
theorem d_M_link_85 : decode b_M_link 85 = .ok (.istore_n 2, 1) := by decide +kernel
theorem d_M_link_86 : decode b_M_link 86 = .ok (.iconst 0, 1) := by decide +kernel
theorem d_M_link_87 : decode b_M_link 87 = .ok (.istore_n 3, 1) := by decide +kernel
theorem d_M_link_88 : decode b_M_link 88 = .ok (.iload_n 3, 1) := by decide +kernel
theorem d_M_link_89 : decode b_M_link 89 = .ok (.bipush 32, 2) := by decide +kernel
theorem d_M_link_91 : decode b_M_link 91 = .ok (.if_icmp .ge 78, 3) := by decide +kernel
theorem d_M_link_94 : decode b_M_link 94 = .ok (.aload_n 0, 1) := by decide +kernel
theorem d_M_link_95 : decode b_M_link 95 = .ok (.iload_n 3, 1) := by decide +kernel
theorem d_M_link_96 : decode b_M_link 96 = .ok (.invokevirtual 374, 3) := by decide +kernel
theorem d_M_link_99 : decode b_M_link 99 = .ok (.ifCond .eq 64, 3) := by decide +kernel
theorem d_M_link_163 : decode b_M_link 163 = .ok (.iinc 3 1, 3) := by decide +kernel
theorem d_M_link_166 : decode b_M_link 166 = .ok (.goto (-78), 3) := by decide +kernel
theorem d_M_link_169 : decode b_M_link 169 = .ok (.aload_n 0, 1) := by decide +kernel
theorem d_M_link_170 : decode b_M_link 170 = .ok (.invokevirtual 381, 3) := by decide +kernel
theorem d_M_link_173 : decode b_M_link 173 = .ok (.istore_n 1, 1) := by decide +kernel
theorem d_M_link_174 : decode b_M_link 174 = .ok (.goto (-94), 3) := by decide +kernel
theorem d_M_link_177 : decode b_M_link 177 = .ok (.iload_n 1, 1) := by decide +kernel
theorem d_M_link_178 : decode b_M_link 178 = .ok (.sipush 16384, 3) := by decide +kernel
theorem d_M_link_181 : decode b_M_link 181 = .ok (.if_icmp .le 8, 3) := by decide +kernel
theorem d_M_link_189 : decode b_M_link 189 = .ok (.iconst 0, 1) := by decide +kernel
theorem d_M_link_190 : decode b_M_link 190 = .ok (.istore_n 3, 1) := by decide +kernel
theorem d_M_link_191 : decode b_M_link 191 = .ok (.iload_n 3, 1) := by decide +kernel
theorem d_M_link_192 : decode b_M_link 192 = .ok (.bipush 32, 2) := by decide +kernel
theorem d_M_link_194 : decode b_M_link 194 = .ok (.if_icmp .ge 61, 3) := by decide +kernel
