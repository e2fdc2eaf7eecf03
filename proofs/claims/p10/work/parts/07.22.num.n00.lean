abbrev b_AS_append_1 : ByteArray := prog_10_method_32_code
abbrev y_AS_append_1 : MethodName := ⟨"java/lang/AbstractStringBuilder", "append", "(I)Ljava/lang/AbstractStringBuilder;"⟩
theorem kc_AS_append_1 : (.code y_AS_append_1 b_AS_append_1 4 (some (.object "java/lang/AbstractStringBuilder")) : Cond) ∈ tp_G := tp_Gm 933 (by decide +kernel) (by decide +kernel)
def w_AS_append_1 : List Cond := .code y_AS_append_1 b_AS_append_1 4 (some (.object "java/lang/AbstractStringBuilder")) :: tp_G
theorem km_AS_append_1 : (.instanceMethod y_AS_append_1 : Cond) ∈ tp_G := tp_Gm 932 (by decide +kernel) (by decide +kernel)
theorem d_AS_append_1_0 : decode b_AS_append_1 0 = .ok (.aload_n 0, 1) := by decide +kernel
theorem d_AS_append_1_1 : decode b_AS_append_1 1 = .ok (.getfield 79, 3) := by decide +kernel
theorem d_AS_append_1_4 : decode b_AS_append_1 4 = .ok (.istore_n 2, 1) := by decide +kernel
theorem d_AS_append_1_5 : decode b_AS_append_1 5 = .ok (.iload_n 2, 1) := by decide +kernel
theorem d_AS_append_1_6 : decode b_AS_append_1 6 = .ok (.iload_n 1, 1) := by decide +kernel
theorem d_AS_append_1_7 : decode b_AS_append_1 7 = .ok (.invokestatic 245, 3) := by decide +kernel
theorem d_AS_append_1_10 : decode b_AS_append_1 10 = .ok (.iadd, 1) := by decide +kernel
theorem d_AS_append_1_11 : decode b_AS_append_1 11 = .ok (.istore_n 3, 1) := by decide +kernel
theorem d_AS_append_1_12 : decode b_AS_append_1 12 = .ok (.aload_n 0, 1) := by decide +kernel
theorem d_AS_append_1_13 : decode b_AS_append_1 13 = .ok (.iload_n 3, 1) := by decide +kernel
theorem d_AS_append_1_14 : decode b_AS_append_1 14 = .ok (.invokevirtual 100, 3) := by decide +kernel
theorem d_AS_append_1_17 : decode b_AS_append_1 17 = .ok (.aload_n 0, 1) := by decide +kernel
theorem d_AS_append_1_18 : decode b_AS_append_1 18 = .ok (.invokevirtual 83, 3) := by decide +kernel
theorem d_AS_append_1_21 : decode b_AS_append_1 21 = .ok (.ifCond .eq 16, 3) := by decide +kernel
theorem d_AS_append_1_24 : decode b_AS_append_1 24 = .ok (.iload_n 1, 1) := by decide +kernel
theorem d_AS_append_1_25 : decode b_AS_append_1 25 = .ok (.iload_n 3, 1) := by decide +kernel
theorem d_AS_append_1_26 : decode b_AS_append_1 26 = .ok (.aload_n 0, 1) := by decide +kernel
theorem d_AS_append_1_27 : decode b_AS_append_1 27 = .ok (.getfield 15, 3) := by decide +kernel
theorem d_AS_append_1_30 : decode b_AS_append_1 30 = .ok (.invokestatic 248, 3) := by decide +kernel
theorem d_AS_append_1_33 : decode b_AS_append_1 33 = .ok (.pop, 1) := by decide +kernel
theorem d_AS_append_1_34 : decode b_AS_append_1 34 = .ok (.goto 14, 3) := by decide +kernel
theorem d_AS_append_1_37 : decode b_AS_append_1 37 = .ok (.iload_n 1, 1) := by decide +kernel
theorem d_AS_append_1_38 : decode b_AS_append_1 38 = .ok (.iload_n 2, 1) := by decide +kernel
theorem d_AS_append_1_39 : decode b_AS_append_1 39 = .ok (.iload_n 3, 1) := by decide +kernel
theorem d_AS_append_1_40 : decode b_AS_append_1 40 = .ok (.aload_n 0, 1) := by decide +kernel
theorem d_AS_append_1_41 : decode b_AS_append_1 41 = .ok (.getfield 15, 3) := by decide +kernel
theorem d_AS_append_1_44 : decode b_AS_append_1 44 = .ok (.invokestatic 251, 3) := by decide +kernel
theorem d_AS_append_1_47 : decode b_AS_append_1 47 = .ok (.pop, 1) := by decide +kernel
theorem d_AS_append_1_48 : decode b_AS_append_1 48 = .ok (.aload_n 0, 1) := by decide +kernel
theorem d_AS_append_1_49 : decode b_AS_append_1 49 = .ok (.iload_n 3, 1) := by decide +kernel
theorem d_AS_append_1_50 : decode b_AS_append_1 50 = .ok (.putfield 79, 3) := by decide +kernel
theorem d_AS_append_1_53 : decode b_AS_append_1 53 = .ok (.aload_n 0, 1) := by decide +kernel
theorem d_AS_append_1_54 : decode b_AS_append_1 54 = .ok (.areturn, 1) := by decide +kernel
abbrev b_AS_append_2 : ByteArray := prog_10_method_22_code
abbrev y_AS_append_2 : MethodName := ⟨"java/lang/AbstractStringBuilder", "append", "(Ljava/lang/String;)Ljava/lang/AbstractStringBuilder;"⟩
theorem kc_AS_append_2 : (.code y_AS_append_2 b_AS_append_2 3 (some (.object "java/lang/AbstractStringBuilder")) : Cond) ∈ tp_G := tp_Gm 847 (by decide +kernel) (by decide +kernel)
def w_AS_append_2 : List Cond := .code y_AS_append_2 b_AS_append_2 3 (some (.object "java/lang/AbstractStringBuilder")) :: tp_G
theorem km_AS_append_2 : (.instanceMethod y_AS_append_2 : Cond) ∈ tp_G := tp_Gm 846 (by decide +kernel) (by decide +kernel)
theorem d_AS_append_2_0 : decode b_AS_append_2 0 = .ok (.aload_n 1, 1) := by decide +kernel
theorem d_AS_append_2_1 : decode b_AS_append_2 1 = .ok (.ifnonnull 8, 3) := by decide +kernel
theorem d_AS_append_2_4 : decode b_AS_append_2 4 = .ok (.aload_n 0, 1) := by decide +kernel
theorem d_AS_append_2_5 : decode b_AS_append_2 5 = .ok (.invokevirtual 204, 3) := by decide +kernel
theorem d_AS_append_2_8 : decode b_AS_append_2 8 = .ok (.areturn, 1) := by decide +kernel
theorem d_AS_append_2_9 : decode b_AS_append_2 9 = .ok (.aload_n 1, 1) := by decide +kernel
theorem d_AS_append_2_10 : decode b_AS_append_2 10 = .ok (.invokevirtual 32, 3) := by decide +kernel
theorem d_AS_append_2_13 : decode b_AS_append_2 13 = .ok (.istore_n 2, 1) := by decide +kernel
theorem d_AS_append_2_14 : decode b_AS_append_2 14 = .ok (.aload_n 0, 1) := by decide +kernel
theorem d_AS_append_2_15 : decode b_AS_append_2 15 = .ok (.aload_n 0, 1) := by decide +kernel
theorem d_AS_append_2_16 : decode b_AS_append_2 16 = .ok (.getfield 79, 3) := by decide +kernel
theorem d_AS_append_2_19 : decode b_AS_append_2 19 = .ok (.iload_n 2, 1) := by decide +kernel
theorem d_AS_append_2_20 : decode b_AS_append_2 20 = .ok (.iadd, 1) := by decide +kernel
theorem d_AS_append_2_21 : decode b_AS_append_2 21 = .ok (.invokevirtual 100, 3) := by decide +kernel
theorem d_AS_append_2_24 : decode b_AS_append_2 24 = .ok (.aload_n 0, 1) := by decide +kernel
theorem d_AS_append_2_25 : decode b_AS_append_2 25 = .ok (.aload_n 0, 1) := by decide +kernel
theorem d_AS_append_2_26 : decode b_AS_append_2 26 = .ok (.getfield 79, 3) := by decide +kernel
theorem d_AS_append_2_29 : decode b_AS_append_2 29 = .ok (.aload_n 1, 1) := by decide +kernel
theorem d_AS_append_2_30 : decode b_AS_append_2 30 = .ok (.invokevirtual 208, 3) := by decide +kernel
theorem d_AS_append_2_33 : decode b_AS_append_2 33 = .ok (.aload_n 0, 1) := by decide +kernel
theorem d_AS_append_2_34 : decode b_AS_append_2 34 = .ok (.dup, 1) := by decide +kernel
theorem d_AS_append_2_35 : decode b_AS_append_2 35 = .ok (.getfield 79, 3) := by decide +kernel
theorem d_AS_append_2_38 : decode b_AS_append_2 38 = .ok (.iload_n 2, 1) := by decide +kernel
theorem d_AS_append_2_39 : decode b_AS_append_2 39 = .ok (.iadd, 1) := by decide +kernel
theorem d_AS_append_2_40 : decode b_AS_append_2 40 = .ok (.putfield 79, 3) := by decide +kernel
theorem d_AS_append_2_43 : decode b_AS_append_2 43 = .ok (.aload_n 0, 1) := by decide +kernel
theorem d_AS_append_2_44 : decode b_AS_append_2 44 = .ok (.areturn, 1) := by decide +kernel
abbrev b_AS_inflateIfNeededFor : ByteArray := prog_10_method_71_code
abbrev y_AS_inflateIfNeededFor : MethodName := ⟨"java/lang/AbstractStringBuilder", "inflateIfNeededFor", "(Ljava/lang/String;)V"⟩
theorem kc_AS_inflateIfNeededFor : (.code y_AS_inflateIfNeededFor b_AS_inflateIfNeededFor 2 none : Cond) ∈ tp_G := tp_Gm 900 (by decide +kernel) (by decide +kernel)
def w_AS_inflateIfNeededFor : List Cond := .code y_AS_inflateIfNeededFor b_AS_inflateIfNeededFor 2 none :: tp_G
theorem km_AS_inflateIfNeededFor : (.instanceMethod y_AS_inflateIfNeededFor : Cond) ∈ tp_G := tp_Gm 899 (by decide +kernel) (by decide +kernel)
theorem kv_SB_AS_inflateIfNeededFor : (.selects "java/lang/StringBuilder" y_AS_inflateIfNeededFor y_AS_inflateIfNeededFor : Cond) ∈ tp_G := tp_Gm 2 (by decide +kernel) (by decide +kernel)
theorem d_AS_inflateIfNeededFor_0 : decode b_AS_inflateIfNeededFor 0 = .ok (.getstatic 18, 3) := by decide +kernel
theorem d_AS_inflateIfNeededFor_3 : decode b_AS_inflateIfNeededFor 3 = .ok (.ifCond .eq 18, 3) := by decide +kernel
theorem d_AS_inflateIfNeededFor_6 : decode b_AS_inflateIfNeededFor 6 = .ok (.aload_n 0, 1) := by decide +kernel
theorem d_AS_inflateIfNeededFor_7 : decode b_AS_inflateIfNeededFor 7 = .ok (.getfield 22, 3) := by decide +kernel
theorem d_AS_inflateIfNeededFor_10 : decode b_AS_inflateIfNeededFor 10 = .ok (.aload_n 1, 1) := by decide +kernel
theorem d_AS_inflateIfNeededFor_11 : decode b_AS_inflateIfNeededFor 11 = .ok (.invokevirtual 40, 3) := by decide +kernel
theorem d_AS_inflateIfNeededFor_14 : decode b_AS_inflateIfNeededFor 14 = .ok (.if_icmp .eq 7, 3) := by decide +kernel
theorem d_AS_inflateIfNeededFor_17 : decode b_AS_inflateIfNeededFor 17 = .ok (.aload_n 0, 1) := by decide +kernel
theorem d_AS_inflateIfNeededFor_18 : decode b_AS_inflateIfNeededFor 18 = .ok (.invokevirtual 195, 3) := by decide +kernel
theorem d_AS_inflateIfNeededFor_21 : decode b_AS_inflateIfNeededFor 21 = .ok (.return_, 1) := by decide +kernel
abbrev b_AS_putStringAt : ByteArray := prog_10_method_73_code
abbrev y_AS_putStringAt : MethodName := ⟨"java/lang/AbstractStringBuilder", "putStringAt", "(ILjava/lang/String;)V"⟩
theorem kc_AS_putStringAt : (.code y_AS_putStringAt b_AS_putStringAt 3 none : Cond) ∈ tp_G := tp_Gm 896 (by decide +kernel) (by decide +kernel)
def w_AS_putStringAt : List Cond := .code y_AS_putStringAt b_AS_putStringAt 3 none :: tp_G
theorem km_AS_putStringAt : (.instanceMethod y_AS_putStringAt : Cond) ∈ tp_G := tp_Gm 895 (by decide +kernel) (by decide +kernel)
theorem kv_SB_AS_putStringAt : (.selects "java/lang/StringBuilder" y_AS_putStringAt y_AS_putStringAt : Cond) ∈ tp_G := tp_Gm 3 (by decide +kernel) (by decide +kernel)
theorem d_AS_putStringAt_0 : decode b_AS_putStringAt 0 = .ok (.aload_n 0, 1) := by decide +kernel
theorem d_AS_putStringAt_1 : decode b_AS_putStringAt 1 = .ok (.aload_n 2, 1) := by decide +kernel
theorem d_AS_putStringAt_2 : decode b_AS_putStringAt 2 = .ok (.invokevirtual 397, 3) := by decide +kernel
theorem d_AS_putStringAt_5 : decode b_AS_putStringAt 5 = .ok (.aload_n 2, 1) := by decide +kernel
theorem d_AS_putStringAt_6 : decode b_AS_putStringAt 6 = .ok (.aload_n 0, 1) := by decide +kernel
theorem d_AS_putStringAt_7 : decode b_AS_putStringAt 7 = .ok (.getfield 15, 3) := by decide +kernel
theorem d_AS_putStringAt_10 : decode b_AS_putStringAt 10 = .ok (.iload_n 1, 1) := by decide +kernel
theorem d_AS_putStringAt_11 : decode b_AS_putStringAt 11 = .ok (.aload_n 0, 1) := by decide +kernel
theorem d_AS_putStringAt_12 : decode b_AS_putStringAt 12 = .ok (.getfield 22, 3) := by decide +kernel
theorem d_AS_putStringAt_15 : decode b_AS_putStringAt 15 = .ok (.invokevirtual 399, 3) := by decide +kernel
theorem d_AS_putStringAt_18 : decode b_AS_putStringAt 18 = .ok (.return_, 1) := by decide +kernel
abbrev b_IN_getChars : ByteArray := prog_18_method_12_code
abbrev y_IN_getChars : MethodName := ⟨"java/lang/Integer", "getChars", "(II[B)I"⟩
theorem kc_IN_getChars : (.code y_IN_getChars b_IN_getChars 7 (some .int) : Cond) ∈ tp_G := tp_Gm 939 (by decide +kernel) (by decide +kernel)
def w_IN_getChars : List Cond := .code y_IN_getChars b_IN_getChars 7 (some .int) :: tp_G
theorem ks_IN_getChars : (.static y_IN_getChars : Cond) ∈ tp_G := tp_Gm 938 (by decide +kernel) (by decide +kernel)
theorem d_IN_getChars_0 : decode b_IN_getChars 0 = .ok (.iload_n 1, 1) := by decide +kernel
theorem d_IN_getChars_1 : decode b_IN_getChars 1 = .ok (.istore 5, 2) := by decide +kernel
theorem d_IN_getChars_3 : decode b_IN_getChars 3 = .ok (.iload_n 0, 1) := by decide +kernel
theorem d_IN_getChars_4 : decode b_IN_getChars 4 = .ok (.ifCond .ge 7, 3) := by decide +kernel
theorem d_IN_getChars_7 : decode b_IN_getChars 7 = .ok (.iconst 1, 1) := by decide +kernel
theorem d_IN_getChars_8 : decode b_IN_getChars 8 = .ok (.goto 4, 3) := by decide +kernel
theorem d_IN_getChars_11 : decode b_IN_getChars 11 = .ok (.iconst 0, 1) := by decide +kernel
theorem d_IN_getChars_12 : decode b_IN_getChars 12 = .ok (.istore 6, 2) := by decide +kernel
theorem d_IN_getChars_14 : decode b_IN_getChars 14 = .ok (.iload 6, 2) := by decide +kernel
theorem d_IN_getChars_16 : decode b_IN_getChars 16 = .ok (.ifCond .ne 6, 3) := by decide +kernel
theorem d_IN_getChars_19 : decode b_IN_getChars 19 = .ok (.iload_n 0, 1) := by decide +kernel
theorem d_IN_getChars_20 : decode b_IN_getChars 20 = .ok (.ineg, 1) := by decide +kernel
theorem d_IN_getChars_21 : decode b_IN_getChars 21 = .ok (.istore_n 0, 1) := by decide +kernel
theorem d_IN_getChars_22 : decode b_IN_getChars 22 = .ok (.iload_n 0, 1) := by decide +kernel
theorem d_IN_getChars_23 : decode b_IN_getChars 23 = .ok (.bipush (-100), 2) := by decide +kernel
theorem d_IN_getChars_25 : decode b_IN_getChars 25 = .ok (.if_icmp .gt 47, 3) := by decide +kernel
theorem d_IN_getChars_28 : decode b_IN_getChars 28 = .ok (.iload_n 0, 1) := by decide +kernel
theorem d_IN_getChars_29 : decode b_IN_getChars 29 = .ok (.bipush 100, 2) := by decide +kernel
theorem d_IN_getChars_31 : decode b_IN_getChars 31 = .ok (.idiv, 1) := by decide +kernel
theorem d_IN_getChars_32 : decode b_IN_getChars 32 = .ok (.istore_n 3, 1) := by decide +kernel
theorem d_IN_getChars_33 : decode b_IN_getChars 33 = .ok (.iload_n 3, 1) := by decide +kernel
theorem d_IN_getChars_34 : decode b_IN_getChars 34 = .ok (.bipush 100, 2) := by decide +kernel
theorem d_IN_getChars_36 : decode b_IN_getChars 36 = .ok (.imul, 1) := by decide +kernel
theorem d_IN_getChars_37 : decode b_IN_getChars 37 = .ok (.iload_n 0, 1) := by decide +kernel
theorem d_IN_getChars_38 : decode b_IN_getChars 38 = .ok (.isub, 1) := by decide +kernel
theorem d_IN_getChars_39 : decode b_IN_getChars 39 = .ok (.istore 4, 2) := by decide +kernel
theorem d_IN_getChars_41 : decode b_IN_getChars 41 = .ok (.iload_n 3, 1) := by decide +kernel
theorem d_IN_getChars_42 : decode b_IN_getChars 42 = .ok (.istore_n 0, 1) := by decide +kernel
theorem d_IN_getChars_43 : decode b_IN_getChars 43 = .ok (.aload_n 2, 1) := by decide +kernel
theorem d_IN_getChars_44 : decode b_IN_getChars 44 = .ok (.iinc 5 (-1), 3) := by decide +kernel
theorem d_IN_getChars_47 : decode b_IN_getChars 47 = .ok (.iload 5, 2) := by decide +kernel
theorem d_IN_getChars_49 : decode b_IN_getChars 49 = .ok (.getstatic 83, 3) := by decide +kernel
theorem d_IN_getChars_52 : decode b_IN_getChars 52 = .ok (.iload 4, 2) := by decide +kernel
theorem d_IN_getChars_54 : decode b_IN_getChars 54 = .ok (.baload, 1) := by decide +kernel
theorem d_IN_getChars_55 : decode b_IN_getChars 55 = .ok (.bastore, 1) := by decide +kernel
theorem d_IN_getChars_56 : decode b_IN_getChars 56 = .ok (.aload_n 2, 1) := by decide +kernel
theorem d_IN_getChars_57 : decode b_IN_getChars 57 = .ok (.iinc 5 (-1), 3) := by decide +kernel
theorem d_IN_getChars_60 : decode b_IN_getChars 60 = .ok (.iload 5, 2) := by decide +kernel
theorem d_IN_getChars_62 : decode b_IN_getChars 62 = .ok (.getstatic 87, 3) := by decide +kernel
theorem d_IN_getChars_65 : decode b_IN_getChars 65 = .ok (.iload 4, 2) := by decide +kernel
theorem d_IN_getChars_67 : decode b_IN_getChars 67 = .ok (.baload, 1) := by decide +kernel
theorem d_IN_getChars_68 : decode b_IN_getChars 68 = .ok (.bastore, 1) := by decide +kernel
theorem d_IN_getChars_69 : decode b_IN_getChars 69 = .ok (.goto (-47), 3) := by decide +kernel
theorem d_IN_getChars_72 : decode b_IN_getChars 72 = .ok (.aload_n 2, 1) := by decide +kernel
theorem d_IN_getChars_73 : decode b_IN_getChars 73 = .ok (.iinc 5 (-1), 3) := by decide +kernel
theorem d_IN_getChars_76 : decode b_IN_getChars 76 = .ok (.iload 5, 2) := by decide +kernel
theorem d_IN_getChars_78 : decode b_IN_getChars 78 = .ok (.getstatic 83, 3) := by decide +kernel
theorem d_IN_getChars_81 : decode b_IN_getChars 81 = .ok (.iload_n 0, 1) := by decide +kernel
theorem d_IN_getChars_82 : decode b_IN_getChars 82 = .ok (.ineg, 1) := by decide +kernel
theorem d_IN_getChars_83 : decode b_IN_getChars 83 = .ok (.baload, 1) := by decide +kernel
theorem d_IN_getChars_84 : decode b_IN_getChars 84 = .ok (.bastore, 1) := by decide +kernel
theorem d_IN_getChars_85 : decode b_IN_getChars 85 = .ok (.iload_n 0, 1) := by decide +kernel
theorem d_IN_getChars_86 : decode b_IN_getChars 86 = .ok (.bipush (-9), 2) := by decide +kernel
theorem d_IN_getChars_88 : decode b_IN_getChars 88 = .ok (.if_icmp .ge 16, 3) := by decide +kernel
theorem d_IN_getChars_91 : decode b_IN_getChars 91 = .ok (.aload_n 2, 1) := by decide +kernel
theorem d_IN_getChars_92 : decode b_IN_getChars 92 = .ok (.iinc 5 (-1), 3) := by decide +kernel
theorem d_IN_getChars_95 : decode b_IN_getChars 95 = .ok (.iload 5, 2) := by decide +kernel
theorem d_IN_getChars_97 : decode b_IN_getChars 97 = .ok (.getstatic 87, 3) := by decide +kernel
theorem d_IN_getChars_100 : decode b_IN_getChars 100 = .ok (.iload_n 0, 1) := by decide +kernel
theorem d_IN_getChars_101 : decode b_IN_getChars 101 = .ok (.ineg, 1) := by decide +kernel
theorem d_IN_getChars_102 : decode b_IN_getChars 102 = .ok (.baload, 1) := by decide +kernel
theorem d_IN_getChars_103 : decode b_IN_getChars 103 = .ok (.bastore, 1) := by decide +kernel
theorem d_IN_getChars_104 : decode b_IN_getChars 104 = .ok (.iload 6, 2) := by decide +kernel
theorem d_IN_getChars_106 : decode b_IN_getChars 106 = .ok (.ifCond .eq 12, 3) := by decide +kernel
theorem d_IN_getChars_109 : decode b_IN_getChars 109 = .ok (.aload_n 2, 1) := by decide +kernel
theorem d_IN_getChars_110 : decode b_IN_getChars 110 = .ok (.iinc 5 (-1), 3) := by decide +kernel
theorem d_IN_getChars_113 : decode b_IN_getChars 113 = .ok (.iload 5, 2) := by decide +kernel
theorem d_IN_getChars_115 : decode b_IN_getChars 115 = .ok (.bipush 45, 2) := by decide +kernel
theorem d_IN_getChars_117 : decode b_IN_getChars 117 = .ok (.bastore, 1) := by decide +kernel
theorem d_IN_getChars_118 : decode b_IN_getChars 118 = .ok (.iload 5, 2) := by decide +kernel
theorem d_IN_getChars_120 : decode b_IN_getChars 120 = .ok (.ireturn, 1) := by decide +kernel
abbrev b_IN_stringSize : ByteArray := prog_18_method_13_code
abbrev y_IN_stringSize : MethodName := ⟨"java/lang/Integer", "stringSize", "(I)I"⟩
theorem kc_IN_stringSize : (.code y_IN_stringSize b_IN_stringSize 4 (some .int) : Cond) ∈ tp_G := tp_Gm 936 (by decide +kernel) (by decide +kernel)
def w_IN_stringSize : List Cond := .code y_IN_stringSize b_IN_stringSize 4 (some .int) :: tp_G
theorem ks_IN_stringSize : (.static y_IN_stringSize : Cond) ∈ tp_G := tp_Gm 935 (by decide +kernel) (by decide +kernel)
theorem d_IN_stringSize_0 : decode b_IN_stringSize 0 = .ok (.iconst 1, 1) := by decide +kernel
theorem d_IN_stringSize_1 : decode b_IN_stringSize 1 = .ok (.istore_n 1, 1) := by decide +kernel
theorem d_IN_stringSize_2 : decode b_IN_stringSize 2 = .ok (.iload_n 0, 1) := by decide +kernel
theorem d_IN_stringSize_3 : decode b_IN_stringSize 3 = .ok (.ifCond .lt 8, 3) := by decide +kernel
theorem d_IN_stringSize_6 : decode b_IN_stringSize 6 = .ok (.iconst 0, 1) := by decide +kernel
theorem d_IN_stringSize_7 : decode b_IN_stringSize 7 = .ok (.istore_n 1, 1) := by decide +kernel
theorem d_IN_stringSize_8 : decode b_IN_stringSize 8 = .ok (.iload_n 0, 1) := by decide +kernel
theorem d_IN_stringSize_9 : decode b_IN_stringSize 9 = .ok (.ineg, 1) := by decide +kernel
theorem d_IN_stringSize_10 : decode b_IN_stringSize 10 = .ok (.istore_n 0, 1) := by decide +kernel
theorem d_IN_stringSize_11 : decode b_IN_stringSize 11 = .ok (.bipush (-10), 2) := by decide +kernel
theorem d_IN_stringSize_13 : decode b_IN_stringSize 13 = .ok (.istore_n 2, 1) := by decide +kernel
theorem d_IN_stringSize_14 : decode b_IN_stringSize 14 = .ok (.iconst 1, 1) := by decide +kernel
theorem d_IN_stringSize_15 : decode b_IN_stringSize 15 = .ok (.istore_n 3, 1) := by decide +kernel
theorem d_IN_stringSize_16 : decode b_IN_stringSize 16 = .ok (.iload_n 3, 1) := by decide +kernel
theorem d_IN_stringSize_17 : decode b_IN_stringSize 17 = .ok (.bipush 10, 2) := by decide +kernel
theorem d_IN_stringSize_19 : decode b_IN_stringSize 19 = .ok (.if_icmp .ge 23, 3) := by decide +kernel
theorem d_IN_stringSize_22 : decode b_IN_stringSize 22 = .ok (.iload_n 0, 1) := by decide +kernel
theorem d_IN_stringSize_23 : decode b_IN_stringSize 23 = .ok (.iload_n 2, 1) := by decide +kernel
theorem d_IN_stringSize_24 : decode b_IN_stringSize 24 = .ok (.if_icmp .le 7, 3) := by decide +kernel
theorem d_IN_stringSize_27 : decode b_IN_stringSize 27 = .ok (.iload_n 3, 1) := by decide +kernel
theorem d_IN_stringSize_28 : decode b_IN_stringSize 28 = .ok (.iload_n 1, 1) := by decide +kernel
theorem d_IN_stringSize_29 : decode b_IN_stringSize 29 = .ok (.iadd, 1) := by decide +kernel
theorem d_IN_stringSize_30 : decode b_IN_stringSize 30 = .ok (.ireturn, 1) := by decide +kernel
theorem d_IN_stringSize_31 : decode b_IN_stringSize 31 = .ok (.bipush 10, 2) := by decide +kernel
theorem d_IN_stringSize_33 : decode b_IN_stringSize 33 = .ok (.iload_n 2, 1) := by decide +kernel
theorem d_IN_stringSize_34 : decode b_IN_stringSize 34 = .ok (.imul, 1) := by decide +kernel
theorem d_IN_stringSize_35 : decode b_IN_stringSize 35 = .ok (.istore_n 2, 1) := by decide +kernel
theorem d_IN_stringSize_36 : decode b_IN_stringSize 36 = .ok (.iinc 3 1, 3) := by decide +kernel
theorem d_IN_stringSize_39 : decode b_IN_stringSize 39 = .ok (.goto (-23), 3) := by decide +kernel
theorem d_IN_stringSize_42 : decode b_IN_stringSize 42 = .ok (.bipush 10, 2) := by decide +kernel
theorem d_IN_stringSize_44 : decode b_IN_stringSize 44 = .ok (.iload_n 1, 1) := by decide +kernel
theorem d_IN_stringSize_45 : decode b_IN_stringSize 45 = .ok (.iadd, 1) := by decide +kernel
theorem d_IN_stringSize_46 : decode b_IN_stringSize 46 = .ok (.ireturn, 1) := by decide +kernel
abbrev b_ST_getBytes : ByteArray := prog_22_method_147_code
abbrev y_ST_getBytes : MethodName := ⟨"java/lang/String", "getBytes", "([BIB)V"⟩
theorem kc_ST_getBytes : (.code y_ST_getBytes b_ST_getBytes 4 none : Cond) ∈ tp_G := tp_Gm 924 (by decide +kernel) (by decide +kernel)
def w_ST_getBytes : List Cond := .code y_ST_getBytes b_ST_getBytes 4 none :: tp_G
theorem km_ST_getBytes : (.instanceMethod y_ST_getBytes : Cond) ∈ tp_G := tp_Gm 922 (by decide +kernel) (by decide +kernel)
theorem kv_ST_ST_getBytes : (.selects "java/lang/String" y_ST_getBytes y_ST_getBytes : Cond) ∈ tp_G := tp_Gm 923 (by decide +kernel) (by decide +kernel)
theorem d_ST_getBytes_0 : decode b_ST_getBytes 0 = .ok (.aload_n 0, 1) := by decide +kernel
theorem d_ST_getBytes_1 : decode b_ST_getBytes 1 = .ok (.invokevirtual 335, 3) := by decide +kernel
theorem d_ST_getBytes_4 : decode b_ST_getBytes 4 = .ok (.iload_n 3, 1) := by decide +kernel
theorem d_ST_getBytes_5 : decode b_ST_getBytes 5 = .ok (.if_icmp .ne 23, 3) := by decide +kernel
theorem d_ST_getBytes_8 : decode b_ST_getBytes 8 = .ok (.aload_n 0, 1) := by decide +kernel
theorem d_ST_getBytes_9 : decode b_ST_getBytes 9 = .ok (.getfield 9, 3) := by decide +kernel
theorem d_ST_getBytes_12 : decode b_ST_getBytes 12 = .ok (.iconst 0, 1) := by decide +kernel
theorem d_ST_getBytes_13 : decode b_ST_getBytes 13 = .ok (.aload_n 1, 1) := by decide +kernel
theorem d_ST_getBytes_14 : decode b_ST_getBytes 14 = .ok (.iload_n 2, 1) := by decide +kernel
theorem d_ST_getBytes_15 : decode b_ST_getBytes 15 = .ok (.iload_n 3, 1) := by decide +kernel
theorem d_ST_getBytes_16 : decode b_ST_getBytes 16 = .ok (.ishl, 1) := by decide +kernel
theorem d_ST_getBytes_17 : decode b_ST_getBytes 17 = .ok (.aload_n 0, 1) := by decide +kernel
theorem d_ST_getBytes_18 : decode b_ST_getBytes 18 = .ok (.getfield 9, 3) := by decide +kernel
theorem d_ST_getBytes_21 : decode b_ST_getBytes 21 = .ok (.arraylength, 1) := by decide +kernel
theorem d_ST_getBytes_22 : decode b_ST_getBytes 22 = .ok (.invokestatic 212, 3) := by decide +kernel
theorem d_ST_getBytes_25 : decode b_ST_getBytes 25 = .ok (.goto 18, 3) := by decide +kernel
theorem d_ST_getBytes_28 : decode b_ST_getBytes 28 = .ok (.aload_n 0, 1) := by decide +kernel
theorem d_ST_getBytes_29 : decode b_ST_getBytes 29 = .ok (.getfield 9, 3) := by decide +kernel
theorem d_ST_getBytes_32 : decode b_ST_getBytes 32 = .ok (.iconst 0, 1) := by decide +kernel
theorem d_ST_getBytes_33 : decode b_ST_getBytes 33 = .ok (.aload_n 1, 1) := by decide +kernel
theorem d_ST_getBytes_34 : decode b_ST_getBytes 34 = .ok (.iload_n 2, 1) := by decide +kernel
theorem d_ST_getBytes_35 : decode b_ST_getBytes 35 = .ok (.aload_n 0, 1) := by decide +kernel
theorem d_ST_getBytes_36 : decode b_ST_getBytes 36 = .ok (.getfield 9, 3) := by decide +kernel
theorem d_ST_getBytes_39 : decode b_ST_getBytes 39 = .ok (.arraylength, 1) := by decide +kernel
theorem d_ST_getBytes_40 : decode b_ST_getBytes 40 = .ok (.invokestatic 106, 3) := by decide +kernel
theorem d_ST_getBytes_43 : decode b_ST_getBytes 43 = .ok (.return_, 1) := by decide +kernel
abbrev b_SB_append_1 : ByteArray := prog_23_method_15_code
abbrev y_SB_append_1 : MethodName := ⟨"java/lang/StringBuilder", "append", "(I)Ljava/lang/StringBuilder;"⟩
theorem kc_SB_append_1 : (.code y_SB_append_1 b_SB_append_1 2 (some (.object "java/lang/StringBuilder")) : Cond) ∈ tp_G := tp_Gm 930 (by decide +kernel) (by decide +kernel)
def w_SB_append_1 : List Cond := .code y_SB_append_1 b_SB_append_1 2 (some (.object "java/lang/StringBuilder")) :: tp_G
theorem km_SB_append_1 : (.instanceMethod y_SB_append_1 : Cond) ∈ tp_G := tp_Gm 928 (by decide +kernel) (by decide +kernel)
theorem kv_SB_SB_append_1 : (.selects "java/lang/StringBuilder" y_SB_append_1 y_SB_append_1 : Cond) ∈ tp_G := tp_Gm 929 (by decide +kernel) (by decide +kernel)
theorem d_SB_append_1_0 : decode b_SB_append_1 0 = .ok (.aload_n 0, 1) := by decide +kernel
theorem d_SB_append_1_1 : decode b_SB_append_1 1 = .ok (.iload_n 1, 1) := by decide +kernel
theorem d_SB_append_1_2 : decode b_SB_append_1 2 = .ok (.invokespecial 53, 3) := by decide +kernel
theorem d_SB_append_1_5 : decode b_SB_append_1 5 = .ok (.pop, 1) := by decide +kernel
theorem d_SB_append_1_6 : decode b_SB_append_1 6 = .ok (.aload_n 0, 1) := by decide +kernel
theorem d_SB_append_1_7 : decode b_SB_append_1 7 = .ok (.areturn, 1) := by decide +kernel
abbrev b_SB_append_2 : ByteArray := prog_23_method_7_code
abbrev y_SB_append_2 : MethodName := ⟨"java/lang/StringBuilder", "append", "(Ljava/lang/String;)Ljava/lang/StringBuilder;"⟩
theorem kc_SB_append_2 : (.code y_SB_append_2 b_SB_append_2 2 (some (.object "java/lang/StringBuilder")) : Cond) ∈ tp_G := tp_Gm 844 (by decide +kernel) (by decide +kernel)
def w_SB_append_2 : List Cond := .code y_SB_append_2 b_SB_append_2 2 (some (.object "java/lang/StringBuilder")) :: tp_G
theorem km_SB_append_2 : (.instanceMethod y_SB_append_2 : Cond) ∈ tp_G := tp_Gm 842 (by decide +kernel) (by decide +kernel)
theorem kv_SB_SB_append_2 : (.selects "java/lang/StringBuilder" y_SB_append_2 y_SB_append_2 : Cond) ∈ tp_G := tp_Gm 843 (by decide +kernel) (by decide +kernel)
theorem d_SB_append_2_0 : decode b_SB_append_2 0 = .ok (.aload_n 0, 1) := by decide +kernel
theorem d_SB_append_2_1 : decode b_SB_append_2 1 = .ok (.aload_n 1, 1) := by decide +kernel
theorem d_SB_append_2_2 : decode b_SB_append_2 2 = .ok (.invokespecial 29, 3) := by decide +kernel
theorem d_SB_append_2_5 : decode b_SB_append_2 5 = .ok (.pop, 1) := by decide +kernel
theorem d_SB_append_2_6 : decode b_SB_append_2 6 = .ok (.aload_n 0, 1) := by decide +kernel
theorem d_SB_append_2_7 : decode b_SB_append_2 7 = .ok (.areturn, 1) := by decide +kernel
theorem kl_AS_245 : (.methodLink "java/lang/AbstractStringBuilder" 245 y_IN_stringSize : Cond) ∈ tp_G := tp_Gm 934 (by decide +kernel) (by decide +kernel)
theorem kl_AS_248 : (.methodLink "java/lang/AbstractStringBuilder" 248 y_IN_getChars : Cond) ∈ tp_G := tp_Gm 937 (by decide +kernel) (by decide +kernel)
abbrev b_SU_getChars_0 : ByteArray := prog_26_method_77_code
abbrev y_SU_getChars_0 : MethodName := ⟨"java/lang/StringUTF16", "getChars", "(III[B)I"⟩
theorem kc_SU_getChars_0 : (.code y_SU_getChars_0 b_SU_getChars_0 5 (some .int) : Cond) ∈ tp_G := tp_Gm 946 (by decide +kernel) (by decide +kernel)
def w_SU_getChars_0 : List Cond := .code y_SU_getChars_0 b_SU_getChars_0 5 (some .int) :: tp_G
theorem ks_SU_getChars_0 : (.static y_SU_getChars_0 : Cond) ∈ tp_G := tp_Gm 945 (by decide +kernel) (by decide +kernel)
theorem kl_AS_251 : (.methodLink "java/lang/AbstractStringBuilder" 251 y_SU_getChars_0 : Cond) ∈ tp_G := tp_Gm 944 (by decide +kernel) (by decide +kernel)
abbrev b_AS_appendNull : ByteArray := prog_10_method_26_code
abbrev y_AS_appendNull : MethodName := ⟨"java/lang/AbstractStringBuilder", "appendNull", "()Ljava/lang/AbstractStringBuilder;"⟩
theorem kc_AS_appendNull : (.code y_AS_appendNull b_AS_appendNull 3 (some (.object "java/lang/AbstractStringBuilder")) : Cond) ∈ tp_G := tp_Gm 851 (by decide +kernel) (by decide +kernel)
def w_AS_appendNull : List Cond := .code y_AS_appendNull b_AS_appendNull 3 (some (.object "java/lang/AbstractStringBuilder")) :: tp_G
theorem km_AS_appendNull : (.instanceMethod y_AS_appendNull : Cond) ∈ tp_G := tp_Gm 850 (by decide +kernel) (by decide +kernel)
theorem kl_AS_204 : (.methodLink "java/lang/AbstractStringBuilder" 204 y_AS_appendNull : Cond) ∈ tp_G := tp_Gm 848 (by decide +kernel) (by decide +kernel)
theorem kl_AS_32 : (.methodLink "java/lang/AbstractStringBuilder" 32 y_ST_length : Cond) ∈ tp_G := tp_Gm 892 (by decide +kernel) (by decide +kernel)
theorem kl_AS_208 : (.methodLink "java/lang/AbstractStringBuilder" 208 y_AS_putStringAt : Cond) ∈ tp_G := tp_Gm 893 (by decide +kernel) (by decide +kernel)
theorem kl_AS_40 : (.methodLink "java/lang/AbstractStringBuilder" 40 y_ST_coder : Cond) ∈ tp_G := tp_Gm 901 (by decide +kernel) (by decide +kernel)
theorem kl_AS_397 : (.methodLink "java/lang/AbstractStringBuilder" 397 y_AS_inflateIfNeededFor : Cond) ∈ tp_G := tp_Gm 897 (by decide +kernel) (by decide +kernel)
theorem kl_AS_399 : (.methodLink "java/lang/AbstractStringBuilder" 399 y_ST_getBytes : Cond) ∈ tp_G := tp_Gm 921 (by decide +kernel) (by decide +kernel)
theorem kl_IN_83 : (.fieldLink "java/lang/Integer" 83 "java/lang/Integer" "DigitOnes" "[B" : Cond) ∈ tp_G := tp_Gm 940 (by decide +kernel) (by decide +kernel)
theorem kl_IN_87 : (.fieldLink "java/lang/Integer" 87 "java/lang/Integer" "DigitTens" "[B" : Cond) ∈ tp_G := tp_Gm 942 (by decide +kernel) (by decide +kernel)
theorem kl_ST_212 : (.methodLink "java/lang/String" 212 ⟨"java/lang/System", "arraycopy", "(Ljava/lang/Object;ILjava/lang/Object;II)V"⟩ : Cond) ∈ tp_G := tp_Gm 925 (by decide +kernel) (by decide +kernel)
abbrev b_SL_inflate : ByteArray := prog_25_method_50_code
abbrev y_SL_inflate : MethodName := ⟨"java/lang/StringLatin1", "inflate", "([BI[BII)V"⟩
theorem kc_SL_inflate : (.code y_SL_inflate b_SL_inflate 5 none : Cond) ∈ tp_G := tp_Gm 908 (by decide +kernel) (by decide +kernel)
def w_SL_inflate : List Cond := .code y_SL_inflate b_SL_inflate 5 none :: tp_G
theorem ks_SL_inflate : (.static y_SL_inflate : Cond) ∈ tp_G := tp_Gm 907 (by decide +kernel) (by decide +kernel)
theorem kl_ST_106 : (.methodLink "java/lang/String" 106 y_SL_inflate : Cond) ∈ tp_G := tp_Gm 926 (by decide +kernel) (by decide +kernel)
theorem kq_AS_append_1 : (.sameMethod "java/lang/AbstractStringBuilder" "java/lang/AbstractStringBuilder" "append" "(I)Ljava/lang/AbstractStringBuilder;" : Cond) ∈ tp_G := tp_Gm 1571 (by decide +kernel) (by decide +kernel)
theorem kl_SB_53 : (.methodLink "java/lang/StringBuilder" 53 y_AS_append_1 : Cond) ∈ tp_G := tp_Gm 931 (by decide +kernel) (by decide +kernel)
theorem kq_AS_append_2 : (.sameMethod "java/lang/AbstractStringBuilder" "java/lang/AbstractStringBuilder" "append" "(Ljava/lang/String;)Ljava/lang/AbstractStringBuilder;" : Cond) ∈ tp_G := tp_Gm 1564 (by decide +kernel) (by decide +kernel)
theorem kl_SB_29 : (.methodLink "java/lang/StringBuilder" 29 y_AS_append_2 : Cond) ∈ tp_G := tp_Gm 845 (by decide +kernel) (by decide +kernel)
