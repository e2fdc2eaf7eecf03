abbrev b_AS_append_0 : ByteArray := prog_10_method_31_code
abbrev y_AS_append_0 : MethodName := ⟨"java/lang/AbstractStringBuilder", "append", "(C)Ljava/lang/AbstractStringBuilder;"⟩
theorem kc_AS_append_0 : (.code y_AS_append_0 b_AS_append_0 2 (some (.object "java/lang/AbstractStringBuilder")) : Cond) ∈ tp_G := tp_Gm 1092 (by decide +kernel) (by decide +kernel)
def w_AS_append_0 : List Cond := .code y_AS_append_0 b_AS_append_0 2 (some (.object "java/lang/AbstractStringBuilder")) :: tp_G
theorem km_AS_append_0 : (.instanceMethod y_AS_append_0 : Cond) ∈ tp_G := tp_Gm 1091 (by decide +kernel) (by decide +kernel)
theorem d_AS_append_0_0 : decode b_AS_append_0 0 = .ok (.aload_n 0, 1) := by decide +kernel
theorem d_AS_append_0_1 : decode b_AS_append_0 1 = .ok (.aload_n 0, 1) := by decide +kernel
theorem d_AS_append_0_2 : decode b_AS_append_0 2 = .ok (.getfield 79, 3) := by decide +kernel
theorem d_AS_append_0_5 : decode b_AS_append_0 5 = .ok (.iconst 1, 1) := by decide +kernel
theorem d_AS_append_0_6 : decode b_AS_append_0 6 = .ok (.iadd, 1) := by decide +kernel
theorem d_AS_append_0_7 : decode b_AS_append_0 7 = .ok (.invokevirtual 100, 3) := by decide +kernel
theorem d_AS_append_0_10 : decode b_AS_append_0 10 = .ok (.aload_n 0, 1) := by decide +kernel
theorem d_AS_append_0_11 : decode b_AS_append_0 11 = .ok (.invokevirtual 83, 3) := by decide +kernel
theorem d_AS_append_0_14 : decode b_AS_append_0 14 = .ok (.ifCond .eq 31, 3) := by decide +kernel
theorem d_AS_append_0_17 : decode b_AS_append_0 17 = .ok (.iload_n 1, 1) := by decide +kernel
theorem d_AS_append_0_18 : decode b_AS_append_0 18 = .ok (.invokestatic 191, 3) := by decide +kernel
theorem d_AS_append_0_21 : decode b_AS_append_0 21 = .ok (.ifCond .eq 24, 3) := by decide +kernel
theorem d_AS_append_0_24 : decode b_AS_append_0 24 = .ok (.aload_n 0, 1) := by decide +kernel
theorem d_AS_append_0_25 : decode b_AS_append_0 25 = .ok (.getfield 15, 3) := by decide +kernel
theorem d_AS_append_0_28 : decode b_AS_append_0 28 = .ok (.aload_n 0, 1) := by decide +kernel
theorem d_AS_append_0_29 : decode b_AS_append_0 29 = .ok (.dup, 1) := by decide +kernel
theorem d_AS_append_0_30 : decode b_AS_append_0 30 = .ok (.getfield 79, 3) := by decide +kernel
theorem d_AS_append_0_33 : decode b_AS_append_0 33 = .ok (.dup_x1, 1) := by decide +kernel
theorem d_AS_append_0_34 : decode b_AS_append_0 34 = .ok (.iconst 1, 1) := by decide +kernel
theorem d_AS_append_0_35 : decode b_AS_append_0 35 = .ok (.iadd, 1) := by decide +kernel
theorem d_AS_append_0_36 : decode b_AS_append_0 36 = .ok (.putfield 79, 3) := by decide +kernel
theorem d_AS_append_0_39 : decode b_AS_append_0 39 = .ok (.iload_n 1, 1) := by decide +kernel
theorem d_AS_append_0_40 : decode b_AS_append_0 40 = .ok (.i2b, 1) := by decide +kernel
theorem d_AS_append_0_41 : decode b_AS_append_0 41 = .ok (.bastore, 1) := by decide +kernel
theorem d_AS_append_0_42 : decode b_AS_append_0 42 = .ok (.goto 33, 3) := by decide +kernel
theorem d_AS_append_0_45 : decode b_AS_append_0 45 = .ok (.aload_n 0, 1) := by decide +kernel
theorem d_AS_append_0_46 : decode b_AS_append_0 46 = .ok (.invokevirtual 83, 3) := by decide +kernel
theorem d_AS_append_0_49 : decode b_AS_append_0 49 = .ok (.ifCond .eq 7, 3) := by decide +kernel
theorem d_AS_append_0_52 : decode b_AS_append_0 52 = .ok (.aload_n 0, 1) := by decide +kernel
theorem d_AS_append_0_53 : decode b_AS_append_0 53 = .ok (.invokevirtual 195, 3) := by decide +kernel
theorem d_AS_append_0_56 : decode b_AS_append_0 56 = .ok (.aload_n 0, 1) := by decide +kernel
theorem d_AS_append_0_57 : decode b_AS_append_0 57 = .ok (.getfield 15, 3) := by decide +kernel
theorem d_AS_append_0_60 : decode b_AS_append_0 60 = .ok (.aload_n 0, 1) := by decide +kernel
theorem d_AS_append_0_61 : decode b_AS_append_0 61 = .ok (.dup, 1) := by decide +kernel
theorem d_AS_append_0_62 : decode b_AS_append_0 62 = .ok (.getfield 79, 3) := by decide +kernel
theorem d_AS_append_0_65 : decode b_AS_append_0 65 = .ok (.dup_x1, 1) := by decide +kernel
theorem d_AS_append_0_66 : decode b_AS_append_0 66 = .ok (.iconst 1, 1) := by decide +kernel
theorem d_AS_append_0_67 : decode b_AS_append_0 67 = .ok (.iadd, 1) := by decide +kernel
theorem d_AS_append_0_68 : decode b_AS_append_0 68 = .ok (.putfield 79, 3) := by decide +kernel
theorem d_AS_append_0_71 : decode b_AS_append_0 71 = .ok (.iload_n 1, 1) := by decide +kernel
theorem d_AS_append_0_72 : decode b_AS_append_0 72 = .ok (.invokestatic 197, 3) := by decide +kernel
theorem d_AS_append_0_75 : decode b_AS_append_0 75 = .ok (.aload_n 0, 1) := by decide +kernel
theorem d_AS_append_0_76 : decode b_AS_append_0 76 = .ok (.areturn, 1) := by decide +kernel
abbrev b_AS_ensureCapacityInternal : ByteArray := prog_10_method_9_code
abbrev y_AS_ensureCapacityInternal : MethodName := ⟨"java/lang/AbstractStringBuilder", "ensureCapacityInternal", "(I)V"⟩
theorem kc_AS_ensureCapacityInternal : (.code y_AS_ensureCapacityInternal b_AS_ensureCapacityInternal 3 none : Cond) ∈ tp_G := tp_Gm 855 (by decide +kernel) (by decide +kernel)
def w_AS_ensureCapacityInternal : List Cond := .code y_AS_ensureCapacityInternal b_AS_ensureCapacityInternal 3 none :: tp_G
theorem km_AS_ensureCapacityInternal : (.instanceMethod y_AS_ensureCapacityInternal : Cond) ∈ tp_G := tp_Gm 854 (by decide +kernel) (by decide +kernel)
theorem kv_SB_AS_ensureCapacityInternal : (.selects "java/lang/StringBuilder" y_AS_ensureCapacityInternal y_AS_ensureCapacityInternal : Cond) ∈ tp_G := tp_Gm 0 (by decide +kernel) (by decide +kernel)
theorem d_AS_ensureCapacityInternal_0 : decode b_AS_ensureCapacityInternal 0 = .ok (.aload_n 0, 1) := by decide +kernel
theorem d_AS_ensureCapacityInternal_1 : decode b_AS_ensureCapacityInternal 1 = .ok (.getfield 15, 3) := by decide +kernel
theorem d_AS_ensureCapacityInternal_4 : decode b_AS_ensureCapacityInternal 4 = .ok (.arraylength, 1) := by decide +kernel
theorem d_AS_ensureCapacityInternal_5 : decode b_AS_ensureCapacityInternal 5 = .ok (.aload_n 0, 1) := by decide +kernel
theorem d_AS_ensureCapacityInternal_6 : decode b_AS_ensureCapacityInternal 6 = .ok (.getfield 22, 3) := by decide +kernel
theorem d_AS_ensureCapacityInternal_9 : decode b_AS_ensureCapacityInternal 9 = .ok (.ishr, 1) := by decide +kernel
theorem d_AS_ensureCapacityInternal_10 : decode b_AS_ensureCapacityInternal 10 = .ok (.istore_n 2, 1) := by decide +kernel
theorem d_AS_ensureCapacityInternal_11 : decode b_AS_ensureCapacityInternal 11 = .ok (.iload_n 1, 1) := by decide +kernel
theorem d_AS_ensureCapacityInternal_12 : decode b_AS_ensureCapacityInternal 12 = .ok (.iload_n 2, 1) := by decide +kernel
theorem d_AS_ensureCapacityInternal_13 : decode b_AS_ensureCapacityInternal 13 = .ok (.isub, 1) := by decide +kernel
theorem d_AS_ensureCapacityInternal_14 : decode b_AS_ensureCapacityInternal 14 = .ok (.ifCond .le 24, 3) := by decide +kernel
theorem d_AS_ensureCapacityInternal_17 : decode b_AS_ensureCapacityInternal 17 = .ok (.aload_n 0, 1) := by decide +kernel
theorem d_AS_ensureCapacityInternal_18 : decode b_AS_ensureCapacityInternal 18 = .ok (.aload_n 0, 1) := by decide +kernel
theorem d_AS_ensureCapacityInternal_19 : decode b_AS_ensureCapacityInternal 19 = .ok (.getfield 15, 3) := by decide +kernel
theorem d_AS_ensureCapacityInternal_22 : decode b_AS_ensureCapacityInternal 22 = .ok (.aload_n 0, 1) := by decide +kernel
theorem d_AS_ensureCapacityInternal_23 : decode b_AS_ensureCapacityInternal 23 = .ok (.iload_n 1, 1) := by decide +kernel
theorem d_AS_ensureCapacityInternal_24 : decode b_AS_ensureCapacityInternal 24 = .ok (.invokevirtual 104, 3) := by decide +kernel
theorem d_AS_ensureCapacityInternal_27 : decode b_AS_ensureCapacityInternal 27 = .ok (.aload_n 0, 1) := by decide +kernel
theorem d_AS_ensureCapacityInternal_28 : decode b_AS_ensureCapacityInternal 28 = .ok (.getfield 22, 3) := by decide +kernel
theorem d_AS_ensureCapacityInternal_31 : decode b_AS_ensureCapacityInternal 31 = .ok (.ishl, 1) := by decide +kernel
theorem d_AS_ensureCapacityInternal_32 : decode b_AS_ensureCapacityInternal 32 = .ok (.invokestatic 108, 3) := by decide +kernel
theorem d_AS_ensureCapacityInternal_35 : decode b_AS_ensureCapacityInternal 35 = .ok (.putfield 15, 3) := by decide +kernel
theorem d_AS_ensureCapacityInternal_38 : decode b_AS_ensureCapacityInternal 38 = .ok (.return_, 1) := by decide +kernel
theorem d_AS_isLatin1_0 : decode b_AS_isLatin1 0 = .ok (.getstatic 18, 3) := by decide +kernel
theorem d_AS_isLatin1_3 : decode b_AS_isLatin1 3 = .ok (.ifCond .eq 14, 3) := by decide +kernel
theorem d_AS_isLatin1_6 : decode b_AS_isLatin1 6 = .ok (.aload_n 0, 1) := by decide +kernel
theorem d_AS_isLatin1_7 : decode b_AS_isLatin1 7 = .ok (.getfield 22, 3) := by decide +kernel
theorem d_AS_isLatin1_10 : decode b_AS_isLatin1 10 = .ok (.ifCond .ne 7, 3) := by decide +kernel
theorem d_AS_isLatin1_13 : decode b_AS_isLatin1 13 = .ok (.iconst 1, 1) := by decide +kernel
theorem d_AS_isLatin1_14 : decode b_AS_isLatin1 14 = .ok (.goto 4, 3) := by decide +kernel
theorem d_AS_isLatin1_17 : decode b_AS_isLatin1 17 = .ok (.iconst 0, 1) := by decide +kernel
theorem d_AS_isLatin1_18 : decode b_AS_isLatin1 18 = .ok (.ireturn, 1) := by decide +kernel
abbrev b_AS_newCapacity : ByteArray := prog_10_method_10_code
abbrev y_AS_newCapacity : MethodName := ⟨"java/lang/AbstractStringBuilder", "newCapacity", "(I)I"⟩
theorem kc_AS_newCapacity : (.code y_AS_newCapacity b_AS_newCapacity 6 (some .int) : Cond) ∈ tp_G := tp_Gm 859 (by decide +kernel) (by decide +kernel)
def w_AS_newCapacity : List Cond := .code y_AS_newCapacity b_AS_newCapacity 6 (some .int) :: tp_G
theorem km_AS_newCapacity : (.instanceMethod y_AS_newCapacity : Cond) ∈ tp_G := tp_Gm 858 (by decide +kernel) (by decide +kernel)
theorem kv_SB_AS_newCapacity : (.selects "java/lang/StringBuilder" y_AS_newCapacity y_AS_newCapacity : Cond) ∈ tp_G := tp_Gm 1 (by decide +kernel) (by decide +kernel)
theorem d_AS_newCapacity_0 : decode b_AS_newCapacity 0 = .ok (.aload_n 0, 1) := by decide +kernel
theorem d_AS_newCapacity_1 : decode b_AS_newCapacity 1 = .ok (.getfield 15, 3) := by decide +kernel
theorem d_AS_newCapacity_4 : decode b_AS_newCapacity 4 = .ok (.arraylength, 1) := by decide +kernel
theorem d_AS_newCapacity_5 : decode b_AS_newCapacity 5 = .ok (.istore_n 2, 1) := by decide +kernel
theorem d_AS_newCapacity_6 : decode b_AS_newCapacity 6 = .ok (.iload_n 1, 1) := by decide +kernel
theorem d_AS_newCapacity_7 : decode b_AS_newCapacity 7 = .ok (.aload_n 0, 1) := by decide +kernel
theorem d_AS_newCapacity_8 : decode b_AS_newCapacity 8 = .ok (.getfield 22, 3) := by decide +kernel
theorem d_AS_newCapacity_11 : decode b_AS_newCapacity 11 = .ok (.ishl, 1) := by decide +kernel
theorem d_AS_newCapacity_12 : decode b_AS_newCapacity 12 = .ok (.istore_n 3, 1) := by decide +kernel
theorem d_AS_newCapacity_13 : decode b_AS_newCapacity 13 = .ok (.iload_n 3, 1) := by decide +kernel
theorem d_AS_newCapacity_14 : decode b_AS_newCapacity 14 = .ok (.iload_n 2, 1) := by decide +kernel
theorem d_AS_newCapacity_15 : decode b_AS_newCapacity 15 = .ok (.isub, 1) := by decide +kernel
theorem d_AS_newCapacity_16 : decode b_AS_newCapacity 16 = .ok (.istore 4, 2) := by decide +kernel
theorem d_AS_newCapacity_18 : decode b_AS_newCapacity 18 = .ok (.iload_n 2, 1) := by decide +kernel
theorem d_AS_newCapacity_19 : decode b_AS_newCapacity 19 = .ok (.iload 4, 2) := by decide +kernel
theorem d_AS_newCapacity_21 : decode b_AS_newCapacity 21 = .ok (.iload_n 2, 1) := by decide +kernel
theorem d_AS_newCapacity_22 : decode b_AS_newCapacity 22 = .ok (.iconst 2, 1) := by decide +kernel
theorem d_AS_newCapacity_23 : decode b_AS_newCapacity 23 = .ok (.aload_n 0, 1) := by decide +kernel
theorem d_AS_newCapacity_24 : decode b_AS_newCapacity 24 = .ok (.getfield 22, 3) := by decide +kernel
theorem d_AS_newCapacity_27 : decode b_AS_newCapacity 27 = .ok (.ishl, 1) := by decide +kernel
theorem d_AS_newCapacity_28 : decode b_AS_newCapacity 28 = .ok (.iadd, 1) := by decide +kernel
theorem d_AS_newCapacity_29 : decode b_AS_newCapacity 29 = .ok (.invokestatic 114, 3) := by decide +kernel
theorem d_AS_newCapacity_32 : decode b_AS_newCapacity 32 = .ok (.istore 5, 2) := by decide +kernel
theorem d_AS_newCapacity_34 : decode b_AS_newCapacity 34 = .ok (.iload 5, 2) := by decide +kernel
theorem d_AS_newCapacity_36 : decode b_AS_newCapacity 36 = .ok (.ldc 39, 2) := by decide +kernel
theorem d_AS_newCapacity_38 : decode b_AS_newCapacity 38 = .ok (.if_icmp .ne 13, 3) := by decide +kernel
theorem d_AS_newCapacity_41 : decode b_AS_newCapacity 41 = .ok (.new 120, 3) := by decide +kernel
theorem d_AS_newCapacity_44 : decode b_AS_newCapacity 44 = .ok (.dup, 1) := by decide +kernel
theorem d_AS_newCapacity_45 : decode b_AS_newCapacity 45 = .ok (.ldc 122, 2) := by decide +kernel
theorem d_AS_newCapacity_47 : decode b_AS_newCapacity 47 = .ok (.invokespecial 124, 3) := by decide +kernel
theorem d_AS_newCapacity_50 : decode b_AS_newCapacity 50 = .ok (.athrow, 1) := by decide +kernel
theorem d_AS_newCapacity_51 : decode b_AS_newCapacity 51 = .ok (.iload 5, 2) := by decide +kernel
theorem d_AS_newCapacity_53 : decode b_AS_newCapacity 53 = .ok (.aload_n 0, 1) := by decide +kernel
theorem d_AS_newCapacity_54 : decode b_AS_newCapacity 54 = .ok (.getfield 22, 3) := by decide +kernel
theorem d_AS_newCapacity_57 : decode b_AS_newCapacity 57 = .ok (.ishr, 1) := by decide +kernel
theorem d_AS_newCapacity_58 : decode b_AS_newCapacity 58 = .ok (.ireturn, 1) := by decide +kernel
theorem d_ST_charAt_0 : decode b_ST_charAt 0 = .ok (.aload_n 0, 1) := by decide +kernel
theorem d_ST_charAt_1 : decode b_ST_charAt 1 = .ok (.invokevirtual 492, 3) := by decide +kernel
theorem d_ST_charAt_4 : decode b_ST_charAt 4 = .ok (.ifCond .eq 12, 3) := by decide +kernel
theorem d_ST_charAt_7 : decode b_ST_charAt 7 = .ok (.aload_n 0, 1) := by decide +kernel
theorem d_ST_charAt_8 : decode b_ST_charAt 8 = .ok (.getfield 9, 3) := by decide +kernel
theorem d_ST_charAt_11 : decode b_ST_charAt 11 = .ok (.iload_n 1, 1) := by decide +kernel
theorem d_ST_charAt_12 : decode b_ST_charAt 12 = .ok (.invokestatic 495, 3) := by decide +kernel
theorem d_ST_charAt_15 : decode b_ST_charAt 15 = .ok (.ireturn, 1) := by decide +kernel
theorem d_ST_charAt_16 : decode b_ST_charAt 16 = .ok (.aload_n 0, 1) := by decide +kernel
theorem d_ST_charAt_17 : decode b_ST_charAt 17 = .ok (.getfield 9, 3) := by decide +kernel
theorem d_ST_charAt_20 : decode b_ST_charAt 20 = .ok (.iload_n 1, 1) := by decide +kernel
theorem d_ST_charAt_21 : decode b_ST_charAt 21 = .ok (.invokestatic 498, 3) := by decide +kernel
theorem d_ST_charAt_24 : decode b_ST_charAt 24 = .ok (.ireturn, 1) := by decide +kernel
abbrev b_ST_checkIndex : ByteArray := prog_22_method_155_code
abbrev y_ST_checkIndex : MethodName := ⟨"java/lang/String", "checkIndex", "(II)V"⟩
theorem kc_ST_checkIndex : (.code y_ST_checkIndex b_ST_checkIndex 2 none : Cond) ∈ tp_G := tp_Gm 450 (by decide +kernel) (by decide +kernel)
def w_ST_checkIndex : List Cond := .code y_ST_checkIndex b_ST_checkIndex 2 none :: tp_G
theorem ks_ST_checkIndex : (.static y_ST_checkIndex : Cond) ∈ tp_G := tp_Gm 449 (by decide +kernel) (by decide +kernel)
theorem d_ST_checkIndex_0 : decode b_ST_checkIndex 0 = .ok (.iload_n 0, 1) := by decide +kernel
theorem d_ST_checkIndex_1 : decode b_ST_checkIndex 1 = .ok (.iload_n 1, 1) := by decide +kernel
theorem d_ST_checkIndex_2 : decode b_ST_checkIndex 2 = .ok (.getstatic 1053, 3) := by decide +kernel
theorem d_ST_checkIndex_5 : decode b_ST_checkIndex 5 = .ok (.invokestatic 1059, 3) := by decide +kernel
theorem d_ST_checkIndex_8 : decode b_ST_checkIndex 8 = .ok (.pop, 1) := by decide +kernel
theorem d_ST_checkIndex_9 : decode b_ST_checkIndex 9 = .ok (.return_, 1) := by decide +kernel
abbrev b_ST_isLatin1 : ByteArray := prog_22_method_154_code
abbrev y_ST_isLatin1 : MethodName := ⟨"java/lang/String", "isLatin1", "()Z"⟩
theorem kc_ST_isLatin1 : (.code y_ST_isLatin1 b_ST_isLatin1 1 (some .boolean) : Cond) ∈ tp_G := tp_Gm 444 (by decide +kernel) (by decide +kernel)
def w_ST_isLatin1 : List Cond := .code y_ST_isLatin1 b_ST_isLatin1 1 (some .boolean) :: tp_G
theorem km_ST_isLatin1 : (.instanceMethod y_ST_isLatin1 : Cond) ∈ tp_G := tp_Gm 442 (by decide +kernel) (by decide +kernel)
theorem kv_ST_ST_isLatin1 : (.selects "java/lang/String" y_ST_isLatin1 y_ST_isLatin1 : Cond) ∈ tp_G := tp_Gm 443 (by decide +kernel) (by decide +kernel)
theorem d_ST_isLatin1_0 : decode b_ST_isLatin1 0 = .ok (.getstatic 38, 3) := by decide +kernel
theorem d_ST_isLatin1_3 : decode b_ST_isLatin1 3 = .ok (.ifCond .eq 14, 3) := by decide +kernel
theorem d_ST_isLatin1_6 : decode b_ST_isLatin1 6 = .ok (.aload_n 0, 1) := by decide +kernel
theorem d_ST_isLatin1_7 : decode b_ST_isLatin1 7 = .ok (.getfield 15, 3) := by decide +kernel
theorem d_ST_isLatin1_10 : decode b_ST_isLatin1 10 = .ok (.ifCond .ne 7, 3) := by decide +kernel
theorem d_ST_isLatin1_13 : decode b_ST_isLatin1 13 = .ok (.iconst 1, 1) := by decide +kernel
theorem d_ST_isLatin1_14 : decode b_ST_isLatin1 14 = .ok (.goto 4, 3) := by decide +kernel
theorem d_ST_isLatin1_17 : decode b_ST_isLatin1 17 = .ok (.iconst 0, 1) := by decide +kernel
theorem d_ST_isLatin1_18 : decode b_ST_isLatin1 18 = .ok (.ireturn, 1) := by decide +kernel
abbrev b_SB_append_0 : ByteArray := prog_23_method_14_code
abbrev y_SB_append_0 : MethodName := ⟨"java/lang/StringBuilder", "append", "(C)Ljava/lang/StringBuilder;"⟩
theorem kc_SB_append_0 : (.code y_SB_append_0 b_SB_append_0 2 (some (.object "java/lang/StringBuilder")) : Cond) ∈ tp_G := tp_Gm 1089 (by decide +kernel) (by decide +kernel)
def w_SB_append_0 : List Cond := .code y_SB_append_0 b_SB_append_0 2 (some (.object "java/lang/StringBuilder")) :: tp_G
theorem km_SB_append_0 : (.instanceMethod y_SB_append_0 : Cond) ∈ tp_G := tp_Gm 1087 (by decide +kernel) (by decide +kernel)
theorem kv_SB_SB_append_0 : (.selects "java/lang/StringBuilder" y_SB_append_0 y_SB_append_0 : Cond) ∈ tp_G := tp_Gm 1088 (by decide +kernel) (by decide +kernel)
theorem d_SB_append_0_0 : decode b_SB_append_0 0 = .ok (.aload_n 0, 1) := by decide +kernel
theorem d_SB_append_0_1 : decode b_SB_append_0 1 = .ok (.iload_n 1, 1) := by decide +kernel
theorem d_SB_append_0_2 : decode b_SB_append_0 2 = .ok (.invokespecial 50, 3) := by decide +kernel
theorem d_SB_append_0_5 : decode b_SB_append_0 5 = .ok (.pop, 1) := by decide +kernel
theorem d_SB_append_0_6 : decode b_SB_append_0 6 = .ok (.aload_n 0, 1) := by decide +kernel
theorem d_SB_append_0_7 : decode b_SB_append_0 7 = .ok (.areturn, 1) := by decide +kernel
abbrev b_SL_canEncode : ByteArray := prog_25_method_3_code
abbrev y_SL_canEncode : MethodName := ⟨"java/lang/StringLatin1", "canEncode", "(C)Z"⟩
theorem kc_SL_canEncode : (.code y_SL_canEncode b_SL_canEncode 1 (some .boolean) : Cond) ∈ tp_G := tp_Gm 1095 (by decide +kernel) (by decide +kernel)
def w_SL_canEncode : List Cond := .code y_SL_canEncode b_SL_canEncode 1 (some .boolean) :: tp_G
theorem ks_SL_canEncode : (.static y_SL_canEncode : Cond) ∈ tp_G := tp_Gm 1094 (by decide +kernel) (by decide +kernel)
theorem d_SL_canEncode_0 : decode b_SL_canEncode 0 = .ok (.iload_n 0, 1) := by decide +kernel
theorem d_SL_canEncode_1 : decode b_SL_canEncode 1 = .ok (.sipush 255, 3) := by decide +kernel
theorem d_SL_canEncode_4 : decode b_SL_canEncode 4 = .ok (.if_icmp .gt 7, 3) := by decide +kernel
theorem d_SL_canEncode_7 : decode b_SL_canEncode 7 = .ok (.iconst 1, 1) := by decide +kernel
theorem d_SL_canEncode_8 : decode b_SL_canEncode 8 = .ok (.goto 4, 3) := by decide +kernel
theorem d_SL_canEncode_11 : decode b_SL_canEncode 11 = .ok (.iconst 0, 1) := by decide +kernel
theorem d_SL_canEncode_12 : decode b_SL_canEncode 12 = .ok (.ireturn, 1) := by decide +kernel
abbrev b_SL_charAt : ByteArray := prog_25_method_2_code
abbrev y_SL_charAt : MethodName := ⟨"java/lang/StringLatin1", "charAt", "([BI)C"⟩
theorem kc_SL_charAt : (.code y_SL_charAt b_SL_charAt 2 (some .char) : Cond) ∈ tp_G := tp_Gm 447 (by decide +kernel) (by decide +kernel)
def w_SL_charAt : List Cond := .code y_SL_charAt b_SL_charAt 2 (some .char) :: tp_G
theorem ks_SL_charAt : (.static y_SL_charAt : Cond) ∈ tp_G := tp_Gm 446 (by decide +kernel) (by decide +kernel)
theorem d_SL_charAt_0 : decode b_SL_charAt 0 = .ok (.iload_n 1, 1) := by decide +kernel
theorem d_SL_charAt_1 : decode b_SL_charAt 1 = .ok (.aload_n 0, 1) := by decide +kernel
theorem d_SL_charAt_2 : decode b_SL_charAt 2 = .ok (.arraylength, 1) := by decide +kernel
theorem d_SL_charAt_3 : decode b_SL_charAt 3 = .ok (.invokestatic 9, 3) := by decide +kernel
theorem d_SL_charAt_6 : decode b_SL_charAt 6 = .ok (.aload_n 0, 1) := by decide +kernel
theorem d_SL_charAt_7 : decode b_SL_charAt 7 = .ok (.iload_n 1, 1) := by decide +kernel
theorem d_SL_charAt_8 : decode b_SL_charAt 8 = .ok (.baload, 1) := by decide +kernel
theorem d_SL_charAt_9 : decode b_SL_charAt 9 = .ok (.sipush 255, 3) := by decide +kernel
theorem d_SL_charAt_12 : decode b_SL_charAt 12 = .ok (.iand, 1) := by decide +kernel
theorem d_SL_charAt_13 : decode b_SL_charAt 13 = .ok (.i2c, 1) := by decide +kernel
theorem d_SL_charAt_14 : decode b_SL_charAt 14 = .ok (.ireturn, 1) := by decide +kernel
abbrev b_AR_copyOf_0 : ByteArray := prog_33_method_121_code
abbrev y_AR_copyOf_0 : MethodName := ⟨"java/util/Arrays", "copyOf", "([BI)[B"⟩
theorem kc_AR_copyOf_0 : (.code y_AR_copyOf_0 b_AR_copyOf_0 3 (some (.array .byte)) : Cond) ∈ tp_G := tp_Gm 864 (by decide +kernel) (by decide +kernel)
def w_AR_copyOf_0 : List Cond := .code y_AR_copyOf_0 b_AR_copyOf_0 3 (some (.array .byte)) :: tp_G
theorem ks_AR_copyOf_0 : (.static y_AR_copyOf_0 : Cond) ∈ tp_G := tp_Gm 863 (by decide +kernel) (by decide +kernel)
theorem d_AR_copyOf_0_0 : decode b_AR_copyOf_0 0 = .ok (.iload_n 1, 1) := by decide +kernel
theorem d_AR_copyOf_0_1 : decode b_AR_copyOf_0 1 = .ok (.aload_n 0, 1) := by decide +kernel
theorem d_AR_copyOf_0_2 : decode b_AR_copyOf_0 2 = .ok (.arraylength, 1) := by decide +kernel
theorem d_AR_copyOf_0_3 : decode b_AR_copyOf_0 3 = .ok (.if_icmp .ne 11, 3) := by decide +kernel
theorem d_AR_copyOf_0_6 : decode b_AR_copyOf_0 6 = .ok (.aload_n 0, 1) := by decide +kernel
theorem d_AR_copyOf_0_7 : decode b_AR_copyOf_0 7 = .ok (.invokevirtual 310, 3) := by decide +kernel
theorem d_AR_copyOf_0_10 : decode b_AR_copyOf_0 10 = .ok (.checkcast 311, 3) := by decide +kernel
theorem d_AR_copyOf_0_13 : decode b_AR_copyOf_0 13 = .ok (.areturn, 1) := by decide +kernel
theorem d_AR_copyOf_0_14 : decode b_AR_copyOf_0 14 = .ok (.iload_n 1, 1) := by decide +kernel
theorem d_AR_copyOf_0_15 : decode b_AR_copyOf_0 15 = .ok (.newarray .byte, 2) := by decide +kernel
theorem d_AR_copyOf_0_17 : decode b_AR_copyOf_0 17 = .ok (.astore_n 2, 1) := by decide +kernel
theorem d_AR_copyOf_0_18 : decode b_AR_copyOf_0 18 = .ok (.aload_n 0, 1) := by decide +kernel
theorem d_AR_copyOf_0_19 : decode b_AR_copyOf_0 19 = .ok (.iconst 0, 1) := by decide +kernel
theorem d_AR_copyOf_0_20 : decode b_AR_copyOf_0 20 = .ok (.aload_n 2, 1) := by decide +kernel
theorem d_AR_copyOf_0_21 : decode b_AR_copyOf_0 21 = .ok (.iconst 0, 1) := by decide +kernel
theorem d_AR_copyOf_0_22 : decode b_AR_copyOf_0 22 = .ok (.aload_n 0, 1) := by decide +kernel
theorem d_AR_copyOf_0_23 : decode b_AR_copyOf_0 23 = .ok (.arraylength, 1) := by decide +kernel
theorem d_AR_copyOf_0_24 : decode b_AR_copyOf_0 24 = .ok (.iload_n 1, 1) := by decide +kernel
theorem d_AR_copyOf_0_25 : decode b_AR_copyOf_0 25 = .ok (.invokestatic 304, 3) := by decide +kernel
theorem d_AR_copyOf_0_28 : decode b_AR_copyOf_0 28 = .ok (.invokestatic 150, 3) := by decide +kernel
theorem d_AR_copyOf_0_31 : decode b_AR_copyOf_0 31 = .ok (.aload_n 2, 1) := by decide +kernel
theorem d_AR_copyOf_0_32 : decode b_AR_copyOf_0 32 = .ok (.areturn, 1) := by decide +kernel
theorem d_AU_newLength_0 : decode b_AU_newLength 0 = .ok (.iload_n 0, 1) := by decide +kernel
theorem d_AU_newLength_1 : decode b_AU_newLength 1 = .ok (.iload_n 1, 1) := by decide +kernel
theorem d_AU_newLength_2 : decode b_AU_newLength 2 = .ok (.iload_n 2, 1) := by decide +kernel
theorem d_AU_newLength_3 : decode b_AU_newLength 3 = .ok (.invokestatic 194, 3) := by decide +kernel
theorem d_AU_newLength_6 : decode b_AU_newLength 6 = .ok (.iadd, 1) := by decide +kernel
theorem d_AU_newLength_7 : decode b_AU_newLength 7 = .ok (.istore_n 3, 1) := by decide +kernel
theorem d_AU_newLength_8 : decode b_AU_newLength 8 = .ok (.iconst 0, 1) := by decide +kernel
theorem d_AU_newLength_9 : decode b_AU_newLength 9 = .ok (.iload_n 3, 1) := by decide +kernel
theorem d_AU_newLength_10 : decode b_AU_newLength 10 = .ok (.if_icmp .ge 11, 3) := by decide +kernel
theorem d_AU_newLength_13 : decode b_AU_newLength 13 = .ok (.iload_n 3, 1) := by decide +kernel
theorem d_AU_newLength_14 : decode b_AU_newLength 14 = .ok (.ldc 200, 2) := by decide +kernel
theorem d_AU_newLength_16 : decode b_AU_newLength 16 = .ok (.if_icmp .gt 5, 3) := by decide +kernel
theorem d_AU_newLength_19 : decode b_AU_newLength 19 = .ok (.iload_n 3, 1) := by decide +kernel
theorem d_AU_newLength_20 : decode b_AU_newLength 20 = .ok (.ireturn, 1) := by decide +kernel
theorem d_AU_newLength_21 : decode b_AU_newLength 21 = .ok (.iload_n 0, 1) := by decide +kernel
theorem d_AU_newLength_22 : decode b_AU_newLength 22 = .ok (.iload_n 1, 1) := by decide +kernel
theorem d_AU_newLength_23 : decode b_AU_newLength 23 = .ok (.invokestatic 201, 3) := by decide +kernel
theorem d_AU_newLength_26 : decode b_AU_newLength 26 = .ok (.ireturn, 1) := by decide +kernel
abbrev b_PR_checkIndex : ByteArray := prog_41_method_11_code
abbrev y_PR_checkIndex : MethodName := ⟨"jdk/internal/util/Preconditions", "checkIndex", "(IILjava/util/function/BiFunction;)I"⟩
theorem kc_PR_checkIndex : (.code y_PR_checkIndex b_PR_checkIndex 3 (some .int) : Cond) ∈ tp_G := tp_Gm 455 (by decide +kernel) (by decide +kernel)
def w_PR_checkIndex : List Cond := .code y_PR_checkIndex b_PR_checkIndex 3 (some .int) :: tp_G
theorem ks_PR_checkIndex : (.static y_PR_checkIndex : Cond) ∈ tp_G := tp_Gm 454 (by decide +kernel) (by decide +kernel)
theorem d_PR_checkIndex_0 : decode b_PR_checkIndex 0 = .ok (.iload_n 0, 1) := by decide +kernel
theorem d_PR_checkIndex_1 : decode b_PR_checkIndex 1 = .ok (.ifCond .lt 8, 3) := by decide +kernel
theorem d_PR_checkIndex_4 : decode b_PR_checkIndex 4 = .ok (.iload_n 0, 1) := by decide +kernel
theorem d_PR_checkIndex_5 : decode b_PR_checkIndex 5 = .ok (.iload_n 1, 1) := by decide +kernel
theorem d_PR_checkIndex_6 : decode b_PR_checkIndex 6 = .ok (.if_icmp .lt 10, 3) := by decide +kernel
theorem d_PR_checkIndex_9 : decode b_PR_checkIndex 9 = .ok (.aload_n 2, 1) := by decide +kernel
theorem d_PR_checkIndex_10 : decode b_PR_checkIndex 10 = .ok (.iload_n 0, 1) := by decide +kernel
theorem d_PR_checkIndex_11 : decode b_PR_checkIndex 11 = .ok (.iload_n 1, 1) := by decide +kernel
theorem d_PR_checkIndex_12 : decode b_PR_checkIndex 12 = .ok (.invokestatic 95, 3) := by decide +kernel
theorem d_PR_checkIndex_15 : decode b_PR_checkIndex 15 = .ok (.athrow, 1) := by decide +kernel
theorem d_PR_checkIndex_16 : decode b_PR_checkIndex 16 = .ok (.iload_n 0, 1) := by decide +kernel
theorem d_PR_checkIndex_17 : decode b_PR_checkIndex 17 = .ok (.ireturn, 1) := by decide +kernel
theorem kl_AS_100 : (.methodLink "java/lang/AbstractStringBuilder" 100 y_AS_ensureCapacityInternal : Cond) ∈ tp_G := tp_Gm 852 (by decide +kernel) (by decide +kernel)
theorem kl_AS_83 : (.methodLink "java/lang/AbstractStringBuilder" 83 y_AS_isLatin1 : Cond) ∈ tp_G := tp_Gm 872 (by decide +kernel) (by decide +kernel)
theorem kl_AS_191 : (.methodLink "java/lang/AbstractStringBuilder" 191 y_SL_canEncode : Cond) ∈ tp_G := tp_Gm 1093 (by decide +kernel) (by decide +kernel)
abbrev b_AS_inflate : ByteArray := prog_10_method_11_code
abbrev y_AS_inflate : MethodName := ⟨"java/lang/AbstractStringBuilder", "inflate", "()V"⟩
theorem kc_AS_inflate : (.code y_AS_inflate b_AS_inflate 2 none : Cond) ∈ tp_G := tp_Gm 905 (by decide +kernel) (by decide +kernel)
def w_AS_inflate : List Cond := .code y_AS_inflate b_AS_inflate 2 none :: tp_G
theorem km_AS_inflate : (.instanceMethod y_AS_inflate : Cond) ∈ tp_G := tp_Gm 904 (by decide +kernel) (by decide +kernel)
theorem kl_AS_195 : (.methodLink "java/lang/AbstractStringBuilder" 195 y_AS_inflate : Cond) ∈ tp_G := tp_Gm 902 (by decide +kernel) (by decide +kernel)
abbrev b_SU_putCharSB : ByteArray := prog_26_method_71_code
abbrev y_SU_putCharSB : MethodName := ⟨"java/lang/StringUTF16", "putCharSB", "([BII)V"⟩
theorem kc_SU_putCharSB : (.code y_SU_putCharSB b_SU_putCharSB 3 none : Cond) ∈ tp_G := tp_Gm 1098 (by decide +kernel) (by decide +kernel)
def w_SU_putCharSB : List Cond := .code y_SU_putCharSB b_SU_putCharSB 3 none :: tp_G
theorem ks_SU_putCharSB : (.static y_SU_putCharSB : Cond) ∈ tp_G := tp_Gm 1097 (by decide +kernel) (by decide +kernel)
theorem kl_AS_197 : (.methodLink "java/lang/AbstractStringBuilder" 197 y_SU_putCharSB : Cond) ∈ tp_G := tp_Gm 1096 (by decide +kernel) (by decide +kernel)
theorem kl_AS_104 : (.methodLink "java/lang/AbstractStringBuilder" 104 y_AS_newCapacity : Cond) ∈ tp_G := tp_Gm 856 (by decide +kernel) (by decide +kernel)
theorem kl_AS_108 : (.methodLink "java/lang/AbstractStringBuilder" 108 y_AR_copyOf_0 : Cond) ∈ tp_G := tp_Gm 862 (by decide +kernel) (by decide +kernel)
theorem kl_AS_114 : (.methodLink "java/lang/AbstractStringBuilder" 114 y_AU_newLength : Cond) ∈ tp_G := tp_Gm 860 (by decide +kernel) (by decide +kernel)
theorem kl_AS_39 : (.constant "java/lang/AbstractStringBuilder" 39 2147483647 : Cond) ∈ tp_G := tp_Gm 861 (by decide +kernel) (by decide +kernel)
theorem kl_ST_492 : (.methodLink "java/lang/String" 492 y_ST_isLatin1 : Cond) ∈ tp_G := tp_Gm 441 (by decide +kernel) (by decide +kernel)
theorem kl_ST_495 : (.methodLink "java/lang/String" 495 y_SL_charAt : Cond) ∈ tp_G := tp_Gm 445 (by decide +kernel) (by decide +kernel)
abbrev b_SU_charAt : ByteArray := prog_26_method_83_code
abbrev y_SU_charAt : MethodName := ⟨"java/lang/StringUTF16", "charAt", "([BI)C"⟩
theorem kc_SU_charAt : (.code y_SU_charAt b_SU_charAt 2 (some .char) : Cond) ∈ tp_G := tp_Gm 458 (by decide +kernel) (by decide +kernel)
def w_SU_charAt : List Cond := .code y_SU_charAt b_SU_charAt 2 (some .char) :: tp_G
theorem ks_SU_charAt : (.static y_SU_charAt : Cond) ∈ tp_G := tp_Gm 457 (by decide +kernel) (by decide +kernel)
theorem kl_ST_498 : (.methodLink "java/lang/String" 498 y_SU_charAt : Cond) ∈ tp_G := tp_Gm 456 (by decide +kernel) (by decide +kernel)
theorem kl_ST_1053 : (.fieldLink "java/lang/String" 1053 "jdk/internal/util/Preconditions" "SIOOBE_FORMATTER" "Ljava/util/function/BiFunction;" : Cond) ∈ tp_G := tp_Gm 451 (by decide +kernel) (by decide +kernel)
theorem kl_ST_1059 : (.methodLink "java/lang/String" 1059 y_PR_checkIndex : Cond) ∈ tp_G := tp_Gm 453 (by decide +kernel) (by decide +kernel)
theorem kq_AS_append_0 : (.sameMethod "java/lang/AbstractStringBuilder" "java/lang/AbstractStringBuilder" "append" "(C)Ljava/lang/AbstractStringBuilder;" : Cond) ∈ tp_G := tp_Gm 1572 (by decide +kernel) (by decide +kernel)
theorem kl_SB_50 : (.methodLink "java/lang/StringBuilder" 50 y_AS_append_0 : Cond) ∈ tp_G := tp_Gm 1090 (by decide +kernel) (by decide +kernel)
theorem kl_SL_9 : (.methodLink "java/lang/StringLatin1" 9 y_ST_checkIndex : Cond) ∈ tp_G := tp_Gm 448 (by decide +kernel) (by decide +kernel)
theorem kl_AR_310 : (.methodLink "java/util/Arrays" 310 ⟨"[B", "clone", "()Ljava/lang/Object;"⟩ : Cond) ∈ tp_G := tp_Gm 865 (by decide +kernel) (by decide +kernel)
theorem kl_AR_311 : (.classLink "java/util/Arrays" 311 "[B" : Cond) ∈ tp_G := tp_Gm 871 (by decide +kernel) (by decide +kernel)
abbrev b_MA_min : ByteArray := prog_20_method_69_code
abbrev y_MA_min : MethodName := ⟨"java/lang/Math", "min", "(II)I"⟩
theorem kc_MA_min : (.code y_MA_min b_MA_min 2 (some .int) : Cond) ∈ tp_G := tp_Gm 611 (by decide +kernel) (by decide +kernel)
def w_MA_min : List Cond := .code y_MA_min b_MA_min 2 (some .int) :: tp_G
theorem ks_MA_min : (.static y_MA_min : Cond) ∈ tp_G := tp_Gm 610 (by decide +kernel) (by decide +kernel)
theorem kl_AR_304 : (.methodLink "java/util/Arrays" 304 y_MA_min : Cond) ∈ tp_G := tp_Gm 609 (by decide +kernel) (by decide +kernel)
theorem kl_AR_150 : (.methodLink "java/util/Arrays" 150 ⟨"java/lang/System", "arraycopy", "(Ljava/lang/Object;ILjava/lang/Object;II)V"⟩ : Cond) ∈ tp_G := tp_Gm 612 (by decide +kernel) (by decide +kernel)
theorem kl_AU_194 : (.methodLink "jdk/internal/util/ArraysSupport" 194 y_MA_max : Cond) ∈ tp_G := tp_Gm 573 (by decide +kernel) (by decide +kernel)
theorem kl_AU_200 : (.constant "jdk/internal/util/ArraysSupport" 200 2147483639 : Cond) ∈ tp_G := tp_Gm 576 (by decide +kernel) (by decide +kernel)
abbrev b_AU_hugeLength : ByteArray := prog_40_method_28_code
abbrev y_AU_hugeLength : MethodName := ⟨"jdk/internal/util/ArraysSupport", "hugeLength", "(II)I"⟩
theorem kc_AU_hugeLength : (.code y_AU_hugeLength b_AU_hugeLength 3 (some .int) : Cond) ∈ tp_G := tp_Gm 579 (by decide +kernel) (by decide +kernel)
def w_AU_hugeLength : List Cond := .code y_AU_hugeLength b_AU_hugeLength 3 (some .int) :: tp_G
theorem ks_AU_hugeLength : (.static y_AU_hugeLength : Cond) ∈ tp_G := tp_Gm 578 (by decide +kernel) (by decide +kernel)
theorem kl_AU_201 : (.methodLink "jdk/internal/util/ArraysSupport" 201 y_AU_hugeLength : Cond) ∈ tp_G := tp_Gm 577 (by decide +kernel) (by decide +kernel)
