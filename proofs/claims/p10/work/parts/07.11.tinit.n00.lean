abbrev b_T_init : ByteArray := prog_1_method_1_code
abbrev y_T_init : MethodName := ⟨"TwoPass", "<init>", "()V"⟩
theorem kc_T_init : (.code y_T_init b_T_init 1 none : Cond) ∈ tp_G := tp_Gm 103 (by decide +kernel) (by decide +kernel)
def w_T_init : List Cond := .code y_T_init b_T_init 1 none :: tp_G
theorem km_T_init : (.instanceMethod y_T_init : Cond) ∈ tp_G := tp_Gm 102 (by decide +kernel) (by decide +kernel)
theorem d_T_init_0 : decode b_T_init 0 = .ok (.aload_n 0, 1) := by decide +kernel
theorem d_T_init_1 : decode b_T_init 1 = .ok (.invokespecial 1, 3) := by decide +kernel
theorem d_T_init_4 : decode b_T_init 4 = .ok (.aload_n 0, 1) := by decide +kernel
theorem d_T_init_5 : decode b_T_init 5 = .ok (.new 7, 3) := by decide +kernel
theorem d_T_init_8 : decode b_T_init 8 = .ok (.dup, 1) := by decide +kernel
theorem d_T_init_9 : decode b_T_init 9 = .ok (.invokespecial 9, 3) := by decide +kernel
theorem d_T_init_12 : decode b_T_init 12 = .ok (.putfield 10, 3) := by decide +kernel
theorem d_T_init_15 : decode b_T_init 15 = .ok (.aload_n 0, 1) := by decide +kernel
theorem d_T_init_16 : decode b_T_init 16 = .ok (.iconst 2, 1) := by decide +kernel
theorem d_T_init_17 : decode b_T_init 17 = .ok (.anewarray 16, 3) := by decide +kernel
theorem d_T_init_20 : decode b_T_init 20 = .ok (.dup, 1) := by decide +kernel
theorem d_T_init_21 : decode b_T_init 21 = .ok (.iconst 0, 1) := by decide +kernel
theorem d_T_init_22 : decode b_T_init 22 = .ok (.new 16, 3) := by decide +kernel
theorem d_T_init_25 : decode b_T_init 25 = .ok (.dup, 1) := by decide +kernel
theorem d_T_init_26 : decode b_T_init 26 = .ok (.invokespecial 18, 3) := by decide +kernel
theorem d_T_init_29 : decode b_T_init 29 = .ok (.aastore, 1) := by decide +kernel
theorem d_T_init_30 : decode b_T_init 30 = .ok (.dup, 1) := by decide +kernel
theorem d_T_init_31 : decode b_T_init 31 = .ok (.iconst 1, 1) := by decide +kernel
theorem d_T_init_32 : decode b_T_init 32 = .ok (.new 16, 3) := by decide +kernel
theorem d_T_init_35 : decode b_T_init 35 = .ok (.dup, 1) := by decide +kernel
theorem d_T_init_36 : decode b_T_init 36 = .ok (.invokespecial 18, 3) := by decide +kernel
theorem d_T_init_39 : decode b_T_init 39 = .ok (.aastore, 1) := by decide +kernel
theorem d_T_init_40 : decode b_T_init 40 = .ok (.putfield 19, 3) := by decide +kernel
theorem d_T_init_43 : decode b_T_init 43 = .ok (.aload_n 0, 1) := by decide +kernel
theorem d_T_init_44 : decode b_T_init 44 = .ok (.new 23, 3) := by decide +kernel
theorem d_T_init_47 : decode b_T_init 47 = .ok (.dup, 1) := by decide +kernel
theorem d_T_init_48 : decode b_T_init 48 = .ok (.invokespecial 25, 3) := by decide +kernel
theorem d_T_init_51 : decode b_T_init 51 = .ok (.putfield 26, 3) := by decide +kernel
theorem d_T_init_54 : decode b_T_init 54 = .ok (.aload_n 0, 1) := by decide +kernel
theorem d_T_init_55 : decode b_T_init 55 = .ok (.iconst 0, 1) := by decide +kernel
theorem d_T_init_56 : decode b_T_init 56 = .ok (.putfield 30, 3) := by decide +kernel
theorem d_T_init_59 : decode b_T_init 59 = .ok (.aload_n 0, 1) := by decide +kernel
theorem d_T_init_60 : decode b_T_init 60 = .ok (.iconst 0, 1) := by decide +kernel
theorem d_T_init_61 : decode b_T_init 61 = .ok (.putfield 34, 3) := by decide +kernel
theorem d_T_init_64 : decode b_T_init 64 = .ok (.return_, 1) := by decide +kernel
theorem d_S_init_0 : decode b_S_init 0 = .ok (.aload_n 0, 1) := by decide +kernel
theorem d_S_init_1 : decode b_S_init 1 = .ok (.invokespecial 3, 3) := by decide +kernel
theorem d_S_init_4 : decode b_S_init 4 = .ok (.aload_n 0, 1) := by decide +kernel
theorem d_S_init_5 : decode b_S_init 5 = .ok (.new 9, 3) := by decide +kernel
theorem d_S_init_8 : decode b_S_init 8 = .ok (.dup, 1) := by decide +kernel
theorem d_S_init_9 : decode b_S_init 9 = .ok (.invokespecial 11, 3) := by decide +kernel
theorem d_S_init_12 : decode b_S_init 12 = .ok (.putfield 12, 3) := by decide +kernel
theorem d_S_init_15 : decode b_S_init 15 = .ok (.return_, 1) := by decide +kernel
theorem d_Y_init_0 : decode b_Y_init 0 = .ok (.aload_n 0, 1) := by decide +kernel
theorem d_Y_init_1 : decode b_Y_init 1 = .ok (.invokespecial 3, 3) := by decide +kernel
theorem d_Y_init_4 : decode b_Y_init 4 = .ok (.aload_n 0, 1) := by decide +kernel
theorem d_Y_init_5 : decode b_Y_init 5 = .ok (.bipush 28, 2) := by decide +kernel
theorem d_Y_init_7 : decode b_Y_init 7 = .ok (.newarray .char, 2) := by decide +kernel
theorem d_Y_init_9 : decode b_Y_init 9 = .ok (.putfield 9, 3) := by decide +kernel
theorem d_Y_init_12 : decode b_Y_init 12 = .ok (.return_, 1) := by decide +kernel
abbrev b_AS_init : ByteArray := prog_10_method_2_code
abbrev y_AS_init : MethodName := ⟨"java/lang/AbstractStringBuilder", "<init>", "(I)V"⟩
theorem kc_AS_init : (.code y_AS_init b_AS_init 2 none : Cond) ∈ tp_G := tp_Gm 179 (by decide +kernel) (by decide +kernel)
def w_AS_init : List Cond := .code y_AS_init b_AS_init 2 none :: tp_G
theorem km_AS_init : (.instanceMethod y_AS_init : Cond) ∈ tp_G := tp_Gm 178 (by decide +kernel) (by decide +kernel)
theorem d_AS_init_0 : decode b_AS_init 0 = .ok (.aload_n 0, 1) := by decide +kernel
theorem d_AS_init_1 : decode b_AS_init 1 = .ok (.invokespecial 3, 3) := by decide +kernel
theorem d_AS_init_4 : decode b_AS_init 4 = .ok (.getstatic 18, 3) := by decide +kernel
theorem d_AS_init_7 : decode b_AS_init 7 = .ok (.ifCond .eq 18, 3) := by decide +kernel
theorem d_AS_init_10 : decode b_AS_init 10 = .ok (.aload_n 0, 1) := by decide +kernel
theorem d_AS_init_11 : decode b_AS_init 11 = .ok (.iload_n 1, 1) := by decide +kernel
theorem d_AS_init_12 : decode b_AS_init 12 = .ok (.newarray .byte, 2) := by decide +kernel
theorem d_AS_init_14 : decode b_AS_init 14 = .ok (.putfield 15, 3) := by decide +kernel
theorem d_AS_init_17 : decode b_AS_init 17 = .ok (.aload_n 0, 1) := by decide +kernel
theorem d_AS_init_18 : decode b_AS_init 18 = .ok (.iconst 0, 1) := by decide +kernel
theorem d_AS_init_19 : decode b_AS_init 19 = .ok (.putfield 22, 3) := by decide +kernel
theorem d_AS_init_22 : decode b_AS_init 22 = .ok (.goto 16, 3) := by decide +kernel
theorem d_AS_init_25 : decode b_AS_init 25 = .ok (.aload_n 0, 1) := by decide +kernel
theorem d_AS_init_26 : decode b_AS_init 26 = .ok (.iload_n 1, 1) := by decide +kernel
theorem d_AS_init_27 : decode b_AS_init 27 = .ok (.invokestatic 26, 3) := by decide +kernel
theorem d_AS_init_30 : decode b_AS_init 30 = .ok (.putfield 15, 3) := by decide +kernel
theorem d_AS_init_33 : decode b_AS_init 33 = .ok (.aload_n 0, 1) := by decide +kernel
theorem d_AS_init_34 : decode b_AS_init 34 = .ok (.iconst 1, 1) := by decide +kernel
theorem d_AS_init_35 : decode b_AS_init 35 = .ok (.putfield 22, 3) := by decide +kernel
theorem d_AS_init_38 : decode b_AS_init 38 = .ok (.return_, 1) := by decide +kernel
abbrev b_SB_init : ByteArray := prog_23_method_1_code
abbrev y_SB_init : MethodName := ⟨"java/lang/StringBuilder", "<init>", "()V"⟩
theorem kc_SB_init : (.code y_SB_init b_SB_init 1 none : Cond) ∈ tp_G := tp_Gm 176 (by decide +kernel) (by decide +kernel)
def w_SB_init : List Cond := .code y_SB_init b_SB_init 1 none :: tp_G
theorem km_SB_init : (.instanceMethod y_SB_init : Cond) ∈ tp_G := tp_Gm 175 (by decide +kernel) (by decide +kernel)
theorem d_SB_init_0 : decode b_SB_init 0 = .ok (.aload_n 0, 1) := by decide +kernel
theorem d_SB_init_1 : decode b_SB_init 1 = .ok (.bipush 16, 2) := by decide +kernel
theorem d_SB_init_3 : decode b_SB_init 3 = .ok (.invokespecial 1, 3) := by decide +kernel
theorem d_SB_init_6 : decode b_SB_init 6 = .ok (.return_, 1) := by decide +kernel
abbrev b_AC_init : ByteArray := prog_30_method_1_code
abbrev y_AC_init : MethodName := ⟨"java/util/AbstractCollection", "<init>", "()V"⟩
theorem kc_AC_init : (.code y_AC_init b_AC_init 1 none : Cond) ∈ tp_G := tp_Gm 151 (by decide +kernel) (by decide +kernel)
def w_AC_init : List Cond := .code y_AC_init b_AC_init 1 none :: tp_G
theorem km_AC_init : (.instanceMethod y_AC_init : Cond) ∈ tp_G := tp_Gm 150 (by decide +kernel) (by decide +kernel)
theorem d_AC_init_0 : decode b_AC_init 0 = .ok (.aload_n 0, 1) := by decide +kernel
theorem d_AC_init_1 : decode b_AC_init 1 = .ok (.invokespecial 1, 3) := by decide +kernel
theorem d_AC_init_4 : decode b_AC_init 4 = .ok (.return_, 1) := by decide +kernel
abbrev b_AB_init : ByteArray := prog_31_method_1_code
abbrev y_AB_init : MethodName := ⟨"java/util/AbstractList", "<init>", "()V"⟩
theorem kc_AB_init : (.code y_AB_init b_AB_init 1 none : Cond) ∈ tp_G := tp_Gm 148 (by decide +kernel) (by decide +kernel)
def w_AB_init : List Cond := .code y_AB_init b_AB_init 1 none :: tp_G
theorem km_AB_init : (.instanceMethod y_AB_init : Cond) ∈ tp_G := tp_Gm 147 (by decide +kernel) (by decide +kernel)
theorem d_AB_init_0 : decode b_AB_init 0 = .ok (.aload_n 0, 1) := by decide +kernel
theorem d_AB_init_1 : decode b_AB_init 1 = .ok (.invokespecial 1, 3) := by decide +kernel
theorem d_AB_init_4 : decode b_AB_init 4 = .ok (.aload_n 0, 1) := by decide +kernel
theorem d_AB_init_5 : decode b_AB_init 5 = .ok (.iconst 0, 1) := by decide +kernel
theorem d_AB_init_6 : decode b_AB_init 6 = .ok (.putfield 7, 3) := by decide +kernel
theorem d_AB_init_9 : decode b_AB_init 9 = .ok (.return_, 1) := by decide +kernel
abbrev b_AL_init : ByteArray := prog_32_method_2_code
abbrev y_AL_init : MethodName := ⟨"java/util/ArrayList", "<init>", "()V"⟩
theorem kc_AL_init : (.code y_AL_init b_AL_init 1 none : Cond) ∈ tp_G := tp_Gm 145 (by decide +kernel) (by decide +kernel)
def w_AL_init : List Cond := .code y_AL_init b_AL_init 1 none :: tp_G
theorem km_AL_init : (.instanceMethod y_AL_init : Cond) ∈ tp_G := tp_Gm 144 (by decide +kernel) (by decide +kernel)
theorem d_AL_init_0 : decode b_AL_init 0 = .ok (.aload_n 0, 1) := by decide +kernel
theorem d_AL_init_1 : decode b_AL_init 1 = .ok (.invokespecial 1, 3) := by decide +kernel
theorem d_AL_init_4 : decode b_AL_init 4 = .ok (.aload_n 0, 1) := by decide +kernel
theorem d_AL_init_5 : decode b_AL_init 5 = .ok (.getstatic 39, 3) := by decide +kernel
theorem d_AL_init_8 : decode b_AL_init 8 = .ok (.putfield 9, 3) := by decide +kernel
theorem d_AL_init_11 : decode b_AL_init 11 = .ok (.return_, 1) := by decide +kernel
abbrev b_OJ_init : ByteArray := object_method_1_code
abbrev y_OJ_init : MethodName := ⟨"java/lang/Object", "<init>", "()V"⟩
theorem kc_OJ_init : (.code y_OJ_init b_OJ_init 1 none : Cond) ∈ tp_G := tp_Gm 106 (by decide +kernel) (by decide +kernel)
def w_OJ_init : List Cond := .code y_OJ_init b_OJ_init 1 none :: tp_G
theorem km_OJ_init : (.instanceMethod y_OJ_init : Cond) ∈ tp_G := tp_Gm 105 (by decide +kernel) (by decide +kernel)
theorem kl_T_1 : (.methodLink "TwoPass" 1 y_OJ_init : Cond) ∈ tp_G := tp_Gm 104 (by decide +kernel) (by decide +kernel)
theorem kl_T_7 : (.classLink "TwoPass" 7 "TwoPass$Typed" : Cond) ∈ tp_G := tp_Gm 107 (by decide +kernel) (by decide +kernel)
theorem kl_T_10 : (.fieldLink "TwoPass" 10 "TwoPass" "typed" "LTwoPass$Typed;" : Cond) ∈ tp_G := tp_Gm 205 (by decide +kernel) (by decide +kernel)
theorem kl_T_16 : (.classLink "TwoPass" 16 "TwoPass$Source" : Cond) ∈ tp_G := tp_Gm 134 (by decide +kernel) (by decide +kernel)
theorem kl_T_23 : (.classLink "TwoPass" 23 "java/lang/StringBuilder" : Cond) ∈ tp_G := tp_Gm 172 (by decide +kernel) (by decide +kernel)
theorem kl_T_25 : (.methodLink "TwoPass" 25 y_SB_init : Cond) ∈ tp_G := tp_Gm 174 (by decide +kernel) (by decide +kernel)
theorem kl_S_3 : (.methodLink "TwoPass$Source" 3 y_OJ_init : Cond) ∈ tp_G := tp_Gm 140 (by decide +kernel) (by decide +kernel)
theorem kl_S_9 : (.classLink "TwoPass$Source" 9 "java/util/ArrayList" : Cond) ∈ tp_G := tp_Gm 141 (by decide +kernel) (by decide +kernel)
theorem kl_S_11 : (.methodLink "TwoPass$Source" 11 y_AL_init : Cond) ∈ tp_G := tp_Gm 143 (by decide +kernel) (by decide +kernel)
theorem kl_Y_3 : (.methodLink "TwoPass$Typed" 3 y_OJ_init : Cond) ∈ tp_G := tp_Gm 112 (by decide +kernel) (by decide +kernel)
theorem kl_Y_9 : (.fieldLink "TwoPass$Typed" 9 "TwoPass$Typed" "characters" "[C" : Cond) ∈ tp_G := tp_Gm 113 (by decide +kernel) (by decide +kernel)
theorem kl_AS_3 : (.methodLink "java/lang/AbstractStringBuilder" 3 y_OJ_init : Cond) ∈ tp_G := tp_Gm 180 (by decide +kernel) (by decide +kernel)
theorem kl_AS_18 : (.fieldLink "java/lang/AbstractStringBuilder" 18 "java/lang/String" "COMPACT_STRINGS" "Z" : Cond) ∈ tp_G := tp_Gm 181 (by decide +kernel) (by decide +kernel)
theorem kl_AS_15 : (.fieldLink "java/lang/AbstractStringBuilder" 15 "java/lang/AbstractStringBuilder" "value" "[B" : Cond) ∈ tp_G := tp_Gm 190 (by decide +kernel) (by decide +kernel)
theorem kl_AS_22 : (.fieldLink "java/lang/AbstractStringBuilder" 22 "java/lang/AbstractStringBuilder" "coder" "B" : Cond) ∈ tp_G := tp_Gm 191 (by decide +kernel) (by decide +kernel)
abbrev b_SU_newBytesFor : ByteArray := prog_26_method_2_code
abbrev y_SU_newBytesFor : MethodName := ⟨"java/lang/StringUTF16", "newBytesFor", "(I)[B"⟩
theorem kc_SU_newBytesFor : (.code y_SU_newBytesFor b_SU_newBytesFor 1 (some (.array .byte)) : Cond) ∈ tp_G := tp_Gm 185 (by decide +kernel) (by decide +kernel)
def w_SU_newBytesFor : List Cond := .code y_SU_newBytesFor b_SU_newBytesFor 1 (some (.array .byte)) :: tp_G
theorem ks_SU_newBytesFor : (.static y_SU_newBytesFor : Cond) ∈ tp_G := tp_Gm 184 (by decide +kernel) (by decide +kernel)
theorem kl_AS_26 : (.methodLink "java/lang/AbstractStringBuilder" 26 y_SU_newBytesFor : Cond) ∈ tp_G := tp_Gm 183 (by decide +kernel) (by decide +kernel)
theorem kl_SB_1 : (.methodLink "java/lang/StringBuilder" 1 y_AS_init : Cond) ∈ tp_G := tp_Gm 177 (by decide +kernel) (by decide +kernel)
theorem kl_AC_1 : (.methodLink "java/util/AbstractCollection" 1 y_OJ_init : Cond) ∈ tp_G := tp_Gm 152 (by decide +kernel) (by decide +kernel)
theorem kl_AB_1 : (.methodLink "java/util/AbstractList" 1 y_AC_init : Cond) ∈ tp_G := tp_Gm 149 (by decide +kernel) (by decide +kernel)
theorem kl_AB_7 : (.fieldLink "java/util/AbstractList" 7 "java/util/AbstractList" "modCount" "I" : Cond) ∈ tp_G := tp_Gm 157 (by decide +kernel) (by decide +kernel)
theorem kl_AL_1 : (.methodLink "java/util/ArrayList" 1 y_AB_init : Cond) ∈ tp_G := tp_Gm 146 (by decide +kernel) (by decide +kernel)
theorem kl_AL_39 : (.fieldLink "java/util/ArrayList" 39 "java/util/ArrayList" "DEFAULTCAPACITY_EMPTY_ELEMENTDATA" "[Ljava/lang/Object;" : Cond) ∈ tp_G := tp_Gm 153 (by decide +kernel) (by decide +kernel)
