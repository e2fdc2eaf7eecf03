abbrev b_M_layOut : ByteArray := prog_8_method_30_code
abbrev y_M_layOut : MethodName := ⟨"TwoPassModel", "layOut", "()I"⟩
theorem kc_M_layOut : (.code y_M_layOut b_M_layOut 5 (some .int) : Cond) ∈ tp_G := tp_Gm 1478 (by decide +kernel) (by decide +kernel)
def w_M_layOut : List Cond := .code y_M_layOut b_M_layOut 5 (some .int) :: tp_G
theorem km_M_layOut : (.instanceMethod y_M_layOut : Cond) ∈ tp_G := tp_Gm 1477 (by decide +kernel) (by decide +kernel)
theorem kp_M_layOut : (.selects "TwoPassModel" y_M_layOut y_M_layOut : Cond) ∈ tp_G := List.mem_filter.mpr ⟨by decide +kernel, by decide +kernel⟩
theorem d_M_layOut_0 : decode b_M_layOut 0 = .ok (.iconst 0, 1) := by decide +kernel
theorem d_M_layOut_1 : decode b_M_layOut 1 = .ok (.istore_n 1, 1) := by decide +kernel
theorem d_M_layOut_2 : decode b_M_layOut 2 = .ok (.iconst 0, 1) := by decide +kernel
theorem d_M_layOut_3 : decode b_M_layOut 3 = .ok (.istore_n 2, 1) := by decide +kernel
theorem d_M_layOut_4 : decode b_M_layOut 4 = .ok (.iload_n 2, 1) := by decide +kernel
theorem d_M_layOut_5 : decode b_M_layOut 5 = .ok (.iconst 2, 1) := by decide +kernel
theorem d_M_layOut_6 : decode b_M_layOut 6 = .ok (.if_icmp .ge 90, 3) := by decide +kernel
theorem d_M_layOut_9 : decode b_M_layOut 9 = .ok (.iload_n 1, 1) := by decide +kernel
theorem d_M_layOut_10 : decode b_M_layOut 10 = .ok (.iconst 3, 1) := by decide +kernel
theorem d_M_layOut_11 : decode b_M_layOut 11 = .ok (.iadd, 1) := by decide +kernel
theorem d_M_layOut_12 : decode b_M_layOut 12 = .ok (.iconst 4, 1) := by decide +kernel
theorem d_M_layOut_13 : decode b_M_layOut 13 = .ok (.idiv, 1) := by decide +kernel
theorem d_M_layOut_14 : decode b_M_layOut 14 = .ok (.iconst 4, 1) := by decide +kernel
theorem d_M_layOut_15 : decode b_M_layOut 15 = .ok (.imul, 1) := by decide +kernel
theorem d_M_layOut_16 : decode b_M_layOut 16 = .ok (.istore_n 1, 1) := by decide +kernel
theorem d_M_layOut_17 : decode b_M_layOut 17 = .ok (.iconst 0, 1) := by decide +kernel
theorem d_M_layOut_18 : decode b_M_layOut 18 = .ok (.istore_n 3, 1) := by decide +kernel
theorem d_M_layOut_19 : decode b_M_layOut 19 = .ok (.iload_n 3, 1) := by decide +kernel
theorem d_M_layOut_20 : decode b_M_layOut 20 = .ok (.aload_n 0, 1) := by decide +kernel
theorem d_M_layOut_21 : decode b_M_layOut 21 = .ok (.getfield 23, 3) := by decide +kernel
theorem d_M_layOut_24 : decode b_M_layOut 24 = .ok (.iload_n 2, 1) := by decide +kernel
theorem d_M_layOut_25 : decode b_M_layOut 25 = .ok (.iaload, 1) := by decide +kernel
theorem d_M_layOut_26 : decode b_M_layOut 26 = .ok (.if_icmp .ge 64, 3) := by decide +kernel
theorem d_M_layOut_29 : decode b_M_layOut 29 = .ok (.bipush 16, 2) := by decide +kernel
theorem d_M_layOut_31 : decode b_M_layOut 31 = .ok (.iload_n 2, 1) := by decide +kernel
theorem d_M_layOut_32 : decode b_M_layOut 32 = .ok (.imul, 1) := by decide +kernel
theorem d_M_layOut_33 : decode b_M_layOut 33 = .ok (.iload_n 3, 1) := by decide +kernel
theorem d_M_layOut_34 : decode b_M_layOut 34 = .ok (.iadd, 1) := by decide +kernel
theorem d_M_layOut_35 : decode b_M_layOut 35 = .ok (.istore 4, 2) := by decide +kernel
theorem d_M_layOut_37 : decode b_M_layOut 37 = .ok (.aload_n 0, 1) := by decide +kernel
theorem d_M_layOut_38 : decode b_M_layOut 38 = .ok (.getfield 26, 3) := by decide +kernel
theorem d_M_layOut_41 : decode b_M_layOut 41 = .ok (.iload 4, 2) := by decide +kernel
theorem d_M_layOut_43 : decode b_M_layOut 43 = .ok (.iaload, 1) := by decide +kernel
theorem d_M_layOut_44 : decode b_M_layOut 44 = .ok (.ifCond .le 23, 3) := by decide +kernel
theorem d_M_layOut_47 : decode b_M_layOut 47 = .ok (.aload_n 0, 1) := by decide +kernel
theorem d_M_layOut_48 : decode b_M_layOut 48 = .ok (.getfield 26, 3) := by decide +kernel
theorem d_M_layOut_51 : decode b_M_layOut 51 = .ok (.iload 4, 2) := by decide +kernel
theorem d_M_layOut_53 : decode b_M_layOut 53 = .ok (.iaload, 1) := by decide +kernel
theorem d_M_layOut_54 : decode b_M_layOut 54 = .ok (.bipush 11, 2) := by decide +kernel
theorem d_M_layOut_56 : decode b_M_layOut 56 = .ok (.if_icmp .ge 11, 3) := by decide +kernel
theorem d_M_layOut_59 : decode b_M_layOut 59 = .ok (.iload_n 1, 1) := by decide +kernel
theorem d_M_layOut_60 : decode b_M_layOut 60 = .ok (.iconst 3, 1) := by decide +kernel
theorem d_M_layOut_61 : decode b_M_layOut 61 = .ok (.iadd, 1) := by decide +kernel
theorem d_M_layOut_62 : decode b_M_layOut 62 = .ok (.iconst 4, 1) := by decide +kernel
theorem d_M_layOut_63 : decode b_M_layOut 63 = .ok (.idiv, 1) := by decide +kernel
theorem d_M_layOut_64 : decode b_M_layOut 64 = .ok (.iconst 4, 1) := by decide +kernel
theorem d_M_layOut_65 : decode b_M_layOut 65 = .ok (.imul, 1) := by decide +kernel
theorem d_M_layOut_66 : decode b_M_layOut 66 = .ok (.istore_n 1, 1) := by decide +kernel
theorem d_M_layOut_67 : decode b_M_layOut 67 = .ok (.aload_n 0, 1) := by decide +kernel
theorem d_M_layOut_68 : decode b_M_layOut 68 = .ok (.getfield 53, 3) := by decide +kernel
theorem d_M_layOut_71 : decode b_M_layOut 71 = .ok (.iload 4, 2) := by decide +kernel
theorem d_M_layOut_73 : decode b_M_layOut 73 = .ok (.iload_n 1, 1) := by decide +kernel
theorem d_M_layOut_74 : decode b_M_layOut 74 = .ok (.iastore, 1) := by decide +kernel
theorem d_M_layOut_75 : decode b_M_layOut 75 = .ok (.iload_n 1, 1) := by decide +kernel
theorem d_M_layOut_76 : decode b_M_layOut 76 = .ok (.aload_n 0, 1) := by decide +kernel
theorem d_M_layOut_77 : decode b_M_layOut 77 = .ok (.iload 4, 2) := by decide +kernel
theorem d_M_layOut_79 : decode b_M_layOut 79 = .ok (.invokevirtual 367, 3) := by decide +kernel
theorem d_M_layOut_82 : decode b_M_layOut 82 = .ok (.iadd, 1) := by decide +kernel
theorem d_M_layOut_83 : decode b_M_layOut 83 = .ok (.istore_n 1, 1) := by decide +kernel
theorem d_M_layOut_84 : decode b_M_layOut 84 = .ok (.iinc 3 1, 3) := by decide +kernel
theorem d_M_layOut_87 : decode b_M_layOut 87 = .ok (.goto (-68), 3) := by decide +kernel
theorem d_M_layOut_90 : decode b_M_layOut 90 = .ok (.iinc 2 1, 3) := by decide +kernel
theorem d_M_layOut_93 : decode b_M_layOut 93 = .ok (.goto (-89), 3) := by decide +kernel
theorem d_M_layOut_96 : decode b_M_layOut 96 = .ok (.iload_n 1, 1) := by decide +kernel
theorem d_M_layOut_97 : decode b_M_layOut 97 = .ok (.ireturn, 1) := by decide +kernel
abbrev b_M_there : ByteArray := prog_8_method_31_code
abbrev y_M_there : MethodName := ⟨"TwoPassModel", "there", "(I)Z"⟩
theorem kc_M_there : (.code y_M_there b_M_there 2 (some .boolean) : Cond) ∈ tp_G := tp_Gm 1466 (by decide +kernel) (by decide +kernel)
def w_M_there : List Cond := .code y_M_there b_M_there 2 (some .boolean) :: tp_G
theorem km_M_there : (.instanceMethod y_M_there : Cond) ∈ tp_G := tp_Gm 1465 (by decide +kernel) (by decide +kernel)
theorem kp_M_there : (.selects "TwoPassModel" y_M_there y_M_there : Cond) ∈ tp_G := List.mem_filter.mpr ⟨by decide +kernel, by decide +kernel⟩
theorem d_M_there_0 : decode b_M_there 0 = .ok (.iload_n 1, 1) := by decide +kernel
theorem d_M_there_1 : decode b_M_there 1 = .ok (.bipush 16, 2) := by decide +kernel
theorem d_M_there_3 : decode b_M_there 3 = .ok (.irem, 1) := by decide +kernel
theorem d_M_there_4 : decode b_M_there 4 = .ok (.aload_n 0, 1) := by decide +kernel
theorem d_M_there_5 : decode b_M_there 5 = .ok (.getfield 23, 3) := by decide +kernel
theorem d_M_there_8 : decode b_M_there 8 = .ok (.iload_n 1, 1) := by decide +kernel
theorem d_M_there_9 : decode b_M_there 9 = .ok (.bipush 16, 2) := by decide +kernel
theorem d_M_there_11 : decode b_M_there 11 = .ok (.idiv, 1) := by decide +kernel
theorem d_M_there_12 : decode b_M_there 12 = .ok (.iaload, 1) := by decide +kernel
theorem d_M_there_13 : decode b_M_there 13 = .ok (.if_icmp .ge 7, 3) := by decide +kernel
theorem d_M_there_16 : decode b_M_there 16 = .ok (.iconst 1, 1) := by decide +kernel
theorem d_M_there_17 : decode b_M_there 17 = .ok (.goto 4, 3) := by decide +kernel
theorem d_M_there_20 : decode b_M_there 20 = .ok (.iconst 0, 1) := by decide +kernel
theorem d_M_there_21 : decode b_M_there 21 = .ok (.ireturn, 1) := by decide +kernel
abbrev b_M_bytes : ByteArray := prog_8_method_29_code
abbrev y_M_bytes : MethodName := ⟨"TwoPassModel", "bytes", "(I)I"⟩
theorem kc_M_bytes : (.code y_M_bytes b_M_bytes 3 (some .int) : Cond) ∈ tp_G := tp_Gm 1482 (by decide +kernel) (by decide +kernel)
def w_M_bytes : List Cond := .code y_M_bytes b_M_bytes 3 (some .int) :: tp_G
theorem km_M_bytes : (.instanceMethod y_M_bytes : Cond) ∈ tp_G := tp_Gm 1481 (by decide +kernel) (by decide +kernel)
theorem kp_M_bytes : (.selects "TwoPassModel" y_M_bytes y_M_bytes : Cond) ∈ tp_G := List.mem_filter.mpr ⟨by decide +kernel, by decide +kernel⟩
theorem kl_M_367 : (.methodLink "TwoPassModel" 367 y_M_bytes : Cond) ∈ tp_G := tp_Gm 1479 (by decide +kernel) (by decide +kernel)
theorem kl_M_56 : (.fieldLink "TwoPassModel" 56 "TwoPassModel" "far" "[Z" : Cond) ∈ tp_G := tp_Gm 1267 (by decide +kernel) (by decide +kernel)
theorem kl_M_374 : (.methodLink "TwoPassModel" 374 y_M_there : Cond) ∈ tp_G := tp_Gm 1463 (by decide +kernel) (by decide +kernel)
abbrev b_M_resolve : ByteArray := prog_8_method_27_code
abbrev y_M_resolve : MethodName := ⟨"TwoPassModel", "resolve", "(II)I"⟩
theorem kc_M_resolve : (.code y_M_resolve b_M_resolve 6 (some .int) : Cond) ∈ tp_G := tp_Gm 1470 (by decide +kernel) (by decide +kernel)
def w_M_resolve : List Cond := .code y_M_resolve b_M_resolve 6 (some .int) :: tp_G
theorem km_M_resolve : (.instanceMethod y_M_resolve : Cond) ∈ tp_G := tp_Gm 1469 (by decide +kernel) (by decide +kernel)
theorem kp_M_resolve : (.selects "TwoPassModel" y_M_resolve y_M_resolve : Cond) ∈ tp_G := List.mem_filter.mpr ⟨by decide +kernel, by decide +kernel⟩
theorem kl_M_377 : (.methodLink "TwoPassModel" 377 y_M_resolve : Cond) ∈ tp_G := tp_Gm 1467 (by decide +kernel) (by decide +kernel)
theorem kl_M_381 : (.methodLink "TwoPassModel" 381 y_M_layOut : Cond) ∈ tp_G := tp_Gm 1475 (by decide +kernel) (by decide +kernel)
abbrev b_M_way : ByteArray := prog_8_method_32_code
abbrev y_M_way : MethodName := ⟨"TwoPassModel", "way", "(I)I"⟩
theorem kc_M_way : (.code y_M_way b_M_way 2 (some .int) : Cond) ∈ tp_G := tp_Gm 1490 (by decide +kernel) (by decide +kernel)
def w_M_way : List Cond := .code y_M_way b_M_way 2 (some .int) :: tp_G
theorem km_M_way : (.instanceMethod y_M_way : Cond) ∈ tp_G := tp_Gm 1489 (by decide +kernel) (by decide +kernel)
theorem kp_M_way : (.selects "TwoPassModel" y_M_way y_M_way : Cond) ∈ tp_G := List.mem_filter.mpr ⟨by decide +kernel, by decide +kernel⟩
theorem kl_M_384 : (.methodLink "TwoPassModel" 384 y_M_way : Cond) ∈ tp_G := tp_Gm 1487 (by decide +kernel) (by decide +kernel)
abbrev b_M_encode : ByteArray := prog_8_method_39_code
abbrev y_M_encode : MethodName := ⟨"TwoPassModel", "encode", "(I)V"⟩
set_option maxRecDepth 100000 in
theorem kc_M_encode : (.code y_M_encode b_M_encode 6 none : Cond) ∈ tp_G := tp_Gm 1494 rfl rfl
def w_M_encode : List Cond := .code y_M_encode b_M_encode 6 none :: tp_G
theorem km_M_encode : (.instanceMethod y_M_encode : Cond) ∈ tp_G := tp_Gm 1493 (by decide +kernel) (by decide +kernel)
theorem kp_M_encode : (.selects "TwoPassModel" y_M_encode y_M_encode : Cond) ∈ tp_G := List.mem_filter.mpr ⟨by decide +kernel, by decide +kernel⟩
theorem kl_M_387 : (.methodLink "TwoPassModel" 387 y_M_encode : Cond) ∈ tp_G := tp_Gm 1491 (by decide +kernel) (by decide +kernel)
