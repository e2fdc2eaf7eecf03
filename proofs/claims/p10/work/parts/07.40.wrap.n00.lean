abbrev b_L_clear : ByteArray := method_5_code
abbrev y_L_clear : MethodName := ⟨"TwoPassLaw", "clear", "(LTwoPass;I)I"⟩
theorem kc_L_clear : (.codeWith y_L_clear b_L_clear 3 (some .int) [(0, 5, 8, 13)] : Cond) ∈ tp_G := tp_Gm 619 (by decide +kernel) (by decide +kernel)
def w_L_clear : List Cond := .codeWith y_L_clear b_L_clear 3 (some .int) [(0, 5, 8, 13)] :: tp_G
theorem ks_L_clear : (.static y_L_clear : Cond) ∈ tp_G := tp_Gm 618 (by decide +kernel) (by decide +kernel)
theorem d_L_clear_0 : decode b_L_clear 0 = .ok (.aload_n 0, 1) := by decide +kernel
theorem d_L_clear_1 : decode b_L_clear 1 = .ok (.iload_n 1, 1) := by decide +kernel
theorem d_L_clear_2 : decode b_L_clear 2 = .ok (.invokevirtual 21, 3) := by decide +kernel
theorem d_L_clear_5 : decode b_L_clear 5 = .ok (.goto 6, 3) := by decide +kernel
theorem d_L_clear_8 : decode b_L_clear 8 = .ok (.astore_n 2, 1) := by decide +kernel
theorem d_L_clear_9 : decode b_L_clear 9 = .ok (.iconst 1, 1) := by decide +kernel
theorem d_L_clear_10 : decode b_L_clear 10 = .ok (.ireturn, 1) := by decide +kernel
theorem d_L_clear_11 : decode b_L_clear 11 = .ok (.iconst 0, 1) := by decide +kernel
theorem d_L_clear_12 : decode b_L_clear 12 = .ok (.ireturn, 1) := by decide +kernel
abbrev b_L_far : ByteArray := method_7_code
abbrev y_L_far : MethodName := ⟨"TwoPassLaw", "far", "(LTwoPass;[J)I"⟩
theorem kc_L_far : (.codeWith y_L_far b_L_far 3 (some .int) [(0, 8, 11, 15)] : Cond) ∈ tp_G := tp_Gm 776 (by decide +kernel) (by decide +kernel)
def w_L_far : List Cond := .codeWith y_L_far b_L_far 3 (some .int) [(0, 8, 11, 15)] :: tp_G
theorem ks_L_far : (.static y_L_far : Cond) ∈ tp_G := tp_Gm 775 (by decide +kernel) (by decide +kernel)
theorem d_L_far_0 : decode b_L_far 0 = .ok (.aload_n 1, 1) := by decide +kernel
theorem d_L_far_1 : decode b_L_far 1 = .ok (.iconst 0, 1) := by decide +kernel
theorem d_L_far_2 : decode b_L_far 2 = .ok (.aload_n 0, 1) := by decide +kernel
theorem d_L_far_3 : decode b_L_far 3 = .ok (.invokevirtual 33, 3) := by decide +kernel
theorem d_L_far_6 : decode b_L_far 6 = .ok (.i2l, 1) := by decide +kernel
theorem d_L_far_7 : decode b_L_far 7 = .ok (.lastore, 1) := by decide +kernel
theorem d_L_far_8 : decode b_L_far 8 = .ok (.goto 6, 3) := by decide +kernel
theorem d_L_far_11 : decode b_L_far 11 = .ok (.astore_n 2, 1) := by decide +kernel
theorem d_L_far_12 : decode b_L_far 12 = .ok (.iconst 1, 1) := by decide +kernel
theorem d_L_far_13 : decode b_L_far 13 = .ok (.ireturn, 1) := by decide +kernel
theorem d_L_far_14 : decode b_L_far 14 = .ok (.iconst 0, 1) := by decide +kernel
theorem d_L_far_15 : decode b_L_far 15 = .ok (.ireturn, 1) := by decide +kernel
abbrev b_L_image : ByteArray := method_8_code
abbrev y_L_image : MethodName := ⟨"TwoPassLaw", "image", "(LTwoPass;I[J)I"⟩
theorem kc_L_image : (.codeWith y_L_image b_L_image 4 (some .int) [(0, 9, 12, 15), (0, 9, 15, 39)] : Cond) ∈ tp_G := tp_Gm 787 (by decide +kernel) (by decide +kernel)
def w_L_image : List Cond := .codeWith y_L_image b_L_image 4 (some .int) [(0, 9, 12, 15), (0, 9, 15, 39)] :: tp_G
theorem ks_L_image : (.static y_L_image : Cond) ∈ tp_G := tp_Gm 786 (by decide +kernel) (by decide +kernel)
theorem d_L_image_0 : decode b_L_image 0 = .ok (.aload_n 2, 1) := by decide +kernel
theorem d_L_image_1 : decode b_L_image 1 = .ok (.iconst 0, 1) := by decide +kernel
theorem d_L_image_2 : decode b_L_image 2 = .ok (.aload_n 0, 1) := by decide +kernel
theorem d_L_image_3 : decode b_L_image 3 = .ok (.iload_n 1, 1) := by decide +kernel
theorem d_L_image_4 : decode b_L_image 4 = .ok (.invokevirtual 36, 3) := by decide +kernel
theorem d_L_image_7 : decode b_L_image 7 = .ok (.i2l, 1) := by decide +kernel
theorem d_L_image_8 : decode b_L_image 8 = .ok (.lastore, 1) := by decide +kernel
theorem d_L_image_9 : decode b_L_image 9 = .ok (.goto 9, 3) := by decide +kernel
theorem d_L_image_12 : decode b_L_image 12 = .ok (.astore_n 3, 1) := by decide +kernel
theorem d_L_image_13 : decode b_L_image 13 = .ok (.iconst 1, 1) := by decide +kernel
theorem d_L_image_14 : decode b_L_image 14 = .ok (.ireturn, 1) := by decide +kernel
theorem d_L_image_15 : decode b_L_image 15 = .ok (.astore_n 3, 1) := by decide +kernel
theorem d_L_image_16 : decode b_L_image 16 = .ok (.iconst 2, 1) := by decide +kernel
theorem d_L_image_17 : decode b_L_image 17 = .ok (.ireturn, 1) := by decide +kernel
theorem d_L_image_18 : decode b_L_image 18 = .ok (.iconst 0, 1) := by decide +kernel
theorem d_L_image_19 : decode b_L_image 19 = .ok (.ireturn, 1) := by decide +kernel
abbrev b_L_letter : ByteArray := method_11_code
abbrev y_L_letter : MethodName := ⟨"TwoPassLaw", "letter", "(LTwoPass;I[J)I"⟩
theorem kc_L_letter : (.codeWith y_L_letter b_L_letter 4 (some .int) [(0, 9, 12, 39)] : Cond) ∈ tp_G := tp_Gm 1119 (by decide +kernel) (by decide +kernel)
def w_L_letter : List Cond := .codeWith y_L_letter b_L_letter 4 (some .int) [(0, 9, 12, 39)] :: tp_G
theorem ks_L_letter : (.static y_L_letter : Cond) ∈ tp_G := tp_Gm 1118 (by decide +kernel) (by decide +kernel)
theorem d_L_letter_0 : decode b_L_letter 0 = .ok (.aload_n 2, 1) := by decide +kernel
theorem d_L_letter_1 : decode b_L_letter 1 = .ok (.iconst 0, 1) := by decide +kernel
theorem d_L_letter_2 : decode b_L_letter 2 = .ok (.aload_n 0, 1) := by decide +kernel
theorem d_L_letter_3 : decode b_L_letter 3 = .ok (.iload_n 1, 1) := by decide +kernel
theorem d_L_letter_4 : decode b_L_letter 4 = .ok (.invokevirtual 48, 3) := by decide +kernel
theorem d_L_letter_7 : decode b_L_letter 7 = .ok (.i2l, 1) := by decide +kernel
theorem d_L_letter_8 : decode b_L_letter 8 = .ok (.lastore, 1) := by decide +kernel
theorem d_L_letter_9 : decode b_L_letter 9 = .ok (.goto 6, 3) := by decide +kernel
theorem d_L_letter_12 : decode b_L_letter 12 = .ok (.astore_n 3, 1) := by decide +kernel
theorem d_L_letter_13 : decode b_L_letter 13 = .ok (.iconst 1, 1) := by decide +kernel
theorem d_L_letter_14 : decode b_L_letter 14 = .ok (.ireturn, 1) := by decide +kernel
theorem d_L_letter_15 : decode b_L_letter 15 = .ok (.iconst 0, 1) := by decide +kernel
theorem d_L_letter_16 : decode b_L_letter 16 = .ok (.ireturn, 1) := by decide +kernel
abbrev b_L_line : ByteArray := method_4_code
abbrev y_L_line : MethodName := ⟨"TwoPassLaw", "line", "(LTwoPass;I[J)I"⟩
theorem kc_L_line : (.codeWith y_L_line b_L_line 4 (some .int) [(0, 9, 12, 13), (0, 9, 15, 15)] : Cond) ∈ tp_G := tp_Gm 322 (by decide +kernel) (by decide +kernel)
def w_L_line : List Cond := .codeWith y_L_line b_L_line 4 (some .int) [(0, 9, 12, 13), (0, 9, 15, 15)] :: tp_G
theorem ks_L_line : (.static y_L_line : Cond) ∈ tp_G := tp_Gm 321 (by decide +kernel) (by decide +kernel)
theorem d_L_line_0 : decode b_L_line 0 = .ok (.aload_n 2, 1) := by decide +kernel
theorem d_L_line_1 : decode b_L_line 1 = .ok (.iconst 0, 1) := by decide +kernel
theorem d_L_line_2 : decode b_L_line 2 = .ok (.aload_n 0, 1) := by decide +kernel
theorem d_L_line_3 : decode b_L_line 3 = .ok (.iload_n 1, 1) := by decide +kernel
theorem d_L_line_4 : decode b_L_line 4 = .ok (.invokevirtual 17, 3) := by decide +kernel
theorem d_L_line_7 : decode b_L_line 7 = .ok (.i2l, 1) := by decide +kernel
theorem d_L_line_8 : decode b_L_line 8 = .ok (.lastore, 1) := by decide +kernel
theorem d_L_line_9 : decode b_L_line 9 = .ok (.goto 9, 3) := by decide +kernel
theorem d_L_line_12 : decode b_L_line 12 = .ok (.astore_n 3, 1) := by decide +kernel
theorem d_L_line_13 : decode b_L_line 13 = .ok (.iconst 1, 1) := by decide +kernel
theorem d_L_line_14 : decode b_L_line 14 = .ok (.ireturn, 1) := by decide +kernel
theorem d_L_line_15 : decode b_L_line 15 = .ok (.astore_n 3, 1) := by decide +kernel
theorem d_L_line_16 : decode b_L_line 16 = .ok (.iconst 2, 1) := by decide +kernel
theorem d_L_line_17 : decode b_L_line 17 = .ok (.ireturn, 1) := by decide +kernel
theorem d_L_line_18 : decode b_L_line 18 = .ok (.iconst 0, 1) := by decide +kernel
theorem d_L_line_19 : decode b_L_line 19 = .ok (.ireturn, 1) := by decide +kernel
abbrev b_L_lines : ByteArray := method_12_code
abbrev y_L_lines : MethodName := ⟨"TwoPassLaw", "lines", "(LTwoPass;I[J)I"⟩
theorem kc_L_lines : (.codeWith y_L_lines b_L_lines 4 (some .int) [(0, 9, 12, 13)] : Cond) ∈ tp_G := tp_Gm 1136 (by decide +kernel) (by decide +kernel)
def w_L_lines : List Cond := .codeWith y_L_lines b_L_lines 4 (some .int) [(0, 9, 12, 13)] :: tp_G
theorem ks_L_lines : (.static y_L_lines : Cond) ∈ tp_G := tp_Gm 1135 (by decide +kernel) (by decide +kernel)
theorem d_L_lines_0 : decode b_L_lines 0 = .ok (.aload_n 2, 1) := by decide +kernel
theorem d_L_lines_1 : decode b_L_lines 1 = .ok (.iconst 0, 1) := by decide +kernel
theorem d_L_lines_2 : decode b_L_lines 2 = .ok (.aload_n 0, 1) := by decide +kernel
theorem d_L_lines_3 : decode b_L_lines 3 = .ok (.iload_n 1, 1) := by decide +kernel
theorem d_L_lines_4 : decode b_L_lines 4 = .ok (.invokevirtual 51, 3) := by decide +kernel
theorem d_L_lines_7 : decode b_L_lines 7 = .ok (.i2l, 1) := by decide +kernel
theorem d_L_lines_8 : decode b_L_lines 8 = .ok (.lastore, 1) := by decide +kernel
theorem d_L_lines_9 : decode b_L_lines 9 = .ok (.goto 6, 3) := by decide +kernel
theorem d_L_lines_12 : decode b_L_lines 12 = .ok (.astore_n 3, 1) := by decide +kernel
theorem d_L_lines_13 : decode b_L_lines 13 = .ok (.iconst 1, 1) := by decide +kernel
theorem d_L_lines_14 : decode b_L_lines 14 = .ok (.ireturn, 1) := by decide +kernel
theorem d_L_lines_15 : decode b_L_lines 15 = .ok (.iconst 0, 1) := by decide +kernel
theorem d_L_lines_16 : decode b_L_lines 16 = .ok (.ireturn, 1) := by decide +kernel
abbrev b_L_link : ByteArray := method_6_code
abbrev y_L_link : MethodName := ⟨"TwoPassLaw", "link", "(LTwoPass;[J)I"⟩
theorem kc_L_link : (.codeWith y_L_link b_L_link 3 (some .int) [(0, 8, 11, 29), (0, 8, 14, 15), (0, 8, 17, 31)] : Cond) ∈ tp_G := tp_Gm 630 (by decide +kernel) (by decide +kernel)
def w_L_link : List Cond := .codeWith y_L_link b_L_link 3 (some .int) [(0, 8, 11, 29), (0, 8, 14, 15), (0, 8, 17, 31)] :: tp_G
theorem ks_L_link : (.static y_L_link : Cond) ∈ tp_G := tp_Gm 629 (by decide +kernel) (by decide +kernel)
theorem d_L_link_0 : decode b_L_link 0 = .ok (.aload_n 1, 1) := by decide +kernel
theorem d_L_link_1 : decode b_L_link 1 = .ok (.iconst 0, 1) := by decide +kernel
theorem d_L_link_2 : decode b_L_link 2 = .ok (.aload_n 0, 1) := by decide +kernel
theorem d_L_link_3 : decode b_L_link 3 = .ok (.invokevirtual 25, 3) := by decide +kernel
theorem d_L_link_6 : decode b_L_link 6 = .ok (.i2l, 1) := by decide +kernel
theorem d_L_link_7 : decode b_L_link 7 = .ok (.lastore, 1) := by decide +kernel
theorem d_L_link_8 : decode b_L_link 8 = .ok (.goto 12, 3) := by decide +kernel
theorem d_L_link_11 : decode b_L_link 11 = .ok (.astore_n 2, 1) := by decide +kernel
theorem d_L_link_12 : decode b_L_link 12 = .ok (.iconst 1, 1) := by decide +kernel
theorem d_L_link_13 : decode b_L_link 13 = .ok (.ireturn, 1) := by decide +kernel
theorem d_L_link_14 : decode b_L_link 14 = .ok (.astore_n 2, 1) := by decide +kernel
theorem d_L_link_15 : decode b_L_link 15 = .ok (.iconst 2, 1) := by decide +kernel
theorem d_L_link_16 : decode b_L_link 16 = .ok (.ireturn, 1) := by decide +kernel
theorem d_L_link_17 : decode b_L_link 17 = .ok (.astore_n 2, 1) := by decide +kernel
theorem d_L_link_18 : decode b_L_link 18 = .ok (.iconst 3, 1) := by decide +kernel
theorem d_L_link_19 : decode b_L_link 19 = .ok (.ireturn, 1) := by decide +kernel
theorem d_L_link_20 : decode b_L_link 20 = .ok (.iconst 0, 1) := by decide +kernel
theorem d_L_link_21 : decode b_L_link 21 = .ok (.ireturn, 1) := by decide +kernel
abbrev b_L_place : ByteArray := method_9_code
abbrev y_L_place : MethodName := ⟨"TwoPassLaw", "place", "(LTwoPass;II[J)I"⟩
theorem kc_L_place : (.codeWith y_L_place b_L_place 5 (some .int) [(0, 10, 13, 15), (0, 10, 17, 39)] : Cond) ∈ tp_G := tp_Gm 814 (by decide +kernel) (by decide +kernel)
def w_L_place : List Cond := .codeWith y_L_place b_L_place 5 (some .int) [(0, 10, 13, 15), (0, 10, 17, 39)] :: tp_G
theorem ks_L_place : (.static y_L_place : Cond) ∈ tp_G := tp_Gm 813 (by decide +kernel) (by decide +kernel)
theorem d_L_place_0 : decode b_L_place 0 = .ok (.aload_n 3, 1) := by decide +kernel
theorem d_L_place_1 : decode b_L_place 1 = .ok (.iconst 0, 1) := by decide +kernel
theorem d_L_place_2 : decode b_L_place 2 = .ok (.aload_n 0, 1) := by decide +kernel
theorem d_L_place_3 : decode b_L_place 3 = .ok (.iload_n 1, 1) := by decide +kernel
theorem d_L_place_4 : decode b_L_place 4 = .ok (.iload_n 2, 1) := by decide +kernel
theorem d_L_place_5 : decode b_L_place 5 = .ok (.invokevirtual 41, 3) := by decide +kernel
theorem d_L_place_8 : decode b_L_place 8 = .ok (.i2l, 1) := by decide +kernel
theorem d_L_place_9 : decode b_L_place 9 = .ok (.lastore, 1) := by decide +kernel
theorem d_L_place_10 : decode b_L_place 10 = .ok (.goto 11, 3) := by decide +kernel
theorem d_L_place_13 : decode b_L_place 13 = .ok (.astore 4, 2) := by decide +kernel
theorem d_L_place_15 : decode b_L_place 15 = .ok (.iconst 1, 1) := by decide +kernel
theorem d_L_place_16 : decode b_L_place 16 = .ok (.ireturn, 1) := by decide +kernel
theorem d_L_place_17 : decode b_L_place 17 = .ok (.astore 4, 2) := by decide +kernel
theorem d_L_place_19 : decode b_L_place 19 = .ok (.iconst 2, 1) := by decide +kernel
theorem d_L_place_20 : decode b_L_place 20 = .ok (.ireturn, 1) := by decide +kernel
theorem d_L_place_21 : decode b_L_place 21 = .ok (.iconst 0, 1) := by decide +kernel
theorem d_L_place_22 : decode b_L_place 22 = .ok (.ireturn, 1) := by decide +kernel
abbrev b_L_show : ByteArray := method_10_code
abbrev y_L_show : MethodName := ⟨"TwoPassLaw", "show", "(LTwoPass;I[J)I"⟩
theorem kc_L_show : (.codeWith y_L_show b_L_show 4 (some .int) [(0, 9, 12, 13)] : Cond) ∈ tp_G := tp_Gm 821 (by decide +kernel) (by decide +kernel)
def w_L_show : List Cond := .codeWith y_L_show b_L_show 4 (some .int) [(0, 9, 12, 13)] :: tp_G
theorem ks_L_show : (.static y_L_show : Cond) ∈ tp_G := tp_Gm 820 (by decide +kernel) (by decide +kernel)
theorem d_L_show_0 : decode b_L_show 0 = .ok (.aload_n 2, 1) := by decide +kernel
theorem d_L_show_1 : decode b_L_show 1 = .ok (.iconst 0, 1) := by decide +kernel
theorem d_L_show_2 : decode b_L_show 2 = .ok (.aload_n 0, 1) := by decide +kernel
theorem d_L_show_3 : decode b_L_show 3 = .ok (.iload_n 1, 1) := by decide +kernel
theorem d_L_show_4 : decode b_L_show 4 = .ok (.invokevirtual 45, 3) := by decide +kernel
theorem d_L_show_7 : decode b_L_show 7 = .ok (.i2l, 1) := by decide +kernel
theorem d_L_show_8 : decode b_L_show 8 = .ok (.lastore, 1) := by decide +kernel
theorem d_L_show_9 : decode b_L_show 9 = .ok (.goto 6, 3) := by decide +kernel
theorem d_L_show_12 : decode b_L_show 12 = .ok (.astore_n 3, 1) := by decide +kernel
theorem d_L_show_13 : decode b_L_show 13 = .ok (.iconst 1, 1) := by decide +kernel
theorem d_L_show_14 : decode b_L_show 14 = .ok (.ireturn, 1) := by decide +kernel
theorem d_L_show_15 : decode b_L_show 15 = .ok (.iconst 0, 1) := by decide +kernel
theorem d_L_show_16 : decode b_L_show 16 = .ok (.ireturn, 1) := by decide +kernel
abbrev b_L_type : ByteArray := method_3_code
abbrev y_L_type : MethodName := ⟨"TwoPassLaw", "type", "(LTwoPass;JI)I"⟩
theorem kc_L_type : (.codeWith y_L_type b_L_type 5 (some .int) [(0, 6, 9, 13), (0, 6, 13, 15)] : Cond) ∈ tp_G := tp_Gm 223 (by decide +kernel) (by decide +kernel)
def w_L_type : List Cond := .codeWith y_L_type b_L_type 5 (some .int) [(0, 6, 9, 13), (0, 6, 13, 15)] :: tp_G
theorem ks_L_type : (.static y_L_type : Cond) ∈ tp_G := tp_Gm 222 (by decide +kernel) (by decide +kernel)
theorem d_L_type_0 : decode b_L_type 0 = .ok (.aload_n 0, 1) := by decide +kernel
theorem d_L_type_1 : decode b_L_type 1 = .ok (.lload_n 1, 1) := by decide +kernel
theorem d_L_type_2 : decode b_L_type 2 = .ok (.iload_n 3, 1) := by decide +kernel
theorem d_L_type_3 : decode b_L_type 3 = .ok (.invokevirtual 7, 3) := by decide +kernel
theorem d_L_type_6 : decode b_L_type 6 = .ok (.goto 11, 3) := by decide +kernel
theorem d_L_type_9 : decode b_L_type 9 = .ok (.astore 4, 2) := by decide +kernel
theorem d_L_type_11 : decode b_L_type 11 = .ok (.iconst 1, 1) := by decide +kernel
theorem d_L_type_12 : decode b_L_type 12 = .ok (.ireturn, 1) := by decide +kernel
theorem d_L_type_13 : decode b_L_type 13 = .ok (.astore 4, 2) := by decide +kernel
theorem d_L_type_15 : decode b_L_type 15 = .ok (.iconst 2, 1) := by decide +kernel
theorem d_L_type_16 : decode b_L_type 16 = .ok (.ireturn, 1) := by decide +kernel
theorem d_L_type_17 : decode b_L_type 17 = .ok (.iconst 0, 1) := by decide +kernel
theorem d_L_type_18 : decode b_L_type 18 = .ok (.ireturn, 1) := by decide +kernel
theorem kl_L_13 : (.classLink "TwoPassLaw" 13 "java/lang/IllegalArgumentException" : Cond) ∈ tp_G := tp_Gm 224 (by decide +kernel) (by decide +kernel)
theorem kl_L_21 : (.methodLink "TwoPassLaw" 21 y_T_clear : Cond) ∈ tp_G := tp_Gm 620 (by decide +kernel) (by decide +kernel)
theorem kl_L_15 : (.classLink "TwoPassLaw" 15 "java/lang/IllegalStateException" : Cond) ∈ tp_G := tp_Gm 225 (by decide +kernel) (by decide +kernel)
theorem kl_L_33 : (.methodLink "TwoPassLaw" 33 y_T_far : Cond) ∈ tp_G := tp_Gm 777 (by decide +kernel) (by decide +kernel)
theorem kl_L_39 : (.classLink "TwoPassLaw" 39 "java/lang/IndexOutOfBoundsException" : Cond) ∈ tp_G := tp_Gm 788 (by decide +kernel) (by decide +kernel)
theorem kl_L_36 : (.methodLink "TwoPassLaw" 36 y_T_image : Cond) ∈ tp_G := tp_Gm 789 (by decide +kernel) (by decide +kernel)
theorem kl_L_48 : (.methodLink "TwoPassLaw" 48 y_T_letter : Cond) ∈ tp_G := tp_Gm 1120 (by decide +kernel) (by decide +kernel)
theorem kl_L_17 : (.methodLink "TwoPassLaw" 17 y_T_line : Cond) ∈ tp_G := tp_Gm 323 (by decide +kernel) (by decide +kernel)
theorem kl_L_51 : (.methodLink "TwoPassLaw" 51 y_T_lines : Cond) ∈ tp_G := tp_Gm 1137 (by decide +kernel) (by decide +kernel)
theorem kl_L_29 : (.classLink "TwoPassLaw" 29 "java/util/NoSuchElementException" : Cond) ∈ tp_G := tp_Gm 631 (by decide +kernel) (by decide +kernel)
theorem kl_L_31 : (.classLink "TwoPassLaw" 31 "java/lang/UnsupportedOperationException" : Cond) ∈ tp_G := tp_Gm 632 (by decide +kernel) (by decide +kernel)
theorem kl_L_25 : (.methodLink "TwoPassLaw" 25 y_T_link : Cond) ∈ tp_G := tp_Gm 633 (by decide +kernel) (by decide +kernel)
theorem kl_L_41 : (.methodLink "TwoPassLaw" 41 y_T_place : Cond) ∈ tp_G := tp_Gm 815 (by decide +kernel) (by decide +kernel)
theorem kl_L_45 : (.methodLink "TwoPassLaw" 45 y_T_show : Cond) ∈ tp_G := tp_Gm 822 (by decide +kernel) (by decide +kernel)
theorem kl_L_7 : (.methodLink "TwoPassLaw" 7 y_T_type : Cond) ∈ tp_G := tp_Gm 226 (by decide +kernel) (by decide +kernel)
