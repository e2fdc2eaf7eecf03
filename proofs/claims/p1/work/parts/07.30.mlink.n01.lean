abbrev b_M_link : ByteArray := prog_8_method_33_code
abbrev y_M_link : MethodName := ⟨"TwoPassModel", "link", "()I"⟩
set_option maxRecDepth 100000 in
theorem kc_M_link : (.code y_M_link b_M_link 4 (some .int) : Cond) ∈ tp_G := tp_Gm 1462 rfl rfl
def w_M_link : List Cond := .code y_M_link b_M_link 4 (some .int) :: tp_G
theorem km_M_link : (.instanceMethod y_M_link : Cond) ∈ tp_G := tp_Gm 1460 (by decide +kernel) (by decide +kernel)
theorem kv_M_M_link : (.selects "TwoPassModel" y_M_link y_M_link : Cond) ∈ tp_G := tp_Gm 1461 (by decide +kernel) (by decide +kernel)
