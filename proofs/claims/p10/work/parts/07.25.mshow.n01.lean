abbrev b_M_show : ByteArray := prog_8_method_50_code
abbrev y_M_show : MethodName := ⟨"TwoPassModel", "show", "(I)I"⟩
set_option maxRecDepth 100000 in
theorem kc_M_show : (.code y_M_show b_M_show 9 (some .int) : Cond) ∈ tp_G := tp_Gm 1535 rfl rfl
def w_M_show : List Cond := .code y_M_show b_M_show 9 (some .int) :: tp_G
theorem km_M_show : (.instanceMethod y_M_show : Cond) ∈ tp_G := tp_Gm 1533 (by decide +kernel) (by decide +kernel)
theorem kv_M_M_show : (.selects "TwoPassModel" y_M_show y_M_show : Cond) ∈ tp_G := tp_Gm 1534 (by decide +kernel) (by decide +kernel)
