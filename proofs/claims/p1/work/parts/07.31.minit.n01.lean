abbrev b_M_init : ByteArray := prog_8_method_1_code
abbrev y_M_init : MethodName := ⟨"TwoPassModel", "<init>", "()V"⟩
set_option maxRecDepth 100000 in
theorem kc_M_init : (.code y_M_init b_M_init 1 none : Cond) ∈ tp_G := tp_Gm 1145 rfl rfl
def w_M_init : List Cond := .code y_M_init b_M_init 1 none :: tp_G
theorem km_M_init : (.instanceMethod y_M_init : Cond) ∈ tp_G := tp_Gm 1144 (by decide +kernel) (by decide +kernel)
