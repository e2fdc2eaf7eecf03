/-! names, by names.py -/
/-- calls of private methods of a superclass: the words that are true beside the tables -/
def tp_xs : List Cond := [.selects "java/lang/StringBuilder" ⟨"java/lang/AbstractStringBuilder", "ensureCapacityInternal", "(I)V"⟩ ⟨"java/lang/AbstractStringBuilder", "ensureCapacityInternal", "(I)V"⟩, .selects "java/lang/StringBuilder" ⟨"java/lang/AbstractStringBuilder", "newCapacity", "(I)I"⟩ ⟨"java/lang/AbstractStringBuilder", "newCapacity", "(I)I"⟩, .selects "java/lang/StringBuilder" ⟨"java/lang/AbstractStringBuilder", "inflateIfNeededFor", "(Ljava/lang/String;)V"⟩ ⟨"java/lang/AbstractStringBuilder", "inflateIfNeededFor", "(Ljava/lang/String;)V"⟩, .selects "java/lang/StringBuilder" ⟨"java/lang/AbstractStringBuilder", "putStringAt", "(ILjava/lang/String;)V"⟩ ⟨"java/lang/AbstractStringBuilder", "putStringAt", "(ILjava/lang/String;)V"⟩]
def tp_tbl : List Cond := tp_xs ++ lw_tbl
def tp_G : List Cond := tp_tbl.filter goodWord
theorem tp_Gm {w : Cond} (i : Nat) (h : tp_tbl[i]? = some w) (g : goodWord w = true) : w ∈ tp_G := List.mem_filter.mpr ⟨List.mem_of_getElem? h, g⟩
theorem tp_Gg {w : Cond} (h : w ∈ tp_G) : (w.onTables && w.keeps) = true ∨ ∃ ty, w = .arrayClass ty := good_of_word (List.mem_filter.mp h).2
theorem tp_good {a b : Cond} (hb : b ∈ tp_G) : GoodIn (a :: tp_G) (b :: tp_G) := fun w hw => by
  have h : w ∈ tp_G := (List.mem_cons.mp hw).elim (fun e => e ▸ hb) id
  exact ⟨List.mem_cons_of_mem _ h, tp_Gg h⟩
def qR_T : String := "TwoPass"
def qF_T : u_T := fun k => match k with
  | 0 => ("TwoPass", "typed", "LTwoPass$Typed;", true)
  | 1 => ("TwoPass", "sources", "[LTwoPass$Source;", true)
  | 2 => ("TwoPass", "written", "Ljava/lang/StringBuilder;", true)
  | 3 => ("TwoPass", "linked", "Z", false)
  | _ => ("TwoPass", "length", "I", false)
def qt_T : Nat → FieldType := fun k => match k with
  | 0 => .object "TwoPass$Typed"
  | 1 => .array (.object "TwoPass$Source")
  | 2 => .object "java/lang/StringBuilder"
  | 3 => .boolean
  | _ => .int
theorem qn_T : ∀ a, a < 5 → ∀ b, b < 5 → a ≠ b → (qF_T a).2.1 ≠ (qF_T b).2.1 := by decide +kernel
theorem qt_T_ok : ∀ k, k < 5 → parseFieldDescriptor (qF_T k).2.2.1 = some (qt_T k) := by decide +kernel
theorem qi_T : ∀ w ∈ u_ws qR_T qF_T 5, w ∈ tp_G := by decide +kernel
theorem kn_T : (.instantiable "TwoPass" 5 : Cond) ∈ tp_G := tp_Gm 100 (by decide +kernel) (by decide +kernel)
def qR_Y : String := "TwoPass$Typed"
def qF_Y : u_T := fun k => match k with
  | 0 => ("TwoPass$Typed", "characters", "[C", true)
  | 1 => ("TwoPass$Typed", "count", "I", false)
  | 2 => ("TwoPass$Typed", "end", "I", false)
  | 3 => ("TwoPass$Typed", "at", "I", false)
  | 4 => ("TwoPass$Typed", "wordStart", "I", false)
  | _ => ("TwoPass$Typed", "wordEnd", "I", false)
def qt_Y : Nat → FieldType := fun k => match k with
  | 0 => (.array .char)
  | 1 => .int
  | 2 => .int
  | 3 => .int
  | 4 => .int
  | _ => .int
theorem qn_Y : ∀ a, a < 6 → ∀ b, b < 6 → a ≠ b → (qF_Y a).2.1 ≠ (qF_Y b).2.1 := by decide +kernel
theorem qt_Y_ok : ∀ k, k < 6 → parseFieldDescriptor (qF_Y k).2.2.1 = some (qt_Y k) := by decide +kernel
theorem qi_Y : ∀ w ∈ u_ws qR_Y qF_Y 6, w ∈ tp_G := by decide +kernel
theorem kn_Y : (.instantiable "TwoPass$Typed" 6 : Cond) ∈ tp_G := tp_Gm 108 (by decide +kernel) (by decide +kernel)
def qR_S : String := "TwoPass$Source"
def qF_S : u_T := fun k => match k with
  | _ => ("TwoPass$Source", "rows", "Ljava/util/ArrayList;", true)
def qt_S : Nat → FieldType := fun k => match k with
  | _ => .object "java/util/ArrayList"
theorem qn_S : ∀ a, a < 1 → ∀ b, b < 1 → a ≠ b → (qF_S a).2.1 ≠ (qF_S b).2.1 := by decide +kernel
theorem qt_S_ok : ∀ k, k < 1 → parseFieldDescriptor (qF_S k).2.2.1 = some (qt_S k) := by decide +kernel
theorem qi_S : ∀ w ∈ u_ws qR_S qF_S 1, w ∈ tp_G := by decide +kernel
theorem kn_S : (.instantiable "TwoPass$Source" 1 : Cond) ∈ tp_G := tp_Gm 136 (by decide +kernel) (by decide +kernel)
def qR_N : String := "TwoPass$Line"
def qF_N : u_T := fun k => match k with
  | 0 => ("TwoPass$Line", "label", "I", false)
  | 1 => ("TwoPass$Line", "operation", "LTwoPass$Operation;", false)
  | 2 => ("TwoPass$Line", "d", "I", false)
  | 3 => ("TwoPass$Line", "s", "I", false)
  | 4 => ("TwoPass$Line", "t", "I", false)
  | 5 => ("TwoPass$Line", "number", "J", false)
  | 6 => ("TwoPass$Line", "name", "I", false)
  | 7 => ("TwoPass$Line", "start", "I", false)
  | 8 => ("TwoPass$Line", "isFar", "Z", false)
  | 9 => ("TwoPass$Line", "firstWord", "I", false)
  | _ => ("TwoPass$Line", "secondWord", "I", false)
def qt_N : Nat → FieldType := fun k => match k with
  | 0 => .int
  | 1 => .object "TwoPass$Operation"
  | 2 => .int
  | 3 => .int
  | 4 => .int
  | 5 => .long
  | 6 => .int
  | 7 => .int
  | 8 => .boolean
  | 9 => .int
  | _ => .int
theorem qn_N : ∀ a, a < 11 → ∀ b, b < 11 → a ≠ b → (qF_N a).2.1 ≠ (qF_N b).2.1 := by decide +kernel
theorem qt_N_ok : ∀ k, k < 11 → parseFieldDescriptor (qF_N k).2.2.1 = some (qt_N k) := by decide +kernel
theorem qi_N : ∀ w ∈ u_ws qR_N qF_N 11, w ∈ tp_G := by decide +kernel
theorem kn_N : (.instantiable "TwoPass$Line" 11 : Cond) ∈ tp_G := tp_Gm 342 (by decide +kernel) (by decide +kernel)
def qR_M : String := "TwoPassModel"
def qF_M : u_T := fun k => match k with
  | 0 => ("TwoPassModel", "thrown", "I", false)
  | 1 => ("TwoPassModel", "names", "[J", true)
  | 2 => ("TwoPassModel", "forms", "[I", true)
  | 3 => ("TwoPassModel", "size", "I", false)
  | 4 => ("TwoPassModel", "text", "[I", true)
  | 5 => ("TwoPassModel", "bad", "Z", false)
  | 6 => ("TwoPassModel", "at", "I", false)
  | 7 => ("TwoPassModel", "length", "I", false)
  | 8 => ("TwoPassModel", "word", "[I", true)
  | 9 => ("TwoPassModel", "form", "I", false)
  | 10 => ("TwoPassModel", "code", "I", false)
  | 11 => ("TwoPassModel", "d", "I", false)
  | 12 => ("TwoPassModel", "s", "I", false)
  | 13 => ("TwoPassModel", "t", "I", false)
  | 14 => ("TwoPassModel", "value", "J", false)
  | 15 => ("TwoPassModel", "label", "J", false)
  | 16 => ("TwoPassModel", "name", "J", false)
  | 17 => ("TwoPassModel", "count", "[I", true)
  | 18 => ("TwoPassModel", "formOf", "[I", true)
  | 19 => ("TwoPassModel", "codeOf", "[I", true)
  | 20 => ("TwoPassModel", "dOf", "[I", true)
  | 21 => ("TwoPassModel", "sOf", "[I", true)
  | 22 => ("TwoPassModel", "tOf", "[I", true)
  | 23 => ("TwoPassModel", "valueOf", "[J", true)
  | 24 => ("TwoPassModel", "labelOf", "[J", true)
  | 25 => ("TwoPassModel", "nameOf", "[J", true)
  | 26 => ("TwoPassModel", "target", "[I", true)
  | 27 => ("TwoPassModel", "place", "[I", true)
  | 28 => ("TwoPassModel", "far", "[Z", true)
  | 29 => ("TwoPassModel", "imageSize", "I", false)
  | 30 => ("TwoPassModel", "farCount", "I", false)
  | 31 => ("TwoPassModel", "image", "[I", true)
  | 32 => ("TwoPassModel", "written", "I", false)
  | _ => ("TwoPassModel", "out", "[I", true)
def qt_M : Nat → FieldType := fun k => match k with
  | 0 => .int
  | 1 => (.array .long)
  | 2 => (.array .int)
  | 3 => .int
  | 4 => (.array .int)
  | 5 => .boolean
  | 6 => .int
  | 7 => .int
  | 8 => (.array .int)
  | 9 => .int
  | 10 => .int
  | 11 => .int
  | 12 => .int
  | 13 => .int
  | 14 => .long
  | 15 => .long
  | 16 => .long
  | 17 => (.array .int)
  | 18 => (.array .int)
  | 19 => (.array .int)
  | 20 => (.array .int)
  | 21 => (.array .int)
  | 22 => (.array .int)
  | 23 => (.array .long)
  | 24 => (.array .long)
  | 25 => (.array .long)
  | 26 => (.array .int)
  | 27 => (.array .int)
  | 28 => (.array .boolean)
  | 29 => .int
  | 30 => .int
  | 31 => (.array .int)
  | 32 => .int
  | _ => (.array .int)
theorem qn_M : ∀ a, a < 34 → ∀ b, b < 34 → a ≠ b → (qF_M a).2.1 ≠ (qF_M b).2.1 := by decide +kernel
theorem qt_M_ok : ∀ k, k < 34 → parseFieldDescriptor (qF_M k).2.2.1 = some (qt_M k) := by decide +kernel
theorem qi_M : ∀ w ∈ u_ws qR_M qF_M 34, w ∈ tp_G := by decide +kernel
theorem kn_M : (.instantiable "TwoPassModel" 34 : Cond) ∈ tp_G := tp_Gm 1142 (by decide +kernel) (by decide +kernel)
def qR_AL : String := "java/util/ArrayList"
def qF_AL : u_T := fun k => match k with
  | 0 => ("java/util/AbstractList", "modCount", "I", false)
  | 1 => ("java/util/ArrayList", "elementData", "[Ljava/lang/Object;", false)
  | _ => ("java/util/ArrayList", "size", "I", false)
def qt_AL : Nat → FieldType := fun k => match k with
  | 0 => .int
  | 1 => .array (.object "java/lang/Object")
  | _ => .int
theorem qn_AL : ∀ a, a < 3 → ∀ b, b < 3 → a ≠ b → (qF_AL a).2.1 ≠ (qF_AL b).2.1 := by decide +kernel
theorem qt_AL_ok : ∀ k, k < 3 → parseFieldDescriptor (qF_AL k).2.2.1 = some (qt_AL k) := by decide +kernel
theorem qi_AL : ∀ w ∈ u_ws qR_AL qF_AL 3, w ∈ tp_G := by decide +kernel
theorem kn_AL : (.instantiable "java/util/ArrayList" 3 : Cond) ∈ tp_G := tp_Gm 142 (by decide +kernel) (by decide +kernel)
def qR_SB : String := "java/lang/StringBuilder"
def qF_SB : u_T := fun k => match k with
  | 0 => ("java/lang/AbstractStringBuilder", "value", "[B", false)
  | 1 => ("java/lang/AbstractStringBuilder", "coder", "B", false)
  | 2 => ("java/lang/AbstractStringBuilder", "maybeLatin1", "Z", false)
  | _ => ("java/lang/AbstractStringBuilder", "count", "I", false)
def qt_SB : Nat → FieldType := fun k => match k with
  | 0 => (.array .byte)
  | 1 => .byte
  | 2 => .boolean
  | _ => .int
theorem qn_SB : ∀ a, a < 4 → ∀ b, b < 4 → a ≠ b → (qF_SB a).2.1 ≠ (qF_SB b).2.1 := by decide +kernel
theorem qt_SB_ok : ∀ k, k < 4 → parseFieldDescriptor (qF_SB k).2.2.1 = some (qt_SB k) := by decide +kernel
theorem qi_SB : ∀ w ∈ u_ws qR_SB qF_SB 4, w ∈ tp_G := by decide +kernel
theorem kn_SB : (.instantiable "java/lang/StringBuilder" 4 : Cond) ∈ tp_G := tp_Gm 173 (by decide +kernel) (by decide +kernel)
abbrev tp_cl : List vw_C := [(qR_T, qF_T, 5), (qR_Y, qF_Y, 6), (qR_S, qF_S, 1), (qR_N, qF_N, 11), (qR_M, qF_M, 34), (qR_AL, qF_AL, 3), (qR_SB, qF_SB, 4)]
theorem ki_T : (.initialized "TwoPass" : Cond) ∈ tp_G := tp_Gm 66 (by decide +kernel) (by decide +kernel)
theorem ki_C : (.initialized "TwoPass$Code" : Cond) ∈ tp_G := tp_Gm 93 (by decide +kernel) (by decide +kernel)
theorem ki_N : (.initialized "TwoPass$Line" : Cond) ∈ tp_G := tp_Gm 82 (by decide +kernel) (by decide +kernel)
theorem ki_O : (.initialized "TwoPass$Operation" : Cond) ∈ tp_G := tp_Gm 84 (by decide +kernel) (by decide +kernel)
theorem ki_S : (.initialized "TwoPass$Source" : Cond) ∈ tp_G := tp_Gm 68 (by decide +kernel) (by decide +kernel)
theorem ki_Y : (.initialized "TwoPass$Typed" : Cond) ∈ tp_G := tp_Gm 67 (by decide +kernel) (by decide +kernel)
theorem ki_L : (.initialized "TwoPassLaw" : Cond) ∈ tp_G := tp_Gm 65 (by decide +kernel) (by decide +kernel)
theorem ki_M : (.initialized "TwoPassModel" : Cond) ∈ tp_G := tp_Gm 76 (by decide +kernel) (by decide +kernel)
theorem ki_AS : (.initialized "java/lang/AbstractStringBuilder" : Cond) ∈ tp_G := tp_Gm 72 (by decide +kernel) (by decide +kernel)
theorem ki_IN : (.initialized "java/lang/Integer" : Cond) ∈ tp_G := tp_Gm 97 (by decide +kernel) (by decide +kernel)
theorem ki_MA : (.initialized "java/lang/Math" : Cond) ∈ tp_G := tp_Gm 89 (by decide +kernel) (by decide +kernel)
theorem ki_ST : (.initialized "java/lang/String" : Cond) ∈ tp_G := tp_Gm 74 (by decide +kernel) (by decide +kernel)
theorem ki_SB : (.initialized "java/lang/StringBuilder" : Cond) ∈ tp_G := tp_Gm 73 (by decide +kernel) (by decide +kernel)
theorem ki_SL : (.initialized "java/lang/StringLatin1" : Cond) ∈ tp_G := tp_Gm 85 (by decide +kernel) (by decide +kernel)
theorem ki_SU : (.initialized "java/lang/StringUTF16" : Cond) ∈ tp_G := tp_Gm 75 (by decide +kernel) (by decide +kernel)
theorem ki_SY : (.initialized "java/lang/System" : Cond) ∈ tp_G := tp_Gm 91 (by decide +kernel) (by decide +kernel)
theorem ki_TH : (.initialized "java/lang/Throwable" : Cond) ∈ tp_G := tp_Gm 77 (by decide +kernel) (by decide +kernel)
theorem ki_AC : (.initialized "java/util/AbstractCollection" : Cond) ∈ tp_G := tp_Gm 69 (by decide +kernel) (by decide +kernel)
theorem ki_AB : (.initialized "java/util/AbstractList" : Cond) ∈ tp_G := tp_Gm 70 (by decide +kernel) (by decide +kernel)
theorem ki_AL : (.initialized "java/util/ArrayList" : Cond) ∈ tp_G := tp_Gm 71 (by decide +kernel) (by decide +kernel)
theorem ki_AR : (.initialized "java/util/Arrays" : Cond) ∈ tp_G := tp_Gm 90 (by decide +kernel) (by decide +kernel)
theorem ki_OB : (.initialized "java/util/Objects" : Cond) ∈ tp_G := tp_Gm 87 (by decide +kernel) (by decide +kernel)
theorem ki_AU : (.initialized "jdk/internal/util/ArraysSupport" : Cond) ∈ tp_G := tp_Gm 88 (by decide +kernel) (by decide +kernel)
theorem ki_PR : (.initialized "jdk/internal/util/Preconditions" : Cond) ∈ tp_G := tp_Gm 86 (by decide +kernel) (by decide +kernel)
theorem kar_I : (.arrayClass .int : Cond) ∈ tp_G := tp_Gm 1343 (by decide +kernel) (by decide +kernel)
theorem kar_J : (.arrayClass .long : Cond) ∈ tp_G := tp_Gm 1342 (by decide +kernel) (by decide +kernel)
theorem kar_Z : (.arrayClass .boolean : Cond) ∈ tp_G := tp_Gm 1344 (by decide +kernel) (by decide +kernel)
theorem kar_B : (.arrayClass .byte : Cond) ∈ tp_G := tp_Gm 204 (by decide +kernel) (by decide +kernel)
theorem kar_C : (.arrayClass .char : Cond) ∈ tp_G := tp_Gm 133 (by decide +kernel) (by decide +kernel)
theorem kc_obj : (.code objectInit ⟨#[0xb1]⟩ 1 none : Cond) ∈ tp_G := tp_Gm 106 (by decide +kernel) (by decide +kernel)
theorem km_obj : (.instanceMethod objectInit : Cond) ∈ tp_G := tp_Gm 105 (by decide +kernel) (by decide +kernel)
