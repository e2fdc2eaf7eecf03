/-! The worlds of this proof: an environment (class numbers, slots, array classes), a list of cells in front of a frame of any others. A contract takes the whole world and gives the whole world back. -/
theorem tp_good0 {b : Cond} (hb : b ∈ tp_G) : GoodIn tp_G (b :: tp_G) := fun w hw => by
  have h : w ∈ tp_G := (List.mem_cons.mp hw).elim (fun e => e ▸ hb) id
  exact ⟨h, tp_Gg h⟩
abbrev tp_Env : Type := (Nat → ClassId) × (Nat → Nat → Nat) × (Nat → ClassId) × (Nat → Nat)
/-- the array classes, the addresses of the constants -/
abbrev tp_ty (E : tp_Env) : Nat → ClassId := E.2.2.1
abbrev tp_ad (E : tp_Env) : Nat → Nat := E.2.2.2
abbrev tp_D (E : tp_Env) : va_G := (E.1, E.2.1)
abbrev tp_tys (E : tp_Env) : List (ClassId × FieldType) := [(tp_ty E 0, .int), (tp_ty E 1, .long), (tp_ty E 2, .boolean), (tp_ty E 3, .byte), (tp_ty E 4, .char), (tp_ty E 5, .object "java/lang/Object"), (tp_ty E 6, .object "TwoPass$Source")]
/-- words of the tables that are carried beside the good ones -/
def tp_isB (w : Cond) : Bool := match w with
  | .castable _ _ => true
  | .declares _ => true
  | .methodLinkNest _ _ _ _ => true
  | .fieldLinkNest _ _ _ _ _ _ => true
  | _ => false
def tp_Bd : List Cond := lw_tbl.filter tp_isB
def tp_N (U : State) : Prop := ∀ w ∈ tp_Bd, va_Nw w U
theorem tp_Bo {w : Cond} (h : tp_isB w = true) : w.onTables = true := by
  cases w <;> first | rfl | (simp [tp_isB] at h)
theorem tp_N.warm {s U : State} (hW : s.WarmedH U.vm) (h : tp_N s) : tp_N U := fun w hw => by
  have h1 := h w hw
  have hb : tp_isB w = true := (List.mem_filter.mp hw).2
  cases w <;> first | exact va_Nw.warmC hW h1 | exact va_Nw.warmD hW h1 | exact va_Nw.warmM hW h1 | exact va_Nw.warmF hW h1 | (simp [tp_isB] at hb)
theorem tp_N.same {s U : State} (h : s.vm = U.vm) (hN : tp_N s) : tp_N U := fun w hw => va_Nw.same (tp_Bo (List.mem_filter.mp hw).2) h (hN w hw)
theorem tp_N.use {w : Cond} {args : Array Value} {s : State} (hN : tp_N s) (h : w ∈ tp_Bd) : w.before args s = true := va_Nw.use (tp_Bo (List.mem_filter.mp h).2) (hN w h)
/-- string i of the program: texts 0 .. 46, operands 47 .. 93 -/
def tp_Str (E : tp_Env) (A : Nat → Prop) (U : State) (H : Heap) : Prop := ∀ i : Nat, i < 97 →
  va_O "java/lang/String" (tp_ad E (200 + i)) A U H ∧ va_OF "java/lang/String" "coder" "B" (.int 0) (tp_ad E (200 + i)) A U H ∧ va_OF "java/lang/String" "value" "[B" (.ref (tp_ad E (400 + i))) (tp_ad E (200 + i)) A U H ∧ va_T .byte (tp_ad E (400 + i)) (tp_len.getD i 0) (fun j => .int ((tp_byt.getD i []).getD j 0)) A U H
theorem tp_Str.moved {E : tp_Env} {A : Nat → Prop} {u U : State} {H : Heap} (hv : u.vm.Alike U.vm) (h : tp_Str E A u H) : tp_Str E A U H := fun i hi => ⟨va_O.moved hv (h i hi).1, va_OF.moved hv (h i hi).2.1, va_OF.moved hv (h i hi).2.2.1, va_T.moved hv (h i hi).2.2.2⟩
theorem tp_Str.kept {E : tp_Env} {A : Nat → Prop} {U : State} {H H1 : Heap} (h : tp_Str E A U H) (hq : ∀ a : Nat, a < H.size → ¬ A a → H1[a]? = H[a]?) : tp_Str E A U H1 := fun i hi => ⟨va_O.kept (h i hi).1 hq, va_OF.kept (h i hi).2.1 hq, va_OF.kept (h i hi).2.2.1 hq, va_T.kept (h i hi).2.2.2 hq⟩
theorem tp_Str.narrow {E : tp_Env} {A B : Nat → Prop} {U : State} {H : Heap} (h : tp_Str E A U H) (hAB : ∀ q, B q → A q) : tp_Str E B U H := fun i hi => ⟨va_O.narrow (h i hi).1 hAB, va_OF.narrow (h i hi).2.1 hAB, va_OF.narrow (h i hi).2.2.1 hAB, va_T.narrow (h i hi).2.2.2 hAB⟩
abbrev tp_opF : List (String × String × String × List Int32) := [("TwoPass$Operation", "layout", "I", tp_lay), ("TwoPass$Operation", "code", "I", tp_cod)]
/-- the tables of digits, the formatter of a bad index -/
def tp_Dig (E : tp_Env) (A : Nat → Prop) (U : State) (H : Heap) : Prop :=
  va_Z "java/lang/Integer" "DigitOnes" "[B" (.ref (tp_ad E 102)) A U H ∧ va_T .byte (tp_ad E 102) 100 (fun j => .int (tp_ones.getD j 0)) A U H ∧
  va_Z "java/lang/Integer" "DigitTens" "[B" (.ref (tp_ad E 103)) A U H ∧ va_T .byte (tp_ad E 103) 100 (fun j => .int (tp_tens.getD j 0)) A U H ∧
  va_Zq "jdk/internal/util/Preconditions" "SIOOBE_FORMATTER" "Ljava/util/function/BiFunction;" A U H
theorem tp_Dig.moved {E : tp_Env} {A : Nat → Prop} {u U : State} {H : Heap} (hv : u.vm.Alike U.vm) (h : tp_Dig E A u H) : tp_Dig E A U H := ⟨va_Z.moved hv h.1, va_T.moved hv h.2.1, va_Z.moved hv h.2.2.1, va_T.moved hv h.2.2.2.1, va_Zq.moved hv h.2.2.2.2⟩
theorem tp_Dig.kept {E : tp_Env} {A : Nat → Prop} {U : State} {H H1 : Heap} (h : tp_Dig E A U H) (hq : ∀ a : Nat, a < H.size → ¬ A a → H1[a]? = H[a]?) : tp_Dig E A U H1 := ⟨va_Z.kept h.1 hq, va_T.kept h.2.1 hq, va_Z.kept h.2.2.1 hq, va_T.kept h.2.2.2.1 hq, va_Zq.kept h.2.2.2.2 hq⟩
theorem tp_Dig.narrow {E : tp_Env} {A B : Nat → Prop} {U : State} {H : Heap} (h : tp_Dig E A U H) (hAB : ∀ q, B q → A q) : tp_Dig E B U H := ⟨va_Z.narrow h.1 hAB, va_T.narrow h.2.1 hAB, va_Z.narrow h.2.2.1 hAB, va_T.narrow h.2.2.2.1 hAB, va_Zq.narrow h.2.2.2.2 hAB⟩
/-- the operations: statics, fields, the list of all -/
def tp_Ops (E : tp_Env) (A : Nat → Prop) (U : State) (H : Heap) : Prop :=
  va_En "TwoPass$Operation" "LTwoPass$Operation;" tp_opn tp_opF (tp_ad E) A U H ∧
  va_Ef 47 "TwoPass$Operation" "text" "Ljava/lang/String;" (fun i => .ref (tp_ad E (200 + i))) (tp_ad E) A U H ∧
  va_Ef 47 "TwoPass$Operation" "operands" "Ljava/lang/String;" (fun i => .ref (tp_ad E (200 + (47 + i)))) (tp_ad E) A U H ∧
  va_Z "TwoPass" "OPERATIONS" "[LTwoPass$Operation;" (.ref (tp_ad E 101)) A U H ∧ va_T (.object "TwoPass$Operation") (tp_ad E 101) 47 (fun j => .ref (tp_ad E j)) A U H
theorem tp_Ops.moved {E : tp_Env} {A : Nat → Prop} {u U : State} {H : Heap} (hv : u.vm.Alike U.vm) (h : tp_Ops E A u H) : tp_Ops E A U H := ⟨va_En.moved hv h.1, va_Ef.moved hv h.2.1, va_Ef.moved hv h.2.2.1, va_Z.moved hv h.2.2.2.1, va_T.moved hv h.2.2.2.2⟩
theorem tp_Ops.kept {E : tp_Env} {A : Nat → Prop} {U : State} {H H1 : Heap} (h : tp_Ops E A U H) (hq : ∀ a : Nat, a < H.size → ¬ A a → H1[a]? = H[a]?) : tp_Ops E A U H1 := ⟨va_En.kept h.1 hq, va_Ef.kept h.2.1 hq, va_Ef.kept h.2.2.1 hq, va_Z.kept h.2.2.2.1 hq, va_T.kept h.2.2.2.2 hq⟩
theorem tp_Ops.narrow {E : tp_Env} {A B : Nat → Prop} {U : State} {H : Heap} (h : tp_Ops E A U H) (hAB : ∀ q, B q → A q) : tp_Ops E B U H := ⟨va_En.narrow h.1 hAB, va_Ef.narrow h.2.1 hAB, va_Ef.narrow h.2.2.1 hAB, va_Z.narrow h.2.2.2.1 hAB, va_T.narrow h.2.2.2.2 hAB⟩
/-- the constants: statics and what they hold, outside A -/
def tp_C (E : tp_Env) (A : Nat → Prop) (U : State) (H : Heap) : Prop :=
  va_Z "java/lang/String" "COMPACT_STRINGS" "Z" (.int 1) A U H ∧
  va_Z "java/util/ArrayList" "DEFAULTCAPACITY_EMPTY_ELEMENTDATA" "[Ljava/lang/Object;" (.ref (tp_ad E 100)) A U H ∧
  va_T (.object "java/lang/Object") (tp_ad E 100) 0 (fun _ => .null) A U H ∧ tp_Ops E A U H ∧ tp_Str E A U H ∧ tp_Dig E A U H
theorem tp_C.moved {E : tp_Env} {A : Nat → Prop} {u U : State} {H : Heap} (hv : u.vm.Alike U.vm) (h : tp_C E A u H) : tp_C E A U H := ⟨va_Z.moved hv h.1, va_Z.moved hv h.2.1, va_T.moved hv h.2.2.1, tp_Ops.moved hv h.2.2.2.1, tp_Str.moved hv h.2.2.2.2.1, tp_Dig.moved hv h.2.2.2.2.2⟩
theorem tp_C.kept {E : tp_Env} {A : Nat → Prop} {U : State} {H H1 : Heap} (h : tp_C E A U H) (hq : ∀ a : Nat, a < H.size → ¬ A a → H1[a]? = H[a]?) : tp_C E A U H1 := ⟨va_Z.kept h.1 hq, va_Z.kept h.2.1 hq, va_T.kept h.2.2.1 hq, tp_Ops.kept h.2.2.2.1 hq, tp_Str.kept h.2.2.2.2.1 hq, tp_Dig.kept h.2.2.2.2.2 hq⟩
theorem tp_C.narrow {E : tp_Env} {A B : Nat → Prop} {U : State} {H : Heap} (h : tp_C E A U H) (hAB : ∀ q, B q → A q) : tp_C E B U H := ⟨va_Z.narrow h.1 hAB, va_Z.narrow h.2.1 hAB, va_T.narrow h.2.2.1 hAB, tp_Ops.narrow h.2.2.2.1 hAB, tp_Str.narrow h.2.2.2.2.1 hAB, tp_Dig.narrow h.2.2.2.2.2 hAB⟩
/-- exceptions that one catch does not take -/
def tp_X (U : State) : Prop := va_Nc "java/lang/IllegalStateException" "java/lang/IllegalArgumentException" U ∧ va_Nc "java/lang/IllegalStateException" "java/util/NoSuchElementException" U ∧ va_Nc "java/lang/UnsupportedOperationException" "java/util/NoSuchElementException" U ∧ va_Nc "java/lang/UnsupportedOperationException" "java/lang/IllegalStateException" U ∧ va_Nc "java/lang/IndexOutOfBoundsException" "java/lang/IllegalStateException" U
theorem tp_X.moved {u U : State} (hv : u.vm.Alike U.vm) (h : tp_X u) : tp_X U := ⟨va_Nc.moved hv h.1, va_Nc.moved hv h.2.1, va_Nc.moved hv h.2.2.1, va_Nc.moved hv h.2.2.2.1, va_Nc.moved hv h.2.2.2.2⟩
def tp_R (E : tp_Env) (U : State) : Prop := vk_R "TwoPass$Typed" 135 "zero" (tp_ad E (200 + 94)) U ∧ vk_R "TwoPass$Typed" 137 "ra" (tp_ad E (200 + 95)) U ∧ vk_R "TwoPass$Typed" 139 "sp" (tp_ad E (200 + 96)) U ∧ va_Mi "[Ljava/lang/Object;" (tp_ad E 105) U ∧ tp_X U
theorem tp_R.warm {E : tp_Env} {u U : State} (hW : u.WarmedH U.vm) (h : tp_R E u) : tp_R E U := ⟨vk_R.warm hW h.1, vk_R.warm hW h.2.1, vk_R.warm hW h.2.2.1, va_Mi.moved hW.alike h.2.2.2.1, h.2.2.2.2.moved hW.alike⟩
theorem tp_R.same {E : tp_Env} {u U : State} (hv : u.vm = U.vm) (h : tp_R E u) : tp_R E U := by
  have ha : u.vm.Alike U.vm := by rw [hv]; exact Vm.Alike.refl U.vm
  exact ⟨vk_R.same hv.symm h.1, vk_R.same hv.symm h.2.1, vk_R.same hv.symm h.2.2.1, va_Mi.moved ha h.2.2.2.1, h.2.2.2.2.moved ha⟩
/-- what holds of the tables, and of the cells outside A -/
def tp_K (E : tp_Env) (A : Nat → Prop) (U : State) (H : Heap) : Prop := va_K (tp_D E) tp_cl (tp_tys E) U ∧
  vx_Zq Bundle.tN "UNASSIGNED_STACK" Bundle.steD A U H ∧ vx_Zq Bundle.tN "SUPPRESSED_SENTINEL" Bundle.listD A U H ∧ tp_N U ∧ va_AO "TwoPass$Source" U ∧ va_AO "java/lang/Object" U ∧ tp_C E A U H ∧ tp_R E U
theorem tp_K.warm {E : tp_Env} {A : Nat → Prop} {u U : State} {H : Heap} (hW : u.WarmedH U.vm) (h : tp_K E A u H) : tp_K E A U H :=
  ⟨va_K.moved hW.alike h.1, vx_Zq.moved hW.alike h.2.1, vx_Zq.moved hW.alike h.2.2.1, tp_N.warm hW h.2.2.2.1, va_AO.moved hW.alike h.2.2.2.2.1, va_AO.moved hW.alike h.2.2.2.2.2.1, h.2.2.2.2.2.2.1.moved hW.alike, h.2.2.2.2.2.2.2.warm hW⟩
theorem tp_K.same {E : tp_Env} {A : Nat → Prop} {u U : State} {H : Heap} (hv : u.vm = U.vm) (h : tp_K E A u H) : tp_K E A U H := by
  have ha : u.vm.Alike U.vm := by rw [hv]; exact Vm.Alike.refl U.vm
  exact ⟨va_K.moved ha h.1, vx_Zq.moved ha h.2.1, vx_Zq.moved ha h.2.2.1, tp_N.same hv h.2.2.2.1, va_AO.moved ha h.2.2.2.2.1, va_AO.moved ha h.2.2.2.2.2.1, h.2.2.2.2.2.2.1.moved ha, h.2.2.2.2.2.2.2.same hv⟩
theorem tp_K.kept {E : tp_Env} {A : Nat → Prop} {U : State} {H H1 : Heap} (h : tp_K E A U H) (hq : ∀ a : Nat, a < H.size → ¬ A a → H1[a]? = H[a]?) : tp_K E A U H1 := ⟨h.1, vx_Zq.kept h.2.1 hq, vx_Zq.kept h.2.2.1 hq, h.2.2.2.1, h.2.2.2.2.1, h.2.2.2.2.2.1, h.2.2.2.2.2.2.1.kept hq, h.2.2.2.2.2.2.2⟩
theorem tp_K.narrow {E : tp_Env} {A B : Nat → Prop} {U : State} {H : Heap} (h : tp_K E A U H) (hAB : ∀ q, B q → A q) : tp_K E B U H := ⟨h.1, vx_Zq.narrow h.2.1 hAB, vx_Zq.narrow h.2.2.1 hAB, h.2.2.2.1, h.2.2.2.2.1, h.2.2.2.2.2.1, h.2.2.2.2.2.2.1.narrow hAB, h.2.2.2.2.2.2.2⟩
theorem tp_K.C {E : tp_Env} {A : Nat → Prop} {U : State} {H : Heap} (h : tp_K E A U H) : tp_C E A U H := h.2.2.2.2.2.2.1
theorem tp_K.R {E : tp_Env} {A : Nat → Prop} {U : State} {H : Heap} (h : tp_K E A U H) : tp_R E U := h.2.2.2.2.2.2.2
section TPK
variable {E : tp_Env} {A : Nat → Prop} {U : State} {H : Heap} {i : Nat}
theorem tp_K.empT (h : tp_K E A U H) : va_T (.object "java/lang/Object") (tp_ad E 100) 0 (fun _ => .null) A U H := h.C.2.2.1
theorem tp_K.lay (h : tp_K E A U H) (hi : i < 47) : va_OF "TwoPass$Operation" "layout" "I" (.int (tp_lay.getD i 0)) (tp_ad E i) A U H := (h.C.2.2.2.1.1.1 i hi).2.2 ("TwoPass$Operation", "layout", "I", tp_lay) List.mem_cons_self
theorem tp_K.cod (h : tp_K E A U H) (hi : i < 47) : va_OF "TwoPass$Operation" "code" "I" (.int (tp_cod.getD i 0)) (tp_ad E i) A U H := (h.C.2.2.2.1.1.1 i hi).2.2 ("TwoPass$Operation", "code", "I", tp_cod) (List.mem_cons_of_mem _ List.mem_cons_self)
theorem tp_K.opZ (h : tp_K E A U H) (hi : i < 47) : va_Z "TwoPass$Operation" (tp_opn.getD i "") "LTwoPass$Operation;" (.ref (tp_ad E i)) A U H := (h.C.2.2.2.1.1.1 i hi).1
theorem tp_K.opD (h : tp_K E A U H) {j : Nat} (hi : i < 47) (hj : j < 47) (e : tp_ad E i = tp_ad E j) : i = j := h.C.2.2.2.1.1.2 i j hi hj e
theorem tp_K.txt (h : tp_K E A U H) (hi : i < 47) : va_OF "TwoPass$Operation" "text" "Ljava/lang/String;" (.ref (tp_ad E (200 + i))) (tp_ad E i) A U H := h.C.2.2.2.1.2.1 i hi
theorem tp_K.opr (h : tp_K E A U H) (hi : i < 47) : va_OF "TwoPass$Operation" "operands" "Ljava/lang/String;" (.ref (tp_ad E (200 + (47 + i)))) (tp_ad E i) A U H := h.C.2.2.2.1.2.2.1 i hi
theorem tp_K.opsZ (h : tp_K E A U H) : va_Z "TwoPass" "OPERATIONS" "[LTwoPass$Operation;" (.ref (tp_ad E 101)) A U H := h.C.2.2.2.1.2.2.2.1
theorem tp_K.opsT (h : tp_K E A U H) : va_T (.object "TwoPass$Operation") (tp_ad E 101) 47 (fun j => .ref (tp_ad E j)) A U H := h.C.2.2.2.1.2.2.2.2
theorem tp_K.strC (h : tp_K E A U H) (hi : i < 97) : va_OF "java/lang/String" "coder" "B" (.int 0) (tp_ad E (200 + i)) A U H := (h.C.2.2.2.2.1 i hi).2.1
theorem tp_K.strV (h : tp_K E A U H) (hi : i < 97) : va_OF "java/lang/String" "value" "[B" (.ref (tp_ad E (400 + i))) (tp_ad E (200 + i)) A U H := (h.C.2.2.2.2.1 i hi).2.2.1
theorem tp_K.strT (h : tp_K E A U H) (hi : i < 97) : va_T .byte (tp_ad E (400 + i)) (tp_len.getD i 0) (fun j => .int ((tp_byt.getD i []).getD j 0)) A U H := (h.C.2.2.2.2.1 i hi).2.2.2
theorem tp_K.strO {s : State} {locs : List Loc} (h : tp_K E A s s.heap) (hi : i < 97) (hS : va_S A s.heap H locs) : ∃ cell : Cell, H[tp_ad E (200 + i)]? = some cell ∧ cell.vm.isStatics = false ∧ s.vm.findClass "java/lang/String" = some cell.cls := by
  obtain ⟨cell, h1, h2, h3, -⟩ := va_O.kept (h.C.2.2.2.2.1 i hi).1 hS.2.1
  exact ⟨cell, h1, h2, h3⟩
theorem tp_K.onesZ (h : tp_K E A U H) : va_Z "java/lang/Integer" "DigitOnes" "[B" (.ref (tp_ad E 102)) A U H := h.C.2.2.2.2.2.1
theorem tp_K.onesT (h : tp_K E A U H) : va_T .byte (tp_ad E 102) 100 (fun j => .int (tp_ones.getD j 0)) A U H := h.C.2.2.2.2.2.2.1
theorem tp_K.tensZ (h : tp_K E A U H) : va_Z "java/lang/Integer" "DigitTens" "[B" (.ref (tp_ad E 103)) A U H := h.C.2.2.2.2.2.2.2.1
theorem tp_K.tensT (h : tp_K E A U H) : va_T .byte (tp_ad E 103) 100 (fun j => .int (tp_tens.getD j 0)) A U H := h.C.2.2.2.2.2.2.2.2.1
theorem tp_K.fmtZ (h : tp_K E A U H) : va_Zq "jdk/internal/util/Preconditions" "SIOOBE_FORMATTER" "Ljava/util/function/BiFunction;" A U H := h.C.2.2.2.2.2.2.2.2.2
end TPK
/-- the start of a contract, and its end -/
def tp_in (E : tp_Env) (W : va_W) (sz : Nat) (U : State) : Prop := U.heap.size = sz ∧ va_P (tp_D E) tp_cl W U.heap ∧ tp_K E (va_A W sz) U U.heap ∧ va_D (fun _ => True) W
def tp_out (E : tp_Env) (A : Nat → Prop) (W : va_W) (t : State) : Prop := va_P (tp_D E) tp_cl W t.heap ∧ va_D A W
theorem tp_blind {E : tp_Env} {W : va_W} {sz : Nat} {As : List Value} : FrameBlind (va_Pc As (tp_in E W sz)) := fun a U g mk q => by
  obtain ⟨q0, q1, qP, qK, qD⟩ := q
  exact ⟨q0, q1, qP, tp_K.same (u := U) (U := U.calling g mk a) rfl qK, qD⟩
theorem tp_AA {A : Nat → Prop} {W : va_W} {H0 H : Heap} {locs : List Loc} (hD : va_D A W) (hS : va_S A H0 H locs) (hA : ∀ q, H0.size ≤ q → A q) : ∀ q, va_A W H.size q → A q := fun q h => by
  rcases h with ⟨k, e, hk⟩ | h
  · exact hD.2 k _ hk
  · exact hA q (Nat.le_trans hS.1 h)
theorem tp_mk {E : tp_Env} {A : Nat → Prop} {W : va_W} {s U : State} {H : Heap} {locs : List Loc} (hK : tp_K E A s s.heap) (hP : va_P (tp_D E) tp_cl W H) (hD : va_D A W) (hS : va_S A s.heap H locs) (hA : ∀ q, s.heap.size ≤ q → A q) (hU : U.heap = H) (hW : s.WarmedH U.vm) : tp_in E W H.size U := by
  refine ⟨by rw [hU], by rw [hU]; exact hP, ?_, hD.weaken (fun _ _ _ _ => trivial)⟩
  rw [hU]
  exact tp_K.warm hW ((hK.kept hS.2.1).narrow (tp_AA hD hS hA))
section TPC
variable {p : Program} {l : Launch} {e : Env} {R : Room} {s : State} {m : MethodId} {args : Array Value} {below : List Frame} {meth : Method} {c : Code} {H : Heap} {locs : List Loc} {cells slots : Nat} {Q : State → Prop}
variable {y : MethodName} {bytes cc : ByteArray} {maxL nL mc ms n index pc : Nat} {ret : Option FieldType} {ws : List Cond} {rm : Room} {Ts : List Cond} {own C : String} {b : Addr} {As rest st0 : List Value} {ls : Array Slot} {E : tp_Env} {A : Nat → Prop} {Wc : va_W}
theorem tp_topi {x v : Int32} (h : x = v) (k : W p l e R s m args below meth c H locs cells slots Q (F0 m pc ls (.int v :: rest))) : W p l e R s m args below meth c H locs cells slots Q (F0 m pc ls (.int x :: rest)) := h ▸ k
theorem tp_topl {x v : Int64} (h : x = v) (k : W p l e R s m args below meth c H locs cells slots Q (F0 m pc ls (.long v :: rest))) : W p l e R s m args below meth c H locs cells slots Q (F0 m pc ls (.long x :: rest)) := h ▸ k
theorem tp_rS {Qc : Array Value → State → Outcome → State → Prop} {free : Addr → Prop} (F : CallFix p m c cc nL s args Ts own) (hM : Met l y ws rm (va_Pc As (tp_in E Wc H.size)) Qc mc ms free) (cw : CallB R s args own index y bytes maxL ret ws rm mc ms n ∧ (Cond.static y).before args s = true)  (hK : tp_K E A s s.heap) (hP : va_P (tp_D E) tp_cl Wc H) (hD : va_D A Wc) (hS : va_S A s.heap H locs) (hA : ∀ q, s.heap.size ≤ q → A q) (hn : As.length = n) (hsize : ls.size = nL) (hst : st0 = As.reverse ++ rest) (hW : (rest.map fun v => v.category).sum ≤ 8) (hdg : decode cc pc = .ok (.invokestatic index, 3)) (hf : cells + mc ≤ R.cells ∧ slots + ms ≤ R.slots) :
    va_Run p l e R s m args below meth c H locs cells slots mc ms (F0 m pc ls st0) rest (Qc (As).toArray) free := va_runS F hM cw ⟨tp_blind, fun U hU hW => ⟨rfl, tp_mk hK hP hD hS hA hU hW⟩⟩ rfl hn hsize hst (lv_room hW) hdg hf
theorem tp_rV {Qc : Array Value → State → Outcome → State → Prop} {free : Addr → Prop} (F : CallFix p m c cc nL s args Ts own) (hM : Met l y ws rm (va_Pc (.ref b :: As) (tp_in E Wc H.size)) Qc mc ms free) (cw : CallW R s args own C index y bytes maxL ret ws rm mc ms n) (hrv : ∃ cellB : Cell, H[b]? = some cellB ∧ cellB.vm.isStatics = false ∧ s.vm.findClass C = some cellB.cls) (hK : tp_K E A s s.heap) (hP : va_P (tp_D E) tp_cl Wc H) (hD : va_D A Wc) (hS : va_S A s.heap H locs) (hA : ∀ q, s.heap.size ≤ q → A q) (hn : As.length = n) (hsize : ls.size = nL) (hst : st0 = As.reverse ++ .ref b :: rest) (hW : (rest.map fun v => v.category).sum ≤ 8) (hdg : decode cc pc = .ok (.invokevirtual index, 3)) (hf : cells + mc ≤ R.cells ∧ slots + ms ≤ R.slots) :
    va_Run p l e R s m args below meth c H locs cells slots mc ms (F0 m pc ls st0) rest (Qc (Value.ref b :: As).toArray) free := va_runV F hM cw ⟨tp_blind, hrv, fun U hU hW => ⟨rfl, tp_mk hK hP hD hS hA hU hW⟩⟩ rfl hn hsize hst (lv_room hW) hdg hf
theorem tp_rI {Qc : Array Value → State → Outcome → State → Prop} {free : Addr → Prop} (F : CallFix p m c cc nL s args Ts own) (hM : Met l y ws rm (va_Pc (.ref b :: As) (tp_in E Wc H.size)) Qc mc ms free) (cw : CallB R s args own index y bytes maxL none ws rm mc ms n ∧ y.name = "<init>" ∧ (Cond.instanceMethod y).before args s = true)  (hK : tp_K E A s s.heap) (hP : va_P (tp_D E) tp_cl Wc H) (hD : va_D A Wc) (hS : va_S A s.heap H locs) (hA : ∀ q, s.heap.size ≤ q → A q) (hn : As.length = n) (hsize : ls.size = nL) (hst : st0 = As.reverse ++ .ref b :: rest) (hW : (rest.map fun v => v.category).sum ≤ 8) (hdg : decode cc pc = .ok (.invokespecial index, 3)) (hf : cells + mc ≤ R.cells ∧ slots + ms ≤ R.slots) :
    va_Run p l e R s m args below meth c H locs cells slots mc ms (F0 m pc ls st0) rest (Qc (Value.ref b :: As).toArray) free := va_runI F hM cw ⟨tp_blind, fun U hU hW => ⟨rfl, tp_mk hK hP hD hS hA hU hW⟩⟩ rfl hn hsize hst (lv_room hW) hdg hf
theorem tp_rIN {Qc : Array Value → State → Outcome → State → Prop} {free : Addr → Prop} {host : String} (F : CallFix p m c cc nL s args Ts own) (hM : Met l y ws rm (va_Pc (.ref b :: As) (tp_in E Wc H.size)) Qc mc ms free) (cw : va_CN R s args own index y host bytes maxL none ws rm mc ms n ∧ y.name = "<init>" ∧ (Cond.instanceMethod y).before args s = true)  (hK : tp_K E A s s.heap) (hP : va_P (tp_D E) tp_cl Wc H) (hD : va_D A Wc) (hS : va_S A s.heap H locs) (hA : ∀ q, s.heap.size ≤ q → A q) (hn : As.length = n) (hsize : ls.size = nL) (hst : st0 = As.reverse ++ .ref b :: rest) (hW : (rest.map fun v => v.category).sum ≤ 8) (hdg : decode cc pc = .ok (.invokespecial index, 3)) (hf : cells + mc ≤ R.cells ∧ slots + ms ≤ R.slots) :
    va_Run p l e R s m args below meth c H locs cells slots mc ms (F0 m pc ls st0) rest (Qc (Value.ref b :: As).toArray) free := va_runIN F hM cw ⟨tp_blind, fun U hU hW => ⟨rfl, tp_mk hK hP hD hS hA hU hW⟩⟩ rfl hn hsize hst (lv_room hW) hdg hf
theorem tp_cwU (n : Nat) (htg : ∀ w ∈ tp_G, w.before args s = true) (hc : Cond.code y bytes maxL ret ∈ tp_G) (h1 : (Cond.methodLink own index y).before args s = true) (h2 : (Cond.sameMethod y.cls y.cls y.name y.desc).before args s = true) (h3 : (Cond.superclass own y.cls).before args s = true) (h4 : (Cond.instanceMethod y).before args s = true) (h5 : (Cond.initialized y.cls).before args s = true)
    (hd : y.name ≠ "<init>" ∧ (parseMethodDescriptor y.desc).map (fun d => d.parameters.length) = some n) (hR : rm.frames + 1 ≤ R.frames ∧ 8 + (maxL + 11) + rm.locals ≤ R.locals) : va_CS R s args own index y bytes maxL ret (Cond.code y bytes maxL ret :: tp_G) rm rm.cells rm.slots n := by
  refine ⟨⟨rfl, rfl, hR.1, hR.2, pay_in htg (tp_good0 hc), List.mem_cons_self⟩, h1, h2, h3, h4, h5, htg _ hc, hd.1, fun sig h => ?_⟩
  have h2 := hd.2
  rw [h] at h2
  exact (Option.some.inj h2).symm
theorem tp_rU {Qc : Array Value → State → Outcome → State → Prop} {free : Addr → Prop} {cC : ClassId} (F : CallFix p m c cc nL s args Ts own) (hM : Met l y ws rm (va_Pc (.ref b :: As) (tp_in E Wc H.size)) Qc mc ms free) (cw : va_CS R s args own index y bytes maxL ret ws rm mc ms n) (hrv : ∃ cellB : Cell, H[b]? = some cellB ∧ cellB.vm.isStatics = false ∧ s.vm.findClass C = some cellB.cls) (hat : ClassAt s C cC) (hK : tp_K E A s s.heap) (hP : va_P (tp_D E) tp_cl Wc H) (hD : va_D A Wc) (hS : va_S A s.heap H locs) (hA : ∀ q, s.heap.size ≤ q → A q) (hn : As.length = n) (hsize : ls.size = nL) (hst : st0 = As.reverse ++ .ref b :: rest) (hW : (rest.map fun v => v.category).sum ≤ 8) (hdg : decode cc pc = .ok (.invokespecial index, 3)) (hf : cells + mc ≤ R.cells ∧ slots + ms ≤ R.slots) :
    va_Run p l e R s m args below meth c H locs cells slots mc ms (F0 m pc ls st0) rest (Qc (Value.ref b :: As).toArray) free := va_runSU hat F hM cw ⟨tp_blind, hrv, fun U hU hW => ⟨rfl, tp_mk hK hP hD hS hA hU hW⟩⟩ rfl hn hsize hst (lv_room hW) hdg hf
theorem tp_xS {Qc : Array Value → State → Outcome → State → Prop} {XC : String → State → State → Prop} {free : Addr → Prop} (F : CallFix p m c cc nL s args Ts own) (hM : vx_Met l y ws rm (va_Pc As (tp_in E Wc H.size)) Qc XC mc ms free) (cw : CallB R s args own index y bytes maxL ret ws rm mc ms n ∧ (Cond.static y).before args s = true)  (hK : tp_K E A s s.heap) (hP : va_P (tp_D E) tp_cl Wc H) (hD : va_D A Wc) (hS : va_S A s.heap H locs) (hA : ∀ q, s.heap.size ≤ q → A q) (hn : As.length = n) (hsize : ls.size = nL) (hst : st0 = As.reverse ++ rest) (hW : (rest.map fun v => v.category).sum ≤ 8) (hdg : decode cc pc = .ok (.invokestatic index, 3)) (hf : cells + mc ≤ R.cells ∧ slots + ms ≤ R.slots) :
    vx_Run p l e R s m args below meth c H locs cells slots mc ms (F0 m pc ls st0) rest (Qc (As).toArray) XC free := vx_runS F hM cw ⟨tp_blind, fun U hU hW => ⟨rfl, tp_mk hK hP hD hS hA hU hW⟩⟩ rfl hn hsize hst (lv_room hW) hdg hf
theorem tp_xV {Qc : Array Value → State → Outcome → State → Prop} {XC : String → State → State → Prop} {free : Addr → Prop} (F : CallFix p m c cc nL s args Ts own) (hM : vx_Met l y ws rm (va_Pc (.ref b :: As) (tp_in E Wc H.size)) Qc XC mc ms free) (cw : CallW R s args own C index y bytes maxL ret ws rm mc ms n) (hrv : ∃ cellB : Cell, H[b]? = some cellB ∧ cellB.vm.isStatics = false ∧ s.vm.findClass C = some cellB.cls) (hK : tp_K E A s s.heap) (hP : va_P (tp_D E) tp_cl Wc H) (hD : va_D A Wc) (hS : va_S A s.heap H locs) (hA : ∀ q, s.heap.size ≤ q → A q) (hn : As.length = n) (hsize : ls.size = nL) (hst : st0 = As.reverse ++ .ref b :: rest) (hW : (rest.map fun v => v.category).sum ≤ 8) (hdg : decode cc pc = .ok (.invokevirtual index, 3)) (hf : cells + mc ≤ R.cells ∧ slots + ms ≤ R.slots) :
    vx_Run p l e R s m args below meth c H locs cells slots mc ms (F0 m pc ls st0) rest (Qc (Value.ref b :: As).toArray) XC free := vx_runV F hM cw ⟨tp_blind, hrv, fun U hU hW => ⟨rfl, tp_mk hK hP hD hS hA hU hW⟩⟩ rfl hn hsize hst (lv_room hW) hdg hf
theorem tp_ci {S : Type} {post : Int32 → S → Prop} {Wo : S → va_W} {a : Array Value} (hr : va_Run p l e R s m args below meth c H locs cells slots mc ms (F0 m pc ls st0) rest (va_Qi post (fun u t => tp_out E (va_A Wc H.size) (Wo u) t) (va_A Wc H.size) a) (va_A Wc H.size))
    (hD : va_D A Wc) (hS : va_S A s.heap H locs) (hA : ∀ q, s.heap.size ≤ q → A q)
    (kk : ∀ (r : Int32) (u : S) (H1 : Heap) (locs1 : List Loc), post r u → va_P (tp_D E) tp_cl (Wo u) H1 → va_D A (Wo u) → va_S A s.heap H1 locs1 → W p l e R s m args below meth c H1 locs1 (cells + mc) (slots + ms) Q (F0 m (pc + 3) ls (.int r :: rest))) :
    W p l e R s m args below meth c H locs cells slots Q (F0 m pc ls st0) := by
  have hFc := tp_AA hD hS hA
  refine va_calli hr hS (fun q _ h => hFc q h) hFc (fun r u t H1 locs1 ht _ hp hB _ _ hS1 => ?_)
  obtain ⟨hP1, hD1⟩ := hB
  rw [ht] at hP1
  exact kk r u H1 locs1 hp hP1 (hD1.weaken (fun _ _ _ h => hFc _ h)) hS1
theorem tp_cl_ {S : Type} {post : Int64 → S → Prop} {Wo : S → va_W} {a : Array Value} (hr : va_Run p l e R s m args below meth c H locs cells slots mc ms (F0 m pc ls st0) rest (va_Ql post (fun u t => tp_out E (va_A Wc H.size) (Wo u) t) (va_A Wc H.size) a) (va_A Wc H.size))
    (hD : va_D A Wc) (hS : va_S A s.heap H locs) (hA : ∀ q, s.heap.size ≤ q → A q)
    (kk : ∀ (r : Int64) (u : S) (H1 : Heap) (locs1 : List Loc), post r u → va_P (tp_D E) tp_cl (Wo u) H1 → va_D A (Wo u) → va_S A s.heap H1 locs1 → W p l e R s m args below meth c H1 locs1 (cells + mc) (slots + ms) Q (F0 m (pc + 3) ls (.long r :: rest))) :
    W p l e R s m args below meth c H locs cells slots Q (F0 m pc ls st0) := by
  have hFc := tp_AA hD hS hA
  refine va_calll hr hS (fun q _ h => hFc q h) hFc (fun r u t H1 locs1 ht _ hp hB _ _ hS1 => ?_)
  obtain ⟨hP1, hD1⟩ := hB
  rw [ht] at hP1
  exact kk r u H1 locs1 hp hP1 (hD1.weaken (fun _ _ _ h => hFc _ h)) hS1
theorem tp_cv {S : Type} {post : S → Prop} {Wo : S → va_W} {a : Array Value} (hr : va_Run p l e R s m args below meth c H locs cells slots mc ms (F0 m pc ls st0) rest (va_Qv post (fun u t => tp_out E (va_A Wc H.size) (Wo u) t) (va_A Wc H.size) a) (va_A Wc H.size))
    (hD : va_D A Wc) (hS : va_S A s.heap H locs) (hA : ∀ q, s.heap.size ≤ q → A q)
    (kk : ∀ (u : S) (H1 : Heap) (locs1 : List Loc), post u → va_P (tp_D E) tp_cl (Wo u) H1 → va_D A (Wo u) → va_S A s.heap H1 locs1 → W p l e R s m args below meth c H1 locs1 (cells + mc) (slots + ms) Q (F0 m (pc + 3) ls rest)) :
    W p l e R s m args below meth c H locs cells slots Q (F0 m pc ls st0) := by
  have hFc := tp_AA hD hS hA
  refine va_callv hr hS (fun q _ h => hFc q h) hFc (fun u t H1 locs1 ht _ hp hB _ _ hS1 => ?_)
  obtain ⟨hP1, hD1⟩ := hB
  rw [ht] at hP1
  exact kk u H1 locs1 hp hP1 (hD1.weaken (fun _ _ _ h => hFc _ h)) hS1
/-- the answer is a reference: its address is fa of what the contract names -/
theorem tp_cr {S : Type} {post : S → Prop} {fa : S → Nat} {Wo : S → va_W} {a : Array Value} (hr : va_Run p l e R s m args below meth c H locs cells slots mc ms (F0 m pc ls st0) rest (va_Qr post (fun u q t => q = fa u ∧ tp_out E (va_A Wc H.size) (Wo u) t) (va_A Wc H.size) a) (va_A Wc H.size))
    (hD : va_D A Wc) (hS : va_S A s.heap H locs) (hA : ∀ q, s.heap.size ≤ q → A q)
    (kk : ∀ (u : S) (H1 : Heap) (locs1 : List Loc), post u → va_P (tp_D E) tp_cl (Wo u) H1 → va_D A (Wo u) → va_S A s.heap H1 locs1 → W p l e R s m args below meth c H1 locs1 (cells + mc) (slots + ms) Q (F0 m (pc + 3) ls (.ref (fa u) :: rest))) :
    W p l e R s m args below meth c H locs cells slots Q (F0 m pc ls st0) := by
  have hFc := tp_AA hD hS hA
  refine va_callr hr hS (fun q _ h => hFc q h) hFc (fun u q t H1 locs1 ht _ hp hB _ _ hS1 => ?_)
  obtain ⟨rfl, hP1, hD1⟩ := hB
  rw [ht] at hP1
  exact kk u H1 locs1 hp hP1 (hD1.weaken (fun _ _ _ h => hFc _ h)) hS1
theorem tp_tv {X : String} {Wx : va_W} {a : Array Value} (hr : vx_Run p l e R s m args below meth c H locs cells slots mc ms (F0 m pc ls st0) rest (va_Qv (fun (_ : Unit) => False) (fun _ _ => True) (va_A Wc H.size) a) (vx_X (fun (_ : Unit) => True) (fun x _ t => x = X ∧ tp_out E (va_A Wc H.size) Wx t) (va_A Wc H.size)) (va_A Wc H.size))
    (hD : va_D A Wc) (hS : va_S A s.heap H locs) (hA : ∀ q, s.heap.size ≤ q → A q)
    (kx : ∀ (ce : Cell) (q : Addr) (H1 : Heap) (locs1 : List Loc), va_P (tp_D E) tp_cl Wx H1 → va_D A Wx → va_S A s.heap H1 locs1 → H1[q]? = some ce → ce.vm = .none → s.vm.findClass X = some ce.cls → vx_W p l e R s m args below meth c H1 locs1 (cells + mc) (slots + ms) Q (F0 m pc ls rest) q) :
    W p l e R s m args below meth c H locs cells slots Q (F0 m pc ls st0) := by
  have hFc := tp_AA hD hS hA
  refine vx_callv hr hS (fun q _ h => hFc q h) hFc (fun q _ h => hFc q h) (fun x ce q u t H1 locs1 ht _ _ hB _ _ hS1 hce hcv hcl => ?_) (fun u t H1 locs1 _ _ hp _ _ _ _ => hp.elim)
  obtain ⟨rfl, hP1, hD1⟩ := hB
  rw [ht] at hP1
  exact kx ce q H1 locs1 hP1 (hD1.weaken (fun _ _ _ h => hFc _ h)) hS1 hce hcv hcl
theorem tp_ti {X : String} {Wx : va_W} {a : Array Value} (hr : vx_Run p l e R s m args below meth c H locs cells slots mc ms (F0 m pc ls st0) rest (va_Qi (fun (_ : Int32) (_ : Unit) => False) (fun _ _ => True) (va_A Wc H.size) a) (vx_X (fun (_ : Unit) => True) (fun x _ t => x = X ∧ tp_out E (va_A Wc H.size) Wx t) (va_A Wc H.size)) (va_A Wc H.size))
    (hD : va_D A Wc) (hS : va_S A s.heap H locs) (hA : ∀ q, s.heap.size ≤ q → A q)
    (kx : ∀ (ce : Cell) (q : Addr) (H1 : Heap) (locs1 : List Loc), va_P (tp_D E) tp_cl Wx H1 → va_D A Wx → va_S A s.heap H1 locs1 → H1[q]? = some ce → ce.vm = .none → s.vm.findClass X = some ce.cls → vx_W p l e R s m args below meth c H1 locs1 (cells + mc) (slots + ms) Q (F0 m pc ls rest) q) :
    W p l e R s m args below meth c H locs cells slots Q (F0 m pc ls st0) := by
  have hFc := tp_AA hD hS hA
  refine vx_calli hr hS (fun q _ h => hFc q h) hFc (fun q _ h => hFc q h) (fun x ce q u t H1 locs1 ht _ _ hB _ _ hS1 hce hcv hcl => ?_) (fun r u t H1 locs1 _ _ hp _ _ _ _ => hp.elim)
  obtain ⟨rfl, hP1, hD1⟩ := hB
  rw [ht] at hP1
  exact kx ce q H1 locs1 hP1 (hD1.weaken (fun _ _ _ h => hFc _ h)) hS1 hce hcv hcl
theorem tp_tl {X : String} {Wx : va_W} {a : Array Value} (hr : vx_Run p l e R s m args below meth c H locs cells slots mc ms (F0 m pc ls st0) rest (va_Ql (fun (_ : Int64) (_ : Unit) => False) (fun _ _ => True) (va_A Wc H.size) a) (vx_X (fun (_ : Unit) => True) (fun x _ t => x = X ∧ tp_out E (va_A Wc H.size) Wx t) (va_A Wc H.size)) (va_A Wc H.size))
    (hD : va_D A Wc) (hS : va_S A s.heap H locs) (hA : ∀ q, s.heap.size ≤ q → A q)
    (kx : ∀ (ce : Cell) (q : Addr) (H1 : Heap) (locs1 : List Loc), va_P (tp_D E) tp_cl Wx H1 → va_D A Wx → va_S A s.heap H1 locs1 → H1[q]? = some ce → ce.vm = .none → s.vm.findClass X = some ce.cls → vx_W p l e R s m args below meth c H1 locs1 (cells + mc) (slots + ms) Q (F0 m pc ls rest) q) :
    W p l e R s m args below meth c H locs cells slots Q (F0 m pc ls st0) := by
  have hFc := tp_AA hD hS hA
  refine vx_calll hr hS (fun q _ h => hFc q h) hFc (fun q _ h => hFc q h) (fun x ce q u t H1 locs1 ht _ _ hB _ _ hS1 hce hcv hcl => ?_) (fun r u t H1 locs1 _ _ hp _ _ _ _ => hp.elim)
  obtain ⟨rfl, hP1, hD1⟩ := hB
  rw [ht] at hP1
  exact kx ce q H1 locs1 hP1 (hD1.weaken (fun _ _ _ h => hFc _ h)) hS1 hce hcv hcl
end TPC
/-- a cell of the world brought to its front -/
theorem tp_mvP {D : va_G} {cl : List vw_C} {W : va_W} {H : Heap} (k : Nat) {c : Nat × va_E} (hk : W[k]? = some c) (h : va_P D cl W H) : va_P D cl (c :: W.eraseIdx k) H := by
  intro i q hi
  cases i with
  | zero =>
    have e : c = q := Option.some.inj hi
    rw [← e]
    exact h k c hk
  | succ j =>
    have hj : (W.eraseIdx k)[j]? = some q := hi
    rw [List.getElem?_eraseIdx] at hj
    split at hj
    · exact h _ q hj
    · exact h _ q hj
theorem tp_mvD {A : Nat → Prop} {W : va_W} (k : Nat) {c : Nat × va_E} (hk : W[k]? = some c) (h : va_D A W) : va_D A (c :: W.eraseIdx k) := by
  have look : ∀ (i : Nat) (q : Nat × va_E), (c :: W.eraseIdx k)[i]? = some q → ∃ i' : Nat, W[i']? = some q ∧ i' = (match i with | 0 => k | j + 1 => if j < k then j else j + 1) := by
    intro i q hi
    cases i with
    | zero =>
      have e : c = q := Option.some.inj hi
      exact ⟨k, by rw [← e]; exact hk, rfl⟩
    | succ j =>
      have hj : (W.eraseIdx k)[j]? = some q := hi
      rw [List.getElem?_eraseIdx] at hj
      by_cases hlt : j < k
      · rw [if_pos hlt] at hj
        exact ⟨j, hj, (if_pos hlt).symm⟩
      · rw [if_neg hlt] at hj
        exact ⟨j + 1, hj, (if_neg hlt).symm⟩
  refine ⟨fun i j p q hi hj hpq => ?_, fun i q hi => ?_⟩
  · obtain ⟨i', hi', ei⟩ := look i p hi
    obtain ⟨j', hj', ej⟩ := look j q hj
    have e := h.1 i' j' p q hi' hj' hpq
    rw [ei, ej] at e
    cases i with
    | zero =>
      cases j with
      | zero => rfl
      | succ b =>
        dsimp only at e
        by_cases hb : b < k
        · rw [if_pos hb] at e; omega
        · rw [if_neg hb] at e; omega
    | succ a =>
      cases j with
      | zero =>
        dsimp only at e
        by_cases ha : a < k
        · rw [if_pos ha] at e; omega
        · rw [if_neg ha] at e; omega
      | succ b =>
        dsimp only at e
        by_cases ha : a < k <;> by_cases hb : b < k
        · rw [if_pos ha, if_pos hb] at e; omega
        · rw [if_pos ha, if_neg hb] at e; omega
        · rw [if_neg ha, if_pos hb] at e; omega
        · rw [if_neg ha, if_neg hb] at e; omega
  · obtain ⟨i', hi', -⟩ := look i q hi
    exact h.2 i' q hi'
/-- the newest cell brought to the front -/
theorem tp_frP {D : va_G} {cl : List vw_C} {W : va_W} {H : Heap} {c : Nat × va_E} (h : va_P D cl (W ++ [c]) H) : va_P D cl (c :: W) H := by
  have h1 := tp_mvP W.length (c := c) (by simp) h
  have e : (W ++ [c]).eraseIdx W.length = W := by
    rw [List.eraseIdx_append_of_length_le (Nat.le_refl _)]; simp
  rw [e] at h1
  exact h1
theorem tp_frD {A : Nat → Prop} {W : va_W} {c : Nat × va_E} (h : va_D A (W ++ [c])) : va_D A (c :: W) := by
  have h1 := tp_mvD W.length (c := c) (by simp) h
  have e : (W ++ [c]).eraseIdx W.length = W := by
    rw [List.eraseIdx_append_of_length_le (Nat.le_refl _)]; simp
  rw [e] at h1
  exact h1
section TPN
variable {p : Program} {l : Launch} {e : Env} {R : Room} {s : State} {m : MethodId} {args : Array Value} {below : List Frame} {meth : Method} {c : Code} {H : Heap} {locs : List Loc} {cells slots : Nat} {Q : State → Prop}
variable {cc : ByteArray} {pc : Nat} {rest : List Value} {ls : Array Slot} {E : tp_Env} {A : Nat → Prop} {Wc : va_W}
/-- a new array of numbers -/
theorem tp_newa (k : Nat) (hx : p.tables.exec = Jvm.exec) (hb : c.code = cc) {atype : ArrayType} {ty : FieldType} (harr : (Cond.arrayClass (newarray.typeOf atype)).before args s = true) (hty : newarray.typeOf atype = ty) (hk : (tp_tys E)[k]? = some (tp_ty E k, ty)) (hpr : ∀ C, ty ≠ .object C)
    (hK : tp_K E A s s.heap) (hP : va_P (tp_D E) tp_cl Wc H) (hD : va_D A Wc) (hS : va_S A s.heap H locs) (hA : ∀ q, s.heap.size ≤ q → A q) {n : Int32} {N' : Nat} {a0 : vp_A} (ha : ∀ cA : ClassId, vp_cell cA a0 = arrV cA N' (fun _ => defaultValue ty)) (hn : ¬ n < 0) (hN : n.toNatClampNeg = N') (hbytes : N' * componentBytes ty ≤ 536870912)
    (hcells : cells + 1 ≤ R.cells) (hslots : slots + N' ≤ R.slots) (hdg : decode cc pc = .ok (.newarray atype, 2))
    (kk : ∀ (q : Nat) (H1 : Heap), va_P (tp_D E) tp_cl ((q, .inl (tp_ty E k, a0)) :: Wc) H1 → va_D A ((q, .inl (tp_ty E k, a0)) :: Wc) → va_S A s.heap H1 locs → W p l e R s m args below meth c H1 locs (cells + 1) (slots + N') Q (F0 m (pc + 2) ls (.ref q :: rest))) :
    W p l e R s m args below meth c H locs cells slots Q (F0 m pc ls (.int n :: rest)) := by
  refine va_newa hx hb harr hty hK.1 hP hD hS hA ha hn hN hbytes hcells hslots hdg (fun q cA H1 hK1 hP1 hD1 hS1 => ?_)
  have h1 : va_RA s cA ty := (hK1.2 (tp_tys E).length (cA, ty) (by simp)).2
  have h2 : va_RA s (tp_ty E k) ty := (hK.1.2 k _ hk).2
  have e9 : cA = tp_ty E k := by
    cases ty with
    | object C => exact absurd rfl (hpr C)
    | _ => exact Option.some.inj (h1.symm.trans h2)
  subst e9
  exact kk q H1 (tp_frP hP1) (tp_frD hD1) hS1
/-- a new array of references -/
theorem tp_newq (k : Nat) (hx : p.tables.exec = Jvm.exec) (hb : c.code = cc) {own C : String} {index : Nat} (hown : s.vm.findClass own = some m.cls) (hcl : (Cond.classLink own index C).before args s = true) (hov : va_AO C s) (hk : (tp_tys E)[k]? = some (tp_ty E k, .object C))
    (hK : tp_K E A s s.heap) (hP : va_P (tp_D E) tp_cl Wc H) (hD : va_D A Wc) (hS : va_S A s.heap H locs) (hA : ∀ q, s.heap.size ≤ q → A q) {n : Int32} {N' : Nat} (hn : ¬ n < 0) (hN : n.toNatClampNeg = N') (hbytes : N' * 4 ≤ 536870912)
    (hcells : cells + 1 ≤ R.cells) (hslots : slots + N' ≤ R.slots) (hdg : decode cc pc = .ok (.anewarray index, 3))
    (kk : ∀ (q : Nat) (H1 : Heap), va_P (tp_D E) tp_cl ((q, .inl (tp_ty E k, N', .inr (.inr (.inr (.inr (fun _ => none)))))) :: Wc) H1 → va_D A ((q, .inl (tp_ty E k, N', .inr (.inr (.inr (.inr (fun _ => none)))))) :: Wc) → va_S A s.heap H1 locs → W p l e R s m args below meth c H1 locs (cells + 1) (slots + N') Q (F0 m (pc + 3) ls (.ref q :: rest))) :
    W p l e R s m args below meth c H locs cells slots Q (F0 m pc ls (.int n :: rest)) := by
  refine va_newq hx hb hown hcl hov hK.1 hP hD hS hA hn hN hbytes hcells hslots hdg (fun q cA H1 hK1 hP1 hD1 hS1 => ?_)
  have h1 : va_RA s cA (.object C) := (hK1.2 (tp_tys E).length (cA, .object C) (by simp)).2
  have h2 : va_RA s (tp_ty E k) (.object C) := (hK.1.2 k _ hk).2
  have e9 : cA = tp_ty E k := by
    obtain ⟨-, -, -, -, -, g1⟩ := h1
    obtain ⟨-, -, -, -, -, g2⟩ := h2
    exact Option.some.inj (g1.symm.trans g2)
  subst e9
  exact kk q H1 (tp_frP hP1) (tp_frD hD1) hS1
end TPN
theorem tp_vin {x M : Int32} {n k : Nat} (h1 : ¬ x < 0) (h2 : ¬ M ≤ x) (hM : M.toInt = k) (hk : k ≤ n) : vp_in x n := by
  rw [vp_in_iff]
  rw [Int32.lt_iff_toInt_lt, Int32.toInt_zero] at h1
  rw [Int32.le_iff_toInt_le, hM] at h2
  omega

theorem tp_one {x : Int32} (h1 : ¬ x < 0) (h2 : ¬ 2 ≤ x) (h3 : ¬ x = 0) : x = 1 := by
  rw [Int32.lt_iff_toInt_lt, Int32.toInt_zero] at h1
  rw [Int32.le_iff_toInt_le, show (2 : Int32).toInt = 2 from rfl] at h2
  have h4 : ¬ x.toInt = 0 := fun e => h3 (Int32.toInt_inj.mp (by rw [e]; rfl))
  exact Int32.toInt_inj.mp (by rw [show (1 : Int32).toInt = 1 from rfl]; omega)
theorem tp_topr {p : Program} {l : Launch} {e : Env} {R : Room} {s : State} {m : MethodId} {args : Array Value} {below : List Frame} {meth : Method} {c : Code} {H : Heap} {locs : List Loc} {cells slots : Nat} {Q : State → Prop} {pc : Nat} {rest : List Value} {ls : Array Slot} {f : Nat → Option Nat} {i k a : Nat} (hi : f i = f k) (ha : f k = some a)
    (kk : W p l e R s m args below meth c H locs cells slots Q (F0 m pc ls (.ref a :: rest))) : W p l e R s m args below meth c H locs cells slots Q (F0 m pc ls (va_rf (f i) :: rest)) := by
  rw [hi, ha]
  exact kk
theorem tp_lc_eq_t {x y : Int64} (h : x = y) : lg_cmp x y = 0 := by unfold lg_cmp; subst h; simp
theorem tp_lc_eq_f {x y : Int64} (h : ¬ x = y) : ¬ lg_cmp x y = 0 := by unfold lg_cmp; repeat' split <;> simp_all
theorem tp_lc_ne_t {x y : Int64} (h : ¬ x = y) : ¬ lg_cmp x y = 0 := tp_lc_eq_f h
theorem tp_lc_ne_f {x y : Int64} (h : x = y) : lg_cmp x y = 0 := tp_lc_eq_t h
theorem tp_lc_ge_t {x y : Int64} (h : ¬ x < y) : 0 ≤ lg_cmp x y := (lg_cmp_ge x y).mpr (Int64.not_lt.mp h)
theorem tp_lc_ge_f {x y : Int64} (h : x < y) : ¬ 0 ≤ lg_cmp x y := fun q => absurd h (Int64.not_lt.mpr ((lg_cmp_ge x y).mp q))
theorem tp_lc_lt_t {x y : Int64} (h : x < y) : lg_cmp x y < 0 := Int32.not_le.mp (tp_lc_ge_f h)
theorem tp_lc_lt_f {x y : Int64} (h : ¬ x < y) : ¬ lg_cmp x y < 0 := Int32.not_lt.mpr (tp_lc_ge_t h)
theorem tp_lc_swap {x y : Int64} : lg_cmp x y ≤ 0 ↔ ¬ y < x := by
  unfold lg_cmp
  by_cases h : y < x
  · simp [h]
  · by_cases e : x = y <;> simp [h, e]
theorem tp_lc_le_t {x y : Int64} (h : ¬ y < x) : lg_cmp x y ≤ 0 := tp_lc_swap.mpr h
theorem tp_lc_le_f {x y : Int64} (h : y < x) : ¬ lg_cmp x y ≤ 0 := fun q => tp_lc_swap.mp q h
theorem tp_lc_gt_t {x y : Int64} (h : y < x) : 0 < lg_cmp x y := Int32.not_le.mp (tp_lc_le_f h)
theorem tp_lc_gt_f {x y : Int64} (h : ¬ y < x) : ¬ 0 < lg_cmp x y := Int32.not_lt.mpr (tp_lc_le_t h)
