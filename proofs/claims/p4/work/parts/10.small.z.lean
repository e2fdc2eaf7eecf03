set_option maxHeartbeats 400000 in
set_option maxRecDepth 100000 in
theorem c_T_isModule_1 (l : Launch) (E : tp_Env) (fr : va_W) (sz : Nat) (x1 : Int32) (h1 : x1 < 0) : Met l y_T_isModule w_T_isModule ({ frames := 0, cells := 0, slots := 0, locals := 0 }) (va_Pc [.int x1] (tp_in E fr sz)) (va_Qi (fun r (_ : Unit) => r = 0) (fun _ t => tp_out E (va_A fr sz) fr t) (va_A fr sz)) 0 0 (va_A fr sz) := by
  refine Met.ofW (cc := b_T_isModule) (maxL := 1) (ret := (some .boolean)) (by decide) rfl ?_
  intro p e s m args below meth c s₁ B hml hv
  obtain ⟨rfl, hsz, hP, hK, hD0⟩ := hv
  have hx := B.exec
  have hb := B.bytes
  have hr := B.returns
  have htg : ∀ w ∈ tp_G, w.before ([.int x1] : List Value).toArray s = true := fun w h => atoms_spec (ws := w_T_isModule) B.pre w (List.mem_cons_of_mem _ h)
  have hown : s.vm.findClass "TwoPass" = some m.cls := findClass_of_methodNamed B.named
  have hlocks := B.notSynchronized
  subst hsz
  have hD := hD0.self (sz := s.heap.size)
  generalize hAe : va_A fr s.heap.size = A at hD hK ⊢
  have hA : ∀ q : Nat, s.heap.size ≤ q → A q := fun q h => by rw [← hAe]; exact Or.inr h
  have hS : va_S A s.heap s.heap [] := va_S.rf
  have hl := lv_entry ([.int x1]) (n := 1) (Nat.le_of_ble_eq_true rfl)
  rw [lg_entry_eq]
  generalize (lg_sl ([.int x1]) ++ List.replicate (1 - (lg_sl ([.int x1])).length) Slot.unset).toArray = ls at hl ⊢
  have hl : lv_has ls 1 [(0, .int x1)] := hl
  refine lv_iload_n hx hb d_T_isModule_0 rfl (lv_at hl 0 rfl) ?_
  refine lv_if_lt (tgt := 13) hx hb d_T_isModule_1 (by decide) (fun _ => ?_) (fun h => absurd h1 h)
  refine lv_iconst (v := 0) hx hb d_T_isModule_13 (by decide) ?_
  exact W.zret (v := 0) hx hb hr rfl (fun t ht hW => ⟨⟨_, (), rfl, rfl, by rw [ht]; exact hP, hD⟩, hS.F ht⟩) hS.2.2 d_T_isModule_14
set_option maxHeartbeats 400000 in
set_option maxRecDepth 100000 in
theorem c_T_isModule_2 (l : Launch) (E : tp_Env) (fr : va_W) (sz : Nat) (x1 : Int32) (h1 : ¬ x1 < 0) (h2 : 2 ≤ x1) : Met l y_T_isModule w_T_isModule ({ frames := 0, cells := 0, slots := 0, locals := 0 }) (va_Pc [.int x1] (tp_in E fr sz)) (va_Qi (fun r (_ : Unit) => r = 0) (fun _ t => tp_out E (va_A fr sz) fr t) (va_A fr sz)) 0 0 (va_A fr sz) := by
  refine Met.ofW (cc := b_T_isModule) (maxL := 1) (ret := (some .boolean)) (by decide) rfl ?_
  intro p e s m args below meth c s₁ B hml hv
  obtain ⟨rfl, hsz, hP, hK, hD0⟩ := hv
  have hx := B.exec
  have hb := B.bytes
  have hr := B.returns
  have htg : ∀ w ∈ tp_G, w.before ([.int x1] : List Value).toArray s = true := fun w h => atoms_spec (ws := w_T_isModule) B.pre w (List.mem_cons_of_mem _ h)
  have hown : s.vm.findClass "TwoPass" = some m.cls := findClass_of_methodNamed B.named
  have hlocks := B.notSynchronized
  subst hsz
  have hD := hD0.self (sz := s.heap.size)
  generalize hAe : va_A fr s.heap.size = A at hD hK ⊢
  have hA : ∀ q : Nat, s.heap.size ≤ q → A q := fun q h => by rw [← hAe]; exact Or.inr h
  have hS : va_S A s.heap s.heap [] := va_S.rf
  have hl := lv_entry ([.int x1]) (n := 1) (Nat.le_of_ble_eq_true rfl)
  rw [lg_entry_eq]
  generalize (lg_sl ([.int x1]) ++ List.replicate (1 - (lg_sl ([.int x1])).length) Slot.unset).toArray = ls at hl ⊢
  have hl : lv_has ls 1 [(0, .int x1)] := hl
  refine lv_iload_n hx hb d_T_isModule_0 rfl (lv_at hl 0 rfl) ?_
  refine lv_if_lt (tgt := 13) hx hb d_T_isModule_1 (by decide) (fun h => absurd h h1) (fun _ => ?_)
  refine lv_iload_n hx hb d_T_isModule_4 rfl (lv_at hl 0 rfl) ?_
  refine lv_iconst (v := 2) hx hb d_T_isModule_5 (by decide) ?_
  refine lv_icmp_ge (tgt := 13) hx hb d_T_isModule_6 (by decide) (fun _ => ?_) (fun h => absurd h2 h)
  refine lv_iconst (v := 0) hx hb d_T_isModule_13 (by decide) ?_
  exact W.zret (v := 0) hx hb hr rfl (fun t ht hW => ⟨⟨_, (), rfl, rfl, by rw [ht]; exact hP, hD⟩, hS.F ht⟩) hS.2.2 d_T_isModule_14
set_option maxHeartbeats 400000 in
set_option maxRecDepth 100000 in
theorem c_T_isModule_3 (l : Launch) (E : tp_Env) (fr : va_W) (sz : Nat) (x1 : Int32) (h1 : ¬ x1 < 0) (h2 : ¬ 2 ≤ x1) : Met l y_T_isModule w_T_isModule ({ frames := 0, cells := 0, slots := 0, locals := 0 }) (va_Pc [.int x1] (tp_in E fr sz)) (va_Qi (fun r (_ : Unit) => r = 1) (fun _ t => tp_out E (va_A fr sz) fr t) (va_A fr sz)) 0 0 (va_A fr sz) := by
  refine Met.ofW (cc := b_T_isModule) (maxL := 1) (ret := (some .boolean)) (by decide) rfl ?_
  intro p e s m args below meth c s₁ B hml hv
  obtain ⟨rfl, hsz, hP, hK, hD0⟩ := hv
  have hx := B.exec
  have hb := B.bytes
  have hr := B.returns
  have htg : ∀ w ∈ tp_G, w.before ([.int x1] : List Value).toArray s = true := fun w h => atoms_spec (ws := w_T_isModule) B.pre w (List.mem_cons_of_mem _ h)
  have hown : s.vm.findClass "TwoPass" = some m.cls := findClass_of_methodNamed B.named
  have hlocks := B.notSynchronized
  subst hsz
  have hD := hD0.self (sz := s.heap.size)
  generalize hAe : va_A fr s.heap.size = A at hD hK ⊢
  have hA : ∀ q : Nat, s.heap.size ≤ q → A q := fun q h => by rw [← hAe]; exact Or.inr h
  have hS : va_S A s.heap s.heap [] := va_S.rf
  have hl := lv_entry ([.int x1]) (n := 1) (Nat.le_of_ble_eq_true rfl)
  rw [lg_entry_eq]
  generalize (lg_sl ([.int x1]) ++ List.replicate (1 - (lg_sl ([.int x1])).length) Slot.unset).toArray = ls at hl ⊢
  have hl : lv_has ls 1 [(0, .int x1)] := hl
  refine lv_iload_n hx hb d_T_isModule_0 rfl (lv_at hl 0 rfl) ?_
  refine lv_if_lt (tgt := 13) hx hb d_T_isModule_1 (by decide) (fun h => absurd h h1) (fun _ => ?_)
  refine lv_iload_n hx hb d_T_isModule_4 rfl (lv_at hl 0 rfl) ?_
  refine lv_iconst (v := 2) hx hb d_T_isModule_5 (by decide) ?_
  refine lv_icmp_ge (tgt := 13) hx hb d_T_isModule_6 (by decide) (fun h => absurd h h2) (fun _ => ?_)
  refine lv_iconst (v := 1) hx hb d_T_isModule_9 (by decide) ?_
  refine lv_goto (tgt := 14) hx hb d_T_isModule_10 (by decide) ?_
  exact W.zret (v := 1) hx hb hr rfl (fun t ht hW => ⟨⟨_, (), rfl, rfl, by rw [ht]; exact hP, hD⟩, hS.F ht⟩) hS.2.2 d_T_isModule_14
set_option maxHeartbeats 400000 in
set_option maxRecDepth 100000 in
theorem c_T_aligned_1 (l : Launch) (E : tp_Env) (fr : va_W) (sz : Nat) (x1 : Int32)  : Met l y_T_aligned w_T_aligned ({ frames := 0, cells := 0, slots := 0, locals := 0 }) (va_Pc [.int x1] (tp_in E fr sz)) (va_Qi (fun r (_ : Unit) => r = ((x1 + 3) &&& (-4))) (fun _ t => tp_out E (va_A fr sz) fr t) (va_A fr sz)) 0 0 (va_A fr sz) := by
  refine Met.ofW (cc := b_T_aligned) (maxL := 1) (ret := (some .int)) (by decide) rfl ?_
  intro p e s m args below meth c s₁ B hml hv
  obtain ⟨rfl, hsz, hP, hK, hD0⟩ := hv
  have hx := B.exec
  have hb := B.bytes
  have hr := B.returns
  have htg : ∀ w ∈ tp_G, w.before ([.int x1] : List Value).toArray s = true := fun w h => atoms_spec (ws := w_T_aligned) B.pre w (List.mem_cons_of_mem _ h)
  have hown : s.vm.findClass "TwoPass" = some m.cls := findClass_of_methodNamed B.named
  have hlocks := B.notSynchronized
  subst hsz
  have hD := hD0.self (sz := s.heap.size)
  generalize hAe : va_A fr s.heap.size = A at hD hK ⊢
  have hA : ∀ q : Nat, s.heap.size ≤ q → A q := fun q h => by rw [← hAe]; exact Or.inr h
  have hS : va_S A s.heap s.heap [] := va_S.rf
  have hl := lv_entry ([.int x1]) (n := 1) (Nat.le_of_ble_eq_true rfl)
  rw [lg_entry_eq]
  generalize (lg_sl ([.int x1]) ++ List.replicate (1 - (lg_sl ([.int x1])).length) Slot.unset).toArray = ls at hl ⊢
  have hl : lv_has ls 1 [(0, .int x1)] := hl
  refine lv_iload_n hx hb d_T_aligned_0 rfl (lv_at hl 0 rfl) ?_
  refine lv_iconst (v := 3) hx hb d_T_aligned_1 (by decide) ?_
  refine lv_iadd hx hb d_T_aligned_2 ?_
  refine lv_bipush (v := (-4)) hx hb d_T_aligned_3 (by decide) ?_
  refine lv_iand hx hb d_T_aligned_5 ?_
  exact W.iret (v := ((x1 + 3) &&& (-4))) hx hb hr (fun t ht hW => ⟨⟨_, (), rfl, rfl, by rw [ht]; exact hP, hD⟩, hS.F ht⟩) hS.2.2 d_T_aligned_6
set_option maxHeartbeats 400000 in
set_option maxRecDepth 100000 in
theorem c_M_out_1 (l : Launch) (E : tp_Env) (fr : va_W) (sz : Nat) (x1 : Int32) (x2 : Int32) (h1 : x1 < 0) : Met l y_M_out w_M_out ({ frames := 0, cells := 0, slots := 0, locals := 0 }) (va_Pc [.int x1, .int x2] (tp_in E fr sz)) (va_Qi (fun r (_ : Unit) => r = 1) (fun _ t => tp_out E (va_A fr sz) fr t) (va_A fr sz)) 0 0 (va_A fr sz) := by
  refine Met.ofW (cc := b_M_out) (maxL := 2) (ret := (some .boolean)) (by decide) rfl ?_
  intro p e s m args below meth c s₁ B hml hv
  obtain ⟨rfl, hsz, hP, hK, hD0⟩ := hv
  have hx := B.exec
  have hb := B.bytes
  have hr := B.returns
  have htg : ∀ w ∈ tp_G, w.before ([.int x1, .int x2] : List Value).toArray s = true := fun w h => atoms_spec (ws := w_M_out) B.pre w (List.mem_cons_of_mem _ h)
  have hown : s.vm.findClass "TwoPassModel" = some m.cls := findClass_of_methodNamed B.named
  have hlocks := B.notSynchronized
  subst hsz
  have hD := hD0.self (sz := s.heap.size)
  generalize hAe : va_A fr s.heap.size = A at hD hK ⊢
  have hA : ∀ q : Nat, s.heap.size ≤ q → A q := fun q h => by rw [← hAe]; exact Or.inr h
  have hS : va_S A s.heap s.heap [] := va_S.rf
  have hl := lv_entry ([.int x1, .int x2]) (n := 2) (Nat.le_of_ble_eq_true rfl)
  rw [lg_entry_eq]
  generalize (lg_sl ([.int x1, .int x2]) ++ List.replicate (2 - (lg_sl ([.int x1, .int x2])).length) Slot.unset).toArray = ls at hl ⊢
  have hl : lv_has ls 2 [(0, .int x1), (1, .int x2)] := hl
  refine lv_iload_n hx hb d_M_out_0 rfl (lv_at hl 0 rfl) ?_
  refine lv_if_lt (tgt := 9) hx hb d_M_out_1 (by decide) (fun _ => ?_) (fun h => absurd h1 h)
  refine lv_iconst (v := 1) hx hb d_M_out_9 (by decide) ?_
  refine lv_goto (tgt := 14) hx hb d_M_out_10 (by decide) ?_
  exact W.zret (v := 1) hx hb hr rfl (fun t ht hW => ⟨⟨_, (), rfl, rfl, by rw [ht]; exact hP, hD⟩, hS.F ht⟩) hS.2.2 d_M_out_14
set_option maxHeartbeats 400000 in
set_option maxRecDepth 100000 in
theorem c_M_out_2 (l : Launch) (E : tp_Env) (fr : va_W) (sz : Nat) (x1 : Int32) (x2 : Int32) (h1 : ¬ x1 < 0) (h2 : x1 < x2) : Met l y_M_out w_M_out ({ frames := 0, cells := 0, slots := 0, locals := 0 }) (va_Pc [.int x1, .int x2] (tp_in E fr sz)) (va_Qi (fun r (_ : Unit) => r = 0) (fun _ t => tp_out E (va_A fr sz) fr t) (va_A fr sz)) 0 0 (va_A fr sz) := by
  refine Met.ofW (cc := b_M_out) (maxL := 2) (ret := (some .boolean)) (by decide) rfl ?_
  intro p e s m args below meth c s₁ B hml hv
  obtain ⟨rfl, hsz, hP, hK, hD0⟩ := hv
  have hx := B.exec
  have hb := B.bytes
  have hr := B.returns
  have htg : ∀ w ∈ tp_G, w.before ([.int x1, .int x2] : List Value).toArray s = true := fun w h => atoms_spec (ws := w_M_out) B.pre w (List.mem_cons_of_mem _ h)
  have hown : s.vm.findClass "TwoPassModel" = some m.cls := findClass_of_methodNamed B.named
  have hlocks := B.notSynchronized
  subst hsz
  have hD := hD0.self (sz := s.heap.size)
  generalize hAe : va_A fr s.heap.size = A at hD hK ⊢
  have hA : ∀ q : Nat, s.heap.size ≤ q → A q := fun q h => by rw [← hAe]; exact Or.inr h
  have hS : va_S A s.heap s.heap [] := va_S.rf
  have hl := lv_entry ([.int x1, .int x2]) (n := 2) (Nat.le_of_ble_eq_true rfl)
  rw [lg_entry_eq]
  generalize (lg_sl ([.int x1, .int x2]) ++ List.replicate (2 - (lg_sl ([.int x1, .int x2])).length) Slot.unset).toArray = ls at hl ⊢
  have hl : lv_has ls 2 [(0, .int x1), (1, .int x2)] := hl
  refine lv_iload_n hx hb d_M_out_0 rfl (lv_at hl 0 rfl) ?_
  refine lv_if_lt (tgt := 9) hx hb d_M_out_1 (by decide) (fun h => absurd h h1) (fun _ => ?_)
  refine lv_iload_n hx hb d_M_out_4 rfl (lv_at hl 0 rfl) ?_
  refine lv_iload_n hx hb d_M_out_5 rfl (lv_at hl 1 rfl) ?_
  refine lv_icmp_lt (tgt := 13) hx hb d_M_out_6 (by decide) (fun _ => ?_) (fun h => absurd h2 h)
  refine lv_iconst (v := 0) hx hb d_M_out_13 (by decide) ?_
  exact W.zret (v := 0) hx hb hr rfl (fun t ht hW => ⟨⟨_, (), rfl, rfl, by rw [ht]; exact hP, hD⟩, hS.F ht⟩) hS.2.2 d_M_out_14
set_option maxHeartbeats 400000 in
set_option maxRecDepth 100000 in
theorem c_M_out_3 (l : Launch) (E : tp_Env) (fr : va_W) (sz : Nat) (x1 : Int32) (x2 : Int32) (h1 : ¬ x1 < 0) (h2 : ¬ x1 < x2) : Met l y_M_out w_M_out ({ frames := 0, cells := 0, slots := 0, locals := 0 }) (va_Pc [.int x1, .int x2] (tp_in E fr sz)) (va_Qi (fun r (_ : Unit) => r = 1) (fun _ t => tp_out E (va_A fr sz) fr t) (va_A fr sz)) 0 0 (va_A fr sz) := by
  refine Met.ofW (cc := b_M_out) (maxL := 2) (ret := (some .boolean)) (by decide) rfl ?_
  intro p e s m args below meth c s₁ B hml hv
  obtain ⟨rfl, hsz, hP, hK, hD0⟩ := hv
  have hx := B.exec
  have hb := B.bytes
  have hr := B.returns
  have htg : ∀ w ∈ tp_G, w.before ([.int x1, .int x2] : List Value).toArray s = true := fun w h => atoms_spec (ws := w_M_out) B.pre w (List.mem_cons_of_mem _ h)
  have hown : s.vm.findClass "TwoPassModel" = some m.cls := findClass_of_methodNamed B.named
  have hlocks := B.notSynchronized
  subst hsz
  have hD := hD0.self (sz := s.heap.size)
  generalize hAe : va_A fr s.heap.size = A at hD hK ⊢
  have hA : ∀ q : Nat, s.heap.size ≤ q → A q := fun q h => by rw [← hAe]; exact Or.inr h
  have hS : va_S A s.heap s.heap [] := va_S.rf
  have hl := lv_entry ([.int x1, .int x2]) (n := 2) (Nat.le_of_ble_eq_true rfl)
  rw [lg_entry_eq]
  generalize (lg_sl ([.int x1, .int x2]) ++ List.replicate (2 - (lg_sl ([.int x1, .int x2])).length) Slot.unset).toArray = ls at hl ⊢
  have hl : lv_has ls 2 [(0, .int x1), (1, .int x2)] := hl
  refine lv_iload_n hx hb d_M_out_0 rfl (lv_at hl 0 rfl) ?_
  refine lv_if_lt (tgt := 9) hx hb d_M_out_1 (by decide) (fun h => absurd h h1) (fun _ => ?_)
  refine lv_iload_n hx hb d_M_out_4 rfl (lv_at hl 0 rfl) ?_
  refine lv_iload_n hx hb d_M_out_5 rfl (lv_at hl 1 rfl) ?_
  refine lv_icmp_lt (tgt := 13) hx hb d_M_out_6 (by decide) (fun h => absurd h h2) (fun _ => ?_)
  refine lv_iconst (v := 1) hx hb d_M_out_9 (by decide) ?_
  refine lv_goto (tgt := 14) hx hb d_M_out_10 (by decide) ?_
  exact W.zret (v := 1) hx hb hr rfl (fun t ht hW => ⟨⟨_, (), rfl, rfl, by rw [ht]; exact hP, hD⟩, hS.F ht⟩) hS.2.2 d_M_out_14
set_option maxHeartbeats 400000 in
set_option maxRecDepth 100000 in
theorem c_T_requireModule_1 (l : Launch) (hfl : l.stackTraces = false) (E : tp_Env) (fr : va_W) (sz : Nat) (x1 : Int32) (h1 : x1 < 0) : vx_Met l y_T_requireModule w_T_requireModule ({ frames := 6, cells := 1, slots := 6, locals := 89 }) (va_Pc [.int x1] (tp_in E fr sz)) (va_Qv (fun (_ : Unit) => False) (fun _ _ => True) (va_A fr sz)) (vx_X (fun (_ : Unit) => True) (fun x _ t => x = "java/lang/IllegalArgumentException" ∧ tp_out E (va_A fr sz) fr t) (va_A fr sz)) 1 6 (va_A fr sz) := by
  refine vx_ofW (cc := b_T_requireModule) (maxL := 1) (ret := none) (by decide) rfl ?_
  intro p e s m args below meth c s₁ B hml htab hv
  obtain ⟨rfl, hsz, hP, hK, hD0⟩ := hv
  have hx := B.exec
  have hb := B.bytes
  have hr := B.returns
  have htg : ∀ w ∈ tp_G, w.before ([.int x1] : List Value).toArray s = true := fun w h => atoms_spec (ws := w_T_requireModule) B.pre w (List.mem_cons_of_mem _ h)
  have hown : s.vm.findClass "TwoPass" = some m.cls := findClass_of_methodNamed B.named
  have hlocks := B.notSynchronized
  subst hsz
  have hD := hD0.self (sz := s.heap.size)
  generalize hAe : va_A fr s.heap.size = A at hD hK ⊢
  have hA : ∀ q : Nat, s.heap.size ≤ q → A q := fun q h => by rw [← hAe]; exact Or.inr h
  have hS : va_S A s.heap s.heap [] := va_S.rf
  have hl := lv_entry ([.int x1]) (n := 1) (Nat.le_of_ble_eq_true rfl)
  rw [lg_entry_eq]
  generalize (lg_sl ([.int x1]) ++ List.replicate (1 - (lg_sl ([.int x1])).length) Slot.unset).toArray = ls at hl ⊢
  have hl : lv_has ls 1 [(0, .int x1)] := hl
  refine lv_iload_n hx hb d_T_requireModule_0 rfl (lv_at hl 0 rfl) ?_
  refine tp_ci (tp_rS (As := [.int x1]) (rest := []) ⟨hx, hb, hml, hown, htg⟩ (c_T_isModule_1 l E fr _ x1 h1) (⟨callB_of 1 htg (tp_good0 kc_T_isModule) rfl rfl rfl (htg _ ki_T) (htg _ kl_T_127) ⟨by decide, by decide, by decide +kernel⟩ ⟨Nat.le_of_ble_eq_true rfl, Nat.le_of_ble_eq_true rfl⟩, htg _ ks_T_isModule⟩) hK hP hD hS hA rfl hl.1 rfl (Nat.le_of_ble_eq_true rfl) d_T_requireModule_1 ⟨Nat.le_of_ble_eq_true rfl, Nat.le_of_ble_eq_true rfl⟩) hD hS hA (fun r u H locs hw hP hD hS => ?_)
  subst r
  have hP : va_P (tp_D E) tp_cl (fr) H := hP
  have hD : va_D A (fr) := hD
  refine lv_if_ne (tgt := 15) hx hb d_T_requireModule_4 (by decide) (fun h => absurd (by decide) h) (fun _ => ?_)
  exact vx_throw0 (own := "TwoPass") (cls := "java/lang/IllegalArgumentException") (names := ["java/lang/RuntimeException", "java/lang/Exception"]) (ik := 38) (ic := 40) hx hb hfl hown (by decide +kernel) (by decide +kernel) (htg _ kl_T_38) (htg _ kx_IllegalArgumentException) (kxa_T_40 htg hK.2.2.2.1) kxg_T_40 hK.2.1 hK.2.2.1 hS (hl.1.trans hml.symm) d_T_requireModule_7 d_T_requireModule_10 d_T_requireModule_11 d_T_requireModule_14 (fun x h => (htab x h).elim) (Nat.le_of_ble_eq_true rfl) (Nat.le_of_ble_eq_true rfl) (Nat.le_of_ble_eq_true rfl) (Nat.le_of_ble_eq_true rfl) hlocks (fun t hvm hz hq => ⟨(), trivial, ⟨rfl, hP.kept (fun k q hk => hq _ (vx_lt hP hk)), hD⟩, ⟨Nat.le_trans hS.1 hz, fun q h1 h2 => (hq q (Nat.lt_of_lt_of_le h1 hS.1)).trans (hS.2.1 q h1 h2)⟩⟩) hS.2.2 (Nat.le_of_ble_eq_true rfl) (Nat.le_of_ble_eq_true rfl)
set_option maxHeartbeats 400000 in
set_option maxRecDepth 100000 in
theorem c_T_requireModule_2 (l : Launch) (hfl : l.stackTraces = false) (E : tp_Env) (fr : va_W) (sz : Nat) (x1 : Int32) (h1 : ¬ x1 < 0) (h2 : 2 ≤ x1) : vx_Met l y_T_requireModule w_T_requireModule ({ frames := 6, cells := 1, slots := 6, locals := 89 }) (va_Pc [.int x1] (tp_in E fr sz)) (va_Qv (fun (_ : Unit) => False) (fun _ _ => True) (va_A fr sz)) (vx_X (fun (_ : Unit) => True) (fun x _ t => x = "java/lang/IllegalArgumentException" ∧ tp_out E (va_A fr sz) fr t) (va_A fr sz)) 1 6 (va_A fr sz) := by
  refine vx_ofW (cc := b_T_requireModule) (maxL := 1) (ret := none) (by decide) rfl ?_
  intro p e s m args below meth c s₁ B hml htab hv
  obtain ⟨rfl, hsz, hP, hK, hD0⟩ := hv
  have hx := B.exec
  have hb := B.bytes
  have hr := B.returns
  have htg : ∀ w ∈ tp_G, w.before ([.int x1] : List Value).toArray s = true := fun w h => atoms_spec (ws := w_T_requireModule) B.pre w (List.mem_cons_of_mem _ h)
  have hown : s.vm.findClass "TwoPass" = some m.cls := findClass_of_methodNamed B.named
  have hlocks := B.notSynchronized
  subst hsz
  have hD := hD0.self (sz := s.heap.size)
  generalize hAe : va_A fr s.heap.size = A at hD hK ⊢
  have hA : ∀ q : Nat, s.heap.size ≤ q → A q := fun q h => by rw [← hAe]; exact Or.inr h
  have hS : va_S A s.heap s.heap [] := va_S.rf
  have hl := lv_entry ([.int x1]) (n := 1) (Nat.le_of_ble_eq_true rfl)
  rw [lg_entry_eq]
  generalize (lg_sl ([.int x1]) ++ List.replicate (1 - (lg_sl ([.int x1])).length) Slot.unset).toArray = ls at hl ⊢
  have hl : lv_has ls 1 [(0, .int x1)] := hl
  refine lv_iload_n hx hb d_T_requireModule_0 rfl (lv_at hl 0 rfl) ?_
  refine tp_ci (tp_rS (As := [.int x1]) (rest := []) ⟨hx, hb, hml, hown, htg⟩ (c_T_isModule_2 l E fr _ x1 h1 h2) (⟨callB_of 1 htg (tp_good0 kc_T_isModule) rfl rfl rfl (htg _ ki_T) (htg _ kl_T_127) ⟨by decide, by decide, by decide +kernel⟩ ⟨Nat.le_of_ble_eq_true rfl, Nat.le_of_ble_eq_true rfl⟩, htg _ ks_T_isModule⟩) hK hP hD hS hA rfl hl.1 rfl (Nat.le_of_ble_eq_true rfl) d_T_requireModule_1 ⟨Nat.le_of_ble_eq_true rfl, Nat.le_of_ble_eq_true rfl⟩) hD hS hA (fun r u H locs hw hP hD hS => ?_)
  subst r
  have hP : va_P (tp_D E) tp_cl (fr) H := hP
  have hD : va_D A (fr) := hD
  refine lv_if_ne (tgt := 15) hx hb d_T_requireModule_4 (by decide) (fun h => absurd (by decide) h) (fun _ => ?_)
  exact vx_throw0 (own := "TwoPass") (cls := "java/lang/IllegalArgumentException") (names := ["java/lang/RuntimeException", "java/lang/Exception"]) (ik := 38) (ic := 40) hx hb hfl hown (by decide +kernel) (by decide +kernel) (htg _ kl_T_38) (htg _ kx_IllegalArgumentException) (kxa_T_40 htg hK.2.2.2.1) kxg_T_40 hK.2.1 hK.2.2.1 hS (hl.1.trans hml.symm) d_T_requireModule_7 d_T_requireModule_10 d_T_requireModule_11 d_T_requireModule_14 (fun x h => (htab x h).elim) (Nat.le_of_ble_eq_true rfl) (Nat.le_of_ble_eq_true rfl) (Nat.le_of_ble_eq_true rfl) (Nat.le_of_ble_eq_true rfl) hlocks (fun t hvm hz hq => ⟨(), trivial, ⟨rfl, hP.kept (fun k q hk => hq _ (vx_lt hP hk)), hD⟩, ⟨Nat.le_trans hS.1 hz, fun q h1 h2 => (hq q (Nat.lt_of_lt_of_le h1 hS.1)).trans (hS.2.1 q h1 h2)⟩⟩) hS.2.2 (Nat.le_of_ble_eq_true rfl) (Nat.le_of_ble_eq_true rfl)
set_option maxHeartbeats 400000 in
set_option maxRecDepth 100000 in
theorem c_T_requireModule_3 (l : Launch) (E : tp_Env) (fr : va_W) (sz : Nat) (x1 : Int32) (h1 : ¬ x1 < 0) (h2 : ¬ 2 ≤ x1) : Met l y_T_requireModule w_T_requireModule ({ frames := 1, cells := 0, slots := 0, locals := 20 }) (va_Pc [.int x1] (tp_in E fr sz)) (va_Qv (fun (_ : Unit) => True) (fun _ t => tp_out E (va_A fr sz) fr t) (va_A fr sz)) 0 0 (va_A fr sz) := by
  refine Met.ofW (cc := b_T_requireModule) (maxL := 1) (ret := none) (by decide) rfl ?_
  intro p e s m args below meth c s₁ B hml hv
  obtain ⟨rfl, hsz, hP, hK, hD0⟩ := hv
  have hx := B.exec
  have hb := B.bytes
  have hr := B.returns
  have htg : ∀ w ∈ tp_G, w.before ([.int x1] : List Value).toArray s = true := fun w h => atoms_spec (ws := w_T_requireModule) B.pre w (List.mem_cons_of_mem _ h)
  have hown : s.vm.findClass "TwoPass" = some m.cls := findClass_of_methodNamed B.named
  have hlocks := B.notSynchronized
  subst hsz
  have hD := hD0.self (sz := s.heap.size)
  generalize hAe : va_A fr s.heap.size = A at hD hK ⊢
  have hA : ∀ q : Nat, s.heap.size ≤ q → A q := fun q h => by rw [← hAe]; exact Or.inr h
  have hS : va_S A s.heap s.heap [] := va_S.rf
  have hl := lv_entry ([.int x1]) (n := 1) (Nat.le_of_ble_eq_true rfl)
  rw [lg_entry_eq]
  generalize (lg_sl ([.int x1]) ++ List.replicate (1 - (lg_sl ([.int x1])).length) Slot.unset).toArray = ls at hl ⊢
  have hl : lv_has ls 1 [(0, .int x1)] := hl
  refine lv_iload_n hx hb d_T_requireModule_0 rfl (lv_at hl 0 rfl) ?_
  refine tp_ci (tp_rS (As := [.int x1]) (rest := []) ⟨hx, hb, hml, hown, htg⟩ (c_T_isModule_3 l E fr _ x1 h1 h2) (⟨callB_of 1 htg (tp_good0 kc_T_isModule) rfl rfl rfl (htg _ ki_T) (htg _ kl_T_127) ⟨by decide, by decide, by decide +kernel⟩ ⟨Nat.le_of_ble_eq_true rfl, Nat.le_of_ble_eq_true rfl⟩, htg _ ks_T_isModule⟩) hK hP hD hS hA rfl hl.1 rfl (Nat.le_of_ble_eq_true rfl) d_T_requireModule_1 ⟨Nat.le_of_ble_eq_true rfl, Nat.le_of_ble_eq_true rfl⟩) hD hS hA (fun r u H locs hw hP hD hS => ?_)
  subst r
  have hP : va_P (tp_D E) tp_cl (fr) H := hP
  have hD : va_D A (fr) := hD
  refine lv_if_ne (tgt := 15) hx hb d_T_requireModule_4 (by decide) (fun _ => ?_) (fun h => absurd h (by decide))
  exact W.vret hx hb hr (fun t ht hW => ⟨⟨(), rfl, trivial, by rw [ht]; exact hP, hD⟩, hS.F ht⟩) hS.2.2 d_T_requireModule_15
set_option maxHeartbeats 400000 in
set_option maxRecDepth 100000 in
theorem c_M_thrown_1 (l : Launch) (E : tp_Env) (fr : va_W) (sz : Nat) (x1 : Int32) (a2 : Nat) (a3 : Nat) (x4 : Int32) (a5 : Nat) (x6 : Int32) (x7 : Int32) (x8 : Int32) (a9 : Nat) (x10 : Int32) (x11 : Int32) (x12 : Int32) (x13 : Int32) (x14 : Int32) (x15 : Int64) (x16 : Int64) (x17 : Int64) (a18 : Nat) (a19 : Nat) (a20 : Nat) (a21 : Nat) (a22 : Nat) (a23 : Nat) (a24 : Nat) (a25 : Nat) (a26 : Nat) (a27 : Nat) (a28 : Nat) (a29 : Nat) (x30 : Int32) (x31 : Int32) (a32 : Nat) (x33 : Int32) (a34 : Nat) (a35 : Nat)  : Met l y_M_thrown w_M_thrown ({ frames := 0, cells := 0, slots := 0, locals := 0 }) (va_Pc [.ref a35] (tp_in E ((a35, .inr (4, [.int x1, .ref a2, .ref a3, .int x4, .ref a5, .int x6, .int x7, .int x8, .ref a9, .int x10, .int x11, .int x12, .int x13, .int x14, .long x15, .long x16, .long x17, .ref a18, .ref a19, .ref a20, .ref a21, .ref a22, .ref a23, .ref a24, .ref a25, .ref a26, .ref a27, .ref a28, .ref a29, .int x30, .int x31, .ref a32, .int x33, .ref a34])) :: fr) sz)) (va_Qi (fun r (_ : Unit) => r = x1) (fun _ t => tp_out E (va_A ((a35, .inr (4, [.int x1, .ref a2, .ref a3, .int x4, .ref a5, .int x6, .int x7, .int x8, .ref a9, .int x10, .int x11, .int x12, .int x13, .int x14, .long x15, .long x16, .long x17, .ref a18, .ref a19, .ref a20, .ref a21, .ref a22, .ref a23, .ref a24, .ref a25, .ref a26, .ref a27, .ref a28, .ref a29, .int x30, .int x31, .ref a32, .int x33, .ref a34])) :: fr) sz) ((a35, .inr (4, [.int x1, .ref a2, .ref a3, .int x4, .ref a5, .int x6, .int x7, .int x8, .ref a9, .int x10, .int x11, .int x12, .int x13, .int x14, .long x15, .long x16, .long x17, .ref a18, .ref a19, .ref a20, .ref a21, .ref a22, .ref a23, .ref a24, .ref a25, .ref a26, .ref a27, .ref a28, .ref a29, .int x30, .int x31, .ref a32, .int x33, .ref a34])) :: fr) t) (va_A ((a35, .inr (4, [.int x1, .ref a2, .ref a3, .int x4, .ref a5, .int x6, .int x7, .int x8, .ref a9, .int x10, .int x11, .int x12, .int x13, .int x14, .long x15, .long x16, .long x17, .ref a18, .ref a19, .ref a20, .ref a21, .ref a22, .ref a23, .ref a24, .ref a25, .ref a26, .ref a27, .ref a28, .ref a29, .int x30, .int x31, .ref a32, .int x33, .ref a34])) :: fr) sz)) 0 0 (va_A ((a35, .inr (4, [.int x1, .ref a2, .ref a3, .int x4, .ref a5, .int x6, .int x7, .int x8, .ref a9, .int x10, .int x11, .int x12, .int x13, .int x14, .long x15, .long x16, .long x17, .ref a18, .ref a19, .ref a20, .ref a21, .ref a22, .ref a23, .ref a24, .ref a25, .ref a26, .ref a27, .ref a28, .ref a29, .int x30, .int x31, .ref a32, .int x33, .ref a34])) :: fr) sz) := by
  refine Met.ofW (cc := b_M_thrown) (maxL := 1) (ret := (some .int)) (by decide) rfl ?_
  intro p e s m args below meth c s₁ B hml hv
  obtain ⟨rfl, hsz, hP, hK, hD0⟩ := hv
  have hx := B.exec
  have hb := B.bytes
  have hr := B.returns
  have htg : ∀ w ∈ tp_G, w.before ([.ref a35] : List Value).toArray s = true := fun w h => atoms_spec (ws := w_M_thrown) B.pre w (List.mem_cons_of_mem _ h)
  have hown : s.vm.findClass "TwoPassModel" = some m.cls := findClass_of_methodNamed B.named
  have hlocks := B.notSynchronized
  subst hsz
  have hD := hD0.self (sz := s.heap.size)
  generalize hAe : va_A ((a35, .inr (4, [.int x1, .ref a2, .ref a3, .int x4, .ref a5, .int x6, .int x7, .int x8, .ref a9, .int x10, .int x11, .int x12, .int x13, .int x14, .long x15, .long x16, .long x17, .ref a18, .ref a19, .ref a20, .ref a21, .ref a22, .ref a23, .ref a24, .ref a25, .ref a26, .ref a27, .ref a28, .ref a29, .int x30, .int x31, .ref a32, .int x33, .ref a34])) :: fr) s.heap.size = A at hD hK ⊢
  have hA : ∀ q : Nat, s.heap.size ≤ q → A q := fun q h => by rw [← hAe]; exact Or.inr h
  have hS : va_S A s.heap s.heap [] := va_S.rf
  have hl := lv_entry ([.ref a35]) (n := 1) (Nat.le_of_ble_eq_true rfl)
  rw [lg_entry_eq]
  generalize (lg_sl ([.ref a35]) ++ List.replicate (1 - (lg_sl ([.ref a35])).length) Slot.unset).toArray = ls at hl ⊢
  have hl : lv_has ls 1 [(0, .ref a35)] := hl
  refine lv_aload_n hx hb d_M_thrown_0 rfl (lv_at hl 0 rfl) ?_
  refine va_get (D := tp_D E) (ci := 4) (v := .int x1) (C := qR_M) (T := qF_M) (N := 34) hx hb htg qi_M hown hK.1 hP 0 rfl rfl 0 (by decide) (htg _ kl_M_208) (fun _ h => h) rfl d_M_thrown_1 ?_
  exact W.iret (v := x1) hx hb hr (fun t ht hW => ⟨⟨_, (), rfl, rfl, by rw [ht]; exact hP, hD⟩, hS.F ht⟩) hS.2.2 d_M_thrown_4
set_option maxHeartbeats 400000 in
set_option maxRecDepth 100000 in
theorem c_M_out_4 (l : Launch) (E : tp_Env) (fr : va_W) (sz : Nat) (x1 : Int32) (h1 : x1 < 0) : Met l y_M_out w_M_out ({ frames := 0, cells := 0, slots := 0, locals := 0 }) (va_Pc [.int x1, .int 2] (tp_in E fr sz)) (va_Qi (fun r (_ : Unit) => r = 1) (fun _ t => tp_out E (va_A fr sz) fr t) (va_A fr sz)) 0 0 (va_A fr sz) := by
  refine Met.ofW (cc := b_M_out) (maxL := 2) (ret := (some .boolean)) (by decide) rfl ?_
  intro p e s m args below meth c s₁ B hml hv
  obtain ⟨rfl, hsz, hP, hK, hD0⟩ := hv
  have hx := B.exec
  have hb := B.bytes
  have hr := B.returns
  have htg : ∀ w ∈ tp_G, w.before ([.int x1, .int 2] : List Value).toArray s = true := fun w h => atoms_spec (ws := w_M_out) B.pre w (List.mem_cons_of_mem _ h)
  have hown : s.vm.findClass "TwoPassModel" = some m.cls := findClass_of_methodNamed B.named
  have hlocks := B.notSynchronized
  subst hsz
  have hD := hD0.self (sz := s.heap.size)
  generalize hAe : va_A fr s.heap.size = A at hD hK ⊢
  have hA : ∀ q : Nat, s.heap.size ≤ q → A q := fun q h => by rw [← hAe]; exact Or.inr h
  have hS : va_S A s.heap s.heap [] := va_S.rf
  have hl := lv_entry ([.int x1, .int 2]) (n := 2) (Nat.le_of_ble_eq_true rfl)
  rw [lg_entry_eq]
  generalize (lg_sl ([.int x1, .int 2]) ++ List.replicate (2 - (lg_sl ([.int x1, .int 2])).length) Slot.unset).toArray = ls at hl ⊢
  have hl : lv_has ls 2 [(0, .int x1), (1, .int 2)] := hl
  refine lv_iload_n hx hb d_M_out_0 rfl (lv_at hl 0 rfl) ?_
  refine lv_if_lt (tgt := 9) hx hb d_M_out_1 (by decide) (fun _ => ?_) (fun h => absurd h1 h)
  refine lv_iconst (v := 1) hx hb d_M_out_9 (by decide) ?_
  refine lv_goto (tgt := 14) hx hb d_M_out_10 (by decide) ?_
  exact W.zret (v := 1) hx hb hr rfl (fun t ht hW => ⟨⟨_, (), rfl, rfl, by rw [ht]; exact hP, hD⟩, hS.F ht⟩) hS.2.2 d_M_out_14
set_option maxHeartbeats 400000 in
set_option maxRecDepth 100000 in
theorem c_M_lines_1 (l : Launch) (E : tp_Env) (fr : va_W) (sz : Nat) (x1 : Int32) (a2 : Nat) (a3 : Nat) (x4 : Int32) (a5 : Nat) (x6 : Int32) (x7 : Int32) (x8 : Int32) (a9 : Nat) (x10 : Int32) (x11 : Int32) (x12 : Int32) (x13 : Int32) (x14 : Int32) (x15 : Int64) (x16 : Int64) (x17 : Int64) (a18 : Nat) (a19 : Nat) (a20 : Nat) (a21 : Nat) (a22 : Nat) (a23 : Nat) (a24 : Nat) (a25 : Nat) (a26 : Nat) (a27 : Nat) (a28 : Nat) (a29 : Nat) (x30 : Int32) (x31 : Int32) (a32 : Nat) (x33 : Int32) (a34 : Nat) (a35 : Nat) (x36 : Int32) (h1 : x36 < 0) : Met l y_M_lines w_M_lines ({ frames := 1, cells := 0, slots := 0, locals := 21 }) (va_Pc [.ref a35, .int x36] (tp_in E ((a35, .inr (4, [.int x1, .ref a2, .ref a3, .int x4, .ref a5, .int x6, .int x7, .int x8, .ref a9, .int x10, .int x11, .int x12, .int x13, .int x14, .long x15, .long x16, .long x17, .ref a18, .ref a19, .ref a20, .ref a21, .ref a22, .ref a23, .ref a24, .ref a25, .ref a26, .ref a27, .ref a28, .ref a29, .int x30, .int x31, .ref a32, .int x33, .ref a34])) :: fr) sz)) (va_Qi (fun r (_ : Unit) => r = 0) (fun _ t => tp_out E (va_A ((a35, .inr (4, [.int x1, .ref a2, .ref a3, .int x4, .ref a5, .int x6, .int x7, .int x8, .ref a9, .int x10, .int x11, .int x12, .int x13, .int x14, .long x15, .long x16, .long x17, .ref a18, .ref a19, .ref a20, .ref a21, .ref a22, .ref a23, .ref a24, .ref a25, .ref a26, .ref a27, .ref a28, .ref a29, .int x30, .int x31, .ref a32, .int x33, .ref a34])) :: fr) sz) ((a35, .inr (4, [.int 1, .ref a2, .ref a3, .int x4, .ref a5, .int x6, .int x7, .int x8, .ref a9, .int x10, .int x11, .int x12, .int x13, .int x14, .long x15, .long x16, .long x17, .ref a18, .ref a19, .ref a20, .ref a21, .ref a22, .ref a23, .ref a24, .ref a25, .ref a26, .ref a27, .ref a28, .ref a29, .int x30, .int x31, .ref a32, .int x33, .ref a34])) :: fr) t) (va_A ((a35, .inr (4, [.int x1, .ref a2, .ref a3, .int x4, .ref a5, .int x6, .int x7, .int x8, .ref a9, .int x10, .int x11, .int x12, .int x13, .int x14, .long x15, .long x16, .long x17, .ref a18, .ref a19, .ref a20, .ref a21, .ref a22, .ref a23, .ref a24, .ref a25, .ref a26, .ref a27, .ref a28, .ref a29, .int x30, .int x31, .ref a32, .int x33, .ref a34])) :: fr) sz)) 0 0 (va_A ((a35, .inr (4, [.int x1, .ref a2, .ref a3, .int x4, .ref a5, .int x6, .int x7, .int x8, .ref a9, .int x10, .int x11, .int x12, .int x13, .int x14, .long x15, .long x16, .long x17, .ref a18, .ref a19, .ref a20, .ref a21, .ref a22, .ref a23, .ref a24, .ref a25, .ref a26, .ref a27, .ref a28, .ref a29, .int x30, .int x31, .ref a32, .int x33, .ref a34])) :: fr) sz) := by
  refine Met.ofW (cc := b_M_lines) (maxL := 2) (ret := (some .int)) (by decide) rfl ?_
  intro p e s m args below meth c s₁ B hml hv
  obtain ⟨rfl, hsz, hP, hK, hD0⟩ := hv
  have hx := B.exec
  have hb := B.bytes
  have hr := B.returns
  have htg : ∀ w ∈ tp_G, w.before ([.ref a35, .int x36] : List Value).toArray s = true := fun w h => atoms_spec (ws := w_M_lines) B.pre w (List.mem_cons_of_mem _ h)
  have hown : s.vm.findClass "TwoPassModel" = some m.cls := findClass_of_methodNamed B.named
  have hlocks := B.notSynchronized
  subst hsz
  have hD := hD0.self (sz := s.heap.size)
  generalize hAe : va_A ((a35, .inr (4, [.int x1, .ref a2, .ref a3, .int x4, .ref a5, .int x6, .int x7, .int x8, .ref a9, .int x10, .int x11, .int x12, .int x13, .int x14, .long x15, .long x16, .long x17, .ref a18, .ref a19, .ref a20, .ref a21, .ref a22, .ref a23, .ref a24, .ref a25, .ref a26, .ref a27, .ref a28, .ref a29, .int x30, .int x31, .ref a32, .int x33, .ref a34])) :: fr) s.heap.size = A at hD hK ⊢
  have hA : ∀ q : Nat, s.heap.size ≤ q → A q := fun q h => by rw [← hAe]; exact Or.inr h
  have hS : va_S A s.heap s.heap [] := va_S.rf
  have hl := lv_entry ([.ref a35, .int x36]) (n := 2) (Nat.le_of_ble_eq_true rfl)
  rw [lg_entry_eq]
  generalize (lg_sl ([.ref a35, .int x36]) ++ List.replicate (2 - (lg_sl ([.ref a35, .int x36])).length) Slot.unset).toArray = ls at hl ⊢
  have hl : lv_has ls 2 [(0, .ref a35), (1, .int x36)] := hl
  refine lv_aload_n hx hb d_M_lines_0 rfl (lv_at hl 0 rfl) ?_
  refine lv_iload_n hx hb d_M_lines_1 rfl (lv_at hl 1 rfl) ?_
  refine lv_iconst (v := 2) hx hb d_M_lines_2 (by decide) ?_
  refine tp_ci (tp_rS (As := [.int x36, .int 2]) (rest := [.ref a35]) ⟨hx, hb, hml, hown, htg⟩ (c_M_out_4 l E ((a35, .inr (4, [.int x1, .ref a2, .ref a3, .int x4, .ref a5, .int x6, .int x7, .int x8, .ref a9, .int x10, .int x11, .int x12, .int x13, .int x14, .long x15, .long x16, .long x17, .ref a18, .ref a19, .ref a20, .ref a21, .ref a22, .ref a23, .ref a24, .ref a25, .ref a26, .ref a27, .ref a28, .ref a29, .int x30, .int x31, .ref a32, .int x33, .ref a34])) :: fr) _ x36 h1) (⟨callB_of 2 htg (tp_good0 kc_M_out) rfl rfl rfl (htg _ ki_M) (htg _ kl_M_350) ⟨by decide, by decide, by decide +kernel⟩ ⟨Nat.le_of_ble_eq_true rfl, Nat.le_of_ble_eq_true rfl⟩, htg _ ks_M_out⟩) hK hP hD hS hA rfl hl.1 rfl (Nat.le_of_ble_eq_true rfl) d_M_lines_3 ⟨Nat.le_of_ble_eq_true rfl, Nat.le_of_ble_eq_true rfl⟩) hD hS hA (fun r u H locs hw hP hD hS => ?_)
  subst r
  have hP : va_P (tp_D E) tp_cl ((a35, .inr (4, [.int x1, .ref a2, .ref a3, .int x4, .ref a5, .int x6, .int x7, .int x8, .ref a9, .int x10, .int x11, .int x12, .int x13, .int x14, .long x15, .long x16, .long x17, .ref a18, .ref a19, .ref a20, .ref a21, .ref a22, .ref a23, .ref a24, .ref a25, .ref a26, .ref a27, .ref a28, .ref a29, .int x30, .int x31, .ref a32, .int x33, .ref a34])) :: fr) H := hP
  have hD : va_D A ((a35, .inr (4, [.int x1, .ref a2, .ref a3, .int x4, .ref a5, .int x6, .int x7, .int x8, .ref a9, .int x10, .int x11, .int x12, .int x13, .int x14, .long x15, .long x16, .long x17, .ref a18, .ref a19, .ref a20, .ref a21, .ref a22, .ref a23, .ref a24, .ref a25, .ref a26, .ref a27, .ref a28, .ref a29, .int x30, .int x31, .ref a32, .int x33, .ref a34])) :: fr) := hD
  refine lv_if_eq (tgt := 13) hx hb d_M_lines_6 (by decide) (fun h => absurd h (by decide)) (fun _ => ?_)
  refine lv_iconst (v := 1) hx hb d_M_lines_9 (by decide) ?_
  refine lv_goto (tgt := 14) hx hb d_M_lines_10 (by decide) ?_
  refine va_put (D := tp_D E) (ci := 4) (v := .int 1) (ty := .int) (C := qR_M) (T := qF_M) (N := 34) hx hb htg qi_M qt_M qt_M_ok qn_M hown hK.1 hP hD hS 0 rfl rfl 0 (by decide) (htg _ kl_M_208) (fun _ h => h) rfl (by decide +kernel) rfl rfl (Nat.le_of_ble_eq_true rfl) d_M_lines_14 (fun H locs hP hD hS => ?_)
  have hP : va_P (tp_D E) tp_cl ((a35, .inr (4, [.int 1, .ref a2, .ref a3, .int x4, .ref a5, .int x6, .int x7, .int x8, .ref a9, .int x10, .int x11, .int x12, .int x13, .int x14, .long x15, .long x16, .long x17, .ref a18, .ref a19, .ref a20, .ref a21, .ref a22, .ref a23, .ref a24, .ref a25, .ref a26, .ref a27, .ref a28, .ref a29, .int x30, .int x31, .ref a32, .int x33, .ref a34])) :: fr) H := hP
  have hD : va_D A ((a35, .inr (4, [.int 1, .ref a2, .ref a3, .int x4, .ref a5, .int x6, .int x7, .int x8, .ref a9, .int x10, .int x11, .int x12, .int x13, .int x14, .long x15, .long x16, .long x17, .ref a18, .ref a19, .ref a20, .ref a21, .ref a22, .ref a23, .ref a24, .ref a25, .ref a26, .ref a27, .ref a28, .ref a29, .int x30, .int x31, .ref a32, .int x33, .ref a34])) :: fr) := hD
  refine lv_aload_n hx hb d_M_lines_17 rfl (lv_at hl 0 rfl) ?_
  refine va_get (D := tp_D E) (ci := 4) (v := .int 1) (C := qR_M) (T := qF_M) (N := 34) hx hb htg qi_M hown hK.1 hP 0 rfl rfl 0 (by decide) (htg _ kl_M_208) (fun _ h => h) rfl d_M_lines_18 ?_
  refine lv_if_le (tgt := 28) hx hb d_M_lines_21 (by decide) (fun h => absurd h (by decide)) (fun _ => ?_)
  refine lv_iconst (v := 0) hx hb d_M_lines_24 (by decide) ?_
  refine lv_goto (tgt := 34) hx hb d_M_lines_25 (by decide) ?_
  exact W.iret (v := 0) hx hb hr (fun t ht hW => ⟨⟨_, (), rfl, rfl, by rw [ht]; exact hP, hD⟩, hS.F ht⟩) hS.2.2 d_M_lines_34
set_option maxHeartbeats 400000 in
set_option maxRecDepth 100000 in
theorem c_M_out_5 (l : Launch) (E : tp_Env) (fr : va_W) (sz : Nat) (x1 : Int32) (h1 : ¬ x1 < 0) (h2 : x1 < 2) : Met l y_M_out w_M_out ({ frames := 0, cells := 0, slots := 0, locals := 0 }) (va_Pc [.int x1, .int 2] (tp_in E fr sz)) (va_Qi (fun r (_ : Unit) => r = 0) (fun _ t => tp_out E (va_A fr sz) fr t) (va_A fr sz)) 0 0 (va_A fr sz) := by
  refine Met.ofW (cc := b_M_out) (maxL := 2) (ret := (some .boolean)) (by decide) rfl ?_
  intro p e s m args below meth c s₁ B hml hv
  obtain ⟨rfl, hsz, hP, hK, hD0⟩ := hv
  have hx := B.exec
  have hb := B.bytes
  have hr := B.returns
  have htg : ∀ w ∈ tp_G, w.before ([.int x1, .int 2] : List Value).toArray s = true := fun w h => atoms_spec (ws := w_M_out) B.pre w (List.mem_cons_of_mem _ h)
  have hown : s.vm.findClass "TwoPassModel" = some m.cls := findClass_of_methodNamed B.named
  have hlocks := B.notSynchronized
  subst hsz
  have hD := hD0.self (sz := s.heap.size)
  generalize hAe : va_A fr s.heap.size = A at hD hK ⊢
  have hA : ∀ q : Nat, s.heap.size ≤ q → A q := fun q h => by rw [← hAe]; exact Or.inr h
  have hS : va_S A s.heap s.heap [] := va_S.rf
  have hl := lv_entry ([.int x1, .int 2]) (n := 2) (Nat.le_of_ble_eq_true rfl)
  rw [lg_entry_eq]
  generalize (lg_sl ([.int x1, .int 2]) ++ List.replicate (2 - (lg_sl ([.int x1, .int 2])).length) Slot.unset).toArray = ls at hl ⊢
  have hl : lv_has ls 2 [(0, .int x1), (1, .int 2)] := hl
  refine lv_iload_n hx hb d_M_out_0 rfl (lv_at hl 0 rfl) ?_
  refine lv_if_lt (tgt := 9) hx hb d_M_out_1 (by decide) (fun h => absurd h h1) (fun _ => ?_)
  refine lv_iload_n hx hb d_M_out_4 rfl (lv_at hl 0 rfl) ?_
  refine lv_iload_n hx hb d_M_out_5 rfl (lv_at hl 1 rfl) ?_
  refine lv_icmp_lt (tgt := 13) hx hb d_M_out_6 (by decide) (fun _ => ?_) (fun h => absurd h2 h)
  refine lv_iconst (v := 0) hx hb d_M_out_13 (by decide) ?_
  exact W.zret (v := 0) hx hb hr rfl (fun t ht hW => ⟨⟨_, (), rfl, rfl, by rw [ht]; exact hP, hD⟩, hS.F ht⟩) hS.2.2 d_M_out_14
set_option maxHeartbeats 400000 in
set_option maxRecDepth 100000 in
theorem c_M_lines_2 (l : Launch) (E : tp_Env) (fr : va_W) (sz : Nat) (x1 : Int32) (a2 : Nat) (a3 : Nat) (x4 : Int32) (a5 : Nat) (x6 : Int32) (x7 : Int32) (x8 : Int32) (a9 : Nat) (x10 : Int32) (x11 : Int32) (x12 : Int32) (x13 : Int32) (x14 : Int32) (x15 : Int64) (x16 : Int64) (x17 : Int64) (a18 : Nat) (a19 : Nat) (a20 : Nat) (a21 : Nat) (a22 : Nat) (a23 : Nat) (a24 : Nat) (a25 : Nat) (a26 : Nat) (a27 : Nat) (a28 : Nat) (a29 : Nat) (x30 : Int32) (x31 : Int32) (a32 : Nat) (x33 : Int32) (a34 : Nat) (a35 : Nat) (x36 : Int32) (f37 : Nat → Int32) (h1 : ¬ x36 < 0) (h2 : x36 < 2) : Met l y_M_lines w_M_lines ({ frames := 1, cells := 0, slots := 0, locals := 21 }) (va_Pc [.ref a35, .int x36] (tp_in E ((a35, .inr (4, [.int x1, .ref a2, .ref a3, .int x4, .ref a5, .int x6, .int x7, .int x8, .ref a9, .int x10, .int x11, .int x12, .int x13, .int x14, .long x15, .long x16, .long x17, .ref a18, .ref a19, .ref a20, .ref a21, .ref a22, .ref a23, .ref a24, .ref a25, .ref a26, .ref a27, .ref a28, .ref a29, .int x30, .int x31, .ref a32, .int x33, .ref a34])) :: (a18, .inl (tp_ty E 0, 2, .inl f37)) :: fr) sz)) (va_Qi (fun r (_ : Unit) => r = (f37 x36.toNatClampNeg)) (fun _ t => tp_out E (va_A ((a35, .inr (4, [.int x1, .ref a2, .ref a3, .int x4, .ref a5, .int x6, .int x7, .int x8, .ref a9, .int x10, .int x11, .int x12, .int x13, .int x14, .long x15, .long x16, .long x17, .ref a18, .ref a19, .ref a20, .ref a21, .ref a22, .ref a23, .ref a24, .ref a25, .ref a26, .ref a27, .ref a28, .ref a29, .int x30, .int x31, .ref a32, .int x33, .ref a34])) :: (a18, .inl (tp_ty E 0, 2, .inl f37)) :: fr) sz) ((a35, .inr (4, [.int 0, .ref a2, .ref a3, .int x4, .ref a5, .int x6, .int x7, .int x8, .ref a9, .int x10, .int x11, .int x12, .int x13, .int x14, .long x15, .long x16, .long x17, .ref a18, .ref a19, .ref a20, .ref a21, .ref a22, .ref a23, .ref a24, .ref a25, .ref a26, .ref a27, .ref a28, .ref a29, .int x30, .int x31, .ref a32, .int x33, .ref a34])) :: (a18, .inl (tp_ty E 0, 2, .inl f37)) :: fr) t) (va_A ((a35, .inr (4, [.int x1, .ref a2, .ref a3, .int x4, .ref a5, .int x6, .int x7, .int x8, .ref a9, .int x10, .int x11, .int x12, .int x13, .int x14, .long x15, .long x16, .long x17, .ref a18, .ref a19, .ref a20, .ref a21, .ref a22, .ref a23, .ref a24, .ref a25, .ref a26, .ref a27, .ref a28, .ref a29, .int x30, .int x31, .ref a32, .int x33, .ref a34])) :: (a18, .inl (tp_ty E 0, 2, .inl f37)) :: fr) sz)) 0 0 (va_A ((a35, .inr (4, [.int x1, .ref a2, .ref a3, .int x4, .ref a5, .int x6, .int x7, .int x8, .ref a9, .int x10, .int x11, .int x12, .int x13, .int x14, .long x15, .long x16, .long x17, .ref a18, .ref a19, .ref a20, .ref a21, .ref a22, .ref a23, .ref a24, .ref a25, .ref a26, .ref a27, .ref a28, .ref a29, .int x30, .int x31, .ref a32, .int x33, .ref a34])) :: (a18, .inl (tp_ty E 0, 2, .inl f37)) :: fr) sz) := by
  refine Met.ofW (cc := b_M_lines) (maxL := 2) (ret := (some .int)) (by decide) rfl ?_
  intro p e s m args below meth c s₁ B hml hv
  obtain ⟨rfl, hsz, hP, hK, hD0⟩ := hv
  have hx := B.exec
  have hb := B.bytes
  have hr := B.returns
  have htg : ∀ w ∈ tp_G, w.before ([.ref a35, .int x36] : List Value).toArray s = true := fun w h => atoms_spec (ws := w_M_lines) B.pre w (List.mem_cons_of_mem _ h)
  have hown : s.vm.findClass "TwoPassModel" = some m.cls := findClass_of_methodNamed B.named
  have hlocks := B.notSynchronized
  subst hsz
  have hD := hD0.self (sz := s.heap.size)
  generalize hAe : va_A ((a35, .inr (4, [.int x1, .ref a2, .ref a3, .int x4, .ref a5, .int x6, .int x7, .int x8, .ref a9, .int x10, .int x11, .int x12, .int x13, .int x14, .long x15, .long x16, .long x17, .ref a18, .ref a19, .ref a20, .ref a21, .ref a22, .ref a23, .ref a24, .ref a25, .ref a26, .ref a27, .ref a28, .ref a29, .int x30, .int x31, .ref a32, .int x33, .ref a34])) :: (a18, .inl (tp_ty E 0, 2, .inl f37)) :: fr) s.heap.size = A at hD hK ⊢
  have hA : ∀ q : Nat, s.heap.size ≤ q → A q := fun q h => by rw [← hAe]; exact Or.inr h
  have hS : va_S A s.heap s.heap [] := va_S.rf
  have hl := lv_entry ([.ref a35, .int x36]) (n := 2) (Nat.le_of_ble_eq_true rfl)
  rw [lg_entry_eq]
  generalize (lg_sl ([.ref a35, .int x36]) ++ List.replicate (2 - (lg_sl ([.ref a35, .int x36])).length) Slot.unset).toArray = ls at hl ⊢
  have hl : lv_has ls 2 [(0, .ref a35), (1, .int x36)] := hl
  refine lv_aload_n hx hb d_M_lines_0 rfl (lv_at hl 0 rfl) ?_
  refine lv_iload_n hx hb d_M_lines_1 rfl (lv_at hl 1 rfl) ?_
  refine lv_iconst (v := 2) hx hb d_M_lines_2 (by decide) ?_
  refine tp_ci (tp_rS (As := [.int x36, .int 2]) (rest := [.ref a35]) ⟨hx, hb, hml, hown, htg⟩ (c_M_out_5 l E ((a35, .inr (4, [.int x1, .ref a2, .ref a3, .int x4, .ref a5, .int x6, .int x7, .int x8, .ref a9, .int x10, .int x11, .int x12, .int x13, .int x14, .long x15, .long x16, .long x17, .ref a18, .ref a19, .ref a20, .ref a21, .ref a22, .ref a23, .ref a24, .ref a25, .ref a26, .ref a27, .ref a28, .ref a29, .int x30, .int x31, .ref a32, .int x33, .ref a34])) :: (a18, .inl (tp_ty E 0, 2, .inl f37)) :: fr) _ x36 h1 h2) (⟨callB_of 2 htg (tp_good0 kc_M_out) rfl rfl rfl (htg _ ki_M) (htg _ kl_M_350) ⟨by decide, by decide, by decide +kernel⟩ ⟨Nat.le_of_ble_eq_true rfl, Nat.le_of_ble_eq_true rfl⟩, htg _ ks_M_out⟩) hK hP hD hS hA rfl hl.1 rfl (Nat.le_of_ble_eq_true rfl) d_M_lines_3 ⟨Nat.le_of_ble_eq_true rfl, Nat.le_of_ble_eq_true rfl⟩) hD hS hA (fun r u H locs hw hP hD hS => ?_)
  subst r
  have hP : va_P (tp_D E) tp_cl ((a35, .inr (4, [.int x1, .ref a2, .ref a3, .int x4, .ref a5, .int x6, .int x7, .int x8, .ref a9, .int x10, .int x11, .int x12, .int x13, .int x14, .long x15, .long x16, .long x17, .ref a18, .ref a19, .ref a20, .ref a21, .ref a22, .ref a23, .ref a24, .ref a25, .ref a26, .ref a27, .ref a28, .ref a29, .int x30, .int x31, .ref a32, .int x33, .ref a34])) :: (a18, .inl (tp_ty E 0, 2, .inl f37)) :: fr) H := hP
  have hD : va_D A ((a35, .inr (4, [.int x1, .ref a2, .ref a3, .int x4, .ref a5, .int x6, .int x7, .int x8, .ref a9, .int x10, .int x11, .int x12, .int x13, .int x14, .long x15, .long x16, .long x17, .ref a18, .ref a19, .ref a20, .ref a21, .ref a22, .ref a23, .ref a24, .ref a25, .ref a26, .ref a27, .ref a28, .ref a29, .int x30, .int x31, .ref a32, .int x33, .ref a34])) :: (a18, .inl (tp_ty E 0, 2, .inl f37)) :: fr) := hD
  refine lv_if_eq (tgt := 13) hx hb d_M_lines_6 (by decide) (fun _ => ?_) (fun h => absurd (by decide) h)
  refine lv_iconst (v := 0) hx hb d_M_lines_13 (by decide) ?_
  refine va_put (D := tp_D E) (ci := 4) (v := .int 0) (ty := .int) (C := qR_M) (T := qF_M) (N := 34) hx hb htg qi_M qt_M qt_M_ok qn_M hown hK.1 hP hD hS 0 rfl rfl 0 (by decide) (htg _ kl_M_208) (fun _ h => h) rfl (by decide +kernel) rfl rfl (Nat.le_of_ble_eq_true rfl) d_M_lines_14 (fun H locs hP hD hS => ?_)
  have hP : va_P (tp_D E) tp_cl ((a35, .inr (4, [.int 0, .ref a2, .ref a3, .int x4, .ref a5, .int x6, .int x7, .int x8, .ref a9, .int x10, .int x11, .int x12, .int x13, .int x14, .long x15, .long x16, .long x17, .ref a18, .ref a19, .ref a20, .ref a21, .ref a22, .ref a23, .ref a24, .ref a25, .ref a26, .ref a27, .ref a28, .ref a29, .int x30, .int x31, .ref a32, .int x33, .ref a34])) :: (a18, .inl (tp_ty E 0, 2, .inl f37)) :: fr) H := hP
  have hD : va_D A ((a35, .inr (4, [.int 0, .ref a2, .ref a3, .int x4, .ref a5, .int x6, .int x7, .int x8, .ref a9, .int x10, .int x11, .int x12, .int x13, .int x14, .long x15, .long x16, .long x17, .ref a18, .ref a19, .ref a20, .ref a21, .ref a22, .ref a23, .ref a24, .ref a25, .ref a26, .ref a27, .ref a28, .ref a29, .int x30, .int x31, .ref a32, .int x33, .ref a34])) :: (a18, .inl (tp_ty E 0, 2, .inl f37)) :: fr) := hD
  refine lv_aload_n hx hb d_M_lines_17 rfl (lv_at hl 0 rfl) ?_
  refine va_get (D := tp_D E) (ci := 4) (v := .int 0) (C := qR_M) (T := qF_M) (N := 34) hx hb htg qi_M hown hK.1 hP 0 rfl rfl 0 (by decide) (htg _ kl_M_208) (fun _ h => h) rfl d_M_lines_18 ?_
  refine lv_if_le (tgt := 28) hx hb d_M_lines_21 (by decide) (fun _ => ?_) (fun h => absurd (by decide) h)
  refine lv_aload_n hx hb d_M_lines_28 rfl (lv_at hl 0 rfl) ?_
  refine va_get (D := tp_D E) (ci := 4) (v := .ref a18) (C := qR_M) (T := qF_M) (N := 34) hx hb htg qi_M hown hK.1 hP 0 rfl rfl 17 (by decide) (htg _ kl_M_23) (fun _ h => h) rfl d_M_lines_29 ?_
  refine lv_iload_n hx hb d_M_lines_32 rfl (lv_at hl 1 rfl) ?_
  refine va_iald (D := tp_D E) hx hb hK.1 hP 1 0 rfl rfl (tp_vin (k := 2) h1 (Int32.not_le.mpr h2) (by decide) (by decide)) d_M_lines_33 ?_
  exact W.iret (v := (f37 x36.toNatClampNeg)) hx hb hr (fun t ht hW => ⟨⟨_, (), rfl, rfl, by rw [ht]; exact hP, hD⟩, hS.F ht⟩) hS.2.2 d_M_lines_34
set_option maxHeartbeats 400000 in
set_option maxRecDepth 100000 in
theorem c_M_out_6 (l : Launch) (E : tp_Env) (fr : va_W) (sz : Nat) (x1 : Int32) (h1 : ¬ x1 < 0) (h2 : ¬ x1 < 2) : Met l y_M_out w_M_out ({ frames := 0, cells := 0, slots := 0, locals := 0 }) (va_Pc [.int x1, .int 2] (tp_in E fr sz)) (va_Qi (fun r (_ : Unit) => r = 1) (fun _ t => tp_out E (va_A fr sz) fr t) (va_A fr sz)) 0 0 (va_A fr sz) := by
  refine Met.ofW (cc := b_M_out) (maxL := 2) (ret := (some .boolean)) (by decide) rfl ?_
  intro p e s m args below meth c s₁ B hml hv
  obtain ⟨rfl, hsz, hP, hK, hD0⟩ := hv
  have hx := B.exec
  have hb := B.bytes
  have hr := B.returns
  have htg : ∀ w ∈ tp_G, w.before ([.int x1, .int 2] : List Value).toArray s = true := fun w h => atoms_spec (ws := w_M_out) B.pre w (List.mem_cons_of_mem _ h)
  have hown : s.vm.findClass "TwoPassModel" = some m.cls := findClass_of_methodNamed B.named
  have hlocks := B.notSynchronized
  subst hsz
  have hD := hD0.self (sz := s.heap.size)
  generalize hAe : va_A fr s.heap.size = A at hD hK ⊢
  have hA : ∀ q : Nat, s.heap.size ≤ q → A q := fun q h => by rw [← hAe]; exact Or.inr h
  have hS : va_S A s.heap s.heap [] := va_S.rf
  have hl := lv_entry ([.int x1, .int 2]) (n := 2) (Nat.le_of_ble_eq_true rfl)
  rw [lg_entry_eq]
  generalize (lg_sl ([.int x1, .int 2]) ++ List.replicate (2 - (lg_sl ([.int x1, .int 2])).length) Slot.unset).toArray = ls at hl ⊢
  have hl : lv_has ls 2 [(0, .int x1), (1, .int 2)] := hl
  refine lv_iload_n hx hb d_M_out_0 rfl (lv_at hl 0 rfl) ?_
  refine lv_if_lt (tgt := 9) hx hb d_M_out_1 (by decide) (fun h => absurd h h1) (fun _ => ?_)
  refine lv_iload_n hx hb d_M_out_4 rfl (lv_at hl 0 rfl) ?_
  refine lv_iload_n hx hb d_M_out_5 rfl (lv_at hl 1 rfl) ?_
  refine lv_icmp_lt (tgt := 13) hx hb d_M_out_6 (by decide) (fun h => absurd h h2) (fun _ => ?_)
  refine lv_iconst (v := 1) hx hb d_M_out_9 (by decide) ?_
  refine lv_goto (tgt := 14) hx hb d_M_out_10 (by decide) ?_
  exact W.zret (v := 1) hx hb hr rfl (fun t ht hW => ⟨⟨_, (), rfl, rfl, by rw [ht]; exact hP, hD⟩, hS.F ht⟩) hS.2.2 d_M_out_14
set_option maxHeartbeats 400000 in
set_option maxRecDepth 100000 in
theorem c_M_lines_3 (l : Launch) (E : tp_Env) (fr : va_W) (sz : Nat) (x1 : Int32) (a2 : Nat) (a3 : Nat) (x4 : Int32) (a5 : Nat) (x6 : Int32) (x7 : Int32) (x8 : Int32) (a9 : Nat) (x10 : Int32) (x11 : Int32) (x12 : Int32) (x13 : Int32) (x14 : Int32) (x15 : Int64) (x16 : Int64) (x17 : Int64) (a18 : Nat) (a19 : Nat) (a20 : Nat) (a21 : Nat) (a22 : Nat) (a23 : Nat) (a24 : Nat) (a25 : Nat) (a26 : Nat) (a27 : Nat) (a28 : Nat) (a29 : Nat) (x30 : Int32) (x31 : Int32) (a32 : Nat) (x33 : Int32) (a34 : Nat) (a35 : Nat) (x36 : Int32) (h1 : ¬ x36 < 0) (h2 : ¬ x36 < 2) : Met l y_M_lines w_M_lines ({ frames := 1, cells := 0, slots := 0, locals := 21 }) (va_Pc [.ref a35, .int x36] (tp_in E ((a35, .inr (4, [.int x1, .ref a2, .ref a3, .int x4, .ref a5, .int x6, .int x7, .int x8, .ref a9, .int x10, .int x11, .int x12, .int x13, .int x14, .long x15, .long x16, .long x17, .ref a18, .ref a19, .ref a20, .ref a21, .ref a22, .ref a23, .ref a24, .ref a25, .ref a26, .ref a27, .ref a28, .ref a29, .int x30, .int x31, .ref a32, .int x33, .ref a34])) :: fr) sz)) (va_Qi (fun r (_ : Unit) => r = 0) (fun _ t => tp_out E (va_A ((a35, .inr (4, [.int x1, .ref a2, .ref a3, .int x4, .ref a5, .int x6, .int x7, .int x8, .ref a9, .int x10, .int x11, .int x12, .int x13, .int x14, .long x15, .long x16, .long x17, .ref a18, .ref a19, .ref a20, .ref a21, .ref a22, .ref a23, .ref a24, .ref a25, .ref a26, .ref a27, .ref a28, .ref a29, .int x30, .int x31, .ref a32, .int x33, .ref a34])) :: fr) sz) ((a35, .inr (4, [.int 1, .ref a2, .ref a3, .int x4, .ref a5, .int x6, .int x7, .int x8, .ref a9, .int x10, .int x11, .int x12, .int x13, .int x14, .long x15, .long x16, .long x17, .ref a18, .ref a19, .ref a20, .ref a21, .ref a22, .ref a23, .ref a24, .ref a25, .ref a26, .ref a27, .ref a28, .ref a29, .int x30, .int x31, .ref a32, .int x33, .ref a34])) :: fr) t) (va_A ((a35, .inr (4, [.int x1, .ref a2, .ref a3, .int x4, .ref a5, .int x6, .int x7, .int x8, .ref a9, .int x10, .int x11, .int x12, .int x13, .int x14, .long x15, .long x16, .long x17, .ref a18, .ref a19, .ref a20, .ref a21, .ref a22, .ref a23, .ref a24, .ref a25, .ref a26, .ref a27, .ref a28, .ref a29, .int x30, .int x31, .ref a32, .int x33, .ref a34])) :: fr) sz)) 0 0 (va_A ((a35, .inr (4, [.int x1, .ref a2, .ref a3, .int x4, .ref a5, .int x6, .int x7, .int x8, .ref a9, .int x10, .int x11, .int x12, .int x13, .int x14, .long x15, .long x16, .long x17, .ref a18, .ref a19, .ref a20, .ref a21, .ref a22, .ref a23, .ref a24, .ref a25, .ref a26, .ref a27, .ref a28, .ref a29, .int x30, .int x31, .ref a32, .int x33, .ref a34])) :: fr) sz) := by
  refine Met.ofW (cc := b_M_lines) (maxL := 2) (ret := (some .int)) (by decide) rfl ?_
  intro p e s m args below meth c s₁ B hml hv
  obtain ⟨rfl, hsz, hP, hK, hD0⟩ := hv
  have hx := B.exec
  have hb := B.bytes
  have hr := B.returns
  have htg : ∀ w ∈ tp_G, w.before ([.ref a35, .int x36] : List Value).toArray s = true := fun w h => atoms_spec (ws := w_M_lines) B.pre w (List.mem_cons_of_mem _ h)
  have hown : s.vm.findClass "TwoPassModel" = some m.cls := findClass_of_methodNamed B.named
  have hlocks := B.notSynchronized
  subst hsz
  have hD := hD0.self (sz := s.heap.size)
  generalize hAe : va_A ((a35, .inr (4, [.int x1, .ref a2, .ref a3, .int x4, .ref a5, .int x6, .int x7, .int x8, .ref a9, .int x10, .int x11, .int x12, .int x13, .int x14, .long x15, .long x16, .long x17, .ref a18, .ref a19, .ref a20, .ref a21, .ref a22, .ref a23, .ref a24, .ref a25, .ref a26, .ref a27, .ref a28, .ref a29, .int x30, .int x31, .ref a32, .int x33, .ref a34])) :: fr) s.heap.size = A at hD hK ⊢
  have hA : ∀ q : Nat, s.heap.size ≤ q → A q := fun q h => by rw [← hAe]; exact Or.inr h
  have hS : va_S A s.heap s.heap [] := va_S.rf
  have hl := lv_entry ([.ref a35, .int x36]) (n := 2) (Nat.le_of_ble_eq_true rfl)
  rw [lg_entry_eq]
  generalize (lg_sl ([.ref a35, .int x36]) ++ List.replicate (2 - (lg_sl ([.ref a35, .int x36])).length) Slot.unset).toArray = ls at hl ⊢
  have hl : lv_has ls 2 [(0, .ref a35), (1, .int x36)] := hl
  refine lv_aload_n hx hb d_M_lines_0 rfl (lv_at hl 0 rfl) ?_
  refine lv_iload_n hx hb d_M_lines_1 rfl (lv_at hl 1 rfl) ?_
  refine lv_iconst (v := 2) hx hb d_M_lines_2 (by decide) ?_
  refine tp_ci (tp_rS (As := [.int x36, .int 2]) (rest := [.ref a35]) ⟨hx, hb, hml, hown, htg⟩ (c_M_out_6 l E ((a35, .inr (4, [.int x1, .ref a2, .ref a3, .int x4, .ref a5, .int x6, .int x7, .int x8, .ref a9, .int x10, .int x11, .int x12, .int x13, .int x14, .long x15, .long x16, .long x17, .ref a18, .ref a19, .ref a20, .ref a21, .ref a22, .ref a23, .ref a24, .ref a25, .ref a26, .ref a27, .ref a28, .ref a29, .int x30, .int x31, .ref a32, .int x33, .ref a34])) :: fr) _ x36 h1 h2) (⟨callB_of 2 htg (tp_good0 kc_M_out) rfl rfl rfl (htg _ ki_M) (htg _ kl_M_350) ⟨by decide, by decide, by decide +kernel⟩ ⟨Nat.le_of_ble_eq_true rfl, Nat.le_of_ble_eq_true rfl⟩, htg _ ks_M_out⟩) hK hP hD hS hA rfl hl.1 rfl (Nat.le_of_ble_eq_true rfl) d_M_lines_3 ⟨Nat.le_of_ble_eq_true rfl, Nat.le_of_ble_eq_true rfl⟩) hD hS hA (fun r u H locs hw hP hD hS => ?_)
  subst r
  have hP : va_P (tp_D E) tp_cl ((a35, .inr (4, [.int x1, .ref a2, .ref a3, .int x4, .ref a5, .int x6, .int x7, .int x8, .ref a9, .int x10, .int x11, .int x12, .int x13, .int x14, .long x15, .long x16, .long x17, .ref a18, .ref a19, .ref a20, .ref a21, .ref a22, .ref a23, .ref a24, .ref a25, .ref a26, .ref a27, .ref a28, .ref a29, .int x30, .int x31, .ref a32, .int x33, .ref a34])) :: fr) H := hP
  have hD : va_D A ((a35, .inr (4, [.int x1, .ref a2, .ref a3, .int x4, .ref a5, .int x6, .int x7, .int x8, .ref a9, .int x10, .int x11, .int x12, .int x13, .int x14, .long x15, .long x16, .long x17, .ref a18, .ref a19, .ref a20, .ref a21, .ref a22, .ref a23, .ref a24, .ref a25, .ref a26, .ref a27, .ref a28, .ref a29, .int x30, .int x31, .ref a32, .int x33, .ref a34])) :: fr) := hD
  refine lv_if_eq (tgt := 13) hx hb d_M_lines_6 (by decide) (fun h => absurd h (by decide)) (fun _ => ?_)
  refine lv_iconst (v := 1) hx hb d_M_lines_9 (by decide) ?_
  refine lv_goto (tgt := 14) hx hb d_M_lines_10 (by decide) ?_
  refine va_put (D := tp_D E) (ci := 4) (v := .int 1) (ty := .int) (C := qR_M) (T := qF_M) (N := 34) hx hb htg qi_M qt_M qt_M_ok qn_M hown hK.1 hP hD hS 0 rfl rfl 0 (by decide) (htg _ kl_M_208) (fun _ h => h) rfl (by decide +kernel) rfl rfl (Nat.le_of_ble_eq_true rfl) d_M_lines_14 (fun H locs hP hD hS => ?_)
  have hP : va_P (tp_D E) tp_cl ((a35, .inr (4, [.int 1, .ref a2, .ref a3, .int x4, .ref a5, .int x6, .int x7, .int x8, .ref a9, .int x10, .int x11, .int x12, .int x13, .int x14, .long x15, .long x16, .long x17, .ref a18, .ref a19, .ref a20, .ref a21, .ref a22, .ref a23, .ref a24, .ref a25, .ref a26, .ref a27, .ref a28, .ref a29, .int x30, .int x31, .ref a32, .int x33, .ref a34])) :: fr) H := hP
  have hD : va_D A ((a35, .inr (4, [.int 1, .ref a2, .ref a3, .int x4, .ref a5, .int x6, .int x7, .int x8, .ref a9, .int x10, .int x11, .int x12, .int x13, .int x14, .long x15, .long x16, .long x17, .ref a18, .ref a19, .ref a20, .ref a21, .ref a22, .ref a23, .ref a24, .ref a25, .ref a26, .ref a27, .ref a28, .ref a29, .int x30, .int x31, .ref a32, .int x33, .ref a34])) :: fr) := hD
  refine lv_aload_n hx hb d_M_lines_17 rfl (lv_at hl 0 rfl) ?_
  refine va_get (D := tp_D E) (ci := 4) (v := .int 1) (C := qR_M) (T := qF_M) (N := 34) hx hb htg qi_M hown hK.1 hP 0 rfl rfl 0 (by decide) (htg _ kl_M_208) (fun _ h => h) rfl d_M_lines_18 ?_
  refine lv_if_le (tgt := 28) hx hb d_M_lines_21 (by decide) (fun h => absurd h (by decide)) (fun _ => ?_)
  refine lv_iconst (v := 0) hx hb d_M_lines_24 (by decide) ?_
  refine lv_goto (tgt := 34) hx hb d_M_lines_25 (by decide) ?_
  exact W.iret (v := 0) hx hb hr (fun t ht hW => ⟨⟨_, (), rfl, rfl, by rw [ht]; exact hP, hD⟩, hS.F ht⟩) hS.2.2 d_M_lines_34
set_option maxHeartbeats 400000 in
set_option maxRecDepth 100000 in
theorem c_M_clear_1 (l : Launch) (E : tp_Env) (fr : va_W) (sz : Nat) (x1 : Int32) (a2 : Nat) (a3 : Nat) (x4 : Int32) (a5 : Nat) (x6 : Int32) (x7 : Int32) (x8 : Int32) (a9 : Nat) (x10 : Int32) (x11 : Int32) (x12 : Int32) (x13 : Int32) (x14 : Int32) (x15 : Int64) (x16 : Int64) (x17 : Int64) (a18 : Nat) (a19 : Nat) (a20 : Nat) (a21 : Nat) (a22 : Nat) (a23 : Nat) (a24 : Nat) (a25 : Nat) (a26 : Nat) (a27 : Nat) (a28 : Nat) (a29 : Nat) (x30 : Int32) (x31 : Int32) (a32 : Nat) (x33 : Int32) (a34 : Nat) (a35 : Nat) (x36 : Int32) (h1 : x36 < 0) : Met l y_M_clear w_M_clear ({ frames := 1, cells := 0, slots := 0, locals := 21 }) (va_Pc [.ref a35, .int x36] (tp_in E ((a35, .inr (4, [.int x1, .ref a2, .ref a3, .int x4, .ref a5, .int x6, .int x7, .int x8, .ref a9, .int x10, .int x11, .int x12, .int x13, .int x14, .long x15, .long x16, .long x17, .ref a18, .ref a19, .ref a20, .ref a21, .ref a22, .ref a23, .ref a24, .ref a25, .ref a26, .ref a27, .ref a28, .ref a29, .int x30, .int x31, .ref a32, .int x33, .ref a34])) :: fr) sz)) (va_Qv (fun (_ : Unit) => True) (fun _ t => tp_out E (va_A ((a35, .inr (4, [.int x1, .ref a2, .ref a3, .int x4, .ref a5, .int x6, .int x7, .int x8, .ref a9, .int x10, .int x11, .int x12, .int x13, .int x14, .long x15, .long x16, .long x17, .ref a18, .ref a19, .ref a20, .ref a21, .ref a22, .ref a23, .ref a24, .ref a25, .ref a26, .ref a27, .ref a28, .ref a29, .int x30, .int x31, .ref a32, .int x33, .ref a34])) :: fr) sz) ((a35, .inr (4, [.int 1, .ref a2, .ref a3, .int x4, .ref a5, .int x6, .int x7, .int x8, .ref a9, .int x10, .int x11, .int x12, .int x13, .int x14, .long x15, .long x16, .long x17, .ref a18, .ref a19, .ref a20, .ref a21, .ref a22, .ref a23, .ref a24, .ref a25, .ref a26, .ref a27, .ref a28, .ref a29, .int x30, .int x31, .ref a32, .int x33, .ref a34])) :: fr) t) (va_A ((a35, .inr (4, [.int x1, .ref a2, .ref a3, .int x4, .ref a5, .int x6, .int x7, .int x8, .ref a9, .int x10, .int x11, .int x12, .int x13, .int x14, .long x15, .long x16, .long x17, .ref a18, .ref a19, .ref a20, .ref a21, .ref a22, .ref a23, .ref a24, .ref a25, .ref a26, .ref a27, .ref a28, .ref a29, .int x30, .int x31, .ref a32, .int x33, .ref a34])) :: fr) sz)) 0 0 (va_A ((a35, .inr (4, [.int x1, .ref a2, .ref a3, .int x4, .ref a5, .int x6, .int x7, .int x8, .ref a9, .int x10, .int x11, .int x12, .int x13, .int x14, .long x15, .long x16, .long x17, .ref a18, .ref a19, .ref a20, .ref a21, .ref a22, .ref a23, .ref a24, .ref a25, .ref a26, .ref a27, .ref a28, .ref a29, .int x30, .int x31, .ref a32, .int x33, .ref a34])) :: fr) sz) := by
  refine Met.ofW (cc := b_M_clear) (maxL := 2) (ret := none) (by decide) rfl ?_
  intro p e s m args below meth c s₁ B hml hv
  obtain ⟨rfl, hsz, hP, hK, hD0⟩ := hv
  have hx := B.exec
  have hb := B.bytes
  have hr := B.returns
  have htg : ∀ w ∈ tp_G, w.before ([.ref a35, .int x36] : List Value).toArray s = true := fun w h => atoms_spec (ws := w_M_clear) B.pre w (List.mem_cons_of_mem _ h)
  have hown : s.vm.findClass "TwoPassModel" = some m.cls := findClass_of_methodNamed B.named
  have hlocks := B.notSynchronized
  subst hsz
  have hD := hD0.self (sz := s.heap.size)
  generalize hAe : va_A ((a35, .inr (4, [.int x1, .ref a2, .ref a3, .int x4, .ref a5, .int x6, .int x7, .int x8, .ref a9, .int x10, .int x11, .int x12, .int x13, .int x14, .long x15, .long x16, .long x17, .ref a18, .ref a19, .ref a20, .ref a21, .ref a22, .ref a23, .ref a24, .ref a25, .ref a26, .ref a27, .ref a28, .ref a29, .int x30, .int x31, .ref a32, .int x33, .ref a34])) :: fr) s.heap.size = A at hD hK ⊢
  have hA : ∀ q : Nat, s.heap.size ≤ q → A q := fun q h => by rw [← hAe]; exact Or.inr h
  have hS : va_S A s.heap s.heap [] := va_S.rf
  have hl := lv_entry ([.ref a35, .int x36]) (n := 2) (Nat.le_of_ble_eq_true rfl)
  rw [lg_entry_eq]
  generalize (lg_sl ([.ref a35, .int x36]) ++ List.replicate (2 - (lg_sl ([.ref a35, .int x36])).length) Slot.unset).toArray = ls at hl ⊢
  have hl : lv_has ls 2 [(0, .ref a35), (1, .int x36)] := hl
  refine lv_aload_n hx hb d_M_clear_0 rfl (lv_at hl 0 rfl) ?_
  refine lv_iload_n hx hb d_M_clear_1 rfl (lv_at hl 1 rfl) ?_
  refine lv_iconst (v := 2) hx hb d_M_clear_2 (by decide) ?_
  refine tp_ci (tp_rS (As := [.int x36, .int 2]) (rest := [.ref a35]) ⟨hx, hb, hml, hown, htg⟩ (c_M_out_4 l E ((a35, .inr (4, [.int x1, .ref a2, .ref a3, .int x4, .ref a5, .int x6, .int x7, .int x8, .ref a9, .int x10, .int x11, .int x12, .int x13, .int x14, .long x15, .long x16, .long x17, .ref a18, .ref a19, .ref a20, .ref a21, .ref a22, .ref a23, .ref a24, .ref a25, .ref a26, .ref a27, .ref a28, .ref a29, .int x30, .int x31, .ref a32, .int x33, .ref a34])) :: fr) _ x36 h1) (⟨callB_of 2 htg (tp_good0 kc_M_out) rfl rfl rfl (htg _ ki_M) (htg _ kl_M_350) ⟨by decide, by decide, by decide +kernel⟩ ⟨Nat.le_of_ble_eq_true rfl, Nat.le_of_ble_eq_true rfl⟩, htg _ ks_M_out⟩) hK hP hD hS hA rfl hl.1 rfl (Nat.le_of_ble_eq_true rfl) d_M_clear_3 ⟨Nat.le_of_ble_eq_true rfl, Nat.le_of_ble_eq_true rfl⟩) hD hS hA (fun r u H locs hw hP hD hS => ?_)
  subst r
  have hP : va_P (tp_D E) tp_cl ((a35, .inr (4, [.int x1, .ref a2, .ref a3, .int x4, .ref a5, .int x6, .int x7, .int x8, .ref a9, .int x10, .int x11, .int x12, .int x13, .int x14, .long x15, .long x16, .long x17, .ref a18, .ref a19, .ref a20, .ref a21, .ref a22, .ref a23, .ref a24, .ref a25, .ref a26, .ref a27, .ref a28, .ref a29, .int x30, .int x31, .ref a32, .int x33, .ref a34])) :: fr) H := hP
  have hD : va_D A ((a35, .inr (4, [.int x1, .ref a2, .ref a3, .int x4, .ref a5, .int x6, .int x7, .int x8, .ref a9, .int x10, .int x11, .int x12, .int x13, .int x14, .long x15, .long x16, .long x17, .ref a18, .ref a19, .ref a20, .ref a21, .ref a22, .ref a23, .ref a24, .ref a25, .ref a26, .ref a27, .ref a28, .ref a29, .int x30, .int x31, .ref a32, .int x33, .ref a34])) :: fr) := hD
  refine lv_if_eq (tgt := 13) hx hb d_M_clear_6 (by decide) (fun h => absurd h (by decide)) (fun _ => ?_)
  refine lv_iconst (v := 1) hx hb d_M_clear_9 (by decide) ?_
  refine lv_goto (tgt := 14) hx hb d_M_clear_10 (by decide) ?_
  refine va_put (D := tp_D E) (ci := 4) (v := .int 1) (ty := .int) (C := qR_M) (T := qF_M) (N := 34) hx hb htg qi_M qt_M qt_M_ok qn_M hown hK.1 hP hD hS 0 rfl rfl 0 (by decide) (htg _ kl_M_208) (fun _ h => h) rfl (by decide +kernel) rfl rfl (Nat.le_of_ble_eq_true rfl) d_M_clear_14 (fun H locs hP hD hS => ?_)
  have hP : va_P (tp_D E) tp_cl ((a35, .inr (4, [.int 1, .ref a2, .ref a3, .int x4, .ref a5, .int x6, .int x7, .int x8, .ref a9, .int x10, .int x11, .int x12, .int x13, .int x14, .long x15, .long x16, .long x17, .ref a18, .ref a19, .ref a20, .ref a21, .ref a22, .ref a23, .ref a24, .ref a25, .ref a26, .ref a27, .ref a28, .ref a29, .int x30, .int x31, .ref a32, .int x33, .ref a34])) :: fr) H := hP
  have hD : va_D A ((a35, .inr (4, [.int 1, .ref a2, .ref a3, .int x4, .ref a5, .int x6, .int x7, .int x8, .ref a9, .int x10, .int x11, .int x12, .int x13, .int x14, .long x15, .long x16, .long x17, .ref a18, .ref a19, .ref a20, .ref a21, .ref a22, .ref a23, .ref a24, .ref a25, .ref a26, .ref a27, .ref a28, .ref a29, .int x30, .int x31, .ref a32, .int x33, .ref a34])) :: fr) := hD
  refine lv_aload_n hx hb d_M_clear_17 rfl (lv_at hl 0 rfl) ?_
  refine va_get (D := tp_D E) (ci := 4) (v := .int 1) (C := qR_M) (T := qF_M) (N := 34) hx hb htg qi_M hown hK.1 hP 0 rfl rfl 0 (by decide) (htg _ kl_M_208) (fun _ h => h) rfl d_M_clear_18 ?_
  refine lv_if_le (tgt := 25) hx hb d_M_clear_21 (by decide) (fun h => absurd h (by decide)) (fun _ => ?_)
  exact W.vret hx hb hr (fun t ht hW => ⟨⟨(), rfl, trivial, by rw [ht]; exact hP, hD⟩, hS.F ht⟩) hS.2.2 d_M_clear_24
set_option maxHeartbeats 400000 in
set_option maxRecDepth 100000 in
theorem c_M_clear_2 (l : Launch) (E : tp_Env) (fr : va_W) (sz : Nat) (x1 : Int32) (a2 : Nat) (a3 : Nat) (x4 : Int32) (a5 : Nat) (x6 : Int32) (x7 : Int32) (x8 : Int32) (a9 : Nat) (x10 : Int32) (x11 : Int32) (x12 : Int32) (x13 : Int32) (x14 : Int32) (x15 : Int64) (x16 : Int64) (x17 : Int64) (a18 : Nat) (a19 : Nat) (a20 : Nat) (a21 : Nat) (a22 : Nat) (a23 : Nat) (a24 : Nat) (a25 : Nat) (a26 : Nat) (a27 : Nat) (a28 : Nat) (a29 : Nat) (x30 : Int32) (x31 : Int32) (a32 : Nat) (x33 : Int32) (a34 : Nat) (a35 : Nat) (x36 : Int32) (f37 : Nat → Int32) (h1 : ¬ x36 < 0) (h2 : x36 < 2) : Met l y_M_clear w_M_clear ({ frames := 1, cells := 0, slots := 0, locals := 21 }) (va_Pc [.ref a35, .int x36] (tp_in E ((a35, .inr (4, [.int x1, .ref a2, .ref a3, .int x4, .ref a5, .int x6, .int x7, .int x8, .ref a9, .int x10, .int x11, .int x12, .int x13, .int x14, .long x15, .long x16, .long x17, .ref a18, .ref a19, .ref a20, .ref a21, .ref a22, .ref a23, .ref a24, .ref a25, .ref a26, .ref a27, .ref a28, .ref a29, .int x30, .int x31, .ref a32, .int x33, .ref a34])) :: (a18, .inl (tp_ty E 0, 2, .inl f37)) :: fr) sz)) (va_Qv (fun (_ : Unit) => True) (fun _ t => tp_out E (va_A ((a35, .inr (4, [.int x1, .ref a2, .ref a3, .int x4, .ref a5, .int x6, .int x7, .int x8, .ref a9, .int x10, .int x11, .int x12, .int x13, .int x14, .long x15, .long x16, .long x17, .ref a18, .ref a19, .ref a20, .ref a21, .ref a22, .ref a23, .ref a24, .ref a25, .ref a26, .ref a27, .ref a28, .ref a29, .int x30, .int x31, .ref a32, .int x33, .ref a34])) :: (a18, .inl (tp_ty E 0, 2, .inl f37)) :: fr) sz) ((a35, .inr (4, [.int 0, .ref a2, .ref a3, .int x4, .ref a5, .int x6, .int x7, .int x8, .ref a9, .int x10, .int x11, .int x12, .int x13, .int x14, .long x15, .long x16, .long x17, .ref a18, .ref a19, .ref a20, .ref a21, .ref a22, .ref a23, .ref a24, .ref a25, .ref a26, .ref a27, .ref a28, .ref a29, .int (-1), .int x31, .ref a32, .int x33, .ref a34])) :: (a18, .inl (tp_ty E 0, 2, .inl (upd f37 x36.toNatClampNeg 0))) :: fr) t) (va_A ((a35, .inr (4, [.int x1, .ref a2, .ref a3, .int x4, .ref a5, .int x6, .int x7, .int x8, .ref a9, .int x10, .int x11, .int x12, .int x13, .int x14, .long x15, .long x16, .long x17, .ref a18, .ref a19, .ref a20, .ref a21, .ref a22, .ref a23, .ref a24, .ref a25, .ref a26, .ref a27, .ref a28, .ref a29, .int x30, .int x31, .ref a32, .int x33, .ref a34])) :: (a18, .inl (tp_ty E 0, 2, .inl f37)) :: fr) sz)) 0 0 (va_A ((a35, .inr (4, [.int x1, .ref a2, .ref a3, .int x4, .ref a5, .int x6, .int x7, .int x8, .ref a9, .int x10, .int x11, .int x12, .int x13, .int x14, .long x15, .long x16, .long x17, .ref a18, .ref a19, .ref a20, .ref a21, .ref a22, .ref a23, .ref a24, .ref a25, .ref a26, .ref a27, .ref a28, .ref a29, .int x30, .int x31, .ref a32, .int x33, .ref a34])) :: (a18, .inl (tp_ty E 0, 2, .inl f37)) :: fr) sz) := by
  refine Met.ofW (cc := b_M_clear) (maxL := 2) (ret := none) (by decide) rfl ?_
  intro p e s m args below meth c s₁ B hml hv
  obtain ⟨rfl, hsz, hP, hK, hD0⟩ := hv
  have hx := B.exec
  have hb := B.bytes
  have hr := B.returns
  have htg : ∀ w ∈ tp_G, w.before ([.ref a35, .int x36] : List Value).toArray s = true := fun w h => atoms_spec (ws := w_M_clear) B.pre w (List.mem_cons_of_mem _ h)
  have hown : s.vm.findClass "TwoPassModel" = some m.cls := findClass_of_methodNamed B.named
  have hlocks := B.notSynchronized
  subst hsz
  have hD := hD0.self (sz := s.heap.size)
  generalize hAe : va_A ((a35, .inr (4, [.int x1, .ref a2, .ref a3, .int x4, .ref a5, .int x6, .int x7, .int x8, .ref a9, .int x10, .int x11, .int x12, .int x13, .int x14, .long x15, .long x16, .long x17, .ref a18, .ref a19, .ref a20, .ref a21, .ref a22, .ref a23, .ref a24, .ref a25, .ref a26, .ref a27, .ref a28, .ref a29, .int x30, .int x31, .ref a32, .int x33, .ref a34])) :: (a18, .inl (tp_ty E 0, 2, .inl f37)) :: fr) s.heap.size = A at hD hK ⊢
  have hA : ∀ q : Nat, s.heap.size ≤ q → A q := fun q h => by rw [← hAe]; exact Or.inr h
  have hS : va_S A s.heap s.heap [] := va_S.rf
  have hl := lv_entry ([.ref a35, .int x36]) (n := 2) (Nat.le_of_ble_eq_true rfl)
  rw [lg_entry_eq]
  generalize (lg_sl ([.ref a35, .int x36]) ++ List.replicate (2 - (lg_sl ([.ref a35, .int x36])).length) Slot.unset).toArray = ls at hl ⊢
  have hl : lv_has ls 2 [(0, .ref a35), (1, .int x36)] := hl
  refine lv_aload_n hx hb d_M_clear_0 rfl (lv_at hl 0 rfl) ?_
  refine lv_iload_n hx hb d_M_clear_1 rfl (lv_at hl 1 rfl) ?_
  refine lv_iconst (v := 2) hx hb d_M_clear_2 (by decide) ?_
  refine tp_ci (tp_rS (As := [.int x36, .int 2]) (rest := [.ref a35]) ⟨hx, hb, hml, hown, htg⟩ (c_M_out_5 l E ((a35, .inr (4, [.int x1, .ref a2, .ref a3, .int x4, .ref a5, .int x6, .int x7, .int x8, .ref a9, .int x10, .int x11, .int x12, .int x13, .int x14, .long x15, .long x16, .long x17, .ref a18, .ref a19, .ref a20, .ref a21, .ref a22, .ref a23, .ref a24, .ref a25, .ref a26, .ref a27, .ref a28, .ref a29, .int x30, .int x31, .ref a32, .int x33, .ref a34])) :: (a18, .inl (tp_ty E 0, 2, .inl f37)) :: fr) _ x36 h1 h2) (⟨callB_of 2 htg (tp_good0 kc_M_out) rfl rfl rfl (htg _ ki_M) (htg _ kl_M_350) ⟨by decide, by decide, by decide +kernel⟩ ⟨Nat.le_of_ble_eq_true rfl, Nat.le_of_ble_eq_true rfl⟩, htg _ ks_M_out⟩) hK hP hD hS hA rfl hl.1 rfl (Nat.le_of_ble_eq_true rfl) d_M_clear_3 ⟨Nat.le_of_ble_eq_true rfl, Nat.le_of_ble_eq_true rfl⟩) hD hS hA (fun r u H locs hw hP hD hS => ?_)
  subst r
  have hP : va_P (tp_D E) tp_cl ((a35, .inr (4, [.int x1, .ref a2, .ref a3, .int x4, .ref a5, .int x6, .int x7, .int x8, .ref a9, .int x10, .int x11, .int x12, .int x13, .int x14, .long x15, .long x16, .long x17, .ref a18, .ref a19, .ref a20, .ref a21, .ref a22, .ref a23, .ref a24, .ref a25, .ref a26, .ref a27, .ref a28, .ref a29, .int x30, .int x31, .ref a32, .int x33, .ref a34])) :: (a18, .inl (tp_ty E 0, 2, .inl f37)) :: fr) H := hP
  have hD : va_D A ((a35, .inr (4, [.int x1, .ref a2, .ref a3, .int x4, .ref a5, .int x6, .int x7, .int x8, .ref a9, .int x10, .int x11, .int x12, .int x13, .int x14, .long x15, .long x16, .long x17, .ref a18, .ref a19, .ref a20, .ref a21, .ref a22, .ref a23, .ref a24, .ref a25, .ref a26, .ref a27, .ref a28, .ref a29, .int x30, .int x31, .ref a32, .int x33, .ref a34])) :: (a18, .inl (tp_ty E 0, 2, .inl f37)) :: fr) := hD
  refine lv_if_eq (tgt := 13) hx hb d_M_clear_6 (by decide) (fun _ => ?_) (fun h => absurd (by decide) h)
  refine lv_iconst (v := 0) hx hb d_M_clear_13 (by decide) ?_
  refine va_put (D := tp_D E) (ci := 4) (v := .int 0) (ty := .int) (C := qR_M) (T := qF_M) (N := 34) hx hb htg qi_M qt_M qt_M_ok qn_M hown hK.1 hP hD hS 0 rfl rfl 0 (by decide) (htg _ kl_M_208) (fun _ h => h) rfl (by decide +kernel) rfl rfl (Nat.le_of_ble_eq_true rfl) d_M_clear_14 (fun H locs hP hD hS => ?_)
  have hP : va_P (tp_D E) tp_cl ((a35, .inr (4, [.int 0, .ref a2, .ref a3, .int x4, .ref a5, .int x6, .int x7, .int x8, .ref a9, .int x10, .int x11, .int x12, .int x13, .int x14, .long x15, .long x16, .long x17, .ref a18, .ref a19, .ref a20, .ref a21, .ref a22, .ref a23, .ref a24, .ref a25, .ref a26, .ref a27, .ref a28, .ref a29, .int x30, .int x31, .ref a32, .int x33, .ref a34])) :: (a18, .inl (tp_ty E 0, 2, .inl f37)) :: fr) H := hP
  have hD : va_D A ((a35, .inr (4, [.int 0, .ref a2, .ref a3, .int x4, .ref a5, .int x6, .int x7, .int x8, .ref a9, .int x10, .int x11, .int x12, .int x13, .int x14, .long x15, .long x16, .long x17, .ref a18, .ref a19, .ref a20, .ref a21, .ref a22, .ref a23, .ref a24, .ref a25, .ref a26, .ref a27, .ref a28, .ref a29, .int x30, .int x31, .ref a32, .int x33, .ref a34])) :: (a18, .inl (tp_ty E 0, 2, .inl f37)) :: fr) := hD
  refine lv_aload_n hx hb d_M_clear_17 rfl (lv_at hl 0 rfl) ?_
  refine va_get (D := tp_D E) (ci := 4) (v := .int 0) (C := qR_M) (T := qF_M) (N := 34) hx hb htg qi_M hown hK.1 hP 0 rfl rfl 0 (by decide) (htg _ kl_M_208) (fun _ h => h) rfl d_M_clear_18 ?_
  refine lv_if_le (tgt := 25) hx hb d_M_clear_21 (by decide) (fun _ => ?_) (fun h => absurd (by decide) h)
  refine lv_aload_n hx hb d_M_clear_25 rfl (lv_at hl 0 rfl) ?_
  refine va_get (D := tp_D E) (ci := 4) (v := .ref a18) (C := qR_M) (T := qF_M) (N := 34) hx hb htg qi_M hown hK.1 hP 0 rfl rfl 17 (by decide) (htg _ kl_M_23) (fun _ h => h) rfl d_M_clear_26 ?_
  refine lv_iload_n hx hb d_M_clear_29 rfl (lv_at hl 1 rfl) ?_
  refine lv_iconst (v := 0) hx hb d_M_clear_30 (by decide) ?_
  refine va_iast (D := tp_D E) hx hb hK.1 hP hD hS 1 0 rfl rfl (tp_vin (k := 2) h1 (Int32.not_le.mpr h2) (by decide) (by decide)) d_M_clear_31 (fun H locs hP hD hS => ?_)
  have hP : va_P (tp_D E) tp_cl ((a35, .inr (4, [.int 0, .ref a2, .ref a3, .int x4, .ref a5, .int x6, .int x7, .int x8, .ref a9, .int x10, .int x11, .int x12, .int x13, .int x14, .long x15, .long x16, .long x17, .ref a18, .ref a19, .ref a20, .ref a21, .ref a22, .ref a23, .ref a24, .ref a25, .ref a26, .ref a27, .ref a28, .ref a29, .int x30, .int x31, .ref a32, .int x33, .ref a34])) :: (a18, .inl (tp_ty E 0, 2, .inl (upd f37 x36.toNatClampNeg 0))) :: fr) H := hP
  have hD : va_D A ((a35, .inr (4, [.int 0, .ref a2, .ref a3, .int x4, .ref a5, .int x6, .int x7, .int x8, .ref a9, .int x10, .int x11, .int x12, .int x13, .int x14, .long x15, .long x16, .long x17, .ref a18, .ref a19, .ref a20, .ref a21, .ref a22, .ref a23, .ref a24, .ref a25, .ref a26, .ref a27, .ref a28, .ref a29, .int x30, .int x31, .ref a32, .int x33, .ref a34])) :: (a18, .inl (tp_ty E 0, 2, .inl (upd f37 x36.toNatClampNeg 0))) :: fr) := hD
  refine lv_aload_n hx hb d_M_clear_32 rfl (lv_at hl 0 rfl) ?_
  refine lv_iconst (v := (-1)) hx hb d_M_clear_33 (by decide) ?_
  refine va_put (D := tp_D E) (ci := 4) (v := .int (-1)) (ty := .int) (C := qR_M) (T := qF_M) (N := 34) hx hb htg qi_M qt_M qt_M_ok qn_M hown hK.1 hP hD hS 0 rfl rfl 29 (by decide) (htg _ kl_M_60) (fun _ h => h) rfl (by decide +kernel) rfl rfl (Nat.le_of_ble_eq_true rfl) d_M_clear_34 (fun H locs hP hD hS => ?_)
  have hP : va_P (tp_D E) tp_cl ((a35, .inr (4, [.int 0, .ref a2, .ref a3, .int x4, .ref a5, .int x6, .int x7, .int x8, .ref a9, .int x10, .int x11, .int x12, .int x13, .int x14, .long x15, .long x16, .long x17, .ref a18, .ref a19, .ref a20, .ref a21, .ref a22, .ref a23, .ref a24, .ref a25, .ref a26, .ref a27, .ref a28, .ref a29, .int (-1), .int x31, .ref a32, .int x33, .ref a34])) :: (a18, .inl (tp_ty E 0, 2, .inl (upd f37 x36.toNatClampNeg 0))) :: fr) H := hP
  have hD : va_D A ((a35, .inr (4, [.int 0, .ref a2, .ref a3, .int x4, .ref a5, .int x6, .int x7, .int x8, .ref a9, .int x10, .int x11, .int x12, .int x13, .int x14, .long x15, .long x16, .long x17, .ref a18, .ref a19, .ref a20, .ref a21, .ref a22, .ref a23, .ref a24, .ref a25, .ref a26, .ref a27, .ref a28, .ref a29, .int (-1), .int x31, .ref a32, .int x33, .ref a34])) :: (a18, .inl (tp_ty E 0, 2, .inl (upd f37 x36.toNatClampNeg 0))) :: fr) := hD
  exact W.vret hx hb hr (fun t ht hW => ⟨⟨(), rfl, trivial, by rw [ht]; exact hP, hD⟩, hS.F ht⟩) hS.2.2 d_M_clear_37
set_option maxHeartbeats 400000 in
set_option maxRecDepth 100000 in
theorem c_M_clear_3 (l : Launch) (E : tp_Env) (fr : va_W) (sz : Nat) (x1 : Int32) (a2 : Nat) (a3 : Nat) (x4 : Int32) (a5 : Nat) (x6 : Int32) (x7 : Int32) (x8 : Int32) (a9 : Nat) (x10 : Int32) (x11 : Int32) (x12 : Int32) (x13 : Int32) (x14 : Int32) (x15 : Int64) (x16 : Int64) (x17 : Int64) (a18 : Nat) (a19 : Nat) (a20 : Nat) (a21 : Nat) (a22 : Nat) (a23 : Nat) (a24 : Nat) (a25 : Nat) (a26 : Nat) (a27 : Nat) (a28 : Nat) (a29 : Nat) (x30 : Int32) (x31 : Int32) (a32 : Nat) (x33 : Int32) (a34 : Nat) (a35 : Nat) (x36 : Int32) (h1 : ¬ x36 < 0) (h2 : ¬ x36 < 2) : Met l y_M_clear w_M_clear ({ frames := 1, cells := 0, slots := 0, locals := 21 }) (va_Pc [.ref a35, .int x36] (tp_in E ((a35, .inr (4, [.int x1, .ref a2, .ref a3, .int x4, .ref a5, .int x6, .int x7, .int x8, .ref a9, .int x10, .int x11, .int x12, .int x13, .int x14, .long x15, .long x16, .long x17, .ref a18, .ref a19, .ref a20, .ref a21, .ref a22, .ref a23, .ref a24, .ref a25, .ref a26, .ref a27, .ref a28, .ref a29, .int x30, .int x31, .ref a32, .int x33, .ref a34])) :: fr) sz)) (va_Qv (fun (_ : Unit) => True) (fun _ t => tp_out E (va_A ((a35, .inr (4, [.int x1, .ref a2, .ref a3, .int x4, .ref a5, .int x6, .int x7, .int x8, .ref a9, .int x10, .int x11, .int x12, .int x13, .int x14, .long x15, .long x16, .long x17, .ref a18, .ref a19, .ref a20, .ref a21, .ref a22, .ref a23, .ref a24, .ref a25, .ref a26, .ref a27, .ref a28, .ref a29, .int x30, .int x31, .ref a32, .int x33, .ref a34])) :: fr) sz) ((a35, .inr (4, [.int 1, .ref a2, .ref a3, .int x4, .ref a5, .int x6, .int x7, .int x8, .ref a9, .int x10, .int x11, .int x12, .int x13, .int x14, .long x15, .long x16, .long x17, .ref a18, .ref a19, .ref a20, .ref a21, .ref a22, .ref a23, .ref a24, .ref a25, .ref a26, .ref a27, .ref a28, .ref a29, .int x30, .int x31, .ref a32, .int x33, .ref a34])) :: fr) t) (va_A ((a35, .inr (4, [.int x1, .ref a2, .ref a3, .int x4, .ref a5, .int x6, .int x7, .int x8, .ref a9, .int x10, .int x11, .int x12, .int x13, .int x14, .long x15, .long x16, .long x17, .ref a18, .ref a19, .ref a20, .ref a21, .ref a22, .ref a23, .ref a24, .ref a25, .ref a26, .ref a27, .ref a28, .ref a29, .int x30, .int x31, .ref a32, .int x33, .ref a34])) :: fr) sz)) 0 0 (va_A ((a35, .inr (4, [.int x1, .ref a2, .ref a3, .int x4, .ref a5, .int x6, .int x7, .int x8, .ref a9, .int x10, .int x11, .int x12, .int x13, .int x14, .long x15, .long x16, .long x17, .ref a18, .ref a19, .ref a20, .ref a21, .ref a22, .ref a23, .ref a24, .ref a25, .ref a26, .ref a27, .ref a28, .ref a29, .int x30, .int x31, .ref a32, .int x33, .ref a34])) :: fr) sz) := by
  refine Met.ofW (cc := b_M_clear) (maxL := 2) (ret := none) (by decide) rfl ?_
  intro p e s m args below meth c s₁ B hml hv
  obtain ⟨rfl, hsz, hP, hK, hD0⟩ := hv
  have hx := B.exec
  have hb := B.bytes
  have hr := B.returns
  have htg : ∀ w ∈ tp_G, w.before ([.ref a35, .int x36] : List Value).toArray s = true := fun w h => atoms_spec (ws := w_M_clear) B.pre w (List.mem_cons_of_mem _ h)
  have hown : s.vm.findClass "TwoPassModel" = some m.cls := findClass_of_methodNamed B.named
  have hlocks := B.notSynchronized
  subst hsz
  have hD := hD0.self (sz := s.heap.size)
  generalize hAe : va_A ((a35, .inr (4, [.int x1, .ref a2, .ref a3, .int x4, .ref a5, .int x6, .int x7, .int x8, .ref a9, .int x10, .int x11, .int x12, .int x13, .int x14, .long x15, .long x16, .long x17, .ref a18, .ref a19, .ref a20, .ref a21, .ref a22, .ref a23, .ref a24, .ref a25, .ref a26, .ref a27, .ref a28, .ref a29, .int x30, .int x31, .ref a32, .int x33, .ref a34])) :: fr) s.heap.size = A at hD hK ⊢
  have hA : ∀ q : Nat, s.heap.size ≤ q → A q := fun q h => by rw [← hAe]; exact Or.inr h
  have hS : va_S A s.heap s.heap [] := va_S.rf
  have hl := lv_entry ([.ref a35, .int x36]) (n := 2) (Nat.le_of_ble_eq_true rfl)
  rw [lg_entry_eq]
  generalize (lg_sl ([.ref a35, .int x36]) ++ List.replicate (2 - (lg_sl ([.ref a35, .int x36])).length) Slot.unset).toArray = ls at hl ⊢
  have hl : lv_has ls 2 [(0, .ref a35), (1, .int x36)] := hl
  refine lv_aload_n hx hb d_M_clear_0 rfl (lv_at hl 0 rfl) ?_
  refine lv_iload_n hx hb d_M_clear_1 rfl (lv_at hl 1 rfl) ?_
  refine lv_iconst (v := 2) hx hb d_M_clear_2 (by decide) ?_
  refine tp_ci (tp_rS (As := [.int x36, .int 2]) (rest := [.ref a35]) ⟨hx, hb, hml, hown, htg⟩ (c_M_out_6 l E ((a35, .inr (4, [.int x1, .ref a2, .ref a3, .int x4, .ref a5, .int x6, .int x7, .int x8, .ref a9, .int x10, .int x11, .int x12, .int x13, .int x14, .long x15, .long x16, .long x17, .ref a18, .ref a19, .ref a20, .ref a21, .ref a22, .ref a23, .ref a24, .ref a25, .ref a26, .ref a27, .ref a28, .ref a29, .int x30, .int x31, .ref a32, .int x33, .ref a34])) :: fr) _ x36 h1 h2) (⟨callB_of 2 htg (tp_good0 kc_M_out) rfl rfl rfl (htg _ ki_M) (htg _ kl_M_350) ⟨by decide, by decide, by decide +kernel⟩ ⟨Nat.le_of_ble_eq_true rfl, Nat.le_of_ble_eq_true rfl⟩, htg _ ks_M_out⟩) hK hP hD hS hA rfl hl.1 rfl (Nat.le_of_ble_eq_true rfl) d_M_clear_3 ⟨Nat.le_of_ble_eq_true rfl, Nat.le_of_ble_eq_true rfl⟩) hD hS hA (fun r u H locs hw hP hD hS => ?_)
  subst r
  have hP : va_P (tp_D E) tp_cl ((a35, .inr (4, [.int x1, .ref a2, .ref a3, .int x4, .ref a5, .int x6, .int x7, .int x8, .ref a9, .int x10, .int x11, .int x12, .int x13, .int x14, .long x15, .long x16, .long x17, .ref a18, .ref a19, .ref a20, .ref a21, .ref a22, .ref a23, .ref a24, .ref a25, .ref a26, .ref a27, .ref a28, .ref a29, .int x30, .int x31, .ref a32, .int x33, .ref a34])) :: fr) H := hP
  have hD : va_D A ((a35, .inr (4, [.int x1, .ref a2, .ref a3, .int x4, .ref a5, .int x6, .int x7, .int x8, .ref a9, .int x10, .int x11, .int x12, .int x13, .int x14, .long x15, .long x16, .long x17, .ref a18, .ref a19, .ref a20, .ref a21, .ref a22, .ref a23, .ref a24, .ref a25, .ref a26, .ref a27, .ref a28, .ref a29, .int x30, .int x31, .ref a32, .int x33, .ref a34])) :: fr) := hD
  refine lv_if_eq (tgt := 13) hx hb d_M_clear_6 (by decide) (fun h => absurd h (by decide)) (fun _ => ?_)
  refine lv_iconst (v := 1) hx hb d_M_clear_9 (by decide) ?_
  refine lv_goto (tgt := 14) hx hb d_M_clear_10 (by decide) ?_
  refine va_put (D := tp_D E) (ci := 4) (v := .int 1) (ty := .int) (C := qR_M) (T := qF_M) (N := 34) hx hb htg qi_M qt_M qt_M_ok qn_M hown hK.1 hP hD hS 0 rfl rfl 0 (by decide) (htg _ kl_M_208) (fun _ h => h) rfl (by decide +kernel) rfl rfl (Nat.le_of_ble_eq_true rfl) d_M_clear_14 (fun H locs hP hD hS => ?_)
  have hP : va_P (tp_D E) tp_cl ((a35, .inr (4, [.int 1, .ref a2, .ref a3, .int x4, .ref a5, .int x6, .int x7, .int x8, .ref a9, .int x10, .int x11, .int x12, .int x13, .int x14, .long x15, .long x16, .long x17, .ref a18, .ref a19, .ref a20, .ref a21, .ref a22, .ref a23, .ref a24, .ref a25, .ref a26, .ref a27, .ref a28, .ref a29, .int x30, .int x31, .ref a32, .int x33, .ref a34])) :: fr) H := hP
  have hD : va_D A ((a35, .inr (4, [.int 1, .ref a2, .ref a3, .int x4, .ref a5, .int x6, .int x7, .int x8, .ref a9, .int x10, .int x11, .int x12, .int x13, .int x14, .long x15, .long x16, .long x17, .ref a18, .ref a19, .ref a20, .ref a21, .ref a22, .ref a23, .ref a24, .ref a25, .ref a26, .ref a27, .ref a28, .ref a29, .int x30, .int x31, .ref a32, .int x33, .ref a34])) :: fr) := hD
  refine lv_aload_n hx hb d_M_clear_17 rfl (lv_at hl 0 rfl) ?_
  refine va_get (D := tp_D E) (ci := 4) (v := .int 1) (C := qR_M) (T := qF_M) (N := 34) hx hb htg qi_M hown hK.1 hP 0 rfl rfl 0 (by decide) (htg _ kl_M_208) (fun _ h => h) rfl d_M_clear_18 ?_
  refine lv_if_le (tgt := 25) hx hb d_M_clear_21 (by decide) (fun h => absurd h (by decide)) (fun _ => ?_)
  exact W.vret hx hb hr (fun t ht hW => ⟨⟨(), rfl, trivial, by rw [ht]; exact hP, hD⟩, hS.F ht⟩) hS.2.2 d_M_clear_24
set_option maxHeartbeats 400000 in
set_option maxRecDepth 100000 in
theorem c_M_far_1 (l : Launch) (E : tp_Env) (fr : va_W) (sz : Nat) (x1 : Int32) (a2 : Nat) (a3 : Nat) (x4 : Int32) (a5 : Nat) (x6 : Int32) (x7 : Int32) (x8 : Int32) (a9 : Nat) (x10 : Int32) (x11 : Int32) (x12 : Int32) (x13 : Int32) (x14 : Int32) (x15 : Int64) (x16 : Int64) (x17 : Int64) (a18 : Nat) (a19 : Nat) (a20 : Nat) (a21 : Nat) (a22 : Nat) (a23 : Nat) (a24 : Nat) (a25 : Nat) (a26 : Nat) (a27 : Nat) (a28 : Nat) (a29 : Nat) (x30 : Int32) (x31 : Int32) (a32 : Nat) (x33 : Int32) (a34 : Nat) (a35 : Nat) (h1 : ¬ 0 ≤ x30) : Met l y_M_far w_M_far ({ frames := 0, cells := 0, slots := 0, locals := 0 }) (va_Pc [.ref a35] (tp_in E ((a35, .inr (4, [.int x1, .ref a2, .ref a3, .int x4, .ref a5, .int x6, .int x7, .int x8, .ref a9, .int x10, .int x11, .int x12, .int x13, .int x14, .long x15, .long x16, .long x17, .ref a18, .ref a19, .ref a20, .ref a21, .ref a22, .ref a23, .ref a24, .ref a25, .ref a26, .ref a27, .ref a28, .ref a29, .int x30, .int x31, .ref a32, .int x33, .ref a34])) :: fr) sz)) (va_Qi (fun r (_ : Unit) => r = 0) (fun _ t => tp_out E (va_A ((a35, .inr (4, [.int x1, .ref a2, .ref a3, .int x4, .ref a5, .int x6, .int x7, .int x8, .ref a9, .int x10, .int x11, .int x12, .int x13, .int x14, .long x15, .long x16, .long x17, .ref a18, .ref a19, .ref a20, .ref a21, .ref a22, .ref a23, .ref a24, .ref a25, .ref a26, .ref a27, .ref a28, .ref a29, .int x30, .int x31, .ref a32, .int x33, .ref a34])) :: fr) sz) ((a35, .inr (4, [.int 1, .ref a2, .ref a3, .int x4, .ref a5, .int x6, .int x7, .int x8, .ref a9, .int x10, .int x11, .int x12, .int x13, .int x14, .long x15, .long x16, .long x17, .ref a18, .ref a19, .ref a20, .ref a21, .ref a22, .ref a23, .ref a24, .ref a25, .ref a26, .ref a27, .ref a28, .ref a29, .int x30, .int x31, .ref a32, .int x33, .ref a34])) :: fr) t) (va_A ((a35, .inr (4, [.int x1, .ref a2, .ref a3, .int x4, .ref a5, .int x6, .int x7, .int x8, .ref a9, .int x10, .int x11, .int x12, .int x13, .int x14, .long x15, .long x16, .long x17, .ref a18, .ref a19, .ref a20, .ref a21, .ref a22, .ref a23, .ref a24, .ref a25, .ref a26, .ref a27, .ref a28, .ref a29, .int x30, .int x31, .ref a32, .int x33, .ref a34])) :: fr) sz)) 0 0 (va_A ((a35, .inr (4, [.int x1, .ref a2, .ref a3, .int x4, .ref a5, .int x6, .int x7, .int x8, .ref a9, .int x10, .int x11, .int x12, .int x13, .int x14, .long x15, .long x16, .long x17, .ref a18, .ref a19, .ref a20, .ref a21, .ref a22, .ref a23, .ref a24, .ref a25, .ref a26, .ref a27, .ref a28, .ref a29, .int x30, .int x31, .ref a32, .int x33, .ref a34])) :: fr) sz) := by
  refine Met.ofW (cc := b_M_far) (maxL := 1) (ret := (some .int)) (by decide) rfl ?_
  intro p e s m args below meth c s₁ B hml hv
  obtain ⟨rfl, hsz, hP, hK, hD0⟩ := hv
  have hx := B.exec
  have hb := B.bytes
  have hr := B.returns
  have htg : ∀ w ∈ tp_G, w.before ([.ref a35] : List Value).toArray s = true := fun w h => atoms_spec (ws := w_M_far) B.pre w (List.mem_cons_of_mem _ h)
  have hown : s.vm.findClass "TwoPassModel" = some m.cls := findClass_of_methodNamed B.named
  have hlocks := B.notSynchronized
  subst hsz
  have hD := hD0.self (sz := s.heap.size)
  generalize hAe : va_A ((a35, .inr (4, [.int x1, .ref a2, .ref a3, .int x4, .ref a5, .int x6, .int x7, .int x8, .ref a9, .int x10, .int x11, .int x12, .int x13, .int x14, .long x15, .long x16, .long x17, .ref a18, .ref a19, .ref a20, .ref a21, .ref a22, .ref a23, .ref a24, .ref a25, .ref a26, .ref a27, .ref a28, .ref a29, .int x30, .int x31, .ref a32, .int x33, .ref a34])) :: fr) s.heap.size = A at hD hK ⊢
  have hA : ∀ q : Nat, s.heap.size ≤ q → A q := fun q h => by rw [← hAe]; exact Or.inr h
  have hS : va_S A s.heap s.heap [] := va_S.rf
  have hl := lv_entry ([.ref a35]) (n := 1) (Nat.le_of_ble_eq_true rfl)
  rw [lg_entry_eq]
  generalize (lg_sl ([.ref a35]) ++ List.replicate (1 - (lg_sl ([.ref a35])).length) Slot.unset).toArray = ls at hl ⊢
  have hl : lv_has ls 1 [(0, .ref a35)] := hl
  refine lv_aload_n hx hb d_M_far_0 rfl (lv_at hl 0 rfl) ?_
  refine lv_aload_n hx hb d_M_far_1 rfl (lv_at hl 0 rfl) ?_
  refine va_get (D := tp_D E) (ci := 4) (v := .int x30) (C := qR_M) (T := qF_M) (N := 34) hx hb htg qi_M hown hK.1 hP 0 rfl rfl 29 (by decide) (htg _ kl_M_60) (fun _ h => h) rfl d_M_far_2 ?_
  refine lv_if_ge (tgt := 12) hx hb d_M_far_5 (by decide) (fun h => absurd h h1) (fun _ => ?_)
  refine lv_iconst (v := 1) hx hb d_M_far_8 (by decide) ?_
  refine lv_goto (tgt := 13) hx hb d_M_far_9 (by decide) ?_
  refine va_put (D := tp_D E) (ci := 4) (v := .int 1) (ty := .int) (C := qR_M) (T := qF_M) (N := 34) hx hb htg qi_M qt_M qt_M_ok qn_M hown hK.1 hP hD hS 0 rfl rfl 0 (by decide) (htg _ kl_M_208) (fun _ h => h) rfl (by decide +kernel) rfl rfl (Nat.le_of_ble_eq_true rfl) d_M_far_13 (fun H locs hP hD hS => ?_)
  have hP : va_P (tp_D E) tp_cl ((a35, .inr (4, [.int 1, .ref a2, .ref a3, .int x4, .ref a5, .int x6, .int x7, .int x8, .ref a9, .int x10, .int x11, .int x12, .int x13, .int x14, .long x15, .long x16, .long x17, .ref a18, .ref a19, .ref a20, .ref a21, .ref a22, .ref a23, .ref a24, .ref a25, .ref a26, .ref a27, .ref a28, .ref a29, .int x30, .int x31, .ref a32, .int x33, .ref a34])) :: fr) H := hP
  have hD : va_D A ((a35, .inr (4, [.int 1, .ref a2, .ref a3, .int x4, .ref a5, .int x6, .int x7, .int x8, .ref a9, .int x10, .int x11, .int x12, .int x13, .int x14, .long x15, .long x16, .long x17, .ref a18, .ref a19, .ref a20, .ref a21, .ref a22, .ref a23, .ref a24, .ref a25, .ref a26, .ref a27, .ref a28, .ref a29, .int x30, .int x31, .ref a32, .int x33, .ref a34])) :: fr) := hD
  refine lv_aload_n hx hb d_M_far_16 rfl (lv_at hl 0 rfl) ?_
  refine va_get (D := tp_D E) (ci := 4) (v := .int 1) (C := qR_M) (T := qF_M) (N := 34) hx hb htg qi_M hown hK.1 hP 0 rfl rfl 0 (by decide) (htg _ kl_M_208) (fun _ h => h) rfl d_M_far_17 ?_
  refine lv_if_le (tgt := 27) hx hb d_M_far_20 (by decide) (fun h => absurd h (by decide)) (fun _ => ?_)
  refine lv_iconst (v := 0) hx hb d_M_far_23 (by decide) ?_
  refine lv_goto (tgt := 31) hx hb d_M_far_24 (by decide) ?_
  exact W.iret (v := 0) hx hb hr (fun t ht hW => ⟨⟨_, (), rfl, rfl, by rw [ht]; exact hP, hD⟩, hS.F ht⟩) hS.2.2 d_M_far_31
set_option maxHeartbeats 400000 in
set_option maxRecDepth 100000 in
theorem c_M_image_1 (l : Launch) (E : tp_Env) (fr : va_W) (sz : Nat) (x1 : Int32) (a2 : Nat) (a3 : Nat) (x4 : Int32) (a5 : Nat) (x6 : Int32) (x7 : Int32) (x8 : Int32) (a9 : Nat) (x10 : Int32) (x11 : Int32) (x12 : Int32) (x13 : Int32) (x14 : Int32) (x15 : Int64) (x16 : Int64) (x17 : Int64) (a18 : Nat) (a19 : Nat) (a20 : Nat) (a21 : Nat) (a22 : Nat) (a23 : Nat) (a24 : Nat) (a25 : Nat) (a26 : Nat) (a27 : Nat) (a28 : Nat) (a29 : Nat) (x30 : Int32) (x31 : Int32) (a32 : Nat) (x33 : Int32) (a34 : Nat) (a35 : Nat) (x36 : Int32) (h1 : ¬ 0 ≤ x30) : Met l y_M_image w_M_image ({ frames := 0, cells := 0, slots := 0, locals := 0 }) (va_Pc [.ref a35, .int x36] (tp_in E ((a35, .inr (4, [.int x1, .ref a2, .ref a3, .int x4, .ref a5, .int x6, .int x7, .int x8, .ref a9, .int x10, .int x11, .int x12, .int x13, .int x14, .long x15, .long x16, .long x17, .ref a18, .ref a19, .ref a20, .ref a21, .ref a22, .ref a23, .ref a24, .ref a25, .ref a26, .ref a27, .ref a28, .ref a29, .int x30, .int x31, .ref a32, .int x33, .ref a34])) :: fr) sz)) (va_Qi (fun r (_ : Unit) => r = 0) (fun _ t => tp_out E (va_A ((a35, .inr (4, [.int x1, .ref a2, .ref a3, .int x4, .ref a5, .int x6, .int x7, .int x8, .ref a9, .int x10, .int x11, .int x12, .int x13, .int x14, .long x15, .long x16, .long x17, .ref a18, .ref a19, .ref a20, .ref a21, .ref a22, .ref a23, .ref a24, .ref a25, .ref a26, .ref a27, .ref a28, .ref a29, .int x30, .int x31, .ref a32, .int x33, .ref a34])) :: fr) sz) ((a35, .inr (4, [.int 1, .ref a2, .ref a3, .int x4, .ref a5, .int x6, .int x7, .int x8, .ref a9, .int x10, .int x11, .int x12, .int x13, .int x14, .long x15, .long x16, .long x17, .ref a18, .ref a19, .ref a20, .ref a21, .ref a22, .ref a23, .ref a24, .ref a25, .ref a26, .ref a27, .ref a28, .ref a29, .int x30, .int x31, .ref a32, .int x33, .ref a34])) :: fr) t) (va_A ((a35, .inr (4, [.int x1, .ref a2, .ref a3, .int x4, .ref a5, .int x6, .int x7, .int x8, .ref a9, .int x10, .int x11, .int x12, .int x13, .int x14, .long x15, .long x16, .long x17, .ref a18, .ref a19, .ref a20, .ref a21, .ref a22, .ref a23, .ref a24, .ref a25, .ref a26, .ref a27, .ref a28, .ref a29, .int x30, .int x31, .ref a32, .int x33, .ref a34])) :: fr) sz)) 0 0 (va_A ((a35, .inr (4, [.int x1, .ref a2, .ref a3, .int x4, .ref a5, .int x6, .int x7, .int x8, .ref a9, .int x10, .int x11, .int x12, .int x13, .int x14, .long x15, .long x16, .long x17, .ref a18, .ref a19, .ref a20, .ref a21, .ref a22, .ref a23, .ref a24, .ref a25, .ref a26, .ref a27, .ref a28, .ref a29, .int x30, .int x31, .ref a32, .int x33, .ref a34])) :: fr) sz) := by
  refine Met.ofW (cc := b_M_image) (maxL := 2) (ret := (some .int)) (by decide) rfl ?_
  intro p e s m args below meth c s₁ B hml hv
  obtain ⟨rfl, hsz, hP, hK, hD0⟩ := hv
  have hx := B.exec
  have hb := B.bytes
  have hr := B.returns
  have htg : ∀ w ∈ tp_G, w.before ([.ref a35, .int x36] : List Value).toArray s = true := fun w h => atoms_spec (ws := w_M_image) B.pre w (List.mem_cons_of_mem _ h)
  have hown : s.vm.findClass "TwoPassModel" = some m.cls := findClass_of_methodNamed B.named
  have hlocks := B.notSynchronized
  subst hsz
  have hD := hD0.self (sz := s.heap.size)
  generalize hAe : va_A ((a35, .inr (4, [.int x1, .ref a2, .ref a3, .int x4, .ref a5, .int x6, .int x7, .int x8, .ref a9, .int x10, .int x11, .int x12, .int x13, .int x14, .long x15, .long x16, .long x17, .ref a18, .ref a19, .ref a20, .ref a21, .ref a22, .ref a23, .ref a24, .ref a25, .ref a26, .ref a27, .ref a28, .ref a29, .int x30, .int x31, .ref a32, .int x33, .ref a34])) :: fr) s.heap.size = A at hD hK ⊢
  have hA : ∀ q : Nat, s.heap.size ≤ q → A q := fun q h => by rw [← hAe]; exact Or.inr h
  have hS : va_S A s.heap s.heap [] := va_S.rf
  have hl := lv_entry ([.ref a35, .int x36]) (n := 2) (Nat.le_of_ble_eq_true rfl)
  rw [lg_entry_eq]
  generalize (lg_sl ([.ref a35, .int x36]) ++ List.replicate (2 - (lg_sl ([.ref a35, .int x36])).length) Slot.unset).toArray = ls at hl ⊢
  have hl : lv_has ls 2 [(0, .ref a35), (1, .int x36)] := hl
  refine lv_aload_n hx hb d_M_image_0 rfl (lv_at hl 0 rfl) ?_
  refine lv_aload_n hx hb d_M_image_1 rfl (lv_at hl 0 rfl) ?_
  refine va_get (D := tp_D E) (ci := 4) (v := .int x30) (C := qR_M) (T := qF_M) (N := 34) hx hb htg qi_M hown hK.1 hP 0 rfl rfl 29 (by decide) (htg _ kl_M_60) (fun _ h => h) rfl d_M_image_2 ?_
  refine lv_if_ge (tgt := 12) hx hb d_M_image_5 (by decide) (fun h => absurd h h1) (fun _ => ?_)
  refine lv_iconst (v := 1) hx hb d_M_image_8 (by decide) ?_
  refine lv_goto (tgt := 28) hx hb d_M_image_9 (by decide) ?_
  refine va_put (D := tp_D E) (ci := 4) (v := .int 1) (ty := .int) (C := qR_M) (T := qF_M) (N := 34) hx hb htg qi_M qt_M qt_M_ok qn_M hown hK.1 hP hD hS 0 rfl rfl 0 (by decide) (htg _ kl_M_208) (fun _ h => h) rfl (by decide +kernel) rfl rfl (Nat.le_of_ble_eq_true rfl) d_M_image_28 (fun H locs hP hD hS => ?_)
  have hP : va_P (tp_D E) tp_cl ((a35, .inr (4, [.int 1, .ref a2, .ref a3, .int x4, .ref a5, .int x6, .int x7, .int x8, .ref a9, .int x10, .int x11, .int x12, .int x13, .int x14, .long x15, .long x16, .long x17, .ref a18, .ref a19, .ref a20, .ref a21, .ref a22, .ref a23, .ref a24, .ref a25, .ref a26, .ref a27, .ref a28, .ref a29, .int x30, .int x31, .ref a32, .int x33, .ref a34])) :: fr) H := hP
  have hD : va_D A ((a35, .inr (4, [.int 1, .ref a2, .ref a3, .int x4, .ref a5, .int x6, .int x7, .int x8, .ref a9, .int x10, .int x11, .int x12, .int x13, .int x14, .long x15, .long x16, .long x17, .ref a18, .ref a19, .ref a20, .ref a21, .ref a22, .ref a23, .ref a24, .ref a25, .ref a26, .ref a27, .ref a28, .ref a29, .int x30, .int x31, .ref a32, .int x33, .ref a34])) :: fr) := hD
  refine lv_aload_n hx hb d_M_image_31 rfl (lv_at hl 0 rfl) ?_
  refine va_get (D := tp_D E) (ci := 4) (v := .int 1) (C := qR_M) (T := qF_M) (N := 34) hx hb htg qi_M hown hK.1 hP 0 rfl rfl 0 (by decide) (htg _ kl_M_208) (fun _ h => h) rfl d_M_image_32 ?_
  refine lv_if_le (tgt := 42) hx hb d_M_image_35 (by decide) (fun h => absurd h (by decide)) (fun _ => ?_)
  refine lv_iconst (v := 0) hx hb d_M_image_38 (by decide) ?_
  refine lv_goto (tgt := 48) hx hb d_M_image_39 (by decide) ?_
  exact W.iret (v := 0) hx hb hr (fun t ht hW => ⟨⟨_, (), rfl, rfl, by rw [ht]; exact hP, hD⟩, hS.F ht⟩) hS.2.2 d_M_image_48
set_option maxHeartbeats 400000 in
set_option maxRecDepth 100000 in
theorem c_M_letter_1 (l : Launch) (E : tp_Env) (fr : va_W) (sz : Nat) (x1 : Int32) (a2 : Nat) (a3 : Nat) (x4 : Int32) (a5 : Nat) (x6 : Int32) (x7 : Int32) (x8 : Int32) (a9 : Nat) (x10 : Int32) (x11 : Int32) (x12 : Int32) (x13 : Int32) (x14 : Int32) (x15 : Int64) (x16 : Int64) (x17 : Int64) (a18 : Nat) (a19 : Nat) (a20 : Nat) (a21 : Nat) (a22 : Nat) (a23 : Nat) (a24 : Nat) (a25 : Nat) (a26 : Nat) (a27 : Nat) (a28 : Nat) (a29 : Nat) (x30 : Int32) (x31 : Int32) (a32 : Nat) (x33 : Int32) (a34 : Nat) (a35 : Nat) (x36 : Int32) (h1 : x36 < 0) : Met l y_M_letter w_M_letter ({ frames := 1, cells := 0, slots := 0, locals := 21 }) (va_Pc [.ref a35, .int x36] (tp_in E ((a35, .inr (4, [.int x1, .ref a2, .ref a3, .int x4, .ref a5, .int x6, .int x7, .int x8, .ref a9, .int x10, .int x11, .int x12, .int x13, .int x14, .long x15, .long x16, .long x17, .ref a18, .ref a19, .ref a20, .ref a21, .ref a22, .ref a23, .ref a24, .ref a25, .ref a26, .ref a27, .ref a28, .ref a29, .int x30, .int x31, .ref a32, .int x33, .ref a34])) :: fr) sz)) (va_Qi (fun r (_ : Unit) => r = 0) (fun _ t => tp_out E (va_A ((a35, .inr (4, [.int x1, .ref a2, .ref a3, .int x4, .ref a5, .int x6, .int x7, .int x8, .ref a9, .int x10, .int x11, .int x12, .int x13, .int x14, .long x15, .long x16, .long x17, .ref a18, .ref a19, .ref a20, .ref a21, .ref a22, .ref a23, .ref a24, .ref a25, .ref a26, .ref a27, .ref a28, .ref a29, .int x30, .int x31, .ref a32, .int x33, .ref a34])) :: fr) sz) ((a35, .inr (4, [.int 1, .ref a2, .ref a3, .int x4, .ref a5, .int x6, .int x7, .int x8, .ref a9, .int x10, .int x11, .int x12, .int x13, .int x14, .long x15, .long x16, .long x17, .ref a18, .ref a19, .ref a20, .ref a21, .ref a22, .ref a23, .ref a24, .ref a25, .ref a26, .ref a27, .ref a28, .ref a29, .int x30, .int x31, .ref a32, .int x33, .ref a34])) :: fr) t) (va_A ((a35, .inr (4, [.int x1, .ref a2, .ref a3, .int x4, .ref a5, .int x6, .int x7, .int x8, .ref a9, .int x10, .int x11, .int x12, .int x13, .int x14, .long x15, .long x16, .long x17, .ref a18, .ref a19, .ref a20, .ref a21, .ref a22, .ref a23, .ref a24, .ref a25, .ref a26, .ref a27, .ref a28, .ref a29, .int x30, .int x31, .ref a32, .int x33, .ref a34])) :: fr) sz)) 0 0 (va_A ((a35, .inr (4, [.int x1, .ref a2, .ref a3, .int x4, .ref a5, .int x6, .int x7, .int x8, .ref a9, .int x10, .int x11, .int x12, .int x13, .int x14, .long x15, .long x16, .long x17, .ref a18, .ref a19, .ref a20, .ref a21, .ref a22, .ref a23, .ref a24, .ref a25, .ref a26, .ref a27, .ref a28, .ref a29, .int x30, .int x31, .ref a32, .int x33, .ref a34])) :: fr) sz) := by
  refine Met.ofW (cc := b_M_letter) (maxL := 2) (ret := (some .int)) (by decide) rfl ?_
  intro p e s m args below meth c s₁ B hml hv
  obtain ⟨rfl, hsz, hP, hK, hD0⟩ := hv
  have hx := B.exec
  have hb := B.bytes
  have hr := B.returns
  have htg : ∀ w ∈ tp_G, w.before ([.ref a35, .int x36] : List Value).toArray s = true := fun w h => atoms_spec (ws := w_M_letter) B.pre w (List.mem_cons_of_mem _ h)
  have hown : s.vm.findClass "TwoPassModel" = some m.cls := findClass_of_methodNamed B.named
  have hlocks := B.notSynchronized
  subst hsz
  have hD := hD0.self (sz := s.heap.size)
  generalize hAe : va_A ((a35, .inr (4, [.int x1, .ref a2, .ref a3, .int x4, .ref a5, .int x6, .int x7, .int x8, .ref a9, .int x10, .int x11, .int x12, .int x13, .int x14, .long x15, .long x16, .long x17, .ref a18, .ref a19, .ref a20, .ref a21, .ref a22, .ref a23, .ref a24, .ref a25, .ref a26, .ref a27, .ref a28, .ref a29, .int x30, .int x31, .ref a32, .int x33, .ref a34])) :: fr) s.heap.size = A at hD hK ⊢
  have hA : ∀ q : Nat, s.heap.size ≤ q → A q := fun q h => by rw [← hAe]; exact Or.inr h
  have hS : va_S A s.heap s.heap [] := va_S.rf
  have hl := lv_entry ([.ref a35, .int x36]) (n := 2) (Nat.le_of_ble_eq_true rfl)
  rw [lg_entry_eq]
  generalize (lg_sl ([.ref a35, .int x36]) ++ List.replicate (2 - (lg_sl ([.ref a35, .int x36])).length) Slot.unset).toArray = ls at hl ⊢
  have hl : lv_has ls 2 [(0, .ref a35), (1, .int x36)] := hl
  refine lv_aload_n hx hb d_M_letter_0 rfl (lv_at hl 0 rfl) ?_
  refine lv_iload_n hx hb d_M_letter_1 rfl (lv_at hl 1 rfl) ?_
  refine lv_aload_n hx hb d_M_letter_2 rfl (lv_at hl 0 rfl) ?_
  refine va_get (D := tp_D E) (ci := 4) (v := .int x33) (C := qR_M) (T := qF_M) (N := 34) hx hb htg qi_M hown hK.1 hP 0 rfl rfl 32 (by decide) (htg _ kl_M_411) (fun _ h => h) rfl d_M_letter_3 ?_
  refine tp_ci (tp_rS (As := [.int x36, .int x33]) (rest := [.ref a35]) ⟨hx, hb, hml, hown, htg⟩ (c_M_out_1 l E ((a35, .inr (4, [.int x1, .ref a2, .ref a3, .int x4, .ref a5, .int x6, .int x7, .int x8, .ref a9, .int x10, .int x11, .int x12, .int x13, .int x14, .long x15, .long x16, .long x17, .ref a18, .ref a19, .ref a20, .ref a21, .ref a22, .ref a23, .ref a24, .ref a25, .ref a26, .ref a27, .ref a28, .ref a29, .int x30, .int x31, .ref a32, .int x33, .ref a34])) :: fr) _ x36 x33 h1) (⟨callB_of 2 htg (tp_good0 kc_M_out) rfl rfl rfl (htg _ ki_M) (htg _ kl_M_350) ⟨by decide, by decide, by decide +kernel⟩ ⟨Nat.le_of_ble_eq_true rfl, Nat.le_of_ble_eq_true rfl⟩, htg _ ks_M_out⟩) hK hP hD hS hA rfl hl.1 rfl (Nat.le_of_ble_eq_true rfl) d_M_letter_6 ⟨Nat.le_of_ble_eq_true rfl, Nat.le_of_ble_eq_true rfl⟩) hD hS hA (fun r u H locs hw hP hD hS => ?_)
  subst r
  have hP : va_P (tp_D E) tp_cl ((a35, .inr (4, [.int x1, .ref a2, .ref a3, .int x4, .ref a5, .int x6, .int x7, .int x8, .ref a9, .int x10, .int x11, .int x12, .int x13, .int x14, .long x15, .long x16, .long x17, .ref a18, .ref a19, .ref a20, .ref a21, .ref a22, .ref a23, .ref a24, .ref a25, .ref a26, .ref a27, .ref a28, .ref a29, .int x30, .int x31, .ref a32, .int x33, .ref a34])) :: fr) H := hP
  have hD : va_D A ((a35, .inr (4, [.int x1, .ref a2, .ref a3, .int x4, .ref a5, .int x6, .int x7, .int x8, .ref a9, .int x10, .int x11, .int x12, .int x13, .int x14, .long x15, .long x16, .long x17, .ref a18, .ref a19, .ref a20, .ref a21, .ref a22, .ref a23, .ref a24, .ref a25, .ref a26, .ref a27, .ref a28, .ref a29, .int x30, .int x31, .ref a32, .int x33, .ref a34])) :: fr) := hD
  refine lv_if_eq (tgt := 16) hx hb d_M_letter_9 (by decide) (fun h => absurd h (by decide)) (fun _ => ?_)
  refine lv_iconst (v := 1) hx hb d_M_letter_12 (by decide) ?_
  refine lv_goto (tgt := 17) hx hb d_M_letter_13 (by decide) ?_
  refine va_put (D := tp_D E) (ci := 4) (v := .int 1) (ty := .int) (C := qR_M) (T := qF_M) (N := 34) hx hb htg qi_M qt_M qt_M_ok qn_M hown hK.1 hP hD hS 0 rfl rfl 0 (by decide) (htg _ kl_M_208) (fun _ h => h) rfl (by decide +kernel) rfl rfl (Nat.le_of_ble_eq_true rfl) d_M_letter_17 (fun H locs hP hD hS => ?_)
  have hP : va_P (tp_D E) tp_cl ((a35, .inr (4, [.int 1, .ref a2, .ref a3, .int x4, .ref a5, .int x6, .int x7, .int x8, .ref a9, .int x10, .int x11, .int x12, .int x13, .int x14, .long x15, .long x16, .long x17, .ref a18, .ref a19, .ref a20, .ref a21, .ref a22, .ref a23, .ref a24, .ref a25, .ref a26, .ref a27, .ref a28, .ref a29, .int x30, .int x31, .ref a32, .int x33, .ref a34])) :: fr) H := hP
  have hD : va_D A ((a35, .inr (4, [.int 1, .ref a2, .ref a3, .int x4, .ref a5, .int x6, .int x7, .int x8, .ref a9, .int x10, .int x11, .int x12, .int x13, .int x14, .long x15, .long x16, .long x17, .ref a18, .ref a19, .ref a20, .ref a21, .ref a22, .ref a23, .ref a24, .ref a25, .ref a26, .ref a27, .ref a28, .ref a29, .int x30, .int x31, .ref a32, .int x33, .ref a34])) :: fr) := hD
  refine lv_aload_n hx hb d_M_letter_20 rfl (lv_at hl 0 rfl) ?_
  refine va_get (D := tp_D E) (ci := 4) (v := .int 1) (C := qR_M) (T := qF_M) (N := 34) hx hb htg qi_M hown hK.1 hP 0 rfl rfl 0 (by decide) (htg _ kl_M_208) (fun _ h => h) rfl d_M_letter_21 ?_
  refine lv_if_le (tgt := 31) hx hb d_M_letter_24 (by decide) (fun h => absurd h (by decide)) (fun _ => ?_)
  refine lv_iconst (v := 0) hx hb d_M_letter_27 (by decide) ?_
  refine lv_goto (tgt := 37) hx hb d_M_letter_28 (by decide) ?_
  exact W.iret (v := 0) hx hb hr (fun t ht hW => ⟨⟨_, (), rfl, rfl, by rw [ht]; exact hP, hD⟩, hS.F ht⟩) hS.2.2 d_M_letter_37
set_option maxHeartbeats 400000 in
set_option maxRecDepth 100000 in
theorem c_M_letter_2 (l : Launch) (E : tp_Env) (fr : va_W) (sz : Nat) (x1 : Int32) (a2 : Nat) (a3 : Nat) (x4 : Int32) (a5 : Nat) (x6 : Int32) (x7 : Int32) (x8 : Int32) (a9 : Nat) (x10 : Int32) (x11 : Int32) (x12 : Int32) (x13 : Int32) (x14 : Int32) (x15 : Int64) (x16 : Int64) (x17 : Int64) (a18 : Nat) (a19 : Nat) (a20 : Nat) (a21 : Nat) (a22 : Nat) (a23 : Nat) (a24 : Nat) (a25 : Nat) (a26 : Nat) (a27 : Nat) (a28 : Nat) (a29 : Nat) (x30 : Int32) (x31 : Int32) (a32 : Nat) (x33 : Int32) (a34 : Nat) (a35 : Nat) (x36 : Int32) (h1 : ¬ x36 < 0) (h2 : ¬ x36 < x33) : Met l y_M_letter w_M_letter ({ frames := 1, cells := 0, slots := 0, locals := 21 }) (va_Pc [.ref a35, .int x36] (tp_in E ((a35, .inr (4, [.int x1, .ref a2, .ref a3, .int x4, .ref a5, .int x6, .int x7, .int x8, .ref a9, .int x10, .int x11, .int x12, .int x13, .int x14, .long x15, .long x16, .long x17, .ref a18, .ref a19, .ref a20, .ref a21, .ref a22, .ref a23, .ref a24, .ref a25, .ref a26, .ref a27, .ref a28, .ref a29, .int x30, .int x31, .ref a32, .int x33, .ref a34])) :: fr) sz)) (va_Qi (fun r (_ : Unit) => r = 0) (fun _ t => tp_out E (va_A ((a35, .inr (4, [.int x1, .ref a2, .ref a3, .int x4, .ref a5, .int x6, .int x7, .int x8, .ref a9, .int x10, .int x11, .int x12, .int x13, .int x14, .long x15, .long x16, .long x17, .ref a18, .ref a19, .ref a20, .ref a21, .ref a22, .ref a23, .ref a24, .ref a25, .ref a26, .ref a27, .ref a28, .ref a29, .int x30, .int x31, .ref a32, .int x33, .ref a34])) :: fr) sz) ((a35, .inr (4, [.int 1, .ref a2, .ref a3, .int x4, .ref a5, .int x6, .int x7, .int x8, .ref a9, .int x10, .int x11, .int x12, .int x13, .int x14, .long x15, .long x16, .long x17, .ref a18, .ref a19, .ref a20, .ref a21, .ref a22, .ref a23, .ref a24, .ref a25, .ref a26, .ref a27, .ref a28, .ref a29, .int x30, .int x31, .ref a32, .int x33, .ref a34])) :: fr) t) (va_A ((a35, .inr (4, [.int x1, .ref a2, .ref a3, .int x4, .ref a5, .int x6, .int x7, .int x8, .ref a9, .int x10, .int x11, .int x12, .int x13, .int x14, .long x15, .long x16, .long x17, .ref a18, .ref a19, .ref a20, .ref a21, .ref a22, .ref a23, .ref a24, .ref a25, .ref a26, .ref a27, .ref a28, .ref a29, .int x30, .int x31, .ref a32, .int x33, .ref a34])) :: fr) sz)) 0 0 (va_A ((a35, .inr (4, [.int x1, .ref a2, .ref a3, .int x4, .ref a5, .int x6, .int x7, .int x8, .ref a9, .int x10, .int x11, .int x12, .int x13, .int x14, .long x15, .long x16, .long x17, .ref a18, .ref a19, .ref a20, .ref a21, .ref a22, .ref a23, .ref a24, .ref a25, .ref a26, .ref a27, .ref a28, .ref a29, .int x30, .int x31, .ref a32, .int x33, .ref a34])) :: fr) sz) := by
  refine Met.ofW (cc := b_M_letter) (maxL := 2) (ret := (some .int)) (by decide) rfl ?_
  intro p e s m args below meth c s₁ B hml hv
  obtain ⟨rfl, hsz, hP, hK, hD0⟩ := hv
  have hx := B.exec
  have hb := B.bytes
  have hr := B.returns
  have htg : ∀ w ∈ tp_G, w.before ([.ref a35, .int x36] : List Value).toArray s = true := fun w h => atoms_spec (ws := w_M_letter) B.pre w (List.mem_cons_of_mem _ h)
  have hown : s.vm.findClass "TwoPassModel" = some m.cls := findClass_of_methodNamed B.named
  have hlocks := B.notSynchronized
  subst hsz
  have hD := hD0.self (sz := s.heap.size)
  generalize hAe : va_A ((a35, .inr (4, [.int x1, .ref a2, .ref a3, .int x4, .ref a5, .int x6, .int x7, .int x8, .ref a9, .int x10, .int x11, .int x12, .int x13, .int x14, .long x15, .long x16, .long x17, .ref a18, .ref a19, .ref a20, .ref a21, .ref a22, .ref a23, .ref a24, .ref a25, .ref a26, .ref a27, .ref a28, .ref a29, .int x30, .int x31, .ref a32, .int x33, .ref a34])) :: fr) s.heap.size = A at hD hK ⊢
  have hA : ∀ q : Nat, s.heap.size ≤ q → A q := fun q h => by rw [← hAe]; exact Or.inr h
  have hS : va_S A s.heap s.heap [] := va_S.rf
  have hl := lv_entry ([.ref a35, .int x36]) (n := 2) (Nat.le_of_ble_eq_true rfl)
  rw [lg_entry_eq]
  generalize (lg_sl ([.ref a35, .int x36]) ++ List.replicate (2 - (lg_sl ([.ref a35, .int x36])).length) Slot.unset).toArray = ls at hl ⊢
  have hl : lv_has ls 2 [(0, .ref a35), (1, .int x36)] := hl
  refine lv_aload_n hx hb d_M_letter_0 rfl (lv_at hl 0 rfl) ?_
  refine lv_iload_n hx hb d_M_letter_1 rfl (lv_at hl 1 rfl) ?_
  refine lv_aload_n hx hb d_M_letter_2 rfl (lv_at hl 0 rfl) ?_
  refine va_get (D := tp_D E) (ci := 4) (v := .int x33) (C := qR_M) (T := qF_M) (N := 34) hx hb htg qi_M hown hK.1 hP 0 rfl rfl 32 (by decide) (htg _ kl_M_411) (fun _ h => h) rfl d_M_letter_3 ?_
  refine tp_ci (tp_rS (As := [.int x36, .int x33]) (rest := [.ref a35]) ⟨hx, hb, hml, hown, htg⟩ (c_M_out_3 l E ((a35, .inr (4, [.int x1, .ref a2, .ref a3, .int x4, .ref a5, .int x6, .int x7, .int x8, .ref a9, .int x10, .int x11, .int x12, .int x13, .int x14, .long x15, .long x16, .long x17, .ref a18, .ref a19, .ref a20, .ref a21, .ref a22, .ref a23, .ref a24, .ref a25, .ref a26, .ref a27, .ref a28, .ref a29, .int x30, .int x31, .ref a32, .int x33, .ref a34])) :: fr) _ x36 x33 h1 h2) (⟨callB_of 2 htg (tp_good0 kc_M_out) rfl rfl rfl (htg _ ki_M) (htg _ kl_M_350) ⟨by decide, by decide, by decide +kernel⟩ ⟨Nat.le_of_ble_eq_true rfl, Nat.le_of_ble_eq_true rfl⟩, htg _ ks_M_out⟩) hK hP hD hS hA rfl hl.1 rfl (Nat.le_of_ble_eq_true rfl) d_M_letter_6 ⟨Nat.le_of_ble_eq_true rfl, Nat.le_of_ble_eq_true rfl⟩) hD hS hA (fun r u H locs hw hP hD hS => ?_)
  subst r
  have hP : va_P (tp_D E) tp_cl ((a35, .inr (4, [.int x1, .ref a2, .ref a3, .int x4, .ref a5, .int x6, .int x7, .int x8, .ref a9, .int x10, .int x11, .int x12, .int x13, .int x14, .long x15, .long x16, .long x17, .ref a18, .ref a19, .ref a20, .ref a21, .ref a22, .ref a23, .ref a24, .ref a25, .ref a26, .ref a27, .ref a28, .ref a29, .int x30, .int x31, .ref a32, .int x33, .ref a34])) :: fr) H := hP
  have hD : va_D A ((a35, .inr (4, [.int x1, .ref a2, .ref a3, .int x4, .ref a5, .int x6, .int x7, .int x8, .ref a9, .int x10, .int x11, .int x12, .int x13, .int x14, .long x15, .long x16, .long x17, .ref a18, .ref a19, .ref a20, .ref a21, .ref a22, .ref a23, .ref a24, .ref a25, .ref a26, .ref a27, .ref a28, .ref a29, .int x30, .int x31, .ref a32, .int x33, .ref a34])) :: fr) := hD
  refine lv_if_eq (tgt := 16) hx hb d_M_letter_9 (by decide) (fun h => absurd h (by decide)) (fun _ => ?_)
  refine lv_iconst (v := 1) hx hb d_M_letter_12 (by decide) ?_
  refine lv_goto (tgt := 17) hx hb d_M_letter_13 (by decide) ?_
  refine va_put (D := tp_D E) (ci := 4) (v := .int 1) (ty := .int) (C := qR_M) (T := qF_M) (N := 34) hx hb htg qi_M qt_M qt_M_ok qn_M hown hK.1 hP hD hS 0 rfl rfl 0 (by decide) (htg _ kl_M_208) (fun _ h => h) rfl (by decide +kernel) rfl rfl (Nat.le_of_ble_eq_true rfl) d_M_letter_17 (fun H locs hP hD hS => ?_)
  have hP : va_P (tp_D E) tp_cl ((a35, .inr (4, [.int 1, .ref a2, .ref a3, .int x4, .ref a5, .int x6, .int x7, .int x8, .ref a9, .int x10, .int x11, .int x12, .int x13, .int x14, .long x15, .long x16, .long x17, .ref a18, .ref a19, .ref a20, .ref a21, .ref a22, .ref a23, .ref a24, .ref a25, .ref a26, .ref a27, .ref a28, .ref a29, .int x30, .int x31, .ref a32, .int x33, .ref a34])) :: fr) H := hP
  have hD : va_D A ((a35, .inr (4, [.int 1, .ref a2, .ref a3, .int x4, .ref a5, .int x6, .int x7, .int x8, .ref a9, .int x10, .int x11, .int x12, .int x13, .int x14, .long x15, .long x16, .long x17, .ref a18, .ref a19, .ref a20, .ref a21, .ref a22, .ref a23, .ref a24, .ref a25, .ref a26, .ref a27, .ref a28, .ref a29, .int x30, .int x31, .ref a32, .int x33, .ref a34])) :: fr) := hD
  refine lv_aload_n hx hb d_M_letter_20 rfl (lv_at hl 0 rfl) ?_
  refine va_get (D := tp_D E) (ci := 4) (v := .int 1) (C := qR_M) (T := qF_M) (N := 34) hx hb htg qi_M hown hK.1 hP 0 rfl rfl 0 (by decide) (htg _ kl_M_208) (fun _ h => h) rfl d_M_letter_21 ?_
  refine lv_if_le (tgt := 31) hx hb d_M_letter_24 (by decide) (fun h => absurd h (by decide)) (fun _ => ?_)
  refine lv_iconst (v := 0) hx hb d_M_letter_27 (by decide) ?_
  refine lv_goto (tgt := 37) hx hb d_M_letter_28 (by decide) ?_
  exact W.iret (v := 0) hx hb hr (fun t ht hW => ⟨⟨_, (), rfl, rfl, by rw [ht]; exact hP, hD⟩, hS.F ht⟩) hS.2.2 d_M_letter_37
set_option maxHeartbeats 400000 in
set_option maxRecDepth 100000 in
theorem c_M_place_1 (l : Launch) (E : tp_Env) (fr : va_W) (sz : Nat) (x1 : Int32) (a2 : Nat) (a3 : Nat) (x4 : Int32) (a5 : Nat) (x6 : Int32) (x7 : Int32) (x8 : Int32) (a9 : Nat) (x10 : Int32) (x11 : Int32) (x12 : Int32) (x13 : Int32) (x14 : Int32) (x15 : Int64) (x16 : Int64) (x17 : Int64) (a18 : Nat) (a19 : Nat) (a20 : Nat) (a21 : Nat) (a22 : Nat) (a23 : Nat) (a24 : Nat) (a25 : Nat) (a26 : Nat) (a27 : Nat) (a28 : Nat) (a29 : Nat) (x30 : Int32) (x31 : Int32) (a32 : Nat) (x33 : Int32) (a34 : Nat) (a35 : Nat) (x36 : Int32) (x37 : Int32) (h1 : ¬ 0 ≤ x30) : Met l y_M_place w_M_place ({ frames := 0, cells := 0, slots := 0, locals := 0 }) (va_Pc [.ref a35, .int x36, .int x37] (tp_in E ((a35, .inr (4, [.int x1, .ref a2, .ref a3, .int x4, .ref a5, .int x6, .int x7, .int x8, .ref a9, .int x10, .int x11, .int x12, .int x13, .int x14, .long x15, .long x16, .long x17, .ref a18, .ref a19, .ref a20, .ref a21, .ref a22, .ref a23, .ref a24, .ref a25, .ref a26, .ref a27, .ref a28, .ref a29, .int x30, .int x31, .ref a32, .int x33, .ref a34])) :: fr) sz)) (va_Qi (fun r (_ : Unit) => r = 0) (fun _ t => tp_out E (va_A ((a35, .inr (4, [.int x1, .ref a2, .ref a3, .int x4, .ref a5, .int x6, .int x7, .int x8, .ref a9, .int x10, .int x11, .int x12, .int x13, .int x14, .long x15, .long x16, .long x17, .ref a18, .ref a19, .ref a20, .ref a21, .ref a22, .ref a23, .ref a24, .ref a25, .ref a26, .ref a27, .ref a28, .ref a29, .int x30, .int x31, .ref a32, .int x33, .ref a34])) :: fr) sz) ((a35, .inr (4, [.int 1, .ref a2, .ref a3, .int x4, .ref a5, .int x6, .int x7, .int x8, .ref a9, .int x10, .int x11, .int x12, .int x13, .int x14, .long x15, .long x16, .long x17, .ref a18, .ref a19, .ref a20, .ref a21, .ref a22, .ref a23, .ref a24, .ref a25, .ref a26, .ref a27, .ref a28, .ref a29, .int x30, .int x31, .ref a32, .int x33, .ref a34])) :: fr) t) (va_A ((a35, .inr (4, [.int x1, .ref a2, .ref a3, .int x4, .ref a5, .int x6, .int x7, .int x8, .ref a9, .int x10, .int x11, .int x12, .int x13, .int x14, .long x15, .long x16, .long x17, .ref a18, .ref a19, .ref a20, .ref a21, .ref a22, .ref a23, .ref a24, .ref a25, .ref a26, .ref a27, .ref a28, .ref a29, .int x30, .int x31, .ref a32, .int x33, .ref a34])) :: fr) sz)) 0 0 (va_A ((a35, .inr (4, [.int x1, .ref a2, .ref a3, .int x4, .ref a5, .int x6, .int x7, .int x8, .ref a9, .int x10, .int x11, .int x12, .int x13, .int x14, .long x15, .long x16, .long x17, .ref a18, .ref a19, .ref a20, .ref a21, .ref a22, .ref a23, .ref a24, .ref a25, .ref a26, .ref a27, .ref a28, .ref a29, .int x30, .int x31, .ref a32, .int x33, .ref a34])) :: fr) sz) := by
  refine Met.ofW (cc := b_M_place) (maxL := 3) (ret := (some .int)) (by decide) rfl ?_
  intro p e s m args below meth c s₁ B hml hv
  obtain ⟨rfl, hsz, hP, hK, hD0⟩ := hv
  have hx := B.exec
  have hb := B.bytes
  have hr := B.returns
  have htg : ∀ w ∈ tp_G, w.before ([.ref a35, .int x36, .int x37] : List Value).toArray s = true := fun w h => atoms_spec (ws := w_M_place) B.pre w (List.mem_cons_of_mem _ h)
  have hown : s.vm.findClass "TwoPassModel" = some m.cls := findClass_of_methodNamed B.named
  have hlocks := B.notSynchronized
  subst hsz
  have hD := hD0.self (sz := s.heap.size)
  generalize hAe : va_A ((a35, .inr (4, [.int x1, .ref a2, .ref a3, .int x4, .ref a5, .int x6, .int x7, .int x8, .ref a9, .int x10, .int x11, .int x12, .int x13, .int x14, .long x15, .long x16, .long x17, .ref a18, .ref a19, .ref a20, .ref a21, .ref a22, .ref a23, .ref a24, .ref a25, .ref a26, .ref a27, .ref a28, .ref a29, .int x30, .int x31, .ref a32, .int x33, .ref a34])) :: fr) s.heap.size = A at hD hK ⊢
  have hA : ∀ q : Nat, s.heap.size ≤ q → A q := fun q h => by rw [← hAe]; exact Or.inr h
  have hS : va_S A s.heap s.heap [] := va_S.rf
  have hl := lv_entry ([.ref a35, .int x36, .int x37]) (n := 3) (Nat.le_of_ble_eq_true rfl)
  rw [lg_entry_eq]
  generalize (lg_sl ([.ref a35, .int x36, .int x37]) ++ List.replicate (3 - (lg_sl ([.ref a35, .int x36, .int x37])).length) Slot.unset).toArray = ls at hl ⊢
  have hl : lv_has ls 3 [(0, .ref a35), (1, .int x36), (2, .int x37)] := hl
  refine lv_aload_n hx hb d_M_place_0 rfl (lv_at hl 0 rfl) ?_
  refine lv_aload_n hx hb d_M_place_1 rfl (lv_at hl 0 rfl) ?_
  refine va_get (D := tp_D E) (ci := 4) (v := .int x30) (C := qR_M) (T := qF_M) (N := 34) hx hb htg qi_M hown hK.1 hP 0 rfl rfl 29 (by decide) (htg _ kl_M_60) (fun _ h => h) rfl d_M_place_2 ?_
  refine lv_if_ge (tgt := 12) hx hb d_M_place_5 (by decide) (fun h => absurd h h1) (fun _ => ?_)
  refine lv_iconst (v := 1) hx hb d_M_place_8 (by decide) ?_
  refine lv_goto (tgt := 38) hx hb d_M_place_9 (by decide) ?_
  refine va_put (D := tp_D E) (ci := 4) (v := .int 1) (ty := .int) (C := qR_M) (T := qF_M) (N := 34) hx hb htg qi_M qt_M qt_M_ok qn_M hown hK.1 hP hD hS 0 rfl rfl 0 (by decide) (htg _ kl_M_208) (fun _ h => h) rfl (by decide +kernel) rfl rfl (Nat.le_of_ble_eq_true rfl) d_M_place_38 (fun H locs hP hD hS => ?_)
  have hP : va_P (tp_D E) tp_cl ((a35, .inr (4, [.int 1, .ref a2, .ref a3, .int x4, .ref a5, .int x6, .int x7, .int x8, .ref a9, .int x10, .int x11, .int x12, .int x13, .int x14, .long x15, .long x16, .long x17, .ref a18, .ref a19, .ref a20, .ref a21, .ref a22, .ref a23, .ref a24, .ref a25, .ref a26, .ref a27, .ref a28, .ref a29, .int x30, .int x31, .ref a32, .int x33, .ref a34])) :: fr) H := hP
  have hD : va_D A ((a35, .inr (4, [.int 1, .ref a2, .ref a3, .int x4, .ref a5, .int x6, .int x7, .int x8, .ref a9, .int x10, .int x11, .int x12, .int x13, .int x14, .long x15, .long x16, .long x17, .ref a18, .ref a19, .ref a20, .ref a21, .ref a22, .ref a23, .ref a24, .ref a25, .ref a26, .ref a27, .ref a28, .ref a29, .int x30, .int x31, .ref a32, .int x33, .ref a34])) :: fr) := hD
  refine lv_aload_n hx hb d_M_place_41 rfl (lv_at hl 0 rfl) ?_
  refine va_get (D := tp_D E) (ci := 4) (v := .int 1) (C := qR_M) (T := qF_M) (N := 34) hx hb htg qi_M hown hK.1 hP 0 rfl rfl 0 (by decide) (htg _ kl_M_208) (fun _ h => h) rfl d_M_place_42 ?_
  refine lv_if_le (tgt := 52) hx hb d_M_place_45 (by decide) (fun h => absurd h (by decide)) (fun _ => ?_)
  refine lv_iconst (v := 0) hx hb d_M_place_48 (by decide) ?_
  refine lv_goto (tgt := 63) hx hb d_M_place_49 (by decide) ?_
  exact W.iret (v := 0) hx hb hr (fun t ht hW => ⟨⟨_, (), rfl, rfl, by rw [ht]; exact hP, hD⟩, hS.F ht⟩) hS.2.2 d_M_place_63
set_option maxHeartbeats 400000 in
set_option maxRecDepth 100000 in
theorem c_T_lines_1 (l : Launch) (hfl : l.stackTraces = false) (E : tp_Env) (fr : va_W) (sz : Nat) (a1 : Nat) (a2 : Nat) (a3 : Nat) (a4 : Nat) (x5 : Int32) (x6 : Int32) (x7 : Int32) (h1 : x7 < 0) : vx_Met l y_T_lines w_T_lines ({ frames := 7, cells := 1, slots := 6, locals := 109 }) (va_Pc [.ref a1, .int x7] (tp_in E ((a1, .inr (0, [.ref a2, .ref a3, .ref a4, .int x5, .int x6])) :: fr) sz)) (va_Qi (fun (_ : Int32) (_ : Unit) => False) (fun _ _ => True) (va_A ((a1, .inr (0, [.ref a2, .ref a3, .ref a4, .int x5, .int x6])) :: fr) sz)) (vx_X (fun (_ : Unit) => True) (fun x _ t => x = "java/lang/IllegalArgumentException" ∧ tp_out E (va_A ((a1, .inr (0, [.ref a2, .ref a3, .ref a4, .int x5, .int x6])) :: fr) sz) ((a1, .inr (0, [.ref a2, .ref a3, .ref a4, .int x5, .int x6])) :: fr) t) (va_A ((a1, .inr (0, [.ref a2, .ref a3, .ref a4, .int x5, .int x6])) :: fr) sz)) 1 6 (va_A ((a1, .inr (0, [.ref a2, .ref a3, .ref a4, .int x5, .int x6])) :: fr) sz) := by
  refine vx_ofW (cc := b_T_lines) (maxL := 2) (ret := (some .int)) (by decide) rfl ?_
  intro p e s m args below meth c s₁ B hml htab hv
  obtain ⟨rfl, hsz, hP, hK, hD0⟩ := hv
  have hx := B.exec
  have hb := B.bytes
  have hr := B.returns
  have htg : ∀ w ∈ tp_G, w.before ([.ref a1, .int x7] : List Value).toArray s = true := fun w h => atoms_spec (ws := w_T_lines) B.pre w (List.mem_cons_of_mem _ h)
  have hown : s.vm.findClass "TwoPass" = some m.cls := findClass_of_methodNamed B.named
  have hlocks := B.notSynchronized
  subst hsz
  have hD := hD0.self (sz := s.heap.size)
  generalize hAe : va_A ((a1, .inr (0, [.ref a2, .ref a3, .ref a4, .int x5, .int x6])) :: fr) s.heap.size = A at hD hK ⊢
  have hA : ∀ q : Nat, s.heap.size ≤ q → A q := fun q h => by rw [← hAe]; exact Or.inr h
  have hS : va_S A s.heap s.heap [] := va_S.rf
  have hl := lv_entry ([.ref a1, .int x7]) (n := 2) (Nat.le_of_ble_eq_true rfl)
  rw [lg_entry_eq]
  generalize (lg_sl ([.ref a1, .int x7]) ++ List.replicate (2 - (lg_sl ([.ref a1, .int x7])).length) Slot.unset).toArray = ls at hl ⊢
  have hl : lv_has ls 2 [(0, .ref a1), (1, .int x7)] := hl
  refine lv_iload_n hx hb d_T_lines_0 rfl (lv_at hl 1 rfl) ?_
  refine tp_tv (tp_xS (As := [.int x7]) (rest := []) ⟨hx, hb, hml, hown, htg⟩ (c_T_requireModule_1 l hfl E ((a1, .inr (0, [.ref a2, .ref a3, .ref a4, .int x5, .int x6])) :: fr) _ x7 h1) (⟨callB_of 1 htg (tp_good0 kc_T_requireModule) rfl rfl rfl (htg _ ki_T) (htg _ kl_T_58) ⟨by decide, by decide, by decide +kernel⟩ ⟨Nat.le_of_ble_eq_true rfl, Nat.le_of_ble_eq_true rfl⟩, htg _ ks_T_requireModule⟩) hK hP hD hS hA rfl hl.1 rfl (Nat.le_of_ble_eq_true rfl) d_T_lines_1 ⟨Nat.le_of_ble_eq_true rfl, Nat.le_of_ble_eq_true rfl⟩) hD hS hA (fun ce q H locs hP hD hS hce hcv hcl => ?_)
  have hP : va_P (tp_D E) tp_cl ((a1, .inr (0, [.ref a2, .ref a3, .ref a4, .int x5, .int x6])) :: fr) H := hP
  have hD : va_D A ((a1, .inr (0, [.ref a2, .ref a3, .ref a4, .int x5, .int x6])) :: fr) := hD
  exact vx_out (fun x h => (htab x h).elim) hlocks hce hcv hcl (fun t ht hvm => ⟨(), trivial, ⟨rfl, by rw [ht]; exact hP, hD⟩, hS.F ht⟩) hS.2.2 (Nat.le_of_ble_eq_true rfl) (Nat.le_of_ble_eq_true rfl)
set_option maxHeartbeats 400000 in
set_option maxRecDepth 100000 in
theorem c_T_lines_2 (l : Launch) (hfl : l.stackTraces = false) (E : tp_Env) (fr : va_W) (sz : Nat) (a1 : Nat) (a2 : Nat) (a3 : Nat) (a4 : Nat) (x5 : Int32) (x6 : Int32) (x7 : Int32) (h1 : ¬ x7 < 0) (h2 : 2 ≤ x7) : vx_Met l y_T_lines w_T_lines ({ frames := 7, cells := 1, slots := 6, locals := 109 }) (va_Pc [.ref a1, .int x7] (tp_in E ((a1, .inr (0, [.ref a2, .ref a3, .ref a4, .int x5, .int x6])) :: fr) sz)) (va_Qi (fun (_ : Int32) (_ : Unit) => False) (fun _ _ => True) (va_A ((a1, .inr (0, [.ref a2, .ref a3, .ref a4, .int x5, .int x6])) :: fr) sz)) (vx_X (fun (_ : Unit) => True) (fun x _ t => x = "java/lang/IllegalArgumentException" ∧ tp_out E (va_A ((a1, .inr (0, [.ref a2, .ref a3, .ref a4, .int x5, .int x6])) :: fr) sz) ((a1, .inr (0, [.ref a2, .ref a3, .ref a4, .int x5, .int x6])) :: fr) t) (va_A ((a1, .inr (0, [.ref a2, .ref a3, .ref a4, .int x5, .int x6])) :: fr) sz)) 1 6 (va_A ((a1, .inr (0, [.ref a2, .ref a3, .ref a4, .int x5, .int x6])) :: fr) sz) := by
  refine vx_ofW (cc := b_T_lines) (maxL := 2) (ret := (some .int)) (by decide) rfl ?_
  intro p e s m args below meth c s₁ B hml htab hv
  obtain ⟨rfl, hsz, hP, hK, hD0⟩ := hv
  have hx := B.exec
  have hb := B.bytes
  have hr := B.returns
  have htg : ∀ w ∈ tp_G, w.before ([.ref a1, .int x7] : List Value).toArray s = true := fun w h => atoms_spec (ws := w_T_lines) B.pre w (List.mem_cons_of_mem _ h)
  have hown : s.vm.findClass "TwoPass" = some m.cls := findClass_of_methodNamed B.named
  have hlocks := B.notSynchronized
  subst hsz
  have hD := hD0.self (sz := s.heap.size)
  generalize hAe : va_A ((a1, .inr (0, [.ref a2, .ref a3, .ref a4, .int x5, .int x6])) :: fr) s.heap.size = A at hD hK ⊢
  have hA : ∀ q : Nat, s.heap.size ≤ q → A q := fun q h => by rw [← hAe]; exact Or.inr h
  have hS : va_S A s.heap s.heap [] := va_S.rf
  have hl := lv_entry ([.ref a1, .int x7]) (n := 2) (Nat.le_of_ble_eq_true rfl)
  rw [lg_entry_eq]
  generalize (lg_sl ([.ref a1, .int x7]) ++ List.replicate (2 - (lg_sl ([.ref a1, .int x7])).length) Slot.unset).toArray = ls at hl ⊢
  have hl : lv_has ls 2 [(0, .ref a1), (1, .int x7)] := hl
  refine lv_iload_n hx hb d_T_lines_0 rfl (lv_at hl 1 rfl) ?_
  refine tp_tv (tp_xS (As := [.int x7]) (rest := []) ⟨hx, hb, hml, hown, htg⟩ (c_T_requireModule_2 l hfl E ((a1, .inr (0, [.ref a2, .ref a3, .ref a4, .int x5, .int x6])) :: fr) _ x7 h1 h2) (⟨callB_of 1 htg (tp_good0 kc_T_requireModule) rfl rfl rfl (htg _ ki_T) (htg _ kl_T_58) ⟨by decide, by decide, by decide +kernel⟩ ⟨Nat.le_of_ble_eq_true rfl, Nat.le_of_ble_eq_true rfl⟩, htg _ ks_T_requireModule⟩) hK hP hD hS hA rfl hl.1 rfl (Nat.le_of_ble_eq_true rfl) d_T_lines_1 ⟨Nat.le_of_ble_eq_true rfl, Nat.le_of_ble_eq_true rfl⟩) hD hS hA (fun ce q H locs hP hD hS hce hcv hcl => ?_)
  have hP : va_P (tp_D E) tp_cl ((a1, .inr (0, [.ref a2, .ref a3, .ref a4, .int x5, .int x6])) :: fr) H := hP
  have hD : va_D A ((a1, .inr (0, [.ref a2, .ref a3, .ref a4, .int x5, .int x6])) :: fr) := hD
  exact vx_out (fun x h => (htab x h).elim) hlocks hce hcv hcl (fun t ht hvm => ⟨(), trivial, ⟨rfl, by rw [ht]; exact hP, hD⟩, hS.F ht⟩) hS.2.2 (Nat.le_of_ble_eq_true rfl) (Nat.le_of_ble_eq_true rfl)
set_option maxHeartbeats 400000 in
set_option maxRecDepth 100000 in
theorem c_AL_size_1 (l : Launch) (E : tp_Env) (fr : va_W) (sz : Nat) (a1 : Nat) (x2 : Int32) (x3 : Int32)  : Met l y_AL_size w_AL_size ({ frames := 0, cells := 0, slots := 0, locals := 0 }) (va_Pc [.ref a1] (tp_in E ((a1, .inr (5, [.int x2, .ref (tp_ad E 100), .int x3])) :: fr) sz)) (va_Qi (fun r (_ : Unit) => r = x3) (fun _ t => tp_out E (va_A ((a1, .inr (5, [.int x2, .ref (tp_ad E 100), .int x3])) :: fr) sz) ((a1, .inr (5, [.int x2, .ref (tp_ad E 100), .int x3])) :: fr) t) (va_A ((a1, .inr (5, [.int x2, .ref (tp_ad E 100), .int x3])) :: fr) sz)) 0 0 (va_A ((a1, .inr (5, [.int x2, .ref (tp_ad E 100), .int x3])) :: fr) sz) := by
  refine Met.ofW (cc := b_AL_size) (maxL := 1) (ret := (some .int)) (by decide) rfl ?_
  intro p e s m args below meth c s₁ B hml hv
  obtain ⟨rfl, hsz, hP, hK, hD0⟩ := hv
  have hx := B.exec
  have hb := B.bytes
  have hr := B.returns
  have htg : ∀ w ∈ tp_G, w.before ([.ref a1] : List Value).toArray s = true := fun w h => atoms_spec (ws := w_AL_size) B.pre w (List.mem_cons_of_mem _ h)
  have hown : s.vm.findClass "java/util/ArrayList" = some m.cls := findClass_of_methodNamed B.named
  have hlocks := B.notSynchronized
  subst hsz
  have hD := hD0.self (sz := s.heap.size)
  generalize hAe : va_A ((a1, .inr (5, [.int x2, .ref (tp_ad E 100), .int x3])) :: fr) s.heap.size = A at hD hK ⊢
  have hA : ∀ q : Nat, s.heap.size ≤ q → A q := fun q h => by rw [← hAe]; exact Or.inr h
  have hS : va_S A s.heap s.heap [] := va_S.rf
  have hl := lv_entry ([.ref a1]) (n := 1) (Nat.le_of_ble_eq_true rfl)
  rw [lg_entry_eq]
  generalize (lg_sl ([.ref a1]) ++ List.replicate (1 - (lg_sl ([.ref a1])).length) Slot.unset).toArray = ls at hl ⊢
  have hl : lv_has ls 1 [(0, .ref a1)] := hl
  refine lv_aload_n hx hb d_AL_size_0 rfl (lv_at hl 0 rfl) ?_
  refine va_get (D := tp_D E) (ci := 5) (v := .int x3) (C := qR_AL) (T := qF_AL) (N := 3) hx hb htg qi_AL hown hK.1 hP 0 rfl rfl 2 (by decide) (htg _ kl_AL_48) (fun _ h => h) rfl d_AL_size_1 ?_
  exact W.iret (v := x3) hx hb hr (fun t ht hW => ⟨⟨_, (), rfl, rfl, by rw [ht]; exact hP, hD⟩, hS.F ht⟩) hS.2.2 d_AL_size_4
set_option maxHeartbeats 400000 in
set_option maxRecDepth 100000 in
theorem c_S_count_1 (l : Launch) (E : tp_Env) (fr : va_W) (sz : Nat) (a1 : Nat) (a2 : Nat) (x3 : Int32) (x4 : Int32)  : Met l y_S_count w_S_count ({ frames := 1, cells := 0, slots := 0, locals := 20 }) (va_Pc [.ref a1] (tp_in E ((a1, .inr (2, [.ref a2])) :: (a2, .inr (5, [.int x3, .ref (tp_ad E 100), .int x4])) :: fr) sz)) (va_Qi (fun r (_ : Unit) => r = x4) (fun _ t => tp_out E (va_A ((a1, .inr (2, [.ref a2])) :: (a2, .inr (5, [.int x3, .ref (tp_ad E 100), .int x4])) :: fr) sz) ((a2, .inr (5, [.int x3, .ref (tp_ad E 100), .int x4])) :: (a1, .inr (2, [.ref a2])) :: fr) t) (va_A ((a1, .inr (2, [.ref a2])) :: (a2, .inr (5, [.int x3, .ref (tp_ad E 100), .int x4])) :: fr) sz)) 0 0 (va_A ((a1, .inr (2, [.ref a2])) :: (a2, .inr (5, [.int x3, .ref (tp_ad E 100), .int x4])) :: fr) sz) := by
  refine Met.ofW (cc := b_S_count) (maxL := 1) (ret := (some .int)) (by decide) rfl ?_
  intro p e s m args below meth c s₁ B hml hv
  obtain ⟨rfl, hsz, hP, hK, hD0⟩ := hv
  have hx := B.exec
  have hb := B.bytes
  have hr := B.returns
  have htg : ∀ w ∈ tp_G, w.before ([.ref a1] : List Value).toArray s = true := fun w h => atoms_spec (ws := w_S_count) B.pre w (List.mem_cons_of_mem _ h)
  have hown : s.vm.findClass "TwoPass$Source" = some m.cls := findClass_of_methodNamed B.named
  have hlocks := B.notSynchronized
  subst hsz
  have hD := hD0.self (sz := s.heap.size)
  generalize hAe : va_A ((a1, .inr (2, [.ref a2])) :: (a2, .inr (5, [.int x3, .ref (tp_ad E 100), .int x4])) :: fr) s.heap.size = A at hD hK ⊢
  have hA : ∀ q : Nat, s.heap.size ≤ q → A q := fun q h => by rw [← hAe]; exact Or.inr h
  have hS : va_S A s.heap s.heap [] := va_S.rf
  have hl := lv_entry ([.ref a1]) (n := 1) (Nat.le_of_ble_eq_true rfl)
  rw [lg_entry_eq]
  generalize (lg_sl ([.ref a1]) ++ List.replicate (1 - (lg_sl ([.ref a1])).length) Slot.unset).toArray = ls at hl ⊢
  have hl : lv_has ls 1 [(0, .ref a1)] := hl
  refine lv_aload_n hx hb d_S_count_0 rfl (lv_at hl 0 rfl) ?_
  refine va_get (D := tp_D E) (ci := 2) (v := .ref a2) (C := qR_S) (T := qF_S) (N := 1) hx hb htg qi_S hown hK.1 hP 0 rfl rfl 0 (by decide) (htg _ kl_S_12) (fun _ h => h) rfl d_S_count_1 ?_
  have hP : va_P (tp_D E) tp_cl ((a2, .inr (5, [.int x3, .ref (tp_ad E 100), .int x4])) :: (a1, .inr (2, [.ref a2])) :: fr) _ := tp_mvP 1 rfl hP
  have hD : va_D A ((a2, .inr (5, [.int x3, .ref (tp_ad E 100), .int x4])) :: (a1, .inr (2, [.ref a2])) :: fr) := tp_mvD 1 rfl hD
  refine tp_ci (tp_rV (As := []) (rest := []) ⟨hx, hb, hml, hown, htg⟩ (c_AL_size_1 l E ((a1, .inr (2, [.ref a2])) :: fr) _ a2 x3 x4 ) (⟨callB_of 0 htg (tp_good0 kc_AL_size) rfl rfl rfl (htg _ ki_AL) (htg _ kl_S_18) ⟨by decide, by decide, by decide +kernel⟩ ⟨Nat.le_of_ble_eq_true rfl, Nat.le_of_ble_eq_true rfl⟩, htg _ km_AL_size, htg _ kv_AL_AL_size⟩) (va_recv (ci := 5) (q0 := 0) hK.1 hP rfl rfl) hK hP hD hS hA rfl hl.1 rfl (Nat.le_of_ble_eq_true rfl) d_S_count_4 ⟨Nat.le_of_ble_eq_true rfl, Nat.le_of_ble_eq_true rfl⟩) hD hS hA (fun r u H locs hw hP hD hS => ?_)
  subst r
  have hP : va_P (tp_D E) tp_cl ((a2, .inr (5, [.int x3, .ref (tp_ad E 100), .int x4])) :: (a1, .inr (2, [.ref a2])) :: fr) H := hP
  have hD : va_D A ((a2, .inr (5, [.int x3, .ref (tp_ad E 100), .int x4])) :: (a1, .inr (2, [.ref a2])) :: fr) := hD
  exact W.iret (v := x4) hx hb hr (fun t ht hW => ⟨⟨_, (), rfl, rfl, by rw [ht]; exact hP, hD⟩, hS.F ht⟩) hS.2.2 d_S_count_7
set_option maxHeartbeats 400000 in
set_option maxRecDepth 100000 in
theorem c_T_lines_3 (l : Launch) (E : tp_Env) (fr : va_W) (sz : Nat) (a1 : Nat) (a2 : Nat) (a3 : Nat) (a4 : Nat) (x5 : Int32) (x6 : Int32) (x7 : Int32) (f8 : Nat → Option Nat) (a9 : Nat) (a10 : Nat) (a11 : Nat) (x12 : Int32) (x13 : Int32) (h1 : ¬ x7 < 0) (h2 : ¬ 2 ≤ x7) (h3 : f8 0 = some a9) (h4 : f8 1 = some a10) (h5 : x7 = 0) : Met l y_T_lines w_T_lines ({ frames := 2, cells := 0, slots := 0, locals := 40 }) (va_Pc [.ref a1, .int x7] (tp_in E ((a1, .inr (0, [.ref a2, .ref a3, .ref a4, .int x5, .int x6])) :: (a3, .inl (tp_ty E 6, 2, .inr (.inr (.inr (.inr f8))))) :: (a9, .inr (2, [.ref a11])) :: (a11, .inr (5, [.int x12, .ref (tp_ad E 100), .int x13])) :: fr) sz)) (va_Qi (fun r (_ : Unit) => r = x13) (fun _ t => tp_out E (va_A ((a1, .inr (0, [.ref a2, .ref a3, .ref a4, .int x5, .int x6])) :: (a3, .inl (tp_ty E 6, 2, .inr (.inr (.inr (.inr f8))))) :: (a9, .inr (2, [.ref a11])) :: (a11, .inr (5, [.int x12, .ref (tp_ad E 100), .int x13])) :: fr) sz) ((a11, .inr (5, [.int x12, .ref (tp_ad E 100), .int x13])) :: (a9, .inr (2, [.ref a11])) :: (a1, .inr (0, [.ref a2, .ref a3, .ref a4, .int x5, .int x6])) :: (a3, .inl (tp_ty E 6, 2, .inr (.inr (.inr (.inr f8))))) :: fr) t) (va_A ((a1, .inr (0, [.ref a2, .ref a3, .ref a4, .int x5, .int x6])) :: (a3, .inl (tp_ty E 6, 2, .inr (.inr (.inr (.inr f8))))) :: (a9, .inr (2, [.ref a11])) :: (a11, .inr (5, [.int x12, .ref (tp_ad E 100), .int x13])) :: fr) sz)) 0 0 (va_A ((a1, .inr (0, [.ref a2, .ref a3, .ref a4, .int x5, .int x6])) :: (a3, .inl (tp_ty E 6, 2, .inr (.inr (.inr (.inr f8))))) :: (a9, .inr (2, [.ref a11])) :: (a11, .inr (5, [.int x12, .ref (tp_ad E 100), .int x13])) :: fr) sz) := by
  refine Met.ofW (cc := b_T_lines) (maxL := 2) (ret := (some .int)) (by decide) rfl ?_
  intro p e s m args below meth c s₁ B hml hv
  obtain ⟨rfl, hsz, hP, hK, hD0⟩ := hv
  have hx := B.exec
  have hb := B.bytes
  have hr := B.returns
  have htg : ∀ w ∈ tp_G, w.before ([.ref a1, .int x7] : List Value).toArray s = true := fun w h => atoms_spec (ws := w_T_lines) B.pre w (List.mem_cons_of_mem _ h)
  have hown : s.vm.findClass "TwoPass" = some m.cls := findClass_of_methodNamed B.named
  have hlocks := B.notSynchronized
  subst hsz
  have hD := hD0.self (sz := s.heap.size)
  generalize hAe : va_A ((a1, .inr (0, [.ref a2, .ref a3, .ref a4, .int x5, .int x6])) :: (a3, .inl (tp_ty E 6, 2, .inr (.inr (.inr (.inr f8))))) :: (a9, .inr (2, [.ref a11])) :: (a11, .inr (5, [.int x12, .ref (tp_ad E 100), .int x13])) :: fr) s.heap.size = A at hD hK ⊢
  have hA : ∀ q : Nat, s.heap.size ≤ q → A q := fun q h => by rw [← hAe]; exact Or.inr h
  have hS : va_S A s.heap s.heap [] := va_S.rf
  have hl := lv_entry ([.ref a1, .int x7]) (n := 2) (Nat.le_of_ble_eq_true rfl)
  rw [lg_entry_eq]
  generalize (lg_sl ([.ref a1, .int x7]) ++ List.replicate (2 - (lg_sl ([.ref a1, .int x7])).length) Slot.unset).toArray = ls at hl ⊢
  have hl : lv_has ls 2 [(0, .ref a1), (1, .int x7)] := hl
  refine lv_iload_n hx hb d_T_lines_0 rfl (lv_at hl 1 rfl) ?_
  refine tp_cv (tp_rS (As := [.int x7]) (rest := []) ⟨hx, hb, hml, hown, htg⟩ (c_T_requireModule_3 l E ((a1, .inr (0, [.ref a2, .ref a3, .ref a4, .int x5, .int x6])) :: (a3, .inl (tp_ty E 6, 2, .inr (.inr (.inr (.inr f8))))) :: (a9, .inr (2, [.ref a11])) :: (a11, .inr (5, [.int x12, .ref (tp_ad E 100), .int x13])) :: fr) _ x7 h1 h2) (⟨callB_of 1 htg (tp_good0 kc_T_requireModule) rfl rfl rfl (htg _ ki_T) (htg _ kl_T_58) ⟨by decide, by decide, by decide +kernel⟩ ⟨Nat.le_of_ble_eq_true rfl, Nat.le_of_ble_eq_true rfl⟩, htg _ ks_T_requireModule⟩) hK hP hD hS hA rfl hl.1 rfl (Nat.le_of_ble_eq_true rfl) d_T_lines_1 ⟨Nat.le_of_ble_eq_true rfl, Nat.le_of_ble_eq_true rfl⟩) hD hS hA (fun u H locs _ hP hD hS => ?_)
  have hP : va_P (tp_D E) tp_cl ((a1, .inr (0, [.ref a2, .ref a3, .ref a4, .int x5, .int x6])) :: (a3, .inl (tp_ty E 6, 2, .inr (.inr (.inr (.inr f8))))) :: (a9, .inr (2, [.ref a11])) :: (a11, .inr (5, [.int x12, .ref (tp_ad E 100), .int x13])) :: fr) H := hP
  have hD : va_D A ((a1, .inr (0, [.ref a2, .ref a3, .ref a4, .int x5, .int x6])) :: (a3, .inl (tp_ty E 6, 2, .inr (.inr (.inr (.inr f8))))) :: (a9, .inr (2, [.ref a11])) :: (a11, .inr (5, [.int x12, .ref (tp_ad E 100), .int x13])) :: fr) := hD
  refine lv_aload_n hx hb d_T_lines_4 rfl (lv_at hl 0 rfl) ?_
  refine va_get (D := tp_D E) (ci := 0) (v := .ref a3) (C := qR_T) (T := qF_T) (N := 5) hx hb htg qi_T hown hK.1 hP 0 rfl rfl 1 (by decide) (htg _ kl_T_19) (fun _ h => h) rfl d_T_lines_5 ?_
  refine lv_iload_n hx hb d_T_lines_8 rfl (lv_at hl 1 rfl) ?_
  refine va_aldq (D := tp_D E) hx hb hK.1 hP 1 6 rfl rfl (tp_vin (k := 2) h1 h2 (by decide) (by decide)) d_T_lines_9 ?_
  refine tp_topr (k := 0) (a := a9) (by rw [h5]; rfl) h3 ?_
  have hP : va_P (tp_D E) tp_cl ((a11, .inr (5, [.int x12, .ref (tp_ad E 100), .int x13])) :: (a1, .inr (0, [.ref a2, .ref a3, .ref a4, .int x5, .int x6])) :: (a3, .inl (tp_ty E 6, 2, .inr (.inr (.inr (.inr f8))))) :: (a9, .inr (2, [.ref a11])) :: fr) _ := tp_mvP 3 rfl hP
  have hD : va_D A ((a11, .inr (5, [.int x12, .ref (tp_ad E 100), .int x13])) :: (a1, .inr (0, [.ref a2, .ref a3, .ref a4, .int x5, .int x6])) :: (a3, .inl (tp_ty E 6, 2, .inr (.inr (.inr (.inr f8))))) :: (a9, .inr (2, [.ref a11])) :: fr) := tp_mvD 3 rfl hD
  have hP : va_P (tp_D E) tp_cl ((a9, .inr (2, [.ref a11])) :: (a11, .inr (5, [.int x12, .ref (tp_ad E 100), .int x13])) :: (a1, .inr (0, [.ref a2, .ref a3, .ref a4, .int x5, .int x6])) :: (a3, .inl (tp_ty E 6, 2, .inr (.inr (.inr (.inr f8))))) :: fr) _ := tp_mvP 3 rfl hP
  have hD : va_D A ((a9, .inr (2, [.ref a11])) :: (a11, .inr (5, [.int x12, .ref (tp_ad E 100), .int x13])) :: (a1, .inr (0, [.ref a2, .ref a3, .ref a4, .int x5, .int x6])) :: (a3, .inl (tp_ty E 6, 2, .inr (.inr (.inr (.inr f8))))) :: fr) := tp_mvD 3 rfl hD
  refine tp_ci (tp_rV (As := []) (rest := []) ⟨hx, hb, hml, hown, htg⟩ (c_S_count_1 l E ((a1, .inr (0, [.ref a2, .ref a3, .ref a4, .int x5, .int x6])) :: (a3, .inl (tp_ty E 6, 2, .inr (.inr (.inr (.inr f8))))) :: fr) _ a9 a11 x12 x13 ) (⟨callB_of 0 htg (tp_good0 kc_S_count) rfl rfl rfl (htg _ ki_S) (htg _ kl_T_66) ⟨by decide, by decide, by decide +kernel⟩ ⟨Nat.le_of_ble_eq_true rfl, Nat.le_of_ble_eq_true rfl⟩, htg _ km_S_count, htg _ kv_S_S_count⟩) (va_recv (ci := 2) (q0 := 0) hK.1 hP rfl rfl) hK hP hD hS hA rfl hl.1 rfl (Nat.le_of_ble_eq_true rfl) d_T_lines_10 ⟨Nat.le_of_ble_eq_true rfl, Nat.le_of_ble_eq_true rfl⟩) hD hS hA (fun r u H locs hw hP hD hS => ?_)
  subst r
  have hP : va_P (tp_D E) tp_cl ((a11, .inr (5, [.int x12, .ref (tp_ad E 100), .int x13])) :: (a9, .inr (2, [.ref a11])) :: (a1, .inr (0, [.ref a2, .ref a3, .ref a4, .int x5, .int x6])) :: (a3, .inl (tp_ty E 6, 2, .inr (.inr (.inr (.inr f8))))) :: fr) H := hP
  have hD : va_D A ((a11, .inr (5, [.int x12, .ref (tp_ad E 100), .int x13])) :: (a9, .inr (2, [.ref a11])) :: (a1, .inr (0, [.ref a2, .ref a3, .ref a4, .int x5, .int x6])) :: (a3, .inl (tp_ty E 6, 2, .inr (.inr (.inr (.inr f8))))) :: fr) := hD
  exact W.iret (v := x13) hx hb hr (fun t ht hW => ⟨⟨_, (), rfl, rfl, by rw [ht]; exact hP, hD⟩, hS.F ht⟩) hS.2.2 d_T_lines_13
set_option maxHeartbeats 400000 in
set_option maxRecDepth 100000 in
theorem c_T_lines_4 (l : Launch) (E : tp_Env) (fr : va_W) (sz : Nat) (a1 : Nat) (a2 : Nat) (a3 : Nat) (a4 : Nat) (x5 : Int32) (x6 : Int32) (x7 : Int32) (f8 : Nat → Option Nat) (a9 : Nat) (a10 : Nat) (a11 : Nat) (x12 : Int32) (x13 : Int32) (h1 : ¬ x7 < 0) (h2 : ¬ 2 ≤ x7) (h3 : f8 0 = some a9) (h4 : f8 1 = some a10) (h5 : ¬ x7 = 0) : Met l y_T_lines w_T_lines ({ frames := 2, cells := 0, slots := 0, locals := 40 }) (va_Pc [.ref a1, .int x7] (tp_in E ((a1, .inr (0, [.ref a2, .ref a3, .ref a4, .int x5, .int x6])) :: (a3, .inl (tp_ty E 6, 2, .inr (.inr (.inr (.inr f8))))) :: (a10, .inr (2, [.ref a11])) :: (a11, .inr (5, [.int x12, .ref (tp_ad E 100), .int x13])) :: fr) sz)) (va_Qi (fun r (_ : Unit) => r = x13) (fun _ t => tp_out E (va_A ((a1, .inr (0, [.ref a2, .ref a3, .ref a4, .int x5, .int x6])) :: (a3, .inl (tp_ty E 6, 2, .inr (.inr (.inr (.inr f8))))) :: (a10, .inr (2, [.ref a11])) :: (a11, .inr (5, [.int x12, .ref (tp_ad E 100), .int x13])) :: fr) sz) ((a11, .inr (5, [.int x12, .ref (tp_ad E 100), .int x13])) :: (a10, .inr (2, [.ref a11])) :: (a1, .inr (0, [.ref a2, .ref a3, .ref a4, .int x5, .int x6])) :: (a3, .inl (tp_ty E 6, 2, .inr (.inr (.inr (.inr f8))))) :: fr) t) (va_A ((a1, .inr (0, [.ref a2, .ref a3, .ref a4, .int x5, .int x6])) :: (a3, .inl (tp_ty E 6, 2, .inr (.inr (.inr (.inr f8))))) :: (a10, .inr (2, [.ref a11])) :: (a11, .inr (5, [.int x12, .ref (tp_ad E 100), .int x13])) :: fr) sz)) 0 0 (va_A ((a1, .inr (0, [.ref a2, .ref a3, .ref a4, .int x5, .int x6])) :: (a3, .inl (tp_ty E 6, 2, .inr (.inr (.inr (.inr f8))))) :: (a10, .inr (2, [.ref a11])) :: (a11, .inr (5, [.int x12, .ref (tp_ad E 100), .int x13])) :: fr) sz) := by
  refine Met.ofW (cc := b_T_lines) (maxL := 2) (ret := (some .int)) (by decide) rfl ?_
  intro p e s m args below meth c s₁ B hml hv
  obtain ⟨rfl, hsz, hP, hK, hD0⟩ := hv
  have hx := B.exec
  have hb := B.bytes
  have hr := B.returns
  have htg : ∀ w ∈ tp_G, w.before ([.ref a1, .int x7] : List Value).toArray s = true := fun w h => atoms_spec (ws := w_T_lines) B.pre w (List.mem_cons_of_mem _ h)
  have hown : s.vm.findClass "TwoPass" = some m.cls := findClass_of_methodNamed B.named
  have hlocks := B.notSynchronized
  subst hsz
  have hD := hD0.self (sz := s.heap.size)
  generalize hAe : va_A ((a1, .inr (0, [.ref a2, .ref a3, .ref a4, .int x5, .int x6])) :: (a3, .inl (tp_ty E 6, 2, .inr (.inr (.inr (.inr f8))))) :: (a10, .inr (2, [.ref a11])) :: (a11, .inr (5, [.int x12, .ref (tp_ad E 100), .int x13])) :: fr) s.heap.size = A at hD hK ⊢
  have hA : ∀ q : Nat, s.heap.size ≤ q → A q := fun q h => by rw [← hAe]; exact Or.inr h
  have hS : va_S A s.heap s.heap [] := va_S.rf
  have hl := lv_entry ([.ref a1, .int x7]) (n := 2) (Nat.le_of_ble_eq_true rfl)
  rw [lg_entry_eq]
  generalize (lg_sl ([.ref a1, .int x7]) ++ List.replicate (2 - (lg_sl ([.ref a1, .int x7])).length) Slot.unset).toArray = ls at hl ⊢
  have hl : lv_has ls 2 [(0, .ref a1), (1, .int x7)] := hl
  refine lv_iload_n hx hb d_T_lines_0 rfl (lv_at hl 1 rfl) ?_
  refine tp_cv (tp_rS (As := [.int x7]) (rest := []) ⟨hx, hb, hml, hown, htg⟩ (c_T_requireModule_3 l E ((a1, .inr (0, [.ref a2, .ref a3, .ref a4, .int x5, .int x6])) :: (a3, .inl (tp_ty E 6, 2, .inr (.inr (.inr (.inr f8))))) :: (a10, .inr (2, [.ref a11])) :: (a11, .inr (5, [.int x12, .ref (tp_ad E 100), .int x13])) :: fr) _ x7 h1 h2) (⟨callB_of 1 htg (tp_good0 kc_T_requireModule) rfl rfl rfl (htg _ ki_T) (htg _ kl_T_58) ⟨by decide, by decide, by decide +kernel⟩ ⟨Nat.le_of_ble_eq_true rfl, Nat.le_of_ble_eq_true rfl⟩, htg _ ks_T_requireModule⟩) hK hP hD hS hA rfl hl.1 rfl (Nat.le_of_ble_eq_true rfl) d_T_lines_1 ⟨Nat.le_of_ble_eq_true rfl, Nat.le_of_ble_eq_true rfl⟩) hD hS hA (fun u H locs _ hP hD hS => ?_)
  have hP : va_P (tp_D E) tp_cl ((a1, .inr (0, [.ref a2, .ref a3, .ref a4, .int x5, .int x6])) :: (a3, .inl (tp_ty E 6, 2, .inr (.inr (.inr (.inr f8))))) :: (a10, .inr (2, [.ref a11])) :: (a11, .inr (5, [.int x12, .ref (tp_ad E 100), .int x13])) :: fr) H := hP
  have hD : va_D A ((a1, .inr (0, [.ref a2, .ref a3, .ref a4, .int x5, .int x6])) :: (a3, .inl (tp_ty E 6, 2, .inr (.inr (.inr (.inr f8))))) :: (a10, .inr (2, [.ref a11])) :: (a11, .inr (5, [.int x12, .ref (tp_ad E 100), .int x13])) :: fr) := hD
  refine lv_aload_n hx hb d_T_lines_4 rfl (lv_at hl 0 rfl) ?_
  refine va_get (D := tp_D E) (ci := 0) (v := .ref a3) (C := qR_T) (T := qF_T) (N := 5) hx hb htg qi_T hown hK.1 hP 0 rfl rfl 1 (by decide) (htg _ kl_T_19) (fun _ h => h) rfl d_T_lines_5 ?_
  refine lv_iload_n hx hb d_T_lines_8 rfl (lv_at hl 1 rfl) ?_
  refine va_aldq (D := tp_D E) hx hb hK.1 hP 1 6 rfl rfl (tp_vin (k := 2) h1 h2 (by decide) (by decide)) d_T_lines_9 ?_
  refine tp_topr (k := 1) (a := a10) (by rw [tp_one h1 h2 h5]; rfl) h4 ?_
  have hP : va_P (tp_D E) tp_cl ((a11, .inr (5, [.int x12, .ref (tp_ad E 100), .int x13])) :: (a1, .inr (0, [.ref a2, .ref a3, .ref a4, .int x5, .int x6])) :: (a3, .inl (tp_ty E 6, 2, .inr (.inr (.inr (.inr f8))))) :: (a10, .inr (2, [.ref a11])) :: fr) _ := tp_mvP 3 rfl hP
  have hD : va_D A ((a11, .inr (5, [.int x12, .ref (tp_ad E 100), .int x13])) :: (a1, .inr (0, [.ref a2, .ref a3, .ref a4, .int x5, .int x6])) :: (a3, .inl (tp_ty E 6, 2, .inr (.inr (.inr (.inr f8))))) :: (a10, .inr (2, [.ref a11])) :: fr) := tp_mvD 3 rfl hD
  have hP : va_P (tp_D E) tp_cl ((a10, .inr (2, [.ref a11])) :: (a11, .inr (5, [.int x12, .ref (tp_ad E 100), .int x13])) :: (a1, .inr (0, [.ref a2, .ref a3, .ref a4, .int x5, .int x6])) :: (a3, .inl (tp_ty E 6, 2, .inr (.inr (.inr (.inr f8))))) :: fr) _ := tp_mvP 3 rfl hP
  have hD : va_D A ((a10, .inr (2, [.ref a11])) :: (a11, .inr (5, [.int x12, .ref (tp_ad E 100), .int x13])) :: (a1, .inr (0, [.ref a2, .ref a3, .ref a4, .int x5, .int x6])) :: (a3, .inl (tp_ty E 6, 2, .inr (.inr (.inr (.inr f8))))) :: fr) := tp_mvD 3 rfl hD
  refine tp_ci (tp_rV (As := []) (rest := []) ⟨hx, hb, hml, hown, htg⟩ (c_S_count_1 l E ((a1, .inr (0, [.ref a2, .ref a3, .ref a4, .int x5, .int x6])) :: (a3, .inl (tp_ty E 6, 2, .inr (.inr (.inr (.inr f8))))) :: fr) _ a10 a11 x12 x13 ) (⟨callB_of 0 htg (tp_good0 kc_S_count) rfl rfl rfl (htg _ ki_S) (htg _ kl_T_66) ⟨by decide, by decide, by decide +kernel⟩ ⟨Nat.le_of_ble_eq_true rfl, Nat.le_of_ble_eq_true rfl⟩, htg _ km_S_count, htg _ kv_S_S_count⟩) (va_recv (ci := 2) (q0 := 0) hK.1 hP rfl rfl) hK hP hD hS hA rfl hl.1 rfl (Nat.le_of_ble_eq_true rfl) d_T_lines_10 ⟨Nat.le_of_ble_eq_true rfl, Nat.le_of_ble_eq_true rfl⟩) hD hS hA (fun r u H locs hw hP hD hS => ?_)
  subst r
  have hP : va_P (tp_D E) tp_cl ((a11, .inr (5, [.int x12, .ref (tp_ad E 100), .int x13])) :: (a10, .inr (2, [.ref a11])) :: (a1, .inr (0, [.ref a2, .ref a3, .ref a4, .int x5, .int x6])) :: (a3, .inl (tp_ty E 6, 2, .inr (.inr (.inr (.inr f8))))) :: fr) H := hP
  have hD : va_D A ((a11, .inr (5, [.int x12, .ref (tp_ad E 100), .int x13])) :: (a10, .inr (2, [.ref a11])) :: (a1, .inr (0, [.ref a2, .ref a3, .ref a4, .int x5, .int x6])) :: (a3, .inl (tp_ty E 6, 2, .inr (.inr (.inr (.inr f8))))) :: fr) := hD
  exact W.iret (v := x13) hx hb hr (fun t ht hW => ⟨⟨_, (), rfl, rfl, by rw [ht]; exact hP, hD⟩, hS.F ht⟩) hS.2.2 d_T_lines_13
set_option maxHeartbeats 400000 in
set_option maxRecDepth 100000 in
theorem c_T_requireImage_1 (l : Launch) (hfl : l.stackTraces = false) (E : tp_Env) (fr : va_W) (sz : Nat) (a1 : Nat) (a2 : Nat) (a3 : Nat) (a4 : Nat) (x5 : Int32) (x6 : Int32) (h1 : x5 = 0) : vx_Met l y_T_requireImage w_T_requireImage ({ frames := 6, cells := 1, slots := 6, locals := 89 }) (va_Pc [.ref a1] (tp_in E ((a1, .inr (0, [.ref a2, .ref a3, .ref a4, .int x5, .int x6])) :: fr) sz)) (va_Qv (fun (_ : Unit) => False) (fun _ _ => True) (va_A ((a1, .inr (0, [.ref a2, .ref a3, .ref a4, .int x5, .int x6])) :: fr) sz)) (vx_X (fun (_ : Unit) => True) (fun x _ t => x = "java/lang/IllegalStateException" ∧ tp_out E (va_A ((a1, .inr (0, [.ref a2, .ref a3, .ref a4, .int x5, .int x6])) :: fr) sz) ((a1, .inr (0, [.ref a2, .ref a3, .ref a4, .int x5, .int x6])) :: fr) t) (va_A ((a1, .inr (0, [.ref a2, .ref a3, .ref a4, .int x5, .int x6])) :: fr) sz)) 1 6 (va_A ((a1, .inr (0, [.ref a2, .ref a3, .ref a4, .int x5, .int x6])) :: fr) sz) := by
  refine vx_ofW (cc := b_T_requireImage) (maxL := 1) (ret := none) (by decide) rfl ?_
  intro p e s m args below meth c s₁ B hml htab hv
  obtain ⟨rfl, hsz, hP, hK, hD0⟩ := hv
  have hx := B.exec
  have hb := B.bytes
  have hr := B.returns
  have htg : ∀ w ∈ tp_G, w.before ([.ref a1] : List Value).toArray s = true := fun w h => atoms_spec (ws := w_T_requireImage) B.pre w (List.mem_cons_of_mem _ h)
  have hown : s.vm.findClass "TwoPass" = some m.cls := findClass_of_methodNamed B.named
  have hlocks := B.notSynchronized
  subst hsz
  have hD := hD0.self (sz := s.heap.size)
  generalize hAe : va_A ((a1, .inr (0, [.ref a2, .ref a3, .ref a4, .int x5, .int x6])) :: fr) s.heap.size = A at hD hK ⊢
  have hA : ∀ q : Nat, s.heap.size ≤ q → A q := fun q h => by rw [← hAe]; exact Or.inr h
  have hS : va_S A s.heap s.heap [] := va_S.rf
  have hl := lv_entry ([.ref a1]) (n := 1) (Nat.le_of_ble_eq_true rfl)
  rw [lg_entry_eq]
  generalize (lg_sl ([.ref a1]) ++ List.replicate (1 - (lg_sl ([.ref a1])).length) Slot.unset).toArray = ls at hl ⊢
  have hl : lv_has ls 1 [(0, .ref a1)] := hl
  refine lv_aload_n hx hb d_T_requireImage_0 rfl (lv_at hl 0 rfl) ?_
  refine va_get (D := tp_D E) (ci := 0) (v := .int x5) (C := qR_T) (T := qF_T) (N := 5) hx hb htg qi_T hown hK.1 hP 0 rfl rfl 3 (by decide) (htg _ kl_T_30) (fun _ h => h) rfl d_T_requireImage_1 ?_
  refine lv_if_ne (tgt := 15) hx hb d_T_requireImage_4 (by decide) (fun h => absurd h1 h) (fun _ => ?_)
  exact vx_throw0 (own := "TwoPass") (cls := "java/lang/IllegalStateException") (names := ["java/lang/RuntimeException", "java/lang/Exception"]) (ik := 48) (ic := 50) hx hb hfl hown (by decide +kernel) (by decide +kernel) (htg _ kl_T_48) (htg _ kx_IllegalStateException) (kxa_T_50 htg hK.2.2.2.1) kxg_T_50 hK.2.1 hK.2.2.1 hS (hl.1.trans hml.symm) d_T_requireImage_7 d_T_requireImage_10 d_T_requireImage_11 d_T_requireImage_14 (fun x h => (htab x h).elim) (Nat.le_of_ble_eq_true rfl) (Nat.le_of_ble_eq_true rfl) (Nat.le_of_ble_eq_true rfl) (Nat.le_of_ble_eq_true rfl) hlocks (fun t hvm hz hq => ⟨(), trivial, ⟨rfl, hP.kept (fun k q hk => hq _ (vx_lt hP hk)), hD⟩, ⟨Nat.le_trans hS.1 hz, fun q h1 h2 => (hq q (Nat.lt_of_lt_of_le h1 hS.1)).trans (hS.2.1 q h1 h2)⟩⟩) hS.2.2 (Nat.le_of_ble_eq_true rfl) (Nat.le_of_ble_eq_true rfl)
set_option maxHeartbeats 400000 in
set_option maxRecDepth 100000 in
theorem c_T_far_1 (l : Launch) (hfl : l.stackTraces = false) (E : tp_Env) (fr : va_W) (sz : Nat) (a1 : Nat) (a2 : Nat) (a3 : Nat) (a4 : Nat) (x5 : Int32) (x6 : Int32) (h1 : x5 = 0) : vx_Met l y_T_far w_T_far ({ frames := 7, cells := 1, slots := 6, locals := 109 }) (va_Pc [.ref a1] (tp_in E ((a1, .inr (0, [.ref a2, .ref a3, .ref a4, .int x5, .int x6])) :: fr) sz)) (va_Qi (fun (_ : Int32) (_ : Unit) => False) (fun _ _ => True) (va_A ((a1, .inr (0, [.ref a2, .ref a3, .ref a4, .int x5, .int x6])) :: fr) sz)) (vx_X (fun (_ : Unit) => True) (fun x _ t => x = "java/lang/IllegalStateException" ∧ tp_out E (va_A ((a1, .inr (0, [.ref a2, .ref a3, .ref a4, .int x5, .int x6])) :: fr) sz) ((a1, .inr (0, [.ref a2, .ref a3, .ref a4, .int x5, .int x6])) :: fr) t) (va_A ((a1, .inr (0, [.ref a2, .ref a3, .ref a4, .int x5, .int x6])) :: fr) sz)) 1 6 (va_A ((a1, .inr (0, [.ref a2, .ref a3, .ref a4, .int x5, .int x6])) :: fr) sz) := by
  refine vx_ofW (cc := b_T_far) (maxL := 4) (ret := (some .int)) (by decide) rfl ?_
  intro p e s m args below meth c s₁ B hml htab hv
  obtain ⟨rfl, hsz, hP, hK, hD0⟩ := hv
  have hx := B.exec
  have hb := B.bytes
  have hr := B.returns
  have htg : ∀ w ∈ tp_G, w.before ([.ref a1] : List Value).toArray s = true := fun w h => atoms_spec (ws := w_T_far) B.pre w (List.mem_cons_of_mem _ h)
  have hown : s.vm.findClass "TwoPass" = some m.cls := findClass_of_methodNamed B.named
  have hlocks := B.notSynchronized
  subst hsz
  have hD := hD0.self (sz := s.heap.size)
  generalize hAe : va_A ((a1, .inr (0, [.ref a2, .ref a3, .ref a4, .int x5, .int x6])) :: fr) s.heap.size = A at hD hK ⊢
  have hA : ∀ q : Nat, s.heap.size ≤ q → A q := fun q h => by rw [← hAe]; exact Or.inr h
  have hS : va_S A s.heap s.heap [] := va_S.rf
  have hl := lv_entry ([.ref a1]) (n := 4) (Nat.le_of_ble_eq_true rfl)
  rw [lg_entry_eq]
  generalize (lg_sl ([.ref a1]) ++ List.replicate (4 - (lg_sl ([.ref a1])).length) Slot.unset).toArray = ls at hl ⊢
  have hl : lv_has ls 4 [(0, .ref a1)] := hl
  refine lv_aload_n hx hb d_T_far_0 rfl (lv_at hl 0 rfl) ?_
  refine tp_tv (tp_xV (As := []) (rest := []) ⟨hx, hb, hml, hown, htg⟩ (c_T_requireImage_1 l hfl E fr _ a1 a2 a3 a4 x5 x6 h1) (⟨callB_of 0 htg (tp_good0 kc_T_requireImage) rfl rfl rfl (htg _ ki_T) (htg _ kl_T_105) ⟨by decide, by decide, by decide +kernel⟩ ⟨Nat.le_of_ble_eq_true rfl, Nat.le_of_ble_eq_true rfl⟩, htg _ km_T_requireImage, htg _ kp_T_requireImage⟩) (va_recv (ci := 0) (q0 := 0) hK.1 hP rfl rfl) hK hP hD hS hA rfl hl.1 rfl (Nat.le_of_ble_eq_true rfl) d_T_far_1 ⟨Nat.le_of_ble_eq_true rfl, Nat.le_of_ble_eq_true rfl⟩) hD hS hA (fun ce q H locs hP hD hS hce hcv hcl => ?_)
  have hP : va_P (tp_D E) tp_cl ((a1, .inr (0, [.ref a2, .ref a3, .ref a4, .int x5, .int x6])) :: fr) H := hP
  have hD : va_D A ((a1, .inr (0, [.ref a2, .ref a3, .ref a4, .int x5, .int x6])) :: fr) := hD
  exact vx_out (fun x h => (htab x h).elim) hlocks hce hcv hcl (fun t ht hvm => ⟨(), trivial, ⟨rfl, by rw [ht]; exact hP, hD⟩, hS.F ht⟩) hS.2.2 (Nat.le_of_ble_eq_true rfl) (Nat.le_of_ble_eq_true rfl)
set_option maxHeartbeats 400000 in
set_option maxRecDepth 100000 in
theorem c_T_image_1 (l : Launch) (hfl : l.stackTraces = false) (E : tp_Env) (fr : va_W) (sz : Nat) (a1 : Nat) (a2 : Nat) (a3 : Nat) (a4 : Nat) (x5 : Int32) (x6 : Int32) (x7 : Int32) (h1 : x5 = 0) : vx_Met l y_T_image w_T_image ({ frames := 7, cells := 1, slots := 6, locals := 109 }) (va_Pc [.ref a1, .int x7] (tp_in E ((a1, .inr (0, [.ref a2, .ref a3, .ref a4, .int x5, .int x6])) :: fr) sz)) (va_Qi (fun (_ : Int32) (_ : Unit) => False) (fun _ _ => True) (va_A ((a1, .inr (0, [.ref a2, .ref a3, .ref a4, .int x5, .int x6])) :: fr) sz)) (vx_X (fun (_ : Unit) => True) (fun x _ t => x = "java/lang/IllegalStateException" ∧ tp_out E (va_A ((a1, .inr (0, [.ref a2, .ref a3, .ref a4, .int x5, .int x6])) :: fr) sz) ((a1, .inr (0, [.ref a2, .ref a3, .ref a4, .int x5, .int x6])) :: fr) t) (va_A ((a1, .inr (0, [.ref a2, .ref a3, .ref a4, .int x5, .int x6])) :: fr) sz)) 1 6 (va_A ((a1, .inr (0, [.ref a2, .ref a3, .ref a4, .int x5, .int x6])) :: fr) sz) := by
  refine vx_ofW (cc := b_T_image) (maxL := 5) (ret := (some .int)) (by decide) rfl ?_
  intro p e s m args below meth c s₁ B hml htab hv
  obtain ⟨rfl, hsz, hP, hK, hD0⟩ := hv
  have hx := B.exec
  have hb := B.bytes
  have hr := B.returns
  have htg : ∀ w ∈ tp_G, w.before ([.ref a1, .int x7] : List Value).toArray s = true := fun w h => atoms_spec (ws := w_T_image) B.pre w (List.mem_cons_of_mem _ h)
  have hown : s.vm.findClass "TwoPass" = some m.cls := findClass_of_methodNamed B.named
  have hlocks := B.notSynchronized
  subst hsz
  have hD := hD0.self (sz := s.heap.size)
  generalize hAe : va_A ((a1, .inr (0, [.ref a2, .ref a3, .ref a4, .int x5, .int x6])) :: fr) s.heap.size = A at hD hK ⊢
  have hA : ∀ q : Nat, s.heap.size ≤ q → A q := fun q h => by rw [← hAe]; exact Or.inr h
  have hS : va_S A s.heap s.heap [] := va_S.rf
  have hl := lv_entry ([.ref a1, .int x7]) (n := 5) (Nat.le_of_ble_eq_true rfl)
  rw [lg_entry_eq]
  generalize (lg_sl ([.ref a1, .int x7]) ++ List.replicate (5 - (lg_sl ([.ref a1, .int x7])).length) Slot.unset).toArray = ls at hl ⊢
  have hl : lv_has ls 5 [(0, .ref a1), (1, .int x7)] := hl
  refine lv_aload_n hx hb d_T_image_0 rfl (lv_at hl 0 rfl) ?_
  refine tp_tv (tp_xV (As := []) (rest := []) ⟨hx, hb, hml, hown, htg⟩ (c_T_requireImage_1 l hfl E fr _ a1 a2 a3 a4 x5 x6 h1) (⟨callB_of 0 htg (tp_good0 kc_T_requireImage) rfl rfl rfl (htg _ ki_T) (htg _ kl_T_105) ⟨by decide, by decide, by decide +kernel⟩ ⟨Nat.le_of_ble_eq_true rfl, Nat.le_of_ble_eq_true rfl⟩, htg _ km_T_requireImage, htg _ kp_T_requireImage⟩) (va_recv (ci := 0) (q0 := 0) hK.1 hP rfl rfl) hK hP hD hS hA rfl hl.1 rfl (Nat.le_of_ble_eq_true rfl) d_T_image_1 ⟨Nat.le_of_ble_eq_true rfl, Nat.le_of_ble_eq_true rfl⟩) hD hS hA (fun ce q H locs hP hD hS hce hcv hcl => ?_)
  have hP : va_P (tp_D E) tp_cl ((a1, .inr (0, [.ref a2, .ref a3, .ref a4, .int x5, .int x6])) :: fr) H := hP
  have hD : va_D A ((a1, .inr (0, [.ref a2, .ref a3, .ref a4, .int x5, .int x6])) :: fr) := hD
  exact vx_out (fun x h => (htab x h).elim) hlocks hce hcv hcl (fun t ht hvm => ⟨(), trivial, ⟨rfl, by rw [ht]; exact hP, hD⟩, hS.F ht⟩) hS.2.2 (Nat.le_of_ble_eq_true rfl) (Nat.le_of_ble_eq_true rfl)
set_option maxHeartbeats 400000 in
set_option maxRecDepth 100000 in
theorem c_T_place_1 (l : Launch) (hfl : l.stackTraces = false) (E : tp_Env) (fr : va_W) (sz : Nat) (a1 : Nat) (a2 : Nat) (a3 : Nat) (a4 : Nat) (x5 : Int32) (x6 : Int32) (x7 : Int32) (x8 : Int32) (h1 : x5 = 0) : vx_Met l y_T_place w_T_place ({ frames := 7, cells := 1, slots := 6, locals := 109 }) (va_Pc [.ref a1, .int x7, .int x8] (tp_in E ((a1, .inr (0, [.ref a2, .ref a3, .ref a4, .int x5, .int x6])) :: fr) sz)) (va_Qi (fun (_ : Int32) (_ : Unit) => False) (fun _ _ => True) (va_A ((a1, .inr (0, [.ref a2, .ref a3, .ref a4, .int x5, .int x6])) :: fr) sz)) (vx_X (fun (_ : Unit) => True) (fun x _ t => x = "java/lang/IllegalStateException" ∧ tp_out E (va_A ((a1, .inr (0, [.ref a2, .ref a3, .ref a4, .int x5, .int x6])) :: fr) sz) ((a1, .inr (0, [.ref a2, .ref a3, .ref a4, .int x5, .int x6])) :: fr) t) (va_A ((a1, .inr (0, [.ref a2, .ref a3, .ref a4, .int x5, .int x6])) :: fr) sz)) 1 6 (va_A ((a1, .inr (0, [.ref a2, .ref a3, .ref a4, .int x5, .int x6])) :: fr) sz) := by
  refine vx_ofW (cc := b_T_place) (maxL := 3) (ret := (some .int)) (by decide) rfl ?_
  intro p e s m args below meth c s₁ B hml htab hv
  obtain ⟨rfl, hsz, hP, hK, hD0⟩ := hv
  have hx := B.exec
  have hb := B.bytes
  have hr := B.returns
  have htg : ∀ w ∈ tp_G, w.before ([.ref a1, .int x7, .int x8] : List Value).toArray s = true := fun w h => atoms_spec (ws := w_T_place) B.pre w (List.mem_cons_of_mem _ h)
  have hown : s.vm.findClass "TwoPass" = some m.cls := findClass_of_methodNamed B.named
  have hlocks := B.notSynchronized
  subst hsz
  have hD := hD0.self (sz := s.heap.size)
  generalize hAe : va_A ((a1, .inr (0, [.ref a2, .ref a3, .ref a4, .int x5, .int x6])) :: fr) s.heap.size = A at hD hK ⊢
  have hA : ∀ q : Nat, s.heap.size ≤ q → A q := fun q h => by rw [← hAe]; exact Or.inr h
  have hS : va_S A s.heap s.heap [] := va_S.rf
  have hl := lv_entry ([.ref a1, .int x7, .int x8]) (n := 3) (Nat.le_of_ble_eq_true rfl)
  rw [lg_entry_eq]
  generalize (lg_sl ([.ref a1, .int x7, .int x8]) ++ List.replicate (3 - (lg_sl ([.ref a1, .int x7, .int x8])).length) Slot.unset).toArray = ls at hl ⊢
  have hl : lv_has ls 3 [(0, .ref a1), (1, .int x7), (2, .int x8)] := hl
  refine lv_aload_n hx hb d_T_place_0 rfl (lv_at hl 0 rfl) ?_
  refine tp_tv (tp_xV (As := []) (rest := []) ⟨hx, hb, hml, hown, htg⟩ (c_T_requireImage_1 l hfl E fr _ a1 a2 a3 a4 x5 x6 h1) (⟨callB_of 0 htg (tp_good0 kc_T_requireImage) rfl rfl rfl (htg _ ki_T) (htg _ kl_T_105) ⟨by decide, by decide, by decide +kernel⟩ ⟨Nat.le_of_ble_eq_true rfl, Nat.le_of_ble_eq_true rfl⟩, htg _ km_T_requireImage, htg _ kp_T_requireImage⟩) (va_recv (ci := 0) (q0 := 0) hK.1 hP rfl rfl) hK hP hD hS hA rfl hl.1 rfl (Nat.le_of_ble_eq_true rfl) d_T_place_1 ⟨Nat.le_of_ble_eq_true rfl, Nat.le_of_ble_eq_true rfl⟩) hD hS hA (fun ce q H locs hP hD hS hce hcv hcl => ?_)
  have hP : va_P (tp_D E) tp_cl ((a1, .inr (0, [.ref a2, .ref a3, .ref a4, .int x5, .int x6])) :: fr) H := hP
  have hD : va_D A ((a1, .inr (0, [.ref a2, .ref a3, .ref a4, .int x5, .int x6])) :: fr) := hD
  exact vx_out (fun x h => (htab x h).elim) hlocks hce hcv hcl (fun t ht hvm => ⟨(), trivial, ⟨rfl, by rw [ht]; exact hP, hD⟩, hS.F ht⟩) hS.2.2 (Nat.le_of_ble_eq_true rfl) (Nat.le_of_ble_eq_true rfl)
set_option maxHeartbeats 400000 in
set_option maxRecDepth 100000 in
theorem c_T_clear_1 (l : Launch) (hfl : l.stackTraces = false) (E : tp_Env) (fr : va_W) (sz : Nat) (a1 : Nat) (a2 : Nat) (a3 : Nat) (a4 : Nat) (x5 : Int32) (x6 : Int32) (x7 : Int32) (h1 : x7 < 0) : vx_Met l y_T_clear w_T_clear ({ frames := 7, cells := 1, slots := 6, locals := 109 }) (va_Pc [.ref a1, .int x7] (tp_in E ((a1, .inr (0, [.ref a2, .ref a3, .ref a4, .int x5, .int x6])) :: fr) sz)) (va_Qv (fun (_ : Unit) => False) (fun _ _ => True) (va_A ((a1, .inr (0, [.ref a2, .ref a3, .ref a4, .int x5, .int x6])) :: fr) sz)) (vx_X (fun (_ : Unit) => True) (fun x _ t => x = "java/lang/IllegalArgumentException" ∧ tp_out E (va_A ((a1, .inr (0, [.ref a2, .ref a3, .ref a4, .int x5, .int x6])) :: fr) sz) ((a1, .inr (0, [.ref a2, .ref a3, .ref a4, .int x5, .int x6])) :: fr) t) (va_A ((a1, .inr (0, [.ref a2, .ref a3, .ref a4, .int x5, .int x6])) :: fr) sz)) 1 6 (va_A ((a1, .inr (0, [.ref a2, .ref a3, .ref a4, .int x5, .int x6])) :: fr) sz) := by
  refine vx_ofW (cc := b_T_clear) (maxL := 2) (ret := none) (by decide) rfl ?_
  intro p e s m args below meth c s₁ B hml htab hv
  obtain ⟨rfl, hsz, hP, hK, hD0⟩ := hv
  have hx := B.exec
  have hb := B.bytes
  have hr := B.returns
  have htg : ∀ w ∈ tp_G, w.before ([.ref a1, .int x7] : List Value).toArray s = true := fun w h => atoms_spec (ws := w_T_clear) B.pre w (List.mem_cons_of_mem _ h)
  have hown : s.vm.findClass "TwoPass" = some m.cls := findClass_of_methodNamed B.named
  have hlocks := B.notSynchronized
  subst hsz
  have hD := hD0.self (sz := s.heap.size)
  generalize hAe : va_A ((a1, .inr (0, [.ref a2, .ref a3, .ref a4, .int x5, .int x6])) :: fr) s.heap.size = A at hD hK ⊢
  have hA : ∀ q : Nat, s.heap.size ≤ q → A q := fun q h => by rw [← hAe]; exact Or.inr h
  have hS : va_S A s.heap s.heap [] := va_S.rf
  have hl := lv_entry ([.ref a1, .int x7]) (n := 2) (Nat.le_of_ble_eq_true rfl)
  rw [lg_entry_eq]
  generalize (lg_sl ([.ref a1, .int x7]) ++ List.replicate (2 - (lg_sl ([.ref a1, .int x7])).length) Slot.unset).toArray = ls at hl ⊢
  have hl : lv_has ls 2 [(0, .ref a1), (1, .int x7)] := hl
  refine lv_iload_n hx hb d_T_clear_0 rfl (lv_at hl 1 rfl) ?_
  refine tp_tv (tp_xS (As := [.int x7]) (rest := []) ⟨hx, hb, hml, hown, htg⟩ (c_T_requireModule_1 l hfl E ((a1, .inr (0, [.ref a2, .ref a3, .ref a4, .int x5, .int x6])) :: fr) _ x7 h1) (⟨callB_of 1 htg (tp_good0 kc_T_requireModule) rfl rfl rfl (htg _ ki_T) (htg _ kl_T_58) ⟨by decide, by decide, by decide +kernel⟩ ⟨Nat.le_of_ble_eq_true rfl, Nat.le_of_ble_eq_true rfl⟩, htg _ ks_T_requireModule⟩) hK hP hD hS hA rfl hl.1 rfl (Nat.le_of_ble_eq_true rfl) d_T_clear_1 ⟨Nat.le_of_ble_eq_true rfl, Nat.le_of_ble_eq_true rfl⟩) hD hS hA (fun ce q H locs hP hD hS hce hcv hcl => ?_)
  have hP : va_P (tp_D E) tp_cl ((a1, .inr (0, [.ref a2, .ref a3, .ref a4, .int x5, .int x6])) :: fr) H := hP
  have hD : va_D A ((a1, .inr (0, [.ref a2, .ref a3, .ref a4, .int x5, .int x6])) :: fr) := hD
  exact vx_out (fun x h => (htab x h).elim) hlocks hce hcv hcl (fun t ht hvm => ⟨(), trivial, ⟨rfl, by rw [ht]; exact hP, hD⟩, hS.F ht⟩) hS.2.2 (Nat.le_of_ble_eq_true rfl) (Nat.le_of_ble_eq_true rfl)
set_option maxHeartbeats 400000 in
set_option maxRecDepth 100000 in
theorem c_T_clear_2 (l : Launch) (hfl : l.stackTraces = false) (E : tp_Env) (fr : va_W) (sz : Nat) (a1 : Nat) (a2 : Nat) (a3 : Nat) (a4 : Nat) (x5 : Int32) (x6 : Int32) (x7 : Int32) (h1 : ¬ x7 < 0) (h2 : 2 ≤ x7) : vx_Met l y_T_clear w_T_clear ({ frames := 7, cells := 1, slots := 6, locals := 109 }) (va_Pc [.ref a1, .int x7] (tp_in E ((a1, .inr (0, [.ref a2, .ref a3, .ref a4, .int x5, .int x6])) :: fr) sz)) (va_Qv (fun (_ : Unit) => False) (fun _ _ => True) (va_A ((a1, .inr (0, [.ref a2, .ref a3, .ref a4, .int x5, .int x6])) :: fr) sz)) (vx_X (fun (_ : Unit) => True) (fun x _ t => x = "java/lang/IllegalArgumentException" ∧ tp_out E (va_A ((a1, .inr (0, [.ref a2, .ref a3, .ref a4, .int x5, .int x6])) :: fr) sz) ((a1, .inr (0, [.ref a2, .ref a3, .ref a4, .int x5, .int x6])) :: fr) t) (va_A ((a1, .inr (0, [.ref a2, .ref a3, .ref a4, .int x5, .int x6])) :: fr) sz)) 1 6 (va_A ((a1, .inr (0, [.ref a2, .ref a3, .ref a4, .int x5, .int x6])) :: fr) sz) := by
  refine vx_ofW (cc := b_T_clear) (maxL := 2) (ret := none) (by decide) rfl ?_
  intro p e s m args below meth c s₁ B hml htab hv
  obtain ⟨rfl, hsz, hP, hK, hD0⟩ := hv
  have hx := B.exec
  have hb := B.bytes
  have hr := B.returns
  have htg : ∀ w ∈ tp_G, w.before ([.ref a1, .int x7] : List Value).toArray s = true := fun w h => atoms_spec (ws := w_T_clear) B.pre w (List.mem_cons_of_mem _ h)
  have hown : s.vm.findClass "TwoPass" = some m.cls := findClass_of_methodNamed B.named
  have hlocks := B.notSynchronized
  subst hsz
  have hD := hD0.self (sz := s.heap.size)
  generalize hAe : va_A ((a1, .inr (0, [.ref a2, .ref a3, .ref a4, .int x5, .int x6])) :: fr) s.heap.size = A at hD hK ⊢
  have hA : ∀ q : Nat, s.heap.size ≤ q → A q := fun q h => by rw [← hAe]; exact Or.inr h
  have hS : va_S A s.heap s.heap [] := va_S.rf
  have hl := lv_entry ([.ref a1, .int x7]) (n := 2) (Nat.le_of_ble_eq_true rfl)
  rw [lg_entry_eq]
  generalize (lg_sl ([.ref a1, .int x7]) ++ List.replicate (2 - (lg_sl ([.ref a1, .int x7])).length) Slot.unset).toArray = ls at hl ⊢
  have hl : lv_has ls 2 [(0, .ref a1), (1, .int x7)] := hl
  refine lv_iload_n hx hb d_T_clear_0 rfl (lv_at hl 1 rfl) ?_
  refine tp_tv (tp_xS (As := [.int x7]) (rest := []) ⟨hx, hb, hml, hown, htg⟩ (c_T_requireModule_2 l hfl E ((a1, .inr (0, [.ref a2, .ref a3, .ref a4, .int x5, .int x6])) :: fr) _ x7 h1 h2) (⟨callB_of 1 htg (tp_good0 kc_T_requireModule) rfl rfl rfl (htg _ ki_T) (htg _ kl_T_58) ⟨by decide, by decide, by decide +kernel⟩ ⟨Nat.le_of_ble_eq_true rfl, Nat.le_of_ble_eq_true rfl⟩, htg _ ks_T_requireModule⟩) hK hP hD hS hA rfl hl.1 rfl (Nat.le_of_ble_eq_true rfl) d_T_clear_1 ⟨Nat.le_of_ble_eq_true rfl, Nat.le_of_ble_eq_true rfl⟩) hD hS hA (fun ce q H locs hP hD hS hce hcv hcl => ?_)
  have hP : va_P (tp_D E) tp_cl ((a1, .inr (0, [.ref a2, .ref a3, .ref a4, .int x5, .int x6])) :: fr) H := hP
  have hD : va_D A ((a1, .inr (0, [.ref a2, .ref a3, .ref a4, .int x5, .int x6])) :: fr) := hD
  exact vx_out (fun x h => (htab x h).elim) hlocks hce hcv hcl (fun t ht hvm => ⟨(), trivial, ⟨rfl, by rw [ht]; exact hP, hD⟩, hS.F ht⟩) hS.2.2 (Nat.le_of_ble_eq_true rfl) (Nat.le_of_ble_eq_true rfl)
set_option maxHeartbeats 400000 in
set_option maxRecDepth 100000 in
theorem c_AL_clear_1 (l : Launch) (E : tp_Env) (fr : va_W) (sz : Nat) (a1 : Nat) (x2 : Int32) (x3 : Int32) (h1 : x3 ≤ 0) : Met l y_AL_clear w_AL_clear ({ frames := 0, cells := 0, slots := 0, locals := 0 }) (va_Pc [.ref a1] (tp_in E ((a1, .inr (5, [.int x2, .ref (tp_ad E 100), .int x3])) :: fr) sz)) (va_Qv (fun (_ : Unit) => True) (fun _ t => tp_out E (va_A ((a1, .inr (5, [.int x2, .ref (tp_ad E 100), .int x3])) :: fr) sz) ((a1, .inr (5, [.int (x2 + 1), .ref (tp_ad E 100), .int 0])) :: fr) t) (va_A ((a1, .inr (5, [.int x2, .ref (tp_ad E 100), .int x3])) :: fr) sz)) 0 0 (va_A ((a1, .inr (5, [.int x2, .ref (tp_ad E 100), .int x3])) :: fr) sz) := by
  refine Met.ofW (cc := b_AL_clear) (maxL := 4) (ret := none) (by decide) rfl ?_
  intro p e s m args below meth c s₁ B hml hv
  obtain ⟨rfl, hsz, hP, hK, hD0⟩ := hv
  have hx := B.exec
  have hb := B.bytes
  have hr := B.returns
  have htg : ∀ w ∈ tp_G, w.before ([.ref a1] : List Value).toArray s = true := fun w h => atoms_spec (ws := w_AL_clear) B.pre w (List.mem_cons_of_mem _ h)
  have hown : s.vm.findClass "java/util/ArrayList" = some m.cls := findClass_of_methodNamed B.named
  have hlocks := B.notSynchronized
  subst hsz
  have hD := hD0.self (sz := s.heap.size)
  generalize hAe : va_A ((a1, .inr (5, [.int x2, .ref (tp_ad E 100), .int x3])) :: fr) s.heap.size = A at hD hK ⊢
  have hA : ∀ q : Nat, s.heap.size ≤ q → A q := fun q h => by rw [← hAe]; exact Or.inr h
  have hS : va_S A s.heap s.heap [] := va_S.rf
  have hl := lv_entry ([.ref a1]) (n := 4) (Nat.le_of_ble_eq_true rfl)
  rw [lg_entry_eq]
  generalize (lg_sl ([.ref a1]) ++ List.replicate (4 - (lg_sl ([.ref a1])).length) Slot.unset).toArray = ls at hl ⊢
  have hl : lv_has ls 4 [(0, .ref a1)] := hl
  refine lv_aload_n hx hb d_AL_clear_0 rfl (lv_at hl 0 rfl) ?_
  refine lv_dup hx hb d_AL_clear_1 rfl ?_
  refine va_get (D := tp_D E) (ci := 5) (v := .int x2) (C := qR_AL) (T := qF_AL) (N := 3) hx hb htg qi_AL hown hK.1 hP 0 rfl rfl 0 (by decide) (htg _ kl_AL_63) (fun x h => u_same (htg (.sameField "java/util/ArrayList" "java/util/AbstractList" "modCount" "I") (by decide +kernel)) x h) rfl d_AL_clear_2 ?_
  refine lv_iconst (v := 1) hx hb d_AL_clear_5 (by decide) ?_
  refine lv_iadd hx hb d_AL_clear_6 ?_
  refine va_put (D := tp_D E) (ci := 5) (v := .int (x2 + 1)) (ty := .int) (C := qR_AL) (T := qF_AL) (N := 3) hx hb htg qi_AL qt_AL qt_AL_ok qn_AL hown hK.1 hP hD hS 0 rfl rfl 0 (by decide) (htg _ kl_AL_63) (fun x h => u_same (htg (.sameField "java/util/ArrayList" "java/util/AbstractList" "modCount" "I") (by decide +kernel)) x h) rfl (by decide +kernel) rfl rfl (Nat.le_of_ble_eq_true rfl) d_AL_clear_7 (fun H locs hP hD hS => ?_)
  have hP : va_P (tp_D E) tp_cl ((a1, .inr (5, [.int (x2 + 1), .ref (tp_ad E 100), .int x3])) :: fr) H := hP
  have hD : va_D A ((a1, .inr (5, [.int (x2 + 1), .ref (tp_ad E 100), .int x3])) :: fr) := hD
  refine lv_aload_n hx hb d_AL_clear_10 rfl (lv_at hl 0 rfl) ?_
  refine va_get (D := tp_D E) (ci := 5) (v := .ref (tp_ad E 100)) (C := qR_AL) (T := qF_AL) (N := 3) hx hb htg qi_AL hown hK.1 hP 0 rfl rfl 1 (by decide) (htg _ kl_AL_9) (fun _ h => h) rfl d_AL_clear_11 ?_
  refine lv_astore_n (lv' := [(1, .ref (tp_ad E 100)), (0, .ref a1)]) hx hb d_AL_clear_14 rfl hl (by decide) rfl (fun ls hl => ?_)
  refine lv_aload_n hx hb d_AL_clear_15 rfl (lv_at hl 1 rfl) ?_
  refine va_get (D := tp_D E) (ci := 5) (v := .int x3) (C := qR_AL) (T := qF_AL) (N := 3) hx hb htg qi_AL hown hK.1 hP 0 rfl rfl 2 (by decide) (htg _ kl_AL_48) (fun _ h => h) rfl d_AL_clear_16 ?_
  refine lv_istore_n (lv' := [(2, .int x3), (1, .ref (tp_ad E 100)), (0, .ref a1)]) hx hb d_AL_clear_19 rfl hl (by decide) rfl (fun ls hl => ?_)
  refine lv_aload_n hx hb d_AL_clear_20 rfl (lv_at hl 2 rfl) ?_
  refine lv_iconst (v := 0) hx hb d_AL_clear_21 (by decide) ?_
  refine lv_dup_x1 hx hb d_AL_clear_22 rfl rfl ?_
  refine va_put (D := tp_D E) (ci := 5) (v := .int 0) (ty := .int) (C := qR_AL) (T := qF_AL) (N := 3) hx hb htg qi_AL qt_AL qt_AL_ok qn_AL hown hK.1 hP hD hS 0 rfl rfl 2 (by decide) (htg _ kl_AL_48) (fun _ h => h) rfl (by decide +kernel) rfl rfl (Nat.le_of_ble_eq_true rfl) d_AL_clear_23 (fun H locs hP hD hS => ?_)
  have hP : va_P (tp_D E) tp_cl ((a1, .inr (5, [.int (x2 + 1), .ref (tp_ad E 100), .int 0])) :: fr) H := hP
  have hD : va_D A ((a1, .inr (5, [.int (x2 + 1), .ref (tp_ad E 100), .int 0])) :: fr) := hD
  refine lv_istore_n (lv' := [(3, .int 0), (2, .int x3), (1, .ref (tp_ad E 100)), (0, .ref a1)]) hx hb d_AL_clear_26 rfl hl (by decide) rfl (fun ls hl => ?_)
  refine lv_iload_n hx hb d_AL_clear_27 rfl (lv_at hl 0 rfl) ?_
  refine lv_iload_n hx hb d_AL_clear_28 rfl (lv_at hl 1 rfl) ?_
  refine lv_icmp_ge (tgt := 42) hx hb d_AL_clear_29 (by decide) (fun _ => ?_) (fun h => absurd h1 h)
  exact W.vret hx hb hr (fun t ht hW => ⟨⟨(), rfl, trivial, by rw [ht]; exact hP, hD⟩, hS.F ht⟩) hS.2.2 d_AL_clear_42
set_option maxHeartbeats 400000 in
set_option maxRecDepth 100000 in
theorem c_T_clear_3 (l : Launch) (E : tp_Env) (fr : va_W) (sz : Nat) (a1 : Nat) (a2 : Nat) (a3 : Nat) (a4 : Nat) (x5 : Int32) (x6 : Int32) (x7 : Int32) (f8 : Nat → Option Nat) (a9 : Nat) (a10 : Nat) (a11 : Nat) (x12 : Int32) (x13 : Int32) (h1 : ¬ x7 < 0) (h2 : ¬ 2 ≤ x7) (h3 : f8 0 = some a9) (h4 : f8 1 = some a10) (h5 : x7 = 0) (h6 : x13 ≤ 0) : Met l y_T_clear w_T_clear ({ frames := 2, cells := 0, slots := 0, locals := 40 }) (va_Pc [.ref a1, .int x7] (tp_in E ((a1, .inr (0, [.ref a2, .ref a3, .ref a4, .int x5, .int x6])) :: (a3, .inl (tp_ty E 6, 2, .inr (.inr (.inr (.inr f8))))) :: (a9, .inr (2, [.ref a11])) :: (a11, .inr (5, [.int x12, .ref (tp_ad E 100), .int x13])) :: fr) sz)) (va_Qv (fun (_ : Unit) => True) (fun _ t => tp_out E (va_A ((a1, .inr (0, [.ref a2, .ref a3, .ref a4, .int x5, .int x6])) :: (a3, .inl (tp_ty E 6, 2, .inr (.inr (.inr (.inr f8))))) :: (a9, .inr (2, [.ref a11])) :: (a11, .inr (5, [.int x12, .ref (tp_ad E 100), .int x13])) :: fr) sz) ((a11, .inr (5, [.int (x12 + 1), .ref (tp_ad E 100), .int 0])) :: (a1, .inr (0, [.ref a2, .ref a3, .ref a4, .int 0, .int x6])) :: (a3, .inl (tp_ty E 6, 2, .inr (.inr (.inr (.inr f8))))) :: (a9, .inr (2, [.ref a11])) :: fr) t) (va_A ((a1, .inr (0, [.ref a2, .ref a3, .ref a4, .int x5, .int x6])) :: (a3, .inl (tp_ty E 6, 2, .inr (.inr (.inr (.inr f8))))) :: (a9, .inr (2, [.ref a11])) :: (a11, .inr (5, [.int x12, .ref (tp_ad E 100), .int x13])) :: fr) sz)) 0 0 (va_A ((a1, .inr (0, [.ref a2, .ref a3, .ref a4, .int x5, .int x6])) :: (a3, .inl (tp_ty E 6, 2, .inr (.inr (.inr (.inr f8))))) :: (a9, .inr (2, [.ref a11])) :: (a11, .inr (5, [.int x12, .ref (tp_ad E 100), .int x13])) :: fr) sz) := by
  refine Met.ofW (cc := b_T_clear) (maxL := 2) (ret := none) (by decide) rfl ?_
  intro p e s m args below meth c s₁ B hml hv
  obtain ⟨rfl, hsz, hP, hK, hD0⟩ := hv
  have hx := B.exec
  have hb := B.bytes
  have hr := B.returns
  have htg : ∀ w ∈ tp_G, w.before ([.ref a1, .int x7] : List Value).toArray s = true := fun w h => atoms_spec (ws := w_T_clear) B.pre w (List.mem_cons_of_mem _ h)
  have hown : s.vm.findClass "TwoPass" = some m.cls := findClass_of_methodNamed B.named
  have hlocks := B.notSynchronized
  subst hsz
  have hD := hD0.self (sz := s.heap.size)
  generalize hAe : va_A ((a1, .inr (0, [.ref a2, .ref a3, .ref a4, .int x5, .int x6])) :: (a3, .inl (tp_ty E 6, 2, .inr (.inr (.inr (.inr f8))))) :: (a9, .inr (2, [.ref a11])) :: (a11, .inr (5, [.int x12, .ref (tp_ad E 100), .int x13])) :: fr) s.heap.size = A at hD hK ⊢
  have hA : ∀ q : Nat, s.heap.size ≤ q → A q := fun q h => by rw [← hAe]; exact Or.inr h
  have hS : va_S A s.heap s.heap [] := va_S.rf
  have hl := lv_entry ([.ref a1, .int x7]) (n := 2) (Nat.le_of_ble_eq_true rfl)
  rw [lg_entry_eq]
  generalize (lg_sl ([.ref a1, .int x7]) ++ List.replicate (2 - (lg_sl ([.ref a1, .int x7])).length) Slot.unset).toArray = ls at hl ⊢
  have hl : lv_has ls 2 [(0, .ref a1), (1, .int x7)] := hl
  refine lv_iload_n hx hb d_T_clear_0 rfl (lv_at hl 1 rfl) ?_
  refine tp_cv (tp_rS (As := [.int x7]) (rest := []) ⟨hx, hb, hml, hown, htg⟩ (c_T_requireModule_3 l E ((a1, .inr (0, [.ref a2, .ref a3, .ref a4, .int x5, .int x6])) :: (a3, .inl (tp_ty E 6, 2, .inr (.inr (.inr (.inr f8))))) :: (a9, .inr (2, [.ref a11])) :: (a11, .inr (5, [.int x12, .ref (tp_ad E 100), .int x13])) :: fr) _ x7 h1 h2) (⟨callB_of 1 htg (tp_good0 kc_T_requireModule) rfl rfl rfl (htg _ ki_T) (htg _ kl_T_58) ⟨by decide, by decide, by decide +kernel⟩ ⟨Nat.le_of_ble_eq_true rfl, Nat.le_of_ble_eq_true rfl⟩, htg _ ks_T_requireModule⟩) hK hP hD hS hA rfl hl.1 rfl (Nat.le_of_ble_eq_true rfl) d_T_clear_1 ⟨Nat.le_of_ble_eq_true rfl, Nat.le_of_ble_eq_true rfl⟩) hD hS hA (fun u H locs _ hP hD hS => ?_)
  have hP : va_P (tp_D E) tp_cl ((a1, .inr (0, [.ref a2, .ref a3, .ref a4, .int x5, .int x6])) :: (a3, .inl (tp_ty E 6, 2, .inr (.inr (.inr (.inr f8))))) :: (a9, .inr (2, [.ref a11])) :: (a11, .inr (5, [.int x12, .ref (tp_ad E 100), .int x13])) :: fr) H := hP
  have hD : va_D A ((a1, .inr (0, [.ref a2, .ref a3, .ref a4, .int x5, .int x6])) :: (a3, .inl (tp_ty E 6, 2, .inr (.inr (.inr (.inr f8))))) :: (a9, .inr (2, [.ref a11])) :: (a11, .inr (5, [.int x12, .ref (tp_ad E 100), .int x13])) :: fr) := hD
  refine lv_aload_n hx hb d_T_clear_4 rfl (lv_at hl 0 rfl) ?_
  refine va_get (D := tp_D E) (ci := 0) (v := .ref a3) (C := qR_T) (T := qF_T) (N := 5) hx hb htg qi_T hown hK.1 hP 0 rfl rfl 1 (by decide) (htg _ kl_T_19) (fun _ h => h) rfl d_T_clear_5 ?_
  refine lv_iload_n hx hb d_T_clear_8 rfl (lv_at hl 1 rfl) ?_
  refine va_aldq (D := tp_D E) hx hb hK.1 hP 1 6 rfl rfl (tp_vin (k := 2) h1 h2 (by decide) (by decide)) d_T_clear_9 ?_
  refine tp_topr (k := 0) (a := a9) (by rw [h5]; rfl) h3 ?_
  refine va_get (D := tp_D E) (ci := 2) (v := .ref a11) (C := qR_S) (T := qF_S) (N := 1) hx hb htg qi_S hown hK.1 hP 2 rfl rfl 0 (by decide) (htg _ kl_T_78) (fun _ h => h) rfl d_T_clear_10 ?_
  have hP : va_P (tp_D E) tp_cl ((a11, .inr (5, [.int x12, .ref (tp_ad E 100), .int x13])) :: (a1, .inr (0, [.ref a2, .ref a3, .ref a4, .int x5, .int x6])) :: (a3, .inl (tp_ty E 6, 2, .inr (.inr (.inr (.inr f8))))) :: (a9, .inr (2, [.ref a11])) :: fr) _ := tp_mvP 3 rfl hP
  have hD : va_D A ((a11, .inr (5, [.int x12, .ref (tp_ad E 100), .int x13])) :: (a1, .inr (0, [.ref a2, .ref a3, .ref a4, .int x5, .int x6])) :: (a3, .inl (tp_ty E 6, 2, .inr (.inr (.inr (.inr f8))))) :: (a9, .inr (2, [.ref a11])) :: fr) := tp_mvD 3 rfl hD
  refine tp_cv (tp_rV (As := []) (rest := []) ⟨hx, hb, hml, hown, htg⟩ (c_AL_clear_1 l E ((a1, .inr (0, [.ref a2, .ref a3, .ref a4, .int x5, .int x6])) :: (a3, .inl (tp_ty E 6, 2, .inr (.inr (.inr (.inr f8))))) :: (a9, .inr (2, [.ref a11])) :: fr) _ a11 x12 x13 h6) (⟨callB_of 0 htg (tp_good0 kc_AL_clear) rfl rfl rfl (htg _ ki_AL) (htg _ kl_T_87) ⟨by decide, by decide, by decide +kernel⟩ ⟨Nat.le_of_ble_eq_true rfl, Nat.le_of_ble_eq_true rfl⟩, htg _ km_AL_clear, htg _ kv_AL_AL_clear⟩) (va_recv (ci := 5) (q0 := 0) hK.1 hP rfl rfl) hK hP hD hS hA rfl hl.1 rfl (Nat.le_of_ble_eq_true rfl) d_T_clear_13 ⟨Nat.le_of_ble_eq_true rfl, Nat.le_of_ble_eq_true rfl⟩) hD hS hA (fun u H locs _ hP hD hS => ?_)
  have hP : va_P (tp_D E) tp_cl ((a11, .inr (5, [.int (x12 + 1), .ref (tp_ad E 100), .int 0])) :: (a1, .inr (0, [.ref a2, .ref a3, .ref a4, .int x5, .int x6])) :: (a3, .inl (tp_ty E 6, 2, .inr (.inr (.inr (.inr f8))))) :: (a9, .inr (2, [.ref a11])) :: fr) H := hP
  have hD : va_D A ((a11, .inr (5, [.int (x12 + 1), .ref (tp_ad E 100), .int 0])) :: (a1, .inr (0, [.ref a2, .ref a3, .ref a4, .int x5, .int x6])) :: (a3, .inl (tp_ty E 6, 2, .inr (.inr (.inr (.inr f8))))) :: (a9, .inr (2, [.ref a11])) :: fr) := hD
  refine lv_aload_n hx hb d_T_clear_16 rfl (lv_at hl 0 rfl) ?_
  refine lv_iconst (v := 0) hx hb d_T_clear_17 (by decide) ?_
  refine va_put (D := tp_D E) (ci := 0) (v := .int 0) (ty := .boolean) (C := qR_T) (T := qF_T) (N := 5) hx hb htg qi_T qt_T qt_T_ok qn_T hown hK.1 hP hD hS 1 rfl rfl 3 (by decide) (htg _ kl_T_30) (fun _ h => h) rfl (by decide +kernel) rfl rfl (Nat.le_of_ble_eq_true rfl) d_T_clear_18 (fun H locs hP hD hS => ?_)
  have hP : va_P (tp_D E) tp_cl ((a11, .inr (5, [.int (x12 + 1), .ref (tp_ad E 100), .int 0])) :: (a1, .inr (0, [.ref a2, .ref a3, .ref a4, .int 0, .int x6])) :: (a3, .inl (tp_ty E 6, 2, .inr (.inr (.inr (.inr f8))))) :: (a9, .inr (2, [.ref a11])) :: fr) H := hP
  have hD : va_D A ((a11, .inr (5, [.int (x12 + 1), .ref (tp_ad E 100), .int 0])) :: (a1, .inr (0, [.ref a2, .ref a3, .ref a4, .int 0, .int x6])) :: (a3, .inl (tp_ty E 6, 2, .inr (.inr (.inr (.inr f8))))) :: (a9, .inr (2, [.ref a11])) :: fr) := hD
  exact W.vret hx hb hr (fun t ht hW => ⟨⟨(), rfl, trivial, by rw [ht]; exact hP, hD⟩, hS.F ht⟩) hS.2.2 d_T_clear_21
set_option maxHeartbeats 400000 in
set_option maxRecDepth 100000 in
theorem c_T_clear_4 (l : Launch) (E : tp_Env) (fr : va_W) (sz : Nat) (a1 : Nat) (a2 : Nat) (a3 : Nat) (a4 : Nat) (x5 : Int32) (x6 : Int32) (x7 : Int32) (f8 : Nat → Option Nat) (a9 : Nat) (a10 : Nat) (a11 : Nat) (x12 : Int32) (x13 : Int32) (h1 : ¬ x7 < 0) (h2 : ¬ 2 ≤ x7) (h3 : f8 0 = some a9) (h4 : f8 1 = some a10) (h5 : ¬ x7 = 0) (h6 : x13 ≤ 0) : Met l y_T_clear w_T_clear ({ frames := 2, cells := 0, slots := 0, locals := 40 }) (va_Pc [.ref a1, .int x7] (tp_in E ((a1, .inr (0, [.ref a2, .ref a3, .ref a4, .int x5, .int x6])) :: (a3, .inl (tp_ty E 6, 2, .inr (.inr (.inr (.inr f8))))) :: (a10, .inr (2, [.ref a11])) :: (a11, .inr (5, [.int x12, .ref (tp_ad E 100), .int x13])) :: fr) sz)) (va_Qv (fun (_ : Unit) => True) (fun _ t => tp_out E (va_A ((a1, .inr (0, [.ref a2, .ref a3, .ref a4, .int x5, .int x6])) :: (a3, .inl (tp_ty E 6, 2, .inr (.inr (.inr (.inr f8))))) :: (a10, .inr (2, [.ref a11])) :: (a11, .inr (5, [.int x12, .ref (tp_ad E 100), .int x13])) :: fr) sz) ((a11, .inr (5, [.int (x12 + 1), .ref (tp_ad E 100), .int 0])) :: (a1, .inr (0, [.ref a2, .ref a3, .ref a4, .int 0, .int x6])) :: (a3, .inl (tp_ty E 6, 2, .inr (.inr (.inr (.inr f8))))) :: (a10, .inr (2, [.ref a11])) :: fr) t) (va_A ((a1, .inr (0, [.ref a2, .ref a3, .ref a4, .int x5, .int x6])) :: (a3, .inl (tp_ty E 6, 2, .inr (.inr (.inr (.inr f8))))) :: (a10, .inr (2, [.ref a11])) :: (a11, .inr (5, [.int x12, .ref (tp_ad E 100), .int x13])) :: fr) sz)) 0 0 (va_A ((a1, .inr (0, [.ref a2, .ref a3, .ref a4, .int x5, .int x6])) :: (a3, .inl (tp_ty E 6, 2, .inr (.inr (.inr (.inr f8))))) :: (a10, .inr (2, [.ref a11])) :: (a11, .inr (5, [.int x12, .ref (tp_ad E 100), .int x13])) :: fr) sz) := by
  refine Met.ofW (cc := b_T_clear) (maxL := 2) (ret := none) (by decide) rfl ?_
  intro p e s m args below meth c s₁ B hml hv
  obtain ⟨rfl, hsz, hP, hK, hD0⟩ := hv
  have hx := B.exec
  have hb := B.bytes
  have hr := B.returns
  have htg : ∀ w ∈ tp_G, w.before ([.ref a1, .int x7] : List Value).toArray s = true := fun w h => atoms_spec (ws := w_T_clear) B.pre w (List.mem_cons_of_mem _ h)
  have hown : s.vm.findClass "TwoPass" = some m.cls := findClass_of_methodNamed B.named
  have hlocks := B.notSynchronized
  subst hsz
  have hD := hD0.self (sz := s.heap.size)
  generalize hAe : va_A ((a1, .inr (0, [.ref a2, .ref a3, .ref a4, .int x5, .int x6])) :: (a3, .inl (tp_ty E 6, 2, .inr (.inr (.inr (.inr f8))))) :: (a10, .inr (2, [.ref a11])) :: (a11, .inr (5, [.int x12, .ref (tp_ad E 100), .int x13])) :: fr) s.heap.size = A at hD hK ⊢
  have hA : ∀ q : Nat, s.heap.size ≤ q → A q := fun q h => by rw [← hAe]; exact Or.inr h
  have hS : va_S A s.heap s.heap [] := va_S.rf
  have hl := lv_entry ([.ref a1, .int x7]) (n := 2) (Nat.le_of_ble_eq_true rfl)
  rw [lg_entry_eq]
  generalize (lg_sl ([.ref a1, .int x7]) ++ List.replicate (2 - (lg_sl ([.ref a1, .int x7])).length) Slot.unset).toArray = ls at hl ⊢
  have hl : lv_has ls 2 [(0, .ref a1), (1, .int x7)] := hl
  refine lv_iload_n hx hb d_T_clear_0 rfl (lv_at hl 1 rfl) ?_
  refine tp_cv (tp_rS (As := [.int x7]) (rest := []) ⟨hx, hb, hml, hown, htg⟩ (c_T_requireModule_3 l E ((a1, .inr (0, [.ref a2, .ref a3, .ref a4, .int x5, .int x6])) :: (a3, .inl (tp_ty E 6, 2, .inr (.inr (.inr (.inr f8))))) :: (a10, .inr (2, [.ref a11])) :: (a11, .inr (5, [.int x12, .ref (tp_ad E 100), .int x13])) :: fr) _ x7 h1 h2) (⟨callB_of 1 htg (tp_good0 kc_T_requireModule) rfl rfl rfl (htg _ ki_T) (htg _ kl_T_58) ⟨by decide, by decide, by decide +kernel⟩ ⟨Nat.le_of_ble_eq_true rfl, Nat.le_of_ble_eq_true rfl⟩, htg _ ks_T_requireModule⟩) hK hP hD hS hA rfl hl.1 rfl (Nat.le_of_ble_eq_true rfl) d_T_clear_1 ⟨Nat.le_of_ble_eq_true rfl, Nat.le_of_ble_eq_true rfl⟩) hD hS hA (fun u H locs _ hP hD hS => ?_)
  have hP : va_P (tp_D E) tp_cl ((a1, .inr (0, [.ref a2, .ref a3, .ref a4, .int x5, .int x6])) :: (a3, .inl (tp_ty E 6, 2, .inr (.inr (.inr (.inr f8))))) :: (a10, .inr (2, [.ref a11])) :: (a11, .inr (5, [.int x12, .ref (tp_ad E 100), .int x13])) :: fr) H := hP
  have hD : va_D A ((a1, .inr (0, [.ref a2, .ref a3, .ref a4, .int x5, .int x6])) :: (a3, .inl (tp_ty E 6, 2, .inr (.inr (.inr (.inr f8))))) :: (a10, .inr (2, [.ref a11])) :: (a11, .inr (5, [.int x12, .ref (tp_ad E 100), .int x13])) :: fr) := hD
  refine lv_aload_n hx hb d_T_clear_4 rfl (lv_at hl 0 rfl) ?_
  refine va_get (D := tp_D E) (ci := 0) (v := .ref a3) (C := qR_T) (T := qF_T) (N := 5) hx hb htg qi_T hown hK.1 hP 0 rfl rfl 1 (by decide) (htg _ kl_T_19) (fun _ h => h) rfl d_T_clear_5 ?_
  refine lv_iload_n hx hb d_T_clear_8 rfl (lv_at hl 1 rfl) ?_
  refine va_aldq (D := tp_D E) hx hb hK.1 hP 1 6 rfl rfl (tp_vin (k := 2) h1 h2 (by decide) (by decide)) d_T_clear_9 ?_
  refine tp_topr (k := 1) (a := a10) (by rw [tp_one h1 h2 h5]; rfl) h4 ?_
  refine va_get (D := tp_D E) (ci := 2) (v := .ref a11) (C := qR_S) (T := qF_S) (N := 1) hx hb htg qi_S hown hK.1 hP 2 rfl rfl 0 (by decide) (htg _ kl_T_78) (fun _ h => h) rfl d_T_clear_10 ?_
  have hP : va_P (tp_D E) tp_cl ((a11, .inr (5, [.int x12, .ref (tp_ad E 100), .int x13])) :: (a1, .inr (0, [.ref a2, .ref a3, .ref a4, .int x5, .int x6])) :: (a3, .inl (tp_ty E 6, 2, .inr (.inr (.inr (.inr f8))))) :: (a10, .inr (2, [.ref a11])) :: fr) _ := tp_mvP 3 rfl hP
  have hD : va_D A ((a11, .inr (5, [.int x12, .ref (tp_ad E 100), .int x13])) :: (a1, .inr (0, [.ref a2, .ref a3, .ref a4, .int x5, .int x6])) :: (a3, .inl (tp_ty E 6, 2, .inr (.inr (.inr (.inr f8))))) :: (a10, .inr (2, [.ref a11])) :: fr) := tp_mvD 3 rfl hD
  refine tp_cv (tp_rV (As := []) (rest := []) ⟨hx, hb, hml, hown, htg⟩ (c_AL_clear_1 l E ((a1, .inr (0, [.ref a2, .ref a3, .ref a4, .int x5, .int x6])) :: (a3, .inl (tp_ty E 6, 2, .inr (.inr (.inr (.inr f8))))) :: (a10, .inr (2, [.ref a11])) :: fr) _ a11 x12 x13 h6) (⟨callB_of 0 htg (tp_good0 kc_AL_clear) rfl rfl rfl (htg _ ki_AL) (htg _ kl_T_87) ⟨by decide, by decide, by decide +kernel⟩ ⟨Nat.le_of_ble_eq_true rfl, Nat.le_of_ble_eq_true rfl⟩, htg _ km_AL_clear, htg _ kv_AL_AL_clear⟩) (va_recv (ci := 5) (q0 := 0) hK.1 hP rfl rfl) hK hP hD hS hA rfl hl.1 rfl (Nat.le_of_ble_eq_true rfl) d_T_clear_13 ⟨Nat.le_of_ble_eq_true rfl, Nat.le_of_ble_eq_true rfl⟩) hD hS hA (fun u H locs _ hP hD hS => ?_)
  have hP : va_P (tp_D E) tp_cl ((a11, .inr (5, [.int (x12 + 1), .ref (tp_ad E 100), .int 0])) :: (a1, .inr (0, [.ref a2, .ref a3, .ref a4, .int x5, .int x6])) :: (a3, .inl (tp_ty E 6, 2, .inr (.inr (.inr (.inr f8))))) :: (a10, .inr (2, [.ref a11])) :: fr) H := hP
  have hD : va_D A ((a11, .inr (5, [.int (x12 + 1), .ref (tp_ad E 100), .int 0])) :: (a1, .inr (0, [.ref a2, .ref a3, .ref a4, .int x5, .int x6])) :: (a3, .inl (tp_ty E 6, 2, .inr (.inr (.inr (.inr f8))))) :: (a10, .inr (2, [.ref a11])) :: fr) := hD
  refine lv_aload_n hx hb d_T_clear_16 rfl (lv_at hl 0 rfl) ?_
  refine lv_iconst (v := 0) hx hb d_T_clear_17 (by decide) ?_
  refine va_put (D := tp_D E) (ci := 0) (v := .int 0) (ty := .boolean) (C := qR_T) (T := qF_T) (N := 5) hx hb htg qi_T qt_T qt_T_ok qn_T hown hK.1 hP hD hS 1 rfl rfl 3 (by decide) (htg _ kl_T_30) (fun _ h => h) rfl (by decide +kernel) rfl rfl (Nat.le_of_ble_eq_true rfl) d_T_clear_18 (fun H locs hP hD hS => ?_)
  have hP : va_P (tp_D E) tp_cl ((a11, .inr (5, [.int (x12 + 1), .ref (tp_ad E 100), .int 0])) :: (a1, .inr (0, [.ref a2, .ref a3, .ref a4, .int 0, .int x6])) :: (a3, .inl (tp_ty E 6, 2, .inr (.inr (.inr (.inr f8))))) :: (a10, .inr (2, [.ref a11])) :: fr) H := hP
  have hD : va_D A ((a11, .inr (5, [.int (x12 + 1), .ref (tp_ad E 100), .int 0])) :: (a1, .inr (0, [.ref a2, .ref a3, .ref a4, .int 0, .int x6])) :: (a3, .inl (tp_ty E 6, 2, .inr (.inr (.inr (.inr f8))))) :: (a10, .inr (2, [.ref a11])) :: fr) := hD
  exact W.vret hx hb hr (fun t ht hW => ⟨⟨(), rfl, trivial, by rw [ht]; exact hP, hD⟩, hS.F ht⟩) hS.2.2 d_T_clear_21
set_option maxHeartbeats 400000 in
set_option maxRecDepth 100000 in
theorem c_T_letter_1 (l : Launch) (hfl : l.stackTraces = false) (E : tp_Env) (fr : va_W) (sz : Nat) (a1 : Nat) (a2 : Nat) (a3 : Nat) (a4 : Nat) (x5 : Int32) (x6 : Int32) (x7 : Int32) (h1 : x7 < 0) : vx_Met l y_T_letter w_T_letter ({ frames := 6, cells := 1, slots := 6, locals := 89 }) (va_Pc [.ref a1, .int x7] (tp_in E ((a1, .inr (0, [.ref a2, .ref a3, .ref a4, .int x5, .int x6])) :: fr) sz)) (va_Qi (fun (_ : Int32) (_ : Unit) => False) (fun _ _ => True) (va_A ((a1, .inr (0, [.ref a2, .ref a3, .ref a4, .int x5, .int x6])) :: fr) sz)) (vx_X (fun (_ : Unit) => True) (fun x _ t => x = "java/lang/IndexOutOfBoundsException" ∧ tp_out E (va_A ((a1, .inr (0, [.ref a2, .ref a3, .ref a4, .int x5, .int x6])) :: fr) sz) ((a1, .inr (0, [.ref a2, .ref a3, .ref a4, .int x5, .int x6])) :: fr) t) (va_A ((a1, .inr (0, [.ref a2, .ref a3, .ref a4, .int x5, .int x6])) :: fr) sz)) 1 6 (va_A ((a1, .inr (0, [.ref a2, .ref a3, .ref a4, .int x5, .int x6])) :: fr) sz) := by
  refine vx_ofW (cc := b_T_letter) (maxL := 2) (ret := (some .int)) (by decide) rfl ?_
  intro p e s m args below meth c s₁ B hml htab hv
  obtain ⟨rfl, hsz, hP, hK, hD0⟩ := hv
  have hx := B.exec
  have hb := B.bytes
  have hr := B.returns
  have htg : ∀ w ∈ tp_G, w.before ([.ref a1, .int x7] : List Value).toArray s = true := fun w h => atoms_spec (ws := w_T_letter) B.pre w (List.mem_cons_of_mem _ h)
  have hown : s.vm.findClass "TwoPass" = some m.cls := findClass_of_methodNamed B.named
  have hlocks := B.notSynchronized
  subst hsz
  have hD := hD0.self (sz := s.heap.size)
  generalize hAe : va_A ((a1, .inr (0, [.ref a2, .ref a3, .ref a4, .int x5, .int x6])) :: fr) s.heap.size = A at hD hK ⊢
  have hA : ∀ q : Nat, s.heap.size ≤ q → A q := fun q h => by rw [← hAe]; exact Or.inr h
  have hS : va_S A s.heap s.heap [] := va_S.rf
  have hl := lv_entry ([.ref a1, .int x7]) (n := 2) (Nat.le_of_ble_eq_true rfl)
  rw [lg_entry_eq]
  generalize (lg_sl ([.ref a1, .int x7]) ++ List.replicate (2 - (lg_sl ([.ref a1, .int x7])).length) Slot.unset).toArray = ls at hl ⊢
  have hl : lv_has ls 2 [(0, .ref a1), (1, .int x7)] := hl
  refine lv_iload_n hx hb d_T_letter_0 rfl (lv_at hl 1 rfl) ?_
  refine lv_if_lt (tgt := 15) hx hb d_T_letter_1 (by decide) (fun _ => ?_) (fun h => absurd h1 h)
  exact vx_throw0 (own := "TwoPass") (cls := "java/lang/IndexOutOfBoundsException") (names := ["java/lang/RuntimeException", "java/lang/Exception"]) (ik := 115) (ic := 117) hx hb hfl hown (by decide +kernel) (by decide +kernel) (htg _ kl_T_115) (htg _ kx_IndexOutOfBoundsException) (kxa_T_117 htg hK.2.2.2.1) kxg_T_117 hK.2.1 hK.2.2.1 hS (hl.1.trans hml.symm) d_T_letter_15 d_T_letter_18 d_T_letter_19 d_T_letter_22 (fun x h => (htab x h).elim) (Nat.le_of_ble_eq_true rfl) (Nat.le_of_ble_eq_true rfl) (Nat.le_of_ble_eq_true rfl) (Nat.le_of_ble_eq_true rfl) hlocks (fun t hvm hz hq => ⟨(), trivial, ⟨rfl, hP.kept (fun k q hk => hq _ (vx_lt hP hk)), hD⟩, ⟨Nat.le_trans hS.1 hz, fun q h1 h2 => (hq q (Nat.lt_of_lt_of_le h1 hS.1)).trans (hS.2.1 q h1 h2)⟩⟩) hS.2.2 (Nat.le_of_ble_eq_true rfl) (Nat.le_of_ble_eq_true rfl)
set_option maxHeartbeats 400000 in
set_option maxRecDepth 100000 in
theorem c_AS_length_1 (l : Launch) (E : tp_Env) (fr : va_W) (sz : Nat) (a1 : Nat) (a2 : Nat) (x3 : Int32) (x4 : Int32) (x5 : Int32)  : Met l y_AS_length w_AS_length ({ frames := 0, cells := 0, slots := 0, locals := 0 }) (va_Pc [.ref a1] (tp_in E ((a1, .inr (6, [.ref a2, .int x3, .int x4, .int x5])) :: fr) sz)) (va_Qi (fun r (_ : Unit) => r = x5) (fun _ t => tp_out E (va_A ((a1, .inr (6, [.ref a2, .int x3, .int x4, .int x5])) :: fr) sz) ((a1, .inr (6, [.ref a2, .int x3, .int x4, .int x5])) :: fr) t) (va_A ((a1, .inr (6, [.ref a2, .int x3, .int x4, .int x5])) :: fr) sz)) 0 0 (va_A ((a1, .inr (6, [.ref a2, .int x3, .int x4, .int x5])) :: fr) sz) := by
  refine Met.ofW (cc := b_AS_length) (maxL := 1) (ret := (some .int)) (by decide) rfl ?_
  intro p e s m args below meth c s₁ B hml hv
  obtain ⟨rfl, hsz, hP, hK, hD0⟩ := hv
  have hx := B.exec
  have hb := B.bytes
  have hr := B.returns
  have htg : ∀ w ∈ tp_G, w.before ([.ref a1] : List Value).toArray s = true := fun w h => atoms_spec (ws := w_AS_length) B.pre w (List.mem_cons_of_mem _ h)
  have hown : s.vm.findClass "java/lang/AbstractStringBuilder" = some m.cls := findClass_of_methodNamed B.named
  have hlocks := B.notSynchronized
  subst hsz
  have hD := hD0.self (sz := s.heap.size)
  generalize hAe : va_A ((a1, .inr (6, [.ref a2, .int x3, .int x4, .int x5])) :: fr) s.heap.size = A at hD hK ⊢
  have hA : ∀ q : Nat, s.heap.size ≤ q → A q := fun q h => by rw [← hAe]; exact Or.inr h
  have hS : va_S A s.heap s.heap [] := va_S.rf
  have hl := lv_entry ([.ref a1]) (n := 1) (Nat.le_of_ble_eq_true rfl)
  rw [lg_entry_eq]
  generalize (lg_sl ([.ref a1]) ++ List.replicate (1 - (lg_sl ([.ref a1])).length) Slot.unset).toArray = ls at hl ⊢
  have hl : lv_has ls 1 [(0, .ref a1)] := hl
  refine lv_aload_n hx hb d_AS_length_0 rfl (lv_at hl 0 rfl) ?_
  refine va_get (D := tp_D E) (ci := 6) (v := .int x5) (C := qR_SB) (T := qF_SB) (N := 4) hx hb htg qi_SB hown hK.1 hP 0 rfl rfl 3 (by decide) (htg _ kl_AS_79) (fun _ h => h) rfl d_AS_length_1 ?_
  exact W.iret (v := x5) hx hb hr (fun t ht hW => ⟨⟨_, (), rfl, rfl, by rw [ht]; exact hP, hD⟩, hS.F ht⟩) hS.2.2 d_AS_length_4
set_option maxHeartbeats 400000 in
set_option maxRecDepth 100000 in
theorem c_SB_length_1 (l : Launch) (E : tp_Env) (fr : va_W) (sz : Nat) (a1 : Nat) (a2 : Nat) (x3 : Int32) (x4 : Int32) (x5 : Int32)  : Met l y_SB_length w_SB_length ({ frames := 1, cells := 0, slots := 0, locals := 20 }) (va_Pc [.ref a1] (tp_in E ((a1, .inr (6, [.ref a2, .int x3, .int x4, .int x5])) :: fr) sz)) (va_Qi (fun r (_ : Unit) => r = x5) (fun _ t => tp_out E (va_A ((a1, .inr (6, [.ref a2, .int x3, .int x4, .int x5])) :: fr) sz) ((a1, .inr (6, [.ref a2, .int x3, .int x4, .int x5])) :: fr) t) (va_A ((a1, .inr (6, [.ref a2, .int x3, .int x4, .int x5])) :: fr) sz)) 0 0 (va_A ((a1, .inr (6, [.ref a2, .int x3, .int x4, .int x5])) :: fr) sz) := by
  refine Met.ofW (cc := b_SB_length) (maxL := 1) (ret := (some .int)) (by decide) rfl ?_
  intro p e s m args below meth c s₁ B hml hv
  obtain ⟨rfl, hsz, hP, hK, hD0⟩ := hv
  have hx := B.exec
  have hb := B.bytes
  have hr := B.returns
  have htg : ∀ w ∈ tp_G, w.before ([.ref a1] : List Value).toArray s = true := fun w h => atoms_spec (ws := w_SB_length) B.pre w (List.mem_cons_of_mem _ h)
  have hown : s.vm.findClass "java/lang/StringBuilder" = some m.cls := findClass_of_methodNamed B.named
  have hlocks := B.notSynchronized
  subst hsz
  have hD := hD0.self (sz := s.heap.size)
  generalize hAe : va_A ((a1, .inr (6, [.ref a2, .int x3, .int x4, .int x5])) :: fr) s.heap.size = A at hD hK ⊢
  have hA : ∀ q : Nat, s.heap.size ≤ q → A q := fun q h => by rw [← hAe]; exact Or.inr h
  have hS : va_S A s.heap s.heap [] := va_S.rf
  have hl := lv_entry ([.ref a1]) (n := 1) (Nat.le_of_ble_eq_true rfl)
  rw [lg_entry_eq]
  generalize (lg_sl ([.ref a1]) ++ List.replicate (1 - (lg_sl ([.ref a1])).length) Slot.unset).toArray = ls at hl ⊢
  have hl : lv_has ls 1 [(0, .ref a1)] := hl
  refine lv_aload_n hx hb d_SB_length_0 rfl (lv_at hl 0 rfl) ?_
  refine tp_ci (tp_rU (As := []) (rest := []) ⟨hx, hb, hml, hown, htg⟩ (c_AS_length_1 l E fr _ a1 a2 x3 x4 x5 ) (tp_cwU 0 htg kc_AS_length (htg _ kl_SB_343) (htg _ kq_AS_length) (htg _ kz_SB) (htg _ km_AS_length) (htg _ ki_AS) ⟨by decide, by decide +kernel⟩ ⟨Nat.le_of_ble_eq_true rfl, Nat.le_of_ble_eq_true rfl⟩) (va_recv (ci := 6) (q0 := 0) hK.1 hP rfl rfl) (hK.1.1 6 _ rfl).2 hK hP hD hS hA rfl hl.1 rfl (Nat.le_of_ble_eq_true rfl) d_SB_length_1 ⟨Nat.le_of_ble_eq_true rfl, Nat.le_of_ble_eq_true rfl⟩) hD hS hA (fun r u H locs hw hP hD hS => ?_)
  subst r
  have hP : va_P (tp_D E) tp_cl ((a1, .inr (6, [.ref a2, .int x3, .int x4, .int x5])) :: fr) H := hP
  have hD : va_D A ((a1, .inr (6, [.ref a2, .int x3, .int x4, .int x5])) :: fr) := hD
  exact W.iret (v := x5) hx hb hr (fun t ht hW => ⟨⟨_, (), rfl, rfl, by rw [ht]; exact hP, hD⟩, hS.F ht⟩) hS.2.2 d_SB_length_4
set_option maxHeartbeats 400000 in
set_option maxRecDepth 100000 in
theorem c_T_letter_2 (l : Launch) (hfl : l.stackTraces = false) (E : tp_Env) (fr : va_W) (sz : Nat) (a1 : Nat) (a2 : Nat) (a3 : Nat) (a4 : Nat) (x5 : Int32) (x6 : Int32) (x7 : Int32) (a8 : Nat) (x9 : Int32) (x10 : Int32) (x11 : Int32) (h1 : ¬ x7 < 0) (h2 : ¬ x7 < x11) : vx_Met l y_T_letter w_T_letter ({ frames := 6, cells := 1, slots := 6, locals := 89 }) (va_Pc [.ref a1, .int x7] (tp_in E ((a1, .inr (0, [.ref a2, .ref a3, .ref a4, .int x5, .int x6])) :: (a4, .inr (6, [.ref a8, .int x9, .int x10, .int x11])) :: fr) sz)) (va_Qi (fun (_ : Int32) (_ : Unit) => False) (fun _ _ => True) (va_A ((a1, .inr (0, [.ref a2, .ref a3, .ref a4, .int x5, .int x6])) :: (a4, .inr (6, [.ref a8, .int x9, .int x10, .int x11])) :: fr) sz)) (vx_X (fun (_ : Unit) => True) (fun x _ t => x = "java/lang/IndexOutOfBoundsException" ∧ tp_out E (va_A ((a1, .inr (0, [.ref a2, .ref a3, .ref a4, .int x5, .int x6])) :: (a4, .inr (6, [.ref a8, .int x9, .int x10, .int x11])) :: fr) sz) ((a4, .inr (6, [.ref a8, .int x9, .int x10, .int x11])) :: (a1, .inr (0, [.ref a2, .ref a3, .ref a4, .int x5, .int x6])) :: fr) t) (va_A ((a1, .inr (0, [.ref a2, .ref a3, .ref a4, .int x5, .int x6])) :: (a4, .inr (6, [.ref a8, .int x9, .int x10, .int x11])) :: fr) sz)) 1 6 (va_A ((a1, .inr (0, [.ref a2, .ref a3, .ref a4, .int x5, .int x6])) :: (a4, .inr (6, [.ref a8, .int x9, .int x10, .int x11])) :: fr) sz) := by
  refine vx_ofW (cc := b_T_letter) (maxL := 2) (ret := (some .int)) (by decide) rfl ?_
  intro p e s m args below meth c s₁ B hml htab hv
  obtain ⟨rfl, hsz, hP, hK, hD0⟩ := hv
  have hx := B.exec
  have hb := B.bytes
  have hr := B.returns
  have htg : ∀ w ∈ tp_G, w.before ([.ref a1, .int x7] : List Value).toArray s = true := fun w h => atoms_spec (ws := w_T_letter) B.pre w (List.mem_cons_of_mem _ h)
  have hown : s.vm.findClass "TwoPass" = some m.cls := findClass_of_methodNamed B.named
  have hlocks := B.notSynchronized
  subst hsz
  have hD := hD0.self (sz := s.heap.size)
  generalize hAe : va_A ((a1, .inr (0, [.ref a2, .ref a3, .ref a4, .int x5, .int x6])) :: (a4, .inr (6, [.ref a8, .int x9, .int x10, .int x11])) :: fr) s.heap.size = A at hD hK ⊢
  have hA : ∀ q : Nat, s.heap.size ≤ q → A q := fun q h => by rw [← hAe]; exact Or.inr h
  have hS : va_S A s.heap s.heap [] := va_S.rf
  have hl := lv_entry ([.ref a1, .int x7]) (n := 2) (Nat.le_of_ble_eq_true rfl)
  rw [lg_entry_eq]
  generalize (lg_sl ([.ref a1, .int x7]) ++ List.replicate (2 - (lg_sl ([.ref a1, .int x7])).length) Slot.unset).toArray = ls at hl ⊢
  have hl : lv_has ls 2 [(0, .ref a1), (1, .int x7)] := hl
  refine lv_iload_n hx hb d_T_letter_0 rfl (lv_at hl 1 rfl) ?_
  refine lv_if_lt (tgt := 15) hx hb d_T_letter_1 (by decide) (fun h => absurd h h1) (fun _ => ?_)
  refine lv_iload_n hx hb d_T_letter_4 rfl (lv_at hl 1 rfl) ?_
  refine lv_aload_n hx hb d_T_letter_5 rfl (lv_at hl 0 rfl) ?_
  refine va_get (D := tp_D E) (ci := 0) (v := .ref a4) (C := qR_T) (T := qF_T) (N := 5) hx hb htg qi_T hown hK.1 hP 0 rfl rfl 2 (by decide) (htg _ kl_T_26) (fun _ h => h) rfl d_T_letter_6 ?_
  have hP : va_P (tp_D E) tp_cl ((a4, .inr (6, [.ref a8, .int x9, .int x10, .int x11])) :: (a1, .inr (0, [.ref a2, .ref a3, .ref a4, .int x5, .int x6])) :: fr) _ := tp_mvP 1 rfl hP
  have hD : va_D A ((a4, .inr (6, [.ref a8, .int x9, .int x10, .int x11])) :: (a1, .inr (0, [.ref a2, .ref a3, .ref a4, .int x5, .int x6])) :: fr) := tp_mvD 1 rfl hD
  refine tp_ci (tp_rV (As := []) (rest := [.int x7]) ⟨hx, hb, hml, hown, htg⟩ (c_SB_length_1 l E ((a1, .inr (0, [.ref a2, .ref a3, .ref a4, .int x5, .int x6])) :: fr) _ a4 a8 x9 x10 x11 ) (⟨callB_of 0 htg (tp_good0 kc_SB_length) rfl rfl rfl (htg _ ki_SB) (htg _ kl_T_172) ⟨by decide, by decide, by decide +kernel⟩ ⟨Nat.le_of_ble_eq_true rfl, Nat.le_of_ble_eq_true rfl⟩, htg _ km_SB_length, htg _ kv_SB_SB_length⟩) (va_recv (ci := 6) (q0 := 0) hK.1 hP rfl rfl) hK hP hD hS hA rfl hl.1 rfl (Nat.le_of_ble_eq_true rfl) d_T_letter_9 ⟨Nat.le_of_ble_eq_true rfl, Nat.le_of_ble_eq_true rfl⟩) hD hS hA (fun r u H locs hw hP hD hS => ?_)
  subst r
  have hP : va_P (tp_D E) tp_cl ((a4, .inr (6, [.ref a8, .int x9, .int x10, .int x11])) :: (a1, .inr (0, [.ref a2, .ref a3, .ref a4, .int x5, .int x6])) :: fr) H := hP
  have hD : va_D A ((a4, .inr (6, [.ref a8, .int x9, .int x10, .int x11])) :: (a1, .inr (0, [.ref a2, .ref a3, .ref a4, .int x5, .int x6])) :: fr) := hD
  refine lv_icmp_lt (tgt := 23) hx hb d_T_letter_12 (by decide) (fun h => absurd h h2) (fun _ => ?_)
  exact vx_throw0 (own := "TwoPass") (cls := "java/lang/IndexOutOfBoundsException") (names := ["java/lang/RuntimeException", "java/lang/Exception"]) (ik := 115) (ic := 117) hx hb hfl hown (by decide +kernel) (by decide +kernel) (htg _ kl_T_115) (htg _ kx_IndexOutOfBoundsException) (kxa_T_117 htg hK.2.2.2.1) kxg_T_117 hK.2.1 hK.2.2.1 hS (hl.1.trans hml.symm) d_T_letter_15 d_T_letter_18 d_T_letter_19 d_T_letter_22 (fun x h => (htab x h).elim) (Nat.le_of_ble_eq_true rfl) (Nat.le_of_ble_eq_true rfl) (Nat.le_of_ble_eq_true rfl) (Nat.le_of_ble_eq_true rfl) hlocks (fun t hvm hz hq => ⟨(), trivial, ⟨rfl, hP.kept (fun k q hk => hq _ (vx_lt hP hk)), hD⟩, ⟨Nat.le_trans hS.1 hz, fun q h1 h2 => (hq q (Nat.lt_of_lt_of_le h1 hS.1)).trans (hS.2.1 q h1 h2)⟩⟩) hS.2.2 (Nat.le_of_ble_eq_true rfl) (Nat.le_of_ble_eq_true rfl)
set_option maxHeartbeats 400000 in
set_option maxRecDepth 100000 in
theorem c_T_requireNames_1 (l : Launch) (E : tp_Env) (fr : va_W) (sz : Nat) (a1 : Nat) (a2 : Nat) (a3 : Nat) (a4 : Nat) (x5 : Int32) (x6 : Int32) (f7 : Nat → Option Nat) (a8 : Nat) (a9 : Nat) (x10 : Int32) (x11 : Int32) (a12 : Nat) (a13 : Nat) (x14 : Int32) (x15 : Int32) (h1 : f7 0 = some a8) (h2 : x11 ≤ 0) (h3 : f7 1 = some a12) (h4 : x15 ≤ 0) : Met l y_T_requireNames w_T_requireNames ({ frames := 2, cells := 0, slots := 0, locals := 40 }) (va_Pc [.ref a1] (tp_in E ((a1, .inr (0, [.ref a2, .ref a3, .ref a4, .int x5, .int x6])) :: (a3, .inl (tp_ty E 6, 2, .inr (.inr (.inr (.inr f7))))) :: (a8, .inr (2, [.ref a9])) :: (a9, .inr (5, [.int x10, .ref (tp_ad E 100), .int x11])) :: (a12, .inr (2, [.ref a13])) :: (a13, .inr (5, [.int x14, .ref (tp_ad E 100), .int x15])) :: fr) sz)) (va_Qv (fun (_ : Unit) => True) (fun _ t => tp_out E (va_A ((a1, .inr (0, [.ref a2, .ref a3, .ref a4, .int x5, .int x6])) :: (a3, .inl (tp_ty E 6, 2, .inr (.inr (.inr (.inr f7))))) :: (a8, .inr (2, [.ref a9])) :: (a9, .inr (5, [.int x10, .ref (tp_ad E 100), .int x11])) :: (a12, .inr (2, [.ref a13])) :: (a13, .inr (5, [.int x14, .ref (tp_ad E 100), .int x15])) :: fr) sz) ((a13, .inr (5, [.int x14, .ref (tp_ad E 100), .int x15])) :: (a12, .inr (2, [.ref a13])) :: (a9, .inr (5, [.int x10, .ref (tp_ad E 100), .int x11])) :: (a8, .inr (2, [.ref a9])) :: (a1, .inr (0, [.ref a2, .ref a3, .ref a4, .int x5, .int x6])) :: (a3, .inl (tp_ty E 6, 2, .inr (.inr (.inr (.inr f7))))) :: fr) t) (va_A ((a1, .inr (0, [.ref a2, .ref a3, .ref a4, .int x5, .int x6])) :: (a3, .inl (tp_ty E 6, 2, .inr (.inr (.inr (.inr f7))))) :: (a8, .inr (2, [.ref a9])) :: (a9, .inr (5, [.int x10, .ref (tp_ad E 100), .int x11])) :: (a12, .inr (2, [.ref a13])) :: (a13, .inr (5, [.int x14, .ref (tp_ad E 100), .int x15])) :: fr) sz)) 0 0 (va_A ((a1, .inr (0, [.ref a2, .ref a3, .ref a4, .int x5, .int x6])) :: (a3, .inl (tp_ty E 6, 2, .inr (.inr (.inr (.inr f7))))) :: (a8, .inr (2, [.ref a9])) :: (a9, .inr (5, [.int x10, .ref (tp_ad E 100), .int x11])) :: (a12, .inr (2, [.ref a13])) :: (a13, .inr (5, [.int x14, .ref (tp_ad E 100), .int x15])) :: fr) sz) := by
  refine Met.ofW (cc := b_T_requireNames) (maxL := 3) (ret := none) (by decide) rfl ?_
  intro p e s m args below meth c s₁ B hml hv
  obtain ⟨rfl, hsz, hP, hK, hD0⟩ := hv
  have hx := B.exec
  have hb := B.bytes
  have hr := B.returns
  have htg : ∀ w ∈ tp_G, w.before ([.ref a1] : List Value).toArray s = true := fun w h => atoms_spec (ws := w_T_requireNames) B.pre w (List.mem_cons_of_mem _ h)
  have hown : s.vm.findClass "TwoPass" = some m.cls := findClass_of_methodNamed B.named
  have hlocks := B.notSynchronized
  subst hsz
  have hD := hD0.self (sz := s.heap.size)
  generalize hAe : va_A ((a1, .inr (0, [.ref a2, .ref a3, .ref a4, .int x5, .int x6])) :: (a3, .inl (tp_ty E 6, 2, .inr (.inr (.inr (.inr f7))))) :: (a8, .inr (2, [.ref a9])) :: (a9, .inr (5, [.int x10, .ref (tp_ad E 100), .int x11])) :: (a12, .inr (2, [.ref a13])) :: (a13, .inr (5, [.int x14, .ref (tp_ad E 100), .int x15])) :: fr) s.heap.size = A at hD hK ⊢
  have hA : ∀ q : Nat, s.heap.size ≤ q → A q := fun q h => by rw [← hAe]; exact Or.inr h
  have hS : va_S A s.heap s.heap [] := va_S.rf
  have hl := lv_entry ([.ref a1]) (n := 3) (Nat.le_of_ble_eq_true rfl)
  rw [lg_entry_eq]
  generalize (lg_sl ([.ref a1]) ++ List.replicate (3 - (lg_sl ([.ref a1])).length) Slot.unset).toArray = ls at hl ⊢
  have hl : lv_has ls 3 [(0, .ref a1)] := hl
  refine lv_iconst (v := 0) hx hb d_T_requireNames_0 (by decide) ?_
  refine lv_istore_n (lv' := [(1, .int 0), (0, .ref a1)]) hx hb d_T_requireNames_1 rfl hl (by decide) rfl (fun ls hl => ?_)
  refine lv_iload_n hx hb d_T_requireNames_2 rfl (lv_at hl 0 rfl) ?_
  refine lv_iconst (v := 2) hx hb d_T_requireNames_3 (by decide) ?_
  refine lv_icmp_ge (tgt := 49) hx hb d_T_requireNames_4 (by decide) (fun h => absurd h (by decide)) (fun _ => ?_)
  refine lv_iconst (v := 0) hx hb d_T_requireNames_7 (by decide) ?_
  refine lv_istore_n (lv' := [(2, .int 0), (1, .int 0), (0, .ref a1)]) hx hb d_T_requireNames_8 rfl hl (by decide) rfl (fun ls hl => ?_)
  refine lv_iload_n hx hb d_T_requireNames_9 rfl (lv_at hl 0 rfl) ?_
  refine lv_aload_n hx hb d_T_requireNames_10 rfl (lv_at hl 2 rfl) ?_
  refine va_get (D := tp_D E) (ci := 0) (v := .ref a3) (C := qR_T) (T := qF_T) (N := 5) hx hb htg qi_T hown hK.1 hP 0 rfl rfl 1 (by decide) (htg _ kl_T_19) (fun _ h => h) rfl d_T_requireNames_11 ?_
  refine lv_iload_n hx hb d_T_requireNames_14 rfl (lv_at hl 1 rfl) ?_
  refine va_aldq (D := tp_D E) hx hb hK.1 hP 1 6 rfl rfl (by unfold vp_in; decide) d_T_requireNames_15 ?_
  refine tp_topr (k := 0) (a := a8) rfl h1 ?_
  have hP : va_P (tp_D E) tp_cl ((a9, .inr (5, [.int x10, .ref (tp_ad E 100), .int x11])) :: (a1, .inr (0, [.ref a2, .ref a3, .ref a4, .int x5, .int x6])) :: (a3, .inl (tp_ty E 6, 2, .inr (.inr (.inr (.inr f7))))) :: (a8, .inr (2, [.ref a9])) :: (a12, .inr (2, [.ref a13])) :: (a13, .inr (5, [.int x14, .ref (tp_ad E 100), .int x15])) :: fr) _ := tp_mvP 3 rfl hP
  have hD : va_D A ((a9, .inr (5, [.int x10, .ref (tp_ad E 100), .int x11])) :: (a1, .inr (0, [.ref a2, .ref a3, .ref a4, .int x5, .int x6])) :: (a3, .inl (tp_ty E 6, 2, .inr (.inr (.inr (.inr f7))))) :: (a8, .inr (2, [.ref a9])) :: (a12, .inr (2, [.ref a13])) :: (a13, .inr (5, [.int x14, .ref (tp_ad E 100), .int x15])) :: fr) := tp_mvD 3 rfl hD
  have hP : va_P (tp_D E) tp_cl ((a8, .inr (2, [.ref a9])) :: (a9, .inr (5, [.int x10, .ref (tp_ad E 100), .int x11])) :: (a1, .inr (0, [.ref a2, .ref a3, .ref a4, .int x5, .int x6])) :: (a3, .inl (tp_ty E 6, 2, .inr (.inr (.inr (.inr f7))))) :: (a12, .inr (2, [.ref a13])) :: (a13, .inr (5, [.int x14, .ref (tp_ad E 100), .int x15])) :: fr) _ := tp_mvP 3 rfl hP
  have hD : va_D A ((a8, .inr (2, [.ref a9])) :: (a9, .inr (5, [.int x10, .ref (tp_ad E 100), .int x11])) :: (a1, .inr (0, [.ref a2, .ref a3, .ref a4, .int x5, .int x6])) :: (a3, .inl (tp_ty E 6, 2, .inr (.inr (.inr (.inr f7))))) :: (a12, .inr (2, [.ref a13])) :: (a13, .inr (5, [.int x14, .ref (tp_ad E 100), .int x15])) :: fr) := tp_mvD 3 rfl hD
  refine tp_ci (tp_rV (As := []) (rest := [.int 0]) ⟨hx, hb, hml, hown, htg⟩ (c_S_count_1 l E ((a1, .inr (0, [.ref a2, .ref a3, .ref a4, .int x5, .int x6])) :: (a3, .inl (tp_ty E 6, 2, .inr (.inr (.inr (.inr f7))))) :: (a12, .inr (2, [.ref a13])) :: (a13, .inr (5, [.int x14, .ref (tp_ad E 100), .int x15])) :: fr) _ a8 a9 x10 x11 ) (⟨callB_of 0 htg (tp_good0 kc_S_count) rfl rfl rfl (htg _ ki_S) (htg _ kl_T_66) ⟨by decide, by decide, by decide +kernel⟩ ⟨Nat.le_of_ble_eq_true rfl, Nat.le_of_ble_eq_true rfl⟩, htg _ km_S_count, htg _ kv_S_S_count⟩) (va_recv (ci := 2) (q0 := 0) hK.1 hP rfl rfl) hK hP hD hS hA rfl hl.1 rfl (Nat.le_of_ble_eq_true rfl) d_T_requireNames_16 ⟨Nat.le_of_ble_eq_true rfl, Nat.le_of_ble_eq_true rfl⟩) hD hS hA (fun r u H locs hw hP hD hS => ?_)
  subst r
  have hP : va_P (tp_D E) tp_cl ((a9, .inr (5, [.int x10, .ref (tp_ad E 100), .int x11])) :: (a8, .inr (2, [.ref a9])) :: (a1, .inr (0, [.ref a2, .ref a3, .ref a4, .int x5, .int x6])) :: (a3, .inl (tp_ty E 6, 2, .inr (.inr (.inr (.inr f7))))) :: (a12, .inr (2, [.ref a13])) :: (a13, .inr (5, [.int x14, .ref (tp_ad E 100), .int x15])) :: fr) H := hP
  have hD : va_D A ((a9, .inr (5, [.int x10, .ref (tp_ad E 100), .int x11])) :: (a8, .inr (2, [.ref a9])) :: (a1, .inr (0, [.ref a2, .ref a3, .ref a4, .int x5, .int x6])) :: (a3, .inl (tp_ty E 6, 2, .inr (.inr (.inr (.inr f7))))) :: (a12, .inr (2, [.ref a13])) :: (a13, .inr (5, [.int x14, .ref (tp_ad E 100), .int x15])) :: fr) := hD
  refine lv_icmp_ge (tgt := 43) hx hb d_T_requireNames_19 (by decide) (fun _ => ?_) (fun h => absurd h2 h)
  refine lv_iinc (k := 1) (v := 1) (lv' := [(1, .int 1), (2, .int 0), (0, .ref a1)]) hx hb d_T_requireNames_43 hl rfl (by decide) (by decide) rfl (fun ls hl => ?_)
  refine lv_goto (tgt := 2) hx hb d_T_requireNames_46 (by decide) ?_
  refine lv_iload_n hx hb d_T_requireNames_2 rfl (lv_at hl 0 rfl) ?_
  refine lv_iconst (v := 2) hx hb d_T_requireNames_3 (by decide) ?_
  refine lv_icmp_ge (tgt := 49) hx hb d_T_requireNames_4 (by decide) (fun h => absurd h (by decide)) (fun _ => ?_)
  refine lv_iconst (v := 0) hx hb d_T_requireNames_7 (by decide) ?_
  refine lv_istore_n (lv' := [(2, .int 0), (1, .int 1), (0, .ref a1)]) hx hb d_T_requireNames_8 rfl hl (by decide) rfl (fun ls hl => ?_)
  refine lv_iload_n hx hb d_T_requireNames_9 rfl (lv_at hl 0 rfl) ?_
  refine lv_aload_n hx hb d_T_requireNames_10 rfl (lv_at hl 2 rfl) ?_
  refine va_get (D := tp_D E) (ci := 0) (v := .ref a3) (C := qR_T) (T := qF_T) (N := 5) hx hb htg qi_T hown hK.1 hP 2 rfl rfl 1 (by decide) (htg _ kl_T_19) (fun _ h => h) rfl d_T_requireNames_11 ?_
  refine lv_iload_n hx hb d_T_requireNames_14 rfl (lv_at hl 1 rfl) ?_
  refine va_aldq (D := tp_D E) hx hb hK.1 hP 3 6 rfl rfl (by unfold vp_in; decide) d_T_requireNames_15 ?_
  refine tp_topr (k := 1) (a := a12) rfl h3 ?_
  have hP : va_P (tp_D E) tp_cl ((a13, .inr (5, [.int x14, .ref (tp_ad E 100), .int x15])) :: (a9, .inr (5, [.int x10, .ref (tp_ad E 100), .int x11])) :: (a8, .inr (2, [.ref a9])) :: (a1, .inr (0, [.ref a2, .ref a3, .ref a4, .int x5, .int x6])) :: (a3, .inl (tp_ty E 6, 2, .inr (.inr (.inr (.inr f7))))) :: (a12, .inr (2, [.ref a13])) :: fr) _ := tp_mvP 5 rfl hP
  have hD : va_D A ((a13, .inr (5, [.int x14, .ref (tp_ad E 100), .int x15])) :: (a9, .inr (5, [.int x10, .ref (tp_ad E 100), .int x11])) :: (a8, .inr (2, [.ref a9])) :: (a1, .inr (0, [.ref a2, .ref a3, .ref a4, .int x5, .int x6])) :: (a3, .inl (tp_ty E 6, 2, .inr (.inr (.inr (.inr f7))))) :: (a12, .inr (2, [.ref a13])) :: fr) := tp_mvD 5 rfl hD
  have hP : va_P (tp_D E) tp_cl ((a12, .inr (2, [.ref a13])) :: (a13, .inr (5, [.int x14, .ref (tp_ad E 100), .int x15])) :: (a9, .inr (5, [.int x10, .ref (tp_ad E 100), .int x11])) :: (a8, .inr (2, [.ref a9])) :: (a1, .inr (0, [.ref a2, .ref a3, .ref a4, .int x5, .int x6])) :: (a3, .inl (tp_ty E 6, 2, .inr (.inr (.inr (.inr f7))))) :: fr) _ := tp_mvP 5 rfl hP
  have hD : va_D A ((a12, .inr (2, [.ref a13])) :: (a13, .inr (5, [.int x14, .ref (tp_ad E 100), .int x15])) :: (a9, .inr (5, [.int x10, .ref (tp_ad E 100), .int x11])) :: (a8, .inr (2, [.ref a9])) :: (a1, .inr (0, [.ref a2, .ref a3, .ref a4, .int x5, .int x6])) :: (a3, .inl (tp_ty E 6, 2, .inr (.inr (.inr (.inr f7))))) :: fr) := tp_mvD 5 rfl hD
  refine tp_ci (tp_rV (As := []) (rest := [.int 0]) ⟨hx, hb, hml, hown, htg⟩ (c_S_count_1 l E ((a9, .inr (5, [.int x10, .ref (tp_ad E 100), .int x11])) :: (a8, .inr (2, [.ref a9])) :: (a1, .inr (0, [.ref a2, .ref a3, .ref a4, .int x5, .int x6])) :: (a3, .inl (tp_ty E 6, 2, .inr (.inr (.inr (.inr f7))))) :: fr) _ a12 a13 x14 x15 ) (⟨callB_of 0 htg (tp_good0 kc_S_count) rfl rfl rfl (htg _ ki_S) (htg _ kl_T_66) ⟨by decide, by decide, by decide +kernel⟩ ⟨Nat.le_of_ble_eq_true rfl, Nat.le_of_ble_eq_true rfl⟩, htg _ km_S_count, htg _ kv_S_S_count⟩) (va_recv (ci := 2) (q0 := 0) hK.1 hP rfl rfl) hK hP hD hS hA rfl hl.1 rfl (Nat.le_of_ble_eq_true rfl) d_T_requireNames_16 ⟨Nat.le_of_ble_eq_true rfl, Nat.le_of_ble_eq_true rfl⟩) hD hS hA (fun r u H locs hw hP hD hS => ?_)
  subst r
  have hP : va_P (tp_D E) tp_cl ((a13, .inr (5, [.int x14, .ref (tp_ad E 100), .int x15])) :: (a12, .inr (2, [.ref a13])) :: (a9, .inr (5, [.int x10, .ref (tp_ad E 100), .int x11])) :: (a8, .inr (2, [.ref a9])) :: (a1, .inr (0, [.ref a2, .ref a3, .ref a4, .int x5, .int x6])) :: (a3, .inl (tp_ty E 6, 2, .inr (.inr (.inr (.inr f7))))) :: fr) H := hP
  have hD : va_D A ((a13, .inr (5, [.int x14, .ref (tp_ad E 100), .int x15])) :: (a12, .inr (2, [.ref a13])) :: (a9, .inr (5, [.int x10, .ref (tp_ad E 100), .int x11])) :: (a8, .inr (2, [.ref a9])) :: (a1, .inr (0, [.ref a2, .ref a3, .ref a4, .int x5, .int x6])) :: (a3, .inl (tp_ty E 6, 2, .inr (.inr (.inr (.inr f7))))) :: fr) := hD
  refine lv_icmp_ge (tgt := 43) hx hb d_T_requireNames_19 (by decide) (fun _ => ?_) (fun h => absurd h4 h)
  refine lv_iinc (k := 1) (v := 2) (lv' := [(1, .int 2), (2, .int 0), (0, .ref a1)]) hx hb d_T_requireNames_43 hl rfl (by decide) (by decide) rfl (fun ls hl => ?_)
  refine lv_goto (tgt := 2) hx hb d_T_requireNames_46 (by decide) ?_
  refine lv_iload_n hx hb d_T_requireNames_2 rfl (lv_at hl 0 rfl) ?_
  refine lv_iconst (v := 2) hx hb d_T_requireNames_3 (by decide) ?_
  refine lv_icmp_ge (tgt := 49) hx hb d_T_requireNames_4 (by decide) (fun _ => ?_) (fun h => absurd (by decide) h)
  exact W.vret hx hb hr (fun t ht hW => ⟨⟨(), rfl, trivial, by rw [ht]; exact hP, hD⟩, hS.F ht⟩) hS.2.2 d_T_requireNames_49
set_option maxHeartbeats 400000 in
set_option maxRecDepth 100000 in
theorem c_T_aligned_2 (l : Launch) (E : tp_Env) (fr : va_W) (sz : Nat)   : Met l y_T_aligned w_T_aligned ({ frames := 0, cells := 0, slots := 0, locals := 0 }) (va_Pc [.int 0] (tp_in E fr sz)) (va_Qi (fun r (_ : Unit) => r = 0) (fun _ t => tp_out E (va_A fr sz) fr t) (va_A fr sz)) 0 0 (va_A fr sz) := by
  refine Met.ofW (cc := b_T_aligned) (maxL := 1) (ret := (some .int)) (by decide) rfl ?_
  intro p e s m args below meth c s₁ B hml hv
  obtain ⟨rfl, hsz, hP, hK, hD0⟩ := hv
  have hx := B.exec
  have hb := B.bytes
  have hr := B.returns
  have htg : ∀ w ∈ tp_G, w.before ([.int 0] : List Value).toArray s = true := fun w h => atoms_spec (ws := w_T_aligned) B.pre w (List.mem_cons_of_mem _ h)
  have hown : s.vm.findClass "TwoPass" = some m.cls := findClass_of_methodNamed B.named
  have hlocks := B.notSynchronized
  subst hsz
  have hD := hD0.self (sz := s.heap.size)
  generalize hAe : va_A fr s.heap.size = A at hD hK ⊢
  have hA : ∀ q : Nat, s.heap.size ≤ q → A q := fun q h => by rw [← hAe]; exact Or.inr h
  have hS : va_S A s.heap s.heap [] := va_S.rf
  have hl := lv_entry ([.int 0]) (n := 1) (Nat.le_of_ble_eq_true rfl)
  rw [lg_entry_eq]
  generalize (lg_sl ([.int 0]) ++ List.replicate (1 - (lg_sl ([.int 0])).length) Slot.unset).toArray = ls at hl ⊢
  have hl : lv_has ls 1 [(0, .int 0)] := hl
  refine lv_iload_n hx hb d_T_aligned_0 rfl (lv_at hl 0 rfl) ?_
  refine lv_iconst (v := 3) hx hb d_T_aligned_1 (by decide) ?_
  refine lv_iadd hx hb d_T_aligned_2 ?_
  refine tp_topi (v := 3) (by decide) ?_
  refine lv_bipush (v := (-4)) hx hb d_T_aligned_3 (by decide) ?_
  refine lv_iand hx hb d_T_aligned_5 ?_
  refine tp_topi (v := 0) (by decide) ?_
  exact W.iret (v := 0) hx hb hr (fun t ht hW => ⟨⟨_, (), rfl, rfl, by rw [ht]; exact hP, hD⟩, hS.F ht⟩) hS.2.2 d_T_aligned_6
set_option maxHeartbeats 400000 in
set_option maxRecDepth 100000 in
theorem c_T_layOut_1 (l : Launch) (E : tp_Env) (fr : va_W) (sz : Nat) (a1 : Nat) (a2 : Nat) (a3 : Nat) (a4 : Nat) (x5 : Int32) (x6 : Int32) (f7 : Nat → Option Nat) (a8 : Nat) (a9 : Nat) (x10 : Int32) (x11 : Int32) (a12 : Nat) (a13 : Nat) (x14 : Int32) (x15 : Int32) (h1 : f7 0 = some a8) (h2 : x11 ≤ 0) (h3 : f7 1 = some a12) (h4 : x15 ≤ 0) : Met l y_T_layOut w_T_layOut ({ frames := 2, cells := 0, slots := 0, locals := 40 }) (va_Pc [.ref a1] (tp_in E ((a1, .inr (0, [.ref a2, .ref a3, .ref a4, .int x5, .int x6])) :: (a3, .inl (tp_ty E 6, 2, .inr (.inr (.inr (.inr f7))))) :: (a8, .inr (2, [.ref a9])) :: (a9, .inr (5, [.int x10, .ref (tp_ad E 100), .int x11])) :: (a12, .inr (2, [.ref a13])) :: (a13, .inr (5, [.int x14, .ref (tp_ad E 100), .int x15])) :: fr) sz)) (va_Qv (fun (_ : Unit) => True) (fun _ t => tp_out E (va_A ((a1, .inr (0, [.ref a2, .ref a3, .ref a4, .int x5, .int x6])) :: (a3, .inl (tp_ty E 6, 2, .inr (.inr (.inr (.inr f7))))) :: (a8, .inr (2, [.ref a9])) :: (a9, .inr (5, [.int x10, .ref (tp_ad E 100), .int x11])) :: (a12, .inr (2, [.ref a13])) :: (a13, .inr (5, [.int x14, .ref (tp_ad E 100), .int x15])) :: fr) sz) ((a13, .inr (5, [.int x14, .ref (tp_ad E 100), .int x15])) :: (a12, .inr (2, [.ref a13])) :: (a9, .inr (5, [.int x10, .ref (tp_ad E 100), .int x11])) :: (a8, .inr (2, [.ref a9])) :: (a1, .inr (0, [.ref a2, .ref a3, .ref a4, .int x5, .int 0])) :: (a3, .inl (tp_ty E 6, 2, .inr (.inr (.inr (.inr f7))))) :: fr) t) (va_A ((a1, .inr (0, [.ref a2, .ref a3, .ref a4, .int x5, .int x6])) :: (a3, .inl (tp_ty E 6, 2, .inr (.inr (.inr (.inr f7))))) :: (a8, .inr (2, [.ref a9])) :: (a9, .inr (5, [.int x10, .ref (tp_ad E 100), .int x11])) :: (a12, .inr (2, [.ref a13])) :: (a13, .inr (5, [.int x14, .ref (tp_ad E 100), .int x15])) :: fr) sz)) 0 0 (va_A ((a1, .inr (0, [.ref a2, .ref a3, .ref a4, .int x5, .int x6])) :: (a3, .inl (tp_ty E 6, 2, .inr (.inr (.inr (.inr f7))))) :: (a8, .inr (2, [.ref a9])) :: (a9, .inr (5, [.int x10, .ref (tp_ad E 100), .int x11])) :: (a12, .inr (2, [.ref a13])) :: (a13, .inr (5, [.int x14, .ref (tp_ad E 100), .int x15])) :: fr) sz) := by
  refine Met.ofW (cc := b_T_layOut) (maxL := 5) (ret := none) (by decide) rfl ?_
  intro p e s m args below meth c s₁ B hml hv
  obtain ⟨rfl, hsz, hP, hK, hD0⟩ := hv
  have hx := B.exec
  have hb := B.bytes
  have hr := B.returns
  have htg : ∀ w ∈ tp_G, w.before ([.ref a1] : List Value).toArray s = true := fun w h => atoms_spec (ws := w_T_layOut) B.pre w (List.mem_cons_of_mem _ h)
  have hown : s.vm.findClass "TwoPass" = some m.cls := findClass_of_methodNamed B.named
  have hlocks := B.notSynchronized
  subst hsz
  have hD := hD0.self (sz := s.heap.size)
  generalize hAe : va_A ((a1, .inr (0, [.ref a2, .ref a3, .ref a4, .int x5, .int x6])) :: (a3, .inl (tp_ty E 6, 2, .inr (.inr (.inr (.inr f7))))) :: (a8, .inr (2, [.ref a9])) :: (a9, .inr (5, [.int x10, .ref (tp_ad E 100), .int x11])) :: (a12, .inr (2, [.ref a13])) :: (a13, .inr (5, [.int x14, .ref (tp_ad E 100), .int x15])) :: fr) s.heap.size = A at hD hK ⊢
  have hA : ∀ q : Nat, s.heap.size ≤ q → A q := fun q h => by rw [← hAe]; exact Or.inr h
  have hS : va_S A s.heap s.heap [] := va_S.rf
  have hl := lv_entry ([.ref a1]) (n := 5) (Nat.le_of_ble_eq_true rfl)
  rw [lg_entry_eq]
  generalize (lg_sl ([.ref a1]) ++ List.replicate (5 - (lg_sl ([.ref a1])).length) Slot.unset).toArray = ls at hl ⊢
  have hl : lv_has ls 5 [(0, .ref a1)] := hl
  refine lv_iconst (v := 0) hx hb d_T_layOut_0 (by decide) ?_
  refine lv_istore_n (lv' := [(1, .int 0), (0, .ref a1)]) hx hb d_T_layOut_1 rfl hl (by decide) rfl (fun ls hl => ?_)
  refine lv_iconst (v := 0) hx hb d_T_layOut_2 (by decide) ?_
  refine lv_istore_n (lv' := [(2, .int 0), (1, .int 0), (0, .ref a1)]) hx hb d_T_layOut_3 rfl hl (by decide) rfl (fun ls hl => ?_)
  refine lv_iload_n hx hb d_T_layOut_4 rfl (lv_at hl 0 rfl) ?_
  refine lv_iconst (v := 2) hx hb d_T_layOut_5 (by decide) ?_
  refine lv_icmp_ge (tgt := 89) hx hb d_T_layOut_6 (by decide) (fun h => absurd h (by decide)) (fun _ => ?_)
  refine lv_iload_n hx hb d_T_layOut_9 rfl (lv_at hl 1 rfl) ?_
  refine tp_ci (tp_rS (As := [.int 0]) (rest := []) ⟨hx, hb, hml, hown, htg⟩ (c_T_aligned_2 l E ((a1, .inr (0, [.ref a2, .ref a3, .ref a4, .int x5, .int x6])) :: (a3, .inl (tp_ty E 6, 2, .inr (.inr (.inr (.inr f7))))) :: (a8, .inr (2, [.ref a9])) :: (a9, .inr (5, [.int x10, .ref (tp_ad E 100), .int x11])) :: (a12, .inr (2, [.ref a13])) :: (a13, .inr (5, [.int x14, .ref (tp_ad E 100), .int x15])) :: fr) _  ) (⟨callB_of 1 htg (tp_good0 kc_T_aligned) rfl rfl rfl (htg _ ki_T) (htg _ kl_T_204) ⟨by decide, by decide, by decide +kernel⟩ ⟨Nat.le_of_ble_eq_true rfl, Nat.le_of_ble_eq_true rfl⟩, htg _ ks_T_aligned⟩) hK hP hD hS hA rfl hl.1 rfl (Nat.le_of_ble_eq_true rfl) d_T_layOut_10 ⟨Nat.le_of_ble_eq_true rfl, Nat.le_of_ble_eq_true rfl⟩) hD hS hA (fun r u H locs hw hP hD hS => ?_)
  subst r
  have hP : va_P (tp_D E) tp_cl ((a1, .inr (0, [.ref a2, .ref a3, .ref a4, .int x5, .int x6])) :: (a3, .inl (tp_ty E 6, 2, .inr (.inr (.inr (.inr f7))))) :: (a8, .inr (2, [.ref a9])) :: (a9, .inr (5, [.int x10, .ref (tp_ad E 100), .int x11])) :: (a12, .inr (2, [.ref a13])) :: (a13, .inr (5, [.int x14, .ref (tp_ad E 100), .int x15])) :: fr) H := hP
  have hD : va_D A ((a1, .inr (0, [.ref a2, .ref a3, .ref a4, .int x5, .int x6])) :: (a3, .inl (tp_ty E 6, 2, .inr (.inr (.inr (.inr f7))))) :: (a8, .inr (2, [.ref a9])) :: (a9, .inr (5, [.int x10, .ref (tp_ad E 100), .int x11])) :: (a12, .inr (2, [.ref a13])) :: (a13, .inr (5, [.int x14, .ref (tp_ad E 100), .int x15])) :: fr) := hD
  refine lv_istore_n (lv' := [(1, .int 0), (2, .int 0), (0, .ref a1)]) hx hb d_T_layOut_13 rfl hl (by decide) rfl (fun ls hl => ?_)
  refine lv_iconst (v := 0) hx hb d_T_layOut_14 (by decide) ?_
  refine lv_istore_n (lv' := [(3, .int 0), (1, .int 0), (2, .int 0), (0, .ref a1)]) hx hb d_T_layOut_15 rfl hl (by decide) rfl (fun ls hl => ?_)
  refine lv_iload_n hx hb d_T_layOut_16 rfl (lv_at hl 0 rfl) ?_
  refine lv_aload_n hx hb d_T_layOut_17 rfl (lv_at hl 3 rfl) ?_
  refine va_get (D := tp_D E) (ci := 0) (v := .ref a3) (C := qR_T) (T := qF_T) (N := 5) hx hb htg qi_T hown hK.1 hP 0 rfl rfl 1 (by decide) (htg _ kl_T_19) (fun _ h => h) rfl d_T_layOut_18 ?_
  refine lv_iload_n hx hb d_T_layOut_21 rfl (lv_at hl 2 rfl) ?_
  refine va_aldq (D := tp_D E) hx hb hK.1 hP 1 6 rfl rfl (by unfold vp_in; decide) d_T_layOut_22 ?_
  refine tp_topr (k := 0) (a := a8) rfl h1 ?_
  have hP : va_P (tp_D E) tp_cl ((a9, .inr (5, [.int x10, .ref (tp_ad E 100), .int x11])) :: (a1, .inr (0, [.ref a2, .ref a3, .ref a4, .int x5, .int x6])) :: (a3, .inl (tp_ty E 6, 2, .inr (.inr (.inr (.inr f7))))) :: (a8, .inr (2, [.ref a9])) :: (a12, .inr (2, [.ref a13])) :: (a13, .inr (5, [.int x14, .ref (tp_ad E 100), .int x15])) :: fr) _ := tp_mvP 3 rfl hP
  have hD : va_D A ((a9, .inr (5, [.int x10, .ref (tp_ad E 100), .int x11])) :: (a1, .inr (0, [.ref a2, .ref a3, .ref a4, .int x5, .int x6])) :: (a3, .inl (tp_ty E 6, 2, .inr (.inr (.inr (.inr f7))))) :: (a8, .inr (2, [.ref a9])) :: (a12, .inr (2, [.ref a13])) :: (a13, .inr (5, [.int x14, .ref (tp_ad E 100), .int x15])) :: fr) := tp_mvD 3 rfl hD
  have hP : va_P (tp_D E) tp_cl ((a8, .inr (2, [.ref a9])) :: (a9, .inr (5, [.int x10, .ref (tp_ad E 100), .int x11])) :: (a1, .inr (0, [.ref a2, .ref a3, .ref a4, .int x5, .int x6])) :: (a3, .inl (tp_ty E 6, 2, .inr (.inr (.inr (.inr f7))))) :: (a12, .inr (2, [.ref a13])) :: (a13, .inr (5, [.int x14, .ref (tp_ad E 100), .int x15])) :: fr) _ := tp_mvP 3 rfl hP
  have hD : va_D A ((a8, .inr (2, [.ref a9])) :: (a9, .inr (5, [.int x10, .ref (tp_ad E 100), .int x11])) :: (a1, .inr (0, [.ref a2, .ref a3, .ref a4, .int x5, .int x6])) :: (a3, .inl (tp_ty E 6, 2, .inr (.inr (.inr (.inr f7))))) :: (a12, .inr (2, [.ref a13])) :: (a13, .inr (5, [.int x14, .ref (tp_ad E 100), .int x15])) :: fr) := tp_mvD 3 rfl hD
  refine tp_ci (tp_rV (As := []) (rest := [.int 0]) ⟨hx, hb, hml, hown, htg⟩ (c_S_count_1 l E ((a1, .inr (0, [.ref a2, .ref a3, .ref a4, .int x5, .int x6])) :: (a3, .inl (tp_ty E 6, 2, .inr (.inr (.inr (.inr f7))))) :: (a12, .inr (2, [.ref a13])) :: (a13, .inr (5, [.int x14, .ref (tp_ad E 100), .int x15])) :: fr) _ a8 a9 x10 x11 ) (⟨callB_of 0 htg (tp_good0 kc_S_count) rfl rfl rfl (htg _ ki_S) (htg _ kl_T_66) ⟨by decide, by decide, by decide +kernel⟩ ⟨Nat.le_of_ble_eq_true rfl, Nat.le_of_ble_eq_true rfl⟩, htg _ km_S_count, htg _ kv_S_S_count⟩) (va_recv (ci := 2) (q0 := 0) hK.1 hP rfl rfl) hK hP hD hS hA rfl hl.1 rfl (Nat.le_of_ble_eq_true rfl) d_T_layOut_23 ⟨Nat.le_of_ble_eq_true rfl, Nat.le_of_ble_eq_true rfl⟩) hD hS hA (fun r u H locs hw hP hD hS => ?_)
  subst r
  have hP : va_P (tp_D E) tp_cl ((a9, .inr (5, [.int x10, .ref (tp_ad E 100), .int x11])) :: (a8, .inr (2, [.ref a9])) :: (a1, .inr (0, [.ref a2, .ref a3, .ref a4, .int x5, .int x6])) :: (a3, .inl (tp_ty E 6, 2, .inr (.inr (.inr (.inr f7))))) :: (a12, .inr (2, [.ref a13])) :: (a13, .inr (5, [.int x14, .ref (tp_ad E 100), .int x15])) :: fr) H := hP
  have hD : va_D A ((a9, .inr (5, [.int x10, .ref (tp_ad E 100), .int x11])) :: (a8, .inr (2, [.ref a9])) :: (a1, .inr (0, [.ref a2, .ref a3, .ref a4, .int x5, .int x6])) :: (a3, .inl (tp_ty E 6, 2, .inr (.inr (.inr (.inr f7))))) :: (a12, .inr (2, [.ref a13])) :: (a13, .inr (5, [.int x14, .ref (tp_ad E 100), .int x15])) :: fr) := hD
  refine lv_icmp_ge (tgt := 83) hx hb d_T_layOut_26 (by decide) (fun _ => ?_) (fun h => absurd h2 h)
  refine lv_iinc (k := 2) (v := 1) (lv' := [(2, .int 1), (3, .int 0), (1, .int 0), (0, .ref a1)]) hx hb d_T_layOut_83 hl rfl (by decide) (by decide) rfl (fun ls hl => ?_)
  refine lv_goto (tgt := 4) hx hb d_T_layOut_86 (by decide) ?_
  refine lv_iload_n hx hb d_T_layOut_4 rfl (lv_at hl 0 rfl) ?_
  refine lv_iconst (v := 2) hx hb d_T_layOut_5 (by decide) ?_
  refine lv_icmp_ge (tgt := 89) hx hb d_T_layOut_6 (by decide) (fun h => absurd h (by decide)) (fun _ => ?_)
  refine lv_iload_n hx hb d_T_layOut_9 rfl (lv_at hl 2 rfl) ?_
  refine tp_ci (tp_rS (As := [.int 0]) (rest := []) ⟨hx, hb, hml, hown, htg⟩ (c_T_aligned_2 l E ((a9, .inr (5, [.int x10, .ref (tp_ad E 100), .int x11])) :: (a8, .inr (2, [.ref a9])) :: (a1, .inr (0, [.ref a2, .ref a3, .ref a4, .int x5, .int x6])) :: (a3, .inl (tp_ty E 6, 2, .inr (.inr (.inr (.inr f7))))) :: (a12, .inr (2, [.ref a13])) :: (a13, .inr (5, [.int x14, .ref (tp_ad E 100), .int x15])) :: fr) _  ) (⟨callB_of 1 htg (tp_good0 kc_T_aligned) rfl rfl rfl (htg _ ki_T) (htg _ kl_T_204) ⟨by decide, by decide, by decide +kernel⟩ ⟨Nat.le_of_ble_eq_true rfl, Nat.le_of_ble_eq_true rfl⟩, htg _ ks_T_aligned⟩) hK hP hD hS hA rfl hl.1 rfl (Nat.le_of_ble_eq_true rfl) d_T_layOut_10 ⟨Nat.le_of_ble_eq_true rfl, Nat.le_of_ble_eq_true rfl⟩) hD hS hA (fun r u H locs hw hP hD hS => ?_)
  subst r
  have hP : va_P (tp_D E) tp_cl ((a9, .inr (5, [.int x10, .ref (tp_ad E 100), .int x11])) :: (a8, .inr (2, [.ref a9])) :: (a1, .inr (0, [.ref a2, .ref a3, .ref a4, .int x5, .int x6])) :: (a3, .inl (tp_ty E 6, 2, .inr (.inr (.inr (.inr f7))))) :: (a12, .inr (2, [.ref a13])) :: (a13, .inr (5, [.int x14, .ref (tp_ad E 100), .int x15])) :: fr) H := hP
  have hD : va_D A ((a9, .inr (5, [.int x10, .ref (tp_ad E 100), .int x11])) :: (a8, .inr (2, [.ref a9])) :: (a1, .inr (0, [.ref a2, .ref a3, .ref a4, .int x5, .int x6])) :: (a3, .inl (tp_ty E 6, 2, .inr (.inr (.inr (.inr f7))))) :: (a12, .inr (2, [.ref a13])) :: (a13, .inr (5, [.int x14, .ref (tp_ad E 100), .int x15])) :: fr) := hD
  refine lv_istore_n (lv' := [(1, .int 0), (2, .int 1), (3, .int 0), (0, .ref a1)]) hx hb d_T_layOut_13 rfl hl (by decide) rfl (fun ls hl => ?_)
  refine lv_iconst (v := 0) hx hb d_T_layOut_14 (by decide) ?_
  refine lv_istore_n (lv' := [(3, .int 0), (1, .int 0), (2, .int 1), (0, .ref a1)]) hx hb d_T_layOut_15 rfl hl (by decide) rfl (fun ls hl => ?_)
  refine lv_iload_n hx hb d_T_layOut_16 rfl (lv_at hl 0 rfl) ?_
  refine lv_aload_n hx hb d_T_layOut_17 rfl (lv_at hl 3 rfl) ?_
  refine va_get (D := tp_D E) (ci := 0) (v := .ref a3) (C := qR_T) (T := qF_T) (N := 5) hx hb htg qi_T hown hK.1 hP 2 rfl rfl 1 (by decide) (htg _ kl_T_19) (fun _ h => h) rfl d_T_layOut_18 ?_
  refine lv_iload_n hx hb d_T_layOut_21 rfl (lv_at hl 2 rfl) ?_
  refine va_aldq (D := tp_D E) hx hb hK.1 hP 3 6 rfl rfl (by unfold vp_in; decide) d_T_layOut_22 ?_
  refine tp_topr (k := 1) (a := a12) rfl h3 ?_
  have hP : va_P (tp_D E) tp_cl ((a13, .inr (5, [.int x14, .ref (tp_ad E 100), .int x15])) :: (a9, .inr (5, [.int x10, .ref (tp_ad E 100), .int x11])) :: (a8, .inr (2, [.ref a9])) :: (a1, .inr (0, [.ref a2, .ref a3, .ref a4, .int x5, .int x6])) :: (a3, .inl (tp_ty E 6, 2, .inr (.inr (.inr (.inr f7))))) :: (a12, .inr (2, [.ref a13])) :: fr) _ := tp_mvP 5 rfl hP
  have hD : va_D A ((a13, .inr (5, [.int x14, .ref (tp_ad E 100), .int x15])) :: (a9, .inr (5, [.int x10, .ref (tp_ad E 100), .int x11])) :: (a8, .inr (2, [.ref a9])) :: (a1, .inr (0, [.ref a2, .ref a3, .ref a4, .int x5, .int x6])) :: (a3, .inl (tp_ty E 6, 2, .inr (.inr (.inr (.inr f7))))) :: (a12, .inr (2, [.ref a13])) :: fr) := tp_mvD 5 rfl hD
  have hP : va_P (tp_D E) tp_cl ((a12, .inr (2, [.ref a13])) :: (a13, .inr (5, [.int x14, .ref (tp_ad E 100), .int x15])) :: (a9, .inr (5, [.int x10, .ref (tp_ad E 100), .int x11])) :: (a8, .inr (2, [.ref a9])) :: (a1, .inr (0, [.ref a2, .ref a3, .ref a4, .int x5, .int x6])) :: (a3, .inl (tp_ty E 6, 2, .inr (.inr (.inr (.inr f7))))) :: fr) _ := tp_mvP 5 rfl hP
  have hD : va_D A ((a12, .inr (2, [.ref a13])) :: (a13, .inr (5, [.int x14, .ref (tp_ad E 100), .int x15])) :: (a9, .inr (5, [.int x10, .ref (tp_ad E 100), .int x11])) :: (a8, .inr (2, [.ref a9])) :: (a1, .inr (0, [.ref a2, .ref a3, .ref a4, .int x5, .int x6])) :: (a3, .inl (tp_ty E 6, 2, .inr (.inr (.inr (.inr f7))))) :: fr) := tp_mvD 5 rfl hD
  refine tp_ci (tp_rV (As := []) (rest := [.int 0]) ⟨hx, hb, hml, hown, htg⟩ (c_S_count_1 l E ((a9, .inr (5, [.int x10, .ref (tp_ad E 100), .int x11])) :: (a8, .inr (2, [.ref a9])) :: (a1, .inr (0, [.ref a2, .ref a3, .ref a4, .int x5, .int x6])) :: (a3, .inl (tp_ty E 6, 2, .inr (.inr (.inr (.inr f7))))) :: fr) _ a12 a13 x14 x15 ) (⟨callB_of 0 htg (tp_good0 kc_S_count) rfl rfl rfl (htg _ ki_S) (htg _ kl_T_66) ⟨by decide, by decide, by decide +kernel⟩ ⟨Nat.le_of_ble_eq_true rfl, Nat.le_of_ble_eq_true rfl⟩, htg _ km_S_count, htg _ kv_S_S_count⟩) (va_recv (ci := 2) (q0 := 0) hK.1 hP rfl rfl) hK hP hD hS hA rfl hl.1 rfl (Nat.le_of_ble_eq_true rfl) d_T_layOut_23 ⟨Nat.le_of_ble_eq_true rfl, Nat.le_of_ble_eq_true rfl⟩) hD hS hA (fun r u H locs hw hP hD hS => ?_)
  subst r
  have hP : va_P (tp_D E) tp_cl ((a13, .inr (5, [.int x14, .ref (tp_ad E 100), .int x15])) :: (a12, .inr (2, [.ref a13])) :: (a9, .inr (5, [.int x10, .ref (tp_ad E 100), .int x11])) :: (a8, .inr (2, [.ref a9])) :: (a1, .inr (0, [.ref a2, .ref a3, .ref a4, .int x5, .int x6])) :: (a3, .inl (tp_ty E 6, 2, .inr (.inr (.inr (.inr f7))))) :: fr) H := hP
  have hD : va_D A ((a13, .inr (5, [.int x14, .ref (tp_ad E 100), .int x15])) :: (a12, .inr (2, [.ref a13])) :: (a9, .inr (5, [.int x10, .ref (tp_ad E 100), .int x11])) :: (a8, .inr (2, [.ref a9])) :: (a1, .inr (0, [.ref a2, .ref a3, .ref a4, .int x5, .int x6])) :: (a3, .inl (tp_ty E 6, 2, .inr (.inr (.inr (.inr f7))))) :: fr) := hD
  refine lv_icmp_ge (tgt := 83) hx hb d_T_layOut_26 (by decide) (fun _ => ?_) (fun h => absurd h4 h)
  refine lv_iinc (k := 2) (v := 2) (lv' := [(2, .int 2), (3, .int 0), (1, .int 0), (0, .ref a1)]) hx hb d_T_layOut_83 hl rfl (by decide) (by decide) rfl (fun ls hl => ?_)
  refine lv_goto (tgt := 4) hx hb d_T_layOut_86 (by decide) ?_
  refine lv_iload_n hx hb d_T_layOut_4 rfl (lv_at hl 0 rfl) ?_
  refine lv_iconst (v := 2) hx hb d_T_layOut_5 (by decide) ?_
  refine lv_icmp_ge (tgt := 89) hx hb d_T_layOut_6 (by decide) (fun _ => ?_) (fun h => absurd (by decide) h)
  refine lv_aload_n hx hb d_T_layOut_89 rfl (lv_at hl 3 rfl) ?_
  refine lv_iload_n hx hb d_T_layOut_90 rfl (lv_at hl 2 rfl) ?_
  refine va_put (D := tp_D E) (ci := 0) (v := .int 0) (ty := .int) (C := qR_T) (T := qF_T) (N := 5) hx hb htg qi_T qt_T qt_T_ok qn_T hown hK.1 hP hD hS 4 rfl rfl 4 (by decide) (htg _ kl_T_34) (fun _ h => h) rfl (by decide +kernel) rfl rfl (Nat.le_of_ble_eq_true rfl) d_T_layOut_91 (fun H locs hP hD hS => ?_)
  have hP : va_P (tp_D E) tp_cl ((a13, .inr (5, [.int x14, .ref (tp_ad E 100), .int x15])) :: (a12, .inr (2, [.ref a13])) :: (a9, .inr (5, [.int x10, .ref (tp_ad E 100), .int x11])) :: (a8, .inr (2, [.ref a9])) :: (a1, .inr (0, [.ref a2, .ref a3, .ref a4, .int x5, .int 0])) :: (a3, .inl (tp_ty E 6, 2, .inr (.inr (.inr (.inr f7))))) :: fr) H := hP
  have hD : va_D A ((a13, .inr (5, [.int x14, .ref (tp_ad E 100), .int x15])) :: (a12, .inr (2, [.ref a13])) :: (a9, .inr (5, [.int x10, .ref (tp_ad E 100), .int x11])) :: (a8, .inr (2, [.ref a9])) :: (a1, .inr (0, [.ref a2, .ref a3, .ref a4, .int x5, .int 0])) :: (a3, .inl (tp_ty E 6, 2, .inr (.inr (.inr (.inr f7))))) :: fr) := hD
  exact W.vret hx hb hr (fun t ht hW => ⟨⟨(), rfl, trivial, by rw [ht]; exact hP, hD⟩, hS.F ht⟩) hS.2.2 d_T_layOut_94
set_option maxHeartbeats 400000 in
set_option maxRecDepth 100000 in
theorem c_T_makeUnreachingFar_1 (l : Launch) (E : tp_Env) (fr : va_W) (sz : Nat) (a1 : Nat) (a2 : Nat) (a3 : Nat) (a4 : Nat) (x5 : Int32) (x6 : Int32) (f7 : Nat → Option Nat) (a8 : Nat) (a9 : Nat) (x10 : Int32) (x11 : Int32) (a12 : Nat) (a13 : Nat) (x14 : Int32) (x15 : Int32) (h1 : f7 0 = some a8) (h2 : x11 ≤ 0) (h3 : f7 1 = some a12) (h4 : x15 ≤ 0) : Met l y_T_makeUnreachingFar w_T_makeUnreachingFar ({ frames := 2, cells := 0, slots := 0, locals := 40 }) (va_Pc [.ref a1] (tp_in E ((a1, .inr (0, [.ref a2, .ref a3, .ref a4, .int x5, .int x6])) :: (a3, .inl (tp_ty E 6, 2, .inr (.inr (.inr (.inr f7))))) :: (a8, .inr (2, [.ref a9])) :: (a9, .inr (5, [.int x10, .ref (tp_ad E 100), .int x11])) :: (a12, .inr (2, [.ref a13])) :: (a13, .inr (5, [.int x14, .ref (tp_ad E 100), .int x15])) :: fr) sz)) (va_Qi (fun r (_ : Unit) => r = 0) (fun _ t => tp_out E (va_A ((a1, .inr (0, [.ref a2, .ref a3, .ref a4, .int x5, .int x6])) :: (a3, .inl (tp_ty E 6, 2, .inr (.inr (.inr (.inr f7))))) :: (a8, .inr (2, [.ref a9])) :: (a9, .inr (5, [.int x10, .ref (tp_ad E 100), .int x11])) :: (a12, .inr (2, [.ref a13])) :: (a13, .inr (5, [.int x14, .ref (tp_ad E 100), .int x15])) :: fr) sz) ((a13, .inr (5, [.int x14, .ref (tp_ad E 100), .int x15])) :: (a12, .inr (2, [.ref a13])) :: (a9, .inr (5, [.int x10, .ref (tp_ad E 100), .int x11])) :: (a8, .inr (2, [.ref a9])) :: (a1, .inr (0, [.ref a2, .ref a3, .ref a4, .int x5, .int x6])) :: (a3, .inl (tp_ty E 6, 2, .inr (.inr (.inr (.inr f7))))) :: fr) t) (va_A ((a1, .inr (0, [.ref a2, .ref a3, .ref a4, .int x5, .int x6])) :: (a3, .inl (tp_ty E 6, 2, .inr (.inr (.inr (.inr f7))))) :: (a8, .inr (2, [.ref a9])) :: (a9, .inr (5, [.int x10, .ref (tp_ad E 100), .int x11])) :: (a12, .inr (2, [.ref a13])) :: (a13, .inr (5, [.int x14, .ref (tp_ad E 100), .int x15])) :: fr) sz)) 0 0 (va_A ((a1, .inr (0, [.ref a2, .ref a3, .ref a4, .int x5, .int x6])) :: (a3, .inl (tp_ty E 6, 2, .inr (.inr (.inr (.inr f7))))) :: (a8, .inr (2, [.ref a9])) :: (a9, .inr (5, [.int x10, .ref (tp_ad E 100), .int x11])) :: (a12, .inr (2, [.ref a13])) :: (a13, .inr (5, [.int x14, .ref (tp_ad E 100), .int x15])) :: fr) sz) := by
  refine Met.ofW (cc := b_T_makeUnreachingFar) (maxL := 5) (ret := (some .boolean)) (by decide) rfl ?_
  intro p e s m args below meth c s₁ B hml hv
  obtain ⟨rfl, hsz, hP, hK, hD0⟩ := hv
  have hx := B.exec
  have hb := B.bytes
  have hr := B.returns
  have htg : ∀ w ∈ tp_G, w.before ([.ref a1] : List Value).toArray s = true := fun w h => atoms_spec (ws := w_T_makeUnreachingFar) B.pre w (List.mem_cons_of_mem _ h)
  have hown : s.vm.findClass "TwoPass" = some m.cls := findClass_of_methodNamed B.named
  have hlocks := B.notSynchronized
  subst hsz
  have hD := hD0.self (sz := s.heap.size)
  generalize hAe : va_A ((a1, .inr (0, [.ref a2, .ref a3, .ref a4, .int x5, .int x6])) :: (a3, .inl (tp_ty E 6, 2, .inr (.inr (.inr (.inr f7))))) :: (a8, .inr (2, [.ref a9])) :: (a9, .inr (5, [.int x10, .ref (tp_ad E 100), .int x11])) :: (a12, .inr (2, [.ref a13])) :: (a13, .inr (5, [.int x14, .ref (tp_ad E 100), .int x15])) :: fr) s.heap.size = A at hD hK ⊢
  have hA : ∀ q : Nat, s.heap.size ≤ q → A q := fun q h => by rw [← hAe]; exact Or.inr h
  have hS : va_S A s.heap s.heap [] := va_S.rf
  have hl := lv_entry ([.ref a1]) (n := 5) (Nat.le_of_ble_eq_true rfl)
  rw [lg_entry_eq]
  generalize (lg_sl ([.ref a1]) ++ List.replicate (5 - (lg_sl ([.ref a1])).length) Slot.unset).toArray = ls at hl ⊢
  have hl : lv_has ls 5 [(0, .ref a1)] := hl
  refine lv_iconst (v := 0) hx hb d_T_makeUnreachingFar_0 (by decide) ?_
  refine lv_istore_n (lv' := [(1, .int 0), (0, .ref a1)]) hx hb d_T_makeUnreachingFar_1 rfl hl (by decide) rfl (fun ls hl => ?_)
  refine lv_iconst (v := 0) hx hb d_T_makeUnreachingFar_2 (by decide) ?_
  refine lv_istore_n (lv' := [(2, .int 0), (1, .int 0), (0, .ref a1)]) hx hb d_T_makeUnreachingFar_3 rfl hl (by decide) rfl (fun ls hl => ?_)
  refine lv_iload_n hx hb d_T_makeUnreachingFar_4 rfl (lv_at hl 0 rfl) ?_
  refine lv_iconst (v := 2) hx hb d_T_makeUnreachingFar_5 (by decide) ?_
  refine lv_icmp_ge (tgt := 90) hx hb d_T_makeUnreachingFar_6 (by decide) (fun h => absurd h (by decide)) (fun _ => ?_)
  refine lv_iconst (v := 0) hx hb d_T_makeUnreachingFar_9 (by decide) ?_
  refine lv_istore_n (lv' := [(3, .int 0), (2, .int 0), (1, .int 0), (0, .ref a1)]) hx hb d_T_makeUnreachingFar_10 rfl hl (by decide) rfl (fun ls hl => ?_)
  refine lv_iload_n hx hb d_T_makeUnreachingFar_11 rfl (lv_at hl 0 rfl) ?_
  refine lv_aload_n hx hb d_T_makeUnreachingFar_12 rfl (lv_at hl 3 rfl) ?_
  refine va_get (D := tp_D E) (ci := 0) (v := .ref a3) (C := qR_T) (T := qF_T) (N := 5) hx hb htg qi_T hown hK.1 hP 0 rfl rfl 1 (by decide) (htg _ kl_T_19) (fun _ h => h) rfl d_T_makeUnreachingFar_13 ?_
  refine lv_iload_n hx hb d_T_makeUnreachingFar_16 rfl (lv_at hl 1 rfl) ?_
  refine va_aldq (D := tp_D E) hx hb hK.1 hP 1 6 rfl rfl (by unfold vp_in; decide) d_T_makeUnreachingFar_17 ?_
  refine tp_topr (k := 0) (a := a8) rfl h1 ?_
  have hP : va_P (tp_D E) tp_cl ((a9, .inr (5, [.int x10, .ref (tp_ad E 100), .int x11])) :: (a1, .inr (0, [.ref a2, .ref a3, .ref a4, .int x5, .int x6])) :: (a3, .inl (tp_ty E 6, 2, .inr (.inr (.inr (.inr f7))))) :: (a8, .inr (2, [.ref a9])) :: (a12, .inr (2, [.ref a13])) :: (a13, .inr (5, [.int x14, .ref (tp_ad E 100), .int x15])) :: fr) _ := tp_mvP 3 rfl hP
  have hD : va_D A ((a9, .inr (5, [.int x10, .ref (tp_ad E 100), .int x11])) :: (a1, .inr (0, [.ref a2, .ref a3, .ref a4, .int x5, .int x6])) :: (a3, .inl (tp_ty E 6, 2, .inr (.inr (.inr (.inr f7))))) :: (a8, .inr (2, [.ref a9])) :: (a12, .inr (2, [.ref a13])) :: (a13, .inr (5, [.int x14, .ref (tp_ad E 100), .int x15])) :: fr) := tp_mvD 3 rfl hD
  have hP : va_P (tp_D E) tp_cl ((a8, .inr (2, [.ref a9])) :: (a9, .inr (5, [.int x10, .ref (tp_ad E 100), .int x11])) :: (a1, .inr (0, [.ref a2, .ref a3, .ref a4, .int x5, .int x6])) :: (a3, .inl (tp_ty E 6, 2, .inr (.inr (.inr (.inr f7))))) :: (a12, .inr (2, [.ref a13])) :: (a13, .inr (5, [.int x14, .ref (tp_ad E 100), .int x15])) :: fr) _ := tp_mvP 3 rfl hP
  have hD : va_D A ((a8, .inr (2, [.ref a9])) :: (a9, .inr (5, [.int x10, .ref (tp_ad E 100), .int x11])) :: (a1, .inr (0, [.ref a2, .ref a3, .ref a4, .int x5, .int x6])) :: (a3, .inl (tp_ty E 6, 2, .inr (.inr (.inr (.inr f7))))) :: (a12, .inr (2, [.ref a13])) :: (a13, .inr (5, [.int x14, .ref (tp_ad E 100), .int x15])) :: fr) := tp_mvD 3 rfl hD
  refine tp_ci (tp_rV (As := []) (rest := [.int 0]) ⟨hx, hb, hml, hown, htg⟩ (c_S_count_1 l E ((a1, .inr (0, [.ref a2, .ref a3, .ref a4, .int x5, .int x6])) :: (a3, .inl (tp_ty E 6, 2, .inr (.inr (.inr (.inr f7))))) :: (a12, .inr (2, [.ref a13])) :: (a13, .inr (5, [.int x14, .ref (tp_ad E 100), .int x15])) :: fr) _ a8 a9 x10 x11 ) (⟨callB_of 0 htg (tp_good0 kc_S_count) rfl rfl rfl (htg _ ki_S) (htg _ kl_T_66) ⟨by decide, by decide, by decide +kernel⟩ ⟨Nat.le_of_ble_eq_true rfl, Nat.le_of_ble_eq_true rfl⟩, htg _ km_S_count, htg _ kv_S_S_count⟩) (va_recv (ci := 2) (q0 := 0) hK.1 hP rfl rfl) hK hP hD hS hA rfl hl.1 rfl (Nat.le_of_ble_eq_true rfl) d_T_makeUnreachingFar_18 ⟨Nat.le_of_ble_eq_true rfl, Nat.le_of_ble_eq_true rfl⟩) hD hS hA (fun r u H locs hw hP hD hS => ?_)
  subst r
  have hP : va_P (tp_D E) tp_cl ((a9, .inr (5, [.int x10, .ref (tp_ad E 100), .int x11])) :: (a8, .inr (2, [.ref a9])) :: (a1, .inr (0, [.ref a2, .ref a3, .ref a4, .int x5, .int x6])) :: (a3, .inl (tp_ty E 6, 2, .inr (.inr (.inr (.inr f7))))) :: (a12, .inr (2, [.ref a13])) :: (a13, .inr (5, [.int x14, .ref (tp_ad E 100), .int x15])) :: fr) H := hP
  have hD : va_D A ((a9, .inr (5, [.int x10, .ref (tp_ad E 100), .int x11])) :: (a8, .inr (2, [.ref a9])) :: (a1, .inr (0, [.ref a2, .ref a3, .ref a4, .int x5, .int x6])) :: (a3, .inl (tp_ty E 6, 2, .inr (.inr (.inr (.inr f7))))) :: (a12, .inr (2, [.ref a13])) :: (a13, .inr (5, [.int x14, .ref (tp_ad E 100), .int x15])) :: fr) := hD
  refine lv_icmp_ge (tgt := 84) hx hb d_T_makeUnreachingFar_21 (by decide) (fun _ => ?_) (fun h => absurd h2 h)
  refine lv_iinc (k := 1) (v := 1) (lv' := [(2, .int 1), (3, .int 0), (1, .int 0), (0, .ref a1)]) hx hb d_T_makeUnreachingFar_84 hl rfl (by decide) (by decide) rfl (fun ls hl => ?_)
  refine lv_goto (tgt := 4) hx hb d_T_makeUnreachingFar_87 (by decide) ?_
  refine lv_iload_n hx hb d_T_makeUnreachingFar_4 rfl (lv_at hl 0 rfl) ?_
  refine lv_iconst (v := 2) hx hb d_T_makeUnreachingFar_5 (by decide) ?_
  refine lv_icmp_ge (tgt := 90) hx hb d_T_makeUnreachingFar_6 (by decide) (fun h => absurd h (by decide)) (fun _ => ?_)
  refine lv_iconst (v := 0) hx hb d_T_makeUnreachingFar_9 (by decide) ?_
  refine lv_istore_n (lv' := [(3, .int 0), (2, .int 1), (1, .int 0), (0, .ref a1)]) hx hb d_T_makeUnreachingFar_10 rfl hl (by decide) rfl (fun ls hl => ?_)
  refine lv_iload_n hx hb d_T_makeUnreachingFar_11 rfl (lv_at hl 0 rfl) ?_
  refine lv_aload_n hx hb d_T_makeUnreachingFar_12 rfl (lv_at hl 3 rfl) ?_
  refine va_get (D := tp_D E) (ci := 0) (v := .ref a3) (C := qR_T) (T := qF_T) (N := 5) hx hb htg qi_T hown hK.1 hP 2 rfl rfl 1 (by decide) (htg _ kl_T_19) (fun _ h => h) rfl d_T_makeUnreachingFar_13 ?_
  refine lv_iload_n hx hb d_T_makeUnreachingFar_16 rfl (lv_at hl 1 rfl) ?_
  refine va_aldq (D := tp_D E) hx hb hK.1 hP 3 6 rfl rfl (by unfold vp_in; decide) d_T_makeUnreachingFar_17 ?_
  refine tp_topr (k := 1) (a := a12) rfl h3 ?_
  have hP : va_P (tp_D E) tp_cl ((a13, .inr (5, [.int x14, .ref (tp_ad E 100), .int x15])) :: (a9, .inr (5, [.int x10, .ref (tp_ad E 100), .int x11])) :: (a8, .inr (2, [.ref a9])) :: (a1, .inr (0, [.ref a2, .ref a3, .ref a4, .int x5, .int x6])) :: (a3, .inl (tp_ty E 6, 2, .inr (.inr (.inr (.inr f7))))) :: (a12, .inr (2, [.ref a13])) :: fr) _ := tp_mvP 5 rfl hP
  have hD : va_D A ((a13, .inr (5, [.int x14, .ref (tp_ad E 100), .int x15])) :: (a9, .inr (5, [.int x10, .ref (tp_ad E 100), .int x11])) :: (a8, .inr (2, [.ref a9])) :: (a1, .inr (0, [.ref a2, .ref a3, .ref a4, .int x5, .int x6])) :: (a3, .inl (tp_ty E 6, 2, .inr (.inr (.inr (.inr f7))))) :: (a12, .inr (2, [.ref a13])) :: fr) := tp_mvD 5 rfl hD
  have hP : va_P (tp_D E) tp_cl ((a12, .inr (2, [.ref a13])) :: (a13, .inr (5, [.int x14, .ref (tp_ad E 100), .int x15])) :: (a9, .inr (5, [.int x10, .ref (tp_ad E 100), .int x11])) :: (a8, .inr (2, [.ref a9])) :: (a1, .inr (0, [.ref a2, .ref a3, .ref a4, .int x5, .int x6])) :: (a3, .inl (tp_ty E 6, 2, .inr (.inr (.inr (.inr f7))))) :: fr) _ := tp_mvP 5 rfl hP
  have hD : va_D A ((a12, .inr (2, [.ref a13])) :: (a13, .inr (5, [.int x14, .ref (tp_ad E 100), .int x15])) :: (a9, .inr (5, [.int x10, .ref (tp_ad E 100), .int x11])) :: (a8, .inr (2, [.ref a9])) :: (a1, .inr (0, [.ref a2, .ref a3, .ref a4, .int x5, .int x6])) :: (a3, .inl (tp_ty E 6, 2, .inr (.inr (.inr (.inr f7))))) :: fr) := tp_mvD 5 rfl hD
  refine tp_ci (tp_rV (As := []) (rest := [.int 0]) ⟨hx, hb, hml, hown, htg⟩ (c_S_count_1 l E ((a9, .inr (5, [.int x10, .ref (tp_ad E 100), .int x11])) :: (a8, .inr (2, [.ref a9])) :: (a1, .inr (0, [.ref a2, .ref a3, .ref a4, .int x5, .int x6])) :: (a3, .inl (tp_ty E 6, 2, .inr (.inr (.inr (.inr f7))))) :: fr) _ a12 a13 x14 x15 ) (⟨callB_of 0 htg (tp_good0 kc_S_count) rfl rfl rfl (htg _ ki_S) (htg _ kl_T_66) ⟨by decide, by decide, by decide +kernel⟩ ⟨Nat.le_of_ble_eq_true rfl, Nat.le_of_ble_eq_true rfl⟩, htg _ km_S_count, htg _ kv_S_S_count⟩) (va_recv (ci := 2) (q0 := 0) hK.1 hP rfl rfl) hK hP hD hS hA rfl hl.1 rfl (Nat.le_of_ble_eq_true rfl) d_T_makeUnreachingFar_18 ⟨Nat.le_of_ble_eq_true rfl, Nat.le_of_ble_eq_true rfl⟩) hD hS hA (fun r u H locs hw hP hD hS => ?_)
  subst r
  have hP : va_P (tp_D E) tp_cl ((a13, .inr (5, [.int x14, .ref (tp_ad E 100), .int x15])) :: (a12, .inr (2, [.ref a13])) :: (a9, .inr (5, [.int x10, .ref (tp_ad E 100), .int x11])) :: (a8, .inr (2, [.ref a9])) :: (a1, .inr (0, [.ref a2, .ref a3, .ref a4, .int x5, .int x6])) :: (a3, .inl (tp_ty E 6, 2, .inr (.inr (.inr (.inr f7))))) :: fr) H := hP
  have hD : va_D A ((a13, .inr (5, [.int x14, .ref (tp_ad E 100), .int x15])) :: (a12, .inr (2, [.ref a13])) :: (a9, .inr (5, [.int x10, .ref (tp_ad E 100), .int x11])) :: (a8, .inr (2, [.ref a9])) :: (a1, .inr (0, [.ref a2, .ref a3, .ref a4, .int x5, .int x6])) :: (a3, .inl (tp_ty E 6, 2, .inr (.inr (.inr (.inr f7))))) :: fr) := hD
  refine lv_icmp_ge (tgt := 84) hx hb d_T_makeUnreachingFar_21 (by decide) (fun _ => ?_) (fun h => absurd h4 h)
  refine lv_iinc (k := 1) (v := 2) (lv' := [(2, .int 2), (3, .int 0), (1, .int 0), (0, .ref a1)]) hx hb d_T_makeUnreachingFar_84 hl rfl (by decide) (by decide) rfl (fun ls hl => ?_)
  refine lv_goto (tgt := 4) hx hb d_T_makeUnreachingFar_87 (by decide) ?_
  refine lv_iload_n hx hb d_T_makeUnreachingFar_4 rfl (lv_at hl 0 rfl) ?_
  refine lv_iconst (v := 2) hx hb d_T_makeUnreachingFar_5 (by decide) ?_
  refine lv_icmp_ge (tgt := 90) hx hb d_T_makeUnreachingFar_6 (by decide) (fun _ => ?_) (fun h => absurd (by decide) h)
  refine lv_iload_n hx hb d_T_makeUnreachingFar_90 rfl (lv_at hl 2 rfl) ?_
  exact W.zret (v := 0) hx hb hr rfl (fun t ht hW => ⟨⟨_, (), rfl, rfl, by rw [ht]; exact hP, hD⟩, hS.F ht⟩) hS.2.2 d_T_makeUnreachingFar_91
set_option maxHeartbeats 400000 in
set_option maxRecDepth 100000 in
theorem c_T_makeFarBranches_1 (l : Launch) (E : tp_Env) (fr : va_W) (sz : Nat) (a1 : Nat) (a2 : Nat) (a3 : Nat) (a4 : Nat) (x5 : Int32) (x6 : Int32) (f7 : Nat → Option Nat) (a8 : Nat) (a9 : Nat) (x10 : Int32) (x11 : Int32) (a12 : Nat) (a13 : Nat) (x14 : Int32) (x15 : Int32) (h1 : f7 0 = some a8) (h2 : x11 ≤ 0) (h3 : f7 1 = some a12) (h4 : x15 ≤ 0) : Met l y_T_makeFarBranches w_T_makeFarBranches ({ frames := 3, cells := 0, slots := 0, locals := 64 }) (va_Pc [.ref a1] (tp_in E ((a1, .inr (0, [.ref a2, .ref a3, .ref a4, .int x5, .int x6])) :: (a3, .inl (tp_ty E 6, 2, .inr (.inr (.inr (.inr f7))))) :: (a8, .inr (2, [.ref a9])) :: (a9, .inr (5, [.int x10, .ref (tp_ad E 100), .int x11])) :: (a12, .inr (2, [.ref a13])) :: (a13, .inr (5, [.int x14, .ref (tp_ad E 100), .int x15])) :: fr) sz)) (va_Qv (fun (_ : Unit) => True) (fun _ t => tp_out E (va_A ((a1, .inr (0, [.ref a2, .ref a3, .ref a4, .int x5, .int x6])) :: (a3, .inl (tp_ty E 6, 2, .inr (.inr (.inr (.inr f7))))) :: (a8, .inr (2, [.ref a9])) :: (a9, .inr (5, [.int x10, .ref (tp_ad E 100), .int x11])) :: (a12, .inr (2, [.ref a13])) :: (a13, .inr (5, [.int x14, .ref (tp_ad E 100), .int x15])) :: fr) sz) ((a13, .inr (5, [.int x14, .ref (tp_ad E 100), .int x15])) :: (a12, .inr (2, [.ref a13])) :: (a9, .inr (5, [.int x10, .ref (tp_ad E 100), .int x11])) :: (a8, .inr (2, [.ref a9])) :: (a1, .inr (0, [.ref a2, .ref a3, .ref a4, .int x5, .int 0])) :: (a3, .inl (tp_ty E 6, 2, .inr (.inr (.inr (.inr f7))))) :: fr) t) (va_A ((a1, .inr (0, [.ref a2, .ref a3, .ref a4, .int x5, .int x6])) :: (a3, .inl (tp_ty E 6, 2, .inr (.inr (.inr (.inr f7))))) :: (a8, .inr (2, [.ref a9])) :: (a9, .inr (5, [.int x10, .ref (tp_ad E 100), .int x11])) :: (a12, .inr (2, [.ref a13])) :: (a13, .inr (5, [.int x14, .ref (tp_ad E 100), .int x15])) :: fr) sz)) 0 0 (va_A ((a1, .inr (0, [.ref a2, .ref a3, .ref a4, .int x5, .int x6])) :: (a3, .inl (tp_ty E 6, 2, .inr (.inr (.inr (.inr f7))))) :: (a8, .inr (2, [.ref a9])) :: (a9, .inr (5, [.int x10, .ref (tp_ad E 100), .int x11])) :: (a12, .inr (2, [.ref a13])) :: (a13, .inr (5, [.int x14, .ref (tp_ad E 100), .int x15])) :: fr) sz) := by
  refine Met.ofW (cc := b_T_makeFarBranches) (maxL := 3) (ret := none) (by decide) rfl ?_
  intro p e s m args below meth c s₁ B hml hv
  obtain ⟨rfl, hsz, hP, hK, hD0⟩ := hv
  have hx := B.exec
  have hb := B.bytes
  have hr := B.returns
  have htg : ∀ w ∈ tp_G, w.before ([.ref a1] : List Value).toArray s = true := fun w h => atoms_spec (ws := w_T_makeFarBranches) B.pre w (List.mem_cons_of_mem _ h)
  have hown : s.vm.findClass "TwoPass" = some m.cls := findClass_of_methodNamed B.named
  have hlocks := B.notSynchronized
  subst hsz
  have hD := hD0.self (sz := s.heap.size)
  generalize hAe : va_A ((a1, .inr (0, [.ref a2, .ref a3, .ref a4, .int x5, .int x6])) :: (a3, .inl (tp_ty E 6, 2, .inr (.inr (.inr (.inr f7))))) :: (a8, .inr (2, [.ref a9])) :: (a9, .inr (5, [.int x10, .ref (tp_ad E 100), .int x11])) :: (a12, .inr (2, [.ref a13])) :: (a13, .inr (5, [.int x14, .ref (tp_ad E 100), .int x15])) :: fr) s.heap.size = A at hD hK ⊢
  have hA : ∀ q : Nat, s.heap.size ≤ q → A q := fun q h => by rw [← hAe]; exact Or.inr h
  have hS : va_S A s.heap s.heap [] := va_S.rf
  have hl := lv_entry ([.ref a1]) (n := 3) (Nat.le_of_ble_eq_true rfl)
  rw [lg_entry_eq]
  generalize (lg_sl ([.ref a1]) ++ List.replicate (3 - (lg_sl ([.ref a1])).length) Slot.unset).toArray = ls at hl ⊢
  have hl : lv_has ls 3 [(0, .ref a1)] := hl
  refine lv_iconst (v := 0) hx hb d_T_makeFarBranches_0 (by decide) ?_
  refine lv_istore_n (lv' := [(1, .int 0), (0, .ref a1)]) hx hb d_T_makeFarBranches_1 rfl hl (by decide) rfl (fun ls hl => ?_)
  refine lv_iload_n hx hb d_T_makeFarBranches_2 rfl (lv_at hl 0 rfl) ?_
  refine lv_iconst (v := 2) hx hb d_T_makeFarBranches_3 (by decide) ?_
  refine lv_icmp_ge (tgt := 48) hx hb d_T_makeFarBranches_4 (by decide) (fun h => absurd h (by decide)) (fun _ => ?_)
  refine lv_iconst (v := 0) hx hb d_T_makeFarBranches_7 (by decide) ?_
  refine lv_istore_n (lv' := [(2, .int 0), (1, .int 0), (0, .ref a1)]) hx hb d_T_makeFarBranches_8 rfl hl (by decide) rfl (fun ls hl => ?_)
  refine lv_iload_n hx hb d_T_makeFarBranches_9 rfl (lv_at hl 0 rfl) ?_
  refine lv_aload_n hx hb d_T_makeFarBranches_10 rfl (lv_at hl 2 rfl) ?_
  refine va_get (D := tp_D E) (ci := 0) (v := .ref a3) (C := qR_T) (T := qF_T) (N := 5) hx hb htg qi_T hown hK.1 hP 0 rfl rfl 1 (by decide) (htg _ kl_T_19) (fun _ h => h) rfl d_T_makeFarBranches_11 ?_
  refine lv_iload_n hx hb d_T_makeFarBranches_14 rfl (lv_at hl 1 rfl) ?_
  refine va_aldq (D := tp_D E) hx hb hK.1 hP 1 6 rfl rfl (by unfold vp_in; decide) d_T_makeFarBranches_15 ?_
  refine tp_topr (k := 0) (a := a8) rfl h1 ?_
  have hP : va_P (tp_D E) tp_cl ((a9, .inr (5, [.int x10, .ref (tp_ad E 100), .int x11])) :: (a1, .inr (0, [.ref a2, .ref a3, .ref a4, .int x5, .int x6])) :: (a3, .inl (tp_ty E 6, 2, .inr (.inr (.inr (.inr f7))))) :: (a8, .inr (2, [.ref a9])) :: (a12, .inr (2, [.ref a13])) :: (a13, .inr (5, [.int x14, .ref (tp_ad E 100), .int x15])) :: fr) _ := tp_mvP 3 rfl hP
  have hD : va_D A ((a9, .inr (5, [.int x10, .ref (tp_ad E 100), .int x11])) :: (a1, .inr (0, [.ref a2, .ref a3, .ref a4, .int x5, .int x6])) :: (a3, .inl (tp_ty E 6, 2, .inr (.inr (.inr (.inr f7))))) :: (a8, .inr (2, [.ref a9])) :: (a12, .inr (2, [.ref a13])) :: (a13, .inr (5, [.int x14, .ref (tp_ad E 100), .int x15])) :: fr) := tp_mvD 3 rfl hD
  have hP : va_P (tp_D E) tp_cl ((a8, .inr (2, [.ref a9])) :: (a9, .inr (5, [.int x10, .ref (tp_ad E 100), .int x11])) :: (a1, .inr (0, [.ref a2, .ref a3, .ref a4, .int x5, .int x6])) :: (a3, .inl (tp_ty E 6, 2, .inr (.inr (.inr (.inr f7))))) :: (a12, .inr (2, [.ref a13])) :: (a13, .inr (5, [.int x14, .ref (tp_ad E 100), .int x15])) :: fr) _ := tp_mvP 3 rfl hP
  have hD : va_D A ((a8, .inr (2, [.ref a9])) :: (a9, .inr (5, [.int x10, .ref (tp_ad E 100), .int x11])) :: (a1, .inr (0, [.ref a2, .ref a3, .ref a4, .int x5, .int x6])) :: (a3, .inl (tp_ty E 6, 2, .inr (.inr (.inr (.inr f7))))) :: (a12, .inr (2, [.ref a13])) :: (a13, .inr (5, [.int x14, .ref (tp_ad E 100), .int x15])) :: fr) := tp_mvD 3 rfl hD
  refine tp_ci (tp_rV (As := []) (rest := [.int 0]) ⟨hx, hb, hml, hown, htg⟩ (c_S_count_1 l E ((a1, .inr (0, [.ref a2, .ref a3, .ref a4, .int x5, .int x6])) :: (a3, .inl (tp_ty E 6, 2, .inr (.inr (.inr (.inr f7))))) :: (a12, .inr (2, [.ref a13])) :: (a13, .inr (5, [.int x14, .ref (tp_ad E 100), .int x15])) :: fr) _ a8 a9 x10 x11 ) (⟨callB_of 0 htg (tp_good0 kc_S_count) rfl rfl rfl (htg _ ki_S) (htg _ kl_T_66) ⟨by decide, by decide, by decide +kernel⟩ ⟨Nat.le_of_ble_eq_true rfl, Nat.le_of_ble_eq_true rfl⟩, htg _ km_S_count, htg _ kv_S_S_count⟩) (va_recv (ci := 2) (q0 := 0) hK.1 hP rfl rfl) hK hP hD hS hA rfl hl.1 rfl (Nat.le_of_ble_eq_true rfl) d_T_makeFarBranches_16 ⟨Nat.le_of_ble_eq_true rfl, Nat.le_of_ble_eq_true rfl⟩) hD hS hA (fun r u H locs hw hP hD hS => ?_)
  subst r
  have hP : va_P (tp_D E) tp_cl ((a9, .inr (5, [.int x10, .ref (tp_ad E 100), .int x11])) :: (a8, .inr (2, [.ref a9])) :: (a1, .inr (0, [.ref a2, .ref a3, .ref a4, .int x5, .int x6])) :: (a3, .inl (tp_ty E 6, 2, .inr (.inr (.inr (.inr f7))))) :: (a12, .inr (2, [.ref a13])) :: (a13, .inr (5, [.int x14, .ref (tp_ad E 100), .int x15])) :: fr) H := hP
  have hD : va_D A ((a9, .inr (5, [.int x10, .ref (tp_ad E 100), .int x11])) :: (a8, .inr (2, [.ref a9])) :: (a1, .inr (0, [.ref a2, .ref a3, .ref a4, .int x5, .int x6])) :: (a3, .inl (tp_ty E 6, 2, .inr (.inr (.inr (.inr f7))))) :: (a12, .inr (2, [.ref a13])) :: (a13, .inr (5, [.int x14, .ref (tp_ad E 100), .int x15])) :: fr) := hD
  refine lv_icmp_ge (tgt := 42) hx hb d_T_makeFarBranches_19 (by decide) (fun _ => ?_) (fun h => absurd h2 h)
  refine lv_iinc (k := 1) (v := 1) (lv' := [(1, .int 1), (2, .int 0), (0, .ref a1)]) hx hb d_T_makeFarBranches_42 hl rfl (by decide) (by decide) rfl (fun ls hl => ?_)
  refine lv_goto (tgt := 2) hx hb d_T_makeFarBranches_45 (by decide) ?_
  refine lv_iload_n hx hb d_T_makeFarBranches_2 rfl (lv_at hl 0 rfl) ?_
  refine lv_iconst (v := 2) hx hb d_T_makeFarBranches_3 (by decide) ?_
  refine lv_icmp_ge (tgt := 48) hx hb d_T_makeFarBranches_4 (by decide) (fun h => absurd h (by decide)) (fun _ => ?_)
  refine lv_iconst (v := 0) hx hb d_T_makeFarBranches_7 (by decide) ?_
  refine lv_istore_n (lv' := [(2, .int 0), (1, .int 1), (0, .ref a1)]) hx hb d_T_makeFarBranches_8 rfl hl (by decide) rfl (fun ls hl => ?_)
  refine lv_iload_n hx hb d_T_makeFarBranches_9 rfl (lv_at hl 0 rfl) ?_
  refine lv_aload_n hx hb d_T_makeFarBranches_10 rfl (lv_at hl 2 rfl) ?_
  refine va_get (D := tp_D E) (ci := 0) (v := .ref a3) (C := qR_T) (T := qF_T) (N := 5) hx hb htg qi_T hown hK.1 hP 2 rfl rfl 1 (by decide) (htg _ kl_T_19) (fun _ h => h) rfl d_T_makeFarBranches_11 ?_
  refine lv_iload_n hx hb d_T_makeFarBranches_14 rfl (lv_at hl 1 rfl) ?_
  refine va_aldq (D := tp_D E) hx hb hK.1 hP 3 6 rfl rfl (by unfold vp_in; decide) d_T_makeFarBranches_15 ?_
  refine tp_topr (k := 1) (a := a12) rfl h3 ?_
  have hP : va_P (tp_D E) tp_cl ((a13, .inr (5, [.int x14, .ref (tp_ad E 100), .int x15])) :: (a9, .inr (5, [.int x10, .ref (tp_ad E 100), .int x11])) :: (a8, .inr (2, [.ref a9])) :: (a1, .inr (0, [.ref a2, .ref a3, .ref a4, .int x5, .int x6])) :: (a3, .inl (tp_ty E 6, 2, .inr (.inr (.inr (.inr f7))))) :: (a12, .inr (2, [.ref a13])) :: fr) _ := tp_mvP 5 rfl hP
  have hD : va_D A ((a13, .inr (5, [.int x14, .ref (tp_ad E 100), .int x15])) :: (a9, .inr (5, [.int x10, .ref (tp_ad E 100), .int x11])) :: (a8, .inr (2, [.ref a9])) :: (a1, .inr (0, [.ref a2, .ref a3, .ref a4, .int x5, .int x6])) :: (a3, .inl (tp_ty E 6, 2, .inr (.inr (.inr (.inr f7))))) :: (a12, .inr (2, [.ref a13])) :: fr) := tp_mvD 5 rfl hD
  have hP : va_P (tp_D E) tp_cl ((a12, .inr (2, [.ref a13])) :: (a13, .inr (5, [.int x14, .ref (tp_ad E 100), .int x15])) :: (a9, .inr (5, [.int x10, .ref (tp_ad E 100), .int x11])) :: (a8, .inr (2, [.ref a9])) :: (a1, .inr (0, [.ref a2, .ref a3, .ref a4, .int x5, .int x6])) :: (a3, .inl (tp_ty E 6, 2, .inr (.inr (.inr (.inr f7))))) :: fr) _ := tp_mvP 5 rfl hP
  have hD : va_D A ((a12, .inr (2, [.ref a13])) :: (a13, .inr (5, [.int x14, .ref (tp_ad E 100), .int x15])) :: (a9, .inr (5, [.int x10, .ref (tp_ad E 100), .int x11])) :: (a8, .inr (2, [.ref a9])) :: (a1, .inr (0, [.ref a2, .ref a3, .ref a4, .int x5, .int x6])) :: (a3, .inl (tp_ty E 6, 2, .inr (.inr (.inr (.inr f7))))) :: fr) := tp_mvD 5 rfl hD
  refine tp_ci (tp_rV (As := []) (rest := [.int 0]) ⟨hx, hb, hml, hown, htg⟩ (c_S_count_1 l E ((a9, .inr (5, [.int x10, .ref (tp_ad E 100), .int x11])) :: (a8, .inr (2, [.ref a9])) :: (a1, .inr (0, [.ref a2, .ref a3, .ref a4, .int x5, .int x6])) :: (a3, .inl (tp_ty E 6, 2, .inr (.inr (.inr (.inr f7))))) :: fr) _ a12 a13 x14 x15 ) (⟨callB_of 0 htg (tp_good0 kc_S_count) rfl rfl rfl (htg _ ki_S) (htg _ kl_T_66) ⟨by decide, by decide, by decide +kernel⟩ ⟨Nat.le_of_ble_eq_true rfl, Nat.le_of_ble_eq_true rfl⟩, htg _ km_S_count, htg _ kv_S_S_count⟩) (va_recv (ci := 2) (q0 := 0) hK.1 hP rfl rfl) hK hP hD hS hA rfl hl.1 rfl (Nat.le_of_ble_eq_true rfl) d_T_makeFarBranches_16 ⟨Nat.le_of_ble_eq_true rfl, Nat.le_of_ble_eq_true rfl⟩) hD hS hA (fun r u H locs hw hP hD hS => ?_)
  subst r
  have hP : va_P (tp_D E) tp_cl ((a13, .inr (5, [.int x14, .ref (tp_ad E 100), .int x15])) :: (a12, .inr (2, [.ref a13])) :: (a9, .inr (5, [.int x10, .ref (tp_ad E 100), .int x11])) :: (a8, .inr (2, [.ref a9])) :: (a1, .inr (0, [.ref a2, .ref a3, .ref a4, .int x5, .int x6])) :: (a3, .inl (tp_ty E 6, 2, .inr (.inr (.inr (.inr f7))))) :: fr) H := hP
  have hD : va_D A ((a13, .inr (5, [.int x14, .ref (tp_ad E 100), .int x15])) :: (a12, .inr (2, [.ref a13])) :: (a9, .inr (5, [.int x10, .ref (tp_ad E 100), .int x11])) :: (a8, .inr (2, [.ref a9])) :: (a1, .inr (0, [.ref a2, .ref a3, .ref a4, .int x5, .int x6])) :: (a3, .inl (tp_ty E 6, 2, .inr (.inr (.inr (.inr f7))))) :: fr) := hD
  refine lv_icmp_ge (tgt := 42) hx hb d_T_makeFarBranches_19 (by decide) (fun _ => ?_) (fun h => absurd h4 h)
  refine lv_iinc (k := 1) (v := 2) (lv' := [(1, .int 2), (2, .int 0), (0, .ref a1)]) hx hb d_T_makeFarBranches_42 hl rfl (by decide) (by decide) rfl (fun ls hl => ?_)
  refine lv_goto (tgt := 2) hx hb d_T_makeFarBranches_45 (by decide) ?_
  refine lv_iload_n hx hb d_T_makeFarBranches_2 rfl (lv_at hl 0 rfl) ?_
  refine lv_iconst (v := 2) hx hb d_T_makeFarBranches_3 (by decide) ?_
  refine lv_icmp_ge (tgt := 48) hx hb d_T_makeFarBranches_4 (by decide) (fun _ => ?_) (fun h => absurd (by decide) h)
  refine lv_aload_n hx hb d_T_makeFarBranches_48 rfl (lv_at hl 2 rfl) ?_
  have hP : va_P (tp_D E) tp_cl ((a13, .inr (5, [.int x14, .ref (tp_ad E 100), .int x15])) :: (a12, .inr (2, [.ref a13])) :: (a9, .inr (5, [.int x10, .ref (tp_ad E 100), .int x11])) :: (a8, .inr (2, [.ref a9])) :: (a1, .inr (0, [.ref a2, .ref a3, .ref a4, .int x5, .int x6])) :: (a3, .inl (tp_ty E 6, 2, .inr (.inr (.inr (.inr f7))))) :: fr) _ := tp_mvP 0 rfl hP
  have hD : va_D A ((a13, .inr (5, [.int x14, .ref (tp_ad E 100), .int x15])) :: (a12, .inr (2, [.ref a13])) :: (a9, .inr (5, [.int x10, .ref (tp_ad E 100), .int x11])) :: (a8, .inr (2, [.ref a9])) :: (a1, .inr (0, [.ref a2, .ref a3, .ref a4, .int x5, .int x6])) :: (a3, .inl (tp_ty E 6, 2, .inr (.inr (.inr (.inr f7))))) :: fr) := tp_mvD 0 rfl hD
  have hP : va_P (tp_D E) tp_cl ((a12, .inr (2, [.ref a13])) :: (a13, .inr (5, [.int x14, .ref (tp_ad E 100), .int x15])) :: (a9, .inr (5, [.int x10, .ref (tp_ad E 100), .int x11])) :: (a8, .inr (2, [.ref a9])) :: (a1, .inr (0, [.ref a2, .ref a3, .ref a4, .int x5, .int x6])) :: (a3, .inl (tp_ty E 6, 2, .inr (.inr (.inr (.inr f7))))) :: fr) _ := tp_mvP 1 rfl hP
  have hD : va_D A ((a12, .inr (2, [.ref a13])) :: (a13, .inr (5, [.int x14, .ref (tp_ad E 100), .int x15])) :: (a9, .inr (5, [.int x10, .ref (tp_ad E 100), .int x11])) :: (a8, .inr (2, [.ref a9])) :: (a1, .inr (0, [.ref a2, .ref a3, .ref a4, .int x5, .int x6])) :: (a3, .inl (tp_ty E 6, 2, .inr (.inr (.inr (.inr f7))))) :: fr) := tp_mvD 1 rfl hD
  have hP : va_P (tp_D E) tp_cl ((a9, .inr (5, [.int x10, .ref (tp_ad E 100), .int x11])) :: (a12, .inr (2, [.ref a13])) :: (a13, .inr (5, [.int x14, .ref (tp_ad E 100), .int x15])) :: (a8, .inr (2, [.ref a9])) :: (a1, .inr (0, [.ref a2, .ref a3, .ref a4, .int x5, .int x6])) :: (a3, .inl (tp_ty E 6, 2, .inr (.inr (.inr (.inr f7))))) :: fr) _ := tp_mvP 2 rfl hP
  have hD : va_D A ((a9, .inr (5, [.int x10, .ref (tp_ad E 100), .int x11])) :: (a12, .inr (2, [.ref a13])) :: (a13, .inr (5, [.int x14, .ref (tp_ad E 100), .int x15])) :: (a8, .inr (2, [.ref a9])) :: (a1, .inr (0, [.ref a2, .ref a3, .ref a4, .int x5, .int x6])) :: (a3, .inl (tp_ty E 6, 2, .inr (.inr (.inr (.inr f7))))) :: fr) := tp_mvD 2 rfl hD
  have hP : va_P (tp_D E) tp_cl ((a8, .inr (2, [.ref a9])) :: (a9, .inr (5, [.int x10, .ref (tp_ad E 100), .int x11])) :: (a12, .inr (2, [.ref a13])) :: (a13, .inr (5, [.int x14, .ref (tp_ad E 100), .int x15])) :: (a1, .inr (0, [.ref a2, .ref a3, .ref a4, .int x5, .int x6])) :: (a3, .inl (tp_ty E 6, 2, .inr (.inr (.inr (.inr f7))))) :: fr) _ := tp_mvP 3 rfl hP
  have hD : va_D A ((a8, .inr (2, [.ref a9])) :: (a9, .inr (5, [.int x10, .ref (tp_ad E 100), .int x11])) :: (a12, .inr (2, [.ref a13])) :: (a13, .inr (5, [.int x14, .ref (tp_ad E 100), .int x15])) :: (a1, .inr (0, [.ref a2, .ref a3, .ref a4, .int x5, .int x6])) :: (a3, .inl (tp_ty E 6, 2, .inr (.inr (.inr (.inr f7))))) :: fr) := tp_mvD 3 rfl hD
  have hP : va_P (tp_D E) tp_cl ((a3, .inl (tp_ty E 6, 2, .inr (.inr (.inr (.inr f7))))) :: (a8, .inr (2, [.ref a9])) :: (a9, .inr (5, [.int x10, .ref (tp_ad E 100), .int x11])) :: (a12, .inr (2, [.ref a13])) :: (a13, .inr (5, [.int x14, .ref (tp_ad E 100), .int x15])) :: (a1, .inr (0, [.ref a2, .ref a3, .ref a4, .int x5, .int x6])) :: fr) _ := tp_mvP 5 rfl hP
  have hD : va_D A ((a3, .inl (tp_ty E 6, 2, .inr (.inr (.inr (.inr f7))))) :: (a8, .inr (2, [.ref a9])) :: (a9, .inr (5, [.int x10, .ref (tp_ad E 100), .int x11])) :: (a12, .inr (2, [.ref a13])) :: (a13, .inr (5, [.int x14, .ref (tp_ad E 100), .int x15])) :: (a1, .inr (0, [.ref a2, .ref a3, .ref a4, .int x5, .int x6])) :: fr) := tp_mvD 5 rfl hD
  have hP : va_P (tp_D E) tp_cl ((a1, .inr (0, [.ref a2, .ref a3, .ref a4, .int x5, .int x6])) :: (a3, .inl (tp_ty E 6, 2, .inr (.inr (.inr (.inr f7))))) :: (a8, .inr (2, [.ref a9])) :: (a9, .inr (5, [.int x10, .ref (tp_ad E 100), .int x11])) :: (a12, .inr (2, [.ref a13])) :: (a13, .inr (5, [.int x14, .ref (tp_ad E 100), .int x15])) :: fr) _ := tp_mvP 5 rfl hP
  have hD : va_D A ((a1, .inr (0, [.ref a2, .ref a3, .ref a4, .int x5, .int x6])) :: (a3, .inl (tp_ty E 6, 2, .inr (.inr (.inr (.inr f7))))) :: (a8, .inr (2, [.ref a9])) :: (a9, .inr (5, [.int x10, .ref (tp_ad E 100), .int x11])) :: (a12, .inr (2, [.ref a13])) :: (a13, .inr (5, [.int x14, .ref (tp_ad E 100), .int x15])) :: fr) := tp_mvD 5 rfl hD
  refine tp_cv (tp_rV (As := []) (rest := []) ⟨hx, hb, hml, hown, htg⟩ (c_T_layOut_1 l E fr _ a1 a2 a3 a4 x5 x6 f7 a8 a9 x10 x11 a12 a13 x14 x15 h1 h2 h3 h4) (⟨callB_of 0 htg (tp_good0 kc_T_layOut) rfl rfl rfl (htg _ ki_T) (htg _ kl_T_197) ⟨by decide, by decide, by decide +kernel⟩ ⟨Nat.le_of_ble_eq_true rfl, Nat.le_of_ble_eq_true rfl⟩, htg _ km_T_layOut, htg _ kp_T_layOut⟩) (va_recv (ci := 0) (q0 := 0) hK.1 hP rfl rfl) hK hP hD hS hA rfl hl.1 rfl (Nat.le_of_ble_eq_true rfl) d_T_makeFarBranches_49 ⟨Nat.le_of_ble_eq_true rfl, Nat.le_of_ble_eq_true rfl⟩) hD hS hA (fun u H locs _ hP hD hS => ?_)
  have hP : va_P (tp_D E) tp_cl ((a13, .inr (5, [.int x14, .ref (tp_ad E 100), .int x15])) :: (a12, .inr (2, [.ref a13])) :: (a9, .inr (5, [.int x10, .ref (tp_ad E 100), .int x11])) :: (a8, .inr (2, [.ref a9])) :: (a1, .inr (0, [.ref a2, .ref a3, .ref a4, .int x5, .int 0])) :: (a3, .inl (tp_ty E 6, 2, .inr (.inr (.inr (.inr f7))))) :: fr) H := hP
  have hD : va_D A ((a13, .inr (5, [.int x14, .ref (tp_ad E 100), .int x15])) :: (a12, .inr (2, [.ref a13])) :: (a9, .inr (5, [.int x10, .ref (tp_ad E 100), .int x11])) :: (a8, .inr (2, [.ref a9])) :: (a1, .inr (0, [.ref a2, .ref a3, .ref a4, .int x5, .int 0])) :: (a3, .inl (tp_ty E 6, 2, .inr (.inr (.inr (.inr f7))))) :: fr) := hD
  refine lv_iconst (v := 0) hx hb d_T_makeFarBranches_52 (by decide) ?_
  refine lv_istore_n (lv' := [(1, .int 0), (2, .int 0), (0, .ref a1)]) hx hb d_T_makeFarBranches_53 rfl hl (by decide) rfl (fun ls hl => ?_)
  refine lv_iload_n hx hb d_T_makeFarBranches_54 rfl (lv_at hl 0 rfl) ?_
  refine lv_bipush (v := 32) hx hb d_T_makeFarBranches_55 (by decide) ?_
  refine lv_icmp_gt (tgt := 77) hx hb d_T_makeFarBranches_57 (by decide) (fun h => absurd h (by decide)) (fun _ => ?_)
  refine lv_aload_n hx hb d_T_makeFarBranches_60 rfl (lv_at hl 2 rfl) ?_
  have hP : va_P (tp_D E) tp_cl ((a13, .inr (5, [.int x14, .ref (tp_ad E 100), .int x15])) :: (a12, .inr (2, [.ref a13])) :: (a9, .inr (5, [.int x10, .ref (tp_ad E 100), .int x11])) :: (a8, .inr (2, [.ref a9])) :: (a1, .inr (0, [.ref a2, .ref a3, .ref a4, .int x5, .int 0])) :: (a3, .inl (tp_ty E 6, 2, .inr (.inr (.inr (.inr f7))))) :: fr) _ := tp_mvP 0 rfl hP
  have hD : va_D A ((a13, .inr (5, [.int x14, .ref (tp_ad E 100), .int x15])) :: (a12, .inr (2, [.ref a13])) :: (a9, .inr (5, [.int x10, .ref (tp_ad E 100), .int x11])) :: (a8, .inr (2, [.ref a9])) :: (a1, .inr (0, [.ref a2, .ref a3, .ref a4, .int x5, .int 0])) :: (a3, .inl (tp_ty E 6, 2, .inr (.inr (.inr (.inr f7))))) :: fr) := tp_mvD 0 rfl hD
  have hP : va_P (tp_D E) tp_cl ((a12, .inr (2, [.ref a13])) :: (a13, .inr (5, [.int x14, .ref (tp_ad E 100), .int x15])) :: (a9, .inr (5, [.int x10, .ref (tp_ad E 100), .int x11])) :: (a8, .inr (2, [.ref a9])) :: (a1, .inr (0, [.ref a2, .ref a3, .ref a4, .int x5, .int 0])) :: (a3, .inl (tp_ty E 6, 2, .inr (.inr (.inr (.inr f7))))) :: fr) _ := tp_mvP 1 rfl hP
  have hD : va_D A ((a12, .inr (2, [.ref a13])) :: (a13, .inr (5, [.int x14, .ref (tp_ad E 100), .int x15])) :: (a9, .inr (5, [.int x10, .ref (tp_ad E 100), .int x11])) :: (a8, .inr (2, [.ref a9])) :: (a1, .inr (0, [.ref a2, .ref a3, .ref a4, .int x5, .int 0])) :: (a3, .inl (tp_ty E 6, 2, .inr (.inr (.inr (.inr f7))))) :: fr) := tp_mvD 1 rfl hD
  have hP : va_P (tp_D E) tp_cl ((a9, .inr (5, [.int x10, .ref (tp_ad E 100), .int x11])) :: (a12, .inr (2, [.ref a13])) :: (a13, .inr (5, [.int x14, .ref (tp_ad E 100), .int x15])) :: (a8, .inr (2, [.ref a9])) :: (a1, .inr (0, [.ref a2, .ref a3, .ref a4, .int x5, .int 0])) :: (a3, .inl (tp_ty E 6, 2, .inr (.inr (.inr (.inr f7))))) :: fr) _ := tp_mvP 2 rfl hP
  have hD : va_D A ((a9, .inr (5, [.int x10, .ref (tp_ad E 100), .int x11])) :: (a12, .inr (2, [.ref a13])) :: (a13, .inr (5, [.int x14, .ref (tp_ad E 100), .int x15])) :: (a8, .inr (2, [.ref a9])) :: (a1, .inr (0, [.ref a2, .ref a3, .ref a4, .int x5, .int 0])) :: (a3, .inl (tp_ty E 6, 2, .inr (.inr (.inr (.inr f7))))) :: fr) := tp_mvD 2 rfl hD
  have hP : va_P (tp_D E) tp_cl ((a8, .inr (2, [.ref a9])) :: (a9, .inr (5, [.int x10, .ref (tp_ad E 100), .int x11])) :: (a12, .inr (2, [.ref a13])) :: (a13, .inr (5, [.int x14, .ref (tp_ad E 100), .int x15])) :: (a1, .inr (0, [.ref a2, .ref a3, .ref a4, .int x5, .int 0])) :: (a3, .inl (tp_ty E 6, 2, .inr (.inr (.inr (.inr f7))))) :: fr) _ := tp_mvP 3 rfl hP
  have hD : va_D A ((a8, .inr (2, [.ref a9])) :: (a9, .inr (5, [.int x10, .ref (tp_ad E 100), .int x11])) :: (a12, .inr (2, [.ref a13])) :: (a13, .inr (5, [.int x14, .ref (tp_ad E 100), .int x15])) :: (a1, .inr (0, [.ref a2, .ref a3, .ref a4, .int x5, .int 0])) :: (a3, .inl (tp_ty E 6, 2, .inr (.inr (.inr (.inr f7))))) :: fr) := tp_mvD 3 rfl hD
  have hP : va_P (tp_D E) tp_cl ((a3, .inl (tp_ty E 6, 2, .inr (.inr (.inr (.inr f7))))) :: (a8, .inr (2, [.ref a9])) :: (a9, .inr (5, [.int x10, .ref (tp_ad E 100), .int x11])) :: (a12, .inr (2, [.ref a13])) :: (a13, .inr (5, [.int x14, .ref (tp_ad E 100), .int x15])) :: (a1, .inr (0, [.ref a2, .ref a3, .ref a4, .int x5, .int 0])) :: fr) _ := tp_mvP 5 rfl hP
  have hD : va_D A ((a3, .inl (tp_ty E 6, 2, .inr (.inr (.inr (.inr f7))))) :: (a8, .inr (2, [.ref a9])) :: (a9, .inr (5, [.int x10, .ref (tp_ad E 100), .int x11])) :: (a12, .inr (2, [.ref a13])) :: (a13, .inr (5, [.int x14, .ref (tp_ad E 100), .int x15])) :: (a1, .inr (0, [.ref a2, .ref a3, .ref a4, .int x5, .int 0])) :: fr) := tp_mvD 5 rfl hD
  have hP : va_P (tp_D E) tp_cl ((a1, .inr (0, [.ref a2, .ref a3, .ref a4, .int x5, .int 0])) :: (a3, .inl (tp_ty E 6, 2, .inr (.inr (.inr (.inr f7))))) :: (a8, .inr (2, [.ref a9])) :: (a9, .inr (5, [.int x10, .ref (tp_ad E 100), .int x11])) :: (a12, .inr (2, [.ref a13])) :: (a13, .inr (5, [.int x14, .ref (tp_ad E 100), .int x15])) :: fr) _ := tp_mvP 5 rfl hP
  have hD : va_D A ((a1, .inr (0, [.ref a2, .ref a3, .ref a4, .int x5, .int 0])) :: (a3, .inl (tp_ty E 6, 2, .inr (.inr (.inr (.inr f7))))) :: (a8, .inr (2, [.ref a9])) :: (a9, .inr (5, [.int x10, .ref (tp_ad E 100), .int x11])) :: (a12, .inr (2, [.ref a13])) :: (a13, .inr (5, [.int x14, .ref (tp_ad E 100), .int x15])) :: fr) := tp_mvD 5 rfl hD
  refine tp_ci (tp_rV (As := []) (rest := []) ⟨hx, hb, hml, hown, htg⟩ (c_T_makeUnreachingFar_1 l E fr _ a1 a2 a3 a4 x5 0 f7 a8 a9 x10 x11 a12 a13 x14 x15 h1 h2 h3 h4) (⟨callB_of 0 htg (tp_good0 kc_T_makeUnreachingFar) rfl rfl rfl (htg _ ki_T) (htg _ kl_T_200) ⟨by decide, by decide, by decide +kernel⟩ ⟨Nat.le_of_ble_eq_true rfl, Nat.le_of_ble_eq_true rfl⟩, htg _ km_T_makeUnreachingFar, htg _ kp_T_makeUnreachingFar⟩) (va_recv (ci := 0) (q0 := 0) hK.1 hP rfl rfl) hK hP hD hS hA rfl hl.1 rfl (Nat.le_of_ble_eq_true rfl) d_T_makeFarBranches_61 ⟨Nat.le_of_ble_eq_true rfl, Nat.le_of_ble_eq_true rfl⟩) hD hS hA (fun r u H locs hw hP hD hS => ?_)
  subst r
  have hP : va_P (tp_D E) tp_cl ((a13, .inr (5, [.int x14, .ref (tp_ad E 100), .int x15])) :: (a12, .inr (2, [.ref a13])) :: (a9, .inr (5, [.int x10, .ref (tp_ad E 100), .int x11])) :: (a8, .inr (2, [.ref a9])) :: (a1, .inr (0, [.ref a2, .ref a3, .ref a4, .int x5, .int 0])) :: (a3, .inl (tp_ty E 6, 2, .inr (.inr (.inr (.inr f7))))) :: fr) H := hP
  have hD : va_D A ((a13, .inr (5, [.int x14, .ref (tp_ad E 100), .int x15])) :: (a12, .inr (2, [.ref a13])) :: (a9, .inr (5, [.int x10, .ref (tp_ad E 100), .int x11])) :: (a8, .inr (2, [.ref a9])) :: (a1, .inr (0, [.ref a2, .ref a3, .ref a4, .int x5, .int 0])) :: (a3, .inl (tp_ty E 6, 2, .inr (.inr (.inr (.inr f7))))) :: fr) := hD
  refine lv_if_eq (tgt := 77) hx hb d_T_makeFarBranches_64 (by decide) (fun _ => ?_) (fun h => absurd (by decide) h)
  exact W.vret hx hb hr (fun t ht hW => ⟨⟨(), rfl, trivial, by rw [ht]; exact hP, hD⟩, hS.F ht⟩) hS.2.2 d_T_makeFarBranches_77
set_option maxHeartbeats 400000 in
set_option maxRecDepth 100000 in
theorem c_T_requireEvenWays_1 (l : Launch) (E : tp_Env) (fr : va_W) (sz : Nat) (a1 : Nat) (a2 : Nat) (a3 : Nat) (a4 : Nat) (x5 : Int32) (x6 : Int32) (f7 : Nat → Option Nat) (a8 : Nat) (a9 : Nat) (x10 : Int32) (x11 : Int32) (a12 : Nat) (a13 : Nat) (x14 : Int32) (x15 : Int32) (h1 : f7 0 = some a8) (h2 : x11 ≤ 0) (h3 : f7 1 = some a12) (h4 : x15 ≤ 0) : Met l y_T_requireEvenWays w_T_requireEvenWays ({ frames := 2, cells := 0, slots := 0, locals := 40 }) (va_Pc [.ref a1] (tp_in E ((a1, .inr (0, [.ref a2, .ref a3, .ref a4, .int x5, .int x6])) :: (a3, .inl (tp_ty E 6, 2, .inr (.inr (.inr (.inr f7))))) :: (a8, .inr (2, [.ref a9])) :: (a9, .inr (5, [.int x10, .ref (tp_ad E 100), .int x11])) :: (a12, .inr (2, [.ref a13])) :: (a13, .inr (5, [.int x14, .ref (tp_ad E 100), .int x15])) :: fr) sz)) (va_Qv (fun (_ : Unit) => True) (fun _ t => tp_out E (va_A ((a1, .inr (0, [.ref a2, .ref a3, .ref a4, .int x5, .int x6])) :: (a3, .inl (tp_ty E 6, 2, .inr (.inr (.inr (.inr f7))))) :: (a8, .inr (2, [.ref a9])) :: (a9, .inr (5, [.int x10, .ref (tp_ad E 100), .int x11])) :: (a12, .inr (2, [.ref a13])) :: (a13, .inr (5, [.int x14, .ref (tp_ad E 100), .int x15])) :: fr) sz) ((a13, .inr (5, [.int x14, .ref (tp_ad E 100), .int x15])) :: (a12, .inr (2, [.ref a13])) :: (a9, .inr (5, [.int x10, .ref (tp_ad E 100), .int x11])) :: (a8, .inr (2, [.ref a9])) :: (a1, .inr (0, [.ref a2, .ref a3, .ref a4, .int x5, .int x6])) :: (a3, .inl (tp_ty E 6, 2, .inr (.inr (.inr (.inr f7))))) :: fr) t) (va_A ((a1, .inr (0, [.ref a2, .ref a3, .ref a4, .int x5, .int x6])) :: (a3, .inl (tp_ty E 6, 2, .inr (.inr (.inr (.inr f7))))) :: (a8, .inr (2, [.ref a9])) :: (a9, .inr (5, [.int x10, .ref (tp_ad E 100), .int x11])) :: (a12, .inr (2, [.ref a13])) :: (a13, .inr (5, [.int x14, .ref (tp_ad E 100), .int x15])) :: fr) sz)) 0 0 (va_A ((a1, .inr (0, [.ref a2, .ref a3, .ref a4, .int x5, .int x6])) :: (a3, .inl (tp_ty E 6, 2, .inr (.inr (.inr (.inr f7))))) :: (a8, .inr (2, [.ref a9])) :: (a9, .inr (5, [.int x10, .ref (tp_ad E 100), .int x11])) :: (a12, .inr (2, [.ref a13])) :: (a13, .inr (5, [.int x14, .ref (tp_ad E 100), .int x15])) :: fr) sz) := by
  refine Met.ofW (cc := b_T_requireEvenWays) (maxL := 4) (ret := none) (by decide) rfl ?_
  intro p e s m args below meth c s₁ B hml hv
  obtain ⟨rfl, hsz, hP, hK, hD0⟩ := hv
  have hx := B.exec
  have hb := B.bytes
  have hr := B.returns
  have htg : ∀ w ∈ tp_G, w.before ([.ref a1] : List Value).toArray s = true := fun w h => atoms_spec (ws := w_T_requireEvenWays) B.pre w (List.mem_cons_of_mem _ h)
  have hown : s.vm.findClass "TwoPass" = some m.cls := findClass_of_methodNamed B.named
  have hlocks := B.notSynchronized
  subst hsz
  have hD := hD0.self (sz := s.heap.size)
  generalize hAe : va_A ((a1, .inr (0, [.ref a2, .ref a3, .ref a4, .int x5, .int x6])) :: (a3, .inl (tp_ty E 6, 2, .inr (.inr (.inr (.inr f7))))) :: (a8, .inr (2, [.ref a9])) :: (a9, .inr (5, [.int x10, .ref (tp_ad E 100), .int x11])) :: (a12, .inr (2, [.ref a13])) :: (a13, .inr (5, [.int x14, .ref (tp_ad E 100), .int x15])) :: fr) s.heap.size = A at hD hK ⊢
  have hA : ∀ q : Nat, s.heap.size ≤ q → A q := fun q h => by rw [← hAe]; exact Or.inr h
  have hS : va_S A s.heap s.heap [] := va_S.rf
  have hl := lv_entry ([.ref a1]) (n := 4) (Nat.le_of_ble_eq_true rfl)
  rw [lg_entry_eq]
  generalize (lg_sl ([.ref a1]) ++ List.replicate (4 - (lg_sl ([.ref a1])).length) Slot.unset).toArray = ls at hl ⊢
  have hl : lv_has ls 4 [(0, .ref a1)] := hl
  refine lv_iconst (v := 0) hx hb d_T_requireEvenWays_0 (by decide) ?_
  refine lv_istore_n (lv' := [(1, .int 0), (0, .ref a1)]) hx hb d_T_requireEvenWays_1 rfl hl (by decide) rfl (fun ls hl => ?_)
  refine lv_iload_n hx hb d_T_requireEvenWays_2 rfl (lv_at hl 0 rfl) ?_
  refine lv_iconst (v := 2) hx hb d_T_requireEvenWays_3 (by decide) ?_
  refine lv_icmp_ge (tgt := 74) hx hb d_T_requireEvenWays_4 (by decide) (fun h => absurd h (by decide)) (fun _ => ?_)
  refine lv_iconst (v := 0) hx hb d_T_requireEvenWays_7 (by decide) ?_
  refine lv_istore_n (lv' := [(2, .int 0), (1, .int 0), (0, .ref a1)]) hx hb d_T_requireEvenWays_8 rfl hl (by decide) rfl (fun ls hl => ?_)
  refine lv_iload_n hx hb d_T_requireEvenWays_9 rfl (lv_at hl 0 rfl) ?_
  refine lv_aload_n hx hb d_T_requireEvenWays_10 rfl (lv_at hl 2 rfl) ?_
  refine va_get (D := tp_D E) (ci := 0) (v := .ref a3) (C := qR_T) (T := qF_T) (N := 5) hx hb htg qi_T hown hK.1 hP 0 rfl rfl 1 (by decide) (htg _ kl_T_19) (fun _ h => h) rfl d_T_requireEvenWays_11 ?_
  refine lv_iload_n hx hb d_T_requireEvenWays_14 rfl (lv_at hl 1 rfl) ?_
  refine va_aldq (D := tp_D E) hx hb hK.1 hP 1 6 rfl rfl (by unfold vp_in; decide) d_T_requireEvenWays_15 ?_
  refine tp_topr (k := 0) (a := a8) rfl h1 ?_
  have hP : va_P (tp_D E) tp_cl ((a9, .inr (5, [.int x10, .ref (tp_ad E 100), .int x11])) :: (a1, .inr (0, [.ref a2, .ref a3, .ref a4, .int x5, .int x6])) :: (a3, .inl (tp_ty E 6, 2, .inr (.inr (.inr (.inr f7))))) :: (a8, .inr (2, [.ref a9])) :: (a12, .inr (2, [.ref a13])) :: (a13, .inr (5, [.int x14, .ref (tp_ad E 100), .int x15])) :: fr) _ := tp_mvP 3 rfl hP
  have hD : va_D A ((a9, .inr (5, [.int x10, .ref (tp_ad E 100), .int x11])) :: (a1, .inr (0, [.ref a2, .ref a3, .ref a4, .int x5, .int x6])) :: (a3, .inl (tp_ty E 6, 2, .inr (.inr (.inr (.inr f7))))) :: (a8, .inr (2, [.ref a9])) :: (a12, .inr (2, [.ref a13])) :: (a13, .inr (5, [.int x14, .ref (tp_ad E 100), .int x15])) :: fr) := tp_mvD 3 rfl hD
  have hP : va_P (tp_D E) tp_cl ((a8, .inr (2, [.ref a9])) :: (a9, .inr (5, [.int x10, .ref (tp_ad E 100), .int x11])) :: (a1, .inr (0, [.ref a2, .ref a3, .ref a4, .int x5, .int x6])) :: (a3, .inl (tp_ty E 6, 2, .inr (.inr (.inr (.inr f7))))) :: (a12, .inr (2, [.ref a13])) :: (a13, .inr (5, [.int x14, .ref (tp_ad E 100), .int x15])) :: fr) _ := tp_mvP 3 rfl hP
  have hD : va_D A ((a8, .inr (2, [.ref a9])) :: (a9, .inr (5, [.int x10, .ref (tp_ad E 100), .int x11])) :: (a1, .inr (0, [.ref a2, .ref a3, .ref a4, .int x5, .int x6])) :: (a3, .inl (tp_ty E 6, 2, .inr (.inr (.inr (.inr f7))))) :: (a12, .inr (2, [.ref a13])) :: (a13, .inr (5, [.int x14, .ref (tp_ad E 100), .int x15])) :: fr) := tp_mvD 3 rfl hD
  refine tp_ci (tp_rV (As := []) (rest := [.int 0]) ⟨hx, hb, hml, hown, htg⟩ (c_S_count_1 l E ((a1, .inr (0, [.ref a2, .ref a3, .ref a4, .int x5, .int x6])) :: (a3, .inl (tp_ty E 6, 2, .inr (.inr (.inr (.inr f7))))) :: (a12, .inr (2, [.ref a13])) :: (a13, .inr (5, [.int x14, .ref (tp_ad E 100), .int x15])) :: fr) _ a8 a9 x10 x11 ) (⟨callB_of 0 htg (tp_good0 kc_S_count) rfl rfl rfl (htg _ ki_S) (htg _ kl_T_66) ⟨by decide, by decide, by decide +kernel⟩ ⟨Nat.le_of_ble_eq_true rfl, Nat.le_of_ble_eq_true rfl⟩, htg _ km_S_count, htg _ kv_S_S_count⟩) (va_recv (ci := 2) (q0 := 0) hK.1 hP rfl rfl) hK hP hD hS hA rfl hl.1 rfl (Nat.le_of_ble_eq_true rfl) d_T_requireEvenWays_16 ⟨Nat.le_of_ble_eq_true rfl, Nat.le_of_ble_eq_true rfl⟩) hD hS hA (fun r u H locs hw hP hD hS => ?_)
  subst r
  have hP : va_P (tp_D E) tp_cl ((a9, .inr (5, [.int x10, .ref (tp_ad E 100), .int x11])) :: (a8, .inr (2, [.ref a9])) :: (a1, .inr (0, [.ref a2, .ref a3, .ref a4, .int x5, .int x6])) :: (a3, .inl (tp_ty E 6, 2, .inr (.inr (.inr (.inr f7))))) :: (a12, .inr (2, [.ref a13])) :: (a13, .inr (5, [.int x14, .ref (tp_ad E 100), .int x15])) :: fr) H := hP
  have hD : va_D A ((a9, .inr (5, [.int x10, .ref (tp_ad E 100), .int x11])) :: (a8, .inr (2, [.ref a9])) :: (a1, .inr (0, [.ref a2, .ref a3, .ref a4, .int x5, .int x6])) :: (a3, .inl (tp_ty E 6, 2, .inr (.inr (.inr (.inr f7))))) :: (a12, .inr (2, [.ref a13])) :: (a13, .inr (5, [.int x14, .ref (tp_ad E 100), .int x15])) :: fr) := hD
  refine lv_icmp_ge (tgt := 68) hx hb d_T_requireEvenWays_19 (by decide) (fun _ => ?_) (fun h => absurd h2 h)
  refine lv_iinc (k := 1) (v := 1) (lv' := [(1, .int 1), (2, .int 0), (0, .ref a1)]) hx hb d_T_requireEvenWays_68 hl rfl (by decide) (by decide) rfl (fun ls hl => ?_)
  refine lv_goto (tgt := 2) hx hb d_T_requireEvenWays_71 (by decide) ?_
  refine lv_iload_n hx hb d_T_requireEvenWays_2 rfl (lv_at hl 0 rfl) ?_
  refine lv_iconst (v := 2) hx hb d_T_requireEvenWays_3 (by decide) ?_
  refine lv_icmp_ge (tgt := 74) hx hb d_T_requireEvenWays_4 (by decide) (fun h => absurd h (by decide)) (fun _ => ?_)
  refine lv_iconst (v := 0) hx hb d_T_requireEvenWays_7 (by decide) ?_
  refine lv_istore_n (lv' := [(2, .int 0), (1, .int 1), (0, .ref a1)]) hx hb d_T_requireEvenWays_8 rfl hl (by decide) rfl (fun ls hl => ?_)
  refine lv_iload_n hx hb d_T_requireEvenWays_9 rfl (lv_at hl 0 rfl) ?_
  refine lv_aload_n hx hb d_T_requireEvenWays_10 rfl (lv_at hl 2 rfl) ?_
  refine va_get (D := tp_D E) (ci := 0) (v := .ref a3) (C := qR_T) (T := qF_T) (N := 5) hx hb htg qi_T hown hK.1 hP 2 rfl rfl 1 (by decide) (htg _ kl_T_19) (fun _ h => h) rfl d_T_requireEvenWays_11 ?_
  refine lv_iload_n hx hb d_T_requireEvenWays_14 rfl (lv_at hl 1 rfl) ?_
  refine va_aldq (D := tp_D E) hx hb hK.1 hP 3 6 rfl rfl (by unfold vp_in; decide) d_T_requireEvenWays_15 ?_
  refine tp_topr (k := 1) (a := a12) rfl h3 ?_
  have hP : va_P (tp_D E) tp_cl ((a13, .inr (5, [.int x14, .ref (tp_ad E 100), .int x15])) :: (a9, .inr (5, [.int x10, .ref (tp_ad E 100), .int x11])) :: (a8, .inr (2, [.ref a9])) :: (a1, .inr (0, [.ref a2, .ref a3, .ref a4, .int x5, .int x6])) :: (a3, .inl (tp_ty E 6, 2, .inr (.inr (.inr (.inr f7))))) :: (a12, .inr (2, [.ref a13])) :: fr) _ := tp_mvP 5 rfl hP
  have hD : va_D A ((a13, .inr (5, [.int x14, .ref (tp_ad E 100), .int x15])) :: (a9, .inr (5, [.int x10, .ref (tp_ad E 100), .int x11])) :: (a8, .inr (2, [.ref a9])) :: (a1, .inr (0, [.ref a2, .ref a3, .ref a4, .int x5, .int x6])) :: (a3, .inl (tp_ty E 6, 2, .inr (.inr (.inr (.inr f7))))) :: (a12, .inr (2, [.ref a13])) :: fr) := tp_mvD 5 rfl hD
  have hP : va_P (tp_D E) tp_cl ((a12, .inr (2, [.ref a13])) :: (a13, .inr (5, [.int x14, .ref (tp_ad E 100), .int x15])) :: (a9, .inr (5, [.int x10, .ref (tp_ad E 100), .int x11])) :: (a8, .inr (2, [.ref a9])) :: (a1, .inr (0, [.ref a2, .ref a3, .ref a4, .int x5, .int x6])) :: (a3, .inl (tp_ty E 6, 2, .inr (.inr (.inr (.inr f7))))) :: fr) _ := tp_mvP 5 rfl hP
  have hD : va_D A ((a12, .inr (2, [.ref a13])) :: (a13, .inr (5, [.int x14, .ref (tp_ad E 100), .int x15])) :: (a9, .inr (5, [.int x10, .ref (tp_ad E 100), .int x11])) :: (a8, .inr (2, [.ref a9])) :: (a1, .inr (0, [.ref a2, .ref a3, .ref a4, .int x5, .int x6])) :: (a3, .inl (tp_ty E 6, 2, .inr (.inr (.inr (.inr f7))))) :: fr) := tp_mvD 5 rfl hD
  refine tp_ci (tp_rV (As := []) (rest := [.int 0]) ⟨hx, hb, hml, hown, htg⟩ (c_S_count_1 l E ((a9, .inr (5, [.int x10, .ref (tp_ad E 100), .int x11])) :: (a8, .inr (2, [.ref a9])) :: (a1, .inr (0, [.ref a2, .ref a3, .ref a4, .int x5, .int x6])) :: (a3, .inl (tp_ty E 6, 2, .inr (.inr (.inr (.inr f7))))) :: fr) _ a12 a13 x14 x15 ) (⟨callB_of 0 htg (tp_good0 kc_S_count) rfl rfl rfl (htg _ ki_S) (htg _ kl_T_66) ⟨by decide, by decide, by decide +kernel⟩ ⟨Nat.le_of_ble_eq_true rfl, Nat.le_of_ble_eq_true rfl⟩, htg _ km_S_count, htg _ kv_S_S_count⟩) (va_recv (ci := 2) (q0 := 0) hK.1 hP rfl rfl) hK hP hD hS hA rfl hl.1 rfl (Nat.le_of_ble_eq_true rfl) d_T_requireEvenWays_16 ⟨Nat.le_of_ble_eq_true rfl, Nat.le_of_ble_eq_true rfl⟩) hD hS hA (fun r u H locs hw hP hD hS => ?_)
  subst r
  have hP : va_P (tp_D E) tp_cl ((a13, .inr (5, [.int x14, .ref (tp_ad E 100), .int x15])) :: (a12, .inr (2, [.ref a13])) :: (a9, .inr (5, [.int x10, .ref (tp_ad E 100), .int x11])) :: (a8, .inr (2, [.ref a9])) :: (a1, .inr (0, [.ref a2, .ref a3, .ref a4, .int x5, .int x6])) :: (a3, .inl (tp_ty E 6, 2, .inr (.inr (.inr (.inr f7))))) :: fr) H := hP
  have hD : va_D A ((a13, .inr (5, [.int x14, .ref (tp_ad E 100), .int x15])) :: (a12, .inr (2, [.ref a13])) :: (a9, .inr (5, [.int x10, .ref (tp_ad E 100), .int x11])) :: (a8, .inr (2, [.ref a9])) :: (a1, .inr (0, [.ref a2, .ref a3, .ref a4, .int x5, .int x6])) :: (a3, .inl (tp_ty E 6, 2, .inr (.inr (.inr (.inr f7))))) :: fr) := hD
  refine lv_icmp_ge (tgt := 68) hx hb d_T_requireEvenWays_19 (by decide) (fun _ => ?_) (fun h => absurd h4 h)
  refine lv_iinc (k := 1) (v := 2) (lv' := [(1, .int 2), (2, .int 0), (0, .ref a1)]) hx hb d_T_requireEvenWays_68 hl rfl (by decide) (by decide) rfl (fun ls hl => ?_)
  refine lv_goto (tgt := 2) hx hb d_T_requireEvenWays_71 (by decide) ?_
  refine lv_iload_n hx hb d_T_requireEvenWays_2 rfl (lv_at hl 0 rfl) ?_
  refine lv_iconst (v := 2) hx hb d_T_requireEvenWays_3 (by decide) ?_
  refine lv_icmp_ge (tgt := 74) hx hb d_T_requireEvenWays_4 (by decide) (fun _ => ?_) (fun h => absurd (by decide) h)
  exact W.vret hx hb hr (fun t ht hW => ⟨⟨(), rfl, trivial, by rw [ht]; exact hP, hD⟩, hS.F ht⟩) hS.2.2 d_T_requireEvenWays_74
set_option maxHeartbeats 400000 in
set_option maxRecDepth 100000 in
theorem c_T_encodeLines_1 (l : Launch) (E : tp_Env) (fr : va_W) (sz : Nat) (a1 : Nat) (a2 : Nat) (a3 : Nat) (a4 : Nat) (x5 : Int32) (x6 : Int32) (f7 : Nat → Option Nat) (a8 : Nat) (a9 : Nat) (x10 : Int32) (x11 : Int32) (a12 : Nat) (a13 : Nat) (x14 : Int32) (x15 : Int32) (h1 : f7 0 = some a8) (h2 : x11 ≤ 0) (h3 : f7 1 = some a12) (h4 : x15 ≤ 0) : Met l y_T_encodeLines w_T_encodeLines ({ frames := 2, cells := 0, slots := 0, locals := 40 }) (va_Pc [.ref a1] (tp_in E ((a1, .inr (0, [.ref a2, .ref a3, .ref a4, .int x5, .int x6])) :: (a3, .inl (tp_ty E 6, 2, .inr (.inr (.inr (.inr f7))))) :: (a8, .inr (2, [.ref a9])) :: (a9, .inr (5, [.int x10, .ref (tp_ad E 100), .int x11])) :: (a12, .inr (2, [.ref a13])) :: (a13, .inr (5, [.int x14, .ref (tp_ad E 100), .int x15])) :: fr) sz)) (va_Qv (fun (_ : Unit) => True) (fun _ t => tp_out E (va_A ((a1, .inr (0, [.ref a2, .ref a3, .ref a4, .int x5, .int x6])) :: (a3, .inl (tp_ty E 6, 2, .inr (.inr (.inr (.inr f7))))) :: (a8, .inr (2, [.ref a9])) :: (a9, .inr (5, [.int x10, .ref (tp_ad E 100), .int x11])) :: (a12, .inr (2, [.ref a13])) :: (a13, .inr (5, [.int x14, .ref (tp_ad E 100), .int x15])) :: fr) sz) ((a13, .inr (5, [.int x14, .ref (tp_ad E 100), .int x15])) :: (a12, .inr (2, [.ref a13])) :: (a9, .inr (5, [.int x10, .ref (tp_ad E 100), .int x11])) :: (a8, .inr (2, [.ref a9])) :: (a1, .inr (0, [.ref a2, .ref a3, .ref a4, .int x5, .int x6])) :: (a3, .inl (tp_ty E 6, 2, .inr (.inr (.inr (.inr f7))))) :: fr) t) (va_A ((a1, .inr (0, [.ref a2, .ref a3, .ref a4, .int x5, .int x6])) :: (a3, .inl (tp_ty E 6, 2, .inr (.inr (.inr (.inr f7))))) :: (a8, .inr (2, [.ref a9])) :: (a9, .inr (5, [.int x10, .ref (tp_ad E 100), .int x11])) :: (a12, .inr (2, [.ref a13])) :: (a13, .inr (5, [.int x14, .ref (tp_ad E 100), .int x15])) :: fr) sz)) 0 0 (va_A ((a1, .inr (0, [.ref a2, .ref a3, .ref a4, .int x5, .int x6])) :: (a3, .inl (tp_ty E 6, 2, .inr (.inr (.inr (.inr f7))))) :: (a8, .inr (2, [.ref a9])) :: (a9, .inr (5, [.int x10, .ref (tp_ad E 100), .int x11])) :: (a12, .inr (2, [.ref a13])) :: (a13, .inr (5, [.int x14, .ref (tp_ad E 100), .int x15])) :: fr) sz) := by
  refine Met.ofW (cc := b_T_encodeLines) (maxL := 4) (ret := none) (by decide) rfl ?_
  intro p e s m args below meth c s₁ B hml hv
  obtain ⟨rfl, hsz, hP, hK, hD0⟩ := hv
  have hx := B.exec
  have hb := B.bytes
  have hr := B.returns
  have htg : ∀ w ∈ tp_G, w.before ([.ref a1] : List Value).toArray s = true := fun w h => atoms_spec (ws := w_T_encodeLines) B.pre w (List.mem_cons_of_mem _ h)
  have hown : s.vm.findClass "TwoPass" = some m.cls := findClass_of_methodNamed B.named
  have hlocks := B.notSynchronized
  subst hsz
  have hD := hD0.self (sz := s.heap.size)
  generalize hAe : va_A ((a1, .inr (0, [.ref a2, .ref a3, .ref a4, .int x5, .int x6])) :: (a3, .inl (tp_ty E 6, 2, .inr (.inr (.inr (.inr f7))))) :: (a8, .inr (2, [.ref a9])) :: (a9, .inr (5, [.int x10, .ref (tp_ad E 100), .int x11])) :: (a12, .inr (2, [.ref a13])) :: (a13, .inr (5, [.int x14, .ref (tp_ad E 100), .int x15])) :: fr) s.heap.size = A at hD hK ⊢
  have hA : ∀ q : Nat, s.heap.size ≤ q → A q := fun q h => by rw [← hAe]; exact Or.inr h
  have hS : va_S A s.heap s.heap [] := va_S.rf
  have hl := lv_entry ([.ref a1]) (n := 4) (Nat.le_of_ble_eq_true rfl)
  rw [lg_entry_eq]
  generalize (lg_sl ([.ref a1]) ++ List.replicate (4 - (lg_sl ([.ref a1])).length) Slot.unset).toArray = ls at hl ⊢
  have hl : lv_has ls 4 [(0, .ref a1)] := hl
  refine lv_iconst (v := 0) hx hb d_T_encodeLines_0 (by decide) ?_
  refine lv_istore_n (lv' := [(1, .int 0), (0, .ref a1)]) hx hb d_T_encodeLines_1 rfl hl (by decide) rfl (fun ls hl => ?_)
  refine lv_iload_n hx hb d_T_encodeLines_2 rfl (lv_at hl 0 rfl) ?_
  refine lv_iconst (v := 2) hx hb d_T_encodeLines_3 (by decide) ?_
  refine lv_icmp_ge (tgt := 100) hx hb d_T_encodeLines_4 (by decide) (fun h => absurd h (by decide)) (fun _ => ?_)
  refine lv_iconst (v := 0) hx hb d_T_encodeLines_7 (by decide) ?_
  refine lv_istore_n (lv' := [(2, .int 0), (1, .int 0), (0, .ref a1)]) hx hb d_T_encodeLines_8 rfl hl (by decide) rfl (fun ls hl => ?_)
  refine lv_iload_n hx hb d_T_encodeLines_9 rfl (lv_at hl 0 rfl) ?_
  refine lv_aload_n hx hb d_T_encodeLines_10 rfl (lv_at hl 2 rfl) ?_
  refine va_get (D := tp_D E) (ci := 0) (v := .ref a3) (C := qR_T) (T := qF_T) (N := 5) hx hb htg qi_T hown hK.1 hP 0 rfl rfl 1 (by decide) (htg _ kl_T_19) (fun _ h => h) rfl d_T_encodeLines_11 ?_
  refine lv_iload_n hx hb d_T_encodeLines_14 rfl (lv_at hl 1 rfl) ?_
  refine va_aldq (D := tp_D E) hx hb hK.1 hP 1 6 rfl rfl (by unfold vp_in; decide) d_T_encodeLines_15 ?_
  refine tp_topr (k := 0) (a := a8) rfl h1 ?_
  have hP : va_P (tp_D E) tp_cl ((a9, .inr (5, [.int x10, .ref (tp_ad E 100), .int x11])) :: (a1, .inr (0, [.ref a2, .ref a3, .ref a4, .int x5, .int x6])) :: (a3, .inl (tp_ty E 6, 2, .inr (.inr (.inr (.inr f7))))) :: (a8, .inr (2, [.ref a9])) :: (a12, .inr (2, [.ref a13])) :: (a13, .inr (5, [.int x14, .ref (tp_ad E 100), .int x15])) :: fr) _ := tp_mvP 3 rfl hP
  have hD : va_D A ((a9, .inr (5, [.int x10, .ref (tp_ad E 100), .int x11])) :: (a1, .inr (0, [.ref a2, .ref a3, .ref a4, .int x5, .int x6])) :: (a3, .inl (tp_ty E 6, 2, .inr (.inr (.inr (.inr f7))))) :: (a8, .inr (2, [.ref a9])) :: (a12, .inr (2, [.ref a13])) :: (a13, .inr (5, [.int x14, .ref (tp_ad E 100), .int x15])) :: fr) := tp_mvD 3 rfl hD
  have hP : va_P (tp_D E) tp_cl ((a8, .inr (2, [.ref a9])) :: (a9, .inr (5, [.int x10, .ref (tp_ad E 100), .int x11])) :: (a1, .inr (0, [.ref a2, .ref a3, .ref a4, .int x5, .int x6])) :: (a3, .inl (tp_ty E 6, 2, .inr (.inr (.inr (.inr f7))))) :: (a12, .inr (2, [.ref a13])) :: (a13, .inr (5, [.int x14, .ref (tp_ad E 100), .int x15])) :: fr) _ := tp_mvP 3 rfl hP
  have hD : va_D A ((a8, .inr (2, [.ref a9])) :: (a9, .inr (5, [.int x10, .ref (tp_ad E 100), .int x11])) :: (a1, .inr (0, [.ref a2, .ref a3, .ref a4, .int x5, .int x6])) :: (a3, .inl (tp_ty E 6, 2, .inr (.inr (.inr (.inr f7))))) :: (a12, .inr (2, [.ref a13])) :: (a13, .inr (5, [.int x14, .ref (tp_ad E 100), .int x15])) :: fr) := tp_mvD 3 rfl hD
  refine tp_ci (tp_rV (As := []) (rest := [.int 0]) ⟨hx, hb, hml, hown, htg⟩ (c_S_count_1 l E ((a1, .inr (0, [.ref a2, .ref a3, .ref a4, .int x5, .int x6])) :: (a3, .inl (tp_ty E 6, 2, .inr (.inr (.inr (.inr f7))))) :: (a12, .inr (2, [.ref a13])) :: (a13, .inr (5, [.int x14, .ref (tp_ad E 100), .int x15])) :: fr) _ a8 a9 x10 x11 ) (⟨callB_of 0 htg (tp_good0 kc_S_count) rfl rfl rfl (htg _ ki_S) (htg _ kl_T_66) ⟨by decide, by decide, by decide +kernel⟩ ⟨Nat.le_of_ble_eq_true rfl, Nat.le_of_ble_eq_true rfl⟩, htg _ km_S_count, htg _ kv_S_S_count⟩) (va_recv (ci := 2) (q0 := 0) hK.1 hP rfl rfl) hK hP hD hS hA rfl hl.1 rfl (Nat.le_of_ble_eq_true rfl) d_T_encodeLines_16 ⟨Nat.le_of_ble_eq_true rfl, Nat.le_of_ble_eq_true rfl⟩) hD hS hA (fun r u H locs hw hP hD hS => ?_)
  subst r
  have hP : va_P (tp_D E) tp_cl ((a9, .inr (5, [.int x10, .ref (tp_ad E 100), .int x11])) :: (a8, .inr (2, [.ref a9])) :: (a1, .inr (0, [.ref a2, .ref a3, .ref a4, .int x5, .int x6])) :: (a3, .inl (tp_ty E 6, 2, .inr (.inr (.inr (.inr f7))))) :: (a12, .inr (2, [.ref a13])) :: (a13, .inr (5, [.int x14, .ref (tp_ad E 100), .int x15])) :: fr) H := hP
  have hD : va_D A ((a9, .inr (5, [.int x10, .ref (tp_ad E 100), .int x11])) :: (a8, .inr (2, [.ref a9])) :: (a1, .inr (0, [.ref a2, .ref a3, .ref a4, .int x5, .int x6])) :: (a3, .inl (tp_ty E 6, 2, .inr (.inr (.inr (.inr f7))))) :: (a12, .inr (2, [.ref a13])) :: (a13, .inr (5, [.int x14, .ref (tp_ad E 100), .int x15])) :: fr) := hD
  refine lv_icmp_ge (tgt := 94) hx hb d_T_encodeLines_19 (by decide) (fun _ => ?_) (fun h => absurd h2 h)
  refine lv_iinc (k := 1) (v := 1) (lv' := [(1, .int 1), (2, .int 0), (0, .ref a1)]) hx hb d_T_encodeLines_94 hl rfl (by decide) (by decide) rfl (fun ls hl => ?_)
  refine lv_goto (tgt := 2) hx hb d_T_encodeLines_97 (by decide) ?_
  refine lv_iload_n hx hb d_T_encodeLines_2 rfl (lv_at hl 0 rfl) ?_
  refine lv_iconst (v := 2) hx hb d_T_encodeLines_3 (by decide) ?_
  refine lv_icmp_ge (tgt := 100) hx hb d_T_encodeLines_4 (by decide) (fun h => absurd h (by decide)) (fun _ => ?_)
  refine lv_iconst (v := 0) hx hb d_T_encodeLines_7 (by decide) ?_
  refine lv_istore_n (lv' := [(2, .int 0), (1, .int 1), (0, .ref a1)]) hx hb d_T_encodeLines_8 rfl hl (by decide) rfl (fun ls hl => ?_)
  refine lv_iload_n hx hb d_T_encodeLines_9 rfl (lv_at hl 0 rfl) ?_
  refine lv_aload_n hx hb d_T_encodeLines_10 rfl (lv_at hl 2 rfl) ?_
  refine va_get (D := tp_D E) (ci := 0) (v := .ref a3) (C := qR_T) (T := qF_T) (N := 5) hx hb htg qi_T hown hK.1 hP 2 rfl rfl 1 (by decide) (htg _ kl_T_19) (fun _ h => h) rfl d_T_encodeLines_11 ?_
  refine lv_iload_n hx hb d_T_encodeLines_14 rfl (lv_at hl 1 rfl) ?_
  refine va_aldq (D := tp_D E) hx hb hK.1 hP 3 6 rfl rfl (by unfold vp_in; decide) d_T_encodeLines_15 ?_
  refine tp_topr (k := 1) (a := a12) rfl h3 ?_
  have hP : va_P (tp_D E) tp_cl ((a13, .inr (5, [.int x14, .ref (tp_ad E 100), .int x15])) :: (a9, .inr (5, [.int x10, .ref (tp_ad E 100), .int x11])) :: (a8, .inr (2, [.ref a9])) :: (a1, .inr (0, [.ref a2, .ref a3, .ref a4, .int x5, .int x6])) :: (a3, .inl (tp_ty E 6, 2, .inr (.inr (.inr (.inr f7))))) :: (a12, .inr (2, [.ref a13])) :: fr) _ := tp_mvP 5 rfl hP
  have hD : va_D A ((a13, .inr (5, [.int x14, .ref (tp_ad E 100), .int x15])) :: (a9, .inr (5, [.int x10, .ref (tp_ad E 100), .int x11])) :: (a8, .inr (2, [.ref a9])) :: (a1, .inr (0, [.ref a2, .ref a3, .ref a4, .int x5, .int x6])) :: (a3, .inl (tp_ty E 6, 2, .inr (.inr (.inr (.inr f7))))) :: (a12, .inr (2, [.ref a13])) :: fr) := tp_mvD 5 rfl hD
  have hP : va_P (tp_D E) tp_cl ((a12, .inr (2, [.ref a13])) :: (a13, .inr (5, [.int x14, .ref (tp_ad E 100), .int x15])) :: (a9, .inr (5, [.int x10, .ref (tp_ad E 100), .int x11])) :: (a8, .inr (2, [.ref a9])) :: (a1, .inr (0, [.ref a2, .ref a3, .ref a4, .int x5, .int x6])) :: (a3, .inl (tp_ty E 6, 2, .inr (.inr (.inr (.inr f7))))) :: fr) _ := tp_mvP 5 rfl hP
  have hD : va_D A ((a12, .inr (2, [.ref a13])) :: (a13, .inr (5, [.int x14, .ref (tp_ad E 100), .int x15])) :: (a9, .inr (5, [.int x10, .ref (tp_ad E 100), .int x11])) :: (a8, .inr (2, [.ref a9])) :: (a1, .inr (0, [.ref a2, .ref a3, .ref a4, .int x5, .int x6])) :: (a3, .inl (tp_ty E 6, 2, .inr (.inr (.inr (.inr f7))))) :: fr) := tp_mvD 5 rfl hD
  refine tp_ci (tp_rV (As := []) (rest := [.int 0]) ⟨hx, hb, hml, hown, htg⟩ (c_S_count_1 l E ((a9, .inr (5, [.int x10, .ref (tp_ad E 100), .int x11])) :: (a8, .inr (2, [.ref a9])) :: (a1, .inr (0, [.ref a2, .ref a3, .ref a4, .int x5, .int x6])) :: (a3, .inl (tp_ty E 6, 2, .inr (.inr (.inr (.inr f7))))) :: fr) _ a12 a13 x14 x15 ) (⟨callB_of 0 htg (tp_good0 kc_S_count) rfl rfl rfl (htg _ ki_S) (htg _ kl_T_66) ⟨by decide, by decide, by decide +kernel⟩ ⟨Nat.le_of_ble_eq_true rfl, Nat.le_of_ble_eq_true rfl⟩, htg _ km_S_count, htg _ kv_S_S_count⟩) (va_recv (ci := 2) (q0 := 0) hK.1 hP rfl rfl) hK hP hD hS hA rfl hl.1 rfl (Nat.le_of_ble_eq_true rfl) d_T_encodeLines_16 ⟨Nat.le_of_ble_eq_true rfl, Nat.le_of_ble_eq_true rfl⟩) hD hS hA (fun r u H locs hw hP hD hS => ?_)
  subst r
  have hP : va_P (tp_D E) tp_cl ((a13, .inr (5, [.int x14, .ref (tp_ad E 100), .int x15])) :: (a12, .inr (2, [.ref a13])) :: (a9, .inr (5, [.int x10, .ref (tp_ad E 100), .int x11])) :: (a8, .inr (2, [.ref a9])) :: (a1, .inr (0, [.ref a2, .ref a3, .ref a4, .int x5, .int x6])) :: (a3, .inl (tp_ty E 6, 2, .inr (.inr (.inr (.inr f7))))) :: fr) H := hP
  have hD : va_D A ((a13, .inr (5, [.int x14, .ref (tp_ad E 100), .int x15])) :: (a12, .inr (2, [.ref a13])) :: (a9, .inr (5, [.int x10, .ref (tp_ad E 100), .int x11])) :: (a8, .inr (2, [.ref a9])) :: (a1, .inr (0, [.ref a2, .ref a3, .ref a4, .int x5, .int x6])) :: (a3, .inl (tp_ty E 6, 2, .inr (.inr (.inr (.inr f7))))) :: fr) := hD
  refine lv_icmp_ge (tgt := 94) hx hb d_T_encodeLines_19 (by decide) (fun _ => ?_) (fun h => absurd h4 h)
  refine lv_iinc (k := 1) (v := 2) (lv' := [(1, .int 2), (2, .int 0), (0, .ref a1)]) hx hb d_T_encodeLines_94 hl rfl (by decide) (by decide) rfl (fun ls hl => ?_)
  refine lv_goto (tgt := 2) hx hb d_T_encodeLines_97 (by decide) ?_
  refine lv_iload_n hx hb d_T_encodeLines_2 rfl (lv_at hl 0 rfl) ?_
  refine lv_iconst (v := 2) hx hb d_T_encodeLines_3 (by decide) ?_
  refine lv_icmp_ge (tgt := 100) hx hb d_T_encodeLines_4 (by decide) (fun _ => ?_) (fun h => absurd (by decide) h)
  exact W.vret hx hb hr (fun t ht hW => ⟨⟨(), rfl, trivial, by rw [ht]; exact hP, hD⟩, hS.F ht⟩) hS.2.2 d_T_encodeLines_100
set_option maxHeartbeats 400000 in
set_option maxRecDepth 100000 in
theorem c_T_link_1 (l : Launch) (E : tp_Env) (fr : va_W) (sz : Nat) (a1 : Nat) (a2 : Nat) (a3 : Nat) (a4 : Nat) (x5 : Int32) (x6 : Int32) (f7 : Nat → Option Nat) (a8 : Nat) (a9 : Nat) (a10 : Nat) (x11 : Int32) (x12 : Int32) (a13 : Nat) (x14 : Int32) (x15 : Int32) (h1 : f7 0 = some a8) (h2 : f7 1 = some a9) (h3 : x12 ≤ 0) (h4 : x15 ≤ 0) : Met l y_T_link w_T_link ({ frames := 4, cells := 0, slots := 0, locals := 86 }) (va_Pc [.ref a1] (tp_in E ((a1, .inr (0, [.ref a2, .ref a3, .ref a4, .int x5, .int x6])) :: (a3, .inl (tp_ty E 6, 2, .inr (.inr (.inr (.inr f7))))) :: (a8, .inr (2, [.ref a10])) :: (a10, .inr (5, [.int x11, .ref (tp_ad E 100), .int x12])) :: (a9, .inr (2, [.ref a13])) :: (a13, .inr (5, [.int x14, .ref (tp_ad E 100), .int x15])) :: fr) sz)) (va_Qi (fun r (_ : Unit) => r = 0) (fun _ t => tp_out E (va_A ((a1, .inr (0, [.ref a2, .ref a3, .ref a4, .int x5, .int x6])) :: (a3, .inl (tp_ty E 6, 2, .inr (.inr (.inr (.inr f7))))) :: (a8, .inr (2, [.ref a10])) :: (a10, .inr (5, [.int x11, .ref (tp_ad E 100), .int x12])) :: (a9, .inr (2, [.ref a13])) :: (a13, .inr (5, [.int x14, .ref (tp_ad E 100), .int x15])) :: fr) sz) ((a13, .inr (5, [.int x14, .ref (tp_ad E 100), .int x15])) :: (a9, .inr (2, [.ref a13])) :: (a10, .inr (5, [.int x11, .ref (tp_ad E 100), .int x12])) :: (a8, .inr (2, [.ref a10])) :: (a1, .inr (0, [.ref a2, .ref a3, .ref a4, .int 1, .int 0])) :: (a3, .inl (tp_ty E 6, 2, .inr (.inr (.inr (.inr f7))))) :: fr) t) (va_A ((a1, .inr (0, [.ref a2, .ref a3, .ref a4, .int x5, .int x6])) :: (a3, .inl (tp_ty E 6, 2, .inr (.inr (.inr (.inr f7))))) :: (a8, .inr (2, [.ref a10])) :: (a10, .inr (5, [.int x11, .ref (tp_ad E 100), .int x12])) :: (a9, .inr (2, [.ref a13])) :: (a13, .inr (5, [.int x14, .ref (tp_ad E 100), .int x15])) :: fr) sz)) 0 0 (va_A ((a1, .inr (0, [.ref a2, .ref a3, .ref a4, .int x5, .int x6])) :: (a3, .inl (tp_ty E 6, 2, .inr (.inr (.inr (.inr f7))))) :: (a8, .inr (2, [.ref a10])) :: (a10, .inr (5, [.int x11, .ref (tp_ad E 100), .int x12])) :: (a9, .inr (2, [.ref a13])) :: (a13, .inr (5, [.int x14, .ref (tp_ad E 100), .int x15])) :: fr) sz) := by
  refine Met.ofW (cc := b_T_link) (maxL := 1) (ret := (some .int)) (by decide) rfl ?_
  intro p e s m args below meth c s₁ B hml hv
  obtain ⟨rfl, hsz, hP, hK, hD0⟩ := hv
  have hx := B.exec
  have hb := B.bytes
  have hr := B.returns
  have htg : ∀ w ∈ tp_G, w.before ([.ref a1] : List Value).toArray s = true := fun w h => atoms_spec (ws := w_T_link) B.pre w (List.mem_cons_of_mem _ h)
  have hown : s.vm.findClass "TwoPass" = some m.cls := findClass_of_methodNamed B.named
  have hlocks := B.notSynchronized
  subst hsz
  have hD := hD0.self (sz := s.heap.size)
  generalize hAe : va_A ((a1, .inr (0, [.ref a2, .ref a3, .ref a4, .int x5, .int x6])) :: (a3, .inl (tp_ty E 6, 2, .inr (.inr (.inr (.inr f7))))) :: (a8, .inr (2, [.ref a10])) :: (a10, .inr (5, [.int x11, .ref (tp_ad E 100), .int x12])) :: (a9, .inr (2, [.ref a13])) :: (a13, .inr (5, [.int x14, .ref (tp_ad E 100), .int x15])) :: fr) s.heap.size = A at hD hK ⊢
  have hA : ∀ q : Nat, s.heap.size ≤ q → A q := fun q h => by rw [← hAe]; exact Or.inr h
  have hS : va_S A s.heap s.heap [] := va_S.rf
  have hl := lv_entry ([.ref a1]) (n := 1) (Nat.le_of_ble_eq_true rfl)
  rw [lg_entry_eq]
  generalize (lg_sl ([.ref a1]) ++ List.replicate (1 - (lg_sl ([.ref a1])).length) Slot.unset).toArray = ls at hl ⊢
  have hl : lv_has ls 1 [(0, .ref a1)] := hl
  refine lv_aload_n hx hb d_T_link_0 rfl (lv_at hl 0 rfl) ?_
  refine lv_iconst (v := 0) hx hb d_T_link_1 (by decide) ?_
  refine va_put (D := tp_D E) (ci := 0) (v := .int 0) (ty := .boolean) (C := qR_T) (T := qF_T) (N := 5) hx hb htg qi_T qt_T qt_T_ok qn_T hown hK.1 hP hD hS 0 rfl rfl 3 (by decide) (htg _ kl_T_30) (fun _ h => h) rfl (by decide +kernel) rfl rfl (Nat.le_of_ble_eq_true rfl) d_T_link_2 (fun H locs hP hD hS => ?_)
  have hP : va_P (tp_D E) tp_cl ((a1, .inr (0, [.ref a2, .ref a3, .ref a4, .int 0, .int x6])) :: (a3, .inl (tp_ty E 6, 2, .inr (.inr (.inr (.inr f7))))) :: (a8, .inr (2, [.ref a10])) :: (a10, .inr (5, [.int x11, .ref (tp_ad E 100), .int x12])) :: (a9, .inr (2, [.ref a13])) :: (a13, .inr (5, [.int x14, .ref (tp_ad E 100), .int x15])) :: fr) H := hP
  have hD : va_D A ((a1, .inr (0, [.ref a2, .ref a3, .ref a4, .int 0, .int x6])) :: (a3, .inl (tp_ty E 6, 2, .inr (.inr (.inr (.inr f7))))) :: (a8, .inr (2, [.ref a10])) :: (a10, .inr (5, [.int x11, .ref (tp_ad E 100), .int x12])) :: (a9, .inr (2, [.ref a13])) :: (a13, .inr (5, [.int x14, .ref (tp_ad E 100), .int x15])) :: fr) := hD
  refine lv_aload_n hx hb d_T_link_5 rfl (lv_at hl 0 rfl) ?_
  refine tp_cv (tp_rV (As := []) (rest := []) ⟨hx, hb, hml, hown, htg⟩ (c_T_requireNames_1 l E fr _ a1 a2 a3 a4 0 x6 f7 a8 a10 x11 x12 a9 a13 x14 x15 h1 h3 h2 h4) (⟨callB_of 0 htg (tp_good0 kc_T_requireNames) rfl rfl rfl (htg _ ki_T) (htg _ kl_T_90) ⟨by decide, by decide, by decide +kernel⟩ ⟨Nat.le_of_ble_eq_true rfl, Nat.le_of_ble_eq_true rfl⟩, htg _ km_T_requireNames, htg _ kp_T_requireNames⟩) (va_recv (ci := 0) (q0 := 0) hK.1 hP rfl rfl) hK hP hD hS hA rfl hl.1 rfl (Nat.le_of_ble_eq_true rfl) d_T_link_6 ⟨Nat.le_of_ble_eq_true rfl, Nat.le_of_ble_eq_true rfl⟩) hD hS hA (fun u H locs _ hP hD hS => ?_)
  have hP : va_P (tp_D E) tp_cl ((a13, .inr (5, [.int x14, .ref (tp_ad E 100), .int x15])) :: (a9, .inr (2, [.ref a13])) :: (a10, .inr (5, [.int x11, .ref (tp_ad E 100), .int x12])) :: (a8, .inr (2, [.ref a10])) :: (a1, .inr (0, [.ref a2, .ref a3, .ref a4, .int 0, .int x6])) :: (a3, .inl (tp_ty E 6, 2, .inr (.inr (.inr (.inr f7))))) :: fr) H := hP
  have hD : va_D A ((a13, .inr (5, [.int x14, .ref (tp_ad E 100), .int x15])) :: (a9, .inr (2, [.ref a13])) :: (a10, .inr (5, [.int x11, .ref (tp_ad E 100), .int x12])) :: (a8, .inr (2, [.ref a10])) :: (a1, .inr (0, [.ref a2, .ref a3, .ref a4, .int 0, .int x6])) :: (a3, .inl (tp_ty E 6, 2, .inr (.inr (.inr (.inr f7))))) :: fr) := hD
  refine lv_aload_n hx hb d_T_link_9 rfl (lv_at hl 0 rfl) ?_
  have hP : va_P (tp_D E) tp_cl ((a13, .inr (5, [.int x14, .ref (tp_ad E 100), .int x15])) :: (a9, .inr (2, [.ref a13])) :: (a10, .inr (5, [.int x11, .ref (tp_ad E 100), .int x12])) :: (a8, .inr (2, [.ref a10])) :: (a1, .inr (0, [.ref a2, .ref a3, .ref a4, .int 0, .int x6])) :: (a3, .inl (tp_ty E 6, 2, .inr (.inr (.inr (.inr f7))))) :: fr) _ := tp_mvP 0 rfl hP
  have hD : va_D A ((a13, .inr (5, [.int x14, .ref (tp_ad E 100), .int x15])) :: (a9, .inr (2, [.ref a13])) :: (a10, .inr (5, [.int x11, .ref (tp_ad E 100), .int x12])) :: (a8, .inr (2, [.ref a10])) :: (a1, .inr (0, [.ref a2, .ref a3, .ref a4, .int 0, .int x6])) :: (a3, .inl (tp_ty E 6, 2, .inr (.inr (.inr (.inr f7))))) :: fr) := tp_mvD 0 rfl hD
  have hP : va_P (tp_D E) tp_cl ((a9, .inr (2, [.ref a13])) :: (a13, .inr (5, [.int x14, .ref (tp_ad E 100), .int x15])) :: (a10, .inr (5, [.int x11, .ref (tp_ad E 100), .int x12])) :: (a8, .inr (2, [.ref a10])) :: (a1, .inr (0, [.ref a2, .ref a3, .ref a4, .int 0, .int x6])) :: (a3, .inl (tp_ty E 6, 2, .inr (.inr (.inr (.inr f7))))) :: fr) _ := tp_mvP 1 rfl hP
  have hD : va_D A ((a9, .inr (2, [.ref a13])) :: (a13, .inr (5, [.int x14, .ref (tp_ad E 100), .int x15])) :: (a10, .inr (5, [.int x11, .ref (tp_ad E 100), .int x12])) :: (a8, .inr (2, [.ref a10])) :: (a1, .inr (0, [.ref a2, .ref a3, .ref a4, .int 0, .int x6])) :: (a3, .inl (tp_ty E 6, 2, .inr (.inr (.inr (.inr f7))))) :: fr) := tp_mvD 1 rfl hD
  have hP : va_P (tp_D E) tp_cl ((a10, .inr (5, [.int x11, .ref (tp_ad E 100), .int x12])) :: (a9, .inr (2, [.ref a13])) :: (a13, .inr (5, [.int x14, .ref (tp_ad E 100), .int x15])) :: (a8, .inr (2, [.ref a10])) :: (a1, .inr (0, [.ref a2, .ref a3, .ref a4, .int 0, .int x6])) :: (a3, .inl (tp_ty E 6, 2, .inr (.inr (.inr (.inr f7))))) :: fr) _ := tp_mvP 2 rfl hP
  have hD : va_D A ((a10, .inr (5, [.int x11, .ref (tp_ad E 100), .int x12])) :: (a9, .inr (2, [.ref a13])) :: (a13, .inr (5, [.int x14, .ref (tp_ad E 100), .int x15])) :: (a8, .inr (2, [.ref a10])) :: (a1, .inr (0, [.ref a2, .ref a3, .ref a4, .int 0, .int x6])) :: (a3, .inl (tp_ty E 6, 2, .inr (.inr (.inr (.inr f7))))) :: fr) := tp_mvD 2 rfl hD
  have hP : va_P (tp_D E) tp_cl ((a8, .inr (2, [.ref a10])) :: (a10, .inr (5, [.int x11, .ref (tp_ad E 100), .int x12])) :: (a9, .inr (2, [.ref a13])) :: (a13, .inr (5, [.int x14, .ref (tp_ad E 100), .int x15])) :: (a1, .inr (0, [.ref a2, .ref a3, .ref a4, .int 0, .int x6])) :: (a3, .inl (tp_ty E 6, 2, .inr (.inr (.inr (.inr f7))))) :: fr) _ := tp_mvP 3 rfl hP
  have hD : va_D A ((a8, .inr (2, [.ref a10])) :: (a10, .inr (5, [.int x11, .ref (tp_ad E 100), .int x12])) :: (a9, .inr (2, [.ref a13])) :: (a13, .inr (5, [.int x14, .ref (tp_ad E 100), .int x15])) :: (a1, .inr (0, [.ref a2, .ref a3, .ref a4, .int 0, .int x6])) :: (a3, .inl (tp_ty E 6, 2, .inr (.inr (.inr (.inr f7))))) :: fr) := tp_mvD 3 rfl hD
  have hP : va_P (tp_D E) tp_cl ((a3, .inl (tp_ty E 6, 2, .inr (.inr (.inr (.inr f7))))) :: (a8, .inr (2, [.ref a10])) :: (a10, .inr (5, [.int x11, .ref (tp_ad E 100), .int x12])) :: (a9, .inr (2, [.ref a13])) :: (a13, .inr (5, [.int x14, .ref (tp_ad E 100), .int x15])) :: (a1, .inr (0, [.ref a2, .ref a3, .ref a4, .int 0, .int x6])) :: fr) _ := tp_mvP 5 rfl hP
  have hD : va_D A ((a3, .inl (tp_ty E 6, 2, .inr (.inr (.inr (.inr f7))))) :: (a8, .inr (2, [.ref a10])) :: (a10, .inr (5, [.int x11, .ref (tp_ad E 100), .int x12])) :: (a9, .inr (2, [.ref a13])) :: (a13, .inr (5, [.int x14, .ref (tp_ad E 100), .int x15])) :: (a1, .inr (0, [.ref a2, .ref a3, .ref a4, .int 0, .int x6])) :: fr) := tp_mvD 5 rfl hD
  have hP : va_P (tp_D E) tp_cl ((a1, .inr (0, [.ref a2, .ref a3, .ref a4, .int 0, .int x6])) :: (a3, .inl (tp_ty E 6, 2, .inr (.inr (.inr (.inr f7))))) :: (a8, .inr (2, [.ref a10])) :: (a10, .inr (5, [.int x11, .ref (tp_ad E 100), .int x12])) :: (a9, .inr (2, [.ref a13])) :: (a13, .inr (5, [.int x14, .ref (tp_ad E 100), .int x15])) :: fr) _ := tp_mvP 5 rfl hP
  have hD : va_D A ((a1, .inr (0, [.ref a2, .ref a3, .ref a4, .int 0, .int x6])) :: (a3, .inl (tp_ty E 6, 2, .inr (.inr (.inr (.inr f7))))) :: (a8, .inr (2, [.ref a10])) :: (a10, .inr (5, [.int x11, .ref (tp_ad E 100), .int x12])) :: (a9, .inr (2, [.ref a13])) :: (a13, .inr (5, [.int x14, .ref (tp_ad E 100), .int x15])) :: fr) := tp_mvD 5 rfl hD
  refine tp_cv (tp_rV (As := []) (rest := []) ⟨hx, hb, hml, hown, htg⟩ (c_T_makeFarBranches_1 l E fr _ a1 a2 a3 a4 0 x6 f7 a8 a10 x11 x12 a9 a13 x14 x15 h1 h3 h2 h4) (⟨callB_of 0 htg (tp_good0 kc_T_makeFarBranches) rfl rfl rfl (htg _ ki_T) (htg _ kl_T_93) ⟨by decide, by decide, by decide +kernel⟩ ⟨Nat.le_of_ble_eq_true rfl, Nat.le_of_ble_eq_true rfl⟩, htg _ km_T_makeFarBranches, htg _ kp_T_makeFarBranches⟩) (va_recv (ci := 0) (q0 := 0) hK.1 hP rfl rfl) hK hP hD hS hA rfl hl.1 rfl (Nat.le_of_ble_eq_true rfl) d_T_link_10 ⟨Nat.le_of_ble_eq_true rfl, Nat.le_of_ble_eq_true rfl⟩) hD hS hA (fun u H locs _ hP hD hS => ?_)
  have hP : va_P (tp_D E) tp_cl ((a13, .inr (5, [.int x14, .ref (tp_ad E 100), .int x15])) :: (a9, .inr (2, [.ref a13])) :: (a10, .inr (5, [.int x11, .ref (tp_ad E 100), .int x12])) :: (a8, .inr (2, [.ref a10])) :: (a1, .inr (0, [.ref a2, .ref a3, .ref a4, .int 0, .int 0])) :: (a3, .inl (tp_ty E 6, 2, .inr (.inr (.inr (.inr f7))))) :: fr) H := hP
  have hD : va_D A ((a13, .inr (5, [.int x14, .ref (tp_ad E 100), .int x15])) :: (a9, .inr (2, [.ref a13])) :: (a10, .inr (5, [.int x11, .ref (tp_ad E 100), .int x12])) :: (a8, .inr (2, [.ref a10])) :: (a1, .inr (0, [.ref a2, .ref a3, .ref a4, .int 0, .int 0])) :: (a3, .inl (tp_ty E 6, 2, .inr (.inr (.inr (.inr f7))))) :: fr) := hD
  refine lv_aload_n hx hb d_T_link_13 rfl (lv_at hl 0 rfl) ?_
  refine va_get (D := tp_D E) (ci := 0) (v := .int 0) (C := qR_T) (T := qF_T) (N := 5) hx hb htg qi_T hown hK.1 hP 4 rfl rfl 4 (by decide) (htg _ kl_T_34) (fun _ h => h) rfl d_T_link_14 ?_
  refine lv_sipush (v := 16384) hx hb d_T_link_17 (by decide) ?_
  refine lv_icmp_le (tgt := 31) hx hb d_T_link_20 (by decide) (fun _ => ?_) (fun h => absurd (by decide) h)
  refine lv_aload_n hx hb d_T_link_31 rfl (lv_at hl 0 rfl) ?_
  have hP : va_P (tp_D E) tp_cl ((a13, .inr (5, [.int x14, .ref (tp_ad E 100), .int x15])) :: (a9, .inr (2, [.ref a13])) :: (a10, .inr (5, [.int x11, .ref (tp_ad E 100), .int x12])) :: (a8, .inr (2, [.ref a10])) :: (a1, .inr (0, [.ref a2, .ref a3, .ref a4, .int 0, .int 0])) :: (a3, .inl (tp_ty E 6, 2, .inr (.inr (.inr (.inr f7))))) :: fr) _ := tp_mvP 0 rfl hP
  have hD : va_D A ((a13, .inr (5, [.int x14, .ref (tp_ad E 100), .int x15])) :: (a9, .inr (2, [.ref a13])) :: (a10, .inr (5, [.int x11, .ref (tp_ad E 100), .int x12])) :: (a8, .inr (2, [.ref a10])) :: (a1, .inr (0, [.ref a2, .ref a3, .ref a4, .int 0, .int 0])) :: (a3, .inl (tp_ty E 6, 2, .inr (.inr (.inr (.inr f7))))) :: fr) := tp_mvD 0 rfl hD
  have hP : va_P (tp_D E) tp_cl ((a9, .inr (2, [.ref a13])) :: (a13, .inr (5, [.int x14, .ref (tp_ad E 100), .int x15])) :: (a10, .inr (5, [.int x11, .ref (tp_ad E 100), .int x12])) :: (a8, .inr (2, [.ref a10])) :: (a1, .inr (0, [.ref a2, .ref a3, .ref a4, .int 0, .int 0])) :: (a3, .inl (tp_ty E 6, 2, .inr (.inr (.inr (.inr f7))))) :: fr) _ := tp_mvP 1 rfl hP
  have hD : va_D A ((a9, .inr (2, [.ref a13])) :: (a13, .inr (5, [.int x14, .ref (tp_ad E 100), .int x15])) :: (a10, .inr (5, [.int x11, .ref (tp_ad E 100), .int x12])) :: (a8, .inr (2, [.ref a10])) :: (a1, .inr (0, [.ref a2, .ref a3, .ref a4, .int 0, .int 0])) :: (a3, .inl (tp_ty E 6, 2, .inr (.inr (.inr (.inr f7))))) :: fr) := tp_mvD 1 rfl hD
  have hP : va_P (tp_D E) tp_cl ((a10, .inr (5, [.int x11, .ref (tp_ad E 100), .int x12])) :: (a9, .inr (2, [.ref a13])) :: (a13, .inr (5, [.int x14, .ref (tp_ad E 100), .int x15])) :: (a8, .inr (2, [.ref a10])) :: (a1, .inr (0, [.ref a2, .ref a3, .ref a4, .int 0, .int 0])) :: (a3, .inl (tp_ty E 6, 2, .inr (.inr (.inr (.inr f7))))) :: fr) _ := tp_mvP 2 rfl hP
  have hD : va_D A ((a10, .inr (5, [.int x11, .ref (tp_ad E 100), .int x12])) :: (a9, .inr (2, [.ref a13])) :: (a13, .inr (5, [.int x14, .ref (tp_ad E 100), .int x15])) :: (a8, .inr (2, [.ref a10])) :: (a1, .inr (0, [.ref a2, .ref a3, .ref a4, .int 0, .int 0])) :: (a3, .inl (tp_ty E 6, 2, .inr (.inr (.inr (.inr f7))))) :: fr) := tp_mvD 2 rfl hD
  have hP : va_P (tp_D E) tp_cl ((a8, .inr (2, [.ref a10])) :: (a10, .inr (5, [.int x11, .ref (tp_ad E 100), .int x12])) :: (a9, .inr (2, [.ref a13])) :: (a13, .inr (5, [.int x14, .ref (tp_ad E 100), .int x15])) :: (a1, .inr (0, [.ref a2, .ref a3, .ref a4, .int 0, .int 0])) :: (a3, .inl (tp_ty E 6, 2, .inr (.inr (.inr (.inr f7))))) :: fr) _ := tp_mvP 3 rfl hP
  have hD : va_D A ((a8, .inr (2, [.ref a10])) :: (a10, .inr (5, [.int x11, .ref (tp_ad E 100), .int x12])) :: (a9, .inr (2, [.ref a13])) :: (a13, .inr (5, [.int x14, .ref (tp_ad E 100), .int x15])) :: (a1, .inr (0, [.ref a2, .ref a3, .ref a4, .int 0, .int 0])) :: (a3, .inl (tp_ty E 6, 2, .inr (.inr (.inr (.inr f7))))) :: fr) := tp_mvD 3 rfl hD
  have hP : va_P (tp_D E) tp_cl ((a3, .inl (tp_ty E 6, 2, .inr (.inr (.inr (.inr f7))))) :: (a8, .inr (2, [.ref a10])) :: (a10, .inr (5, [.int x11, .ref (tp_ad E 100), .int x12])) :: (a9, .inr (2, [.ref a13])) :: (a13, .inr (5, [.int x14, .ref (tp_ad E 100), .int x15])) :: (a1, .inr (0, [.ref a2, .ref a3, .ref a4, .int 0, .int 0])) :: fr) _ := tp_mvP 5 rfl hP
  have hD : va_D A ((a3, .inl (tp_ty E 6, 2, .inr (.inr (.inr (.inr f7))))) :: (a8, .inr (2, [.ref a10])) :: (a10, .inr (5, [.int x11, .ref (tp_ad E 100), .int x12])) :: (a9, .inr (2, [.ref a13])) :: (a13, .inr (5, [.int x14, .ref (tp_ad E 100), .int x15])) :: (a1, .inr (0, [.ref a2, .ref a3, .ref a4, .int 0, .int 0])) :: fr) := tp_mvD 5 rfl hD
  have hP : va_P (tp_D E) tp_cl ((a1, .inr (0, [.ref a2, .ref a3, .ref a4, .int 0, .int 0])) :: (a3, .inl (tp_ty E 6, 2, .inr (.inr (.inr (.inr f7))))) :: (a8, .inr (2, [.ref a10])) :: (a10, .inr (5, [.int x11, .ref (tp_ad E 100), .int x12])) :: (a9, .inr (2, [.ref a13])) :: (a13, .inr (5, [.int x14, .ref (tp_ad E 100), .int x15])) :: fr) _ := tp_mvP 5 rfl hP
  have hD : va_D A ((a1, .inr (0, [.ref a2, .ref a3, .ref a4, .int 0, .int 0])) :: (a3, .inl (tp_ty E 6, 2, .inr (.inr (.inr (.inr f7))))) :: (a8, .inr (2, [.ref a10])) :: (a10, .inr (5, [.int x11, .ref (tp_ad E 100), .int x12])) :: (a9, .inr (2, [.ref a13])) :: (a13, .inr (5, [.int x14, .ref (tp_ad E 100), .int x15])) :: fr) := tp_mvD 5 rfl hD
  refine tp_cv (tp_rV (As := []) (rest := []) ⟨hx, hb, hml, hown, htg⟩ (c_T_requireEvenWays_1 l E fr _ a1 a2 a3 a4 0 0 f7 a8 a10 x11 x12 a9 a13 x14 x15 h1 h3 h2 h4) (⟨callB_of 0 htg (tp_good0 kc_T_requireEvenWays) rfl rfl rfl (htg _ ki_T) (htg _ kl_T_99) ⟨by decide, by decide, by decide +kernel⟩ ⟨Nat.le_of_ble_eq_true rfl, Nat.le_of_ble_eq_true rfl⟩, htg _ km_T_requireEvenWays, htg _ kp_T_requireEvenWays⟩) (va_recv (ci := 0) (q0 := 0) hK.1 hP rfl rfl) hK hP hD hS hA rfl hl.1 rfl (Nat.le_of_ble_eq_true rfl) d_T_link_32 ⟨Nat.le_of_ble_eq_true rfl, Nat.le_of_ble_eq_true rfl⟩) hD hS hA (fun u H locs _ hP hD hS => ?_)
  have hP : va_P (tp_D E) tp_cl ((a13, .inr (5, [.int x14, .ref (tp_ad E 100), .int x15])) :: (a9, .inr (2, [.ref a13])) :: (a10, .inr (5, [.int x11, .ref (tp_ad E 100), .int x12])) :: (a8, .inr (2, [.ref a10])) :: (a1, .inr (0, [.ref a2, .ref a3, .ref a4, .int 0, .int 0])) :: (a3, .inl (tp_ty E 6, 2, .inr (.inr (.inr (.inr f7))))) :: fr) H := hP
  have hD : va_D A ((a13, .inr (5, [.int x14, .ref (tp_ad E 100), .int x15])) :: (a9, .inr (2, [.ref a13])) :: (a10, .inr (5, [.int x11, .ref (tp_ad E 100), .int x12])) :: (a8, .inr (2, [.ref a10])) :: (a1, .inr (0, [.ref a2, .ref a3, .ref a4, .int 0, .int 0])) :: (a3, .inl (tp_ty E 6, 2, .inr (.inr (.inr (.inr f7))))) :: fr) := hD
  refine lv_aload_n hx hb d_T_link_35 rfl (lv_at hl 0 rfl) ?_
  have hP : va_P (tp_D E) tp_cl ((a13, .inr (5, [.int x14, .ref (tp_ad E 100), .int x15])) :: (a9, .inr (2, [.ref a13])) :: (a10, .inr (5, [.int x11, .ref (tp_ad E 100), .int x12])) :: (a8, .inr (2, [.ref a10])) :: (a1, .inr (0, [.ref a2, .ref a3, .ref a4, .int 0, .int 0])) :: (a3, .inl (tp_ty E 6, 2, .inr (.inr (.inr (.inr f7))))) :: fr) _ := tp_mvP 0 rfl hP
  have hD : va_D A ((a13, .inr (5, [.int x14, .ref (tp_ad E 100), .int x15])) :: (a9, .inr (2, [.ref a13])) :: (a10, .inr (5, [.int x11, .ref (tp_ad E 100), .int x12])) :: (a8, .inr (2, [.ref a10])) :: (a1, .inr (0, [.ref a2, .ref a3, .ref a4, .int 0, .int 0])) :: (a3, .inl (tp_ty E 6, 2, .inr (.inr (.inr (.inr f7))))) :: fr) := tp_mvD 0 rfl hD
  have hP : va_P (tp_D E) tp_cl ((a9, .inr (2, [.ref a13])) :: (a13, .inr (5, [.int x14, .ref (tp_ad E 100), .int x15])) :: (a10, .inr (5, [.int x11, .ref (tp_ad E 100), .int x12])) :: (a8, .inr (2, [.ref a10])) :: (a1, .inr (0, [.ref a2, .ref a3, .ref a4, .int 0, .int 0])) :: (a3, .inl (tp_ty E 6, 2, .inr (.inr (.inr (.inr f7))))) :: fr) _ := tp_mvP 1 rfl hP
  have hD : va_D A ((a9, .inr (2, [.ref a13])) :: (a13, .inr (5, [.int x14, .ref (tp_ad E 100), .int x15])) :: (a10, .inr (5, [.int x11, .ref (tp_ad E 100), .int x12])) :: (a8, .inr (2, [.ref a10])) :: (a1, .inr (0, [.ref a2, .ref a3, .ref a4, .int 0, .int 0])) :: (a3, .inl (tp_ty E 6, 2, .inr (.inr (.inr (.inr f7))))) :: fr) := tp_mvD 1 rfl hD
  have hP : va_P (tp_D E) tp_cl ((a10, .inr (5, [.int x11, .ref (tp_ad E 100), .int x12])) :: (a9, .inr (2, [.ref a13])) :: (a13, .inr (5, [.int x14, .ref (tp_ad E 100), .int x15])) :: (a8, .inr (2, [.ref a10])) :: (a1, .inr (0, [.ref a2, .ref a3, .ref a4, .int 0, .int 0])) :: (a3, .inl (tp_ty E 6, 2, .inr (.inr (.inr (.inr f7))))) :: fr) _ := tp_mvP 2 rfl hP
  have hD : va_D A ((a10, .inr (5, [.int x11, .ref (tp_ad E 100), .int x12])) :: (a9, .inr (2, [.ref a13])) :: (a13, .inr (5, [.int x14, .ref (tp_ad E 100), .int x15])) :: (a8, .inr (2, [.ref a10])) :: (a1, .inr (0, [.ref a2, .ref a3, .ref a4, .int 0, .int 0])) :: (a3, .inl (tp_ty E 6, 2, .inr (.inr (.inr (.inr f7))))) :: fr) := tp_mvD 2 rfl hD
  have hP : va_P (tp_D E) tp_cl ((a8, .inr (2, [.ref a10])) :: (a10, .inr (5, [.int x11, .ref (tp_ad E 100), .int x12])) :: (a9, .inr (2, [.ref a13])) :: (a13, .inr (5, [.int x14, .ref (tp_ad E 100), .int x15])) :: (a1, .inr (0, [.ref a2, .ref a3, .ref a4, .int 0, .int 0])) :: (a3, .inl (tp_ty E 6, 2, .inr (.inr (.inr (.inr f7))))) :: fr) _ := tp_mvP 3 rfl hP
  have hD : va_D A ((a8, .inr (2, [.ref a10])) :: (a10, .inr (5, [.int x11, .ref (tp_ad E 100), .int x12])) :: (a9, .inr (2, [.ref a13])) :: (a13, .inr (5, [.int x14, .ref (tp_ad E 100), .int x15])) :: (a1, .inr (0, [.ref a2, .ref a3, .ref a4, .int 0, .int 0])) :: (a3, .inl (tp_ty E 6, 2, .inr (.inr (.inr (.inr f7))))) :: fr) := tp_mvD 3 rfl hD
  have hP : va_P (tp_D E) tp_cl ((a3, .inl (tp_ty E 6, 2, .inr (.inr (.inr (.inr f7))))) :: (a8, .inr (2, [.ref a10])) :: (a10, .inr (5, [.int x11, .ref (tp_ad E 100), .int x12])) :: (a9, .inr (2, [.ref a13])) :: (a13, .inr (5, [.int x14, .ref (tp_ad E 100), .int x15])) :: (a1, .inr (0, [.ref a2, .ref a3, .ref a4, .int 0, .int 0])) :: fr) _ := tp_mvP 5 rfl hP
  have hD : va_D A ((a3, .inl (tp_ty E 6, 2, .inr (.inr (.inr (.inr f7))))) :: (a8, .inr (2, [.ref a10])) :: (a10, .inr (5, [.int x11, .ref (tp_ad E 100), .int x12])) :: (a9, .inr (2, [.ref a13])) :: (a13, .inr (5, [.int x14, .ref (tp_ad E 100), .int x15])) :: (a1, .inr (0, [.ref a2, .ref a3, .ref a4, .int 0, .int 0])) :: fr) := tp_mvD 5 rfl hD
  have hP : va_P (tp_D E) tp_cl ((a1, .inr (0, [.ref a2, .ref a3, .ref a4, .int 0, .int 0])) :: (a3, .inl (tp_ty E 6, 2, .inr (.inr (.inr (.inr f7))))) :: (a8, .inr (2, [.ref a10])) :: (a10, .inr (5, [.int x11, .ref (tp_ad E 100), .int x12])) :: (a9, .inr (2, [.ref a13])) :: (a13, .inr (5, [.int x14, .ref (tp_ad E 100), .int x15])) :: fr) _ := tp_mvP 5 rfl hP
  have hD : va_D A ((a1, .inr (0, [.ref a2, .ref a3, .ref a4, .int 0, .int 0])) :: (a3, .inl (tp_ty E 6, 2, .inr (.inr (.inr (.inr f7))))) :: (a8, .inr (2, [.ref a10])) :: (a10, .inr (5, [.int x11, .ref (tp_ad E 100), .int x12])) :: (a9, .inr (2, [.ref a13])) :: (a13, .inr (5, [.int x14, .ref (tp_ad E 100), .int x15])) :: fr) := tp_mvD 5 rfl hD
  refine tp_cv (tp_rV (As := []) (rest := []) ⟨hx, hb, hml, hown, htg⟩ (c_T_encodeLines_1 l E fr _ a1 a2 a3 a4 0 0 f7 a8 a10 x11 x12 a9 a13 x14 x15 h1 h3 h2 h4) (⟨callB_of 0 htg (tp_good0 kc_T_encodeLines) rfl rfl rfl (htg _ ki_T) (htg _ kl_T_102) ⟨by decide, by decide, by decide +kernel⟩ ⟨Nat.le_of_ble_eq_true rfl, Nat.le_of_ble_eq_true rfl⟩, htg _ km_T_encodeLines, htg _ kp_T_encodeLines⟩) (va_recv (ci := 0) (q0 := 0) hK.1 hP rfl rfl) hK hP hD hS hA rfl hl.1 rfl (Nat.le_of_ble_eq_true rfl) d_T_link_36 ⟨Nat.le_of_ble_eq_true rfl, Nat.le_of_ble_eq_true rfl⟩) hD hS hA (fun u H locs _ hP hD hS => ?_)
  have hP : va_P (tp_D E) tp_cl ((a13, .inr (5, [.int x14, .ref (tp_ad E 100), .int x15])) :: (a9, .inr (2, [.ref a13])) :: (a10, .inr (5, [.int x11, .ref (tp_ad E 100), .int x12])) :: (a8, .inr (2, [.ref a10])) :: (a1, .inr (0, [.ref a2, .ref a3, .ref a4, .int 0, .int 0])) :: (a3, .inl (tp_ty E 6, 2, .inr (.inr (.inr (.inr f7))))) :: fr) H := hP
  have hD : va_D A ((a13, .inr (5, [.int x14, .ref (tp_ad E 100), .int x15])) :: (a9, .inr (2, [.ref a13])) :: (a10, .inr (5, [.int x11, .ref (tp_ad E 100), .int x12])) :: (a8, .inr (2, [.ref a10])) :: (a1, .inr (0, [.ref a2, .ref a3, .ref a4, .int 0, .int 0])) :: (a3, .inl (tp_ty E 6, 2, .inr (.inr (.inr (.inr f7))))) :: fr) := hD
  refine lv_aload_n hx hb d_T_link_39 rfl (lv_at hl 0 rfl) ?_
  refine lv_iconst (v := 1) hx hb d_T_link_40 (by decide) ?_
  refine va_put (D := tp_D E) (ci := 0) (v := .int 1) (ty := .boolean) (C := qR_T) (T := qF_T) (N := 5) hx hb htg qi_T qt_T qt_T_ok qn_T hown hK.1 hP hD hS 4 rfl rfl 3 (by decide) (htg _ kl_T_30) (fun _ h => h) rfl (by decide +kernel) rfl rfl (Nat.le_of_ble_eq_true rfl) d_T_link_41 (fun H locs hP hD hS => ?_)
  have hP : va_P (tp_D E) tp_cl ((a13, .inr (5, [.int x14, .ref (tp_ad E 100), .int x15])) :: (a9, .inr (2, [.ref a13])) :: (a10, .inr (5, [.int x11, .ref (tp_ad E 100), .int x12])) :: (a8, .inr (2, [.ref a10])) :: (a1, .inr (0, [.ref a2, .ref a3, .ref a4, .int 1, .int 0])) :: (a3, .inl (tp_ty E 6, 2, .inr (.inr (.inr (.inr f7))))) :: fr) H := hP
  have hD : va_D A ((a13, .inr (5, [.int x14, .ref (tp_ad E 100), .int x15])) :: (a9, .inr (2, [.ref a13])) :: (a10, .inr (5, [.int x11, .ref (tp_ad E 100), .int x12])) :: (a8, .inr (2, [.ref a10])) :: (a1, .inr (0, [.ref a2, .ref a3, .ref a4, .int 1, .int 0])) :: (a3, .inl (tp_ty E 6, 2, .inr (.inr (.inr (.inr f7))))) :: fr) := hD
  refine lv_aload_n hx hb d_T_link_44 rfl (lv_at hl 0 rfl) ?_
  refine va_get (D := tp_D E) (ci := 0) (v := .int 0) (C := qR_T) (T := qF_T) (N := 5) hx hb htg qi_T hown hK.1 hP 4 rfl rfl 4 (by decide) (htg _ kl_T_34) (fun _ h => h) rfl d_T_link_45 ?_
  exact W.iret (v := 0) hx hb hr (fun t ht hW => ⟨⟨_, (), rfl, rfl, by rw [ht]; exact hP, hD⟩, hS.F ht⟩) hS.2.2 d_T_link_48
