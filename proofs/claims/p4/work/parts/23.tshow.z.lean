set_option maxHeartbeats 4000000 in
set_option maxRecDepth 100000 in
theorem a_C_fixedBits (l : Launch) (E : tp_Env) (fr : va_W) (sz : Nat) (xl : Int32)  : Met l y_C_fixedBits w_C_fixedBits ({ frames := 0, cells := 0, slots := 0, locals := 0 }) (va_Pc [.int xl] (tp_in E fr sz)) (va_Qi (fun r (_ : Unit) => r = tp_fix xl) (fun _ t => tp_out E (va_A fr sz) fr t) (va_A fr sz)) 0 0 (va_A fr sz) := by
  refine Met.ofW (cc := b_C_fixedBits) (maxL := 1) (ret := (some .int)) (by decide) rfl ?_
  intro p e s m args below meth c s₁ B hml hv
  obtain ⟨rfl, hsz, hP, hK, hD0⟩ := hv
  have hx := B.exec
  have hb := B.bytes
  have hr := B.returns
  have htg : ∀ w ∈ tp_G, w.before ([.int xl] : List Value).toArray s = true := fun w h => atoms_spec (ws := w_C_fixedBits) B.pre w (List.mem_cons_of_mem _ h)
  have hown : s.vm.findClass "TwoPass$Code" = some m.cls := findClass_of_methodNamed B.named
  have hlocks := B.notSynchronized
  subst hsz
  have hD := hD0.self (sz := s.heap.size)
  generalize hAe : va_A fr s.heap.size = A at hD hK ⊢
  have hA : ∀ q : Nat, s.heap.size ≤ q → A q := fun q h => by rw [← hAe]; exact Or.inr h
  have hS : va_S A s.heap s.heap [] := va_S.rf
  have hl := lv_entry ([.int xl]) (n := 1) (Nat.le_of_ble_eq_true rfl)
  rw [lg_entry_eq]
  generalize (lg_sl ([.int xl]) ++ List.replicate (1 - (lg_sl ([.int xl])).length) Slot.unset).toArray = ls at hl ⊢
  have hl : lv_has ls 1 [(0, .int xl)] := hl
  refine lv_iload_n hx hb d_C_fixedBits_0 rfl (lv_at hl 0 rfl) ?_
  by_cases h1 : xl = 1
  · refine lv_tableIn (off := 43) (tgt := 44) hx hb d_C_fixedBits_1 (by rw [h1]; decide) (by rw [h1]; decide) (by rw [h1]; decide) (by decide) ?_
    refine lv_ldc (v := (-33525633)) hx hb hown (htg _ kl_C_40) d_C_fixedBits_44 ?_
    exact W.iret (v := (-33525633)) hx hb hr (fun t ht hW => ⟨⟨_, (), rfl, (by unfold tp_fix; rw [if_pos h1]), by rw [ht]; exact hP, hD⟩, hS.F ht⟩) hS.2.2 d_C_fixedBits_46
  · by_cases h2 : xl = 2
    · refine lv_tableIn (off := 49) (tgt := 50) hx hb d_C_fixedBits_1 (by rw [h2]; decide) (by rw [h2]; decide) (by rw [h2]; decide) (by decide) ?_
      refine lv_sipush (v := 28799) hx hb d_C_fixedBits_50 (by decide) ?_
      exact W.iret (v := 28799) hx hb hr (fun t ht hW => ⟨⟨_, (), rfl, (by unfold tp_fix; rw [if_neg h1, if_pos h2]), by rw [ht]; exact hP, hD⟩, hS.F ht⟩) hS.2.2 d_C_fixedBits_53
    · by_cases h3 : xl = 3
      · refine lv_tableIn (off := 46) (tgt := 47) hx hb d_C_fixedBits_1 (by rw [h3]; decide) (by rw [h3]; decide) (by rw [h3]; decide) (by decide) ?_
        refine lv_ldc (v := (-67080065)) hx hb hown (htg _ kl_C_41) d_C_fixedBits_47 ?_
        exact W.iret (v := (-67080065)) hx hb hr (fun t ht hW => ⟨⟨_, (), rfl, (by unfold tp_fix; rw [if_neg h1, if_neg h2, if_pos h3]), by rw [ht]; exact hP, hD⟩, hS.F ht⟩) hS.2.2 d_C_fixedBits_49
      · by_cases h4 : xl = 4
        · refine lv_tableIn (off := 53) (tgt := 54) hx hb d_C_fixedBits_1 (by rw [h4]; decide) (by rw [h4]; decide) (by rw [h4]; decide) (by decide) ?_
          refine lv_bipush (v := 127) hx hb d_C_fixedBits_54 (by decide) ?_
          exact W.iret (v := 127) hx hb hr (fun t ht hW => ⟨⟨_, (), rfl, (by unfold tp_fix; rw [if_neg h1, if_neg h2, if_neg h3, if_pos h4]), by rw [ht]; exact hP, hD⟩, hS.F ht⟩) hS.2.2 d_C_fixedBits_56
        · by_cases h5 : xl = 5
          · refine lv_tableIn (off := 49) (tgt := 50) hx hb d_C_fixedBits_1 (by rw [h5]; decide) (by rw [h5]; decide) (by rw [h5]; decide) (by decide) ?_
            refine lv_sipush (v := 28799) hx hb d_C_fixedBits_50 (by decide) ?_
            exact W.iret (v := 28799) hx hb hr (fun t ht hW => ⟨⟨_, (), rfl, (by unfold tp_fix; rw [if_neg h1, if_neg h2, if_neg h3, if_neg h4, if_pos h5]), by rw [ht]; exact hP, hD⟩, hS.F ht⟩) hS.2.2 d_C_fixedBits_53
          · by_cases h6 : xl = 6
            · refine lv_tableIn (off := 49) (tgt := 50) hx hb d_C_fixedBits_1 (by rw [h6]; decide) (by rw [h6]; decide) (by rw [h6]; decide) (by decide) ?_
              refine lv_sipush (v := 28799) hx hb d_C_fixedBits_50 (by decide) ?_
              exact W.iret (v := 28799) hx hb hr (fun t ht hW => ⟨⟨_, (), rfl, (by unfold tp_fix; rw [if_neg h1, if_neg h2, if_neg h3, if_neg h4, if_neg h5, if_pos h6]), by rw [ht]; exact hP, hD⟩, hS.F ht⟩) hS.2.2 d_C_fixedBits_53
            · by_cases h7 : xl = 7
              · refine lv_tableIn (off := 53) (tgt := 54) hx hb d_C_fixedBits_1 (by rw [h7]; decide) (by rw [h7]; decide) (by rw [h7]; decide) (by decide) ?_
                refine lv_bipush (v := 127) hx hb d_C_fixedBits_54 (by decide) ?_
                exact W.iret (v := 127) hx hb hr (fun t ht hW => ⟨⟨_, (), rfl, (by unfold tp_fix; rw [if_neg h1, if_neg h2, if_neg h3, if_neg h4, if_neg h5, if_neg h6, if_pos h7]), by rw [ht]; exact hP, hD⟩, hS.F ht⟩) hS.2.2 d_C_fixedBits_56
              · refine lv_tableOut (tgt := 57) hx hb d_C_fixedBits_1 (by have g11 := tp_neI (v := 1) (n := 1) rfl h1; have g12 := tp_neI (v := 2) (n := 2) rfl h2; have g13 := tp_neI (v := 3) (n := 3) rfl h3; have g14 := tp_neI (v := 4) (n := 4) rfl h4; have g15 := tp_neI (v := 5) (n := 5) rfl h5; have g16 := tp_neI (v := 6) (n := 6) rfl h6; have g17 := tp_neI (v := 7) (n := 7) rfl h7; omega) (by decide) ?_
                refine lv_iconst (v := 0) hx hb d_C_fixedBits_57 (by decide) ?_
                exact W.iret (v := 0) hx hb hr (fun t ht hW => ⟨⟨_, (), rfl, (by unfold tp_fix; rw [if_neg h1, if_neg h2, if_neg h3, if_neg h4, if_neg h5, if_neg h6, if_neg h7]), by rw [ht]; exact hP, hD⟩, hS.F ht⟩) hS.2.2 d_C_fixedBits_58
set_option maxHeartbeats 400000 in
set_option maxRecDepth 100000 in
theorem c_C_bits_1 (l : Launch) (E : tp_Env) (fr : va_W) (sz : Nat) (x1 : Int32)  : Met l y_C_bits w_C_bits ({ frames := 0, cells := 0, slots := 0, locals := 0 }) (va_Pc [.int x1, .int 20, .int 6] (tp_in E fr sz)) (va_Qi (fun r (_ : Unit) => r = ((x1.toUInt32 >>> (Int32.toUInt32 20 &&& Int32.toUInt32 31)).toInt32 &&& 63)) (fun _ t => tp_out E (va_A fr sz) fr t) (va_A fr sz)) 0 0 (va_A fr sz) := by
  refine Met.ofW (cc := b_C_bits) (maxL := 3) (ret := (some .int)) (by decide) rfl ?_
  intro p e s m args below meth c s₁ B hml hv
  obtain ⟨rfl, hsz, hP, hK, hD0⟩ := hv
  have hx := B.exec
  have hb := B.bytes
  have hr := B.returns
  have htg : ∀ w ∈ tp_G, w.before ([.int x1, .int 20, .int 6] : List Value).toArray s = true := fun w h => atoms_spec (ws := w_C_bits) B.pre w (List.mem_cons_of_mem _ h)
  have hown : s.vm.findClass "TwoPass$Code" = some m.cls := findClass_of_methodNamed B.named
  have hlocks := B.notSynchronized
  subst hsz
  have hD := hD0.self (sz := s.heap.size)
  generalize hAe : va_A fr s.heap.size = A at hD hK ⊢
  have hA : ∀ q : Nat, s.heap.size ≤ q → A q := fun q h => by rw [← hAe]; exact Or.inr h
  have hS : va_S A s.heap s.heap [] := va_S.rf
  have hl := lv_entry ([.int x1, .int 20, .int 6]) (n := 3) (Nat.le_of_ble_eq_true rfl)
  rw [lg_entry_eq]
  generalize (lg_sl ([.int x1, .int 20, .int 6]) ++ List.replicate (3 - (lg_sl ([.int x1, .int 20, .int 6])).length) Slot.unset).toArray = ls at hl ⊢
  have hl : lv_has ls 3 [(0, .int x1), (1, .int 20), (2, .int 6)] := hl
  refine lv_iload_n hx hb d_C_bits_0 rfl (lv_at hl 0 rfl) ?_
  refine lv_iload_n hx hb d_C_bits_1 rfl (lv_at hl 1 rfl) ?_
  refine lv_iushr (v := (x1.toUInt32 >>> (Int32.toUInt32 20 &&& Int32.toUInt32 31)).toInt32) hx hb d_C_bits_2 rfl ?_
  refine lv_iconst (v := 1) hx hb d_C_bits_3 (by decide) ?_
  refine lv_iload_n hx hb d_C_bits_4 rfl (lv_at hl 2 rfl) ?_
  refine lv_ishl hx hb d_C_bits_5 ?_
  refine tp_topi (v := 64) (by decide) ?_
  refine lv_iconst (v := 1) hx hb d_C_bits_6 (by decide) ?_
  refine lv_isub hx hb d_C_bits_7 ?_
  refine tp_topi (v := 63) (by decide) ?_
  refine lv_iand hx hb d_C_bits_8 ?_
  exact W.iret (v := ((x1.toUInt32 >>> (Int32.toUInt32 20 &&& Int32.toUInt32 31)).toInt32 &&& 63)) hx hb hr (fun t ht hW => ⟨⟨_, (), rfl, rfl, by rw [ht]; exact hP, hD⟩, hS.F ht⟩) hS.2.2 d_C_bits_9
set_option maxHeartbeats 400000 in
set_option maxRecDepth 100000 in
theorem c_C_bits_2 (l : Launch) (E : tp_Env) (fr : va_W) (sz : Nat) (x1 : Int32)  : Met l y_C_bits w_C_bits ({ frames := 0, cells := 0, slots := 0, locals := 0 }) (va_Pc [.int x1, .int 7, .int 5] (tp_in E fr sz)) (va_Qi (fun r (_ : Unit) => r = ((x1.toUInt32 >>> (Int32.toUInt32 7 &&& Int32.toUInt32 31)).toInt32 &&& 31)) (fun _ t => tp_out E (va_A fr sz) fr t) (va_A fr sz)) 0 0 (va_A fr sz) := by
  refine Met.ofW (cc := b_C_bits) (maxL := 3) (ret := (some .int)) (by decide) rfl ?_
  intro p e s m args below meth c s₁ B hml hv
  obtain ⟨rfl, hsz, hP, hK, hD0⟩ := hv
  have hx := B.exec
  have hb := B.bytes
  have hr := B.returns
  have htg : ∀ w ∈ tp_G, w.before ([.int x1, .int 7, .int 5] : List Value).toArray s = true := fun w h => atoms_spec (ws := w_C_bits) B.pre w (List.mem_cons_of_mem _ h)
  have hown : s.vm.findClass "TwoPass$Code" = some m.cls := findClass_of_methodNamed B.named
  have hlocks := B.notSynchronized
  subst hsz
  have hD := hD0.self (sz := s.heap.size)
  generalize hAe : va_A fr s.heap.size = A at hD hK ⊢
  have hA : ∀ q : Nat, s.heap.size ≤ q → A q := fun q h => by rw [← hAe]; exact Or.inr h
  have hS : va_S A s.heap s.heap [] := va_S.rf
  have hl := lv_entry ([.int x1, .int 7, .int 5]) (n := 3) (Nat.le_of_ble_eq_true rfl)
  rw [lg_entry_eq]
  generalize (lg_sl ([.int x1, .int 7, .int 5]) ++ List.replicate (3 - (lg_sl ([.int x1, .int 7, .int 5])).length) Slot.unset).toArray = ls at hl ⊢
  have hl : lv_has ls 3 [(0, .int x1), (1, .int 7), (2, .int 5)] := hl
  refine lv_iload_n hx hb d_C_bits_0 rfl (lv_at hl 0 rfl) ?_
  refine lv_iload_n hx hb d_C_bits_1 rfl (lv_at hl 1 rfl) ?_
  refine lv_iushr (v := (x1.toUInt32 >>> (Int32.toUInt32 7 &&& Int32.toUInt32 31)).toInt32) hx hb d_C_bits_2 rfl ?_
  refine lv_iconst (v := 1) hx hb d_C_bits_3 (by decide) ?_
  refine lv_iload_n hx hb d_C_bits_4 rfl (lv_at hl 2 rfl) ?_
  refine lv_ishl hx hb d_C_bits_5 ?_
  refine tp_topi (v := 32) (by decide) ?_
  refine lv_iconst (v := 1) hx hb d_C_bits_6 (by decide) ?_
  refine lv_isub hx hb d_C_bits_7 ?_
  refine tp_topi (v := 31) (by decide) ?_
  refine lv_iand hx hb d_C_bits_8 ?_
  exact W.iret (v := ((x1.toUInt32 >>> (Int32.toUInt32 7 &&& Int32.toUInt32 31)).toInt32 &&& 31)) hx hb hr (fun t ht hW => ⟨⟨_, (), rfl, rfl, by rw [ht]; exact hP, hD⟩, hS.F ht⟩) hS.2.2 d_C_bits_9
set_option maxHeartbeats 400000 in
set_option maxRecDepth 100000 in
theorem c_C_bits_3 (l : Launch) (E : tp_Env) (fr : va_W) (sz : Nat) (x1 : Int32)  : Met l y_C_bits w_C_bits ({ frames := 0, cells := 0, slots := 0, locals := 0 }) (va_Pc [.int x1, .int 8, .int 4] (tp_in E fr sz)) (va_Qi (fun r (_ : Unit) => r = ((x1.toUInt32 >>> (Int32.toUInt32 8 &&& Int32.toUInt32 31)).toInt32 &&& 15)) (fun _ t => tp_out E (va_A fr sz) fr t) (va_A fr sz)) 0 0 (va_A fr sz) := by
  refine Met.ofW (cc := b_C_bits) (maxL := 3) (ret := (some .int)) (by decide) rfl ?_
  intro p e s m args below meth c s₁ B hml hv
  obtain ⟨rfl, hsz, hP, hK, hD0⟩ := hv
  have hx := B.exec
  have hb := B.bytes
  have hr := B.returns
  have htg : ∀ w ∈ tp_G, w.before ([.int x1, .int 8, .int 4] : List Value).toArray s = true := fun w h => atoms_spec (ws := w_C_bits) B.pre w (List.mem_cons_of_mem _ h)
  have hown : s.vm.findClass "TwoPass$Code" = some m.cls := findClass_of_methodNamed B.named
  have hlocks := B.notSynchronized
  subst hsz
  have hD := hD0.self (sz := s.heap.size)
  generalize hAe : va_A fr s.heap.size = A at hD hK ⊢
  have hA : ∀ q : Nat, s.heap.size ≤ q → A q := fun q h => by rw [← hAe]; exact Or.inr h
  have hS : va_S A s.heap s.heap [] := va_S.rf
  have hl := lv_entry ([.int x1, .int 8, .int 4]) (n := 3) (Nat.le_of_ble_eq_true rfl)
  rw [lg_entry_eq]
  generalize (lg_sl ([.int x1, .int 8, .int 4]) ++ List.replicate (3 - (lg_sl ([.int x1, .int 8, .int 4])).length) Slot.unset).toArray = ls at hl ⊢
  have hl : lv_has ls 3 [(0, .int x1), (1, .int 8), (2, .int 4)] := hl
  refine lv_iload_n hx hb d_C_bits_0 rfl (lv_at hl 0 rfl) ?_
  refine lv_iload_n hx hb d_C_bits_1 rfl (lv_at hl 1 rfl) ?_
  refine lv_iushr (v := (x1.toUInt32 >>> (Int32.toUInt32 8 &&& Int32.toUInt32 31)).toInt32) hx hb d_C_bits_2 rfl ?_
  refine lv_iconst (v := 1) hx hb d_C_bits_3 (by decide) ?_
  refine lv_iload_n hx hb d_C_bits_4 rfl (lv_at hl 2 rfl) ?_
  refine lv_ishl hx hb d_C_bits_5 ?_
  refine tp_topi (v := 16) (by decide) ?_
  refine lv_iconst (v := 1) hx hb d_C_bits_6 (by decide) ?_
  refine lv_isub hx hb d_C_bits_7 ?_
  refine tp_topi (v := 15) (by decide) ?_
  refine lv_iand hx hb d_C_bits_8 ?_
  exact W.iret (v := ((x1.toUInt32 >>> (Int32.toUInt32 8 &&& Int32.toUInt32 31)).toInt32 &&& 15)) hx hb hr (fun t ht hW => ⟨⟨_, (), rfl, rfl, by rw [ht]; exact hP, hD⟩, hS.F ht⟩) hS.2.2 d_C_bits_9
set_option maxHeartbeats 400000 in
set_option maxRecDepth 100000 in
theorem c_C_bits_4 (l : Launch) (E : tp_Env) (fr : va_W) (sz : Nat) (x1 : Int32)  : Met l y_C_bits w_C_bits ({ frames := 0, cells := 0, slots := 0, locals := 0 }) (va_Pc [.int x1, .int 25, .int 6] (tp_in E fr sz)) (va_Qi (fun r (_ : Unit) => r = ((x1.toUInt32 >>> (Int32.toUInt32 25 &&& Int32.toUInt32 31)).toInt32 &&& 63)) (fun _ t => tp_out E (va_A fr sz) fr t) (va_A fr sz)) 0 0 (va_A fr sz) := by
  refine Met.ofW (cc := b_C_bits) (maxL := 3) (ret := (some .int)) (by decide) rfl ?_
  intro p e s m args below meth c s₁ B hml hv
  obtain ⟨rfl, hsz, hP, hK, hD0⟩ := hv
  have hx := B.exec
  have hb := B.bytes
  have hr := B.returns
  have htg : ∀ w ∈ tp_G, w.before ([.int x1, .int 25, .int 6] : List Value).toArray s = true := fun w h => atoms_spec (ws := w_C_bits) B.pre w (List.mem_cons_of_mem _ h)
  have hown : s.vm.findClass "TwoPass$Code" = some m.cls := findClass_of_methodNamed B.named
  have hlocks := B.notSynchronized
  subst hsz
  have hD := hD0.self (sz := s.heap.size)
  generalize hAe : va_A fr s.heap.size = A at hD hK ⊢
  have hA : ∀ q : Nat, s.heap.size ≤ q → A q := fun q h => by rw [← hAe]; exact Or.inr h
  have hS : va_S A s.heap s.heap [] := va_S.rf
  have hl := lv_entry ([.int x1, .int 25, .int 6]) (n := 3) (Nat.le_of_ble_eq_true rfl)
  rw [lg_entry_eq]
  generalize (lg_sl ([.int x1, .int 25, .int 6]) ++ List.replicate (3 - (lg_sl ([.int x1, .int 25, .int 6])).length) Slot.unset).toArray = ls at hl ⊢
  have hl : lv_has ls 3 [(0, .int x1), (1, .int 25), (2, .int 6)] := hl
  refine lv_iload_n hx hb d_C_bits_0 rfl (lv_at hl 0 rfl) ?_
  refine lv_iload_n hx hb d_C_bits_1 rfl (lv_at hl 1 rfl) ?_
  refine lv_iushr (v := (x1.toUInt32 >>> (Int32.toUInt32 25 &&& Int32.toUInt32 31)).toInt32) hx hb d_C_bits_2 rfl ?_
  refine lv_iconst (v := 1) hx hb d_C_bits_3 (by decide) ?_
  refine lv_iload_n hx hb d_C_bits_4 rfl (lv_at hl 2 rfl) ?_
  refine lv_ishl hx hb d_C_bits_5 ?_
  refine tp_topi (v := 64) (by decide) ?_
  refine lv_iconst (v := 1) hx hb d_C_bits_6 (by decide) ?_
  refine lv_isub hx hb d_C_bits_7 ?_
  refine tp_topi (v := 63) (by decide) ?_
  refine lv_iand hx hb d_C_bits_8 ?_
  exact W.iret (v := ((x1.toUInt32 >>> (Int32.toUInt32 25 &&& Int32.toUInt32 31)).toInt32 &&& 63)) hx hb hr (fun t ht hW => ⟨⟨_, (), rfl, rfl, by rw [ht]; exact hP, hD⟩, hS.F ht⟩) hS.2.2 d_C_bits_9
set_option maxHeartbeats 400000 in
set_option maxRecDepth 100000 in
theorem c_C_bits_5 (l : Launch) (E : tp_Env) (fr : va_W) (sz : Nat) (x1 : Int32)  : Met l y_C_bits w_C_bits ({ frames := 0, cells := 0, slots := 0, locals := 0 }) (va_Pc [.int x1, .int 7, .int 1] (tp_in E fr sz)) (va_Qi (fun r (_ : Unit) => r = ((x1.toUInt32 >>> (Int32.toUInt32 7 &&& Int32.toUInt32 31)).toInt32 &&& 1)) (fun _ t => tp_out E (va_A fr sz) fr t) (va_A fr sz)) 0 0 (va_A fr sz) := by
  refine Met.ofW (cc := b_C_bits) (maxL := 3) (ret := (some .int)) (by decide) rfl ?_
  intro p e s m args below meth c s₁ B hml hv
  obtain ⟨rfl, hsz, hP, hK, hD0⟩ := hv
  have hx := B.exec
  have hb := B.bytes
  have hr := B.returns
  have htg : ∀ w ∈ tp_G, w.before ([.int x1, .int 7, .int 1] : List Value).toArray s = true := fun w h => atoms_spec (ws := w_C_bits) B.pre w (List.mem_cons_of_mem _ h)
  have hown : s.vm.findClass "TwoPass$Code" = some m.cls := findClass_of_methodNamed B.named
  have hlocks := B.notSynchronized
  subst hsz
  have hD := hD0.self (sz := s.heap.size)
  generalize hAe : va_A fr s.heap.size = A at hD hK ⊢
  have hA : ∀ q : Nat, s.heap.size ≤ q → A q := fun q h => by rw [← hAe]; exact Or.inr h
  have hS : va_S A s.heap s.heap [] := va_S.rf
  have hl := lv_entry ([.int x1, .int 7, .int 1]) (n := 3) (Nat.le_of_ble_eq_true rfl)
  rw [lg_entry_eq]
  generalize (lg_sl ([.int x1, .int 7, .int 1]) ++ List.replicate (3 - (lg_sl ([.int x1, .int 7, .int 1])).length) Slot.unset).toArray = ls at hl ⊢
  have hl : lv_has ls 3 [(0, .int x1), (1, .int 7), (2, .int 1)] := hl
  refine lv_iload_n hx hb d_C_bits_0 rfl (lv_at hl 0 rfl) ?_
  refine lv_iload_n hx hb d_C_bits_1 rfl (lv_at hl 1 rfl) ?_
  refine lv_iushr (v := (x1.toUInt32 >>> (Int32.toUInt32 7 &&& Int32.toUInt32 31)).toInt32) hx hb d_C_bits_2 rfl ?_
  refine lv_iconst (v := 1) hx hb d_C_bits_3 (by decide) ?_
  refine lv_iload_n hx hb d_C_bits_4 rfl (lv_at hl 2 rfl) ?_
  refine lv_ishl hx hb d_C_bits_5 ?_
  refine tp_topi (v := 2) (by decide) ?_
  refine lv_iconst (v := 1) hx hb d_C_bits_6 (by decide) ?_
  refine lv_isub hx hb d_C_bits_7 ?_
  refine tp_topi (v := 1) (by decide) ?_
  refine lv_iand hx hb d_C_bits_8 ?_
  exact W.iret (v := ((x1.toUInt32 >>> (Int32.toUInt32 7 &&& Int32.toUInt32 31)).toInt32 &&& 1)) hx hb hr (fun t ht hW => ⟨⟨_, (), rfl, rfl, by rw [ht]; exact hP, hD⟩, hS.F ht⟩) hS.2.2 d_C_bits_9
set_option maxHeartbeats 400000 in
set_option maxRecDepth 100000 in
theorem c_C_bits_6 (l : Launch) (E : tp_Env) (fr : va_W) (sz : Nat) (x1 : Int32)  : Met l y_C_bits w_C_bits ({ frames := 0, cells := 0, slots := 0, locals := 0 }) (va_Pc [.int x1, .int 21, .int 10] (tp_in E fr sz)) (va_Qi (fun r (_ : Unit) => r = ((x1.toUInt32 >>> (Int32.toUInt32 21 &&& Int32.toUInt32 31)).toInt32 &&& 1023)) (fun _ t => tp_out E (va_A fr sz) fr t) (va_A fr sz)) 0 0 (va_A fr sz) := by
  refine Met.ofW (cc := b_C_bits) (maxL := 3) (ret := (some .int)) (by decide) rfl ?_
  intro p e s m args below meth c s₁ B hml hv
  obtain ⟨rfl, hsz, hP, hK, hD0⟩ := hv
  have hx := B.exec
  have hb := B.bytes
  have hr := B.returns
  have htg : ∀ w ∈ tp_G, w.before ([.int x1, .int 21, .int 10] : List Value).toArray s = true := fun w h => atoms_spec (ws := w_C_bits) B.pre w (List.mem_cons_of_mem _ h)
  have hown : s.vm.findClass "TwoPass$Code" = some m.cls := findClass_of_methodNamed B.named
  have hlocks := B.notSynchronized
  subst hsz
  have hD := hD0.self (sz := s.heap.size)
  generalize hAe : va_A fr s.heap.size = A at hD hK ⊢
  have hA : ∀ q : Nat, s.heap.size ≤ q → A q := fun q h => by rw [← hAe]; exact Or.inr h
  have hS : va_S A s.heap s.heap [] := va_S.rf
  have hl := lv_entry ([.int x1, .int 21, .int 10]) (n := 3) (Nat.le_of_ble_eq_true rfl)
  rw [lg_entry_eq]
  generalize (lg_sl ([.int x1, .int 21, .int 10]) ++ List.replicate (3 - (lg_sl ([.int x1, .int 21, .int 10])).length) Slot.unset).toArray = ls at hl ⊢
  have hl : lv_has ls 3 [(0, .int x1), (1, .int 21), (2, .int 10)] := hl
  refine lv_iload_n hx hb d_C_bits_0 rfl (lv_at hl 0 rfl) ?_
  refine lv_iload_n hx hb d_C_bits_1 rfl (lv_at hl 1 rfl) ?_
  refine lv_iushr (v := (x1.toUInt32 >>> (Int32.toUInt32 21 &&& Int32.toUInt32 31)).toInt32) hx hb d_C_bits_2 rfl ?_
  refine lv_iconst (v := 1) hx hb d_C_bits_3 (by decide) ?_
  refine lv_iload_n hx hb d_C_bits_4 rfl (lv_at hl 2 rfl) ?_
  refine lv_ishl hx hb d_C_bits_5 ?_
  refine tp_topi (v := 1024) (by decide) ?_
  refine lv_iconst (v := 1) hx hb d_C_bits_6 (by decide) ?_
  refine lv_isub hx hb d_C_bits_7 ?_
  refine tp_topi (v := 1023) (by decide) ?_
  refine lv_iand hx hb d_C_bits_8 ?_
  exact W.iret (v := ((x1.toUInt32 >>> (Int32.toUInt32 21 &&& Int32.toUInt32 31)).toInt32 &&& 1023)) hx hb hr (fun t ht hW => ⟨⟨_, (), rfl, rfl, by rw [ht]; exact hP, hD⟩, hS.F ht⟩) hS.2.2 d_C_bits_9
set_option maxHeartbeats 400000 in
set_option maxRecDepth 100000 in
theorem c_C_bits_7 (l : Launch) (E : tp_Env) (fr : va_W) (sz : Nat) (x1 : Int32)  : Met l y_C_bits w_C_bits ({ frames := 0, cells := 0, slots := 0, locals := 0 }) (va_Pc [.int x1, .int 20, .int 1] (tp_in E fr sz)) (va_Qi (fun r (_ : Unit) => r = ((x1.toUInt32 >>> (Int32.toUInt32 20 &&& Int32.toUInt32 31)).toInt32 &&& 1)) (fun _ t => tp_out E (va_A fr sz) fr t) (va_A fr sz)) 0 0 (va_A fr sz) := by
  refine Met.ofW (cc := b_C_bits) (maxL := 3) (ret := (some .int)) (by decide) rfl ?_
  intro p e s m args below meth c s₁ B hml hv
  obtain ⟨rfl, hsz, hP, hK, hD0⟩ := hv
  have hx := B.exec
  have hb := B.bytes
  have hr := B.returns
  have htg : ∀ w ∈ tp_G, w.before ([.int x1, .int 20, .int 1] : List Value).toArray s = true := fun w h => atoms_spec (ws := w_C_bits) B.pre w (List.mem_cons_of_mem _ h)
  have hown : s.vm.findClass "TwoPass$Code" = some m.cls := findClass_of_methodNamed B.named
  have hlocks := B.notSynchronized
  subst hsz
  have hD := hD0.self (sz := s.heap.size)
  generalize hAe : va_A fr s.heap.size = A at hD hK ⊢
  have hA : ∀ q : Nat, s.heap.size ≤ q → A q := fun q h => by rw [← hAe]; exact Or.inr h
  have hS : va_S A s.heap s.heap [] := va_S.rf
  have hl := lv_entry ([.int x1, .int 20, .int 1]) (n := 3) (Nat.le_of_ble_eq_true rfl)
  rw [lg_entry_eq]
  generalize (lg_sl ([.int x1, .int 20, .int 1]) ++ List.replicate (3 - (lg_sl ([.int x1, .int 20, .int 1])).length) Slot.unset).toArray = ls at hl ⊢
  have hl : lv_has ls 3 [(0, .int x1), (1, .int 20), (2, .int 1)] := hl
  refine lv_iload_n hx hb d_C_bits_0 rfl (lv_at hl 0 rfl) ?_
  refine lv_iload_n hx hb d_C_bits_1 rfl (lv_at hl 1 rfl) ?_
  refine lv_iushr (v := (x1.toUInt32 >>> (Int32.toUInt32 20 &&& Int32.toUInt32 31)).toInt32) hx hb d_C_bits_2 rfl ?_
  refine lv_iconst (v := 1) hx hb d_C_bits_3 (by decide) ?_
  refine lv_iload_n hx hb d_C_bits_4 rfl (lv_at hl 2 rfl) ?_
  refine lv_ishl hx hb d_C_bits_5 ?_
  refine tp_topi (v := 2) (by decide) ?_
  refine lv_iconst (v := 1) hx hb d_C_bits_6 (by decide) ?_
  refine lv_isub hx hb d_C_bits_7 ?_
  refine tp_topi (v := 1) (by decide) ?_
  refine lv_iand hx hb d_C_bits_8 ?_
  exact W.iret (v := ((x1.toUInt32 >>> (Int32.toUInt32 20 &&& Int32.toUInt32 31)).toInt32 &&& 1)) hx hb hr (fun t ht hW => ⟨⟨_, (), rfl, rfl, by rw [ht]; exact hP, hD⟩, hS.F ht⟩) hS.2.2 d_C_bits_9
set_option maxHeartbeats 400000 in
set_option maxRecDepth 100000 in
theorem c_C_bits_8 (l : Launch) (E : tp_Env) (fr : va_W) (sz : Nat) (x1 : Int32)  : Met l y_C_bits w_C_bits ({ frames := 0, cells := 0, slots := 0, locals := 0 }) (va_Pc [.int x1, .int 12, .int 8] (tp_in E fr sz)) (va_Qi (fun r (_ : Unit) => r = ((x1.toUInt32 >>> (Int32.toUInt32 12 &&& Int32.toUInt32 31)).toInt32 &&& 255)) (fun _ t => tp_out E (va_A fr sz) fr t) (va_A fr sz)) 0 0 (va_A fr sz) := by
  refine Met.ofW (cc := b_C_bits) (maxL := 3) (ret := (some .int)) (by decide) rfl ?_
  intro p e s m args below meth c s₁ B hml hv
  obtain ⟨rfl, hsz, hP, hK, hD0⟩ := hv
  have hx := B.exec
  have hb := B.bytes
  have hr := B.returns
  have htg : ∀ w ∈ tp_G, w.before ([.int x1, .int 12, .int 8] : List Value).toArray s = true := fun w h => atoms_spec (ws := w_C_bits) B.pre w (List.mem_cons_of_mem _ h)
  have hown : s.vm.findClass "TwoPass$Code" = some m.cls := findClass_of_methodNamed B.named
  have hlocks := B.notSynchronized
  subst hsz
  have hD := hD0.self (sz := s.heap.size)
  generalize hAe : va_A fr s.heap.size = A at hD hK ⊢
  have hA : ∀ q : Nat, s.heap.size ≤ q → A q := fun q h => by rw [← hAe]; exact Or.inr h
  have hS : va_S A s.heap s.heap [] := va_S.rf
  have hl := lv_entry ([.int x1, .int 12, .int 8]) (n := 3) (Nat.le_of_ble_eq_true rfl)
  rw [lg_entry_eq]
  generalize (lg_sl ([.int x1, .int 12, .int 8]) ++ List.replicate (3 - (lg_sl ([.int x1, .int 12, .int 8])).length) Slot.unset).toArray = ls at hl ⊢
  have hl : lv_has ls 3 [(0, .int x1), (1, .int 12), (2, .int 8)] := hl
  refine lv_iload_n hx hb d_C_bits_0 rfl (lv_at hl 0 rfl) ?_
  refine lv_iload_n hx hb d_C_bits_1 rfl (lv_at hl 1 rfl) ?_
  refine lv_iushr (v := (x1.toUInt32 >>> (Int32.toUInt32 12 &&& Int32.toUInt32 31)).toInt32) hx hb d_C_bits_2 rfl ?_
  refine lv_iconst (v := 1) hx hb d_C_bits_3 (by decide) ?_
  refine lv_iload_n hx hb d_C_bits_4 rfl (lv_at hl 2 rfl) ?_
  refine lv_ishl hx hb d_C_bits_5 ?_
  refine tp_topi (v := 256) (by decide) ?_
  refine lv_iconst (v := 1) hx hb d_C_bits_6 (by decide) ?_
  refine lv_isub hx hb d_C_bits_7 ?_
  refine tp_topi (v := 255) (by decide) ?_
  refine lv_iand hx hb d_C_bits_8 ?_
  exact W.iret (v := ((x1.toUInt32 >>> (Int32.toUInt32 12 &&& Int32.toUInt32 31)).toInt32 &&& 255)) hx hb hr (fun t ht hW => ⟨⟨_, (), rfl, rfl, by rw [ht]; exact hP, hD⟩, hS.F ht⟩) hS.2.2 d_C_bits_9
set_option maxHeartbeats 4000000 in
set_option maxRecDepth 100000 in
theorem a_C_numberOf (l : Launch) (E : tp_Env) (fr : va_W) (sz : Nat) (xl xw : Int32)  : Met l y_C_numberOf w_C_numberOf ({ frames := 1, cells := 0, slots := 0, locals := 22 }) (va_Pc [.int xl, .int xw] (tp_in E fr sz)) (va_Qi (fun r (_ : Unit) => r = tp_num xl xw) (fun _ t => tp_out E (va_A fr sz) fr t) (va_A fr sz)) 0 0 (va_A fr sz) := by
  refine Met.ofW (cc := b_C_numberOf) (maxL := 2) (ret := (some .int)) (by decide) rfl ?_
  intro p e s m args below meth c s₁ B hml hv
  obtain ⟨rfl, hsz, hP, hK, hD0⟩ := hv
  have hx := B.exec
  have hb := B.bytes
  have hr := B.returns
  have htg : ∀ w ∈ tp_G, w.before ([.int xl, .int xw] : List Value).toArray s = true := fun w h => atoms_spec (ws := w_C_numberOf) B.pre w (List.mem_cons_of_mem _ h)
  have hown : s.vm.findClass "TwoPass$Code" = some m.cls := findClass_of_methodNamed B.named
  have hlocks := B.notSynchronized
  subst hsz
  have hD := hD0.self (sz := s.heap.size)
  generalize hAe : va_A fr s.heap.size = A at hD hK ⊢
  have hA : ∀ q : Nat, s.heap.size ≤ q → A q := fun q h => by rw [← hAe]; exact Or.inr h
  have hS : va_S A s.heap s.heap [] := va_S.rf
  have hl := lv_entry ([.int xl, .int xw]) (n := 2) (Nat.le_of_ble_eq_true rfl)
  rw [lg_entry_eq]
  generalize (lg_sl ([.int xl, .int xw]) ++ List.replicate (2 - (lg_sl ([.int xl, .int xw])).length) Slot.unset).toArray = ls at hl ⊢
  have hl : lv_has ls 2 [(0, .int xl), (1, .int xw)] := hl
  refine lv_iload_n hx hb d_C_numberOf_0 rfl (lv_at hl 0 rfl) ?_
  by_cases h1 : xl = 2
  · refine lv_tableIn (off := 39) (tgt := 40) hx hb d_C_numberOf_1 (by rw [h1]; decide) (by rw [h1]; decide) (by rw [h1]; decide) (by decide) ?_
    refine lv_iload_n hx hb d_C_numberOf_40 rfl (lv_at hl 1 rfl) ?_
    refine lv_bipush (v := 20) hx hb d_C_numberOf_41 (by decide) ?_
    refine lv_ishr hx hb d_C_numberOf_43 ?_
    exact W.iret (v := (xw >>> (20 &&& 31 : Int32))) hx hb hr (fun t ht hW => ⟨⟨_, (), rfl, (by unfold tp_num; rw [if_pos h1]), by rw [ht]; exact hP, hD⟩, hS.F ht⟩) hS.2.2 d_C_numberOf_44
  · by_cases h2 : xl = 3
    · refine lv_tableIn (off := 44) (tgt := 45) hx hb d_C_numberOf_1 (by rw [h2]; decide) (by rw [h2]; decide) (by rw [h2]; decide) (by decide) ?_
      refine lv_iload_n hx hb d_C_numberOf_45 rfl (lv_at hl 1 rfl) ?_
      refine lv_bipush (v := 20) hx hb d_C_numberOf_46 (by decide) ?_
      refine lv_bipush (v := 6) hx hb d_C_numberOf_48 (by decide) ?_
      refine tp_ci (tp_rS (As := [.int xw, .int 20, .int 6]) (rest := []) ⟨hx, hb, hml, hown, htg⟩ (c_C_bits_1 l E fr _ xw ) (⟨callB_of 3 htg (tp_good0 kc_C_bits) rfl rfl rfl (htg _ ki_C) (htg _ kl_C_24) ⟨by decide, by decide, by decide +kernel⟩ ⟨Nat.le_of_ble_eq_true rfl, Nat.le_of_ble_eq_true rfl⟩, htg _ ks_C_bits⟩) hK hP hD hS hA rfl hl.1 rfl (Nat.le_of_ble_eq_true rfl) d_C_numberOf_50 ⟨Nat.le_of_ble_eq_true rfl, Nat.le_of_ble_eq_true rfl⟩) hD hS hA (fun r u H locs hw hP hD hS => ?_)
      subst r
      have hP : va_P (tp_D E) tp_cl (fr) H := hP
      have hD : va_D A (fr) := hD
      exact W.iret (v := ((xw.toUInt32 >>> (Int32.toUInt32 20 &&& Int32.toUInt32 31)).toInt32 &&& 63)) hx hb hr (fun t ht hW => ⟨⟨_, (), rfl, (by unfold tp_num; rw [if_neg h1, if_pos h2]), by rw [ht]; exact hP, hD⟩, hS.F ht⟩) hS.2.2 d_C_numberOf_53
    · by_cases h3 : xl = 4
      · refine lv_tableIn (off := 53) (tgt := 54) hx hb d_C_numberOf_1 (by rw [h3]; decide) (by rw [h3]; decide) (by rw [h3]; decide) (by decide) ?_
        refine lv_iload_n hx hb d_C_numberOf_54 rfl (lv_at hl 1 rfl) ?_
        refine lv_bipush (v := 12) hx hb d_C_numberOf_55 (by decide) ?_
        refine lv_iushr (v := (xw.toUInt32 >>> (Int32.toUInt32 12 &&& Int32.toUInt32 31)).toInt32) hx hb d_C_numberOf_57 rfl ?_
        exact W.iret (v := (xw.toUInt32 >>> (Int32.toUInt32 12 &&& Int32.toUInt32 31)).toInt32) hx hb hr (fun t ht hW => ⟨⟨_, (), rfl, (by unfold tp_num; rw [if_neg h1, if_neg h2, if_pos h3]), by rw [ht]; exact hP, hD⟩, hS.F ht⟩) hS.2.2 d_C_numberOf_58
      · by_cases h4 : xl = 5
        · refine lv_tableIn (off := 58) (tgt := 59) hx hb d_C_numberOf_1 (by rw [h4]; decide) (by rw [h4]; decide) (by rw [h4]; decide) (by decide) ?_
          refine lv_iload_n hx hb d_C_numberOf_59 rfl (lv_at hl 1 rfl) ?_
          refine lv_bipush (v := 7) hx hb d_C_numberOf_60 (by decide) ?_
          refine lv_iconst (v := 5) hx hb d_C_numberOf_62 (by decide) ?_
          refine tp_ci (tp_rS (As := [.int xw, .int 7, .int 5]) (rest := []) ⟨hx, hb, hml, hown, htg⟩ (c_C_bits_2 l E fr _ xw ) (⟨callB_of 3 htg (tp_good0 kc_C_bits) rfl rfl rfl (htg _ ki_C) (htg _ kl_C_24) ⟨by decide, by decide, by decide +kernel⟩ ⟨Nat.le_of_ble_eq_true rfl, Nat.le_of_ble_eq_true rfl⟩, htg _ ks_C_bits⟩) hK hP hD hS hA rfl hl.1 rfl (Nat.le_of_ble_eq_true rfl) d_C_numberOf_63 ⟨Nat.le_of_ble_eq_true rfl, Nat.le_of_ble_eq_true rfl⟩) hD hS hA (fun r u H locs hw hP hD hS => ?_)
          subst r
          have hP : va_P (tp_D E) tp_cl (fr) H := hP
          have hD : va_D A (fr) := hD
          refine lv_iload_n hx hb d_C_numberOf_66 rfl (lv_at hl 1 rfl) ?_
          refine lv_bipush (v := 25) hx hb d_C_numberOf_67 (by decide) ?_
          refine lv_ishr hx hb d_C_numberOf_69 ?_
          refine lv_iconst (v := 5) hx hb d_C_numberOf_70 (by decide) ?_
          refine lv_ishl hx hb d_C_numberOf_71 ?_
          refine lv_ior hx hb d_C_numberOf_72 ?_
          exact W.iret (v := (((xw.toUInt32 >>> (Int32.toUInt32 7 &&& Int32.toUInt32 31)).toInt32 &&& 31) ||| ((xw >>> (25 &&& 31 : Int32)) <<< (5 &&& 31 : Int32)))) hx hb hr (fun t ht hW => ⟨⟨_, (), rfl, (by unfold tp_num; rw [if_neg h1, if_neg h2, if_neg h3, if_pos h4]), by rw [ht]; exact hP, hD⟩, hS.F ht⟩) hS.2.2 d_C_numberOf_73
        · by_cases h5 : xl = 6
          · refine lv_tableIn (off := 73) (tgt := 74) hx hb d_C_numberOf_1 (by rw [h5]; decide) (by rw [h5]; decide) (by rw [h5]; decide) (by decide) ?_
            refine lv_iload_n hx hb d_C_numberOf_74 rfl (lv_at hl 1 rfl) ?_
            refine lv_bipush (v := 8) hx hb d_C_numberOf_75 (by decide) ?_
            refine lv_iconst (v := 4) hx hb d_C_numberOf_77 (by decide) ?_
            refine tp_ci (tp_rS (As := [.int xw, .int 8, .int 4]) (rest := []) ⟨hx, hb, hml, hown, htg⟩ (c_C_bits_3 l E fr _ xw ) (⟨callB_of 3 htg (tp_good0 kc_C_bits) rfl rfl rfl (htg _ ki_C) (htg _ kl_C_24) ⟨by decide, by decide, by decide +kernel⟩ ⟨Nat.le_of_ble_eq_true rfl, Nat.le_of_ble_eq_true rfl⟩, htg _ ks_C_bits⟩) hK hP hD hS hA rfl hl.1 rfl (Nat.le_of_ble_eq_true rfl) d_C_numberOf_78 ⟨Nat.le_of_ble_eq_true rfl, Nat.le_of_ble_eq_true rfl⟩) hD hS hA (fun r u H locs hw hP hD hS => ?_)
            subst r
            have hP : va_P (tp_D E) tp_cl (fr) H := hP
            have hD : va_D A (fr) := hD
            refine lv_iconst (v := 1) hx hb d_C_numberOf_81 (by decide) ?_
            refine lv_ishl hx hb d_C_numberOf_82 ?_
            refine lv_iload_n hx hb d_C_numberOf_83 rfl (lv_at hl 1 rfl) ?_
            refine lv_bipush (v := 25) hx hb d_C_numberOf_84 (by decide) ?_
            refine lv_bipush (v := 6) hx hb d_C_numberOf_86 (by decide) ?_
            refine tp_ci (tp_rS (As := [.int xw, .int 25, .int 6]) (rest := [.int (((xw.toUInt32 >>> (Int32.toUInt32 8 &&& Int32.toUInt32 31)).toInt32 &&& 15) <<< (1 &&& 31 : Int32))]) ⟨hx, hb, hml, hown, htg⟩ (c_C_bits_4 l E fr _ xw ) (⟨callB_of 3 htg (tp_good0 kc_C_bits) rfl rfl rfl (htg _ ki_C) (htg _ kl_C_24) ⟨by decide, by decide, by decide +kernel⟩ ⟨Nat.le_of_ble_eq_true rfl, Nat.le_of_ble_eq_true rfl⟩, htg _ ks_C_bits⟩) hK hP hD hS hA rfl hl.1 rfl (Nat.le_of_ble_eq_true rfl) d_C_numberOf_88 ⟨Nat.le_of_ble_eq_true rfl, Nat.le_of_ble_eq_true rfl⟩) hD hS hA (fun r u H locs hw hP hD hS => ?_)
            subst r
            have hP : va_P (tp_D E) tp_cl (fr) H := hP
            have hD : va_D A (fr) := hD
            refine lv_iconst (v := 5) hx hb d_C_numberOf_91 (by decide) ?_
            refine lv_ishl hx hb d_C_numberOf_92 ?_
            refine lv_ior hx hb d_C_numberOf_93 ?_
            refine lv_iload_n hx hb d_C_numberOf_94 rfl (lv_at hl 1 rfl) ?_
            refine lv_bipush (v := 7) hx hb d_C_numberOf_95 (by decide) ?_
            refine lv_iconst (v := 1) hx hb d_C_numberOf_97 (by decide) ?_
            refine tp_ci (tp_rS (As := [.int xw, .int 7, .int 1]) (rest := [.int ((((xw.toUInt32 >>> (Int32.toUInt32 8 &&& Int32.toUInt32 31)).toInt32 &&& 15) <<< (1 &&& 31 : Int32)) ||| (((xw.toUInt32 >>> (Int32.toUInt32 25 &&& Int32.toUInt32 31)).toInt32 &&& 63) <<< (5 &&& 31 : Int32)))]) ⟨hx, hb, hml, hown, htg⟩ (c_C_bits_5 l E fr _ xw ) (⟨callB_of 3 htg (tp_good0 kc_C_bits) rfl rfl rfl (htg _ ki_C) (htg _ kl_C_24) ⟨by decide, by decide, by decide +kernel⟩ ⟨Nat.le_of_ble_eq_true rfl, Nat.le_of_ble_eq_true rfl⟩, htg _ ks_C_bits⟩) hK hP hD hS hA rfl hl.1 rfl (Nat.le_of_ble_eq_true rfl) d_C_numberOf_98 ⟨Nat.le_of_ble_eq_true rfl, Nat.le_of_ble_eq_true rfl⟩) hD hS hA (fun r u H locs hw hP hD hS => ?_)
            subst r
            have hP : va_P (tp_D E) tp_cl (fr) H := hP
            have hD : va_D A (fr) := hD
            refine lv_bipush (v := 11) hx hb d_C_numberOf_101 (by decide) ?_
            refine lv_ishl hx hb d_C_numberOf_103 ?_
            refine lv_ior hx hb d_C_numberOf_104 ?_
            refine lv_iload_n hx hb d_C_numberOf_105 rfl (lv_at hl 1 rfl) ?_
            refine lv_bipush (v := 31) hx hb d_C_numberOf_106 (by decide) ?_
            refine lv_ishr hx hb d_C_numberOf_108 ?_
            refine lv_bipush (v := 12) hx hb d_C_numberOf_109 (by decide) ?_
            refine lv_ishl hx hb d_C_numberOf_111 ?_
            refine lv_ior hx hb d_C_numberOf_112 ?_
            exact W.iret (v := ((((((xw.toUInt32 >>> (Int32.toUInt32 8 &&& Int32.toUInt32 31)).toInt32 &&& 15) <<< (1 &&& 31 : Int32)) ||| (((xw.toUInt32 >>> (Int32.toUInt32 25 &&& Int32.toUInt32 31)).toInt32 &&& 63) <<< (5 &&& 31 : Int32))) ||| (((xw.toUInt32 >>> (Int32.toUInt32 7 &&& Int32.toUInt32 31)).toInt32 &&& 1) <<< (11 &&& 31 : Int32))) ||| ((xw >>> (31 &&& 31 : Int32)) <<< (12 &&& 31 : Int32)))) hx hb hr (fun t ht hW => ⟨⟨_, (), rfl, (by unfold tp_num; rw [if_neg h1, if_neg h2, if_neg h3, if_neg h4, if_pos h5]), by rw [ht]; exact hP, hD⟩, hS.F ht⟩) hS.2.2 d_C_numberOf_113
          · by_cases h6 : xl = 7
            · refine lv_tableIn (off := 113) (tgt := 114) hx hb d_C_numberOf_1 (by rw [h6]; decide) (by rw [h6]; decide) (by rw [h6]; decide) (by decide) ?_
              refine lv_iload_n hx hb d_C_numberOf_114 rfl (lv_at hl 1 rfl) ?_
              refine lv_bipush (v := 21) hx hb d_C_numberOf_115 (by decide) ?_
              refine lv_bipush (v := 10) hx hb d_C_numberOf_117 (by decide) ?_
              refine tp_ci (tp_rS (As := [.int xw, .int 21, .int 10]) (rest := []) ⟨hx, hb, hml, hown, htg⟩ (c_C_bits_6 l E fr _ xw ) (⟨callB_of 3 htg (tp_good0 kc_C_bits) rfl rfl rfl (htg _ ki_C) (htg _ kl_C_24) ⟨by decide, by decide, by decide +kernel⟩ ⟨Nat.le_of_ble_eq_true rfl, Nat.le_of_ble_eq_true rfl⟩, htg _ ks_C_bits⟩) hK hP hD hS hA rfl hl.1 rfl (Nat.le_of_ble_eq_true rfl) d_C_numberOf_119 ⟨Nat.le_of_ble_eq_true rfl, Nat.le_of_ble_eq_true rfl⟩) hD hS hA (fun r u H locs hw hP hD hS => ?_)
              subst r
              have hP : va_P (tp_D E) tp_cl (fr) H := hP
              have hD : va_D A (fr) := hD
              refine lv_iconst (v := 1) hx hb d_C_numberOf_122 (by decide) ?_
              refine lv_ishl hx hb d_C_numberOf_123 ?_
              refine lv_iload_n hx hb d_C_numberOf_124 rfl (lv_at hl 1 rfl) ?_
              refine lv_bipush (v := 20) hx hb d_C_numberOf_125 (by decide) ?_
              refine lv_iconst (v := 1) hx hb d_C_numberOf_127 (by decide) ?_
              refine tp_ci (tp_rS (As := [.int xw, .int 20, .int 1]) (rest := [.int (((xw.toUInt32 >>> (Int32.toUInt32 21 &&& Int32.toUInt32 31)).toInt32 &&& 1023) <<< (1 &&& 31 : Int32))]) ⟨hx, hb, hml, hown, htg⟩ (c_C_bits_7 l E fr _ xw ) (⟨callB_of 3 htg (tp_good0 kc_C_bits) rfl rfl rfl (htg _ ki_C) (htg _ kl_C_24) ⟨by decide, by decide, by decide +kernel⟩ ⟨Nat.le_of_ble_eq_true rfl, Nat.le_of_ble_eq_true rfl⟩, htg _ ks_C_bits⟩) hK hP hD hS hA rfl hl.1 rfl (Nat.le_of_ble_eq_true rfl) d_C_numberOf_128 ⟨Nat.le_of_ble_eq_true rfl, Nat.le_of_ble_eq_true rfl⟩) hD hS hA (fun r u H locs hw hP hD hS => ?_)
              subst r
              have hP : va_P (tp_D E) tp_cl (fr) H := hP
              have hD : va_D A (fr) := hD
              refine lv_bipush (v := 11) hx hb d_C_numberOf_131 (by decide) ?_
              refine lv_ishl hx hb d_C_numberOf_133 ?_
              refine lv_ior hx hb d_C_numberOf_134 ?_
              refine lv_iload_n hx hb d_C_numberOf_135 rfl (lv_at hl 1 rfl) ?_
              refine lv_bipush (v := 12) hx hb d_C_numberOf_136 (by decide) ?_
              refine lv_bipush (v := 8) hx hb d_C_numberOf_138 (by decide) ?_
              refine tp_ci (tp_rS (As := [.int xw, .int 12, .int 8]) (rest := [.int ((((xw.toUInt32 >>> (Int32.toUInt32 21 &&& Int32.toUInt32 31)).toInt32 &&& 1023) <<< (1 &&& 31 : Int32)) ||| (((xw.toUInt32 >>> (Int32.toUInt32 20 &&& Int32.toUInt32 31)).toInt32 &&& 1) <<< (11 &&& 31 : Int32)))]) ⟨hx, hb, hml, hown, htg⟩ (c_C_bits_8 l E fr _ xw ) (⟨callB_of 3 htg (tp_good0 kc_C_bits) rfl rfl rfl (htg _ ki_C) (htg _ kl_C_24) ⟨by decide, by decide, by decide +kernel⟩ ⟨Nat.le_of_ble_eq_true rfl, Nat.le_of_ble_eq_true rfl⟩, htg _ ks_C_bits⟩) hK hP hD hS hA rfl hl.1 rfl (Nat.le_of_ble_eq_true rfl) d_C_numberOf_140 ⟨Nat.le_of_ble_eq_true rfl, Nat.le_of_ble_eq_true rfl⟩) hD hS hA (fun r u H locs hw hP hD hS => ?_)
              subst r
              have hP : va_P (tp_D E) tp_cl (fr) H := hP
              have hD : va_D A (fr) := hD
              refine lv_bipush (v := 12) hx hb d_C_numberOf_143 (by decide) ?_
              refine lv_ishl hx hb d_C_numberOf_145 ?_
              refine lv_ior hx hb d_C_numberOf_146 ?_
              refine lv_iload_n hx hb d_C_numberOf_147 rfl (lv_at hl 1 rfl) ?_
              refine lv_bipush (v := 31) hx hb d_C_numberOf_148 (by decide) ?_
              refine lv_ishr hx hb d_C_numberOf_150 ?_
              refine lv_bipush (v := 20) hx hb d_C_numberOf_151 (by decide) ?_
              refine lv_ishl hx hb d_C_numberOf_153 ?_
              refine lv_ior hx hb d_C_numberOf_154 ?_
              exact W.iret (v := ((((((xw.toUInt32 >>> (Int32.toUInt32 21 &&& Int32.toUInt32 31)).toInt32 &&& 1023) <<< (1 &&& 31 : Int32)) ||| (((xw.toUInt32 >>> (Int32.toUInt32 20 &&& Int32.toUInt32 31)).toInt32 &&& 1) <<< (11 &&& 31 : Int32))) ||| (((xw.toUInt32 >>> (Int32.toUInt32 12 &&& Int32.toUInt32 31)).toInt32 &&& 255) <<< (12 &&& 31 : Int32))) ||| ((xw >>> (31 &&& 31 : Int32)) <<< (20 &&& 31 : Int32)))) hx hb hr (fun t ht hW => ⟨⟨_, (), rfl, (by unfold tp_num; rw [if_neg h1, if_neg h2, if_neg h3, if_neg h4, if_neg h5, if_pos h6]), by rw [ht]; exact hP, hD⟩, hS.F ht⟩) hS.2.2 d_C_numberOf_155
            · refine lv_tableOut (tgt := 156) hx hb d_C_numberOf_1 (by have g12 := tp_neI (v := 2) (n := 2) rfl h1; have g13 := tp_neI (v := 3) (n := 3) rfl h2; have g14 := tp_neI (v := 4) (n := 4) rfl h3; have g15 := tp_neI (v := 5) (n := 5) rfl h4; have g16 := tp_neI (v := 6) (n := 6) rfl h5; have g17 := tp_neI (v := 7) (n := 7) rfl h6; omega) (by decide) ?_
              refine lv_iconst (v := 0) hx hb d_C_numberOf_156 (by decide) ?_
              exact W.iret (v := 0) hx hb hr (fun t ht hW => ⟨⟨_, (), rfl, (by unfold tp_num; rw [if_neg h1, if_neg h2, if_neg h3, if_neg h4, if_neg h5, if_neg h6]), by rw [ht]; exact hP, hD⟩, hS.F ht⟩) hS.2.2 d_C_numberOf_157
set_option maxHeartbeats 4000000 in
set_option maxRecDepth 100000 in
theorem a_C_operationOf (l : Launch) (E : tp_Env) (fr : va_W) (sz : Nat) (xw : Int32)  : Met l y_C_operationOf w_C_operationOf ({ frames := 1, cells := 0, slots := 0, locals := 20 }) (va_Pc [.int xw] (tp_in E fr sz)) (va_Qr (fun (u : Nat) => tp_hit xw u) (fun u q t => q = (fun (u : Nat) => tp_ad E u) u ∧ tp_out E (va_A fr sz) fr t) (va_A fr sz)) 0 0 (va_A fr sz) := by
  refine Met.ofW (cc := b_C_operationOf) (maxL := 3) (ret := (some (.object "TwoPass$Operation"))) (by decide) rfl ?_
  intro p e s m args below meth c s₁ B hml hv
  obtain ⟨rfl, hsz, hP, hK, hD0⟩ := hv
  have hx := B.exec
  have hb := B.bytes
  have hr := B.returns
  have htg : ∀ w ∈ tp_G, w.before ([.int xw] : List Value).toArray s = true := fun w h => atoms_spec (ws := w_C_operationOf) B.pre w (List.mem_cons_of_mem _ h)
  have hown : s.vm.findClass "TwoPass$Code" = some m.cls := findClass_of_methodNamed B.named
  have hlocks := B.notSynchronized
  subst hsz
  have hD := hD0.self (sz := s.heap.size)
  generalize hAe : va_A fr s.heap.size = A at hD hK ⊢
  have hA : ∀ q : Nat, s.heap.size ≤ q → A q := fun q h => by rw [← hAe]; exact Or.inr h
  have hS : va_S A s.heap s.heap [] := va_S.rf
  have hl := lv_entry ([.int xw]) (n := 3) (Nat.le_of_ble_eq_true rfl)
  rw [lg_entry_eq]
  generalize (lg_sl ([.int xw]) ++ List.replicate (3 - (lg_sl ([.int xw])).length) Slot.unset).toArray = ls at hl ⊢
  have hl : lv_has ls 3 [(0, .int xw)] := hl
  refine lv_iconst (v := 0) hx hb d_C_operationOf_0 (by decide) ?_
  refine lv_istore_n (lv' := [(1, .int 0), (0, .int xw)]) hx hb d_C_operationOf_1 rfl hl (by decide) rfl (fun ls hl => ?_)
  refine tp_loop (fun j ls H locs (k : Int32) => ((0 ≤ k.toInt) ∧ (k.toInt + (j : Int) = 47) ∧ (∀ i : Nat, i < k.toInt.toNat → ¬ tp_mt xw i)) ∧ lv_has ls 3 [(1, .int k), (0, .int xw)] ∧ va_P (tp_D E) tp_cl fr H ∧ va_D A fr ∧ va_S A s.heap H locs) ?_ _ 0 ⟨⟨by decide, show (0 : Int32).toInt + ((47 : Nat) : Int) = 47 from by decide, fun i z => absurd z (by rw [Int32.toInt_zero]; omega)⟩, tp_lvI hl [0, 1] rfl, hP, hD, hS⟩
  intro j k ls H locs hI ih
  obtain ⟨⟨hk0, hj, hno⟩, hl, hP, hD, hS⟩ := hI
  refine lv_iload_n hx hb d_C_operationOf_2 rfl (lv_at hl 0 rfl) ?_
  refine va_getsN (v := .ref (tp_ad E 101)) hx hb hK.opsZ hS hown (hK.2.2.2.1.use kf_C_28) (fun _ h => h) d_C_operationOf_3 ?_
  refine va_tlen (v := 47) hx hb hK.opsT hS (by decide) d_C_operationOf_6 ?_
  by_cases h1 : 47 ≤ k
  · refine lv_icmp_ge (tgt := 52) hx hb d_C_operationOf_7 (by decide) (fun _ => ?_) (fun h => absurd h1 h)
    refine va_gets (v := .ref (tp_ad E 0)) hx hb (hK.opZ (i := 0) (by decide)) hS hown (htg _ kl_C_36) (fun _ h => h) d_C_operationOf_52 ?_
    exact W.aret (v := .ref (tp_ad E 0)) hx hb hr (Or.inl ⟨_, rfl⟩) (Or.inr ⟨_, rfl⟩) (fun t ht hW => ⟨⟨0, _, rfl, Or.inl ⟨rfl, tp_allmt hno h1⟩, rfl, by rw [ht]; exact hP, hD⟩, hS.F ht⟩) hS.2.2 d_C_operationOf_55
  · refine lv_icmp_ge (tgt := 52) hx hb d_C_operationOf_7 (by decide) (fun h => absurd h h1) (fun _ => ?_)
    refine va_getsN (v := .ref (tp_ad E 101)) hx hb hK.opsZ hS hown (hK.2.2.2.1.use kf_C_28) (fun _ h => h) d_C_operationOf_10 ?_
    refine lv_iload_n hx hb d_C_operationOf_13 rfl (lv_at hl 0 rfl) ?_
    refine vb_tq (v := .ref (tp_ad E k.toNatClampNeg)) hx hb hK.opsT hS (tp_k47 hk0 h1) rfl d_C_operationOf_14 ?_
    refine vk_getf (v := .int (tp_lay.getD k.toNatClampNeg 0)) hx hb (hK.lay (i := k.toNatClampNeg) (tp_n47 hk0 h1)) hS hown (htg _ kl_C_15) (fun _ h => h) d_C_operationOf_15 ?_
    refine tp_ci (tp_rS (As := [.int (tp_lay.getD k.toNatClampNeg 0)]) (rest := []) ⟨hx, hb, hml, hown, htg⟩ (a_C_fixedBits l E fr _ (tp_lay.getD k.toNatClampNeg 0) ) (⟨callB_of 1 htg (tp_good0 kc_C_fixedBits) rfl rfl rfl (htg _ ki_C) (htg _ kl_C_32) ⟨by decide, by decide, by decide +kernel⟩ ⟨Nat.le_of_ble_eq_true rfl, Nat.le_of_ble_eq_true rfl⟩, htg _ ks_C_fixedBits⟩) hK hP hD hS hA rfl hl.1 rfl (Nat.le_of_ble_eq_true rfl) d_C_operationOf_18 ⟨Nat.le_of_ble_eq_true rfl, Nat.le_of_ble_eq_true rfl⟩) hD hS hA (fun r u H locs hw hP hD hS => ?_)
    subst r
    have hP : va_P (tp_D E) tp_cl (fr) H := hP
    have hD : va_D A (fr) := hD
    refine lv_istore_n (lv' := [(2, .int (tp_fix (tp_lay.getD k.toNatClampNeg 0))), (1, .int k), (0, .int xw)]) hx hb d_C_operationOf_21 rfl hl (by decide) rfl (fun ls hl => ?_)
    refine lv_iload_n hx hb d_C_operationOf_22 rfl (lv_at hl 0 rfl) ?_
    by_cases h2 : (tp_fix (tp_lay.getD k.toNatClampNeg 0)) = 0
    · refine lv_if_eq (tgt := 46) hx hb d_C_operationOf_23 (by decide) (fun _ => ?_) (fun h => absurd h2 h)
      refine lv_iinc (k := 1) (v := (k + 1)) (lv' := [(1, .int (k + 1)), (2, .int (tp_fix (tp_lay.getD k.toNatClampNeg 0))), (0, .int xw)]) hx hb d_C_operationOf_46 hl rfl rfl (by decide) rfl (fun ls hl => ?_)
      refine lv_goto (tgt := 2) hx hb d_C_operationOf_49 (by decide) ?_
      have hkn := tp_l47 hk0 h1
      have hk1 : (k + 1).toInt = k.toInt + 1 := tp_inc (by omega)
      exact ih (j - 1) (k + 1) ls _ _ (by omega) ⟨⟨by omega, by omega, tp_nomt hno hk0 hk1 (fun z => z.1 h2)⟩, tp_lvI hl [0, 2] rfl, hP, hD, hS⟩
    · refine lv_if_eq (tgt := 46) hx hb d_C_operationOf_23 (by decide) (fun h => absurd h h2) (fun _ => ?_)
      refine lv_iload_n hx hb d_C_operationOf_26 rfl (lv_at hl 2 rfl) ?_
      refine lv_iload_n hx hb d_C_operationOf_27 rfl (lv_at hl 0 rfl) ?_
      refine lv_iand hx hb d_C_operationOf_28 ?_
      refine va_getsN (v := .ref (tp_ad E 101)) hx hb hK.opsZ hS hown (hK.2.2.2.1.use kf_C_28) (fun _ h => h) d_C_operationOf_29 ?_
      refine lv_iload_n hx hb d_C_operationOf_32 rfl (lv_at hl 1 rfl) ?_
      refine vb_tq (v := .ref (tp_ad E k.toNatClampNeg)) hx hb hK.opsT hS (tp_k47 hk0 h1) rfl d_C_operationOf_33 ?_
      refine vk_getf (v := .int (tp_cod.getD k.toNatClampNeg 0)) hx hb (hK.cod (i := k.toNatClampNeg) (tp_n47 hk0 h1)) hS hown (htg _ kl_C_9) (fun _ h => h) d_C_operationOf_34 ?_
      by_cases h3 : (xw &&& (tp_fix (tp_lay.getD k.toNatClampNeg 0))) = (tp_cod.getD k.toNatClampNeg 0)
      · refine lv_icmp_ne (tgt := 46) hx hb d_C_operationOf_37 (by decide) (fun h => absurd h3 h) (fun _ => ?_)
        refine va_getsN (v := .ref (tp_ad E 101)) hx hb hK.opsZ hS hown (hK.2.2.2.1.use kf_C_28) (fun _ h => h) d_C_operationOf_40 ?_
        refine lv_iload_n hx hb d_C_operationOf_43 rfl (lv_at hl 1 rfl) ?_
        refine vb_tq (v := .ref (tp_ad E k.toNatClampNeg)) hx hb hK.opsT hS (tp_k47 hk0 h1) rfl d_C_operationOf_44 ?_
        exact W.aret (v := .ref (tp_ad E k.toNatClampNeg)) hx hb hr (Or.inl ⟨_, rfl⟩) (Or.inr ⟨_, rfl⟩) (fun t ht hW => ⟨⟨k.toNatClampNeg, _, rfl, Or.inr ⟨tp_n47 hk0 h1, ⟨h2, h3⟩, hno⟩, rfl, by rw [ht]; exact hP, hD⟩, hS.F ht⟩) hS.2.2 d_C_operationOf_45
      · refine lv_icmp_ne (tgt := 46) hx hb d_C_operationOf_37 (by decide) (fun _ => ?_) (fun h => absurd h h3)
        refine lv_iinc (k := 1) (v := (k + 1)) (lv' := [(1, .int (k + 1)), (2, .int (tp_fix (tp_lay.getD k.toNatClampNeg 0))), (0, .int xw)]) hx hb d_C_operationOf_46 hl rfl rfl (by decide) rfl (fun ls hl => ?_)
        refine lv_goto (tgt := 2) hx hb d_C_operationOf_49 (by decide) ?_
        have hkn := tp_l47 hk0 h1
        have hk1 : (k + 1).toInt = k.toInt + 1 := tp_inc (by omega)
        exact ih (j - 1) (k + 1) ls _ _ (by omega) ⟨⟨by omega, by omega, tp_nomt hno hk0 hk1 (fun z => h3 z.2)⟩, tp_lvI hl [0, 2] rfl, hP, hD, hS⟩
set_option maxHeartbeats 4000000 in
set_option maxRecDepth 100000 in
theorem a_T_writeRegister (l : Launch) (E : tp_Env) (fr : va_W) (sz : Nat) (aT aY aS : Nat) (xl xg : Int32) (aB ab : Nat) (xm xc : Int32) (nb : Nat) (fb : Nat → Int32) (xr : Int32) (hn : nb = 16 ∨ nb = 34) (hf : tp_fit fb) (hc : 0 ≤ xc.toInt ∧ xc.toInt + 1 + (tp_dl xr : Int) ≤ 34) : Met l y_T_writeRegister w_T_writeRegister ({ frames := 6, cells := 2, slots := 68, locals := 188 }) (va_Pc [.ref aT, .int xr] (tp_in E ((aT, .inr (0, [.ref aY, .ref aS, .ref aB, .int xl, .int xg])) :: (aB, .inr (6, [.ref ab, .int 0, .int xm, .int xc])) :: (ab, .inl (tp_ty E 3, nb, .inl fb)) :: fr) sz)) (va_Qv (fun (u : Nat × Nat × (Nat → Int32) × Int32) => (u.2.1 = 16 ∨ u.2.1 = 34) ∧ tp_fit u.2.2.1 ∧ u.2.2.2.toInt = xc.toInt + 1 + (tp_dl xr : Int)) (fun u t => tp_out E (va_A ((aT, .inr (0, [.ref aY, .ref aS, .ref aB, .int xl, .int xg])) :: (aB, .inr (6, [.ref ab, .int 0, .int xm, .int xc])) :: (ab, .inl (tp_ty E 3, nb, .inl fb)) :: fr) sz) ((aT, .inr (0, [.ref aY, .ref aS, .ref aB, .int xl, .int xg])) :: (aB, .inr (6, [.ref u.1, .int 0, .int xm, .int u.2.2.2])) :: (u.1, .inl (tp_ty E 3, u.2.1, .inl u.2.2.1)) :: fr) t) (va_A ((aT, .inr (0, [.ref aY, .ref aS, .ref aB, .int xl, .int xg])) :: (aB, .inr (6, [.ref ab, .int 0, .int xm, .int xc])) :: (ab, .inl (tp_ty E 3, nb, .inl fb)) :: fr) sz)) 2 68 (va_A ((aT, .inr (0, [.ref aY, .ref aS, .ref aB, .int xl, .int xg])) :: (aB, .inr (6, [.ref ab, .int 0, .int xm, .int xc])) :: (ab, .inl (tp_ty E 3, nb, .inl fb)) :: fr) sz) := by
  refine Met.ofW (cc := b_T_writeRegister) (maxL := 2) (ret := none) (by decide) rfl ?_
  intro p e s m args below meth c s₁ B hml hv
  obtain ⟨rfl, hsz, hP, hK, hD0⟩ := hv
  have hx := B.exec
  have hb := B.bytes
  have hr := B.returns
  have htg : ∀ w ∈ tp_G, w.before ([.ref aT, .int xr] : List Value).toArray s = true := fun w h => atoms_spec (ws := w_T_writeRegister) B.pre w (List.mem_cons_of_mem _ h)
  have hown : s.vm.findClass "TwoPass" = some m.cls := findClass_of_methodNamed B.named
  have hlocks := B.notSynchronized
  subst hsz
  have hD := hD0.self (sz := s.heap.size)
  generalize hAe : va_A ((aT, .inr (0, [.ref aY, .ref aS, .ref aB, .int xl, .int xg])) :: (aB, .inr (6, [.ref ab, .int 0, .int xm, .int xc])) :: (ab, .inl (tp_ty E 3, nb, .inl fb)) :: fr) s.heap.size = A at hD hK ⊢
  have hA : ∀ q : Nat, s.heap.size ≤ q → A q := fun q h => by rw [← hAe]; exact Or.inr h
  have hS : va_S A s.heap s.heap [] := va_S.rf
  have hl := lv_entry ([.ref aT, .int xr]) (n := 2) (Nat.le_of_ble_eq_true rfl)
  rw [lg_entry_eq]
  generalize (lg_sl ([.ref aT, .int xr]) ++ List.replicate (2 - (lg_sl ([.ref aT, .int xr])).length) Slot.unset).toArray = ls at hl ⊢
  have hl : lv_has ls 2 [(0, .ref aT), (1, .int xr)] := hl
  refine lv_aload_n hx hb d_T_writeRegister_0 rfl (lv_at hl 0 rfl) ?_
  refine va_get (D := tp_D E) (ci := 0) (v := .ref aB) (C := qR_T) (T := qF_T) (N := 5) hx hb htg qi_T hown hK.1 hP 0 rfl rfl 2 (by decide) (htg _ kl_T_26) (fun _ h => h) rfl d_T_writeRegister_1 ?_
  refine lv_bipush (v := 120) hx hb d_T_writeRegister_4 (by decide) ?_
  have hP : va_P (tp_D E) tp_cl ((ab, .inl (tp_ty E 3, nb, .inl fb)) :: (aT, .inr (0, [.ref aY, .ref aS, .ref aB, .int xl, .int xg])) :: (aB, .inr (6, [.ref ab, .int 0, .int xm, .int xc])) :: fr) _ := tp_mvP 2 rfl hP
  have hD : va_D A ((ab, .inl (tp_ty E 3, nb, .inl fb)) :: (aT, .inr (0, [.ref aY, .ref aS, .ref aB, .int xl, .int xg])) :: (aB, .inr (6, [.ref ab, .int 0, .int xm, .int xc])) :: fr) := tp_mvD 2 rfl hD
  have hP : va_P (tp_D E) tp_cl ((aB, .inr (6, [.ref ab, .int 0, .int xm, .int xc])) :: (ab, .inl (tp_ty E 3, nb, .inl fb)) :: (aT, .inr (0, [.ref aY, .ref aS, .ref aB, .int xl, .int xg])) :: fr) _ := tp_mvP 2 rfl hP
  have hD : va_D A ((aB, .inr (6, [.ref ab, .int 0, .int xm, .int xc])) :: (ab, .inl (tp_ty E 3, nb, .inl fb)) :: (aT, .inr (0, [.ref aY, .ref aS, .ref aB, .int xl, .int xg])) :: fr) := tp_mvD 2 rfl hD
  refine tp_cr (tp_rV (As := [.int 120]) (rest := []) ⟨hx, hb, hml, hown, htg⟩ (a_SB_appC l E ((aT, .inr (0, [.ref aY, .ref aS, .ref aB, .int xl, .int xg])) :: fr) _ aB ab xm xc nb fb 120 hn hf (tp_wr1 hc) (by decide)) (⟨callB_of 1 htg (tp_good0 kc_SB_append_0) rfl rfl rfl (htg _ ki_SB) (htg _ kl_T_154) ⟨by decide, by decide, by decide +kernel⟩ ⟨Nat.le_of_ble_eq_true rfl, Nat.le_of_ble_eq_true rfl⟩, htg _ km_SB_append_0, htg _ kv_SB_SB_append_0⟩) (va_recv (ci := 6) (q0 := 0) hK.1 hP rfl rfl) hK hP hD hS hA rfl hl.1 rfl (Nat.le_of_ble_eq_true rfl) d_T_writeRegister_6 ⟨Nat.le_of_ble_eq_true rfl, Nat.le_of_ble_eq_true rfl⟩) hD hS hA (fun u H locs hw hP hD hS => ?_)
  obtain ⟨eq1, nq1, fq1⟩ := u
  obtain ⟨hnq1, hfq1⟩ : (nq1 = 16 ∨ nq1 = 34) ∧ tp_fit fq1 := hw
  have hP : va_P (tp_D E) tp_cl ((aB, .inr (6, [.ref eq1, .int 0, .int xm, .int (xc + 1)])) :: (eq1, .inl (tp_ty E 3, nq1, .inl fq1)) :: (aT, .inr (0, [.ref aY, .ref aS, .ref aB, .int xl, .int xg])) :: fr) H := hP
  have hD : va_D A ((aB, .inr (6, [.ref eq1, .int 0, .int xm, .int (xc + 1)])) :: (eq1, .inl (tp_ty E 3, nq1, .inl fq1)) :: (aT, .inr (0, [.ref aY, .ref aS, .ref aB, .int xl, .int xg])) :: fr) := hD
  refine lv_pop hx hb d_T_writeRegister_9 rfl ?_
  refine lv_aload_n hx hb d_T_writeRegister_10 rfl (lv_at hl 0 rfl) ?_
  refine va_get (D := tp_D E) (ci := 0) (v := .ref aB) (C := qR_T) (T := qF_T) (N := 5) hx hb htg qi_T hown hK.1 hP 2 rfl rfl 2 (by decide) (htg _ kl_T_26) (fun _ h => h) rfl d_T_writeRegister_11 ?_
  refine lv_iload_n hx hb d_T_writeRegister_14 rfl (lv_at hl 1 rfl) ?_
  refine tp_cr (tp_rV (As := [.int xr]) (rest := []) ⟨hx, hb, hml, hown, htg⟩ (a_SB_appI l E ((aT, .inr (0, [.ref aY, .ref aS, .ref aB, .int xl, .int xg])) :: fr) _ aB eq1 xm (xc + 1) nq1 fq1 xr hnq1 hfq1 (tp_wr2 hc)) (⟨callB_of 1 htg (tp_good0 kc_SB_append_1) rfl rfl rfl (htg _ ki_SB) (htg _ kl_T_238) ⟨by decide, by decide, by decide +kernel⟩ ⟨Nat.le_of_ble_eq_true rfl, Nat.le_of_ble_eq_true rfl⟩, htg _ km_SB_append_1, htg _ kv_SB_SB_append_1⟩) (va_recv (ci := 6) (q0 := 0) hK.1 hP rfl rfl) hK hP hD hS hA rfl hl.1 rfl (Nat.le_of_ble_eq_true rfl) d_T_writeRegister_15 ⟨Nat.le_of_ble_eq_true rfl, Nat.le_of_ble_eq_true rfl⟩) hD hS hA (fun u H locs hw hP hD hS => ?_)
  obtain ⟨eq2, nq2, fq2, cq2⟩ := u
  obtain ⟨hnq2, hfq2, hcq2⟩ : (nq2 = 16 ∨ nq2 = 34) ∧ tp_fit fq2 ∧ cq2.toInt = (xc + 1).toInt + (tp_dl xr : Int) := hw
  have hP : va_P (tp_D E) tp_cl ((aB, .inr (6, [.ref eq2, .int 0, .int xm, .int cq2])) :: (eq2, .inl (tp_ty E 3, nq2, .inl fq2)) :: (aT, .inr (0, [.ref aY, .ref aS, .ref aB, .int xl, .int xg])) :: fr) H := hP
  have hD : va_D A ((aB, .inr (6, [.ref eq2, .int 0, .int xm, .int cq2])) :: (eq2, .inl (tp_ty E 3, nq2, .inl fq2)) :: (aT, .inr (0, [.ref aY, .ref aS, .ref aB, .int xl, .int xg])) :: fr) := hD
  refine lv_pop hx hb d_T_writeRegister_18 rfl ?_
  have hP : va_P (tp_D E) tp_cl ((eq2, .inl (tp_ty E 3, nq2, .inl fq2)) :: (aB, .inr (6, [.ref eq2, .int 0, .int xm, .int cq2])) :: (aT, .inr (0, [.ref aY, .ref aS, .ref aB, .int xl, .int xg])) :: fr) _ := tp_mvP 1 rfl hP
  have hD : va_D A ((eq2, .inl (tp_ty E 3, nq2, .inl fq2)) :: (aB, .inr (6, [.ref eq2, .int 0, .int xm, .int cq2])) :: (aT, .inr (0, [.ref aY, .ref aS, .ref aB, .int xl, .int xg])) :: fr) := tp_mvD 1 rfl hD
  have hP : va_P (tp_D E) tp_cl ((aB, .inr (6, [.ref eq2, .int 0, .int xm, .int cq2])) :: (eq2, .inl (tp_ty E 3, nq2, .inl fq2)) :: (aT, .inr (0, [.ref aY, .ref aS, .ref aB, .int xl, .int xg])) :: fr) _ := tp_mvP 1 rfl hP
  have hD : va_D A ((aB, .inr (6, [.ref eq2, .int 0, .int xm, .int cq2])) :: (eq2, .inl (tp_ty E 3, nq2, .inl fq2)) :: (aT, .inr (0, [.ref aY, .ref aS, .ref aB, .int xl, .int xg])) :: fr) := tp_mvD 1 rfl hD
  have hP : va_P (tp_D E) tp_cl ((aT, .inr (0, [.ref aY, .ref aS, .ref aB, .int xl, .int xg])) :: (aB, .inr (6, [.ref eq2, .int 0, .int xm, .int cq2])) :: (eq2, .inl (tp_ty E 3, nq2, .inl fq2)) :: fr) _ := tp_mvP 2 rfl hP
  have hD : va_D A ((aT, .inr (0, [.ref aY, .ref aS, .ref aB, .int xl, .int xg])) :: (aB, .inr (6, [.ref eq2, .int 0, .int xm, .int cq2])) :: (eq2, .inl (tp_ty E 3, nq2, .inl fq2)) :: fr) := tp_mvD 2 rfl hD
  exact W.vret hx hb hr (fun t ht hW => ⟨⟨(eq2, nq2, fq2, cq2), rfl, ⟨hnq2, hfq2, hcq2.trans (tp_wr3 hc)⟩, by rw [ht]; exact hP, hD⟩, hS.F ht⟩) hS.2.2 d_T_writeRegister_19
set_option maxHeartbeats 400000 in
set_option maxRecDepth 100000 in
theorem c_C_registerAt_1 (l : Launch) (E : tp_Env) (fr : va_W) (sz : Nat) (x1 : Int32)  : Met l y_C_registerAt w_C_registerAt ({ frames := 1, cells := 0, slots := 0, locals := 22 }) (va_Pc [.int x1, .int 7] (tp_in E fr sz)) (va_Qi (fun r (_ : Unit) => r = ((x1.toUInt32 >>> (Int32.toUInt32 7 &&& Int32.toUInt32 31)).toInt32 &&& 31)) (fun _ t => tp_out E (va_A fr sz) fr t) (va_A fr sz)) 0 0 (va_A fr sz) := by
  refine Met.ofW (cc := b_C_registerAt) (maxL := 2) (ret := (some .int)) (by decide) rfl ?_
  intro p e s m args below meth c s₁ B hml hv
  obtain ⟨rfl, hsz, hP, hK, hD0⟩ := hv
  have hx := B.exec
  have hb := B.bytes
  have hr := B.returns
  have htg : ∀ w ∈ tp_G, w.before ([.int x1, .int 7] : List Value).toArray s = true := fun w h => atoms_spec (ws := w_C_registerAt) B.pre w (List.mem_cons_of_mem _ h)
  have hown : s.vm.findClass "TwoPass$Code" = some m.cls := findClass_of_methodNamed B.named
  have hlocks := B.notSynchronized
  subst hsz
  have hD := hD0.self (sz := s.heap.size)
  generalize hAe : va_A fr s.heap.size = A at hD hK ⊢
  have hA : ∀ q : Nat, s.heap.size ≤ q → A q := fun q h => by rw [← hAe]; exact Or.inr h
  have hS : va_S A s.heap s.heap [] := va_S.rf
  have hl := lv_entry ([.int x1, .int 7]) (n := 2) (Nat.le_of_ble_eq_true rfl)
  rw [lg_entry_eq]
  generalize (lg_sl ([.int x1, .int 7]) ++ List.replicate (2 - (lg_sl ([.int x1, .int 7])).length) Slot.unset).toArray = ls at hl ⊢
  have hl : lv_has ls 2 [(0, .int x1), (1, .int 7)] := hl
  refine lv_iload_n hx hb d_C_registerAt_0 rfl (lv_at hl 0 rfl) ?_
  refine lv_iload_n hx hb d_C_registerAt_1 rfl (lv_at hl 1 rfl) ?_
  refine lv_iconst (v := 5) hx hb d_C_registerAt_2 (by decide) ?_
  refine tp_ci (tp_rS (As := [.int x1, .int 7, .int 5]) (rest := []) ⟨hx, hb, hml, hown, htg⟩ (c_C_bits_2 l E fr _ x1 ) (⟨callB_of 3 htg (tp_good0 kc_C_bits) rfl rfl rfl (htg _ ki_C) (htg _ kl_C_24) ⟨by decide, by decide, by decide +kernel⟩ ⟨Nat.le_of_ble_eq_true rfl, Nat.le_of_ble_eq_true rfl⟩, htg _ ks_C_bits⟩) hK hP hD hS hA rfl hl.1 rfl (Nat.le_of_ble_eq_true rfl) d_C_registerAt_3 ⟨Nat.le_of_ble_eq_true rfl, Nat.le_of_ble_eq_true rfl⟩) hD hS hA (fun r u H locs hw hP hD hS => ?_)
  subst r
  have hP : va_P (tp_D E) tp_cl (fr) H := hP
  have hD : va_D A (fr) := hD
  exact W.iret (v := ((x1.toUInt32 >>> (Int32.toUInt32 7 &&& Int32.toUInt32 31)).toInt32 &&& 31)) hx hb hr (fun t ht hW => ⟨⟨_, (), rfl, rfl, by rw [ht]; exact hP, hD⟩, hS.F ht⟩) hS.2.2 d_C_registerAt_6
set_option maxHeartbeats 400000 in
set_option maxRecDepth 100000 in
theorem c_C_bits_9 (l : Launch) (E : tp_Env) (fr : va_W) (sz : Nat) (x1 : Int32)  : Met l y_C_bits w_C_bits ({ frames := 0, cells := 0, slots := 0, locals := 0 }) (va_Pc [.int x1, .int 15, .int 5] (tp_in E fr sz)) (va_Qi (fun r (_ : Unit) => r = ((x1.toUInt32 >>> (Int32.toUInt32 15 &&& Int32.toUInt32 31)).toInt32 &&& 31)) (fun _ t => tp_out E (va_A fr sz) fr t) (va_A fr sz)) 0 0 (va_A fr sz) := by
  refine Met.ofW (cc := b_C_bits) (maxL := 3) (ret := (some .int)) (by decide) rfl ?_
  intro p e s m args below meth c s₁ B hml hv
  obtain ⟨rfl, hsz, hP, hK, hD0⟩ := hv
  have hx := B.exec
  have hb := B.bytes
  have hr := B.returns
  have htg : ∀ w ∈ tp_G, w.before ([.int x1, .int 15, .int 5] : List Value).toArray s = true := fun w h => atoms_spec (ws := w_C_bits) B.pre w (List.mem_cons_of_mem _ h)
  have hown : s.vm.findClass "TwoPass$Code" = some m.cls := findClass_of_methodNamed B.named
  have hlocks := B.notSynchronized
  subst hsz
  have hD := hD0.self (sz := s.heap.size)
  generalize hAe : va_A fr s.heap.size = A at hD hK ⊢
  have hA : ∀ q : Nat, s.heap.size ≤ q → A q := fun q h => by rw [← hAe]; exact Or.inr h
  have hS : va_S A s.heap s.heap [] := va_S.rf
  have hl := lv_entry ([.int x1, .int 15, .int 5]) (n := 3) (Nat.le_of_ble_eq_true rfl)
  rw [lg_entry_eq]
  generalize (lg_sl ([.int x1, .int 15, .int 5]) ++ List.replicate (3 - (lg_sl ([.int x1, .int 15, .int 5])).length) Slot.unset).toArray = ls at hl ⊢
  have hl : lv_has ls 3 [(0, .int x1), (1, .int 15), (2, .int 5)] := hl
  refine lv_iload_n hx hb d_C_bits_0 rfl (lv_at hl 0 rfl) ?_
  refine lv_iload_n hx hb d_C_bits_1 rfl (lv_at hl 1 rfl) ?_
  refine lv_iushr (v := (x1.toUInt32 >>> (Int32.toUInt32 15 &&& Int32.toUInt32 31)).toInt32) hx hb d_C_bits_2 rfl ?_
  refine lv_iconst (v := 1) hx hb d_C_bits_3 (by decide) ?_
  refine lv_iload_n hx hb d_C_bits_4 rfl (lv_at hl 2 rfl) ?_
  refine lv_ishl hx hb d_C_bits_5 ?_
  refine tp_topi (v := 32) (by decide) ?_
  refine lv_iconst (v := 1) hx hb d_C_bits_6 (by decide) ?_
  refine lv_isub hx hb d_C_bits_7 ?_
  refine tp_topi (v := 31) (by decide) ?_
  refine lv_iand hx hb d_C_bits_8 ?_
  exact W.iret (v := ((x1.toUInt32 >>> (Int32.toUInt32 15 &&& Int32.toUInt32 31)).toInt32 &&& 31)) hx hb hr (fun t ht hW => ⟨⟨_, (), rfl, rfl, by rw [ht]; exact hP, hD⟩, hS.F ht⟩) hS.2.2 d_C_bits_9
set_option maxHeartbeats 400000 in
set_option maxRecDepth 100000 in
theorem c_C_registerAt_2 (l : Launch) (E : tp_Env) (fr : va_W) (sz : Nat) (x1 : Int32)  : Met l y_C_registerAt w_C_registerAt ({ frames := 1, cells := 0, slots := 0, locals := 22 }) (va_Pc [.int x1, .int 15] (tp_in E fr sz)) (va_Qi (fun r (_ : Unit) => r = ((x1.toUInt32 >>> (Int32.toUInt32 15 &&& Int32.toUInt32 31)).toInt32 &&& 31)) (fun _ t => tp_out E (va_A fr sz) fr t) (va_A fr sz)) 0 0 (va_A fr sz) := by
  refine Met.ofW (cc := b_C_registerAt) (maxL := 2) (ret := (some .int)) (by decide) rfl ?_
  intro p e s m args below meth c s₁ B hml hv
  obtain ⟨rfl, hsz, hP, hK, hD0⟩ := hv
  have hx := B.exec
  have hb := B.bytes
  have hr := B.returns
  have htg : ∀ w ∈ tp_G, w.before ([.int x1, .int 15] : List Value).toArray s = true := fun w h => atoms_spec (ws := w_C_registerAt) B.pre w (List.mem_cons_of_mem _ h)
  have hown : s.vm.findClass "TwoPass$Code" = some m.cls := findClass_of_methodNamed B.named
  have hlocks := B.notSynchronized
  subst hsz
  have hD := hD0.self (sz := s.heap.size)
  generalize hAe : va_A fr s.heap.size = A at hD hK ⊢
  have hA : ∀ q : Nat, s.heap.size ≤ q → A q := fun q h => by rw [← hAe]; exact Or.inr h
  have hS : va_S A s.heap s.heap [] := va_S.rf
  have hl := lv_entry ([.int x1, .int 15]) (n := 2) (Nat.le_of_ble_eq_true rfl)
  rw [lg_entry_eq]
  generalize (lg_sl ([.int x1, .int 15]) ++ List.replicate (2 - (lg_sl ([.int x1, .int 15])).length) Slot.unset).toArray = ls at hl ⊢
  have hl : lv_has ls 2 [(0, .int x1), (1, .int 15)] := hl
  refine lv_iload_n hx hb d_C_registerAt_0 rfl (lv_at hl 0 rfl) ?_
  refine lv_iload_n hx hb d_C_registerAt_1 rfl (lv_at hl 1 rfl) ?_
  refine lv_iconst (v := 5) hx hb d_C_registerAt_2 (by decide) ?_
  refine tp_ci (tp_rS (As := [.int x1, .int 15, .int 5]) (rest := []) ⟨hx, hb, hml, hown, htg⟩ (c_C_bits_9 l E fr _ x1 ) (⟨callB_of 3 htg (tp_good0 kc_C_bits) rfl rfl rfl (htg _ ki_C) (htg _ kl_C_24) ⟨by decide, by decide, by decide +kernel⟩ ⟨Nat.le_of_ble_eq_true rfl, Nat.le_of_ble_eq_true rfl⟩, htg _ ks_C_bits⟩) hK hP hD hS hA rfl hl.1 rfl (Nat.le_of_ble_eq_true rfl) d_C_registerAt_3 ⟨Nat.le_of_ble_eq_true rfl, Nat.le_of_ble_eq_true rfl⟩) hD hS hA (fun r u H locs hw hP hD hS => ?_)
  subst r
  have hP : va_P (tp_D E) tp_cl (fr) H := hP
  have hD : va_D A (fr) := hD
  exact W.iret (v := ((x1.toUInt32 >>> (Int32.toUInt32 15 &&& Int32.toUInt32 31)).toInt32 &&& 31)) hx hb hr (fun t ht hW => ⟨⟨_, (), rfl, rfl, by rw [ht]; exact hP, hD⟩, hS.F ht⟩) hS.2.2 d_C_registerAt_6
set_option maxHeartbeats 400000 in
set_option maxRecDepth 100000 in
theorem c_C_bits_10 (l : Launch) (E : tp_Env) (fr : va_W) (sz : Nat) (x1 : Int32)  : Met l y_C_bits w_C_bits ({ frames := 0, cells := 0, slots := 0, locals := 0 }) (va_Pc [.int x1, .int 20, .int 5] (tp_in E fr sz)) (va_Qi (fun r (_ : Unit) => r = ((x1.toUInt32 >>> (Int32.toUInt32 20 &&& Int32.toUInt32 31)).toInt32 &&& 31)) (fun _ t => tp_out E (va_A fr sz) fr t) (va_A fr sz)) 0 0 (va_A fr sz) := by
  refine Met.ofW (cc := b_C_bits) (maxL := 3) (ret := (some .int)) (by decide) rfl ?_
  intro p e s m args below meth c s₁ B hml hv
  obtain ⟨rfl, hsz, hP, hK, hD0⟩ := hv
  have hx := B.exec
  have hb := B.bytes
  have hr := B.returns
  have htg : ∀ w ∈ tp_G, w.before ([.int x1, .int 20, .int 5] : List Value).toArray s = true := fun w h => atoms_spec (ws := w_C_bits) B.pre w (List.mem_cons_of_mem _ h)
  have hown : s.vm.findClass "TwoPass$Code" = some m.cls := findClass_of_methodNamed B.named
  have hlocks := B.notSynchronized
  subst hsz
  have hD := hD0.self (sz := s.heap.size)
  generalize hAe : va_A fr s.heap.size = A at hD hK ⊢
  have hA : ∀ q : Nat, s.heap.size ≤ q → A q := fun q h => by rw [← hAe]; exact Or.inr h
  have hS : va_S A s.heap s.heap [] := va_S.rf
  have hl := lv_entry ([.int x1, .int 20, .int 5]) (n := 3) (Nat.le_of_ble_eq_true rfl)
  rw [lg_entry_eq]
  generalize (lg_sl ([.int x1, .int 20, .int 5]) ++ List.replicate (3 - (lg_sl ([.int x1, .int 20, .int 5])).length) Slot.unset).toArray = ls at hl ⊢
  have hl : lv_has ls 3 [(0, .int x1), (1, .int 20), (2, .int 5)] := hl
  refine lv_iload_n hx hb d_C_bits_0 rfl (lv_at hl 0 rfl) ?_
  refine lv_iload_n hx hb d_C_bits_1 rfl (lv_at hl 1 rfl) ?_
  refine lv_iushr (v := (x1.toUInt32 >>> (Int32.toUInt32 20 &&& Int32.toUInt32 31)).toInt32) hx hb d_C_bits_2 rfl ?_
  refine lv_iconst (v := 1) hx hb d_C_bits_3 (by decide) ?_
  refine lv_iload_n hx hb d_C_bits_4 rfl (lv_at hl 2 rfl) ?_
  refine lv_ishl hx hb d_C_bits_5 ?_
  refine tp_topi (v := 32) (by decide) ?_
  refine lv_iconst (v := 1) hx hb d_C_bits_6 (by decide) ?_
  refine lv_isub hx hb d_C_bits_7 ?_
  refine tp_topi (v := 31) (by decide) ?_
  refine lv_iand hx hb d_C_bits_8 ?_
  exact W.iret (v := ((x1.toUInt32 >>> (Int32.toUInt32 20 &&& Int32.toUInt32 31)).toInt32 &&& 31)) hx hb hr (fun t ht hW => ⟨⟨_, (), rfl, rfl, by rw [ht]; exact hP, hD⟩, hS.F ht⟩) hS.2.2 d_C_bits_9
set_option maxHeartbeats 400000 in
set_option maxRecDepth 100000 in
theorem c_C_registerAt_3 (l : Launch) (E : tp_Env) (fr : va_W) (sz : Nat) (x1 : Int32)  : Met l y_C_registerAt w_C_registerAt ({ frames := 1, cells := 0, slots := 0, locals := 22 }) (va_Pc [.int x1, .int 20] (tp_in E fr sz)) (va_Qi (fun r (_ : Unit) => r = ((x1.toUInt32 >>> (Int32.toUInt32 20 &&& Int32.toUInt32 31)).toInt32 &&& 31)) (fun _ t => tp_out E (va_A fr sz) fr t) (va_A fr sz)) 0 0 (va_A fr sz) := by
  refine Met.ofW (cc := b_C_registerAt) (maxL := 2) (ret := (some .int)) (by decide) rfl ?_
  intro p e s m args below meth c s₁ B hml hv
  obtain ⟨rfl, hsz, hP, hK, hD0⟩ := hv
  have hx := B.exec
  have hb := B.bytes
  have hr := B.returns
  have htg : ∀ w ∈ tp_G, w.before ([.int x1, .int 20] : List Value).toArray s = true := fun w h => atoms_spec (ws := w_C_registerAt) B.pre w (List.mem_cons_of_mem _ h)
  have hown : s.vm.findClass "TwoPass$Code" = some m.cls := findClass_of_methodNamed B.named
  have hlocks := B.notSynchronized
  subst hsz
  have hD := hD0.self (sz := s.heap.size)
  generalize hAe : va_A fr s.heap.size = A at hD hK ⊢
  have hA : ∀ q : Nat, s.heap.size ≤ q → A q := fun q h => by rw [← hAe]; exact Or.inr h
  have hS : va_S A s.heap s.heap [] := va_S.rf
  have hl := lv_entry ([.int x1, .int 20]) (n := 2) (Nat.le_of_ble_eq_true rfl)
  rw [lg_entry_eq]
  generalize (lg_sl ([.int x1, .int 20]) ++ List.replicate (2 - (lg_sl ([.int x1, .int 20])).length) Slot.unset).toArray = ls at hl ⊢
  have hl : lv_has ls 2 [(0, .int x1), (1, .int 20)] := hl
  refine lv_iload_n hx hb d_C_registerAt_0 rfl (lv_at hl 0 rfl) ?_
  refine lv_iload_n hx hb d_C_registerAt_1 rfl (lv_at hl 1 rfl) ?_
  refine lv_iconst (v := 5) hx hb d_C_registerAt_2 (by decide) ?_
  refine tp_ci (tp_rS (As := [.int x1, .int 20, .int 5]) (rest := []) ⟨hx, hb, hml, hown, htg⟩ (c_C_bits_10 l E fr _ x1 ) (⟨callB_of 3 htg (tp_good0 kc_C_bits) rfl rfl rfl (htg _ ki_C) (htg _ kl_C_24) ⟨by decide, by decide, by decide +kernel⟩ ⟨Nat.le_of_ble_eq_true rfl, Nat.le_of_ble_eq_true rfl⟩, htg _ ks_C_bits⟩) hK hP hD hS hA rfl hl.1 rfl (Nat.le_of_ble_eq_true rfl) d_C_registerAt_3 ⟨Nat.le_of_ble_eq_true rfl, Nat.le_of_ble_eq_true rfl⟩) hD hS hA (fun r u H locs hw hP hD hS => ?_)
  subst r
  have hP : va_P (tp_D E) tp_cl (fr) H := hP
  have hD : va_D A (fr) := hD
  exact W.iret (v := ((x1.toUInt32 >>> (Int32.toUInt32 20 &&& Int32.toUInt32 31)).toInt32 &&& 31)) hx hb hr (fun t ht hW => ⟨⟨_, (), rfl, rfl, by rw [ht]; exact hP, hD⟩, hS.F ht⟩) hS.2.2 d_C_registerAt_6
set_option maxHeartbeats 4000000 in
set_option maxRecDepth 100000 in
theorem a_T_writeOperand (l : Launch) (E : tp_Env) (fr : va_W) (sz : Nat) (aT aY aS : Nat) (xl xg : Int32) (aB ab : Nat) (xm xc : Int32) (nb : Nat) (fb : Nat → Int32) (ou : Nat) (hou : ou < 47) (xk xw : Int32) (hn : nb = 16 ∨ nb = 34) (hf : tp_fit fb) (hc : 0 ≤ xc.toInt ∧ xc.toInt + (tp_ol ou xk xw : Int) ≤ 34) (hk : ¬ 255 < xk) : Met l y_T_writeOperand w_T_writeOperand ({ frames := 7, cells := 2, slots := 68, locals := 209 }) (va_Pc [.ref aT, .ref (tp_ad E ou), .int xk, .int xw] (tp_in E ((aT, .inr (0, [.ref aY, .ref aS, .ref aB, .int xl, .int xg])) :: (aB, .inr (6, [.ref ab, .int 0, .int xm, .int xc])) :: (ab, .inl (tp_ty E 3, nb, .inl fb)) :: fr) sz)) (va_Qv (fun (u : Nat × Nat × (Nat → Int32) × Int32) => (u.2.1 = 16 ∨ u.2.1 = 34) ∧ tp_fit u.2.2.1 ∧ u.2.2.2.toInt = xc.toInt + (tp_ol ou xk xw : Int)) (fun u t => tp_out E (va_A ((aT, .inr (0, [.ref aY, .ref aS, .ref aB, .int xl, .int xg])) :: (aB, .inr (6, [.ref ab, .int 0, .int xm, .int xc])) :: (ab, .inl (tp_ty E 3, nb, .inl fb)) :: fr) sz) ((aT, .inr (0, [.ref aY, .ref aS, .ref aB, .int xl, .int xg])) :: (aB, .inr (6, [.ref u.1, .int 0, .int xm, .int u.2.2.2])) :: (u.1, .inl (tp_ty E 3, u.2.1, .inl u.2.2.1)) :: fr) t) (va_A ((aT, .inr (0, [.ref aY, .ref aS, .ref aB, .int xl, .int xg])) :: (aB, .inr (6, [.ref ab, .int 0, .int xm, .int xc])) :: (ab, .inl (tp_ty E 3, nb, .inl fb)) :: fr) sz)) 2 68 (va_A ((aT, .inr (0, [.ref aY, .ref aS, .ref aB, .int xl, .int xg])) :: (aB, .inr (6, [.ref ab, .int 0, .int xm, .int xc])) :: (ab, .inl (tp_ty E 3, nb, .inl fb)) :: fr) sz) := by
  refine Met.ofW (cc := b_T_writeOperand) (maxL := 4) (ret := none) (by decide) rfl ?_
  intro p e s m args below meth c s₁ B hml hv
  obtain ⟨rfl, hsz, hP, hK, hD0⟩ := hv
  have hx := B.exec
  have hb := B.bytes
  have hr := B.returns
  have htg : ∀ w ∈ tp_G, w.before ([.ref aT, .ref (tp_ad E ou), .int xk, .int xw] : List Value).toArray s = true := fun w h => atoms_spec (ws := w_T_writeOperand) B.pre w (List.mem_cons_of_mem _ h)
  have hown : s.vm.findClass "TwoPass" = some m.cls := findClass_of_methodNamed B.named
  have hlocks := B.notSynchronized
  subst hsz
  have hD := hD0.self (sz := s.heap.size)
  generalize hAe : va_A ((aT, .inr (0, [.ref aY, .ref aS, .ref aB, .int xl, .int xg])) :: (aB, .inr (6, [.ref ab, .int 0, .int xm, .int xc])) :: (ab, .inl (tp_ty E 3, nb, .inl fb)) :: fr) s.heap.size = A at hD hK ⊢
  have hA : ∀ q : Nat, s.heap.size ≤ q → A q := fun q h => by rw [← hAe]; exact Or.inr h
  have hS : va_S A s.heap s.heap [] := va_S.rf
  have hl := lv_entry ([.ref aT, .ref (tp_ad E ou), .int xk, .int xw]) (n := 4) (Nat.le_of_ble_eq_true rfl)
  rw [lg_entry_eq]
  generalize (lg_sl ([.ref aT, .ref (tp_ad E ou), .int xk, .int xw]) ++ List.replicate (4 - (lg_sl ([.ref aT, .ref (tp_ad E ou), .int xk, .int xw])).length) Slot.unset).toArray = ls at hl ⊢
  have hl : lv_has ls 4 [(0, .ref aT), (1, .ref (tp_ad E ou)), (2, .int xk), (3, .int xw)] := hl
  refine lv_iload_n hx hb d_T_writeOperand_0 rfl (lv_at hl 2 rfl) ?_
  by_cases h1 : xk = 100
  · refine lv_lookup (off := 51) (tgt := 52) hx hb d_T_writeOperand_1 (by decide) (by rw [h1]; decide) (by decide) ?_
    refine lv_aload_n hx hb d_T_writeOperand_52 rfl (lv_at hl 0 rfl) ?_
    refine lv_iload_n hx hb d_T_writeOperand_53 rfl (lv_at hl 3 rfl) ?_
    refine lv_bipush (v := 7) hx hb d_T_writeOperand_54 (by decide) ?_
    refine tp_ci (tp_rS (As := [.int xw, .int 7]) (rest := [.ref aT]) ⟨hx, hb, hml, hown, htg⟩ (c_C_registerAt_1 l E ((aT, .inr (0, [.ref aY, .ref aS, .ref aB, .int xl, .int xg])) :: (aB, .inr (6, [.ref ab, .int 0, .int xm, .int xc])) :: (ab, .inl (tp_ty E 3, nb, .inl fb)) :: fr) _ xw ) (⟨callB_of 2 htg (tp_good0 kc_C_registerAt) rfl rfl rfl (htg _ ki_C) (htg _ kl_T_229) ⟨by decide, by decide, by decide +kernel⟩ ⟨Nat.le_of_ble_eq_true rfl, Nat.le_of_ble_eq_true rfl⟩, htg _ ks_C_registerAt⟩) hK hP hD hS hA rfl hl.1 rfl (Nat.le_of_ble_eq_true rfl) d_T_writeOperand_56 ⟨Nat.le_of_ble_eq_true rfl, Nat.le_of_ble_eq_true rfl⟩) hD hS hA (fun r u H locs hw hP hD hS => ?_)
    subst r
    have hP : va_P (tp_D E) tp_cl ((aT, .inr (0, [.ref aY, .ref aS, .ref aB, .int xl, .int xg])) :: (aB, .inr (6, [.ref ab, .int 0, .int xm, .int xc])) :: (ab, .inl (tp_ty E 3, nb, .inl fb)) :: fr) H := hP
    have hD : va_D A ((aT, .inr (0, [.ref aY, .ref aS, .ref aB, .int xl, .int xg])) :: (aB, .inr (6, [.ref ab, .int 0, .int xm, .int xc])) :: (ab, .inl (tp_ty E 3, nb, .inl fb)) :: fr) := hD
    refine tp_cv (tp_rV (As := [.int ((xw.toUInt32 >>> (Int32.toUInt32 7 &&& Int32.toUInt32 31)).toInt32 &&& 31)]) (rest := []) ⟨hx, hb, hml, hown, htg⟩ (a_T_writeRegister l E fr _ aT aY aS xl xg aB ab xm xc nb fb ((xw.toUInt32 >>> (Int32.toUInt32 7 &&& Int32.toUInt32 31)).toInt32 &&& 31) hn hf (tp_wo1 hc (by unfold tp_ol; rw [if_pos h1]))) (⟨callB_of 1 htg (tp_good0 kc_T_writeRegister) rfl rfl rfl (htg _ ki_T) (htg _ kl_T_232) ⟨by decide, by decide, by decide +kernel⟩ ⟨Nat.le_of_ble_eq_true rfl, Nat.le_of_ble_eq_true rfl⟩, htg _ km_T_writeRegister, htg _ kp_T_writeRegister⟩) (va_recv (ci := 0) (q0 := 0) hK.1 hP rfl rfl) hK hP hD hS hA rfl hl.1 rfl (Nat.le_of_ble_eq_true rfl) d_T_writeOperand_59 ⟨Nat.le_of_ble_eq_true rfl, Nat.le_of_ble_eq_true rfl⟩) hD hS hA (fun u H locs hw hP hD hS => ?_)
    obtain ⟨eq1, nq1, fq1, cq1⟩ := u
    obtain ⟨hnq1, hfq1, hcq1⟩ : (nq1 = 16 ∨ nq1 = 34) ∧ tp_fit fq1 ∧ cq1.toInt = xc.toInt + 1 + (tp_dl ((xw.toUInt32 >>> (Int32.toUInt32 7 &&& Int32.toUInt32 31)).toInt32 &&& 31) : Int) := hw
    have hP : va_P (tp_D E) tp_cl ((aT, .inr (0, [.ref aY, .ref aS, .ref aB, .int xl, .int xg])) :: (aB, .inr (6, [.ref eq1, .int 0, .int xm, .int cq1])) :: (eq1, .inl (tp_ty E 3, nq1, .inl fq1)) :: fr) H := hP
    have hD : va_D A ((aT, .inr (0, [.ref aY, .ref aS, .ref aB, .int xl, .int xg])) :: (aB, .inr (6, [.ref eq1, .int 0, .int xm, .int cq1])) :: (eq1, .inl (tp_ty E 3, nq1, .inl fq1)) :: fr) := hD
    refine lv_goto (tgt := 119) hx hb d_T_writeOperand_62 (by decide) ?_
    exact W.vret hx hb hr (fun t ht hW => ⟨⟨(eq1, nq1, fq1, cq1), rfl, ⟨hnq1, hfq1, tp_wo4 hc (by unfold tp_ol; rw [if_pos h1]) hcq1⟩, by rw [ht]; exact hP, hD⟩, hS.F ht⟩) hS.2.2 d_T_writeOperand_119
  · by_cases h2 : xk = 105
    · refine lv_lookup (off := 90) (tgt := 91) hx hb d_T_writeOperand_1 (by decide) (by rw [h2]; decide) (by decide) ?_
      refine lv_aload_n hx hb d_T_writeOperand_91 rfl (lv_at hl 0 rfl) ?_
      refine va_get (D := tp_D E) (ci := 0) (v := .ref aB) (C := qR_T) (T := qF_T) (N := 5) hx hb htg qi_T hown hK.1 hP 0 rfl rfl 2 (by decide) (htg _ kl_T_26) (fun _ h => h) rfl d_T_writeOperand_92 ?_
      refine lv_aload_n hx hb d_T_writeOperand_95 rfl (lv_at hl 1 rfl) ?_
      refine vk_getf (v := .int (tp_lay.getD ou 0)) hx hb (hK.lay (i := ou) hou) hS hown (htg _ kl_T_181) (fun _ h => h) d_T_writeOperand_96 ?_
      refine lv_iload_n hx hb d_T_writeOperand_99 rfl (lv_at hl 3 rfl) ?_
      refine tp_ci (tp_rS (As := [.int (tp_lay.getD ou 0), .int xw]) (rest := [.ref aB]) ⟨hx, hb, hml, hown, htg⟩ (a_C_numberOf l E ((aT, .inr (0, [.ref aY, .ref aS, .ref aB, .int xl, .int xg])) :: (aB, .inr (6, [.ref ab, .int 0, .int xm, .int xc])) :: (ab, .inl (tp_ty E 3, nb, .inl fb)) :: fr) _ (tp_lay.getD ou 0) xw ) (⟨callB_of 2 htg (tp_good0 kc_C_numberOf) rfl rfl rfl (htg _ ki_C) (htg _ kl_T_235) ⟨by decide, by decide, by decide +kernel⟩ ⟨Nat.le_of_ble_eq_true rfl, Nat.le_of_ble_eq_true rfl⟩, htg _ ks_C_numberOf⟩) hK hP hD hS hA rfl hl.1 rfl (Nat.le_of_ble_eq_true rfl) d_T_writeOperand_100 ⟨Nat.le_of_ble_eq_true rfl, Nat.le_of_ble_eq_true rfl⟩) hD hS hA (fun r u H locs hw hP hD hS => ?_)
      subst r
      have hP : va_P (tp_D E) tp_cl ((aT, .inr (0, [.ref aY, .ref aS, .ref aB, .int xl, .int xg])) :: (aB, .inr (6, [.ref ab, .int 0, .int xm, .int xc])) :: (ab, .inl (tp_ty E 3, nb, .inl fb)) :: fr) H := hP
      have hD : va_D A ((aT, .inr (0, [.ref aY, .ref aS, .ref aB, .int xl, .int xg])) :: (aB, .inr (6, [.ref ab, .int 0, .int xm, .int xc])) :: (ab, .inl (tp_ty E 3, nb, .inl fb)) :: fr) := hD
      have hP : va_P (tp_D E) tp_cl ((ab, .inl (tp_ty E 3, nb, .inl fb)) :: (aT, .inr (0, [.ref aY, .ref aS, .ref aB, .int xl, .int xg])) :: (aB, .inr (6, [.ref ab, .int 0, .int xm, .int xc])) :: fr) _ := tp_mvP 2 rfl hP
      have hD : va_D A ((ab, .inl (tp_ty E 3, nb, .inl fb)) :: (aT, .inr (0, [.ref aY, .ref aS, .ref aB, .int xl, .int xg])) :: (aB, .inr (6, [.ref ab, .int 0, .int xm, .int xc])) :: fr) := tp_mvD 2 rfl hD
      have hP : va_P (tp_D E) tp_cl ((aB, .inr (6, [.ref ab, .int 0, .int xm, .int xc])) :: (ab, .inl (tp_ty E 3, nb, .inl fb)) :: (aT, .inr (0, [.ref aY, .ref aS, .ref aB, .int xl, .int xg])) :: fr) _ := tp_mvP 2 rfl hP
      have hD : va_D A ((aB, .inr (6, [.ref ab, .int 0, .int xm, .int xc])) :: (ab, .inl (tp_ty E 3, nb, .inl fb)) :: (aT, .inr (0, [.ref aY, .ref aS, .ref aB, .int xl, .int xg])) :: fr) := tp_mvD 2 rfl hD
      refine tp_cr (tp_rV (As := [.int (tp_num (tp_lay.getD ou 0) xw)]) (rest := []) ⟨hx, hb, hml, hown, htg⟩ (a_SB_appI l E ((aT, .inr (0, [.ref aY, .ref aS, .ref aB, .int xl, .int xg])) :: fr) _ aB ab xm xc nb fb (tp_num (tp_lay.getD ou 0) xw) hn hf (tp_wo2 hc (by unfold tp_ol; rw [if_neg h1, if_pos h2]))) (⟨callB_of 1 htg (tp_good0 kc_SB_append_1) rfl rfl rfl (htg _ ki_SB) (htg _ kl_T_238) ⟨by decide, by decide, by decide +kernel⟩ ⟨Nat.le_of_ble_eq_true rfl, Nat.le_of_ble_eq_true rfl⟩, htg _ km_SB_append_1, htg _ kv_SB_SB_append_1⟩) (va_recv (ci := 6) (q0 := 0) hK.1 hP rfl rfl) hK hP hD hS hA rfl hl.1 rfl (Nat.le_of_ble_eq_true rfl) d_T_writeOperand_103 ⟨Nat.le_of_ble_eq_true rfl, Nat.le_of_ble_eq_true rfl⟩) hD hS hA (fun u H locs hw hP hD hS => ?_)
      obtain ⟨eq1, nq1, fq1, cq1⟩ := u
      obtain ⟨hnq1, hfq1, hcq1⟩ : (nq1 = 16 ∨ nq1 = 34) ∧ tp_fit fq1 ∧ cq1.toInt = xc.toInt + (tp_dl (tp_num (tp_lay.getD ou 0) xw) : Int) := hw
      have hP : va_P (tp_D E) tp_cl ((aB, .inr (6, [.ref eq1, .int 0, .int xm, .int cq1])) :: (eq1, .inl (tp_ty E 3, nq1, .inl fq1)) :: (aT, .inr (0, [.ref aY, .ref aS, .ref aB, .int xl, .int xg])) :: fr) H := hP
      have hD : va_D A ((aB, .inr (6, [.ref eq1, .int 0, .int xm, .int cq1])) :: (eq1, .inl (tp_ty E 3, nq1, .inl fq1)) :: (aT, .inr (0, [.ref aY, .ref aS, .ref aB, .int xl, .int xg])) :: fr) := hD
      refine lv_pop hx hb d_T_writeOperand_106 rfl ?_
      refine lv_goto (tgt := 119) hx hb d_T_writeOperand_107 (by decide) ?_
      have hP : va_P (tp_D E) tp_cl ((eq1, .inl (tp_ty E 3, nq1, .inl fq1)) :: (aB, .inr (6, [.ref eq1, .int 0, .int xm, .int cq1])) :: (aT, .inr (0, [.ref aY, .ref aS, .ref aB, .int xl, .int xg])) :: fr) _ := tp_mvP 1 rfl hP
      have hD : va_D A ((eq1, .inl (tp_ty E 3, nq1, .inl fq1)) :: (aB, .inr (6, [.ref eq1, .int 0, .int xm, .int cq1])) :: (aT, .inr (0, [.ref aY, .ref aS, .ref aB, .int xl, .int xg])) :: fr) := tp_mvD 1 rfl hD
      have hP : va_P (tp_D E) tp_cl ((aB, .inr (6, [.ref eq1, .int 0, .int xm, .int cq1])) :: (eq1, .inl (tp_ty E 3, nq1, .inl fq1)) :: (aT, .inr (0, [.ref aY, .ref aS, .ref aB, .int xl, .int xg])) :: fr) _ := tp_mvP 1 rfl hP
      have hD : va_D A ((aB, .inr (6, [.ref eq1, .int 0, .int xm, .int cq1])) :: (eq1, .inl (tp_ty E 3, nq1, .inl fq1)) :: (aT, .inr (0, [.ref aY, .ref aS, .ref aB, .int xl, .int xg])) :: fr) := tp_mvD 1 rfl hD
      have hP : va_P (tp_D E) tp_cl ((aT, .inr (0, [.ref aY, .ref aS, .ref aB, .int xl, .int xg])) :: (aB, .inr (6, [.ref eq1, .int 0, .int xm, .int cq1])) :: (eq1, .inl (tp_ty E 3, nq1, .inl fq1)) :: fr) _ := tp_mvP 2 rfl hP
      have hD : va_D A ((aT, .inr (0, [.ref aY, .ref aS, .ref aB, .int xl, .int xg])) :: (aB, .inr (6, [.ref eq1, .int 0, .int xm, .int cq1])) :: (eq1, .inl (tp_ty E 3, nq1, .inl fq1)) :: fr) := tp_mvD 2 rfl hD
      exact tp_widen (k := 2) (n := 68) (Nat.le_of_ble_eq_true rfl) (Nat.le_of_ble_eq_true rfl) (W.vret hx hb hr (fun t ht hW => ⟨⟨(eq1, nq1, fq1, cq1), rfl, ⟨hnq1, hfq1, tp_wo5 hc (by unfold tp_ol; rw [if_neg h1, if_pos h2]) hcq1⟩, by rw [ht]; exact hP, hD⟩, hS.F ht⟩) hS.2.2 d_T_writeOperand_119)
    · by_cases h3 : xk = 108
      · refine lv_lookup (off := 90) (tgt := 91) hx hb d_T_writeOperand_1 (by decide) (by rw [h3]; decide) (by decide) ?_
        refine lv_aload_n hx hb d_T_writeOperand_91 rfl (lv_at hl 0 rfl) ?_
        refine va_get (D := tp_D E) (ci := 0) (v := .ref aB) (C := qR_T) (T := qF_T) (N := 5) hx hb htg qi_T hown hK.1 hP 0 rfl rfl 2 (by decide) (htg _ kl_T_26) (fun _ h => h) rfl d_T_writeOperand_92 ?_
        refine lv_aload_n hx hb d_T_writeOperand_95 rfl (lv_at hl 1 rfl) ?_
        refine vk_getf (v := .int (tp_lay.getD ou 0)) hx hb (hK.lay (i := ou) hou) hS hown (htg _ kl_T_181) (fun _ h => h) d_T_writeOperand_96 ?_
        refine lv_iload_n hx hb d_T_writeOperand_99 rfl (lv_at hl 3 rfl) ?_
        refine tp_ci (tp_rS (As := [.int (tp_lay.getD ou 0), .int xw]) (rest := [.ref aB]) ⟨hx, hb, hml, hown, htg⟩ (a_C_numberOf l E ((aT, .inr (0, [.ref aY, .ref aS, .ref aB, .int xl, .int xg])) :: (aB, .inr (6, [.ref ab, .int 0, .int xm, .int xc])) :: (ab, .inl (tp_ty E 3, nb, .inl fb)) :: fr) _ (tp_lay.getD ou 0) xw ) (⟨callB_of 2 htg (tp_good0 kc_C_numberOf) rfl rfl rfl (htg _ ki_C) (htg _ kl_T_235) ⟨by decide, by decide, by decide +kernel⟩ ⟨Nat.le_of_ble_eq_true rfl, Nat.le_of_ble_eq_true rfl⟩, htg _ ks_C_numberOf⟩) hK hP hD hS hA rfl hl.1 rfl (Nat.le_of_ble_eq_true rfl) d_T_writeOperand_100 ⟨Nat.le_of_ble_eq_true rfl, Nat.le_of_ble_eq_true rfl⟩) hD hS hA (fun r u H locs hw hP hD hS => ?_)
        subst r
        have hP : va_P (tp_D E) tp_cl ((aT, .inr (0, [.ref aY, .ref aS, .ref aB, .int xl, .int xg])) :: (aB, .inr (6, [.ref ab, .int 0, .int xm, .int xc])) :: (ab, .inl (tp_ty E 3, nb, .inl fb)) :: fr) H := hP
        have hD : va_D A ((aT, .inr (0, [.ref aY, .ref aS, .ref aB, .int xl, .int xg])) :: (aB, .inr (6, [.ref ab, .int 0, .int xm, .int xc])) :: (ab, .inl (tp_ty E 3, nb, .inl fb)) :: fr) := hD
        have hP : va_P (tp_D E) tp_cl ((ab, .inl (tp_ty E 3, nb, .inl fb)) :: (aT, .inr (0, [.ref aY, .ref aS, .ref aB, .int xl, .int xg])) :: (aB, .inr (6, [.ref ab, .int 0, .int xm, .int xc])) :: fr) _ := tp_mvP 2 rfl hP
        have hD : va_D A ((ab, .inl (tp_ty E 3, nb, .inl fb)) :: (aT, .inr (0, [.ref aY, .ref aS, .ref aB, .int xl, .int xg])) :: (aB, .inr (6, [.ref ab, .int 0, .int xm, .int xc])) :: fr) := tp_mvD 2 rfl hD
        have hP : va_P (tp_D E) tp_cl ((aB, .inr (6, [.ref ab, .int 0, .int xm, .int xc])) :: (ab, .inl (tp_ty E 3, nb, .inl fb)) :: (aT, .inr (0, [.ref aY, .ref aS, .ref aB, .int xl, .int xg])) :: fr) _ := tp_mvP 2 rfl hP
        have hD : va_D A ((aB, .inr (6, [.ref ab, .int 0, .int xm, .int xc])) :: (ab, .inl (tp_ty E 3, nb, .inl fb)) :: (aT, .inr (0, [.ref aY, .ref aS, .ref aB, .int xl, .int xg])) :: fr) := tp_mvD 2 rfl hD
        refine tp_cr (tp_rV (As := [.int (tp_num (tp_lay.getD ou 0) xw)]) (rest := []) ⟨hx, hb, hml, hown, htg⟩ (a_SB_appI l E ((aT, .inr (0, [.ref aY, .ref aS, .ref aB, .int xl, .int xg])) :: fr) _ aB ab xm xc nb fb (tp_num (tp_lay.getD ou 0) xw) hn hf (tp_wo2 hc (by unfold tp_ol; rw [if_neg h1, if_neg h2, if_pos h3]))) (⟨callB_of 1 htg (tp_good0 kc_SB_append_1) rfl rfl rfl (htg _ ki_SB) (htg _ kl_T_238) ⟨by decide, by decide, by decide +kernel⟩ ⟨Nat.le_of_ble_eq_true rfl, Nat.le_of_ble_eq_true rfl⟩, htg _ km_SB_append_1, htg _ kv_SB_SB_append_1⟩) (va_recv (ci := 6) (q0 := 0) hK.1 hP rfl rfl) hK hP hD hS hA rfl hl.1 rfl (Nat.le_of_ble_eq_true rfl) d_T_writeOperand_103 ⟨Nat.le_of_ble_eq_true rfl, Nat.le_of_ble_eq_true rfl⟩) hD hS hA (fun u H locs hw hP hD hS => ?_)
        obtain ⟨eq1, nq1, fq1, cq1⟩ := u
        obtain ⟨hnq1, hfq1, hcq1⟩ : (nq1 = 16 ∨ nq1 = 34) ∧ tp_fit fq1 ∧ cq1.toInt = xc.toInt + (tp_dl (tp_num (tp_lay.getD ou 0) xw) : Int) := hw
        have hP : va_P (tp_D E) tp_cl ((aB, .inr (6, [.ref eq1, .int 0, .int xm, .int cq1])) :: (eq1, .inl (tp_ty E 3, nq1, .inl fq1)) :: (aT, .inr (0, [.ref aY, .ref aS, .ref aB, .int xl, .int xg])) :: fr) H := hP
        have hD : va_D A ((aB, .inr (6, [.ref eq1, .int 0, .int xm, .int cq1])) :: (eq1, .inl (tp_ty E 3, nq1, .inl fq1)) :: (aT, .inr (0, [.ref aY, .ref aS, .ref aB, .int xl, .int xg])) :: fr) := hD
        refine lv_pop hx hb d_T_writeOperand_106 rfl ?_
        refine lv_goto (tgt := 119) hx hb d_T_writeOperand_107 (by decide) ?_
        have hP : va_P (tp_D E) tp_cl ((eq1, .inl (tp_ty E 3, nq1, .inl fq1)) :: (aB, .inr (6, [.ref eq1, .int 0, .int xm, .int cq1])) :: (aT, .inr (0, [.ref aY, .ref aS, .ref aB, .int xl, .int xg])) :: fr) _ := tp_mvP 1 rfl hP
        have hD : va_D A ((eq1, .inl (tp_ty E 3, nq1, .inl fq1)) :: (aB, .inr (6, [.ref eq1, .int 0, .int xm, .int cq1])) :: (aT, .inr (0, [.ref aY, .ref aS, .ref aB, .int xl, .int xg])) :: fr) := tp_mvD 1 rfl hD
        have hP : va_P (tp_D E) tp_cl ((aB, .inr (6, [.ref eq1, .int 0, .int xm, .int cq1])) :: (eq1, .inl (tp_ty E 3, nq1, .inl fq1)) :: (aT, .inr (0, [.ref aY, .ref aS, .ref aB, .int xl, .int xg])) :: fr) _ := tp_mvP 1 rfl hP
        have hD : va_D A ((aB, .inr (6, [.ref eq1, .int 0, .int xm, .int cq1])) :: (eq1, .inl (tp_ty E 3, nq1, .inl fq1)) :: (aT, .inr (0, [.ref aY, .ref aS, .ref aB, .int xl, .int xg])) :: fr) := tp_mvD 1 rfl hD
        have hP : va_P (tp_D E) tp_cl ((aT, .inr (0, [.ref aY, .ref aS, .ref aB, .int xl, .int xg])) :: (aB, .inr (6, [.ref eq1, .int 0, .int xm, .int cq1])) :: (eq1, .inl (tp_ty E 3, nq1, .inl fq1)) :: fr) _ := tp_mvP 2 rfl hP
        have hD : va_D A ((aT, .inr (0, [.ref aY, .ref aS, .ref aB, .int xl, .int xg])) :: (aB, .inr (6, [.ref eq1, .int 0, .int xm, .int cq1])) :: (eq1, .inl (tp_ty E 3, nq1, .inl fq1)) :: fr) := tp_mvD 2 rfl hD
        exact tp_widen (k := 2) (n := 68) (Nat.le_of_ble_eq_true rfl) (Nat.le_of_ble_eq_true rfl) (W.vret hx hb hr (fun t ht hW => ⟨⟨(eq1, nq1, fq1, cq1), rfl, ⟨hnq1, hfq1, tp_wo5 hc (by unfold tp_ol; rw [if_neg h1, if_neg h2, if_pos h3]) hcq1⟩, by rw [ht]; exact hP, hD⟩, hS.F ht⟩) hS.2.2 d_T_writeOperand_119)
      · by_cases h4 : xk = 115
        · refine lv_lookup (off := 64) (tgt := 65) hx hb d_T_writeOperand_1 (by decide) (by rw [h4]; decide) (by decide) ?_
          refine lv_aload_n hx hb d_T_writeOperand_65 rfl (lv_at hl 0 rfl) ?_
          refine lv_iload_n hx hb d_T_writeOperand_66 rfl (lv_at hl 3 rfl) ?_
          refine lv_bipush (v := 15) hx hb d_T_writeOperand_67 (by decide) ?_
          refine tp_ci (tp_rS (As := [.int xw, .int 15]) (rest := [.ref aT]) ⟨hx, hb, hml, hown, htg⟩ (c_C_registerAt_2 l E ((aT, .inr (0, [.ref aY, .ref aS, .ref aB, .int xl, .int xg])) :: (aB, .inr (6, [.ref ab, .int 0, .int xm, .int xc])) :: (ab, .inl (tp_ty E 3, nb, .inl fb)) :: fr) _ xw ) (⟨callB_of 2 htg (tp_good0 kc_C_registerAt) rfl rfl rfl (htg _ ki_C) (htg _ kl_T_229) ⟨by decide, by decide, by decide +kernel⟩ ⟨Nat.le_of_ble_eq_true rfl, Nat.le_of_ble_eq_true rfl⟩, htg _ ks_C_registerAt⟩) hK hP hD hS hA rfl hl.1 rfl (Nat.le_of_ble_eq_true rfl) d_T_writeOperand_69 ⟨Nat.le_of_ble_eq_true rfl, Nat.le_of_ble_eq_true rfl⟩) hD hS hA (fun r u H locs hw hP hD hS => ?_)
          subst r
          have hP : va_P (tp_D E) tp_cl ((aT, .inr (0, [.ref aY, .ref aS, .ref aB, .int xl, .int xg])) :: (aB, .inr (6, [.ref ab, .int 0, .int xm, .int xc])) :: (ab, .inl (tp_ty E 3, nb, .inl fb)) :: fr) H := hP
          have hD : va_D A ((aT, .inr (0, [.ref aY, .ref aS, .ref aB, .int xl, .int xg])) :: (aB, .inr (6, [.ref ab, .int 0, .int xm, .int xc])) :: (ab, .inl (tp_ty E 3, nb, .inl fb)) :: fr) := hD
          refine tp_cv (tp_rV (As := [.int ((xw.toUInt32 >>> (Int32.toUInt32 15 &&& Int32.toUInt32 31)).toInt32 &&& 31)]) (rest := []) ⟨hx, hb, hml, hown, htg⟩ (a_T_writeRegister l E fr _ aT aY aS xl xg aB ab xm xc nb fb ((xw.toUInt32 >>> (Int32.toUInt32 15 &&& Int32.toUInt32 31)).toInt32 &&& 31) hn hf (tp_wo1 hc (by unfold tp_ol; rw [if_neg h1, if_neg h2, if_neg h3, if_pos h4]))) (⟨callB_of 1 htg (tp_good0 kc_T_writeRegister) rfl rfl rfl (htg _ ki_T) (htg _ kl_T_232) ⟨by decide, by decide, by decide +kernel⟩ ⟨Nat.le_of_ble_eq_true rfl, Nat.le_of_ble_eq_true rfl⟩, htg _ km_T_writeRegister, htg _ kp_T_writeRegister⟩) (va_recv (ci := 0) (q0 := 0) hK.1 hP rfl rfl) hK hP hD hS hA rfl hl.1 rfl (Nat.le_of_ble_eq_true rfl) d_T_writeOperand_72 ⟨Nat.le_of_ble_eq_true rfl, Nat.le_of_ble_eq_true rfl⟩) hD hS hA (fun u H locs hw hP hD hS => ?_)
          obtain ⟨eq1, nq1, fq1, cq1⟩ := u
          obtain ⟨hnq1, hfq1, hcq1⟩ : (nq1 = 16 ∨ nq1 = 34) ∧ tp_fit fq1 ∧ cq1.toInt = xc.toInt + 1 + (tp_dl ((xw.toUInt32 >>> (Int32.toUInt32 15 &&& Int32.toUInt32 31)).toInt32 &&& 31) : Int) := hw
          have hP : va_P (tp_D E) tp_cl ((aT, .inr (0, [.ref aY, .ref aS, .ref aB, .int xl, .int xg])) :: (aB, .inr (6, [.ref eq1, .int 0, .int xm, .int cq1])) :: (eq1, .inl (tp_ty E 3, nq1, .inl fq1)) :: fr) H := hP
          have hD : va_D A ((aT, .inr (0, [.ref aY, .ref aS, .ref aB, .int xl, .int xg])) :: (aB, .inr (6, [.ref eq1, .int 0, .int xm, .int cq1])) :: (eq1, .inl (tp_ty E 3, nq1, .inl fq1)) :: fr) := hD
          refine lv_goto (tgt := 119) hx hb d_T_writeOperand_75 (by decide) ?_
          exact W.vret hx hb hr (fun t ht hW => ⟨⟨(eq1, nq1, fq1, cq1), rfl, ⟨hnq1, hfq1, tp_wo4 hc (by unfold tp_ol; rw [if_neg h1, if_neg h2, if_neg h3, if_pos h4]) hcq1⟩, by rw [ht]; exact hP, hD⟩, hS.F ht⟩) hS.2.2 d_T_writeOperand_119
        · by_cases h5 : xk = 116
          · refine lv_lookup (off := 77) (tgt := 78) hx hb d_T_writeOperand_1 (by decide) (by rw [h5]; decide) (by decide) ?_
            refine lv_aload_n hx hb d_T_writeOperand_78 rfl (lv_at hl 0 rfl) ?_
            refine lv_iload_n hx hb d_T_writeOperand_79 rfl (lv_at hl 3 rfl) ?_
            refine lv_bipush (v := 20) hx hb d_T_writeOperand_80 (by decide) ?_
            refine tp_ci (tp_rS (As := [.int xw, .int 20]) (rest := [.ref aT]) ⟨hx, hb, hml, hown, htg⟩ (c_C_registerAt_3 l E ((aT, .inr (0, [.ref aY, .ref aS, .ref aB, .int xl, .int xg])) :: (aB, .inr (6, [.ref ab, .int 0, .int xm, .int xc])) :: (ab, .inl (tp_ty E 3, nb, .inl fb)) :: fr) _ xw ) (⟨callB_of 2 htg (tp_good0 kc_C_registerAt) rfl rfl rfl (htg _ ki_C) (htg _ kl_T_229) ⟨by decide, by decide, by decide +kernel⟩ ⟨Nat.le_of_ble_eq_true rfl, Nat.le_of_ble_eq_true rfl⟩, htg _ ks_C_registerAt⟩) hK hP hD hS hA rfl hl.1 rfl (Nat.le_of_ble_eq_true rfl) d_T_writeOperand_82 ⟨Nat.le_of_ble_eq_true rfl, Nat.le_of_ble_eq_true rfl⟩) hD hS hA (fun r u H locs hw hP hD hS => ?_)
            subst r
            have hP : va_P (tp_D E) tp_cl ((aT, .inr (0, [.ref aY, .ref aS, .ref aB, .int xl, .int xg])) :: (aB, .inr (6, [.ref ab, .int 0, .int xm, .int xc])) :: (ab, .inl (tp_ty E 3, nb, .inl fb)) :: fr) H := hP
            have hD : va_D A ((aT, .inr (0, [.ref aY, .ref aS, .ref aB, .int xl, .int xg])) :: (aB, .inr (6, [.ref ab, .int 0, .int xm, .int xc])) :: (ab, .inl (tp_ty E 3, nb, .inl fb)) :: fr) := hD
            refine tp_cv (tp_rV (As := [.int ((xw.toUInt32 >>> (Int32.toUInt32 20 &&& Int32.toUInt32 31)).toInt32 &&& 31)]) (rest := []) ⟨hx, hb, hml, hown, htg⟩ (a_T_writeRegister l E fr _ aT aY aS xl xg aB ab xm xc nb fb ((xw.toUInt32 >>> (Int32.toUInt32 20 &&& Int32.toUInt32 31)).toInt32 &&& 31) hn hf (tp_wo1 hc (by unfold tp_ol; rw [if_neg h1, if_neg h2, if_neg h3, if_neg h4, if_pos h5]))) (⟨callB_of 1 htg (tp_good0 kc_T_writeRegister) rfl rfl rfl (htg _ ki_T) (htg _ kl_T_232) ⟨by decide, by decide, by decide +kernel⟩ ⟨Nat.le_of_ble_eq_true rfl, Nat.le_of_ble_eq_true rfl⟩, htg _ km_T_writeRegister, htg _ kp_T_writeRegister⟩) (va_recv (ci := 0) (q0 := 0) hK.1 hP rfl rfl) hK hP hD hS hA rfl hl.1 rfl (Nat.le_of_ble_eq_true rfl) d_T_writeOperand_85 ⟨Nat.le_of_ble_eq_true rfl, Nat.le_of_ble_eq_true rfl⟩) hD hS hA (fun u H locs hw hP hD hS => ?_)
            obtain ⟨eq1, nq1, fq1, cq1⟩ := u
            obtain ⟨hnq1, hfq1, hcq1⟩ : (nq1 = 16 ∨ nq1 = 34) ∧ tp_fit fq1 ∧ cq1.toInt = xc.toInt + 1 + (tp_dl ((xw.toUInt32 >>> (Int32.toUInt32 20 &&& Int32.toUInt32 31)).toInt32 &&& 31) : Int) := hw
            have hP : va_P (tp_D E) tp_cl ((aT, .inr (0, [.ref aY, .ref aS, .ref aB, .int xl, .int xg])) :: (aB, .inr (6, [.ref eq1, .int 0, .int xm, .int cq1])) :: (eq1, .inl (tp_ty E 3, nq1, .inl fq1)) :: fr) H := hP
            have hD : va_D A ((aT, .inr (0, [.ref aY, .ref aS, .ref aB, .int xl, .int xg])) :: (aB, .inr (6, [.ref eq1, .int 0, .int xm, .int cq1])) :: (eq1, .inl (tp_ty E 3, nq1, .inl fq1)) :: fr) := hD
            refine lv_goto (tgt := 119) hx hb d_T_writeOperand_88 (by decide) ?_
            exact W.vret hx hb hr (fun t ht hW => ⟨⟨(eq1, nq1, fq1, cq1), rfl, ⟨hnq1, hfq1, tp_wo4 hc (by unfold tp_ol; rw [if_neg h1, if_neg h2, if_neg h3, if_neg h4, if_pos h5]) hcq1⟩, by rw [ht]; exact hP, hD⟩, hS.F ht⟩) hS.2.2 d_T_writeOperand_119
          · refine lv_lookup (off := 109) (tgt := 110) hx hb d_T_writeOperand_1 (by decide) (by show (if (100 : Int) = xk.toInt then (51 : Int) else if (105 : Int) = xk.toInt then (90 : Int) else if (108 : Int) = xk.toInt then (90 : Int) else if (115 : Int) = xk.toInt then (64 : Int) else if (116 : Int) = xk.toInt then (77 : Int) else 109) = _; rw [if_neg (fun q => tp_neI (v := 100) (n := 100) rfl h1 q.symm), if_neg (fun q => tp_neI (v := 105) (n := 105) rfl h2 q.symm), if_neg (fun q => tp_neI (v := 108) (n := 108) rfl h3 q.symm), if_neg (fun q => tp_neI (v := 115) (n := 115) rfl h4 q.symm), if_neg (fun q => tp_neI (v := 116) (n := 116) rfl h5 q.symm)]) (by decide) ?_
            refine lv_aload_n hx hb d_T_writeOperand_110 rfl (lv_at hl 0 rfl) ?_
            refine va_get (D := tp_D E) (ci := 0) (v := .ref aB) (C := qR_T) (T := qF_T) (N := 5) hx hb htg qi_T hown hK.1 hP 0 rfl rfl 2 (by decide) (htg _ kl_T_26) (fun _ h => h) rfl d_T_writeOperand_111 ?_
            refine lv_iload_n hx hb d_T_writeOperand_114 rfl (lv_at hl 2 rfl) ?_
            have hP : va_P (tp_D E) tp_cl ((ab, .inl (tp_ty E 3, nb, .inl fb)) :: (aT, .inr (0, [.ref aY, .ref aS, .ref aB, .int xl, .int xg])) :: (aB, .inr (6, [.ref ab, .int 0, .int xm, .int xc])) :: fr) _ := tp_mvP 2 rfl hP
            have hD : va_D A ((ab, .inl (tp_ty E 3, nb, .inl fb)) :: (aT, .inr (0, [.ref aY, .ref aS, .ref aB, .int xl, .int xg])) :: (aB, .inr (6, [.ref ab, .int 0, .int xm, .int xc])) :: fr) := tp_mvD 2 rfl hD
            have hP : va_P (tp_D E) tp_cl ((aB, .inr (6, [.ref ab, .int 0, .int xm, .int xc])) :: (ab, .inl (tp_ty E 3, nb, .inl fb)) :: (aT, .inr (0, [.ref aY, .ref aS, .ref aB, .int xl, .int xg])) :: fr) _ := tp_mvP 2 rfl hP
            have hD : va_D A ((aB, .inr (6, [.ref ab, .int 0, .int xm, .int xc])) :: (ab, .inl (tp_ty E 3, nb, .inl fb)) :: (aT, .inr (0, [.ref aY, .ref aS, .ref aB, .int xl, .int xg])) :: fr) := tp_mvD 2 rfl hD
            refine tp_cr (tp_rV (As := [.int xk]) (rest := []) ⟨hx, hb, hml, hown, htg⟩ (a_SB_appC l E ((aT, .inr (0, [.ref aY, .ref aS, .ref aB, .int xl, .int xg])) :: fr) _ aB ab xm xc nb fb xk hn hf (tp_wo3 hc (by unfold tp_ol; rw [if_neg h1, if_neg h2, if_neg h3, if_neg h4, if_neg h5])) hk) (⟨callB_of 1 htg (tp_good0 kc_SB_append_0) rfl rfl rfl (htg _ ki_SB) (htg _ kl_T_154) ⟨by decide, by decide, by decide +kernel⟩ ⟨Nat.le_of_ble_eq_true rfl, Nat.le_of_ble_eq_true rfl⟩, htg _ km_SB_append_0, htg _ kv_SB_SB_append_0⟩) (va_recv (ci := 6) (q0 := 0) hK.1 hP rfl rfl) hK hP hD hS hA rfl hl.1 rfl (Nat.le_of_ble_eq_true rfl) d_T_writeOperand_115 ⟨Nat.le_of_ble_eq_true rfl, Nat.le_of_ble_eq_true rfl⟩) hD hS hA (fun u H locs hw hP hD hS => ?_)
            obtain ⟨eq1, nq1, fq1⟩ := u
            obtain ⟨hnq1, hfq1⟩ : (nq1 = 16 ∨ nq1 = 34) ∧ tp_fit fq1 := hw
            have hP : va_P (tp_D E) tp_cl ((aB, .inr (6, [.ref eq1, .int 0, .int xm, .int (xc + 1)])) :: (eq1, .inl (tp_ty E 3, nq1, .inl fq1)) :: (aT, .inr (0, [.ref aY, .ref aS, .ref aB, .int xl, .int xg])) :: fr) H := hP
            have hD : va_D A ((aB, .inr (6, [.ref eq1, .int 0, .int xm, .int (xc + 1)])) :: (eq1, .inl (tp_ty E 3, nq1, .inl fq1)) :: (aT, .inr (0, [.ref aY, .ref aS, .ref aB, .int xl, .int xg])) :: fr) := hD
            refine lv_pop hx hb d_T_writeOperand_118 rfl ?_
            have hP : va_P (tp_D E) tp_cl ((eq1, .inl (tp_ty E 3, nq1, .inl fq1)) :: (aB, .inr (6, [.ref eq1, .int 0, .int xm, .int (xc + 1)])) :: (aT, .inr (0, [.ref aY, .ref aS, .ref aB, .int xl, .int xg])) :: fr) _ := tp_mvP 1 rfl hP
            have hD : va_D A ((eq1, .inl (tp_ty E 3, nq1, .inl fq1)) :: (aB, .inr (6, [.ref eq1, .int 0, .int xm, .int (xc + 1)])) :: (aT, .inr (0, [.ref aY, .ref aS, .ref aB, .int xl, .int xg])) :: fr) := tp_mvD 1 rfl hD
            have hP : va_P (tp_D E) tp_cl ((aB, .inr (6, [.ref eq1, .int 0, .int xm, .int (xc + 1)])) :: (eq1, .inl (tp_ty E 3, nq1, .inl fq1)) :: (aT, .inr (0, [.ref aY, .ref aS, .ref aB, .int xl, .int xg])) :: fr) _ := tp_mvP 1 rfl hP
            have hD : va_D A ((aB, .inr (6, [.ref eq1, .int 0, .int xm, .int (xc + 1)])) :: (eq1, .inl (tp_ty E 3, nq1, .inl fq1)) :: (aT, .inr (0, [.ref aY, .ref aS, .ref aB, .int xl, .int xg])) :: fr) := tp_mvD 1 rfl hD
            have hP : va_P (tp_D E) tp_cl ((aT, .inr (0, [.ref aY, .ref aS, .ref aB, .int xl, .int xg])) :: (aB, .inr (6, [.ref eq1, .int 0, .int xm, .int (xc + 1)])) :: (eq1, .inl (tp_ty E 3, nq1, .inl fq1)) :: fr) _ := tp_mvP 2 rfl hP
            have hD : va_D A ((aT, .inr (0, [.ref aY, .ref aS, .ref aB, .int xl, .int xg])) :: (aB, .inr (6, [.ref eq1, .int 0, .int xm, .int (xc + 1)])) :: (eq1, .inl (tp_ty E 3, nq1, .inl fq1)) :: fr) := tp_mvD 2 rfl hD
            exact tp_widen (k := 2) (n := 68) (Nat.le_of_ble_eq_true rfl) (Nat.le_of_ble_eq_true rfl) (W.vret hx hb hr (fun t ht hW => ⟨⟨(eq1, nq1, fq1, (xc + 1)), rfl, ⟨hnq1, hfq1, tp_wo6 hc (by unfold tp_ol; rw [if_neg h1, if_neg h2, if_neg h3, if_neg h4, if_neg h5])⟩, by rw [ht]; exact hP, hD⟩, hS.F ht⟩) hS.2.2 d_T_writeOperand_119)
set_option maxHeartbeats 400000 in
set_option maxRecDepth 100000 in
theorem c_AS_ensureCapacityInternal_1 (l : Launch) (E : tp_Env) (fr : va_W) (sz : Nat) (a1 : Nat) (a2 : Nat) (x3 : Int32) (x4 : Int32) (x5 : Int32) (f6 : Nat → Int32) (h1 : (0 - ((16 : Int32) >>> (x3 &&& 31 : Int32))) ≤ 0) : Met l y_AS_ensureCapacityInternal w_AS_ensureCapacityInternal ({ frames := 0, cells := 0, slots := 0, locals := 0 }) (va_Pc [.ref a1, .int 0] (tp_in E ((a1, .inr (6, [.ref a2, .int x3, .int x4, .int x5])) :: (a2, .inl (tp_ty E 3, 16, .inl f6)) :: fr) sz)) (va_Qv (fun (_ : Unit) => True) (fun _ t => tp_out E (va_A ((a1, .inr (6, [.ref a2, .int x3, .int x4, .int x5])) :: (a2, .inl (tp_ty E 3, 16, .inl f6)) :: fr) sz) ((a1, .inr (6, [.ref a2, .int x3, .int x4, .int x5])) :: (a2, .inl (tp_ty E 3, 16, .inl f6)) :: fr) t) (va_A ((a1, .inr (6, [.ref a2, .int x3, .int x4, .int x5])) :: (a2, .inl (tp_ty E 3, 16, .inl f6)) :: fr) sz)) 0 0 (va_A ((a1, .inr (6, [.ref a2, .int x3, .int x4, .int x5])) :: (a2, .inl (tp_ty E 3, 16, .inl f6)) :: fr) sz) := by
  refine Met.ofW (cc := b_AS_ensureCapacityInternal) (maxL := 3) (ret := none) (by decide) rfl ?_
  intro p e s m args below meth c s₁ B hml hv
  obtain ⟨rfl, hsz, hP, hK, hD0⟩ := hv
  have hx := B.exec
  have hb := B.bytes
  have hr := B.returns
  have htg : ∀ w ∈ tp_G, w.before ([.ref a1, .int 0] : List Value).toArray s = true := fun w h => atoms_spec (ws := w_AS_ensureCapacityInternal) B.pre w (List.mem_cons_of_mem _ h)
  have hown : s.vm.findClass "java/lang/AbstractStringBuilder" = some m.cls := findClass_of_methodNamed B.named
  have hlocks := B.notSynchronized
  subst hsz
  have hD := hD0.self (sz := s.heap.size)
  generalize hAe : va_A ((a1, .inr (6, [.ref a2, .int x3, .int x4, .int x5])) :: (a2, .inl (tp_ty E 3, 16, .inl f6)) :: fr) s.heap.size = A at hD hK ⊢
  have hA : ∀ q : Nat, s.heap.size ≤ q → A q := fun q h => by rw [← hAe]; exact Or.inr h
  have hS : va_S A s.heap s.heap [] := va_S.rf
  have hl := lv_entry ([.ref a1, .int 0]) (n := 3) (Nat.le_of_ble_eq_true rfl)
  rw [lg_entry_eq]
  generalize (lg_sl ([.ref a1, .int 0]) ++ List.replicate (3 - (lg_sl ([.ref a1, .int 0])).length) Slot.unset).toArray = ls at hl ⊢
  have hl : lv_has ls 3 [(0, .ref a1), (1, .int 0)] := hl
  refine lv_aload_n hx hb d_AS_ensureCapacityInternal_0 rfl (lv_at hl 0 rfl) ?_
  refine va_get (D := tp_D E) (ci := 6) (v := .ref a2) (C := qR_SB) (T := qF_SB) (N := 4) hx hb htg qi_SB hown hK.1 hP 0 rfl rfl 0 (by decide) (htg _ kl_AS_15) (fun _ h => h) rfl d_AS_ensureCapacityInternal_1 ?_
  refine va_alen (D := tp_D E) (v := 16) hx hb hK.1 hP 1 3 rfl rfl rfl d_AS_ensureCapacityInternal_4 ?_
  refine lv_aload_n hx hb d_AS_ensureCapacityInternal_5 rfl (lv_at hl 0 rfl) ?_
  refine va_get (D := tp_D E) (ci := 6) (v := .int x3) (C := qR_SB) (T := qF_SB) (N := 4) hx hb htg qi_SB hown hK.1 hP 0 rfl rfl 1 (by decide) (htg _ kl_AS_22) (fun _ h => h) rfl d_AS_ensureCapacityInternal_6 ?_
  refine lv_ishr hx hb d_AS_ensureCapacityInternal_9 ?_
  refine lv_istore_n (lv' := [(2, .int ((16 : Int32) >>> (x3 &&& 31 : Int32))), (0, .ref a1), (1, .int 0)]) hx hb d_AS_ensureCapacityInternal_10 rfl hl (by decide) rfl (fun ls hl => ?_)
  refine lv_iload_n hx hb d_AS_ensureCapacityInternal_11 rfl (lv_at hl 2 rfl) ?_
  refine lv_iload_n hx hb d_AS_ensureCapacityInternal_12 rfl (lv_at hl 0 rfl) ?_
  refine lv_isub hx hb d_AS_ensureCapacityInternal_13 ?_
  refine lv_if_le (tgt := 38) hx hb d_AS_ensureCapacityInternal_14 (by decide) (fun _ => ?_) (fun h => absurd h1 h)
  exact W.vret hx hb hr (fun t ht hW => ⟨⟨(), rfl, trivial, by rw [ht]; exact hP, hD⟩, hS.F ht⟩) hS.2.2 d_AS_ensureCapacityInternal_38
set_option maxHeartbeats 400000 in
set_option maxRecDepth 100000 in
theorem c_AS_setLength_1 (l : Launch) (E : tp_Env) (fr : va_W) (sz : Nat) (a1 : Nat) (a2 : Nat) (x3 : Int32) (x4 : Int32) (x5 : Int32) (f6 : Nat → Int32) (h1 : (0 - ((16 : Int32) >>> (x3 &&& 31 : Int32))) ≤ 0) (h2 : 0 ≤ x5) (h3 : x5 ≤ 0) : Met l y_AS_setLength w_AS_setLength ({ frames := 1, cells := 0, slots := 0, locals := 22 }) (va_Pc [.ref a1, .int 0] (tp_in E ((a1, .inr (6, [.ref a2, .int x3, .int x4, .int x5])) :: (a2, .inl (tp_ty E 3, 16, .inl f6)) :: fr) sz)) (va_Qv (fun (_ : Unit) => True) (fun _ t => tp_out E (va_A ((a1, .inr (6, [.ref a2, .int x3, .int x4, .int x5])) :: (a2, .inl (tp_ty E 3, 16, .inl f6)) :: fr) sz) ((a1, .inr (6, [.ref a2, .int x3, .int x4, .int 0])) :: (a2, .inl (tp_ty E 3, 16, .inl f6)) :: fr) t) (va_A ((a1, .inr (6, [.ref a2, .int x3, .int x4, .int x5])) :: (a2, .inl (tp_ty E 3, 16, .inl f6)) :: fr) sz)) 0 0 (va_A ((a1, .inr (6, [.ref a2, .int x3, .int x4, .int x5])) :: (a2, .inl (tp_ty E 3, 16, .inl f6)) :: fr) sz) := by
  refine Met.ofW (cc := b_AS_setLength) (maxL := 2) (ret := none) (by decide) rfl ?_
  intro p e s m args below meth c s₁ B hml hv
  obtain ⟨rfl, hsz, hP, hK, hD0⟩ := hv
  have hx := B.exec
  have hb := B.bytes
  have hr := B.returns
  have htg : ∀ w ∈ tp_G, w.before ([.ref a1, .int 0] : List Value).toArray s = true := fun w h => atoms_spec (ws := w_AS_setLength) B.pre w (List.mem_cons_of_mem _ h)
  have hown : s.vm.findClass "java/lang/AbstractStringBuilder" = some m.cls := findClass_of_methodNamed B.named
  have hlocks := B.notSynchronized
  subst hsz
  have hD := hD0.self (sz := s.heap.size)
  generalize hAe : va_A ((a1, .inr (6, [.ref a2, .int x3, .int x4, .int x5])) :: (a2, .inl (tp_ty E 3, 16, .inl f6)) :: fr) s.heap.size = A at hD hK ⊢
  have hA : ∀ q : Nat, s.heap.size ≤ q → A q := fun q h => by rw [← hAe]; exact Or.inr h
  have hS : va_S A s.heap s.heap [] := va_S.rf
  have hl := lv_entry ([.ref a1, .int 0]) (n := 2) (Nat.le_of_ble_eq_true rfl)
  rw [lg_entry_eq]
  generalize (lg_sl ([.ref a1, .int 0]) ++ List.replicate (2 - (lg_sl ([.ref a1, .int 0])).length) Slot.unset).toArray = ls at hl ⊢
  have hl : lv_has ls 2 [(0, .ref a1), (1, .int 0)] := hl
  refine lv_iload_n hx hb d_AS_setLength_0 rfl (lv_at hl 1 rfl) ?_
  refine lv_if_ge (tgt := 13) hx hb d_AS_setLength_1 (by decide) (fun _ => ?_) (fun h => absurd (by decide) h)
  refine lv_aload_n hx hb d_AS_setLength_13 rfl (lv_at hl 0 rfl) ?_
  refine lv_iload_n hx hb d_AS_setLength_14 rfl (lv_at hl 1 rfl) ?_
  refine tp_cv (tp_rV (As := [.int 0]) (rest := []) ⟨hx, hb, hml, hown, htg⟩ (c_AS_ensureCapacityInternal_1 l E fr _ a1 a2 x3 x4 x5 f6 h1) (⟨callB_of 1 htg (tp_good0 kc_AS_ensureCapacityInternal) rfl rfl rfl (htg _ ki_AS) (htg _ kl_AS_100) ⟨by decide, by decide, by decide +kernel⟩ ⟨Nat.le_of_ble_eq_true rfl, Nat.le_of_ble_eq_true rfl⟩, htg _ km_AS_ensureCapacityInternal, htg _ kv_SB_AS_ensureCapacityInternal⟩) (va_recv (ci := 6) (q0 := 0) hK.1 hP rfl rfl) hK hP hD hS hA rfl hl.1 rfl (Nat.le_of_ble_eq_true rfl) d_AS_setLength_15 ⟨Nat.le_of_ble_eq_true rfl, Nat.le_of_ble_eq_true rfl⟩) hD hS hA (fun u H locs _ hP hD hS => ?_)
  have hP : va_P (tp_D E) tp_cl ((a1, .inr (6, [.ref a2, .int x3, .int x4, .int x5])) :: (a2, .inl (tp_ty E 3, 16, .inl f6)) :: fr) H := hP
  have hD : va_D A ((a1, .inr (6, [.ref a2, .int x3, .int x4, .int x5])) :: (a2, .inl (tp_ty E 3, 16, .inl f6)) :: fr) := hD
  refine lv_aload_n hx hb d_AS_setLength_18 rfl (lv_at hl 0 rfl) ?_
  refine va_get (D := tp_D E) (ci := 6) (v := .int x5) (C := qR_SB) (T := qF_SB) (N := 4) hx hb htg qi_SB hown hK.1 hP 0 rfl rfl 3 (by decide) (htg _ kl_AS_79) (fun _ h => h) rfl d_AS_setLength_19 ?_
  refine lv_iload_n hx hb d_AS_setLength_22 rfl (lv_at hl 1 rfl) ?_
  refine lv_icmp_ge (tgt := 63) hx hb d_AS_setLength_23 (by decide) (fun _ => ?_) (fun h => absurd h2 h)
  refine lv_aload_n hx hb d_AS_setLength_63 rfl (lv_at hl 0 rfl) ?_
  refine va_get (D := tp_D E) (ci := 6) (v := .int x5) (C := qR_SB) (T := qF_SB) (N := 4) hx hb htg qi_SB hown hK.1 hP 0 rfl rfl 3 (by decide) (htg _ kl_AS_79) (fun _ h => h) rfl d_AS_setLength_64 ?_
  refine lv_iload_n hx hb d_AS_setLength_67 rfl (lv_at hl 1 rfl) ?_
  refine lv_icmp_le (tgt := 76) hx hb d_AS_setLength_68 (by decide) (fun _ => ?_) (fun h => absurd h3 h)
  refine lv_aload_n hx hb d_AS_setLength_76 rfl (lv_at hl 0 rfl) ?_
  refine lv_iload_n hx hb d_AS_setLength_77 rfl (lv_at hl 1 rfl) ?_
  refine va_put (D := tp_D E) (ci := 6) (v := .int 0) (ty := .int) (C := qR_SB) (T := qF_SB) (N := 4) hx hb htg qi_SB qt_SB qt_SB_ok qn_SB hown hK.1 hP hD hS 0 rfl rfl 3 (by decide) (htg _ kl_AS_79) (fun _ h => h) rfl (by decide +kernel) rfl rfl (Nat.le_of_ble_eq_true rfl) d_AS_setLength_78 (fun H locs hP hD hS => ?_)
  have hP : va_P (tp_D E) tp_cl ((a1, .inr (6, [.ref a2, .int x3, .int x4, .int 0])) :: (a2, .inl (tp_ty E 3, 16, .inl f6)) :: fr) H := hP
  have hD : va_D A ((a1, .inr (6, [.ref a2, .int x3, .int x4, .int 0])) :: (a2, .inl (tp_ty E 3, 16, .inl f6)) :: fr) := hD
  exact W.vret hx hb hr (fun t ht hW => ⟨⟨(), rfl, trivial, by rw [ht]; exact hP, hD⟩, hS.F ht⟩) hS.2.2 d_AS_setLength_81
set_option maxHeartbeats 400000 in
set_option maxRecDepth 100000 in
theorem c_SB_setLength_1 (l : Launch) (E : tp_Env) (fr : va_W) (sz : Nat) (a1 : Nat) (a2 : Nat) (x3 : Int32) (x4 : Int32) (x5 : Int32) (f6 : Nat → Int32) (h1 : (0 - ((16 : Int32) >>> (x3 &&& 31 : Int32))) ≤ 0) (h2 : 0 ≤ x5) (h3 : x5 ≤ 0) : Met l y_SB_setLength w_SB_setLength ({ frames := 2, cells := 0, slots := 0, locals := 43 }) (va_Pc [.ref a1, .int 0] (tp_in E ((a1, .inr (6, [.ref a2, .int x3, .int x4, .int x5])) :: (a2, .inl (tp_ty E 3, 16, .inl f6)) :: fr) sz)) (va_Qv (fun (_ : Unit) => True) (fun _ t => tp_out E (va_A ((a1, .inr (6, [.ref a2, .int x3, .int x4, .int x5])) :: (a2, .inl (tp_ty E 3, 16, .inl f6)) :: fr) sz) ((a1, .inr (6, [.ref a2, .int x3, .int x4, .int 0])) :: (a2, .inl (tp_ty E 3, 16, .inl f6)) :: fr) t) (va_A ((a1, .inr (6, [.ref a2, .int x3, .int x4, .int x5])) :: (a2, .inl (tp_ty E 3, 16, .inl f6)) :: fr) sz)) 0 0 (va_A ((a1, .inr (6, [.ref a2, .int x3, .int x4, .int x5])) :: (a2, .inl (tp_ty E 3, 16, .inl f6)) :: fr) sz) := by
  refine Met.ofW (cc := b_SB_setLength) (maxL := 2) (ret := none) (by decide) rfl ?_
  intro p e s m args below meth c s₁ B hml hv
  obtain ⟨rfl, hsz, hP, hK, hD0⟩ := hv
  have hx := B.exec
  have hb := B.bytes
  have hr := B.returns
  have htg : ∀ w ∈ tp_G, w.before ([.ref a1, .int 0] : List Value).toArray s = true := fun w h => atoms_spec (ws := w_SB_setLength) B.pre w (List.mem_cons_of_mem _ h)
  have hown : s.vm.findClass "java/lang/StringBuilder" = some m.cls := findClass_of_methodNamed B.named
  have hlocks := B.notSynchronized
  subst hsz
  have hD := hD0.self (sz := s.heap.size)
  generalize hAe : va_A ((a1, .inr (6, [.ref a2, .int x3, .int x4, .int x5])) :: (a2, .inl (tp_ty E 3, 16, .inl f6)) :: fr) s.heap.size = A at hD hK ⊢
  have hA : ∀ q : Nat, s.heap.size ≤ q → A q := fun q h => by rw [← hAe]; exact Or.inr h
  have hS : va_S A s.heap s.heap [] := va_S.rf
  have hl := lv_entry ([.ref a1, .int 0]) (n := 2) (Nat.le_of_ble_eq_true rfl)
  rw [lg_entry_eq]
  generalize (lg_sl ([.ref a1, .int 0]) ++ List.replicate (2 - (lg_sl ([.ref a1, .int 0])).length) Slot.unset).toArray = ls at hl ⊢
  have hl : lv_has ls 2 [(0, .ref a1), (1, .int 0)] := hl
  refine lv_aload_n hx hb d_SB_setLength_0 rfl (lv_at hl 0 rfl) ?_
  refine lv_iload_n hx hb d_SB_setLength_1 rfl (lv_at hl 1 rfl) ?_
  refine tp_cv (tp_rU (As := [.int 0]) (rest := []) ⟨hx, hb, hml, hown, htg⟩ (c_AS_setLength_1 l E fr _ a1 a2 x3 x4 x5 f6 h1 h2 h3) (tp_cwU 1 htg kc_AS_setLength (htg _ kl_SB_333) (htg _ kq_AS_setLength) (htg _ kz_SB) (htg _ km_AS_setLength) (htg _ ki_AS) ⟨by decide, by decide +kernel⟩ ⟨Nat.le_of_ble_eq_true rfl, Nat.le_of_ble_eq_true rfl⟩) (va_recv (ci := 6) (q0 := 0) hK.1 hP rfl rfl) (hK.1.1 6 _ rfl).2 hK hP hD hS hA rfl hl.1 rfl (Nat.le_of_ble_eq_true rfl) d_SB_setLength_2 ⟨Nat.le_of_ble_eq_true rfl, Nat.le_of_ble_eq_true rfl⟩) hD hS hA (fun u H locs _ hP hD hS => ?_)
  have hP : va_P (tp_D E) tp_cl ((a1, .inr (6, [.ref a2, .int x3, .int x4, .int 0])) :: (a2, .inl (tp_ty E 3, 16, .inl f6)) :: fr) H := hP
  have hD : va_D A ((a1, .inr (6, [.ref a2, .int x3, .int x4, .int 0])) :: (a2, .inl (tp_ty E 3, 16, .inl f6)) :: fr) := hD
  exact W.vret hx hb hr (fun t ht hW => ⟨⟨(), rfl, trivial, by rw [ht]; exact hP, hD⟩, hS.F ht⟩) hS.2.2 d_SB_setLength_5
set_option maxHeartbeats 4000000 in
set_option maxRecDepth 100000 in
theorem a_T_show (l : Launch) (hfl : l.stackTraces = false) (E : tp_Env) (fr : va_W) (sz : Nat) (aT aY aS : Nat) (xl xg : Int32) (aB ab : Nat) (xm : Int32) (fb : Nat → Int32) (xw : Int32) (hf : tp_fit fb) : vx_Met l y_T_show w_T_show ({ frames := 8, cells := 18, slots := 612, locals := 232 }) (va_Pc [.ref aT, .int xw] (tp_in E ((aT, .inr (0, [.ref aY, .ref aS, .ref aB, .int xl, .int xg])) :: (aB, .inr (6, [.ref ab, .int 0, .int xm, .int 0])) :: (ab, .inl (tp_ty E 3, 16, .inl fb)) :: fr) sz)) (va_Qi (fun r (u : Nat) => tp_hit xw u ∧ ¬ u = 0 ∧ r.toInt = (tp_lenT u xw : Nat)) (fun _ t => tp_out E (va_A ((aT, .inr (0, [.ref aY, .ref aS, .ref aB, .int xl, .int xg])) :: (aB, .inr (6, [.ref ab, .int 0, .int xm, .int 0])) :: (ab, .inl (tp_ty E 3, 16, .inl fb)) :: fr) sz) fr t) (va_A ((aT, .inr (0, [.ref aY, .ref aS, .ref aB, .int xl, .int xg])) :: (aB, .inr (6, [.ref ab, .int 0, .int xm, .int 0])) :: (ab, .inl (tp_ty E 3, 16, .inl fb)) :: fr) sz)) (vx_X (fun (_ : Unit) => tp_hit xw 0) (fun x _ t => x = "java/lang/IllegalArgumentException" ∧ tp_out E (va_A ((aT, .inr (0, [.ref aY, .ref aS, .ref aB, .int xl, .int xg])) :: (aB, .inr (6, [.ref ab, .int 0, .int xm, .int 0])) :: (ab, .inl (tp_ty E 3, 16, .inl fb)) :: fr) sz) fr t) (va_A ((aT, .inr (0, [.ref aY, .ref aS, .ref aB, .int xl, .int xg])) :: (aB, .inr (6, [.ref ab, .int 0, .int xm, .int 0])) :: (ab, .inl (tp_ty E 3, 16, .inl fb)) :: fr) sz)) 18 612 (va_A ((aT, .inr (0, [.ref aY, .ref aS, .ref aB, .int xl, .int xg])) :: (aB, .inr (6, [.ref ab, .int 0, .int xm, .int 0])) :: (ab, .inl (tp_ty E 3, 16, .inl fb)) :: fr) sz) := by
  refine vx_ofW (cc := b_T_show) (maxL := 4) (ret := (some .int)) (by decide) rfl ?_
  intro p e s m args below meth c s₁ B hml htab hv
  obtain ⟨rfl, hsz, hP, hK, hD0⟩ := hv
  have hx := B.exec
  have hb := B.bytes
  have hr := B.returns
  have htg : ∀ w ∈ tp_G, w.before ([.ref aT, .int xw] : List Value).toArray s = true := fun w h => atoms_spec (ws := w_T_show) B.pre w (List.mem_cons_of_mem _ h)
  have hown : s.vm.findClass "TwoPass" = some m.cls := findClass_of_methodNamed B.named
  have hlocks := B.notSynchronized
  subst hsz
  have hD := hD0.self (sz := s.heap.size)
  generalize hAe : va_A ((aT, .inr (0, [.ref aY, .ref aS, .ref aB, .int xl, .int xg])) :: (aB, .inr (6, [.ref ab, .int 0, .int xm, .int 0])) :: (ab, .inl (tp_ty E 3, 16, .inl fb)) :: fr) s.heap.size = A at hD hK ⊢
  have hA : ∀ q : Nat, s.heap.size ≤ q → A q := fun q h => by rw [← hAe]; exact Or.inr h
  have hS : va_S A s.heap s.heap [] := va_S.rf
  have hl := lv_entry ([.ref aT, .int xw]) (n := 4) (Nat.le_of_ble_eq_true rfl)
  rw [lg_entry_eq]
  generalize (lg_sl ([.ref aT, .int xw]) ++ List.replicate (4 - (lg_sl ([.ref aT, .int xw])).length) Slot.unset).toArray = ls at hl ⊢
  have hl : lv_has ls 4 [(0, .ref aT), (1, .int xw)] := hl
  refine lv_aload_n hx hb d_T_show_0 rfl (lv_at hl 0 rfl) ?_
  refine va_get (D := tp_D E) (ci := 0) (v := .ref aB) (C := qR_T) (T := qF_T) (N := 5) hx hb htg qi_T hown hK.1 hP 0 rfl rfl 2 (by decide) (htg _ kl_T_26) (fun _ h => h) rfl d_T_show_1 ?_
  refine lv_iconst (v := 0) hx hb d_T_show_4 (by decide) ?_
  have hP : va_P (tp_D E) tp_cl ((ab, .inl (tp_ty E 3, 16, .inl fb)) :: (aT, .inr (0, [.ref aY, .ref aS, .ref aB, .int xl, .int xg])) :: (aB, .inr (6, [.ref ab, .int 0, .int xm, .int 0])) :: fr) _ := tp_mvP 2 rfl hP
  have hD : va_D A ((ab, .inl (tp_ty E 3, 16, .inl fb)) :: (aT, .inr (0, [.ref aY, .ref aS, .ref aB, .int xl, .int xg])) :: (aB, .inr (6, [.ref ab, .int 0, .int xm, .int 0])) :: fr) := tp_mvD 2 rfl hD
  have hP : va_P (tp_D E) tp_cl ((aB, .inr (6, [.ref ab, .int 0, .int xm, .int 0])) :: (ab, .inl (tp_ty E 3, 16, .inl fb)) :: (aT, .inr (0, [.ref aY, .ref aS, .ref aB, .int xl, .int xg])) :: fr) _ := tp_mvP 2 rfl hP
  have hD : va_D A ((aB, .inr (6, [.ref ab, .int 0, .int xm, .int 0])) :: (ab, .inl (tp_ty E 3, 16, .inl fb)) :: (aT, .inr (0, [.ref aY, .ref aS, .ref aB, .int xl, .int xg])) :: fr) := tp_mvD 2 rfl hD
  refine tp_cv (tp_rV (As := [.int 0]) (rest := []) ⟨hx, hb, hml, hown, htg⟩ (c_SB_setLength_1 l E ((aT, .inr (0, [.ref aY, .ref aS, .ref aB, .int xl, .int xg])) :: fr) _ aB ab 0 xm 0 fb (by decide) (by decide) (by decide)) (⟨callB_of 1 htg (tp_good0 kc_SB_setLength) rfl rfl rfl (htg _ ki_SB) (htg _ kl_T_131) ⟨by decide, by decide, by decide +kernel⟩ ⟨Nat.le_of_ble_eq_true rfl, Nat.le_of_ble_eq_true rfl⟩, htg _ km_SB_setLength, htg _ kv_SB_SB_setLength⟩) (va_recv (ci := 6) (q0 := 0) hK.1 hP rfl rfl) hK hP hD hS hA rfl hl.1 rfl (Nat.le_of_ble_eq_true rfl) d_T_show_5 ⟨Nat.le_of_ble_eq_true rfl, Nat.le_of_ble_eq_true rfl⟩) hD hS hA (fun u H locs _ hP hD hS => ?_)
  have hP : va_P (tp_D E) tp_cl ((aB, .inr (6, [.ref ab, .int 0, .int xm, .int 0])) :: (ab, .inl (tp_ty E 3, 16, .inl fb)) :: (aT, .inr (0, [.ref aY, .ref aS, .ref aB, .int xl, .int xg])) :: fr) H := hP
  have hD : va_D A ((aB, .inr (6, [.ref ab, .int 0, .int xm, .int 0])) :: (ab, .inl (tp_ty E 3, 16, .inl fb)) :: (aT, .inr (0, [.ref aY, .ref aS, .ref aB, .int xl, .int xg])) :: fr) := hD
  refine lv_iload_n hx hb d_T_show_8 rfl (lv_at hl 1 rfl) ?_
  refine tp_cr (tp_rS (As := [.int xw]) (rest := []) ⟨hx, hb, hml, hown, htg⟩ (a_C_operationOf l E ((aB, .inr (6, [.ref ab, .int 0, .int xm, .int 0])) :: (ab, .inl (tp_ty E 3, 16, .inl fb)) :: (aT, .inr (0, [.ref aY, .ref aS, .ref aB, .int xl, .int xg])) :: fr) _ xw ) (⟨callB_of 1 htg (tp_good0 kc_C_operationOf) rfl rfl rfl (htg _ ki_C) (htg _ kl_T_134) ⟨by decide, by decide, by decide +kernel⟩ ⟨Nat.le_of_ble_eq_true rfl, Nat.le_of_ble_eq_true rfl⟩, htg _ ks_C_operationOf⟩) hK hP hD hS hA rfl hl.1 rfl (Nat.le_of_ble_eq_true rfl) d_T_show_9 ⟨Nat.le_of_ble_eq_true rfl, Nat.le_of_ble_eq_true rfl⟩) hD hS hA (fun u H locs hw hP hD hS => ?_)
  have hhit : tp_hit xw u := hw
  generalize u = uo at hhit ⊢
  have huo : uo < 47 := tp_hit47 hhit
  have hP : va_P (tp_D E) tp_cl ((aB, .inr (6, [.ref ab, .int 0, .int xm, .int 0])) :: (ab, .inl (tp_ty E 3, 16, .inl fb)) :: (aT, .inr (0, [.ref aY, .ref aS, .ref aB, .int xl, .int xg])) :: fr) H := hP
  have hD : va_D A ((aB, .inr (6, [.ref ab, .int 0, .int xm, .int 0])) :: (ab, .inl (tp_ty E 3, 16, .inl fb)) :: (aT, .inr (0, [.ref aY, .ref aS, .ref aB, .int xl, .int xg])) :: fr) := hD
  refine lv_astore_n (lv' := [(2, .ref (tp_ad E uo)), (0, .ref aT), (1, .int xw)]) hx hb d_T_show_12 rfl hl (by decide) rfl (fun ls hl => ?_)
  refine lv_aload_n hx hb d_T_show_13 rfl (lv_at hl 0 rfl) ?_
  refine va_gets (v := .ref (tp_ad E 0)) hx hb (hK.opZ (i := 0) (by decide)) hS hown (htg _ kl_T_140) (fun _ h => h) d_T_show_14 ?_
  by_cases h1 : some (tp_ad E uo) = some (tp_ad E 0)
  · refine lv_acmp_ne (rx := some (tp_ad E uo)) (ry := some (tp_ad E 0)) (tgt := 28) hx hb d_T_show_17 (by decide) (fun h => absurd h1 h) (fun _ => ?_)
    exact vx_throw0 (own := "TwoPass") (cls := "java/lang/IllegalArgumentException") (names := ["java/lang/RuntimeException", "java/lang/Exception"]) (ik := 38) (ic := 40) hx hb hfl hown (by decide +kernel) (by decide +kernel) (htg _ kl_T_38) (htg _ kx_IllegalArgumentException) (kxa_T_40 htg hK.2.2.2.1) kxg_T_40 hK.2.1 hK.2.2.1 hS (hl.1.trans hml.symm) d_T_show_20 d_T_show_23 d_T_show_24 d_T_show_27 (fun x h => (htab x h).elim) (Nat.le_of_ble_eq_true rfl) (Nat.le_of_ble_eq_true rfl) (Nat.le_of_ble_eq_true rfl) (Nat.le_of_ble_eq_true rfl) hlocks (fun t hvm hz hq => ⟨(), tp_hit00 hhit (hK.opD huo (by decide) (Option.some.inj h1)), ⟨rfl, va_P.kept (tp_tlP (tp_tlP (tp_tlP hP))) (fun k q hk => hq _ (vx_lt (tp_tlP (tp_tlP (tp_tlP hP))) hk)), (tp_tlD (tp_tlD (tp_tlD hD)))⟩, ⟨Nat.le_trans hS.1 hz, fun q h1 h2 => (hq q (Nat.lt_of_lt_of_le h1 hS.1)).trans (hS.2.1 q h1 h2)⟩⟩) hS.2.2 (Nat.le_of_ble_eq_true rfl) (Nat.le_of_ble_eq_true rfl)
  · refine lv_acmp_ne (rx := some (tp_ad E uo)) (ry := some (tp_ad E 0)) (tgt := 28) hx hb d_T_show_17 (by decide) (fun _ => ?_) (fun h => absurd h h1)
    refine lv_aload_n hx hb d_T_show_28 rfl (lv_at hl 1 rfl) ?_
    refine va_get (D := tp_D E) (ci := 0) (v := .ref aB) (C := qR_T) (T := qF_T) (N := 5) hx hb htg qi_T hown hK.1 hP 2 rfl rfl 2 (by decide) (htg _ kl_T_26) (fun _ h => h) rfl d_T_show_29 ?_
    refine lv_aload_n hx hb d_T_show_32 rfl (lv_at hl 0 rfl) ?_
    refine vk_getf (v := .ref (tp_ad E (200 + uo))) hx hb (hK.txt (i := uo) huo) hS hown (htg _ kl_T_146) (fun _ h => h) d_T_show_33 ?_
    refine tp_cr (tp_rV (As := [.ref (tp_ad E (200 + uo))]) (rest := []) ⟨hx, hb, hml, hown, htg⟩ (a_SB_appS l E ((aT, .inr (0, [.ref aY, .ref aS, .ref aB, .int xl, .int xg])) :: fr) _ aB ab xm 16 fb uo (Nat.lt_of_lt_of_le huo (by decide)) (Or.inl rfl) hf) (⟨callB_of 1 htg (tp_good0 kc_SB_append_2) rfl rfl rfl (htg _ ki_SB) (htg _ kl_T_150) ⟨by decide, by decide, by decide +kernel⟩ ⟨Nat.le_of_ble_eq_true rfl, Nat.le_of_ble_eq_true rfl⟩, htg _ km_SB_append_2, htg _ kv_SB_SB_append_2⟩) (va_recv (ci := 6) (q0 := 0) hK.1 hP rfl rfl) hK hP hD hS hA rfl hl.1 rfl (Nat.le_of_ble_eq_true rfl) d_T_show_36 ⟨Nat.le_of_ble_eq_true rfl, Nat.le_of_ble_eq_true rfl⟩) hD hS hA (fun u H locs hw hP hD hS => ?_)
    obtain ⟨eq1, nq1, fq1, cq1⟩ := u
    obtain ⟨hnq1, hfq1, hcq1⟩ : (nq1 = 16 ∨ nq1 = 34) ∧ tp_fit fq1 ∧ cq1.toInt = ((tp_len.getD uo 0 : Nat) : Int) := hw
    have hP : va_P (tp_D E) tp_cl ((aB, .inr (6, [.ref eq1, .int 0, .int xm, .int cq1])) :: (eq1, .inl (tp_ty E 3, nq1, .inl fq1)) :: (aT, .inr (0, [.ref aY, .ref aS, .ref aB, .int xl, .int xg])) :: fr) H := hP
    have hD : va_D A ((aB, .inr (6, [.ref eq1, .int 0, .int xm, .int cq1])) :: (eq1, .inl (tp_ty E 3, nq1, .inl fq1)) :: (aT, .inr (0, [.ref aY, .ref aS, .ref aB, .int xl, .int xg])) :: fr) := hD
    refine lv_pop hx hb d_T_show_39 rfl ?_
    refine lv_aload_n hx hb d_T_show_40 rfl (lv_at hl 1 rfl) ?_
    refine va_get (D := tp_D E) (ci := 0) (v := .ref aB) (C := qR_T) (T := qF_T) (N := 5) hx hb htg qi_T hown hK.1 hP 2 rfl rfl 2 (by decide) (htg _ kl_T_26) (fun _ h => h) rfl d_T_show_41 ?_
    refine lv_bipush (v := 32) hx hb d_T_show_44 (by decide) ?_
    refine tp_cr (tp_rV (As := [.int 32]) (rest := []) ⟨hx, hb, hml, hown, htg⟩ (a_SB_appC l E ((aT, .inr (0, [.ref aY, .ref aS, .ref aB, .int xl, .int xg])) :: fr) _ aB eq1 xm cq1 nq1 fq1 32 hnq1 hfq1 (tp_sh1 huo hcq1) (by decide)) (⟨callB_of 1 htg (tp_good0 kc_SB_append_0) rfl rfl rfl (htg _ ki_SB) (htg _ kl_T_154) ⟨by decide, by decide, by decide +kernel⟩ ⟨Nat.le_of_ble_eq_true rfl, Nat.le_of_ble_eq_true rfl⟩, htg _ km_SB_append_0, htg _ kv_SB_SB_append_0⟩) (va_recv (ci := 6) (q0 := 0) hK.1 hP rfl rfl) hK hP hD hS hA rfl hl.1 rfl (Nat.le_of_ble_eq_true rfl) d_T_show_46 ⟨Nat.le_of_ble_eq_true rfl, Nat.le_of_ble_eq_true rfl⟩) hD hS hA (fun u H locs hw hP hD hS => ?_)
    obtain ⟨eq2, nq2, fq2⟩ := u
    obtain ⟨hnq2, hfq2⟩ : (nq2 = 16 ∨ nq2 = 34) ∧ tp_fit fq2 := hw
    have hP : va_P (tp_D E) tp_cl ((aB, .inr (6, [.ref eq2, .int 0, .int xm, .int (cq1 + 1)])) :: (eq2, .inl (tp_ty E 3, nq2, .inl fq2)) :: (aT, .inr (0, [.ref aY, .ref aS, .ref aB, .int xl, .int xg])) :: fr) H := hP
    have hD : va_D A ((aB, .inr (6, [.ref eq2, .int 0, .int xm, .int (cq1 + 1)])) :: (eq2, .inl (tp_ty E 3, nq2, .inl fq2)) :: (aT, .inr (0, [.ref aY, .ref aS, .ref aB, .int xl, .int xg])) :: fr) := hD
    refine lv_pop hx hb d_T_show_49 rfl ?_
    refine lv_iconst (v := 0) hx hb d_T_show_50 (by decide) ?_
    refine lv_istore_n (lv' := [(3, .int 0), (2, .ref (tp_ad E uo)), (0, .ref aT), (1, .int xw)]) hx hb d_T_show_51 rfl hl (by decide) rfl (fun ls hl => ?_)
    refine tp_loopC (fun j ls H locs cells slots (a : Int32 × Nat × Nat × (Nat → Int32) × Int32) => tp_S5 (fun k qv nv fv cv => ((0 ≤ k.toInt) ∧ (k.toInt + (j : Int) = (tp_len.getD (47 + uo) 0 : Nat)) ∧ (nv = 16 ∨ nv = 34) ∧ (tp_fit fv) ∧ (cv.toInt = (tp_len.getD uo 0 : Nat) + 1 + (tp_os uo xw k.toInt.toNat : Nat)) ∧ (cells = 2 + 2 * k.toInt.toNat ∧ slots = 68 + 68 * k.toInt.toNat)) ∧ lv_has ls 4 [(3, .int k), (2, .ref (tp_ad E uo)), (0, .ref aT), (1, .int xw)] ∧ va_P (tp_D E) tp_cl ((aB, .inr (6, [.ref qv, .int 0, .int xm, .int cv])) :: (qv, .inl (tp_ty E 3, nv, .inl fv)) :: (aT, .inr (0, [.ref aY, .ref aS, .ref aB, .int xl, .int xg])) :: fr) H ∧ va_D A ((aB, .inr (6, [.ref qv, .int 0, .int xm, .int cv])) :: (qv, .inl (tp_ty E 3, nv, .inl fv)) :: (aT, .inr (0, [.ref aY, .ref aS, .ref aB, .int xl, .int xg])) :: fr) ∧ va_S A s.heap H locs) a) ?_ (tp_len.getD (47 + uo) 0) (0, eq2, nq2, fq2, (cq1 + 1)) ⟨⟨show 0 ≤ (0 : Int32).toInt from by decide, show (0 : Int32).toInt + ((tp_len.getD (47 + uo) 0 : Nat) : Int) = ((tp_len.getD (47 + uo) 0 : Nat) : Int) from by rw [Int32.toInt_zero]; omega, hnq2, hfq2, tp_sh3 huo hcq1, show 2 = 2 + 2 * (0 : Int32).toInt.toNat ∧ 68 = 68 + 68 * (0 : Int32).toInt.toNat from by decide⟩, tp_lvI hl [0, 1, 2, 3] rfl, hP, hD, hS⟩
    intro j a ls H locs cells slots hI ih
    obtain ⟨k, qv, nv, fv, cv⟩ := a
    obtain ⟨⟨hk0, hkl, hnv, hfv, hcv, hce⟩, hl, hP, hD, hS⟩ : ((0 ≤ k.toInt) ∧ (k.toInt + (j : Int) = (tp_len.getD (47 + uo) 0 : Nat)) ∧ (nv = 16 ∨ nv = 34) ∧ (tp_fit fv) ∧ (cv.toInt = (tp_len.getD uo 0 : Nat) + 1 + (tp_os uo xw k.toInt.toNat : Nat)) ∧ (cells = 2 + 2 * k.toInt.toNat ∧ slots = 68 + 68 * k.toInt.toNat)) ∧ lv_has ls 4 [(3, .int k), (2, .ref (tp_ad E uo)), (0, .ref aT), (1, .int xw)] ∧ va_P (tp_D E) tp_cl ((aB, .inr (6, [.ref qv, .int 0, .int xm, .int cv])) :: (qv, .inl (tp_ty E 3, nv, .inl fv)) :: (aT, .inr (0, [.ref aY, .ref aS, .ref aB, .int xl, .int xg])) :: fr) H ∧ va_D A ((aB, .inr (6, [.ref qv, .int 0, .int xm, .int cv])) :: (qv, .inl (tp_ty E 3, nv, .inl fv)) :: (aT, .inr (0, [.ref aY, .ref aS, .ref aB, .int xl, .int xg])) :: fr) ∧ va_S A s.heap H locs := hI
    have hl7 := tp_len7 (i := 47 + uo) (by omega)
    refine lv_iload_n hx hb d_T_show_52 rfl (lv_at hl 0 rfl) ?_
    refine lv_aload_n hx hb d_T_show_53 rfl (lv_at hl 1 rfl) ?_
    refine vk_getf (v := .ref (tp_ad E (200 + (47 + uo)))) hx hb (hK.opr (i := uo) huo) hS hown (htg _ kl_T_157) (fun _ h => h) d_T_show_54 ?_
    refine tp_ci (tp_rV (As := []) (rest := [.int k]) ⟨hx, hb, hml, hown, htg⟩ (a_ST_length l E ((aB, .inr (6, [.ref qv, .int 0, .int xm, .int cv])) :: (qv, .inl (tp_ty E 3, nv, .inl fv)) :: (aT, .inr (0, [.ref aY, .ref aS, .ref aB, .int xl, .int xg])) :: fr) _ (47 + uo) (Nat.add_lt_add_left huo 47) ) (⟨callB_of 0 htg (tp_good0 kc_ST_length) rfl rfl rfl (htg _ ki_ST) (htg _ kl_T_160) ⟨by decide, by decide, by decide +kernel⟩ ⟨Nat.le_of_ble_eq_true rfl, Nat.le_of_ble_eq_true rfl⟩, htg _ km_ST_length, htg _ kv_ST_ST_length⟩) (hK.strO (i := (47 + uo)) (Nat.add_lt_add_left huo 47) hS) hK hP hD hS hA rfl hl.1 rfl (Nat.le_of_ble_eq_true rfl) d_T_show_57 ⟨Nat.le_trans (m := 18) (by omega) (Nat.le_of_ble_eq_true rfl), Nat.le_trans (m := 612) (by omega) (Nat.le_of_ble_eq_true rfl)⟩) hD hS hA (fun r u H locs hw hP hD hS => ?_)
    subst r
    have hP : va_P (tp_D E) tp_cl ((aB, .inr (6, [.ref qv, .int 0, .int xm, .int cv])) :: (qv, .inl (tp_ty E 3, nv, .inl fv)) :: (aT, .inr (0, [.ref aY, .ref aS, .ref aB, .int xl, .int xg])) :: fr) H := hP
    have hD : va_D A ((aB, .inr (6, [.ref qv, .int 0, .int xm, .int cv])) :: (qv, .inl (tp_ty E 3, nv, .inl fv)) :: (aT, .inr (0, [.ref aY, .ref aS, .ref aB, .int xl, .int xg])) :: fr) := hD
    by_cases h2 : (Int32.ofNat (tp_len.getD (47 + uo) 0)) ≤ k
    · refine lv_icmp_ge (tgt := 83) hx hb d_T_show_60 (by decide) (fun _ => ?_) (fun h => absurd h2 h)
      refine lv_aload_n hx hb d_T_show_83 rfl (lv_at hl 2 rfl) ?_
      refine va_get (D := tp_D E) (ci := 0) (v := .ref aB) (C := qR_T) (T := qF_T) (N := 5) hx hb htg qi_T hown hK.1 hP 2 rfl rfl 2 (by decide) (htg _ kl_T_26) (fun _ h => h) rfl d_T_show_84 ?_
      refine tp_ci (tp_rV (As := []) (rest := []) ⟨hx, hb, hml, hown, htg⟩ (c_SB_length_1 l E ((qv, .inl (tp_ty E 3, nv, .inl fv)) :: (aT, .inr (0, [.ref aY, .ref aS, .ref aB, .int xl, .int xg])) :: fr) _ aB qv 0 xm cv ) (⟨callB_of 0 htg (tp_good0 kc_SB_length) rfl rfl rfl (htg _ ki_SB) (htg _ kl_T_172) ⟨by decide, by decide, by decide +kernel⟩ ⟨Nat.le_of_ble_eq_true rfl, Nat.le_of_ble_eq_true rfl⟩, htg _ km_SB_length, htg _ kv_SB_SB_length⟩) (va_recv (ci := 6) (q0 := 0) hK.1 hP rfl rfl) hK hP hD hS hA rfl hl.1 rfl (Nat.le_of_ble_eq_true rfl) d_T_show_87 ⟨Nat.le_trans (m := 18) (by omega) (Nat.le_of_ble_eq_true rfl), Nat.le_trans (m := 612) (by omega) (Nat.le_of_ble_eq_true rfl)⟩) hD hS hA (fun r u H locs hw hP hD hS => ?_)
      subst r
      have hP : va_P (tp_D E) tp_cl ((aB, .inr (6, [.ref qv, .int 0, .int xm, .int cv])) :: (qv, .inl (tp_ty E 3, nv, .inl fv)) :: (aT, .inr (0, [.ref aY, .ref aS, .ref aB, .int xl, .int xg])) :: fr) H := hP
      have hD : va_D A ((aB, .inr (6, [.ref qv, .int 0, .int xm, .int cv])) :: (qv, .inl (tp_ty E 3, nv, .inl fv)) :: (aT, .inr (0, [.ref aY, .ref aS, .ref aB, .int xl, .int xg])) :: fr) := hD
      exact tp_widen (k := 18) (n := 612) (by omega) (by omega) (vx_ret (W.iret (v := cv) hx hb hr (fun t ht hW => ⟨⟨_, uo, rfl, ⟨hhit, fun e => h1 (by rw [e]), tp_sh5 hl7 hk0 hkl h2 hcv⟩, by rw [ht]; exact (tp_tlP (tp_tlP (tp_tlP hP))), (tp_tlD (tp_tlD (tp_tlD hD)))⟩, hS.F ht⟩) hS.2.2 d_T_show_90))
    · refine lv_icmp_ge (tgt := 83) hx hb d_T_show_60 (by decide) (fun h => absurd h h2) (fun _ => ?_)
      refine lv_aload_n hx hb d_T_show_63 rfl (lv_at hl 2 rfl) ?_
      refine lv_aload_n hx hb d_T_show_64 rfl (lv_at hl 1 rfl) ?_
      refine lv_aload_n hx hb d_T_show_65 rfl (lv_at hl 1 rfl) ?_
      refine vk_getf (v := .ref (tp_ad E (200 + (47 + uo)))) hx hb (hK.opr (i := uo) huo) hS hown (htg _ kl_T_157) (fun _ h => h) d_T_show_66 ?_
      refine lv_iload_n hx hb d_T_show_69 rfl (lv_at hl 0 rfl) ?_
      refine tp_ci (tp_rV (As := [.int k]) (rest := [.ref (tp_ad E uo), .ref aT]) ⟨hx, hb, hml, hown, htg⟩ (a_ST_charAt l E ((aB, .inr (6, [.ref qv, .int 0, .int xm, .int cv])) :: (qv, .inl (tp_ty E 3, nv, .inl fv)) :: (aT, .inr (0, [.ref aY, .ref aS, .ref aB, .int xl, .int xg])) :: fr) _ (47 + uo) (Nat.add_lt_add_left huo 47) k (tp_nn hk0) (Int32.not_le.mp h2)) (⟨callB_of 1 htg (tp_good0 kc_ST_charAt) rfl rfl rfl (htg _ ki_ST) (htg _ kl_T_164) ⟨by decide, by decide, by decide +kernel⟩ ⟨Nat.le_of_ble_eq_true rfl, Nat.le_of_ble_eq_true rfl⟩, htg _ km_ST_charAt, htg _ kv_ST_ST_charAt⟩) (hK.strO (i := (47 + uo)) (Nat.add_lt_add_left huo 47) hS) hK hP hD hS hA rfl hl.1 rfl (Nat.le_of_ble_eq_true rfl) d_T_show_70 ⟨Nat.le_trans (m := 18) (by omega) (Nat.le_of_ble_eq_true rfl), Nat.le_trans (m := 612) (by omega) (Nat.le_of_ble_eq_true rfl)⟩) hD hS hA (fun r u H locs hw hP hD hS => ?_)
      subst r
      have hP : va_P (tp_D E) tp_cl ((aB, .inr (6, [.ref qv, .int 0, .int xm, .int cv])) :: (qv, .inl (tp_ty E 3, nv, .inl fv)) :: (aT, .inr (0, [.ref aY, .ref aS, .ref aB, .int xl, .int xg])) :: fr) H := hP
      have hD : va_D A ((aB, .inr (6, [.ref qv, .int 0, .int xm, .int cv])) :: (qv, .inl (tp_ty E 3, nv, .inl fv)) :: (aT, .inr (0, [.ref aY, .ref aS, .ref aB, .int xl, .int xg])) :: fr) := hD
      refine lv_iload_n hx hb d_T_show_73 rfl (lv_at hl 3 rfl) ?_
      have hP : va_P (tp_D E) tp_cl ((qv, .inl (tp_ty E 3, nv, .inl fv)) :: (aB, .inr (6, [.ref qv, .int 0, .int xm, .int cv])) :: (aT, .inr (0, [.ref aY, .ref aS, .ref aB, .int xl, .int xg])) :: fr) _ := tp_mvP 1 rfl hP
      have hD : va_D A ((qv, .inl (tp_ty E 3, nv, .inl fv)) :: (aB, .inr (6, [.ref qv, .int 0, .int xm, .int cv])) :: (aT, .inr (0, [.ref aY, .ref aS, .ref aB, .int xl, .int xg])) :: fr) := tp_mvD 1 rfl hD
      have hP : va_P (tp_D E) tp_cl ((aB, .inr (6, [.ref qv, .int 0, .int xm, .int cv])) :: (qv, .inl (tp_ty E 3, nv, .inl fv)) :: (aT, .inr (0, [.ref aY, .ref aS, .ref aB, .int xl, .int xg])) :: fr) _ := tp_mvP 1 rfl hP
      have hD : va_D A ((aB, .inr (6, [.ref qv, .int 0, .int xm, .int cv])) :: (qv, .inl (tp_ty E 3, nv, .inl fv)) :: (aT, .inr (0, [.ref aY, .ref aS, .ref aB, .int xl, .int xg])) :: fr) := tp_mvD 1 rfl hD
      have hP : va_P (tp_D E) tp_cl ((aT, .inr (0, [.ref aY, .ref aS, .ref aB, .int xl, .int xg])) :: (aB, .inr (6, [.ref qv, .int 0, .int xm, .int cv])) :: (qv, .inl (tp_ty E 3, nv, .inl fv)) :: fr) _ := tp_mvP 2 rfl hP
      have hD : va_D A ((aT, .inr (0, [.ref aY, .ref aS, .ref aB, .int xl, .int xg])) :: (aB, .inr (6, [.ref qv, .int 0, .int xm, .int cv])) :: (qv, .inl (tp_ty E 3, nv, .inl fv)) :: fr) := tp_mvD 2 rfl hD
      refine tp_cv (tp_rV (As := [.ref (tp_ad E uo), .int ((tp_byt.getD (47 + uo) []).getD k.toNatClampNeg 0), .int xw]) (rest := []) ⟨hx, hb, hml, hown, htg⟩ (a_T_writeOperand l E fr _ aT aY aS xl xg aB qv xm cv nv fv uo huo ((tp_byt.getD (47 + uo) []).getD k.toNatClampNeg 0) xw hnv hfv (tp_sh4 huo hk0 (tp_klt hl7 h2) hcv) (tp_ch255 (i := 47 + uo) (by omega))) (⟨callB_of 3 htg (tp_good0 kc_T_writeOperand) rfl rfl rfl (htg _ ki_T) (htg _ kl_T_168) ⟨by decide, by decide, by decide +kernel⟩ ⟨Nat.le_of_ble_eq_true rfl, Nat.le_of_ble_eq_true rfl⟩, htg _ km_T_writeOperand, htg _ kp_T_writeOperand⟩) (va_recv (ci := 0) (q0 := 0) hK.1 hP rfl rfl) hK hP hD hS hA rfl hl.1 rfl (Nat.le_of_ble_eq_true rfl) d_T_show_74 ⟨Nat.le_trans (m := 18) (by omega) (Nat.le_of_ble_eq_true rfl), Nat.le_trans (m := 612) (by omega) (Nat.le_of_ble_eq_true rfl)⟩) hD hS hA (fun u H locs hw hP hD hS => ?_)
      obtain ⟨eq3, nq3, fq3, cq3⟩ := u
      obtain ⟨hnq3, hfq3, hcq3⟩ : (nq3 = 16 ∨ nq3 = 34) ∧ tp_fit fq3 ∧ cq3.toInt = cv.toInt + (tp_ol uo ((tp_byt.getD (47 + uo) []).getD k.toNatClampNeg 0) xw : Int) := hw
      have hP : va_P (tp_D E) tp_cl ((aT, .inr (0, [.ref aY, .ref aS, .ref aB, .int xl, .int xg])) :: (aB, .inr (6, [.ref eq3, .int 0, .int xm, .int cq3])) :: (eq3, .inl (tp_ty E 3, nq3, .inl fq3)) :: fr) H := hP
      have hD : va_D A ((aT, .inr (0, [.ref aY, .ref aS, .ref aB, .int xl, .int xg])) :: (aB, .inr (6, [.ref eq3, .int 0, .int xm, .int cq3])) :: (eq3, .inl (tp_ty E 3, nq3, .inl fq3)) :: fr) := hD
      refine lv_iinc (k := 0) (v := (k + 1)) (lv' := [(3, .int (k + 1)), (2, .ref (tp_ad E uo)), (0, .ref aT), (1, .int xw)]) hx hb d_T_show_77 hl rfl rfl (by decide) rfl (fun ls hl => ?_)
      refine lv_goto (tgt := 52) hx hb d_T_show_80 (by decide) ?_
      have hP : va_P (tp_D E) tp_cl ((aT, .inr (0, [.ref aY, .ref aS, .ref aB, .int xl, .int xg])) :: (aB, .inr (6, [.ref eq3, .int 0, .int xm, .int cq3])) :: (eq3, .inl (tp_ty E 3, nq3, .inl fq3)) :: fr) _ := tp_mvP 0 rfl hP
      have hD : va_D A ((aT, .inr (0, [.ref aY, .ref aS, .ref aB, .int xl, .int xg])) :: (aB, .inr (6, [.ref eq3, .int 0, .int xm, .int cq3])) :: (eq3, .inl (tp_ty E 3, nq3, .inl fq3)) :: fr) := tp_mvD 0 rfl hD
      have hP : va_P (tp_D E) tp_cl ((eq3, .inl (tp_ty E 3, nq3, .inl fq3)) :: (aT, .inr (0, [.ref aY, .ref aS, .ref aB, .int xl, .int xg])) :: (aB, .inr (6, [.ref eq3, .int 0, .int xm, .int cq3])) :: fr) _ := tp_mvP 2 rfl hP
      have hD : va_D A ((eq3, .inl (tp_ty E 3, nq3, .inl fq3)) :: (aT, .inr (0, [.ref aY, .ref aS, .ref aB, .int xl, .int xg])) :: (aB, .inr (6, [.ref eq3, .int 0, .int xm, .int cq3])) :: fr) := tp_mvD 2 rfl hD
      have hP : va_P (tp_D E) tp_cl ((aB, .inr (6, [.ref eq3, .int 0, .int xm, .int cq3])) :: (eq3, .inl (tp_ty E 3, nq3, .inl fq3)) :: (aT, .inr (0, [.ref aY, .ref aS, .ref aB, .int xl, .int xg])) :: fr) _ := tp_mvP 2 rfl hP
      have hD : va_D A ((aB, .inr (6, [.ref eq3, .int 0, .int xm, .int cq3])) :: (eq3, .inl (tp_ty E 3, nq3, .inl fq3)) :: (aT, .inr (0, [.ref aY, .ref aS, .ref aB, .int xl, .int xg])) :: fr) := tp_mvD 2 rfl hD
      have hlt := (tp_klt hl7 h2)
      have hk1 : (k + 1).toInt = k.toInt + 1 := tp_inc (by omega)
      have e2 : (k + 1).toInt.toNat = k.toInt.toNat + 1 := by omega
      have f5 : cq3.toInt = (tp_len.getD uo 0 : Nat) + 1 + (tp_os uo xw (k + 1).toInt.toNat : Nat) := by rw [e2, hcq3, hcv, tp_os_succ hk0]; omega
      have f1 : 0 ≤ (k + 1).toInt := by omega
      have f2 : (k + 1).toInt + ((j - 1 : Nat) : Int) = ((tp_len.getD (47 + uo) 0 : Nat) : Int) := by omega
      have f6 : cells + 0 + 0 + 2 = 2 + 2 * (k + 1).toInt.toNat ∧ slots + 0 + 0 + 68 = 68 + 68 * (k + 1).toInt.toNat := by omega
      exact ih (j - 1) (k + 1, eq3, nq3, fq3, cq3) ls _ _ _ _ (by omega) ⟨⟨f1, f2, hnq3, hfq3, f5, f6⟩, tp_lvI hl [0, 1, 2, 3] rfl, hP, hD, hS⟩
