set_option maxHeartbeats 400000 in
set_option maxRecDepth 100000 in
theorem c_Y_init_1 (l : Launch) (E : tp_Env) (fr : va_W) (sz : Nat) (a1 : Nat) (x2 : Int32) (x3 : Int32) (x4 : Int32) (x5 : Int32) (x6 : Int32)  : Met l y_Y_init w_Y_init ({ frames := 1, cells := 1, slots := 28, locals := 12 }) (va_Pc [.ref a1] (tp_in E ((a1, .inr (1, [.null, .int x2, .int x3, .int x4, .int x5, .int x6])) :: fr) sz)) (va_Qv (fun (u : Nat) => True) (fun u t => tp_out E (va_A ((a1, .inr (1, [.null, .int x2, .int x3, .int x4, .int x5, .int x6])) :: fr) sz) ((u, .inl (tp_ty E 4, 28, .inl (fun _ => 0))) :: (a1, .inr (1, [.ref u, .int x2, .int x3, .int x4, .int x5, .int x6])) :: fr) t) (va_A ((a1, .inr (1, [.null, .int x2, .int x3, .int x4, .int x5, .int x6])) :: fr) sz)) 1 28 (va_A ((a1, .inr (1, [.null, .int x2, .int x3, .int x4, .int x5, .int x6])) :: fr) sz) := by
  refine Met.ofW (cc := b_Y_init) (maxL := 1) (ret := none) (by decide) rfl ?_
  intro p e s m args below meth c s₁ B hml hv
  obtain ⟨rfl, hsz, hP, hK, hD0⟩ := hv
  have hx := B.exec
  have hb := B.bytes
  have hr := B.returns
  have htg : ∀ w ∈ tp_G, w.before ([.ref a1] : List Value).toArray s = true := fun w h => atoms_spec (ws := w_Y_init) B.pre w (List.mem_cons_of_mem _ h)
  have hown : s.vm.findClass "TwoPass$Typed" = some m.cls := findClass_of_methodNamed B.named
  have hlocks := B.notSynchronized
  have hin : meth.name = "<init>" := (name_of_methodNamed B.named B.method).1
  subst hsz
  have hD := hD0.self (sz := s.heap.size)
  generalize hAe : va_A ((a1, .inr (1, [.null, .int x2, .int x3, .int x4, .int x5, .int x6])) :: fr) s.heap.size = A at hD hK ⊢
  have hA : ∀ q : Nat, s.heap.size ≤ q → A q := fun q h => by rw [← hAe]; exact Or.inr h
  have hS : va_S A s.heap s.heap [] := va_S.rf
  have hl := lv_entry ([.ref a1]) (n := 1) (Nat.le_of_ble_eq_true rfl)
  rw [lg_entry_eq]
  generalize (lg_sl ([.ref a1]) ++ List.replicate (1 - (lg_sl ([.ref a1])).length) Slot.unset).toArray = ls at hl ⊢
  have hl : lv_has ls 1 [(0, .ref a1)] := hl
  refine lv_aload_n hx hb d_Y_init_0 rfl (lv_at hl 0 rfl) ?_
  refine W.objInit hx hb hown (htg _ kl_Y_3) (htg _ km_obj) (htg _ kc_obj) rfl (by rw [hml]; exact hl.1) rfl d_Y_init_1 (Nat.le_of_ble_eq_true rfl) (Nat.le_of_ble_eq_true rfl) ?_
  refine W.eq (g2 := F0 m 4 ls []) rfl ?_
  refine lv_aload_n hx hb d_Y_init_4 rfl (lv_at hl 0 rfl) ?_
  refine lv_bipush (v := 28) hx hb d_Y_init_5 (by decide) ?_
  refine tp_newa 4 (atype := .char) (ty := .char) (a0 := (28, .inl (fun _ => 0))) (N' := 28) hx hb (htg _ kar_C) rfl rfl (fun _ h => by cases h) hK hP hD hS hA (fun _ => rfl) (by decide) (by decide) (by decide) (Nat.le_of_ble_eq_true rfl) (Nat.le_of_ble_eq_true rfl) d_Y_init_7 (fun q1 H hP hD hS => ?_)
  have hP : va_P (tp_D E) tp_cl ((q1, .inl (tp_ty E 4, 28, .inl (fun _ => 0))) :: (a1, .inr (1, [.null, .int x2, .int x3, .int x4, .int x5, .int x6])) :: fr) H := hP
  have hD : va_D A ((q1, .inl (tp_ty E 4, 28, .inl (fun _ => 0))) :: (a1, .inr (1, [.null, .int x2, .int x3, .int x4, .int x5, .int x6])) :: fr) := hD
  refine va_putF (D := tp_D E) (ci := 1) (v := .ref q1) (ty := (.array .char)) (C := qR_Y) (T := qF_Y) (N := 6) hx hb htg qi_Y qt_Y qt_Y_ok qn_Y hown hK.1 hP hD hS 1 rfl rfl 0 (by decide) (htg _ kl_Y_9) (fun _ h => h) rfl hin rfl (by decide +kernel) rfl rfl (Nat.le_of_ble_eq_true rfl) d_Y_init_9 (fun H locs hP hD hS => ?_)
  have hP : va_P (tp_D E) tp_cl ((q1, .inl (tp_ty E 4, 28, .inl (fun _ => 0))) :: (a1, .inr (1, [.ref q1, .int x2, .int x3, .int x4, .int x5, .int x6])) :: fr) H := hP
  have hD : va_D A ((q1, .inl (tp_ty E 4, 28, .inl (fun _ => 0))) :: (a1, .inr (1, [.ref q1, .int x2, .int x3, .int x4, .int x5, .int x6])) :: fr) := hD
  exact W.vret hx hb hr (fun t ht hW => ⟨⟨q1, rfl, trivial, by rw [ht]; exact hP, hD⟩, hS.F ht⟩) hS.2.2 d_Y_init_12
set_option maxHeartbeats 400000 in
set_option maxRecDepth 100000 in
theorem c_AC_init_1 (l : Launch) (E : tp_Env) (fr : va_W) (sz : Nat) (a1 : Nat)  : Met l y_AC_init w_AC_init ({ frames := 1, cells := 0, slots := 0, locals := 12 }) (va_Pc [.ref a1] (tp_in E fr sz)) (va_Qv (fun (_ : Unit) => True) (fun _ t => tp_out E (va_A fr sz) fr t) (va_A fr sz)) 0 0 (va_A fr sz) := by
  refine Met.ofW (cc := b_AC_init) (maxL := 1) (ret := none) (by decide) rfl ?_
  intro p e s m args below meth c s₁ B hml hv
  obtain ⟨rfl, hsz, hP, hK, hD0⟩ := hv
  have hx := B.exec
  have hb := B.bytes
  have hr := B.returns
  have htg : ∀ w ∈ tp_G, w.before ([.ref a1] : List Value).toArray s = true := fun w h => atoms_spec (ws := w_AC_init) B.pre w (List.mem_cons_of_mem _ h)
  have hown : s.vm.findClass "java/util/AbstractCollection" = some m.cls := findClass_of_methodNamed B.named
  have hlocks := B.notSynchronized
  have hin : meth.name = "<init>" := (name_of_methodNamed B.named B.method).1
  subst hsz
  have hD := hD0.self (sz := s.heap.size)
  generalize hAe : va_A fr s.heap.size = A at hD hK ⊢
  have hA : ∀ q : Nat, s.heap.size ≤ q → A q := fun q h => by rw [← hAe]; exact Or.inr h
  have hS : va_S A s.heap s.heap [] := va_S.rf
  have hl := lv_entry ([.ref a1]) (n := 1) (Nat.le_of_ble_eq_true rfl)
  rw [lg_entry_eq]
  generalize (lg_sl ([.ref a1]) ++ List.replicate (1 - (lg_sl ([.ref a1])).length) Slot.unset).toArray = ls at hl ⊢
  have hl : lv_has ls 1 [(0, .ref a1)] := hl
  refine lv_aload_n hx hb d_AC_init_0 rfl (lv_at hl 0 rfl) ?_
  refine W.objInit hx hb hown (htg _ kl_AC_1) (htg _ km_obj) (htg _ kc_obj) rfl (by rw [hml]; exact hl.1) rfl d_AC_init_1 (Nat.le_of_ble_eq_true rfl) (Nat.le_of_ble_eq_true rfl) ?_
  refine W.eq (g2 := F0 m 4 ls []) rfl ?_
  exact W.vret hx hb hr (fun t ht hW => ⟨⟨(), rfl, trivial, by rw [ht]; exact hP, hD⟩, hS.F ht⟩) hS.2.2 d_AC_init_4
set_option maxHeartbeats 400000 in
set_option maxRecDepth 100000 in
theorem c_AB_init_1 (l : Launch) (E : tp_Env) (fr : va_W) (sz : Nat) (a1 : Nat) (x2 : Int32) (x3 : Int32)  : Met l y_AB_init w_AB_init ({ frames := 2, cells := 0, slots := 0, locals := 32 }) (va_Pc [.ref a1] (tp_in E ((a1, .inr (5, [.int x2, .null, .int x3])) :: fr) sz)) (va_Qv (fun (_ : Unit) => True) (fun _ t => tp_out E (va_A ((a1, .inr (5, [.int x2, .null, .int x3])) :: fr) sz) ((a1, .inr (5, [.int 0, .null, .int x3])) :: fr) t) (va_A ((a1, .inr (5, [.int x2, .null, .int x3])) :: fr) sz)) 0 0 (va_A ((a1, .inr (5, [.int x2, .null, .int x3])) :: fr) sz) := by
  refine Met.ofW (cc := b_AB_init) (maxL := 1) (ret := none) (by decide) rfl ?_
  intro p e s m args below meth c s₁ B hml hv
  obtain ⟨rfl, hsz, hP, hK, hD0⟩ := hv
  have hx := B.exec
  have hb := B.bytes
  have hr := B.returns
  have htg : ∀ w ∈ tp_G, w.before ([.ref a1] : List Value).toArray s = true := fun w h => atoms_spec (ws := w_AB_init) B.pre w (List.mem_cons_of_mem _ h)
  have hown : s.vm.findClass "java/util/AbstractList" = some m.cls := findClass_of_methodNamed B.named
  have hlocks := B.notSynchronized
  have hin : meth.name = "<init>" := (name_of_methodNamed B.named B.method).1
  subst hsz
  have hD := hD0.self (sz := s.heap.size)
  generalize hAe : va_A ((a1, .inr (5, [.int x2, .null, .int x3])) :: fr) s.heap.size = A at hD hK ⊢
  have hA : ∀ q : Nat, s.heap.size ≤ q → A q := fun q h => by rw [← hAe]; exact Or.inr h
  have hS : va_S A s.heap s.heap [] := va_S.rf
  have hl := lv_entry ([.ref a1]) (n := 1) (Nat.le_of_ble_eq_true rfl)
  rw [lg_entry_eq]
  generalize (lg_sl ([.ref a1]) ++ List.replicate (1 - (lg_sl ([.ref a1])).length) Slot.unset).toArray = ls at hl ⊢
  have hl : lv_has ls 1 [(0, .ref a1)] := hl
  refine lv_aload_n hx hb d_AB_init_0 rfl (lv_at hl 0 rfl) ?_
  refine tp_cv (tp_rI (As := []) (rest := []) ⟨hx, hb, hml, hown, htg⟩ (c_AC_init_1 l E ((a1, .inr (5, [.int x2, .null, .int x3])) :: fr) _ a1 ) (⟨callB_of 0 htg (tp_good0 kc_AC_init) rfl rfl rfl (htg _ ki_AC) (htg _ kl_AB_1) ⟨by decide, by decide, by decide +kernel⟩ ⟨Nat.le_of_ble_eq_true rfl, Nat.le_of_ble_eq_true rfl⟩, rfl, htg _ km_AC_init⟩) hK hP hD hS hA rfl hl.1 rfl (Nat.le_of_ble_eq_true rfl) d_AB_init_1 ⟨Nat.le_of_ble_eq_true rfl, Nat.le_of_ble_eq_true rfl⟩) hD hS hA (fun u H locs _ hP hD hS => ?_)
  have hP : va_P (tp_D E) tp_cl ((a1, .inr (5, [.int x2, .null, .int x3])) :: fr) H := hP
  have hD : va_D A ((a1, .inr (5, [.int x2, .null, .int x3])) :: fr) := hD
  refine lv_aload_n hx hb d_AB_init_4 rfl (lv_at hl 0 rfl) ?_
  refine lv_iconst (v := 0) hx hb d_AB_init_5 (by decide) ?_
  refine va_put (D := tp_D E) (ci := 5) (v := .int 0) (ty := .int) (C := qR_AL) (T := qF_AL) (N := 3) hx hb htg qi_AL qt_AL qt_AL_ok qn_AL hown hK.1 hP hD hS 0 rfl rfl 0 (by decide) (htg _ kl_AB_7) (fun _ h => h) rfl (by decide +kernel) rfl rfl (Nat.le_of_ble_eq_true rfl) d_AB_init_6 (fun H locs hP hD hS => ?_)
  have hP : va_P (tp_D E) tp_cl ((a1, .inr (5, [.int 0, .null, .int x3])) :: fr) H := hP
  have hD : va_D A ((a1, .inr (5, [.int 0, .null, .int x3])) :: fr) := hD
  exact W.vret hx hb hr (fun t ht hW => ⟨⟨(), rfl, trivial, by rw [ht]; exact hP, hD⟩, hS.F ht⟩) hS.2.2 d_AB_init_9
set_option maxHeartbeats 400000 in
set_option maxRecDepth 100000 in
theorem c_AL_init_1 (l : Launch) (E : tp_Env) (fr : va_W) (sz : Nat) (a1 : Nat) (x2 : Int32) (x3 : Int32)  : Met l y_AL_init w_AL_init ({ frames := 3, cells := 0, slots := 0, locals := 52 }) (va_Pc [.ref a1] (tp_in E ((a1, .inr (5, [.int x2, .null, .int x3])) :: fr) sz)) (va_Qv (fun (_ : Unit) => True) (fun _ t => tp_out E (va_A ((a1, .inr (5, [.int x2, .null, .int x3])) :: fr) sz) ((a1, .inr (5, [.int 0, .ref (tp_ad E 100), .int x3])) :: fr) t) (va_A ((a1, .inr (5, [.int x2, .null, .int x3])) :: fr) sz)) 0 0 (va_A ((a1, .inr (5, [.int x2, .null, .int x3])) :: fr) sz) := by
  refine Met.ofW (cc := b_AL_init) (maxL := 1) (ret := none) (by decide) rfl ?_
  intro p e s m args below meth c s₁ B hml hv
  obtain ⟨rfl, hsz, hP, hK, hD0⟩ := hv
  have hx := B.exec
  have hb := B.bytes
  have hr := B.returns
  have htg : ∀ w ∈ tp_G, w.before ([.ref a1] : List Value).toArray s = true := fun w h => atoms_spec (ws := w_AL_init) B.pre w (List.mem_cons_of_mem _ h)
  have hown : s.vm.findClass "java/util/ArrayList" = some m.cls := findClass_of_methodNamed B.named
  have hlocks := B.notSynchronized
  have hin : meth.name = "<init>" := (name_of_methodNamed B.named B.method).1
  subst hsz
  have hD := hD0.self (sz := s.heap.size)
  generalize hAe : va_A ((a1, .inr (5, [.int x2, .null, .int x3])) :: fr) s.heap.size = A at hD hK ⊢
  have hA : ∀ q : Nat, s.heap.size ≤ q → A q := fun q h => by rw [← hAe]; exact Or.inr h
  have hS : va_S A s.heap s.heap [] := va_S.rf
  have hl := lv_entry ([.ref a1]) (n := 1) (Nat.le_of_ble_eq_true rfl)
  rw [lg_entry_eq]
  generalize (lg_sl ([.ref a1]) ++ List.replicate (1 - (lg_sl ([.ref a1])).length) Slot.unset).toArray = ls at hl ⊢
  have hl : lv_has ls 1 [(0, .ref a1)] := hl
  refine lv_aload_n hx hb d_AL_init_0 rfl (lv_at hl 0 rfl) ?_
  refine tp_cv (tp_rI (As := []) (rest := []) ⟨hx, hb, hml, hown, htg⟩ (c_AB_init_1 l E fr _ a1 x2 x3 ) (⟨callB_of 0 htg (tp_good0 kc_AB_init) rfl rfl rfl (htg _ ki_AB) (htg _ kl_AL_1) ⟨by decide, by decide, by decide +kernel⟩ ⟨Nat.le_of_ble_eq_true rfl, Nat.le_of_ble_eq_true rfl⟩, rfl, htg _ km_AB_init⟩) hK hP hD hS hA rfl hl.1 rfl (Nat.le_of_ble_eq_true rfl) d_AL_init_1 ⟨Nat.le_of_ble_eq_true rfl, Nat.le_of_ble_eq_true rfl⟩) hD hS hA (fun u H locs _ hP hD hS => ?_)
  have hP : va_P (tp_D E) tp_cl ((a1, .inr (5, [.int 0, .null, .int x3])) :: fr) H := hP
  have hD : va_D A ((a1, .inr (5, [.int 0, .null, .int x3])) :: fr) := hD
  refine lv_aload_n hx hb d_AL_init_4 rfl (lv_at hl 0 rfl) ?_
  refine va_gets (v := .ref (tp_ad E 100)) hx hb hK.C.2.1 hS hown (htg _ kl_AL_39) (fun _ h => h) d_AL_init_5 ?_
  refine va_put (D := tp_D E) (ci := 5) (v := .ref (tp_ad E 100)) (ty := (.array (.object "java/lang/Object"))) (C := qR_AL) (T := qF_AL) (N := 3) hx hb htg qi_AL qt_AL qt_AL_ok qn_AL hown hK.1 hP hD hS 0 rfl rfl 1 (by decide) (htg _ kl_AL_9) (fun _ h => h) rfl (by decide +kernel) rfl rfl (Nat.le_of_ble_eq_true rfl) d_AL_init_8 (fun H locs hP hD hS => ?_)
  have hP : va_P (tp_D E) tp_cl ((a1, .inr (5, [.int 0, .ref (tp_ad E 100), .int x3])) :: fr) H := hP
  have hD : va_D A ((a1, .inr (5, [.int 0, .ref (tp_ad E 100), .int x3])) :: fr) := hD
  exact W.vret hx hb hr (fun t ht hW => ⟨⟨(), rfl, trivial, by rw [ht]; exact hP, hD⟩, hS.F ht⟩) hS.2.2 d_AL_init_11
set_option maxHeartbeats 400000 in
set_option maxRecDepth 100000 in
theorem c_S_init_1 (l : Launch) (E : tp_Env) (fr : va_W) (sz : Nat) (a1 : Nat)  : Met l y_S_init w_S_init ({ frames := 4, cells := 1, slots := 3, locals := 72 }) (va_Pc [.ref a1] (tp_in E ((a1, .inr (2, [.null])) :: fr) sz)) (va_Qv (fun (u : Nat) => True) (fun u t => tp_out E (va_A ((a1, .inr (2, [.null])) :: fr) sz) ((u, .inr (5, [.int 0, .ref (tp_ad E 100), .int 0])) :: (a1, .inr (2, [.ref u])) :: fr) t) (va_A ((a1, .inr (2, [.null])) :: fr) sz)) 1 3 (va_A ((a1, .inr (2, [.null])) :: fr) sz) := by
  refine Met.ofW (cc := b_S_init) (maxL := 1) (ret := none) (by decide) rfl ?_
  intro p e s m args below meth c s₁ B hml hv
  obtain ⟨rfl, hsz, hP, hK, hD0⟩ := hv
  have hx := B.exec
  have hb := B.bytes
  have hr := B.returns
  have htg : ∀ w ∈ tp_G, w.before ([.ref a1] : List Value).toArray s = true := fun w h => atoms_spec (ws := w_S_init) B.pre w (List.mem_cons_of_mem _ h)
  have hown : s.vm.findClass "TwoPass$Source" = some m.cls := findClass_of_methodNamed B.named
  have hlocks := B.notSynchronized
  have hin : meth.name = "<init>" := (name_of_methodNamed B.named B.method).1
  subst hsz
  have hD := hD0.self (sz := s.heap.size)
  generalize hAe : va_A ((a1, .inr (2, [.null])) :: fr) s.heap.size = A at hD hK ⊢
  have hA : ∀ q : Nat, s.heap.size ≤ q → A q := fun q h => by rw [← hAe]; exact Or.inr h
  have hS : va_S A s.heap s.heap [] := va_S.rf
  have hl := lv_entry ([.ref a1]) (n := 1) (Nat.le_of_ble_eq_true rfl)
  rw [lg_entry_eq]
  generalize (lg_sl ([.ref a1]) ++ List.replicate (1 - (lg_sl ([.ref a1])).length) Slot.unset).toArray = ls at hl ⊢
  have hl : lv_has ls 1 [(0, .ref a1)] := hl
  refine lv_aload_n hx hb d_S_init_0 rfl (lv_at hl 0 rfl) ?_
  refine W.objInit hx hb hown (htg _ kl_S_3) (htg _ km_obj) (htg _ kc_obj) rfl (by rw [hml]; exact hl.1) rfl d_S_init_1 (Nat.le_of_ble_eq_true rfl) (Nat.le_of_ble_eq_true rfl) ?_
  refine W.eq (g2 := F0 m 4 ls []) rfl ?_
  refine lv_aload_n hx hb d_S_init_4 rfl (lv_at hl 0 rfl) ?_
  refine va_new (D := tp_D E) (ci := 5) (fs := [.int 0, .null, .int 0]) (C := qR_AL) (T := qF_AL) (N := 3) hx hb htg qi_AL qt_AL qt_AL_ok hown (htg _ kl_S_9) (htg _ kn_AL) (htg _ ki_AL) hK.1 hP hD hS hA rfl (by decide +kernel) (Nat.le_of_ble_eq_true rfl) (Nat.le_of_ble_eq_true rfl) d_S_init_5 (fun q1 H hP hD hS => ?_)
  have hP := tp_frP hP
  have hD := tp_frD hD
  have hP : va_P (tp_D E) tp_cl ((q1, .inr (5, [.int 0, .null, .int 0])) :: (a1, .inr (2, [.null])) :: fr) H := hP
  have hD : va_D A ((q1, .inr (5, [.int 0, .null, .int 0])) :: (a1, .inr (2, [.null])) :: fr) := hD
  refine lv_dup hx hb d_S_init_8 rfl ?_
  refine tp_cv (tp_rI (As := []) (rest := [.ref q1, .ref a1]) ⟨hx, hb, hml, hown, htg⟩ (c_AL_init_1 l E ((a1, .inr (2, [.null])) :: fr) _ q1 0 0 ) (⟨callB_of 0 htg (tp_good0 kc_AL_init) rfl rfl rfl (htg _ ki_AL) (htg _ kl_S_11) ⟨by decide, by decide, by decide +kernel⟩ ⟨Nat.le_of_ble_eq_true rfl, Nat.le_of_ble_eq_true rfl⟩, rfl, htg _ km_AL_init⟩) hK hP hD hS hA rfl hl.1 rfl (Nat.le_of_ble_eq_true rfl) d_S_init_9 ⟨Nat.le_of_ble_eq_true rfl, Nat.le_of_ble_eq_true rfl⟩) hD hS hA (fun u H locs _ hP hD hS => ?_)
  have hP : va_P (tp_D E) tp_cl ((q1, .inr (5, [.int 0, .ref (tp_ad E 100), .int 0])) :: (a1, .inr (2, [.null])) :: fr) H := hP
  have hD : va_D A ((q1, .inr (5, [.int 0, .ref (tp_ad E 100), .int 0])) :: (a1, .inr (2, [.null])) :: fr) := hD
  refine va_putF (D := tp_D E) (ci := 2) (v := .ref q1) (ty := (.object "java/util/ArrayList")) (C := qR_S) (T := qF_S) (N := 1) hx hb htg qi_S qt_S qt_S_ok qn_S hown hK.1 hP hD hS 1 rfl rfl 0 (by decide) (htg _ kl_S_12) (fun _ h => h) rfl hin rfl (by decide +kernel) rfl rfl (Nat.le_of_ble_eq_true rfl) d_S_init_12 (fun H locs hP hD hS => ?_)
  have hP : va_P (tp_D E) tp_cl ((q1, .inr (5, [.int 0, .ref (tp_ad E 100), .int 0])) :: (a1, .inr (2, [.ref q1])) :: fr) H := hP
  have hD : va_D A ((q1, .inr (5, [.int 0, .ref (tp_ad E 100), .int 0])) :: (a1, .inr (2, [.ref q1])) :: fr) := hD
  exact W.vret hx hb hr (fun t ht hW => ⟨⟨q1, rfl, trivial, by rw [ht]; exact hP, hD⟩, hS.F ht⟩) hS.2.2 d_S_init_15
set_option maxHeartbeats 400000 in
set_option maxRecDepth 100000 in
theorem c_AS_init_1 (l : Launch) (E : tp_Env) (fr : va_W) (sz : Nat) (a1 : Nat) (x2 : Int32) (x3 : Int32) (x4 : Int32)  : Met l y_AS_init w_AS_init ({ frames := 1, cells := 1, slots := 16, locals := 12 }) (va_Pc [.ref a1, .int 16] (tp_in E ((a1, .inr (6, [.null, .int x2, .int x3, .int x4])) :: fr) sz)) (va_Qv (fun (u : Nat) => True) (fun u t => tp_out E (va_A ((a1, .inr (6, [.null, .int x2, .int x3, .int x4])) :: fr) sz) ((u, .inl (tp_ty E 3, 16, .inl (fun _ => 0))) :: (a1, .inr (6, [.ref u, .int 0, .int x3, .int x4])) :: fr) t) (va_A ((a1, .inr (6, [.null, .int x2, .int x3, .int x4])) :: fr) sz)) 1 16 (va_A ((a1, .inr (6, [.null, .int x2, .int x3, .int x4])) :: fr) sz) := by
  refine Met.ofW (cc := b_AS_init) (maxL := 2) (ret := none) (by decide) rfl ?_
  intro p e s m args below meth c s₁ B hml hv
  obtain ⟨rfl, hsz, hP, hK, hD0⟩ := hv
  have hx := B.exec
  have hb := B.bytes
  have hr := B.returns
  have htg : ∀ w ∈ tp_G, w.before ([.ref a1, .int 16] : List Value).toArray s = true := fun w h => atoms_spec (ws := w_AS_init) B.pre w (List.mem_cons_of_mem _ h)
  have hown : s.vm.findClass "java/lang/AbstractStringBuilder" = some m.cls := findClass_of_methodNamed B.named
  have hlocks := B.notSynchronized
  have hin : meth.name = "<init>" := (name_of_methodNamed B.named B.method).1
  subst hsz
  have hD := hD0.self (sz := s.heap.size)
  generalize hAe : va_A ((a1, .inr (6, [.null, .int x2, .int x3, .int x4])) :: fr) s.heap.size = A at hD hK ⊢
  have hA : ∀ q : Nat, s.heap.size ≤ q → A q := fun q h => by rw [← hAe]; exact Or.inr h
  have hS : va_S A s.heap s.heap [] := va_S.rf
  have hl := lv_entry ([.ref a1, .int 16]) (n := 2) (Nat.le_of_ble_eq_true rfl)
  rw [lg_entry_eq]
  generalize (lg_sl ([.ref a1, .int 16]) ++ List.replicate (2 - (lg_sl ([.ref a1, .int 16])).length) Slot.unset).toArray = ls at hl ⊢
  have hl : lv_has ls 2 [(0, .ref a1), (1, .int 16)] := hl
  refine lv_aload_n hx hb d_AS_init_0 rfl (lv_at hl 0 rfl) ?_
  refine W.objInit hx hb hown (htg _ kl_AS_3) (htg _ km_obj) (htg _ kc_obj) rfl (by rw [hml]; exact hl.1) rfl d_AS_init_1 (Nat.le_of_ble_eq_true rfl) (Nat.le_of_ble_eq_true rfl) ?_
  refine W.eq (g2 := F0 m 4 ls []) rfl ?_
  refine va_gets (v := .int 1) hx hb hK.C.1 hS hown (htg _ kl_AS_18) (fun _ h => h) d_AS_init_4 ?_
  refine lv_if_eq (tgt := 25) hx hb d_AS_init_7 (by decide) (fun h => absurd h (by decide)) (fun _ => ?_)
  refine lv_aload_n hx hb d_AS_init_10 rfl (lv_at hl 0 rfl) ?_
  refine lv_iload_n hx hb d_AS_init_11 rfl (lv_at hl 1 rfl) ?_
  refine tp_newa 3 (atype := .byte) (ty := .byte) (a0 := (16, .inl (fun _ => 0))) (N' := 16) hx hb (htg _ kar_B) rfl rfl (fun _ h => by cases h) hK hP hD hS hA (fun _ => rfl) (by decide) (by decide) (by decide) (Nat.le_of_ble_eq_true rfl) (Nat.le_of_ble_eq_true rfl) d_AS_init_12 (fun q1 H hP hD hS => ?_)
  have hP : va_P (tp_D E) tp_cl ((q1, .inl (tp_ty E 3, 16, .inl (fun _ => 0))) :: (a1, .inr (6, [.null, .int x2, .int x3, .int x4])) :: fr) H := hP
  have hD : va_D A ((q1, .inl (tp_ty E 3, 16, .inl (fun _ => 0))) :: (a1, .inr (6, [.null, .int x2, .int x3, .int x4])) :: fr) := hD
  refine va_put (D := tp_D E) (ci := 6) (v := .ref q1) (ty := (.array .byte)) (C := qR_SB) (T := qF_SB) (N := 4) hx hb htg qi_SB qt_SB qt_SB_ok qn_SB hown hK.1 hP hD hS 1 rfl rfl 0 (by decide) (htg _ kl_AS_15) (fun _ h => h) rfl (by decide +kernel) rfl rfl (Nat.le_of_ble_eq_true rfl) d_AS_init_14 (fun H locs hP hD hS => ?_)
  have hP : va_P (tp_D E) tp_cl ((q1, .inl (tp_ty E 3, 16, .inl (fun _ => 0))) :: (a1, .inr (6, [.ref q1, .int x2, .int x3, .int x4])) :: fr) H := hP
  have hD : va_D A ((q1, .inl (tp_ty E 3, 16, .inl (fun _ => 0))) :: (a1, .inr (6, [.ref q1, .int x2, .int x3, .int x4])) :: fr) := hD
  refine lv_aload_n hx hb d_AS_init_17 rfl (lv_at hl 0 rfl) ?_
  refine lv_iconst (v := 0) hx hb d_AS_init_18 (by decide) ?_
  refine va_put (D := tp_D E) (ci := 6) (v := .int 0) (ty := .byte) (C := qR_SB) (T := qF_SB) (N := 4) hx hb htg qi_SB qt_SB qt_SB_ok qn_SB hown hK.1 hP hD hS 1 rfl rfl 1 (by decide) (htg _ kl_AS_22) (fun _ h => h) rfl (by decide +kernel) rfl rfl (Nat.le_of_ble_eq_true rfl) d_AS_init_19 (fun H locs hP hD hS => ?_)
  have hP : va_P (tp_D E) tp_cl ((q1, .inl (tp_ty E 3, 16, .inl (fun _ => 0))) :: (a1, .inr (6, [.ref q1, .int 0, .int x3, .int x4])) :: fr) H := hP
  have hD : va_D A ((q1, .inl (tp_ty E 3, 16, .inl (fun _ => 0))) :: (a1, .inr (6, [.ref q1, .int 0, .int x3, .int x4])) :: fr) := hD
  refine lv_goto (tgt := 38) hx hb d_AS_init_22 (by decide) ?_
  exact W.vret hx hb hr (fun t ht hW => ⟨⟨q1, rfl, trivial, by rw [ht]; exact hP, hD⟩, hS.F ht⟩) hS.2.2 d_AS_init_38
set_option maxHeartbeats 400000 in
set_option maxRecDepth 100000 in
theorem c_SB_init_1 (l : Launch) (E : tp_Env) (fr : va_W) (sz : Nat) (a1 : Nat) (x2 : Int32) (x3 : Int32) (x4 : Int32)  : Met l y_SB_init w_SB_init ({ frames := 2, cells := 1, slots := 16, locals := 33 }) (va_Pc [.ref a1] (tp_in E ((a1, .inr (6, [.null, .int x2, .int x3, .int x4])) :: fr) sz)) (va_Qv (fun (u : Nat) => True) (fun u t => tp_out E (va_A ((a1, .inr (6, [.null, .int x2, .int x3, .int x4])) :: fr) sz) ((u, .inl (tp_ty E 3, 16, .inl (fun _ => 0))) :: (a1, .inr (6, [.ref u, .int 0, .int x3, .int x4])) :: fr) t) (va_A ((a1, .inr (6, [.null, .int x2, .int x3, .int x4])) :: fr) sz)) 1 16 (va_A ((a1, .inr (6, [.null, .int x2, .int x3, .int x4])) :: fr) sz) := by
  refine Met.ofW (cc := b_SB_init) (maxL := 1) (ret := none) (by decide) rfl ?_
  intro p e s m args below meth c s₁ B hml hv
  obtain ⟨rfl, hsz, hP, hK, hD0⟩ := hv
  have hx := B.exec
  have hb := B.bytes
  have hr := B.returns
  have htg : ∀ w ∈ tp_G, w.before ([.ref a1] : List Value).toArray s = true := fun w h => atoms_spec (ws := w_SB_init) B.pre w (List.mem_cons_of_mem _ h)
  have hown : s.vm.findClass "java/lang/StringBuilder" = some m.cls := findClass_of_methodNamed B.named
  have hlocks := B.notSynchronized
  have hin : meth.name = "<init>" := (name_of_methodNamed B.named B.method).1
  subst hsz
  have hD := hD0.self (sz := s.heap.size)
  generalize hAe : va_A ((a1, .inr (6, [.null, .int x2, .int x3, .int x4])) :: fr) s.heap.size = A at hD hK ⊢
  have hA : ∀ q : Nat, s.heap.size ≤ q → A q := fun q h => by rw [← hAe]; exact Or.inr h
  have hS : va_S A s.heap s.heap [] := va_S.rf
  have hl := lv_entry ([.ref a1]) (n := 1) (Nat.le_of_ble_eq_true rfl)
  rw [lg_entry_eq]
  generalize (lg_sl ([.ref a1]) ++ List.replicate (1 - (lg_sl ([.ref a1])).length) Slot.unset).toArray = ls at hl ⊢
  have hl : lv_has ls 1 [(0, .ref a1)] := hl
  refine lv_aload_n hx hb d_SB_init_0 rfl (lv_at hl 0 rfl) ?_
  refine lv_bipush (v := 16) hx hb d_SB_init_1 (by decide) ?_
  refine tp_cv (tp_rI (As := [.int 16]) (rest := []) ⟨hx, hb, hml, hown, htg⟩ (c_AS_init_1 l E fr _ a1 x2 x3 x4 ) (⟨callB_of 1 htg (tp_good0 kc_AS_init) rfl rfl rfl (htg _ ki_AS) (htg _ kl_SB_1) ⟨by decide, by decide, by decide +kernel⟩ ⟨Nat.le_of_ble_eq_true rfl, Nat.le_of_ble_eq_true rfl⟩, rfl, htg _ km_AS_init⟩) hK hP hD hS hA rfl hl.1 rfl (Nat.le_of_ble_eq_true rfl) d_SB_init_3 ⟨Nat.le_of_ble_eq_true rfl, Nat.le_of_ble_eq_true rfl⟩) hD hS hA (fun u H locs _ hP hD hS => ?_)
  generalize u = q1 at hP hD ⊢
  have hP : va_P (tp_D E) tp_cl ((q1, .inl (tp_ty E 3, 16, .inl (fun _ => 0))) :: (a1, .inr (6, [.ref q1, .int 0, .int x3, .int x4])) :: fr) H := hP
  have hD : va_D A ((q1, .inl (tp_ty E 3, 16, .inl (fun _ => 0))) :: (a1, .inr (6, [.ref q1, .int 0, .int x3, .int x4])) :: fr) := hD
  exact W.vret hx hb hr (fun t ht hW => ⟨⟨q1, rfl, trivial, by rw [ht]; exact hP, hD⟩, hS.F ht⟩) hS.2.2 d_SB_init_6
set_option maxHeartbeats 400000 in
set_option maxRecDepth 100000 in
theorem c_T_init_1 (l : Launch) (E : tp_Env) (fr : va_W) (sz : Nat) (a1 : Nat) (x2 : Int32) (x3 : Int32)  : Met l y_T_init w_T_init ({ frames := 5, cells := 9, slots := 64, locals := 92 }) (va_Pc [.ref a1] (tp_in E ((a1, .inr (0, [.null, .null, .null, .int x2, .int x3])) :: fr) sz)) (va_Qv (fun (u : Nat × Nat × Nat × Nat × Nat × Nat × Nat × Nat × Nat) => True) (fun u t => tp_out E (va_A ((a1, .inr (0, [.null, .null, .null, .int x2, .int x3])) :: fr) sz) ((u.2.2.2.2.2.2.2.2, .inl (tp_ty E 3, 16, .inl (fun _ => 0))) :: (u.2.2.2.2.2.2.2.1, .inr (6, [.ref u.2.2.2.2.2.2.2.2, .int 0, .int 0, .int 0])) :: (u.2.2.2.2.2.2.1, .inr (5, [.int 0, .ref (tp_ad E 100), .int 0])) :: (u.2.2.2.2.2.1, .inr (2, [.ref u.2.2.2.2.2.2.1])) :: (u.2.2.2.2.1, .inr (5, [.int 0, .ref (tp_ad E 100), .int 0])) :: (u.2.2.2.1, .inr (2, [.ref u.2.2.2.2.1])) :: (u.2.2.1, .inl (tp_ty E 6, 2, .inr (.inr (.inr (.inr (va_up (va_up (fun _ => none) 0 (some u.2.2.2.1)) 1 (some u.2.2.2.2.2.1))))))) :: (u.2.1, .inl (tp_ty E 4, 28, .inl (fun _ => 0))) :: (u.1, .inr (1, [.ref u.2.1, .int 0, .int 0, .int 0, .int 0, .int 0])) :: (a1, .inr (0, [.ref u.1, .ref u.2.2.1, .ref u.2.2.2.2.2.2.2.1, .int 0, .int 0])) :: fr) t) (va_A ((a1, .inr (0, [.null, .null, .null, .int x2, .int x3])) :: fr) sz)) 9 64 (va_A ((a1, .inr (0, [.null, .null, .null, .int x2, .int x3])) :: fr) sz) := by
  refine Met.ofW (cc := b_T_init) (maxL := 1) (ret := none) (by decide) rfl ?_
  intro p e s m args below meth c s₁ B hml hv
  obtain ⟨rfl, hsz, hP, hK, hD0⟩ := hv
  have hx := B.exec
  have hb := B.bytes
  have hr := B.returns
  have htg : ∀ w ∈ tp_G, w.before ([.ref a1] : List Value).toArray s = true := fun w h => atoms_spec (ws := w_T_init) B.pre w (List.mem_cons_of_mem _ h)
  have hown : s.vm.findClass "TwoPass" = some m.cls := findClass_of_methodNamed B.named
  have hlocks := B.notSynchronized
  have hin : meth.name = "<init>" := (name_of_methodNamed B.named B.method).1
  subst hsz
  have hD := hD0.self (sz := s.heap.size)
  generalize hAe : va_A ((a1, .inr (0, [.null, .null, .null, .int x2, .int x3])) :: fr) s.heap.size = A at hD hK ⊢
  have hA : ∀ q : Nat, s.heap.size ≤ q → A q := fun q h => by rw [← hAe]; exact Or.inr h
  have hS : va_S A s.heap s.heap [] := va_S.rf
  have hl := lv_entry ([.ref a1]) (n := 1) (Nat.le_of_ble_eq_true rfl)
  rw [lg_entry_eq]
  generalize (lg_sl ([.ref a1]) ++ List.replicate (1 - (lg_sl ([.ref a1])).length) Slot.unset).toArray = ls at hl ⊢
  have hl : lv_has ls 1 [(0, .ref a1)] := hl
  refine lv_aload_n hx hb d_T_init_0 rfl (lv_at hl 0 rfl) ?_
  refine W.objInit hx hb hown (htg _ kl_T_1) (htg _ km_obj) (htg _ kc_obj) rfl (by rw [hml]; exact hl.1) rfl d_T_init_1 (Nat.le_of_ble_eq_true rfl) (Nat.le_of_ble_eq_true rfl) ?_
  refine W.eq (g2 := F0 m 4 ls []) rfl ?_
  refine lv_aload_n hx hb d_T_init_4 rfl (lv_at hl 0 rfl) ?_
  refine va_new (D := tp_D E) (ci := 1) (fs := [.null, .int 0, .int 0, .int 0, .int 0, .int 0]) (C := qR_Y) (T := qF_Y) (N := 6) hx hb htg qi_Y qt_Y qt_Y_ok hown (htg _ kl_T_7) (htg _ kn_Y) (htg _ ki_Y) hK.1 hP hD hS hA rfl (by decide +kernel) (Nat.le_of_ble_eq_true rfl) (Nat.le_of_ble_eq_true rfl) d_T_init_5 (fun q1 H hP hD hS => ?_)
  have hP := tp_frP hP
  have hD := tp_frD hD
  have hP : va_P (tp_D E) tp_cl ((q1, .inr (1, [.null, .int 0, .int 0, .int 0, .int 0, .int 0])) :: (a1, .inr (0, [.null, .null, .null, .int x2, .int x3])) :: fr) H := hP
  have hD : va_D A ((q1, .inr (1, [.null, .int 0, .int 0, .int 0, .int 0, .int 0])) :: (a1, .inr (0, [.null, .null, .null, .int x2, .int x3])) :: fr) := hD
  refine lv_dup hx hb d_T_init_8 rfl ?_
  refine tp_cv (tp_rIN (As := []) (rest := [.ref q1, .ref a1]) ⟨hx, hb, hml, hown, htg⟩ (c_Y_init_1 l E ((a1, .inr (0, [.null, .null, .null, .int x2, .int x3])) :: fr) _ q1 0 0 0 0 0 ) (⟨va_cnB 0 htg (tp_good0 kc_Y_init) rfl rfl rfl (hK.2.2.2.1 _ kb_T_9) (htg _ ki_Y) ⟨by decide, by decide, by decide +kernel⟩ ⟨Nat.le_of_ble_eq_true rfl, Nat.le_of_ble_eq_true rfl⟩, rfl, htg _ km_Y_init⟩) hK hP hD hS hA rfl hl.1 rfl (Nat.le_of_ble_eq_true rfl) d_T_init_9 ⟨Nat.le_of_ble_eq_true rfl, Nat.le_of_ble_eq_true rfl⟩) hD hS hA (fun u H locs _ hP hD hS => ?_)
  generalize u = q2 at hP hD ⊢
  have hP : va_P (tp_D E) tp_cl ((q2, .inl (tp_ty E 4, 28, .inl (fun _ => 0))) :: (q1, .inr (1, [.ref q2, .int 0, .int 0, .int 0, .int 0, .int 0])) :: (a1, .inr (0, [.null, .null, .null, .int x2, .int x3])) :: fr) H := hP
  have hD : va_D A ((q2, .inl (tp_ty E 4, 28, .inl (fun _ => 0))) :: (q1, .inr (1, [.ref q2, .int 0, .int 0, .int 0, .int 0, .int 0])) :: (a1, .inr (0, [.null, .null, .null, .int x2, .int x3])) :: fr) := hD
  refine va_putF (D := tp_D E) (ci := 0) (v := .ref q1) (ty := (.object "TwoPass$Typed")) (C := qR_T) (T := qF_T) (N := 5) hx hb htg qi_T qt_T qt_T_ok qn_T hown hK.1 hP hD hS 2 rfl rfl 0 (by decide) (htg _ kl_T_10) (fun _ h => h) rfl hin rfl (by decide +kernel) rfl rfl (Nat.le_of_ble_eq_true rfl) d_T_init_12 (fun H locs hP hD hS => ?_)
  have hP : va_P (tp_D E) tp_cl ((q2, .inl (tp_ty E 4, 28, .inl (fun _ => 0))) :: (q1, .inr (1, [.ref q2, .int 0, .int 0, .int 0, .int 0, .int 0])) :: (a1, .inr (0, [.ref q1, .null, .null, .int x2, .int x3])) :: fr) H := hP
  have hD : va_D A ((q2, .inl (tp_ty E 4, 28, .inl (fun _ => 0))) :: (q1, .inr (1, [.ref q2, .int 0, .int 0, .int 0, .int 0, .int 0])) :: (a1, .inr (0, [.ref q1, .null, .null, .int x2, .int x3])) :: fr) := hD
  refine lv_aload_n hx hb d_T_init_15 rfl (lv_at hl 0 rfl) ?_
  refine lv_iconst (v := 2) hx hb d_T_init_16 (by decide) ?_
  refine tp_newq 6 (N' := 2) hx hb hown (htg _ kl_T_16) hK.2.2.2.2.1 rfl hK hP hD hS hA (by decide) (by decide) (by decide) (Nat.le_of_ble_eq_true rfl) (Nat.le_of_ble_eq_true rfl) d_T_init_17 (fun q3 H hP hD hS => ?_)
  have hP : va_P (tp_D E) tp_cl ((q3, .inl (tp_ty E 6, 2, .inr (.inr (.inr (.inr (fun _ => none)))))) :: (q2, .inl (tp_ty E 4, 28, .inl (fun _ => 0))) :: (q1, .inr (1, [.ref q2, .int 0, .int 0, .int 0, .int 0, .int 0])) :: (a1, .inr (0, [.ref q1, .null, .null, .int x2, .int x3])) :: fr) H := hP
  have hD : va_D A ((q3, .inl (tp_ty E 6, 2, .inr (.inr (.inr (.inr (fun _ => none)))))) :: (q2, .inl (tp_ty E 4, 28, .inl (fun _ => 0))) :: (q1, .inr (1, [.ref q2, .int 0, .int 0, .int 0, .int 0, .int 0])) :: (a1, .inr (0, [.ref q1, .null, .null, .int x2, .int x3])) :: fr) := hD
  refine lv_dup hx hb d_T_init_20 rfl ?_
  refine lv_iconst (v := 0) hx hb d_T_init_21 (by decide) ?_
  refine va_new (D := tp_D E) (ci := 2) (fs := [.null]) (C := qR_S) (T := qF_S) (N := 1) hx hb htg qi_S qt_S qt_S_ok hown (htg _ kl_T_16) (htg _ kn_S) (htg _ ki_S) hK.1 hP hD hS hA rfl (by decide +kernel) (Nat.le_of_ble_eq_true rfl) (Nat.le_of_ble_eq_true rfl) d_T_init_22 (fun q4 H hP hD hS => ?_)
  have hP := tp_frP hP
  have hD := tp_frD hD
  have hP : va_P (tp_D E) tp_cl ((q4, .inr (2, [.null])) :: (q3, .inl (tp_ty E 6, 2, .inr (.inr (.inr (.inr (fun _ => none)))))) :: (q2, .inl (tp_ty E 4, 28, .inl (fun _ => 0))) :: (q1, .inr (1, [.ref q2, .int 0, .int 0, .int 0, .int 0, .int 0])) :: (a1, .inr (0, [.ref q1, .null, .null, .int x2, .int x3])) :: fr) H := hP
  have hD : va_D A ((q4, .inr (2, [.null])) :: (q3, .inl (tp_ty E 6, 2, .inr (.inr (.inr (.inr (fun _ => none)))))) :: (q2, .inl (tp_ty E 4, 28, .inl (fun _ => 0))) :: (q1, .inr (1, [.ref q2, .int 0, .int 0, .int 0, .int 0, .int 0])) :: (a1, .inr (0, [.ref q1, .null, .null, .int x2, .int x3])) :: fr) := hD
  refine lv_dup hx hb d_T_init_25 rfl ?_
  refine tp_cv (tp_rIN (As := []) (rest := [.ref q4, .int 0, .ref q3, .ref q3, .ref a1]) ⟨hx, hb, hml, hown, htg⟩ (c_S_init_1 l E ((q3, .inl (tp_ty E 6, 2, .inr (.inr (.inr (.inr (fun _ => none)))))) :: (q2, .inl (tp_ty E 4, 28, .inl (fun _ => 0))) :: (q1, .inr (1, [.ref q2, .int 0, .int 0, .int 0, .int 0, .int 0])) :: (a1, .inr (0, [.ref q1, .null, .null, .int x2, .int x3])) :: fr) _ q4 ) (⟨va_cnB 0 htg (tp_good0 kc_S_init) rfl rfl rfl (hK.2.2.2.1 _ kb_T_18) (htg _ ki_S) ⟨by decide, by decide, by decide +kernel⟩ ⟨Nat.le_of_ble_eq_true rfl, Nat.le_of_ble_eq_true rfl⟩, rfl, htg _ km_S_init⟩) hK hP hD hS hA rfl hl.1 rfl (Nat.le_of_ble_eq_true rfl) d_T_init_26 ⟨Nat.le_of_ble_eq_true rfl, Nat.le_of_ble_eq_true rfl⟩) hD hS hA (fun u H locs _ hP hD hS => ?_)
  generalize u = q5 at hP hD ⊢
  have hP : va_P (tp_D E) tp_cl ((q5, .inr (5, [.int 0, .ref (tp_ad E 100), .int 0])) :: (q4, .inr (2, [.ref q5])) :: (q3, .inl (tp_ty E 6, 2, .inr (.inr (.inr (.inr (fun _ => none)))))) :: (q2, .inl (tp_ty E 4, 28, .inl (fun _ => 0))) :: (q1, .inr (1, [.ref q2, .int 0, .int 0, .int 0, .int 0, .int 0])) :: (a1, .inr (0, [.ref q1, .null, .null, .int x2, .int x3])) :: fr) H := hP
  have hD : va_D A ((q5, .inr (5, [.int 0, .ref (tp_ad E 100), .int 0])) :: (q4, .inr (2, [.ref q5])) :: (q3, .inl (tp_ty E 6, 2, .inr (.inr (.inr (.inr (fun _ => none)))))) :: (q2, .inl (tp_ty E 4, 28, .inl (fun _ => 0))) :: (q1, .inr (1, [.ref q2, .int 0, .int 0, .int 0, .int 0, .int 0])) :: (a1, .inr (0, [.ref q1, .null, .null, .int x2, .int x3])) :: fr) := hD
  refine va_astq (D := tp_D E) hx hb hK.1 hP hD hS 2 6 1 2 rfl rfl rfl rfl (by unfold vp_in; decide) d_T_init_29 (fun H locs hP hD hS => ?_)
  have hP : va_P (tp_D E) tp_cl ((q5, .inr (5, [.int 0, .ref (tp_ad E 100), .int 0])) :: (q4, .inr (2, [.ref q5])) :: (q3, .inl (tp_ty E 6, 2, .inr (.inr (.inr (.inr (va_up (fun _ => none) 0 (some q4))))))) :: (q2, .inl (tp_ty E 4, 28, .inl (fun _ => 0))) :: (q1, .inr (1, [.ref q2, .int 0, .int 0, .int 0, .int 0, .int 0])) :: (a1, .inr (0, [.ref q1, .null, .null, .int x2, .int x3])) :: fr) H := hP
  have hD : va_D A ((q5, .inr (5, [.int 0, .ref (tp_ad E 100), .int 0])) :: (q4, .inr (2, [.ref q5])) :: (q3, .inl (tp_ty E 6, 2, .inr (.inr (.inr (.inr (va_up (fun _ => none) 0 (some q4))))))) :: (q2, .inl (tp_ty E 4, 28, .inl (fun _ => 0))) :: (q1, .inr (1, [.ref q2, .int 0, .int 0, .int 0, .int 0, .int 0])) :: (a1, .inr (0, [.ref q1, .null, .null, .int x2, .int x3])) :: fr) := hD
  refine lv_dup hx hb d_T_init_30 rfl ?_
  refine lv_iconst (v := 1) hx hb d_T_init_31 (by decide) ?_
  refine va_new (D := tp_D E) (ci := 2) (fs := [.null]) (C := qR_S) (T := qF_S) (N := 1) hx hb htg qi_S qt_S qt_S_ok hown (htg _ kl_T_16) (htg _ kn_S) (htg _ ki_S) hK.1 hP hD hS hA rfl (by decide +kernel) (Nat.le_of_ble_eq_true rfl) (Nat.le_of_ble_eq_true rfl) d_T_init_32 (fun q6 H hP hD hS => ?_)
  have hP := tp_frP hP
  have hD := tp_frD hD
  have hP : va_P (tp_D E) tp_cl ((q6, .inr (2, [.null])) :: (q5, .inr (5, [.int 0, .ref (tp_ad E 100), .int 0])) :: (q4, .inr (2, [.ref q5])) :: (q3, .inl (tp_ty E 6, 2, .inr (.inr (.inr (.inr (va_up (fun _ => none) 0 (some q4))))))) :: (q2, .inl (tp_ty E 4, 28, .inl (fun _ => 0))) :: (q1, .inr (1, [.ref q2, .int 0, .int 0, .int 0, .int 0, .int 0])) :: (a1, .inr (0, [.ref q1, .null, .null, .int x2, .int x3])) :: fr) H := hP
  have hD : va_D A ((q6, .inr (2, [.null])) :: (q5, .inr (5, [.int 0, .ref (tp_ad E 100), .int 0])) :: (q4, .inr (2, [.ref q5])) :: (q3, .inl (tp_ty E 6, 2, .inr (.inr (.inr (.inr (va_up (fun _ => none) 0 (some q4))))))) :: (q2, .inl (tp_ty E 4, 28, .inl (fun _ => 0))) :: (q1, .inr (1, [.ref q2, .int 0, .int 0, .int 0, .int 0, .int 0])) :: (a1, .inr (0, [.ref q1, .null, .null, .int x2, .int x3])) :: fr) := hD
  refine lv_dup hx hb d_T_init_35 rfl ?_
  refine tp_cv (tp_rIN (As := []) (rest := [.ref q6, .int 1, .ref q3, .ref q3, .ref a1]) ⟨hx, hb, hml, hown, htg⟩ (c_S_init_1 l E ((q5, .inr (5, [.int 0, .ref (tp_ad E 100), .int 0])) :: (q4, .inr (2, [.ref q5])) :: (q3, .inl (tp_ty E 6, 2, .inr (.inr (.inr (.inr (va_up (fun _ => none) 0 (some q4))))))) :: (q2, .inl (tp_ty E 4, 28, .inl (fun _ => 0))) :: (q1, .inr (1, [.ref q2, .int 0, .int 0, .int 0, .int 0, .int 0])) :: (a1, .inr (0, [.ref q1, .null, .null, .int x2, .int x3])) :: fr) _ q6 ) (⟨va_cnB 0 htg (tp_good0 kc_S_init) rfl rfl rfl (hK.2.2.2.1 _ kb_T_18) (htg _ ki_S) ⟨by decide, by decide, by decide +kernel⟩ ⟨Nat.le_of_ble_eq_true rfl, Nat.le_of_ble_eq_true rfl⟩, rfl, htg _ km_S_init⟩) hK hP hD hS hA rfl hl.1 rfl (Nat.le_of_ble_eq_true rfl) d_T_init_36 ⟨Nat.le_of_ble_eq_true rfl, Nat.le_of_ble_eq_true rfl⟩) hD hS hA (fun u H locs _ hP hD hS => ?_)
  generalize u = q7 at hP hD ⊢
  have hP : va_P (tp_D E) tp_cl ((q7, .inr (5, [.int 0, .ref (tp_ad E 100), .int 0])) :: (q6, .inr (2, [.ref q7])) :: (q5, .inr (5, [.int 0, .ref (tp_ad E 100), .int 0])) :: (q4, .inr (2, [.ref q5])) :: (q3, .inl (tp_ty E 6, 2, .inr (.inr (.inr (.inr (va_up (fun _ => none) 0 (some q4))))))) :: (q2, .inl (tp_ty E 4, 28, .inl (fun _ => 0))) :: (q1, .inr (1, [.ref q2, .int 0, .int 0, .int 0, .int 0, .int 0])) :: (a1, .inr (0, [.ref q1, .null, .null, .int x2, .int x3])) :: fr) H := hP
  have hD : va_D A ((q7, .inr (5, [.int 0, .ref (tp_ad E 100), .int 0])) :: (q6, .inr (2, [.ref q7])) :: (q5, .inr (5, [.int 0, .ref (tp_ad E 100), .int 0])) :: (q4, .inr (2, [.ref q5])) :: (q3, .inl (tp_ty E 6, 2, .inr (.inr (.inr (.inr (va_up (fun _ => none) 0 (some q4))))))) :: (q2, .inl (tp_ty E 4, 28, .inl (fun _ => 0))) :: (q1, .inr (1, [.ref q2, .int 0, .int 0, .int 0, .int 0, .int 0])) :: (a1, .inr (0, [.ref q1, .null, .null, .int x2, .int x3])) :: fr) := hD
  refine va_astq (D := tp_D E) hx hb hK.1 hP hD hS 4 6 1 2 rfl rfl rfl rfl (by unfold vp_in; decide) d_T_init_39 (fun H locs hP hD hS => ?_)
  have hP : va_P (tp_D E) tp_cl ((q7, .inr (5, [.int 0, .ref (tp_ad E 100), .int 0])) :: (q6, .inr (2, [.ref q7])) :: (q5, .inr (5, [.int 0, .ref (tp_ad E 100), .int 0])) :: (q4, .inr (2, [.ref q5])) :: (q3, .inl (tp_ty E 6, 2, .inr (.inr (.inr (.inr (va_up (va_up (fun _ => none) 0 (some q4)) 1 (some q6))))))) :: (q2, .inl (tp_ty E 4, 28, .inl (fun _ => 0))) :: (q1, .inr (1, [.ref q2, .int 0, .int 0, .int 0, .int 0, .int 0])) :: (a1, .inr (0, [.ref q1, .null, .null, .int x2, .int x3])) :: fr) H := hP
  have hD : va_D A ((q7, .inr (5, [.int 0, .ref (tp_ad E 100), .int 0])) :: (q6, .inr (2, [.ref q7])) :: (q5, .inr (5, [.int 0, .ref (tp_ad E 100), .int 0])) :: (q4, .inr (2, [.ref q5])) :: (q3, .inl (tp_ty E 6, 2, .inr (.inr (.inr (.inr (va_up (va_up (fun _ => none) 0 (some q4)) 1 (some q6))))))) :: (q2, .inl (tp_ty E 4, 28, .inl (fun _ => 0))) :: (q1, .inr (1, [.ref q2, .int 0, .int 0, .int 0, .int 0, .int 0])) :: (a1, .inr (0, [.ref q1, .null, .null, .int x2, .int x3])) :: fr) := hD
  refine va_putF (D := tp_D E) (ci := 0) (v := .ref q3) (ty := (.array (.object "TwoPass$Source"))) (C := qR_T) (T := qF_T) (N := 5) hx hb htg qi_T qt_T qt_T_ok qn_T hown hK.1 hP hD hS 7 rfl rfl 1 (by decide) (htg _ kl_T_19) (fun _ h => h) rfl hin rfl (by decide +kernel) rfl rfl (Nat.le_of_ble_eq_true rfl) d_T_init_40 (fun H locs hP hD hS => ?_)
  have hP : va_P (tp_D E) tp_cl ((q7, .inr (5, [.int 0, .ref (tp_ad E 100), .int 0])) :: (q6, .inr (2, [.ref q7])) :: (q5, .inr (5, [.int 0, .ref (tp_ad E 100), .int 0])) :: (q4, .inr (2, [.ref q5])) :: (q3, .inl (tp_ty E 6, 2, .inr (.inr (.inr (.inr (va_up (va_up (fun _ => none) 0 (some q4)) 1 (some q6))))))) :: (q2, .inl (tp_ty E 4, 28, .inl (fun _ => 0))) :: (q1, .inr (1, [.ref q2, .int 0, .int 0, .int 0, .int 0, .int 0])) :: (a1, .inr (0, [.ref q1, .ref q3, .null, .int x2, .int x3])) :: fr) H := hP
  have hD : va_D A ((q7, .inr (5, [.int 0, .ref (tp_ad E 100), .int 0])) :: (q6, .inr (2, [.ref q7])) :: (q5, .inr (5, [.int 0, .ref (tp_ad E 100), .int 0])) :: (q4, .inr (2, [.ref q5])) :: (q3, .inl (tp_ty E 6, 2, .inr (.inr (.inr (.inr (va_up (va_up (fun _ => none) 0 (some q4)) 1 (some q6))))))) :: (q2, .inl (tp_ty E 4, 28, .inl (fun _ => 0))) :: (q1, .inr (1, [.ref q2, .int 0, .int 0, .int 0, .int 0, .int 0])) :: (a1, .inr (0, [.ref q1, .ref q3, .null, .int x2, .int x3])) :: fr) := hD
  refine lv_aload_n hx hb d_T_init_43 rfl (lv_at hl 0 rfl) ?_
  refine va_new (D := tp_D E) (ci := 6) (fs := [.null, .int 0, .int 0, .int 0]) (C := qR_SB) (T := qF_SB) (N := 4) hx hb htg qi_SB qt_SB qt_SB_ok hown (htg _ kl_T_23) (htg _ kn_SB) (htg _ ki_SB) hK.1 hP hD hS hA rfl (by decide +kernel) (Nat.le_of_ble_eq_true rfl) (Nat.le_of_ble_eq_true rfl) d_T_init_44 (fun q8 H hP hD hS => ?_)
  have hP := tp_frP hP
  have hD := tp_frD hD
  have hP : va_P (tp_D E) tp_cl ((q8, .inr (6, [.null, .int 0, .int 0, .int 0])) :: (q7, .inr (5, [.int 0, .ref (tp_ad E 100), .int 0])) :: (q6, .inr (2, [.ref q7])) :: (q5, .inr (5, [.int 0, .ref (tp_ad E 100), .int 0])) :: (q4, .inr (2, [.ref q5])) :: (q3, .inl (tp_ty E 6, 2, .inr (.inr (.inr (.inr (va_up (va_up (fun _ => none) 0 (some q4)) 1 (some q6))))))) :: (q2, .inl (tp_ty E 4, 28, .inl (fun _ => 0))) :: (q1, .inr (1, [.ref q2, .int 0, .int 0, .int 0, .int 0, .int 0])) :: (a1, .inr (0, [.ref q1, .ref q3, .null, .int x2, .int x3])) :: fr) H := hP
  have hD : va_D A ((q8, .inr (6, [.null, .int 0, .int 0, .int 0])) :: (q7, .inr (5, [.int 0, .ref (tp_ad E 100), .int 0])) :: (q6, .inr (2, [.ref q7])) :: (q5, .inr (5, [.int 0, .ref (tp_ad E 100), .int 0])) :: (q4, .inr (2, [.ref q5])) :: (q3, .inl (tp_ty E 6, 2, .inr (.inr (.inr (.inr (va_up (va_up (fun _ => none) 0 (some q4)) 1 (some q6))))))) :: (q2, .inl (tp_ty E 4, 28, .inl (fun _ => 0))) :: (q1, .inr (1, [.ref q2, .int 0, .int 0, .int 0, .int 0, .int 0])) :: (a1, .inr (0, [.ref q1, .ref q3, .null, .int x2, .int x3])) :: fr) := hD
  refine lv_dup hx hb d_T_init_47 rfl ?_
  refine tp_cv (tp_rI (As := []) (rest := [.ref q8, .ref a1]) ⟨hx, hb, hml, hown, htg⟩ (c_SB_init_1 l E ((q7, .inr (5, [.int 0, .ref (tp_ad E 100), .int 0])) :: (q6, .inr (2, [.ref q7])) :: (q5, .inr (5, [.int 0, .ref (tp_ad E 100), .int 0])) :: (q4, .inr (2, [.ref q5])) :: (q3, .inl (tp_ty E 6, 2, .inr (.inr (.inr (.inr (va_up (va_up (fun _ => none) 0 (some q4)) 1 (some q6))))))) :: (q2, .inl (tp_ty E 4, 28, .inl (fun _ => 0))) :: (q1, .inr (1, [.ref q2, .int 0, .int 0, .int 0, .int 0, .int 0])) :: (a1, .inr (0, [.ref q1, .ref q3, .null, .int x2, .int x3])) :: fr) _ q8 0 0 0 ) (⟨callB_of 0 htg (tp_good0 kc_SB_init) rfl rfl rfl (htg _ ki_SB) (htg _ kl_T_25) ⟨by decide, by decide, by decide +kernel⟩ ⟨Nat.le_of_ble_eq_true rfl, Nat.le_of_ble_eq_true rfl⟩, rfl, htg _ km_SB_init⟩) hK hP hD hS hA rfl hl.1 rfl (Nat.le_of_ble_eq_true rfl) d_T_init_48 ⟨Nat.le_of_ble_eq_true rfl, Nat.le_of_ble_eq_true rfl⟩) hD hS hA (fun u H locs _ hP hD hS => ?_)
  generalize u = q9 at hP hD ⊢
  have hP : va_P (tp_D E) tp_cl ((q9, .inl (tp_ty E 3, 16, .inl (fun _ => 0))) :: (q8, .inr (6, [.ref q9, .int 0, .int 0, .int 0])) :: (q7, .inr (5, [.int 0, .ref (tp_ad E 100), .int 0])) :: (q6, .inr (2, [.ref q7])) :: (q5, .inr (5, [.int 0, .ref (tp_ad E 100), .int 0])) :: (q4, .inr (2, [.ref q5])) :: (q3, .inl (tp_ty E 6, 2, .inr (.inr (.inr (.inr (va_up (va_up (fun _ => none) 0 (some q4)) 1 (some q6))))))) :: (q2, .inl (tp_ty E 4, 28, .inl (fun _ => 0))) :: (q1, .inr (1, [.ref q2, .int 0, .int 0, .int 0, .int 0, .int 0])) :: (a1, .inr (0, [.ref q1, .ref q3, .null, .int x2, .int x3])) :: fr) H := hP
  have hD : va_D A ((q9, .inl (tp_ty E 3, 16, .inl (fun _ => 0))) :: (q8, .inr (6, [.ref q9, .int 0, .int 0, .int 0])) :: (q7, .inr (5, [.int 0, .ref (tp_ad E 100), .int 0])) :: (q6, .inr (2, [.ref q7])) :: (q5, .inr (5, [.int 0, .ref (tp_ad E 100), .int 0])) :: (q4, .inr (2, [.ref q5])) :: (q3, .inl (tp_ty E 6, 2, .inr (.inr (.inr (.inr (va_up (va_up (fun _ => none) 0 (some q4)) 1 (some q6))))))) :: (q2, .inl (tp_ty E 4, 28, .inl (fun _ => 0))) :: (q1, .inr (1, [.ref q2, .int 0, .int 0, .int 0, .int 0, .int 0])) :: (a1, .inr (0, [.ref q1, .ref q3, .null, .int x2, .int x3])) :: fr) := hD
  refine va_putF (D := tp_D E) (ci := 0) (v := .ref q8) (ty := (.object "java/lang/StringBuilder")) (C := qR_T) (T := qF_T) (N := 5) hx hb htg qi_T qt_T qt_T_ok qn_T hown hK.1 hP hD hS 9 rfl rfl 2 (by decide) (htg _ kl_T_26) (fun _ h => h) rfl hin rfl (by decide +kernel) rfl rfl (Nat.le_of_ble_eq_true rfl) d_T_init_51 (fun H locs hP hD hS => ?_)
  have hP : va_P (tp_D E) tp_cl ((q9, .inl (tp_ty E 3, 16, .inl (fun _ => 0))) :: (q8, .inr (6, [.ref q9, .int 0, .int 0, .int 0])) :: (q7, .inr (5, [.int 0, .ref (tp_ad E 100), .int 0])) :: (q6, .inr (2, [.ref q7])) :: (q5, .inr (5, [.int 0, .ref (tp_ad E 100), .int 0])) :: (q4, .inr (2, [.ref q5])) :: (q3, .inl (tp_ty E 6, 2, .inr (.inr (.inr (.inr (va_up (va_up (fun _ => none) 0 (some q4)) 1 (some q6))))))) :: (q2, .inl (tp_ty E 4, 28, .inl (fun _ => 0))) :: (q1, .inr (1, [.ref q2, .int 0, .int 0, .int 0, .int 0, .int 0])) :: (a1, .inr (0, [.ref q1, .ref q3, .ref q8, .int x2, .int x3])) :: fr) H := hP
  have hD : va_D A ((q9, .inl (tp_ty E 3, 16, .inl (fun _ => 0))) :: (q8, .inr (6, [.ref q9, .int 0, .int 0, .int 0])) :: (q7, .inr (5, [.int 0, .ref (tp_ad E 100), .int 0])) :: (q6, .inr (2, [.ref q7])) :: (q5, .inr (5, [.int 0, .ref (tp_ad E 100), .int 0])) :: (q4, .inr (2, [.ref q5])) :: (q3, .inl (tp_ty E 6, 2, .inr (.inr (.inr (.inr (va_up (va_up (fun _ => none) 0 (some q4)) 1 (some q6))))))) :: (q2, .inl (tp_ty E 4, 28, .inl (fun _ => 0))) :: (q1, .inr (1, [.ref q2, .int 0, .int 0, .int 0, .int 0, .int 0])) :: (a1, .inr (0, [.ref q1, .ref q3, .ref q8, .int x2, .int x3])) :: fr) := hD
  refine lv_aload_n hx hb d_T_init_54 rfl (lv_at hl 0 rfl) ?_
  refine lv_iconst (v := 0) hx hb d_T_init_55 (by decide) ?_
  refine va_put (D := tp_D E) (ci := 0) (v := .int 0) (ty := .boolean) (C := qR_T) (T := qF_T) (N := 5) hx hb htg qi_T qt_T qt_T_ok qn_T hown hK.1 hP hD hS 9 rfl rfl 3 (by decide) (htg _ kl_T_30) (fun _ h => h) rfl (by decide +kernel) rfl rfl (Nat.le_of_ble_eq_true rfl) d_T_init_56 (fun H locs hP hD hS => ?_)
  have hP : va_P (tp_D E) tp_cl ((q9, .inl (tp_ty E 3, 16, .inl (fun _ => 0))) :: (q8, .inr (6, [.ref q9, .int 0, .int 0, .int 0])) :: (q7, .inr (5, [.int 0, .ref (tp_ad E 100), .int 0])) :: (q6, .inr (2, [.ref q7])) :: (q5, .inr (5, [.int 0, .ref (tp_ad E 100), .int 0])) :: (q4, .inr (2, [.ref q5])) :: (q3, .inl (tp_ty E 6, 2, .inr (.inr (.inr (.inr (va_up (va_up (fun _ => none) 0 (some q4)) 1 (some q6))))))) :: (q2, .inl (tp_ty E 4, 28, .inl (fun _ => 0))) :: (q1, .inr (1, [.ref q2, .int 0, .int 0, .int 0, .int 0, .int 0])) :: (a1, .inr (0, [.ref q1, .ref q3, .ref q8, .int 0, .int x3])) :: fr) H := hP
  have hD : va_D A ((q9, .inl (tp_ty E 3, 16, .inl (fun _ => 0))) :: (q8, .inr (6, [.ref q9, .int 0, .int 0, .int 0])) :: (q7, .inr (5, [.int 0, .ref (tp_ad E 100), .int 0])) :: (q6, .inr (2, [.ref q7])) :: (q5, .inr (5, [.int 0, .ref (tp_ad E 100), .int 0])) :: (q4, .inr (2, [.ref q5])) :: (q3, .inl (tp_ty E 6, 2, .inr (.inr (.inr (.inr (va_up (va_up (fun _ => none) 0 (some q4)) 1 (some q6))))))) :: (q2, .inl (tp_ty E 4, 28, .inl (fun _ => 0))) :: (q1, .inr (1, [.ref q2, .int 0, .int 0, .int 0, .int 0, .int 0])) :: (a1, .inr (0, [.ref q1, .ref q3, .ref q8, .int 0, .int x3])) :: fr) := hD
  refine lv_aload_n hx hb d_T_init_59 rfl (lv_at hl 0 rfl) ?_
  refine lv_iconst (v := 0) hx hb d_T_init_60 (by decide) ?_
  refine va_put (D := tp_D E) (ci := 0) (v := .int 0) (ty := .int) (C := qR_T) (T := qF_T) (N := 5) hx hb htg qi_T qt_T qt_T_ok qn_T hown hK.1 hP hD hS 9 rfl rfl 4 (by decide) (htg _ kl_T_34) (fun _ h => h) rfl (by decide +kernel) rfl rfl (Nat.le_of_ble_eq_true rfl) d_T_init_61 (fun H locs hP hD hS => ?_)
  have hP : va_P (tp_D E) tp_cl ((q9, .inl (tp_ty E 3, 16, .inl (fun _ => 0))) :: (q8, .inr (6, [.ref q9, .int 0, .int 0, .int 0])) :: (q7, .inr (5, [.int 0, .ref (tp_ad E 100), .int 0])) :: (q6, .inr (2, [.ref q7])) :: (q5, .inr (5, [.int 0, .ref (tp_ad E 100), .int 0])) :: (q4, .inr (2, [.ref q5])) :: (q3, .inl (tp_ty E 6, 2, .inr (.inr (.inr (.inr (va_up (va_up (fun _ => none) 0 (some q4)) 1 (some q6))))))) :: (q2, .inl (tp_ty E 4, 28, .inl (fun _ => 0))) :: (q1, .inr (1, [.ref q2, .int 0, .int 0, .int 0, .int 0, .int 0])) :: (a1, .inr (0, [.ref q1, .ref q3, .ref q8, .int 0, .int 0])) :: fr) H := hP
  have hD : va_D A ((q9, .inl (tp_ty E 3, 16, .inl (fun _ => 0))) :: (q8, .inr (6, [.ref q9, .int 0, .int 0, .int 0])) :: (q7, .inr (5, [.int 0, .ref (tp_ad E 100), .int 0])) :: (q6, .inr (2, [.ref q7])) :: (q5, .inr (5, [.int 0, .ref (tp_ad E 100), .int 0])) :: (q4, .inr (2, [.ref q5])) :: (q3, .inl (tp_ty E 6, 2, .inr (.inr (.inr (.inr (va_up (va_up (fun _ => none) 0 (some q4)) 1 (some q6))))))) :: (q2, .inl (tp_ty E 4, 28, .inl (fun _ => 0))) :: (q1, .inr (1, [.ref q2, .int 0, .int 0, .int 0, .int 0, .int 0])) :: (a1, .inr (0, [.ref q1, .ref q3, .ref q8, .int 0, .int 0])) :: fr) := hD
  exact W.vret hx hb hr (fun t ht hW => ⟨⟨(q1, q2, q3, q4, q5, q6, q7, q8, q9), rfl, trivial, by rw [ht]; exact hP, hD⟩, hS.F ht⟩) hS.2.2 d_T_init_64
