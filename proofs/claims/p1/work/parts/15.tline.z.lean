set_option maxHeartbeats 400000 in
set_option maxRecDepth 100000 in
theorem c_Y_take_1 (l : Launch) (E : tp_Env) (fr : va_W) (sz : Nat) (a1 : Nat) (a2 : Nat) (x3 : Int32) (x4 : Int32) (x5 : Int32) (x6 : Int32) (x7 : Int32)  : Met l y_Y_take w_Y_take ({ frames := 0, cells := 0, slots := 0, locals := 0 }) (va_Pc [.ref a1] (tp_in E ((a1, .inr (1, [.ref a2, .int x3, .int x4, .int x5, .int x6, .int x7])) :: fr) sz)) (va_Qv (fun (_ : Unit) => True) (fun _ t => tp_out E (va_A ((a1, .inr (1, [.ref a2, .int x3, .int x4, .int x5, .int x6, .int x7])) :: fr) sz) ((a1, .inr (1, [.ref a2, .int 0, .int x3, .int 0, .int x6, .int x7])) :: fr) t) (va_A ((a1, .inr (1, [.ref a2, .int x3, .int x4, .int x5, .int x6, .int x7])) :: fr) sz)) 0 0 (va_A ((a1, .inr (1, [.ref a2, .int x3, .int x4, .int x5, .int x6, .int x7])) :: fr) sz) := by
  refine Met.ofW (cc := b_Y_take) (maxL := 1) (ret := none) (by decide) rfl ?_
  intro p e s m args below meth c s₁ B hml hv
  obtain ⟨rfl, hsz, hP, hK, hD0⟩ := hv
  have hx := B.exec
  have hb := B.bytes
  have hr := B.returns
  have htg : ∀ w ∈ tp_G, w.before ([.ref a1] : List Value).toArray s = true := fun w h => atoms_spec (ws := w_Y_take) B.pre w (List.mem_cons_of_mem _ h)
  have hown : s.vm.findClass "TwoPass$Typed" = some m.cls := findClass_of_methodNamed B.named
  have hlocks := B.notSynchronized
  subst hsz
  have hD := hD0.self (sz := s.heap.size)
  generalize hAe : va_A ((a1, .inr (1, [.ref a2, .int x3, .int x4, .int x5, .int x6, .int x7])) :: fr) s.heap.size = A at hD hK ⊢
  have hA : ∀ q : Nat, s.heap.size ≤ q → A q := fun q h => by rw [← hAe]; exact Or.inr h
  have hS : va_S A s.heap s.heap [] := va_S.rf
  have hl := lv_entry ([.ref a1]) (n := 1) (Nat.le_of_ble_eq_true rfl)
  rw [lg_entry_eq]
  generalize (lg_sl ([.ref a1]) ++ List.replicate (1 - (lg_sl ([.ref a1])).length) Slot.unset).toArray = ls at hl ⊢
  have hl : lv_has ls 1 [(0, .ref a1)] := hl
  refine lv_aload_n hx hb d_Y_take_0 rfl (lv_at hl 0 rfl) ?_
  refine lv_aload_n hx hb d_Y_take_1 rfl (lv_at hl 0 rfl) ?_
  refine va_get (D := tp_D E) (ci := 1) (v := .int x3) (C := qR_Y) (T := qF_Y) (N := 6) hx hb htg qi_Y hown hK.1 hP 0 rfl rfl 1 (by decide) (htg _ kl_Y_15) (fun _ h => h) rfl d_Y_take_2 ?_
  refine va_put (D := tp_D E) (ci := 1) (v := .int x3) (ty := .int) (C := qR_Y) (T := qF_Y) (N := 6) hx hb htg qi_Y qt_Y qt_Y_ok qn_Y hown hK.1 hP hD hS 0 rfl rfl 2 (by decide) (htg _ kl_Y_19) (fun _ h => h) rfl (by decide +kernel) rfl rfl (Nat.le_of_ble_eq_true rfl) d_Y_take_5 (fun H locs hP hD hS => ?_)
  have hP : va_P (tp_D E) tp_cl ((a1, .inr (1, [.ref a2, .int x3, .int x3, .int x5, .int x6, .int x7])) :: fr) H := hP
  have hD : va_D A ((a1, .inr (1, [.ref a2, .int x3, .int x3, .int x5, .int x6, .int x7])) :: fr) := hD
  refine lv_aload_n hx hb d_Y_take_8 rfl (lv_at hl 0 rfl) ?_
  refine lv_iconst (v := 0) hx hb d_Y_take_9 (by decide) ?_
  refine va_put (D := tp_D E) (ci := 1) (v := .int 0) (ty := .int) (C := qR_Y) (T := qF_Y) (N := 6) hx hb htg qi_Y qt_Y qt_Y_ok qn_Y hown hK.1 hP hD hS 0 rfl rfl 3 (by decide) (htg _ kl_Y_22) (fun _ h => h) rfl (by decide +kernel) rfl rfl (Nat.le_of_ble_eq_true rfl) d_Y_take_10 (fun H locs hP hD hS => ?_)
  have hP : va_P (tp_D E) tp_cl ((a1, .inr (1, [.ref a2, .int x3, .int x3, .int 0, .int x6, .int x7])) :: fr) H := hP
  have hD : va_D A ((a1, .inr (1, [.ref a2, .int x3, .int x3, .int 0, .int x6, .int x7])) :: fr) := hD
  refine lv_aload_n hx hb d_Y_take_13 rfl (lv_at hl 0 rfl) ?_
  refine lv_iconst (v := 0) hx hb d_Y_take_14 (by decide) ?_
  refine va_put (D := tp_D E) (ci := 1) (v := .int 0) (ty := .int) (C := qR_Y) (T := qF_Y) (N := 6) hx hb htg qi_Y qt_Y qt_Y_ok qn_Y hown hK.1 hP hD hS 0 rfl rfl 1 (by decide) (htg _ kl_Y_15) (fun _ h => h) rfl (by decide +kernel) rfl rfl (Nat.le_of_ble_eq_true rfl) d_Y_take_15 (fun H locs hP hD hS => ?_)
  have hP : va_P (tp_D E) tp_cl ((a1, .inr (1, [.ref a2, .int 0, .int x3, .int 0, .int x6, .int x7])) :: fr) H := hP
  have hD : va_D A ((a1, .inr (1, [.ref a2, .int 0, .int x3, .int 0, .int x6, .int x7])) :: fr) := hD
  exact W.vret hx hb hr (fun t ht hW => ⟨⟨(), rfl, trivial, by rw [ht]; exact hP, hD⟩, hS.F ht⟩) hS.2.2 d_Y_take_18
set_option maxHeartbeats 400000 in
set_option maxRecDepth 100000 in
theorem c_T_line_1 (l : Launch) (hfl : l.stackTraces = false) (E : tp_Env) (fr : va_W) (sz : Nat) (a1 : Nat) (a2 : Nat) (a3 : Nat) (a4 : Nat) (x5 : Int32) (x6 : Int32) (x7 : Int32) (a8 : Nat) (x9 : Int32) (x10 : Int32) (x11 : Int32) (x12 : Int32) (x13 : Int32) (h1 : x7 < 0) : vx_Met l y_T_line w_T_line ({ frames := 7, cells := 1, slots := 6, locals := 109 }) (va_Pc [.ref a1, .int x7] (tp_in E ((a1, .inr (0, [.ref a2, .ref a3, .ref a4, .int x5, .int x6])) :: (a2, .inr (1, [.ref a8, .int x9, .int x10, .int x11, .int x12, .int x13])) :: fr) sz)) (va_Qi (fun (_ : Int32) (_ : Unit) => False) (fun _ _ => True) (va_A ((a1, .inr (0, [.ref a2, .ref a3, .ref a4, .int x5, .int x6])) :: (a2, .inr (1, [.ref a8, .int x9, .int x10, .int x11, .int x12, .int x13])) :: fr) sz)) (vx_X (fun (_ : Unit) => True) (fun x _ t => x = "java/lang/IllegalArgumentException" ∧ tp_out E (va_A ((a1, .inr (0, [.ref a2, .ref a3, .ref a4, .int x5, .int x6])) :: (a2, .inr (1, [.ref a8, .int x9, .int x10, .int x11, .int x12, .int x13])) :: fr) sz) ((a2, .inr (1, [.ref a8, .int 0, .int x9, .int 0, .int x12, .int x13])) :: (a1, .inr (0, [.ref a2, .ref a3, .ref a4, .int x5, .int x6])) :: fr) t) (va_A ((a1, .inr (0, [.ref a2, .ref a3, .ref a4, .int x5, .int x6])) :: (a2, .inr (1, [.ref a8, .int x9, .int x10, .int x11, .int x12, .int x13])) :: fr) sz)) 1 6 (va_A ((a1, .inr (0, [.ref a2, .ref a3, .ref a4, .int x5, .int x6])) :: (a2, .inr (1, [.ref a8, .int x9, .int x10, .int x11, .int x12, .int x13])) :: fr) sz) := by
  refine vx_ofW (cc := b_T_line) (maxL := 4) (ret := (some .int)) (by decide) rfl ?_
  intro p e s m args below meth c s₁ B hml htab hv
  obtain ⟨rfl, hsz, hP, hK, hD0⟩ := hv
  have hx := B.exec
  have hb := B.bytes
  have hr := B.returns
  have htg : ∀ w ∈ tp_G, w.before ([.ref a1, .int x7] : List Value).toArray s = true := fun w h => atoms_spec (ws := w_T_line) B.pre w (List.mem_cons_of_mem _ h)
  have hown : s.vm.findClass "TwoPass" = some m.cls := findClass_of_methodNamed B.named
  have hlocks := B.notSynchronized
  subst hsz
  have hD := hD0.self (sz := s.heap.size)
  generalize hAe : va_A ((a1, .inr (0, [.ref a2, .ref a3, .ref a4, .int x5, .int x6])) :: (a2, .inr (1, [.ref a8, .int x9, .int x10, .int x11, .int x12, .int x13])) :: fr) s.heap.size = A at hD hK ⊢
  have hA : ∀ q : Nat, s.heap.size ≤ q → A q := fun q h => by rw [← hAe]; exact Or.inr h
  have hS : va_S A s.heap s.heap [] := va_S.rf
  have hl := lv_entry ([.ref a1, .int x7]) (n := 4) (Nat.le_of_ble_eq_true rfl)
  rw [lg_entry_eq]
  generalize (lg_sl ([.ref a1, .int x7]) ++ List.replicate (4 - (lg_sl ([.ref a1, .int x7])).length) Slot.unset).toArray = ls at hl ⊢
  have hl : lv_has ls 4 [(0, .ref a1), (1, .int x7)] := hl
  refine lv_aload_n hx hb d_T_line_0 rfl (lv_at hl 0 rfl) ?_
  refine va_get (D := tp_D E) (ci := 0) (v := .ref a2) (C := qR_T) (T := qF_T) (N := 5) hx hb htg qi_T hown hK.1 hP 0 rfl rfl 0 (by decide) (htg _ kl_T_10) (fun _ h => h) rfl d_T_line_1 ?_
  have hP : va_P (tp_D E) tp_cl ((a2, .inr (1, [.ref a8, .int x9, .int x10, .int x11, .int x12, .int x13])) :: (a1, .inr (0, [.ref a2, .ref a3, .ref a4, .int x5, .int x6])) :: fr) _ := tp_mvP 1 rfl hP
  have hD : va_D A ((a2, .inr (1, [.ref a8, .int x9, .int x10, .int x11, .int x12, .int x13])) :: (a1, .inr (0, [.ref a2, .ref a3, .ref a4, .int x5, .int x6])) :: fr) := tp_mvD 1 rfl hD
  refine tp_cv (tp_rV (As := []) (rest := []) ⟨hx, hb, hml, hown, htg⟩ (c_Y_take_1 l E ((a1, .inr (0, [.ref a2, .ref a3, .ref a4, .int x5, .int x6])) :: fr) _ a2 a8 x9 x10 x11 x12 x13 ) (⟨callB_of 0 htg (tp_good0 kc_Y_take) rfl rfl rfl (htg _ ki_Y) (htg _ kl_T_55) ⟨by decide, by decide, by decide +kernel⟩ ⟨Nat.le_of_ble_eq_true rfl, Nat.le_of_ble_eq_true rfl⟩, htg _ km_Y_take, htg _ kv_Y_Y_take⟩) (va_recv (ci := 1) (q0 := 0) hK.1 hP rfl rfl) hK hP hD hS hA rfl hl.1 rfl (Nat.le_of_ble_eq_true rfl) d_T_line_4 ⟨Nat.le_of_ble_eq_true rfl, Nat.le_of_ble_eq_true rfl⟩) hD hS hA (fun u H locs _ hP hD hS => ?_)
  have hP : va_P (tp_D E) tp_cl ((a2, .inr (1, [.ref a8, .int 0, .int x9, .int 0, .int x12, .int x13])) :: (a1, .inr (0, [.ref a2, .ref a3, .ref a4, .int x5, .int x6])) :: fr) H := hP
  have hD : va_D A ((a2, .inr (1, [.ref a8, .int 0, .int x9, .int 0, .int x12, .int x13])) :: (a1, .inr (0, [.ref a2, .ref a3, .ref a4, .int x5, .int x6])) :: fr) := hD
  refine lv_iload_n hx hb d_T_line_7 rfl (lv_at hl 1 rfl) ?_
  refine tp_tv (tp_xS (As := [.int x7]) (rest := []) ⟨hx, hb, hml, hown, htg⟩ (c_T_requireModule_1 l hfl E ((a2, .inr (1, [.ref a8, .int 0, .int x9, .int 0, .int x12, .int x13])) :: (a1, .inr (0, [.ref a2, .ref a3, .ref a4, .int x5, .int x6])) :: fr) _ x7 h1) (⟨callB_of 1 htg (tp_good0 kc_T_requireModule) rfl rfl rfl (htg _ ki_T) (htg _ kl_T_58) ⟨by decide, by decide, by decide +kernel⟩ ⟨Nat.le_of_ble_eq_true rfl, Nat.le_of_ble_eq_true rfl⟩, htg _ ks_T_requireModule⟩) hK hP hD hS hA rfl hl.1 rfl (Nat.le_of_ble_eq_true rfl) d_T_line_8 ⟨Nat.le_of_ble_eq_true rfl, Nat.le_of_ble_eq_true rfl⟩) hD hS hA (fun ce q H locs hP hD hS hce hcv hcl => ?_)
  have hP : va_P (tp_D E) tp_cl ((a2, .inr (1, [.ref a8, .int 0, .int x9, .int 0, .int x12, .int x13])) :: (a1, .inr (0, [.ref a2, .ref a3, .ref a4, .int x5, .int x6])) :: fr) H := hP
  have hD : va_D A ((a2, .inr (1, [.ref a8, .int 0, .int x9, .int 0, .int x12, .int x13])) :: (a1, .inr (0, [.ref a2, .ref a3, .ref a4, .int x5, .int x6])) :: fr) := hD
  exact vx_out (fun x h => (htab x h).elim) hlocks hce hcv hcl (fun t ht hvm => ⟨(), trivial, ⟨rfl, by rw [ht]; exact hP, hD⟩, hS.F ht⟩) hS.2.2 (Nat.le_of_ble_eq_true rfl) (Nat.le_of_ble_eq_true rfl)
set_option maxHeartbeats 400000 in
set_option maxRecDepth 100000 in
theorem c_T_line_2 (l : Launch) (hfl : l.stackTraces = false) (E : tp_Env) (fr : va_W) (sz : Nat) (a1 : Nat) (a2 : Nat) (a3 : Nat) (a4 : Nat) (x5 : Int32) (x6 : Int32) (x7 : Int32) (a8 : Nat) (x9 : Int32) (x10 : Int32) (x11 : Int32) (x12 : Int32) (x13 : Int32) (h1 : ¬ x7 < 0) (h2 : 2 ≤ x7) : vx_Met l y_T_line w_T_line ({ frames := 7, cells := 1, slots := 6, locals := 109 }) (va_Pc [.ref a1, .int x7] (tp_in E ((a1, .inr (0, [.ref a2, .ref a3, .ref a4, .int x5, .int x6])) :: (a2, .inr (1, [.ref a8, .int x9, .int x10, .int x11, .int x12, .int x13])) :: fr) sz)) (va_Qi (fun (_ : Int32) (_ : Unit) => False) (fun _ _ => True) (va_A ((a1, .inr (0, [.ref a2, .ref a3, .ref a4, .int x5, .int x6])) :: (a2, .inr (1, [.ref a8, .int x9, .int x10, .int x11, .int x12, .int x13])) :: fr) sz)) (vx_X (fun (_ : Unit) => True) (fun x _ t => x = "java/lang/IllegalArgumentException" ∧ tp_out E (va_A ((a1, .inr (0, [.ref a2, .ref a3, .ref a4, .int x5, .int x6])) :: (a2, .inr (1, [.ref a8, .int x9, .int x10, .int x11, .int x12, .int x13])) :: fr) sz) ((a2, .inr (1, [.ref a8, .int 0, .int x9, .int 0, .int x12, .int x13])) :: (a1, .inr (0, [.ref a2, .ref a3, .ref a4, .int x5, .int x6])) :: fr) t) (va_A ((a1, .inr (0, [.ref a2, .ref a3, .ref a4, .int x5, .int x6])) :: (a2, .inr (1, [.ref a8, .int x9, .int x10, .int x11, .int x12, .int x13])) :: fr) sz)) 1 6 (va_A ((a1, .inr (0, [.ref a2, .ref a3, .ref a4, .int x5, .int x6])) :: (a2, .inr (1, [.ref a8, .int x9, .int x10, .int x11, .int x12, .int x13])) :: fr) sz) := by
  refine vx_ofW (cc := b_T_line) (maxL := 4) (ret := (some .int)) (by decide) rfl ?_
  intro p e s m args below meth c s₁ B hml htab hv
  obtain ⟨rfl, hsz, hP, hK, hD0⟩ := hv
  have hx := B.exec
  have hb := B.bytes
  have hr := B.returns
  have htg : ∀ w ∈ tp_G, w.before ([.ref a1, .int x7] : List Value).toArray s = true := fun w h => atoms_spec (ws := w_T_line) B.pre w (List.mem_cons_of_mem _ h)
  have hown : s.vm.findClass "TwoPass" = some m.cls := findClass_of_methodNamed B.named
  have hlocks := B.notSynchronized
  subst hsz
  have hD := hD0.self (sz := s.heap.size)
  generalize hAe : va_A ((a1, .inr (0, [.ref a2, .ref a3, .ref a4, .int x5, .int x6])) :: (a2, .inr (1, [.ref a8, .int x9, .int x10, .int x11, .int x12, .int x13])) :: fr) s.heap.size = A at hD hK ⊢
  have hA : ∀ q : Nat, s.heap.size ≤ q → A q := fun q h => by rw [← hAe]; exact Or.inr h
  have hS : va_S A s.heap s.heap [] := va_S.rf
  have hl := lv_entry ([.ref a1, .int x7]) (n := 4) (Nat.le_of_ble_eq_true rfl)
  rw [lg_entry_eq]
  generalize (lg_sl ([.ref a1, .int x7]) ++ List.replicate (4 - (lg_sl ([.ref a1, .int x7])).length) Slot.unset).toArray = ls at hl ⊢
  have hl : lv_has ls 4 [(0, .ref a1), (1, .int x7)] := hl
  refine lv_aload_n hx hb d_T_line_0 rfl (lv_at hl 0 rfl) ?_
  refine va_get (D := tp_D E) (ci := 0) (v := .ref a2) (C := qR_T) (T := qF_T) (N := 5) hx hb htg qi_T hown hK.1 hP 0 rfl rfl 0 (by decide) (htg _ kl_T_10) (fun _ h => h) rfl d_T_line_1 ?_
  have hP : va_P (tp_D E) tp_cl ((a2, .inr (1, [.ref a8, .int x9, .int x10, .int x11, .int x12, .int x13])) :: (a1, .inr (0, [.ref a2, .ref a3, .ref a4, .int x5, .int x6])) :: fr) _ := tp_mvP 1 rfl hP
  have hD : va_D A ((a2, .inr (1, [.ref a8, .int x9, .int x10, .int x11, .int x12, .int x13])) :: (a1, .inr (0, [.ref a2, .ref a3, .ref a4, .int x5, .int x6])) :: fr) := tp_mvD 1 rfl hD
  refine tp_cv (tp_rV (As := []) (rest := []) ⟨hx, hb, hml, hown, htg⟩ (c_Y_take_1 l E ((a1, .inr (0, [.ref a2, .ref a3, .ref a4, .int x5, .int x6])) :: fr) _ a2 a8 x9 x10 x11 x12 x13 ) (⟨callB_of 0 htg (tp_good0 kc_Y_take) rfl rfl rfl (htg _ ki_Y) (htg _ kl_T_55) ⟨by decide, by decide, by decide +kernel⟩ ⟨Nat.le_of_ble_eq_true rfl, Nat.le_of_ble_eq_true rfl⟩, htg _ km_Y_take, htg _ kv_Y_Y_take⟩) (va_recv (ci := 1) (q0 := 0) hK.1 hP rfl rfl) hK hP hD hS hA rfl hl.1 rfl (Nat.le_of_ble_eq_true rfl) d_T_line_4 ⟨Nat.le_of_ble_eq_true rfl, Nat.le_of_ble_eq_true rfl⟩) hD hS hA (fun u H locs _ hP hD hS => ?_)
  have hP : va_P (tp_D E) tp_cl ((a2, .inr (1, [.ref a8, .int 0, .int x9, .int 0, .int x12, .int x13])) :: (a1, .inr (0, [.ref a2, .ref a3, .ref a4, .int x5, .int x6])) :: fr) H := hP
  have hD : va_D A ((a2, .inr (1, [.ref a8, .int 0, .int x9, .int 0, .int x12, .int x13])) :: (a1, .inr (0, [.ref a2, .ref a3, .ref a4, .int x5, .int x6])) :: fr) := hD
  refine lv_iload_n hx hb d_T_line_7 rfl (lv_at hl 1 rfl) ?_
  refine tp_tv (tp_xS (As := [.int x7]) (rest := []) ⟨hx, hb, hml, hown, htg⟩ (c_T_requireModule_2 l hfl E ((a2, .inr (1, [.ref a8, .int 0, .int x9, .int 0, .int x12, .int x13])) :: (a1, .inr (0, [.ref a2, .ref a3, .ref a4, .int x5, .int x6])) :: fr) _ x7 h1 h2) (⟨callB_of 1 htg (tp_good0 kc_T_requireModule) rfl rfl rfl (htg _ ki_T) (htg _ kl_T_58) ⟨by decide, by decide, by decide +kernel⟩ ⟨Nat.le_of_ble_eq_true rfl, Nat.le_of_ble_eq_true rfl⟩, htg _ ks_T_requireModule⟩) hK hP hD hS hA rfl hl.1 rfl (Nat.le_of_ble_eq_true rfl) d_T_line_8 ⟨Nat.le_of_ble_eq_true rfl, Nat.le_of_ble_eq_true rfl⟩) hD hS hA (fun ce q H locs hP hD hS hce hcv hcl => ?_)
  have hP : va_P (tp_D E) tp_cl ((a2, .inr (1, [.ref a8, .int 0, .int x9, .int 0, .int x12, .int x13])) :: (a1, .inr (0, [.ref a2, .ref a3, .ref a4, .int x5, .int x6])) :: fr) H := hP
  have hD : va_D A ((a2, .inr (1, [.ref a8, .int 0, .int x9, .int 0, .int x12, .int x13])) :: (a1, .inr (0, [.ref a2, .ref a3, .ref a4, .int x5, .int x6])) :: fr) := hD
  exact vx_out (fun x h => (htab x h).elim) hlocks hce hcv hcl (fun t ht hvm => ⟨(), trivial, ⟨rfl, by rw [ht]; exact hP, hD⟩, hS.F ht⟩) hS.2.2 (Nat.le_of_ble_eq_true rfl) (Nat.le_of_ble_eq_true rfl)
set_option maxHeartbeats 400000 in
set_option maxRecDepth 100000 in
theorem c_N_init_1 (l : Launch) (E : tp_Env) (fr : va_W) (sz : Nat) (a1 : Nat) (x2 : Int32) (x3 : Int32) (x4 : Int32) (x5 : Int32) (x6 : Int64) (x7 : Int32) (x8 : Int32) (x9 : Int32) (x10 : Int32) (x11 : Int32)  : Met l y_N_init w_N_init ({ frames := 1, cells := 0, slots := 0, locals := 12 }) (va_Pc [.ref a1] (tp_in E ((a1, .inr (3, [.int x2, .null, .int x3, .int x4, .int x5, .long x6, .int x7, .int x8, .int x9, .int x10, .int x11])) :: fr) sz)) (va_Qv (fun (_ : Unit) => True) (fun _ t => tp_out E (va_A ((a1, .inr (3, [.int x2, .null, .int x3, .int x4, .int x5, .long x6, .int x7, .int x8, .int x9, .int x10, .int x11])) :: fr) sz) ((a1, .inr (3, [.int 0, .ref (tp_ad E 0), .int x3, .int x4, .int x5, .long x6, .int 0, .int x8, .int x9, .int x10, .int x11])) :: fr) t) (va_A ((a1, .inr (3, [.int x2, .null, .int x3, .int x4, .int x5, .long x6, .int x7, .int x8, .int x9, .int x10, .int x11])) :: fr) sz)) 0 0 (va_A ((a1, .inr (3, [.int x2, .null, .int x3, .int x4, .int x5, .long x6, .int x7, .int x8, .int x9, .int x10, .int x11])) :: fr) sz) := by
  refine Met.ofW (cc := b_N_init) (maxL := 1) (ret := none) (by decide) rfl ?_
  intro p e s m args below meth c s₁ B hml hv
  obtain ⟨rfl, hsz, hP, hK, hD0⟩ := hv
  have hx := B.exec
  have hb := B.bytes
  have hr := B.returns
  have htg : ∀ w ∈ tp_G, w.before ([.ref a1] : List Value).toArray s = true := fun w h => atoms_spec (ws := w_N_init) B.pre w (List.mem_cons_of_mem _ h)
  have hown : s.vm.findClass "TwoPass$Line" = some m.cls := findClass_of_methodNamed B.named
  have hlocks := B.notSynchronized
  have hin : meth.name = "<init>" := (name_of_methodNamed B.named B.method).1
  subst hsz
  have hD := hD0.self (sz := s.heap.size)
  generalize hAe : va_A ((a1, .inr (3, [.int x2, .null, .int x3, .int x4, .int x5, .long x6, .int x7, .int x8, .int x9, .int x10, .int x11])) :: fr) s.heap.size = A at hD hK ⊢
  have hA : ∀ q : Nat, s.heap.size ≤ q → A q := fun q h => by rw [← hAe]; exact Or.inr h
  have hS : va_S A s.heap s.heap [] := va_S.rf
  have hl := lv_entry ([.ref a1]) (n := 1) (Nat.le_of_ble_eq_true rfl)
  rw [lg_entry_eq]
  generalize (lg_sl ([.ref a1]) ++ List.replicate (1 - (lg_sl ([.ref a1])).length) Slot.unset).toArray = ls at hl ⊢
  have hl : lv_has ls 1 [(0, .ref a1)] := hl
  refine lv_aload_n hx hb d_N_init_0 rfl (lv_at hl 0 rfl) ?_
  refine W.objInit hx hb hown (htg _ kl_N_3) (htg _ km_obj) (htg _ kc_obj) rfl (by rw [hml]; exact hl.1) rfl d_N_init_1 (Nat.le_of_ble_eq_true rfl) (Nat.le_of_ble_eq_true rfl) ?_
  refine W.eq (g2 := F0 m 4 ls []) rfl ?_
  refine lv_aload_n hx hb d_N_init_4 rfl (lv_at hl 0 rfl) ?_
  refine lv_iconst (v := 0) hx hb d_N_init_5 (by decide) ?_
  refine va_put (D := tp_D E) (ci := 3) (v := .int 0) (ty := .int) (C := qR_N) (T := qF_N) (N := 11) hx hb htg qi_N qt_N qt_N_ok qn_N hown hK.1 hP hD hS 0 rfl rfl 0 (by decide) (htg _ kl_N_9) (fun _ h => h) rfl (by decide +kernel) rfl rfl (Nat.le_of_ble_eq_true rfl) d_N_init_6 (fun H locs hP hD hS => ?_)
  have hP : va_P (tp_D E) tp_cl ((a1, .inr (3, [.int 0, .null, .int x3, .int x4, .int x5, .long x6, .int x7, .int x8, .int x9, .int x10, .int x11])) :: fr) H := hP
  have hD : va_D A ((a1, .inr (3, [.int 0, .null, .int x3, .int x4, .int x5, .long x6, .int x7, .int x8, .int x9, .int x10, .int x11])) :: fr) := hD
  refine lv_aload_n hx hb d_N_init_9 rfl (lv_at hl 0 rfl) ?_
  refine va_gets (v := .ref (tp_ad E 0)) hx hb (hK.opZ (i := 0) (by decide)) hS hown (htg _ kl_N_15) (fun _ h => h) d_N_init_10 ?_
  refine va_put (D := tp_D E) (ci := 3) (v := .ref (tp_ad E 0)) (ty := (.object "TwoPass$Operation")) (C := qR_N) (T := qF_N) (N := 11) hx hb htg qi_N qt_N qt_N_ok qn_N hown hK.1 hP hD hS 0 rfl rfl 1 (by decide) (htg _ kl_N_21) (fun _ h => h) rfl (by decide +kernel) rfl rfl (Nat.le_of_ble_eq_true rfl) d_N_init_13 (fun H locs hP hD hS => ?_)
  have hP : va_P (tp_D E) tp_cl ((a1, .inr (3, [.int 0, .ref (tp_ad E 0), .int x3, .int x4, .int x5, .long x6, .int x7, .int x8, .int x9, .int x10, .int x11])) :: fr) H := hP
  have hD : va_D A ((a1, .inr (3, [.int 0, .ref (tp_ad E 0), .int x3, .int x4, .int x5, .long x6, .int x7, .int x8, .int x9, .int x10, .int x11])) :: fr) := hD
  refine lv_aload_n hx hb d_N_init_16 rfl (lv_at hl 0 rfl) ?_
  refine lv_iconst (v := 0) hx hb d_N_init_17 (by decide) ?_
  refine va_put (D := tp_D E) (ci := 3) (v := .int 0) (ty := .int) (C := qR_N) (T := qF_N) (N := 11) hx hb htg qi_N qt_N qt_N_ok qn_N hown hK.1 hP hD hS 0 rfl rfl 6 (by decide) (htg _ kl_N_24) (fun _ h => h) rfl (by decide +kernel) rfl rfl (Nat.le_of_ble_eq_true rfl) d_N_init_18 (fun H locs hP hD hS => ?_)
  have hP : va_P (tp_D E) tp_cl ((a1, .inr (3, [.int 0, .ref (tp_ad E 0), .int x3, .int x4, .int x5, .long x6, .int 0, .int x8, .int x9, .int x10, .int x11])) :: fr) H := hP
  have hD : va_D A ((a1, .inr (3, [.int 0, .ref (tp_ad E 0), .int x3, .int x4, .int x5, .long x6, .int 0, .int x8, .int x9, .int x10, .int x11])) :: fr) := hD
  exact W.vret hx hb hr (fun t ht hW => ⟨⟨(), rfl, trivial, by rw [ht]; exact hP, hD⟩, hS.F ht⟩) hS.2.2 d_N_init_21
set_option maxHeartbeats 400000 in
set_option maxRecDepth 100000 in
theorem c_Y_skipBlanks_1 (l : Launch) (E : tp_Env) (fr : va_W) (sz : Nat) (a1 : Nat) (a2 : Nat) (x3 : Int32) (x4 : Int32) (x5 : Int32) (x6 : Int32) (x7 : Int32) (h1 : x4 ≤ x5) : Met l y_Y_skipBlanks w_Y_skipBlanks ({ frames := 0, cells := 0, slots := 0, locals := 0 }) (va_Pc [.ref a1] (tp_in E ((a1, .inr (1, [.ref a2, .int x3, .int x4, .int x5, .int x6, .int x7])) :: fr) sz)) (va_Qv (fun (_ : Unit) => True) (fun _ t => tp_out E (va_A ((a1, .inr (1, [.ref a2, .int x3, .int x4, .int x5, .int x6, .int x7])) :: fr) sz) ((a1, .inr (1, [.ref a2, .int x3, .int x4, .int x5, .int x6, .int x7])) :: fr) t) (va_A ((a1, .inr (1, [.ref a2, .int x3, .int x4, .int x5, .int x6, .int x7])) :: fr) sz)) 0 0 (va_A ((a1, .inr (1, [.ref a2, .int x3, .int x4, .int x5, .int x6, .int x7])) :: fr) sz) := by
  refine Met.ofW (cc := b_Y_skipBlanks) (maxL := 1) (ret := none) (by decide) rfl ?_
  intro p e s m args below meth c s₁ B hml hv
  obtain ⟨rfl, hsz, hP, hK, hD0⟩ := hv
  have hx := B.exec
  have hb := B.bytes
  have hr := B.returns
  have htg : ∀ w ∈ tp_G, w.before ([.ref a1] : List Value).toArray s = true := fun w h => atoms_spec (ws := w_Y_skipBlanks) B.pre w (List.mem_cons_of_mem _ h)
  have hown : s.vm.findClass "TwoPass$Typed" = some m.cls := findClass_of_methodNamed B.named
  have hlocks := B.notSynchronized
  subst hsz
  have hD := hD0.self (sz := s.heap.size)
  generalize hAe : va_A ((a1, .inr (1, [.ref a2, .int x3, .int x4, .int x5, .int x6, .int x7])) :: fr) s.heap.size = A at hD hK ⊢
  have hA : ∀ q : Nat, s.heap.size ≤ q → A q := fun q h => by rw [← hAe]; exact Or.inr h
  have hS : va_S A s.heap s.heap [] := va_S.rf
  have hl := lv_entry ([.ref a1]) (n := 1) (Nat.le_of_ble_eq_true rfl)
  rw [lg_entry_eq]
  generalize (lg_sl ([.ref a1]) ++ List.replicate (1 - (lg_sl ([.ref a1])).length) Slot.unset).toArray = ls at hl ⊢
  have hl : lv_has ls 1 [(0, .ref a1)] := hl
  refine lv_aload_n hx hb d_Y_skipBlanks_0 rfl (lv_at hl 0 rfl) ?_
  refine va_get (D := tp_D E) (ci := 1) (v := .int x5) (C := qR_Y) (T := qF_Y) (N := 6) hx hb htg qi_Y hown hK.1 hP 0 rfl rfl 3 (by decide) (htg _ kl_Y_22) (fun _ h => h) rfl d_Y_skipBlanks_1 ?_
  refine lv_aload_n hx hb d_Y_skipBlanks_4 rfl (lv_at hl 0 rfl) ?_
  refine va_get (D := tp_D E) (ci := 1) (v := .int x4) (C := qR_Y) (T := qF_Y) (N := 6) hx hb htg qi_Y hown hK.1 hP 0 rfl rfl 2 (by decide) (htg _ kl_Y_19) (fun _ h => h) rfl d_Y_skipBlanks_5 ?_
  refine lv_icmp_ge (tgt := 38) hx hb d_Y_skipBlanks_8 (by decide) (fun _ => ?_) (fun h => absurd h1 h)
  exact W.vret hx hb hr (fun t ht hW => ⟨⟨(), rfl, trivial, by rw [ht]; exact hP, hD⟩, hS.F ht⟩) hS.2.2 d_Y_skipBlanks_38
set_option maxHeartbeats 400000 in
set_option maxRecDepth 100000 in
theorem c_Y_nextWord_1 (l : Launch) (E : tp_Env) (fr : va_W) (sz : Nat) (a1 : Nat) (a2 : Nat) (x3 : Int32) (x4 : Int32) (x5 : Int32) (x6 : Int32) (x7 : Int32) (h1 : x4 ≤ x5) : Met l y_Y_nextWord w_Y_nextWord ({ frames := 1, cells := 0, slots := 0, locals := 20 }) (va_Pc [.ref a1] (tp_in E ((a1, .inr (1, [.ref a2, .int x3, .int x4, .int x5, .int x6, .int x7])) :: fr) sz)) (va_Qv (fun (_ : Unit) => True) (fun _ t => tp_out E (va_A ((a1, .inr (1, [.ref a2, .int x3, .int x4, .int x5, .int x6, .int x7])) :: fr) sz) ((a1, .inr (1, [.ref a2, .int x3, .int x4, .int x5, .int x5, .int x5])) :: fr) t) (va_A ((a1, .inr (1, [.ref a2, .int x3, .int x4, .int x5, .int x6, .int x7])) :: fr) sz)) 0 0 (va_A ((a1, .inr (1, [.ref a2, .int x3, .int x4, .int x5, .int x6, .int x7])) :: fr) sz) := by
  refine Met.ofW (cc := b_Y_nextWord) (maxL := 1) (ret := none) (by decide) rfl ?_
  intro p e s m args below meth c s₁ B hml hv
  obtain ⟨rfl, hsz, hP, hK, hD0⟩ := hv
  have hx := B.exec
  have hb := B.bytes
  have hr := B.returns
  have htg : ∀ w ∈ tp_G, w.before ([.ref a1] : List Value).toArray s = true := fun w h => atoms_spec (ws := w_Y_nextWord) B.pre w (List.mem_cons_of_mem _ h)
  have hown : s.vm.findClass "TwoPass$Typed" = some m.cls := findClass_of_methodNamed B.named
  have hlocks := B.notSynchronized
  subst hsz
  have hD := hD0.self (sz := s.heap.size)
  generalize hAe : va_A ((a1, .inr (1, [.ref a2, .int x3, .int x4, .int x5, .int x6, .int x7])) :: fr) s.heap.size = A at hD hK ⊢
  have hA : ∀ q : Nat, s.heap.size ≤ q → A q := fun q h => by rw [← hAe]; exact Or.inr h
  have hS : va_S A s.heap s.heap [] := va_S.rf
  have hl := lv_entry ([.ref a1]) (n := 1) (Nat.le_of_ble_eq_true rfl)
  rw [lg_entry_eq]
  generalize (lg_sl ([.ref a1]) ++ List.replicate (1 - (lg_sl ([.ref a1])).length) Slot.unset).toArray = ls at hl ⊢
  have hl : lv_has ls 1 [(0, .ref a1)] := hl
  refine lv_aload_n hx hb d_Y_nextWord_0 rfl (lv_at hl 0 rfl) ?_
  refine tp_cv (tp_rV (As := []) (rest := []) ⟨hx, hb, hml, hown, htg⟩ (c_Y_skipBlanks_1 l E fr _ a1 a2 x3 x4 x5 x6 x7 h1) (⟨callB_of 0 htg (tp_good0 kc_Y_skipBlanks) rfl rfl rfl (htg _ ki_Y) (htg _ kl_Y_112) ⟨by decide, by decide, by decide +kernel⟩ ⟨Nat.le_of_ble_eq_true rfl, Nat.le_of_ble_eq_true rfl⟩, htg _ km_Y_skipBlanks, htg _ kp_Y_skipBlanks⟩) (va_recv (ci := 1) (q0 := 0) hK.1 hP rfl rfl) hK hP hD hS hA rfl hl.1 rfl (Nat.le_of_ble_eq_true rfl) d_Y_nextWord_1 ⟨Nat.le_of_ble_eq_true rfl, Nat.le_of_ble_eq_true rfl⟩) hD hS hA (fun u H locs _ hP hD hS => ?_)
  have hP : va_P (tp_D E) tp_cl ((a1, .inr (1, [.ref a2, .int x3, .int x4, .int x5, .int x6, .int x7])) :: fr) H := hP
  have hD : va_D A ((a1, .inr (1, [.ref a2, .int x3, .int x4, .int x5, .int x6, .int x7])) :: fr) := hD
  refine lv_aload_n hx hb d_Y_nextWord_4 rfl (lv_at hl 0 rfl) ?_
  refine lv_aload_n hx hb d_Y_nextWord_5 rfl (lv_at hl 0 rfl) ?_
  refine va_get (D := tp_D E) (ci := 1) (v := .int x5) (C := qR_Y) (T := qF_Y) (N := 6) hx hb htg qi_Y hown hK.1 hP 0 rfl rfl 3 (by decide) (htg _ kl_Y_22) (fun _ h => h) rfl d_Y_nextWord_6 ?_
  refine va_put (D := tp_D E) (ci := 1) (v := .int x5) (ty := .int) (C := qR_Y) (T := qF_Y) (N := 6) hx hb htg qi_Y qt_Y qt_Y_ok qn_Y hown hK.1 hP hD hS 0 rfl rfl 4 (by decide) (htg _ kl_Y_115) (fun _ h => h) rfl (by decide +kernel) rfl rfl (Nat.le_of_ble_eq_true rfl) d_Y_nextWord_9 (fun H locs hP hD hS => ?_)
  have hP : va_P (tp_D E) tp_cl ((a1, .inr (1, [.ref a2, .int x3, .int x4, .int x5, .int x5, .int x7])) :: fr) H := hP
  have hD : va_D A ((a1, .inr (1, [.ref a2, .int x3, .int x4, .int x5, .int x5, .int x7])) :: fr) := hD
  refine lv_aload_n hx hb d_Y_nextWord_12 rfl (lv_at hl 0 rfl) ?_
  refine va_get (D := tp_D E) (ci := 1) (v := .int x5) (C := qR_Y) (T := qF_Y) (N := 6) hx hb htg qi_Y hown hK.1 hP 0 rfl rfl 3 (by decide) (htg _ kl_Y_22) (fun _ h => h) rfl d_Y_nextWord_13 ?_
  refine lv_aload_n hx hb d_Y_nextWord_16 rfl (lv_at hl 0 rfl) ?_
  refine va_get (D := tp_D E) (ci := 1) (v := .int x4) (C := qR_Y) (T := qF_Y) (N := 6) hx hb htg qi_Y hown hK.1 hP 0 rfl rfl 2 (by decide) (htg _ kl_Y_19) (fun _ h => h) rfl d_Y_nextWord_17 ?_
  refine lv_icmp_ge (tgt := 51) hx hb d_Y_nextWord_20 (by decide) (fun _ => ?_) (fun h => absurd h1 h)
  refine lv_aload_n hx hb d_Y_nextWord_51 rfl (lv_at hl 0 rfl) ?_
  refine lv_aload_n hx hb d_Y_nextWord_52 rfl (lv_at hl 0 rfl) ?_
  refine va_get (D := tp_D E) (ci := 1) (v := .int x5) (C := qR_Y) (T := qF_Y) (N := 6) hx hb htg qi_Y hown hK.1 hP 0 rfl rfl 3 (by decide) (htg _ kl_Y_22) (fun _ h => h) rfl d_Y_nextWord_53 ?_
  refine va_put (D := tp_D E) (ci := 1) (v := .int x5) (ty := .int) (C := qR_Y) (T := qF_Y) (N := 6) hx hb htg qi_Y qt_Y qt_Y_ok qn_Y hown hK.1 hP hD hS 0 rfl rfl 5 (by decide) (htg _ kl_Y_121) (fun _ h => h) rfl (by decide +kernel) rfl rfl (Nat.le_of_ble_eq_true rfl) d_Y_nextWord_56 (fun H locs hP hD hS => ?_)
  have hP : va_P (tp_D E) tp_cl ((a1, .inr (1, [.ref a2, .int x3, .int x4, .int x5, .int x5, .int x5])) :: fr) H := hP
  have hD : va_D A ((a1, .inr (1, [.ref a2, .int x3, .int x4, .int x5, .int x5, .int x5])) :: fr) := hD
  refine lv_aload_n hx hb d_Y_nextWord_59 rfl (lv_at hl 0 rfl) ?_
  refine tp_cv (tp_rV (As := []) (rest := []) ⟨hx, hb, hml, hown, htg⟩ (c_Y_skipBlanks_1 l E fr _ a1 a2 x3 x4 x5 x5 x5 h1) (⟨callB_of 0 htg (tp_good0 kc_Y_skipBlanks) rfl rfl rfl (htg _ ki_Y) (htg _ kl_Y_112) ⟨by decide, by decide, by decide +kernel⟩ ⟨Nat.le_of_ble_eq_true rfl, Nat.le_of_ble_eq_true rfl⟩, htg _ km_Y_skipBlanks, htg _ kp_Y_skipBlanks⟩) (va_recv (ci := 1) (q0 := 0) hK.1 hP rfl rfl) hK hP hD hS hA rfl hl.1 rfl (Nat.le_of_ble_eq_true rfl) d_Y_nextWord_60 ⟨Nat.le_of_ble_eq_true rfl, Nat.le_of_ble_eq_true rfl⟩) hD hS hA (fun u H locs _ hP hD hS => ?_)
  have hP : va_P (tp_D E) tp_cl ((a1, .inr (1, [.ref a2, .int x3, .int x4, .int x5, .int x5, .int x5])) :: fr) H := hP
  have hD : va_D A ((a1, .inr (1, [.ref a2, .int x3, .int x4, .int x5, .int x5, .int x5])) :: fr) := hD
  exact W.vret hx hb hr (fun t ht hW => ⟨⟨(), rfl, trivial, by rw [ht]; exact hP, hD⟩, hS.F ht⟩) hS.2.2 d_Y_nextWord_63
set_option maxHeartbeats 400000 in
set_option maxRecDepth 100000 in
theorem c_Y_nextIs_1 (l : Launch) (E : tp_Env) (fr : va_W) (sz : Nat) (a1 : Nat) (a2 : Nat) (x3 : Int32) (x4 : Int32) (x5 : Int32) (x6 : Int32) (x7 : Int32) (h1 : x4 ≤ x5) : Met l y_Y_nextIs w_Y_nextIs ({ frames := 0, cells := 0, slots := 0, locals := 0 }) (va_Pc [.ref a1, .int 58] (tp_in E ((a1, .inr (1, [.ref a2, .int x3, .int x4, .int x5, .int x6, .int x7])) :: fr) sz)) (va_Qi (fun r (_ : Unit) => r = 0) (fun _ t => tp_out E (va_A ((a1, .inr (1, [.ref a2, .int x3, .int x4, .int x5, .int x6, .int x7])) :: fr) sz) ((a1, .inr (1, [.ref a2, .int x3, .int x4, .int x5, .int x6, .int x7])) :: fr) t) (va_A ((a1, .inr (1, [.ref a2, .int x3, .int x4, .int x5, .int x6, .int x7])) :: fr) sz)) 0 0 (va_A ((a1, .inr (1, [.ref a2, .int x3, .int x4, .int x5, .int x6, .int x7])) :: fr) sz) := by
  refine Met.ofW (cc := b_Y_nextIs) (maxL := 2) (ret := (some .boolean)) (by decide) rfl ?_
  intro p e s m args below meth c s₁ B hml hv
  obtain ⟨rfl, hsz, hP, hK, hD0⟩ := hv
  have hx := B.exec
  have hb := B.bytes
  have hr := B.returns
  have htg : ∀ w ∈ tp_G, w.before ([.ref a1, .int 58] : List Value).toArray s = true := fun w h => atoms_spec (ws := w_Y_nextIs) B.pre w (List.mem_cons_of_mem _ h)
  have hown : s.vm.findClass "TwoPass$Typed" = some m.cls := findClass_of_methodNamed B.named
  have hlocks := B.notSynchronized
  subst hsz
  have hD := hD0.self (sz := s.heap.size)
  generalize hAe : va_A ((a1, .inr (1, [.ref a2, .int x3, .int x4, .int x5, .int x6, .int x7])) :: fr) s.heap.size = A at hD hK ⊢
  have hA : ∀ q : Nat, s.heap.size ≤ q → A q := fun q h => by rw [← hAe]; exact Or.inr h
  have hS : va_S A s.heap s.heap [] := va_S.rf
  have hl := lv_entry ([.ref a1, .int 58]) (n := 2) (Nat.le_of_ble_eq_true rfl)
  rw [lg_entry_eq]
  generalize (lg_sl ([.ref a1, .int 58]) ++ List.replicate (2 - (lg_sl ([.ref a1, .int 58])).length) Slot.unset).toArray = ls at hl ⊢
  have hl : lv_has ls 2 [(0, .ref a1), (1, .int 58)] := hl
  refine lv_aload_n hx hb d_Y_nextIs_0 rfl (lv_at hl 0 rfl) ?_
  refine va_get (D := tp_D E) (ci := 1) (v := .int x5) (C := qR_Y) (T := qF_Y) (N := 6) hx hb htg qi_Y hown hK.1 hP 0 rfl rfl 3 (by decide) (htg _ kl_Y_22) (fun _ h => h) rfl d_Y_nextIs_1 ?_
  refine lv_aload_n hx hb d_Y_nextIs_4 rfl (lv_at hl 0 rfl) ?_
  refine va_get (D := tp_D E) (ci := 1) (v := .int x4) (C := qR_Y) (T := qF_Y) (N := 6) hx hb htg qi_Y hown hK.1 hP 0 rfl rfl 2 (by decide) (htg _ kl_Y_19) (fun _ h => h) rfl d_Y_nextIs_5 ?_
  refine lv_icmp_ge (tgt := 28) hx hb d_Y_nextIs_8 (by decide) (fun _ => ?_) (fun h => absurd h1 h)
  refine lv_iconst (v := 0) hx hb d_Y_nextIs_28 (by decide) ?_
  exact W.zret (v := 0) hx hb hr rfl (fun t ht hW => ⟨⟨_, (), rfl, rfl, by rw [ht]; exact hP, hD⟩, hS.F ht⟩) hS.2.2 d_Y_nextIs_29
set_option maxHeartbeats 400000 in
set_option maxRecDepth 100000 in
theorem c_ST_coder_1 (l : Launch) (E : tp_Env) (fr : va_W) (sz : Nat)   : Met l y_ST_coder w_ST_coder ({ frames := 0, cells := 0, slots := 0, locals := 0 }) (va_Pc [.ref (tp_ad E 200)] (tp_in E fr sz)) (va_Qi (fun r (_ : Unit) => r = 0) (fun _ t => tp_out E (va_A fr sz) fr t) (va_A fr sz)) 0 0 (va_A fr sz) := by
  refine Met.ofW (cc := b_ST_coder) (maxL := 1) (ret := (some .byte)) (by decide) rfl ?_
  intro p e s m args below meth c s₁ B hml hv
  obtain ⟨rfl, hsz, hP, hK, hD0⟩ := hv
  have hx := B.exec
  have hb := B.bytes
  have hr := B.returns
  have htg : ∀ w ∈ tp_G, w.before ([.ref (tp_ad E 200)] : List Value).toArray s = true := fun w h => atoms_spec (ws := w_ST_coder) B.pre w (List.mem_cons_of_mem _ h)
  have hown : s.vm.findClass "java/lang/String" = some m.cls := findClass_of_methodNamed B.named
  have hlocks := B.notSynchronized
  subst hsz
  have hD := hD0.self (sz := s.heap.size)
  generalize hAe : va_A fr s.heap.size = A at hD hK ⊢
  have hA : ∀ q : Nat, s.heap.size ≤ q → A q := fun q h => by rw [← hAe]; exact Or.inr h
  have hS : va_S A s.heap s.heap [] := va_S.rf
  have hl := lv_entry ([.ref (tp_ad E 200)]) (n := 1) (Nat.le_of_ble_eq_true rfl)
  rw [lg_entry_eq]
  generalize (lg_sl ([.ref (tp_ad E 200)]) ++ List.replicate (1 - (lg_sl ([.ref (tp_ad E 200)])).length) Slot.unset).toArray = ls at hl ⊢
  have hl : lv_has ls 1 [(0, .ref (tp_ad E 200))] := hl
  refine va_gets (v := .int 1) hx hb hK.C.1 hS hown (htg _ kl_ST_38) (fun _ h => h) d_ST_coder_0 ?_
  refine lv_if_eq (tgt := 13) hx hb d_ST_coder_3 (by decide) (fun h => absurd h (by decide)) (fun _ => ?_)
  refine lv_aload_n hx hb d_ST_coder_6 rfl (lv_at hl 0 rfl) ?_
  refine vk_getf (v := .int 0) hx hb (hK.strC (i := 0) (by decide)) hS hown (htg _ kl_ST_15) (fun _ h => h) d_ST_coder_7 ?_
  refine lv_goto (tgt := 14) hx hb d_ST_coder_10 (by decide) ?_
  exact W.zret (v := 0) hx hb hr rfl (fun t ht hW => ⟨⟨_, (), rfl, rfl, by rw [ht]; exact hP, hD⟩, hS.F ht⟩) hS.2.2 d_ST_coder_14
set_option maxHeartbeats 400000 in
set_option maxRecDepth 100000 in
theorem c_ST_length_1 (l : Launch) (E : tp_Env) (fr : va_W) (sz : Nat)   : Met l y_ST_length w_ST_length ({ frames := 1, cells := 0, slots := 0, locals := 20 }) (va_Pc [.ref (tp_ad E 200)] (tp_in E fr sz)) (va_Qi (fun r (_ : Unit) => r = 0) (fun _ t => tp_out E (va_A fr sz) fr t) (va_A fr sz)) 0 0 (va_A fr sz) := by
  refine Met.ofW (cc := b_ST_length) (maxL := 1) (ret := (some .int)) (by decide) rfl ?_
  intro p e s m args below meth c s₁ B hml hv
  obtain ⟨rfl, hsz, hP, hK, hD0⟩ := hv
  have hx := B.exec
  have hb := B.bytes
  have hr := B.returns
  have htg : ∀ w ∈ tp_G, w.before ([.ref (tp_ad E 200)] : List Value).toArray s = true := fun w h => atoms_spec (ws := w_ST_length) B.pre w (List.mem_cons_of_mem _ h)
  have hown : s.vm.findClass "java/lang/String" = some m.cls := findClass_of_methodNamed B.named
  have hlocks := B.notSynchronized
  subst hsz
  have hD := hD0.self (sz := s.heap.size)
  generalize hAe : va_A fr s.heap.size = A at hD hK ⊢
  have hA : ∀ q : Nat, s.heap.size ≤ q → A q := fun q h => by rw [← hAe]; exact Or.inr h
  have hS : va_S A s.heap s.heap [] := va_S.rf
  have hl := lv_entry ([.ref (tp_ad E 200)]) (n := 1) (Nat.le_of_ble_eq_true rfl)
  rw [lg_entry_eq]
  generalize (lg_sl ([.ref (tp_ad E 200)]) ++ List.replicate (1 - (lg_sl ([.ref (tp_ad E 200)])).length) Slot.unset).toArray = ls at hl ⊢
  have hl : lv_has ls 1 [(0, .ref (tp_ad E 200))] := hl
  refine lv_aload_n hx hb d_ST_length_0 rfl (lv_at hl 0 rfl) ?_
  refine vk_getf (v := .ref (tp_ad E 400)) hx hb (hK.strV (i := 0) (by decide)) hS hown (htg _ kl_ST_9) (fun _ h => h) d_ST_length_1 ?_
  refine va_tlen (v := 0) hx hb (hK.strT (i := 0) (by decide)) hS (by decide) d_ST_length_4 ?_
  refine lv_aload_n hx hb d_ST_length_5 rfl (lv_at hl 0 rfl) ?_
  refine tp_ci (tp_rV (As := []) (rest := [.int 0]) ⟨hx, hb, hml, hown, htg⟩ (c_ST_coder_1 l E fr _  ) (⟨callB_of 0 htg (tp_good0 kc_ST_coder) rfl rfl rfl (htg _ ki_ST) (htg _ kl_ST_335) ⟨by decide, by decide, by decide +kernel⟩ ⟨Nat.le_of_ble_eq_true rfl, Nat.le_of_ble_eq_true rfl⟩, htg _ km_ST_coder, htg _ kv_ST_ST_coder⟩) (hK.strO (i := 0) (by decide) hS) hK hP hD hS hA rfl hl.1 rfl (Nat.le_of_ble_eq_true rfl) d_ST_length_6 ⟨Nat.le_of_ble_eq_true rfl, Nat.le_of_ble_eq_true rfl⟩) hD hS hA (fun r u H locs hw hP hD hS => ?_)
  subst r
  have hP : va_P (tp_D E) tp_cl (fr) H := hP
  have hD : va_D A (fr) := hD
  refine lv_ishr hx hb d_ST_length_9 ?_
  refine tp_topi (v := 0) (by decide) ?_
  exact W.iret (v := 0) hx hb hr (fun t ht hW => ⟨⟨_, (), rfl, rfl, by rw [ht]; exact hP, hD⟩, hS.F ht⟩) hS.2.2 d_ST_length_10
set_option maxHeartbeats 400000 in
set_option maxRecDepth 100000 in
theorem c_Y_wordIs_1 (l : Launch) (E : tp_Env) (fr : va_W) (sz : Nat) (a1 : Nat) (a2 : Nat) (x3 : Int32) (x4 : Int32) (x5 : Int32) (x6 : Int32) (x7 : Int32) (h1 : 0 = (x7 - x6)) : Met l y_Y_wordIs w_Y_wordIs ({ frames := 2, cells := 0, slots := 0, locals := 40 }) (va_Pc [.ref a1, .ref (tp_ad E 200)] (tp_in E ((a1, .inr (1, [.ref a2, .int x3, .int x4, .int x5, .int x6, .int x7])) :: fr) sz)) (va_Qi (fun r (_ : Unit) => r = 1) (fun _ t => tp_out E (va_A ((a1, .inr (1, [.ref a2, .int x3, .int x4, .int x5, .int x6, .int x7])) :: fr) sz) ((a1, .inr (1, [.ref a2, .int x3, .int x4, .int x5, .int x6, .int x7])) :: fr) t) (va_A ((a1, .inr (1, [.ref a2, .int x3, .int x4, .int x5, .int x6, .int x7])) :: fr) sz)) 0 0 (va_A ((a1, .inr (1, [.ref a2, .int x3, .int x4, .int x5, .int x6, .int x7])) :: fr) sz) := by
  refine Met.ofW (cc := b_Y_wordIs) (maxL := 3) (ret := (some .boolean)) (by decide) rfl ?_
  intro p e s m args below meth c s₁ B hml hv
  obtain ⟨rfl, hsz, hP, hK, hD0⟩ := hv
  have hx := B.exec
  have hb := B.bytes
  have hr := B.returns
  have htg : ∀ w ∈ tp_G, w.before ([.ref a1, .ref (tp_ad E 200)] : List Value).toArray s = true := fun w h => atoms_spec (ws := w_Y_wordIs) B.pre w (List.mem_cons_of_mem _ h)
  have hown : s.vm.findClass "TwoPass$Typed" = some m.cls := findClass_of_methodNamed B.named
  have hlocks := B.notSynchronized
  subst hsz
  have hD := hD0.self (sz := s.heap.size)
  generalize hAe : va_A ((a1, .inr (1, [.ref a2, .int x3, .int x4, .int x5, .int x6, .int x7])) :: fr) s.heap.size = A at hD hK ⊢
  have hA : ∀ q : Nat, s.heap.size ≤ q → A q := fun q h => by rw [← hAe]; exact Or.inr h
  have hS : va_S A s.heap s.heap [] := va_S.rf
  have hl := lv_entry ([.ref a1, .ref (tp_ad E 200)]) (n := 3) (Nat.le_of_ble_eq_true rfl)
  rw [lg_entry_eq]
  generalize (lg_sl ([.ref a1, .ref (tp_ad E 200)]) ++ List.replicate (3 - (lg_sl ([.ref a1, .ref (tp_ad E 200)])).length) Slot.unset).toArray = ls at hl ⊢
  have hl : lv_has ls 3 [(0, .ref a1), (1, .ref (tp_ad E 200))] := hl
  refine lv_aload_n hx hb d_Y_wordIs_0 rfl (lv_at hl 1 rfl) ?_
  refine tp_ci (tp_rV (As := []) (rest := []) ⟨hx, hb, hml, hown, htg⟩ (c_ST_length_1 l E ((a1, .inr (1, [.ref a2, .int x3, .int x4, .int x5, .int x6, .int x7])) :: fr) _  ) (⟨callB_of 0 htg (tp_good0 kc_ST_length) rfl rfl rfl (htg _ ki_ST) (htg _ kl_Y_56) ⟨by decide, by decide, by decide +kernel⟩ ⟨Nat.le_of_ble_eq_true rfl, Nat.le_of_ble_eq_true rfl⟩, htg _ km_ST_length, htg _ kv_ST_ST_length⟩) (hK.strO (i := 0) (by decide) hS) hK hP hD hS hA rfl hl.1 rfl (Nat.le_of_ble_eq_true rfl) d_Y_wordIs_1 ⟨Nat.le_of_ble_eq_true rfl, Nat.le_of_ble_eq_true rfl⟩) hD hS hA (fun r u H locs hw hP hD hS => ?_)
  subst r
  have hP : va_P (tp_D E) tp_cl ((a1, .inr (1, [.ref a2, .int x3, .int x4, .int x5, .int x6, .int x7])) :: fr) H := hP
  have hD : va_D A ((a1, .inr (1, [.ref a2, .int x3, .int x4, .int x5, .int x6, .int x7])) :: fr) := hD
  refine lv_aload_n hx hb d_Y_wordIs_4 rfl (lv_at hl 0 rfl) ?_
  refine va_get (D := tp_D E) (ci := 1) (v := .int x7) (C := qR_Y) (T := qF_Y) (N := 6) hx hb htg qi_Y hown hK.1 hP 0 rfl rfl 5 (by decide) (htg _ kl_Y_121) (fun _ h => h) rfl d_Y_wordIs_5 ?_
  refine lv_aload_n hx hb d_Y_wordIs_8 rfl (lv_at hl 0 rfl) ?_
  refine va_get (D := tp_D E) (ci := 1) (v := .int x6) (C := qR_Y) (T := qF_Y) (N := 6) hx hb htg qi_Y hown hK.1 hP 0 rfl rfl 4 (by decide) (htg _ kl_Y_115) (fun _ h => h) rfl d_Y_wordIs_9 ?_
  refine lv_isub hx hb d_Y_wordIs_12 ?_
  refine lv_icmp_eq (tgt := 18) hx hb d_Y_wordIs_13 (by decide) (fun _ => ?_) (fun h => absurd h1 h)
  refine lv_iconst (v := 0) hx hb d_Y_wordIs_18 (by decide) ?_
  refine lv_istore_n (lv' := [(2, .int 0), (0, .ref a1), (1, .ref (tp_ad E 200))]) hx hb d_Y_wordIs_19 rfl hl (by decide) rfl (fun ls hl => ?_)
  refine lv_iload_n hx hb d_Y_wordIs_20 rfl (lv_at hl 0 rfl) ?_
  refine lv_aload_n hx hb d_Y_wordIs_21 rfl (lv_at hl 2 rfl) ?_
  refine tp_ci (tp_rV (As := []) (rest := [.int 0]) ⟨hx, hb, hml, hown, htg⟩ (c_ST_length_1 l E ((a1, .inr (1, [.ref a2, .int x3, .int x4, .int x5, .int x6, .int x7])) :: fr) _  ) (⟨callB_of 0 htg (tp_good0 kc_ST_length) rfl rfl rfl (htg _ ki_ST) (htg _ kl_Y_56) ⟨by decide, by decide, by decide +kernel⟩ ⟨Nat.le_of_ble_eq_true rfl, Nat.le_of_ble_eq_true rfl⟩, htg _ km_ST_length, htg _ kv_ST_ST_length⟩) (hK.strO (i := 0) (by decide) hS) hK hP hD hS hA rfl hl.1 rfl (Nat.le_of_ble_eq_true rfl) d_Y_wordIs_22 ⟨Nat.le_of_ble_eq_true rfl, Nat.le_of_ble_eq_true rfl⟩) hD hS hA (fun r u H locs hw hP hD hS => ?_)
  subst r
  have hP : va_P (tp_D E) tp_cl ((a1, .inr (1, [.ref a2, .int x3, .int x4, .int x5, .int x6, .int x7])) :: fr) H := hP
  have hD : va_D A ((a1, .inr (1, [.ref a2, .int x3, .int x4, .int x5, .int x6, .int x7])) :: fr) := hD
  refine lv_icmp_ge (tgt := 55) hx hb d_Y_wordIs_25 (by decide) (fun _ => ?_) (fun h => absurd (by decide) h)
  refine lv_iconst (v := 1) hx hb d_Y_wordIs_55 (by decide) ?_
  exact W.zret (v := 1) hx hb hr rfl (fun t ht hW => ⟨⟨_, (), rfl, rfl, by rw [ht]; exact hP, hD⟩, hS.F ht⟩) hS.2.2 d_Y_wordIs_56
set_option maxHeartbeats 400000 in
set_option maxRecDepth 100000 in
theorem c_Y_wordAsOperation_1 (l : Launch) (E : tp_Env) (fr : va_W) (sz : Nat) (a1 : Nat) (a2 : Nat) (x3 : Int32) (x4 : Int32) (x5 : Int32) (x6 : Int32) (x7 : Int32) (h1 : 0 = (x7 - x6)) : Met l y_Y_wordAsOperation w_Y_wordAsOperation ({ frames := 3, cells := 0, slots := 0, locals := 62 }) (va_Pc [.ref a1] (tp_in E ((a1, .inr (1, [.ref a2, .int x3, .int x4, .int x5, .int x6, .int x7])) :: fr) sz)) (va_Qr (fun (_ : Unit) => True) (fun u q t => q = (fun (_ : Unit) => (tp_ad E 0)) u ∧ tp_out E (va_A ((a1, .inr (1, [.ref a2, .int x3, .int x4, .int x5, .int x6, .int x7])) :: fr) sz) ((a1, .inr (1, [.ref a2, .int x3, .int x4, .int x5, .int x6, .int x7])) :: fr) t) (va_A ((a1, .inr (1, [.ref a2, .int x3, .int x4, .int x5, .int x6, .int x7])) :: fr) sz)) 0 0 (va_A ((a1, .inr (1, [.ref a2, .int x3, .int x4, .int x5, .int x6, .int x7])) :: fr) sz) := by
  refine Met.ofW (cc := b_Y_wordAsOperation) (maxL := 2) (ret := (some (.object "TwoPass$Operation"))) (by decide) rfl ?_
  intro p e s m args below meth c s₁ B hml hv
  obtain ⟨rfl, hsz, hP, hK, hD0⟩ := hv
  have hx := B.exec
  have hb := B.bytes
  have hr := B.returns
  have htg : ∀ w ∈ tp_G, w.before ([.ref a1] : List Value).toArray s = true := fun w h => atoms_spec (ws := w_Y_wordAsOperation) B.pre w (List.mem_cons_of_mem _ h)
  have hown : s.vm.findClass "TwoPass$Typed" = some m.cls := findClass_of_methodNamed B.named
  have hlocks := B.notSynchronized
  subst hsz
  have hD := hD0.self (sz := s.heap.size)
  generalize hAe : va_A ((a1, .inr (1, [.ref a2, .int x3, .int x4, .int x5, .int x6, .int x7])) :: fr) s.heap.size = A at hD hK ⊢
  have hA : ∀ q : Nat, s.heap.size ≤ q → A q := fun q h => by rw [← hAe]; exact Or.inr h
  have hS : va_S A s.heap s.heap [] := va_S.rf
  have hl := lv_entry ([.ref a1]) (n := 2) (Nat.le_of_ble_eq_true rfl)
  rw [lg_entry_eq]
  generalize (lg_sl ([.ref a1]) ++ List.replicate (2 - (lg_sl ([.ref a1])).length) Slot.unset).toArray = ls at hl ⊢
  have hl : lv_has ls 2 [(0, .ref a1)] := hl
  refine lv_iconst (v := 0) hx hb d_Y_wordAsOperation_0 (by decide) ?_
  refine lv_istore_n (lv' := [(1, .int 0), (0, .ref a1)]) hx hb d_Y_wordAsOperation_1 rfl hl (by decide) rfl (fun ls hl => ?_)
  refine lv_iload_n hx hb d_Y_wordAsOperation_2 rfl (lv_at hl 0 rfl) ?_
  refine va_getsN (v := .ref (tp_ad E 101)) hx hb hK.opsZ hS hown (hK.2.2.2.1.use kf_Y_124) (fun _ h => h) d_Y_wordAsOperation_3 ?_
  refine va_tlen (v := 47) hx hb hK.opsT hS (by decide) d_Y_wordAsOperation_6 ?_
  refine lv_icmp_ge (tgt := 37) hx hb d_Y_wordAsOperation_7 (by decide) (fun h => absurd h (by decide)) (fun _ => ?_)
  refine lv_aload_n hx hb d_Y_wordAsOperation_10 rfl (lv_at hl 1 rfl) ?_
  refine va_getsN (v := .ref (tp_ad E 101)) hx hb hK.opsZ hS hown (hK.2.2.2.1.use kf_Y_124) (fun _ h => h) d_Y_wordAsOperation_11 ?_
  refine lv_iload_n hx hb d_Y_wordAsOperation_14 rfl (lv_at hl 0 rfl) ?_
  refine vb_tq (v := .ref (tp_ad E 0)) hx hb hK.opsT hS (by unfold vp_in; decide) (congrArg (fun j => Value.ref (tp_ad E j)) (by decide)) d_Y_wordAsOperation_15 ?_
  refine vk_getf (v := .ref (tp_ad E 200)) hx hb (hK.txt (i := 0) (by decide)) hS hown (htg _ kl_Y_128) (fun _ h => h) d_Y_wordAsOperation_16 ?_
  refine tp_ci (tp_rV (As := [.ref (tp_ad E 200)]) (rest := []) ⟨hx, hb, hml, hown, htg⟩ (c_Y_wordIs_1 l E fr _ a1 a2 x3 x4 x5 x6 x7 h1) (⟨callB_of 1 htg (tp_good0 kc_Y_wordIs) rfl rfl rfl (htg _ ki_Y) (htg _ kl_Y_131) ⟨by decide, by decide, by decide +kernel⟩ ⟨Nat.le_of_ble_eq_true rfl, Nat.le_of_ble_eq_true rfl⟩, htg _ km_Y_wordIs, htg _ kp_Y_wordIs⟩) (va_recv (ci := 1) (q0 := 0) hK.1 hP rfl rfl) hK hP hD hS hA rfl hl.1 rfl (Nat.le_of_ble_eq_true rfl) d_Y_wordAsOperation_19 ⟨Nat.le_of_ble_eq_true rfl, Nat.le_of_ble_eq_true rfl⟩) hD hS hA (fun r u H locs hw hP hD hS => ?_)
  subst r
  have hP : va_P (tp_D E) tp_cl ((a1, .inr (1, [.ref a2, .int x3, .int x4, .int x5, .int x6, .int x7])) :: fr) H := hP
  have hD : va_D A ((a1, .inr (1, [.ref a2, .int x3, .int x4, .int x5, .int x6, .int x7])) :: fr) := hD
  refine lv_if_eq (tgt := 31) hx hb d_Y_wordAsOperation_22 (by decide) (fun h => absurd h (by decide)) (fun _ => ?_)
  refine va_getsN (v := .ref (tp_ad E 101)) hx hb hK.opsZ hS hown (hK.2.2.2.1.use kf_Y_124) (fun _ h => h) d_Y_wordAsOperation_25 ?_
  refine lv_iload_n hx hb d_Y_wordAsOperation_28 rfl (lv_at hl 0 rfl) ?_
  refine vb_tq (v := .ref (tp_ad E 0)) hx hb hK.opsT hS (by unfold vp_in; decide) (congrArg (fun j => Value.ref (tp_ad E j)) (by decide)) d_Y_wordAsOperation_29 ?_
  exact W.aret (v := .ref (tp_ad E 0)) hx hb hr (Or.inl ⟨_, rfl⟩) (Or.inr ⟨_, rfl⟩) (fun t ht hW => ⟨⟨(), _, rfl, trivial, rfl, by rw [ht]; exact hP, hD⟩, hS.F ht⟩) hS.2.2 d_Y_wordAsOperation_30
set_option maxHeartbeats 400000 in
set_option maxRecDepth 100000 in
theorem c_ST_coder_2 (l : Launch) (E : tp_Env) (fr : va_W) (sz : Nat)   : Met l y_ST_coder w_ST_coder ({ frames := 0, cells := 0, slots := 0, locals := 0 }) (va_Pc [.ref (tp_ad E 247)] (tp_in E fr sz)) (va_Qi (fun r (_ : Unit) => r = 0) (fun _ t => tp_out E (va_A fr sz) fr t) (va_A fr sz)) 0 0 (va_A fr sz) := by
  refine Met.ofW (cc := b_ST_coder) (maxL := 1) (ret := (some .byte)) (by decide) rfl ?_
  intro p e s m args below meth c s₁ B hml hv
  obtain ⟨rfl, hsz, hP, hK, hD0⟩ := hv
  have hx := B.exec
  have hb := B.bytes
  have hr := B.returns
  have htg : ∀ w ∈ tp_G, w.before ([.ref (tp_ad E 247)] : List Value).toArray s = true := fun w h => atoms_spec (ws := w_ST_coder) B.pre w (List.mem_cons_of_mem _ h)
  have hown : s.vm.findClass "java/lang/String" = some m.cls := findClass_of_methodNamed B.named
  have hlocks := B.notSynchronized
  subst hsz
  have hD := hD0.self (sz := s.heap.size)
  generalize hAe : va_A fr s.heap.size = A at hD hK ⊢
  have hA : ∀ q : Nat, s.heap.size ≤ q → A q := fun q h => by rw [← hAe]; exact Or.inr h
  have hS : va_S A s.heap s.heap [] := va_S.rf
  have hl := lv_entry ([.ref (tp_ad E 247)]) (n := 1) (Nat.le_of_ble_eq_true rfl)
  rw [lg_entry_eq]
  generalize (lg_sl ([.ref (tp_ad E 247)]) ++ List.replicate (1 - (lg_sl ([.ref (tp_ad E 247)])).length) Slot.unset).toArray = ls at hl ⊢
  have hl : lv_has ls 1 [(0, .ref (tp_ad E 247))] := hl
  refine va_gets (v := .int 1) hx hb hK.C.1 hS hown (htg _ kl_ST_38) (fun _ h => h) d_ST_coder_0 ?_
  refine lv_if_eq (tgt := 13) hx hb d_ST_coder_3 (by decide) (fun h => absurd h (by decide)) (fun _ => ?_)
  refine lv_aload_n hx hb d_ST_coder_6 rfl (lv_at hl 0 rfl) ?_
  refine vk_getf (v := .int 0) hx hb (hK.strC (i := 47) (by decide)) hS hown (htg _ kl_ST_15) (fun _ h => h) d_ST_coder_7 ?_
  refine lv_goto (tgt := 14) hx hb d_ST_coder_10 (by decide) ?_
  exact W.zret (v := 0) hx hb hr rfl (fun t ht hW => ⟨⟨_, (), rfl, rfl, by rw [ht]; exact hP, hD⟩, hS.F ht⟩) hS.2.2 d_ST_coder_14
set_option maxHeartbeats 400000 in
set_option maxRecDepth 100000 in
theorem c_ST_length_2 (l : Launch) (E : tp_Env) (fr : va_W) (sz : Nat)   : Met l y_ST_length w_ST_length ({ frames := 1, cells := 0, slots := 0, locals := 20 }) (va_Pc [.ref (tp_ad E 247)] (tp_in E fr sz)) (va_Qi (fun r (_ : Unit) => r = 0) (fun _ t => tp_out E (va_A fr sz) fr t) (va_A fr sz)) 0 0 (va_A fr sz) := by
  refine Met.ofW (cc := b_ST_length) (maxL := 1) (ret := (some .int)) (by decide) rfl ?_
  intro p e s m args below meth c s₁ B hml hv
  obtain ⟨rfl, hsz, hP, hK, hD0⟩ := hv
  have hx := B.exec
  have hb := B.bytes
  have hr := B.returns
  have htg : ∀ w ∈ tp_G, w.before ([.ref (tp_ad E 247)] : List Value).toArray s = true := fun w h => atoms_spec (ws := w_ST_length) B.pre w (List.mem_cons_of_mem _ h)
  have hown : s.vm.findClass "java/lang/String" = some m.cls := findClass_of_methodNamed B.named
  have hlocks := B.notSynchronized
  subst hsz
  have hD := hD0.self (sz := s.heap.size)
  generalize hAe : va_A fr s.heap.size = A at hD hK ⊢
  have hA : ∀ q : Nat, s.heap.size ≤ q → A q := fun q h => by rw [← hAe]; exact Or.inr h
  have hS : va_S A s.heap s.heap [] := va_S.rf
  have hl := lv_entry ([.ref (tp_ad E 247)]) (n := 1) (Nat.le_of_ble_eq_true rfl)
  rw [lg_entry_eq]
  generalize (lg_sl ([.ref (tp_ad E 247)]) ++ List.replicate (1 - (lg_sl ([.ref (tp_ad E 247)])).length) Slot.unset).toArray = ls at hl ⊢
  have hl : lv_has ls 1 [(0, .ref (tp_ad E 247))] := hl
  refine lv_aload_n hx hb d_ST_length_0 rfl (lv_at hl 0 rfl) ?_
  refine vk_getf (v := .ref (tp_ad E 447)) hx hb (hK.strV (i := 47) (by decide)) hS hown (htg _ kl_ST_9) (fun _ h => h) d_ST_length_1 ?_
  refine va_tlen (v := 0) hx hb (hK.strT (i := 47) (by decide)) hS (by decide) d_ST_length_4 ?_
  refine lv_aload_n hx hb d_ST_length_5 rfl (lv_at hl 0 rfl) ?_
  refine tp_ci (tp_rV (As := []) (rest := [.int 0]) ⟨hx, hb, hml, hown, htg⟩ (c_ST_coder_2 l E fr _  ) (⟨callB_of 0 htg (tp_good0 kc_ST_coder) rfl rfl rfl (htg _ ki_ST) (htg _ kl_ST_335) ⟨by decide, by decide, by decide +kernel⟩ ⟨Nat.le_of_ble_eq_true rfl, Nat.le_of_ble_eq_true rfl⟩, htg _ km_ST_coder, htg _ kv_ST_ST_coder⟩) (hK.strO (i := 47) (by decide) hS) hK hP hD hS hA rfl hl.1 rfl (Nat.le_of_ble_eq_true rfl) d_ST_length_6 ⟨Nat.le_of_ble_eq_true rfl, Nat.le_of_ble_eq_true rfl⟩) hD hS hA (fun r u H locs hw hP hD hS => ?_)
  subst r
  have hP : va_P (tp_D E) tp_cl (fr) H := hP
  have hD : va_D A (fr) := hD
  refine lv_ishr hx hb d_ST_length_9 ?_
  refine tp_topi (v := 0) (by decide) ?_
  exact W.iret (v := 0) hx hb hr (fun t ht hW => ⟨⟨_, (), rfl, rfl, by rw [ht]; exact hP, hD⟩, hS.F ht⟩) hS.2.2 d_ST_length_10
set_option maxHeartbeats 400000 in
set_option maxRecDepth 100000 in
theorem c_Y_read_1 (l : Launch) (E : tp_Env) (fr : va_W) (sz : Nat) (a1 : Nat) (a2 : Nat) (x3 : Int32) (x4 : Int32) (x5 : Int32) (x6 : Int32) (x7 : Int32) (h1 : x4 ≤ x5) (h2 : 0 = (x5 - x5)) : Met l y_Y_read w_Y_read ({ frames := 4, cells := 1, slots := 11, locals := 83 }) (va_Pc [.ref a1] (tp_in E ((a1, .inr (1, [.ref a2, .int x3, .int x4, .int x5, .int x6, .int x7])) :: fr) sz)) (va_Qr (fun (u : Nat) => True) (fun u q t => q = (fun (u : Nat) => u) u ∧ tp_out E (va_A ((a1, .inr (1, [.ref a2, .int x3, .int x4, .int x5, .int x6, .int x7])) :: fr) sz) ((a1, .inr (1, [.ref a2, .int x3, .int x4, .int x5, .int x5, .int x5])) :: (u, .inr (3, [.int 0, .ref (tp_ad E 0), .int 0, .int 0, .int 0, .long 0, .int 0, .int 0, .int 0, .int 0, .int 0])) :: fr) t) (va_A ((a1, .inr (1, [.ref a2, .int x3, .int x4, .int x5, .int x6, .int x7])) :: fr) sz)) 1 11 (va_A ((a1, .inr (1, [.ref a2, .int x3, .int x4, .int x5, .int x6, .int x7])) :: fr) sz) := by
  refine Met.ofW (cc := b_Y_read) (maxL := 4) (ret := (some (.object "TwoPass$Line"))) (by decide) rfl ?_
  intro p e s m args below meth c s₁ B hml hv
  obtain ⟨rfl, hsz, hP, hK, hD0⟩ := hv
  have hx := B.exec
  have hb := B.bytes
  have hr := B.returns
  have htg : ∀ w ∈ tp_G, w.before ([.ref a1] : List Value).toArray s = true := fun w h => atoms_spec (ws := w_Y_read) B.pre w (List.mem_cons_of_mem _ h)
  have hown : s.vm.findClass "TwoPass$Typed" = some m.cls := findClass_of_methodNamed B.named
  have hlocks := B.notSynchronized
  subst hsz
  have hD := hD0.self (sz := s.heap.size)
  generalize hAe : va_A ((a1, .inr (1, [.ref a2, .int x3, .int x4, .int x5, .int x6, .int x7])) :: fr) s.heap.size = A at hD hK ⊢
  have hA : ∀ q : Nat, s.heap.size ≤ q → A q := fun q h => by rw [← hAe]; exact Or.inr h
  have hS : va_S A s.heap s.heap [] := va_S.rf
  have hl := lv_entry ([.ref a1]) (n := 4) (Nat.le_of_ble_eq_true rfl)
  rw [lg_entry_eq]
  generalize (lg_sl ([.ref a1]) ++ List.replicate (4 - (lg_sl ([.ref a1])).length) Slot.unset).toArray = ls at hl ⊢
  have hl : lv_has ls 4 [(0, .ref a1)] := hl
  refine va_new (D := tp_D E) (ci := 3) (fs := [.int 0, .null, .int 0, .int 0, .int 0, .long 0, .int 0, .int 0, .int 0, .int 0, .int 0]) (C := qR_N) (T := qF_N) (N := 11) hx hb htg qi_N qt_N qt_N_ok hown (htg _ kl_Y_25) (htg _ kn_N) (htg _ ki_N) hK.1 hP hD hS hA rfl (by decide +kernel) (Nat.le_of_ble_eq_true rfl) (Nat.le_of_ble_eq_true rfl) d_Y_read_0 (fun q1 H hP hD hS => ?_)
  have hP := tp_frP hP
  have hD := tp_frD hD
  have hP : va_P (tp_D E) tp_cl ((q1, .inr (3, [.int 0, .null, .int 0, .int 0, .int 0, .long 0, .int 0, .int 0, .int 0, .int 0, .int 0])) :: (a1, .inr (1, [.ref a2, .int x3, .int x4, .int x5, .int x6, .int x7])) :: fr) H := hP
  have hD : va_D A ((q1, .inr (3, [.int 0, .null, .int 0, .int 0, .int 0, .long 0, .int 0, .int 0, .int 0, .int 0, .int 0])) :: (a1, .inr (1, [.ref a2, .int x3, .int x4, .int x5, .int x6, .int x7])) :: fr) := hD
  refine lv_dup hx hb d_Y_read_3 rfl ?_
  refine tp_cv (tp_rIN (As := []) (rest := [.ref q1]) ⟨hx, hb, hml, hown, htg⟩ (c_N_init_1 l E ((a1, .inr (1, [.ref a2, .int x3, .int x4, .int x5, .int x6, .int x7])) :: fr) _ q1 0 0 0 0 0 0 0 0 0 0 ) (⟨va_cnB 0 htg (tp_good0 kc_N_init) rfl rfl rfl (hK.2.2.2.1 _ kb_Y_27) (htg _ ki_N) ⟨by decide, by decide, by decide +kernel⟩ ⟨Nat.le_of_ble_eq_true rfl, Nat.le_of_ble_eq_true rfl⟩, rfl, htg _ km_N_init⟩) hK hP hD hS hA rfl hl.1 rfl (Nat.le_of_ble_eq_true rfl) d_Y_read_4 ⟨Nat.le_of_ble_eq_true rfl, Nat.le_of_ble_eq_true rfl⟩) hD hS hA (fun u H locs _ hP hD hS => ?_)
  have hP : va_P (tp_D E) tp_cl ((q1, .inr (3, [.int 0, .ref (tp_ad E 0), .int 0, .int 0, .int 0, .long 0, .int 0, .int 0, .int 0, .int 0, .int 0])) :: (a1, .inr (1, [.ref a2, .int x3, .int x4, .int x5, .int x6, .int x7])) :: fr) H := hP
  have hD : va_D A ((q1, .inr (3, [.int 0, .ref (tp_ad E 0), .int 0, .int 0, .int 0, .long 0, .int 0, .int 0, .int 0, .int 0, .int 0])) :: (a1, .inr (1, [.ref a2, .int x3, .int x4, .int x5, .int x6, .int x7])) :: fr) := hD
  refine lv_astore_n (lv' := [(1, .ref q1), (0, .ref a1)]) hx hb d_Y_read_7 rfl hl (by decide) rfl (fun ls hl => ?_)
  refine lv_aload_n hx hb d_Y_read_8 rfl (lv_at hl 1 rfl) ?_
  have hP : va_P (tp_D E) tp_cl ((a1, .inr (1, [.ref a2, .int x3, .int x4, .int x5, .int x6, .int x7])) :: (q1, .inr (3, [.int 0, .ref (tp_ad E 0), .int 0, .int 0, .int 0, .long 0, .int 0, .int 0, .int 0, .int 0, .int 0])) :: fr) _ := tp_mvP 1 rfl hP
  have hD : va_D A ((a1, .inr (1, [.ref a2, .int x3, .int x4, .int x5, .int x6, .int x7])) :: (q1, .inr (3, [.int 0, .ref (tp_ad E 0), .int 0, .int 0, .int 0, .long 0, .int 0, .int 0, .int 0, .int 0, .int 0])) :: fr) := tp_mvD 1 rfl hD
  refine tp_cv (tp_rV (As := []) (rest := []) ⟨hx, hb, hml, hown, htg⟩ (c_Y_nextWord_1 l E ((q1, .inr (3, [.int 0, .ref (tp_ad E 0), .int 0, .int 0, .int 0, .long 0, .int 0, .int 0, .int 0, .int 0, .int 0])) :: fr) _ a1 a2 x3 x4 x5 x6 x7 h1) (⟨callB_of 0 htg (tp_good0 kc_Y_nextWord) rfl rfl rfl (htg _ ki_Y) (htg _ kl_Y_28) ⟨by decide, by decide, by decide +kernel⟩ ⟨Nat.le_of_ble_eq_true rfl, Nat.le_of_ble_eq_true rfl⟩, htg _ km_Y_nextWord, htg _ kp_Y_nextWord⟩) (va_recv (ci := 1) (q0 := 0) hK.1 hP rfl rfl) hK hP hD hS hA rfl hl.1 rfl (Nat.le_of_ble_eq_true rfl) d_Y_read_9 ⟨Nat.le_of_ble_eq_true rfl, Nat.le_of_ble_eq_true rfl⟩) hD hS hA (fun u H locs _ hP hD hS => ?_)
  have hP : va_P (tp_D E) tp_cl ((a1, .inr (1, [.ref a2, .int x3, .int x4, .int x5, .int x5, .int x5])) :: (q1, .inr (3, [.int 0, .ref (tp_ad E 0), .int 0, .int 0, .int 0, .long 0, .int 0, .int 0, .int 0, .int 0, .int 0])) :: fr) H := hP
  have hD : va_D A ((a1, .inr (1, [.ref a2, .int x3, .int x4, .int x5, .int x5, .int x5])) :: (q1, .inr (3, [.int 0, .ref (tp_ad E 0), .int 0, .int 0, .int 0, .long 0, .int 0, .int 0, .int 0, .int 0, .int 0])) :: fr) := hD
  refine lv_aload_n hx hb d_Y_read_12 rfl (lv_at hl 1 rfl) ?_
  refine lv_bipush (v := 58) hx hb d_Y_read_13 (by decide) ?_
  refine tp_ci (tp_rV (As := [.int 58]) (rest := []) ⟨hx, hb, hml, hown, htg⟩ (c_Y_nextIs_1 l E ((q1, .inr (3, [.int 0, .ref (tp_ad E 0), .int 0, .int 0, .int 0, .long 0, .int 0, .int 0, .int 0, .int 0, .int 0])) :: fr) _ a1 a2 x3 x4 x5 x5 x5 h1) (⟨callB_of 1 htg (tp_good0 kc_Y_nextIs) rfl rfl rfl (htg _ ki_Y) (htg _ kl_Y_31) ⟨by decide, by decide, by decide +kernel⟩ ⟨Nat.le_of_ble_eq_true rfl, Nat.le_of_ble_eq_true rfl⟩, htg _ km_Y_nextIs, htg _ kp_Y_nextIs⟩) (va_recv (ci := 1) (q0 := 0) hK.1 hP rfl rfl) hK hP hD hS hA rfl hl.1 rfl (Nat.le_of_ble_eq_true rfl) d_Y_read_15 ⟨Nat.le_of_ble_eq_true rfl, Nat.le_of_ble_eq_true rfl⟩) hD hS hA (fun r u H locs hw hP hD hS => ?_)
  subst r
  have hP : va_P (tp_D E) tp_cl ((a1, .inr (1, [.ref a2, .int x3, .int x4, .int x5, .int x5, .int x5])) :: (q1, .inr (3, [.int 0, .ref (tp_ad E 0), .int 0, .int 0, .int 0, .long 0, .int 0, .int 0, .int 0, .int 0, .int 0])) :: fr) H := hP
  have hD : va_D A ((a1, .inr (1, [.ref a2, .int x3, .int x4, .int x5, .int x5, .int x5])) :: (q1, .inr (3, [.int 0, .ref (tp_ad E 0), .int 0, .int 0, .int 0, .long 0, .int 0, .int 0, .int 0, .int 0, .int 0])) :: fr) := hD
  refine lv_if_eq (tgt := 43) hx hb d_Y_read_18 (by decide) (fun _ => ?_) (fun h => absurd (by decide) h)
  refine lv_aload_n hx hb d_Y_read_43 rfl (lv_at hl 0 rfl) ?_
  refine lv_aload_n hx hb d_Y_read_44 rfl (lv_at hl 1 rfl) ?_
  refine tp_cr (tp_rV (As := []) (rest := [.ref q1]) ⟨hx, hb, hml, hown, htg⟩ (c_Y_wordAsOperation_1 l E ((q1, .inr (3, [.int 0, .ref (tp_ad E 0), .int 0, .int 0, .int 0, .long 0, .int 0, .int 0, .int 0, .int 0, .int 0])) :: fr) _ a1 a2 x3 x4 x5 x5 x5 h2) (⟨callB_of 0 htg (tp_good0 kc_Y_wordAsOperation) rfl rfl rfl (htg _ ki_Y) (htg _ kl_Y_42) ⟨by decide, by decide, by decide +kernel⟩ ⟨Nat.le_of_ble_eq_true rfl, Nat.le_of_ble_eq_true rfl⟩, htg _ km_Y_wordAsOperation, htg _ kp_Y_wordAsOperation⟩) (va_recv (ci := 1) (q0 := 0) hK.1 hP rfl rfl) hK hP hD hS hA rfl hl.1 rfl (Nat.le_of_ble_eq_true rfl) d_Y_read_45 ⟨Nat.le_of_ble_eq_true rfl, Nat.le_of_ble_eq_true rfl⟩) hD hS hA (fun u H locs _ hP hD hS => ?_)
  have hP : va_P (tp_D E) tp_cl ((a1, .inr (1, [.ref a2, .int x3, .int x4, .int x5, .int x5, .int x5])) :: (q1, .inr (3, [.int 0, .ref (tp_ad E 0), .int 0, .int 0, .int 0, .long 0, .int 0, .int 0, .int 0, .int 0, .int 0])) :: fr) H := hP
  have hD : va_D A ((a1, .inr (1, [.ref a2, .int x3, .int x4, .int x5, .int x5, .int x5])) :: (q1, .inr (3, [.int 0, .ref (tp_ad E 0), .int 0, .int 0, .int 0, .long 0, .int 0, .int 0, .int 0, .int 0, .int 0])) :: fr) := hD
  refine va_put (D := tp_D E) (ci := 3) (v := .ref (tp_ad E 0)) (ty := (.object "TwoPass$Operation")) (C := qR_N) (T := qF_N) (N := 11) hx hb htg qi_N qt_N qt_N_ok qn_N hown hK.1 hP hD hS 1 rfl rfl 1 (by decide) (htg _ kl_Y_46) (fun _ h => h) rfl (by decide +kernel) rfl rfl (Nat.le_of_ble_eq_true rfl) d_Y_read_48 (fun H locs hP hD hS => ?_)
  have hP : va_P (tp_D E) tp_cl ((a1, .inr (1, [.ref a2, .int x3, .int x4, .int x5, .int x5, .int x5])) :: (q1, .inr (3, [.int 0, .ref (tp_ad E 0), .int 0, .int 0, .int 0, .long 0, .int 0, .int 0, .int 0, .int 0, .int 0])) :: fr) H := hP
  have hD : va_D A ((a1, .inr (1, [.ref a2, .int x3, .int x4, .int x5, .int x5, .int x5])) :: (q1, .inr (3, [.int 0, .ref (tp_ad E 0), .int 0, .int 0, .int 0, .long 0, .int 0, .int 0, .int 0, .int 0, .int 0])) :: fr) := hD
  refine lv_aload_n hx hb d_Y_read_51 rfl (lv_at hl 0 rfl) ?_
  refine va_get (D := tp_D E) (ci := 3) (v := .ref (tp_ad E 0)) (C := qR_N) (T := qF_N) (N := 11) hx hb htg qi_N hown hK.1 hP 1 rfl rfl 1 (by decide) (htg _ kl_Y_46) (fun _ h => h) rfl d_Y_read_52 ?_
  refine vk_getf (v := .ref (tp_ad E 247)) hx hb (hK.opr (i := 0) (by decide)) hS hown (htg _ kl_Y_50) (fun _ h => h) d_Y_read_55 ?_
  refine lv_astore_n (lv' := [(2, .ref (tp_ad E 247)), (1, .ref q1), (0, .ref a1)]) hx hb d_Y_read_58 rfl hl (by decide) rfl (fun ls hl => ?_)
  refine lv_iconst (v := 0) hx hb d_Y_read_59 (by decide) ?_
  refine lv_istore_n (lv' := [(3, .int 0), (2, .ref (tp_ad E 247)), (1, .ref q1), (0, .ref a1)]) hx hb d_Y_read_60 rfl hl (by decide) rfl (fun ls hl => ?_)
  refine lv_iload_n hx hb d_Y_read_61 rfl (lv_at hl 0 rfl) ?_
  refine lv_aload_n hx hb d_Y_read_62 rfl (lv_at hl 1 rfl) ?_
  refine tp_ci (tp_rV (As := []) (rest := [.int 0]) ⟨hx, hb, hml, hown, htg⟩ (c_ST_length_2 l E ((a1, .inr (1, [.ref a2, .int x3, .int x4, .int x5, .int x5, .int x5])) :: (q1, .inr (3, [.int 0, .ref (tp_ad E 0), .int 0, .int 0, .int 0, .long 0, .int 0, .int 0, .int 0, .int 0, .int 0])) :: fr) _  ) (⟨callB_of 0 htg (tp_good0 kc_ST_length) rfl rfl rfl (htg _ ki_ST) (htg _ kl_Y_56) ⟨by decide, by decide, by decide +kernel⟩ ⟨Nat.le_of_ble_eq_true rfl, Nat.le_of_ble_eq_true rfl⟩, htg _ km_ST_length, htg _ kv_ST_ST_length⟩) (hK.strO (i := 47) (by decide) hS) hK hP hD hS hA rfl hl.1 rfl (Nat.le_of_ble_eq_true rfl) d_Y_read_63 ⟨Nat.le_of_ble_eq_true rfl, Nat.le_of_ble_eq_true rfl⟩) hD hS hA (fun r u H locs hw hP hD hS => ?_)
  subst r
  have hP : va_P (tp_D E) tp_cl ((a1, .inr (1, [.ref a2, .int x3, .int x4, .int x5, .int x5, .int x5])) :: (q1, .inr (3, [.int 0, .ref (tp_ad E 0), .int 0, .int 0, .int 0, .long 0, .int 0, .int 0, .int 0, .int 0, .int 0])) :: fr) H := hP
  have hD : va_D A ((a1, .inr (1, [.ref a2, .int x3, .int x4, .int x5, .int x5, .int x5])) :: (q1, .inr (3, [.int 0, .ref (tp_ad E 0), .int 0, .int 0, .int 0, .long 0, .int 0, .int 0, .int 0, .int 0, .int 0])) :: fr) := hD
  refine lv_icmp_ge (tgt := 85) hx hb d_Y_read_66 (by decide) (fun _ => ?_) (fun h => absurd (by decide) h)
  refine lv_aload_n hx hb d_Y_read_85 rfl (lv_at hl 3 rfl) ?_
  refine va_get (D := tp_D E) (ci := 1) (v := .int x5) (C := qR_Y) (T := qF_Y) (N := 6) hx hb htg qi_Y hown hK.1 hP 0 rfl rfl 3 (by decide) (htg _ kl_Y_22) (fun _ h => h) rfl d_Y_read_86 ?_
  refine lv_aload_n hx hb d_Y_read_89 rfl (lv_at hl 3 rfl) ?_
  refine va_get (D := tp_D E) (ci := 1) (v := .int x4) (C := qR_Y) (T := qF_Y) (N := 6) hx hb htg qi_Y hown hK.1 hP 0 rfl rfl 2 (by decide) (htg _ kl_Y_19) (fun _ h => h) rfl d_Y_read_90 ?_
  refine lv_icmp_ge (tgt := 118) hx hb d_Y_read_93 (by decide) (fun _ => ?_) (fun h => absurd h1 h)
  refine lv_aload_n hx hb d_Y_read_118 rfl (lv_at hl 2 rfl) ?_
  exact W.aret (v := .ref q1) hx hb hr (Or.inl ⟨_, rfl⟩) (Or.inr ⟨_, rfl⟩) (fun t ht hW => ⟨⟨q1, _, rfl, trivial, rfl, by rw [ht]; exact hP, hD⟩, hS.F ht⟩) hS.2.2 d_Y_read_119
set_option maxHeartbeats 400000 in
set_option maxRecDepth 100000 in
theorem c_AL_grow_1_1 (l : Launch) (E : tp_Env) (fr : va_W) (sz : Nat) (a1 : Nat) (x2 : Int32) (x3 : Int32) (x4 : Int32) (h1 : ¬ 10 < x2) : Met l y_AL_grow_1 w_AL_grow_1 ({ frames := 1, cells := 1, slots := 10, locals := 21 }) (va_Pc [.ref a1, .int x2] (tp_in E ((a1, .inr (5, [.int x3, .ref (tp_ad E 100), .int x4])) :: fr) sz)) (va_Qr (fun (u : Nat) => True) (fun u q t => q = (fun (u : Nat) => u) u ∧ tp_out E (va_A ((a1, .inr (5, [.int x3, .ref (tp_ad E 100), .int x4])) :: fr) sz) ((u, .inl (tp_ty E 5, 10, .inr (.inr (.inr (.inr (fun _ => none)))))) :: (a1, .inr (5, [.int x3, .ref u, .int x4])) :: fr) t) (va_A ((a1, .inr (5, [.int x3, .ref (tp_ad E 100), .int x4])) :: fr) sz)) 1 10 (va_A ((a1, .inr (5, [.int x3, .ref (tp_ad E 100), .int x4])) :: fr) sz) := by
  refine Met.ofW (cc := b_AL_grow_1) (maxL := 4) (ret := (some (.array (.object "java/lang/Object")))) (by decide) rfl ?_
  intro p e s m args below meth c s₁ B hml hv
  obtain ⟨rfl, hsz, hP, hK, hD0⟩ := hv
  have hx := B.exec
  have hb := B.bytes
  have hr := B.returns
  have htg : ∀ w ∈ tp_G, w.before ([.ref a1, .int x2] : List Value).toArray s = true := fun w h => atoms_spec (ws := w_AL_grow_1) B.pre w (List.mem_cons_of_mem _ h)
  have hown : s.vm.findClass "java/util/ArrayList" = some m.cls := findClass_of_methodNamed B.named
  have hlocks := B.notSynchronized
  subst hsz
  have hD := hD0.self (sz := s.heap.size)
  generalize hAe : va_A ((a1, .inr (5, [.int x3, .ref (tp_ad E 100), .int x4])) :: fr) s.heap.size = A at hD hK ⊢
  have hA : ∀ q : Nat, s.heap.size ≤ q → A q := fun q h => by rw [← hAe]; exact Or.inr h
  have hS : va_S A s.heap s.heap [] := va_S.rf
  have hl := lv_entry ([.ref a1, .int x2]) (n := 4) (Nat.le_of_ble_eq_true rfl)
  rw [lg_entry_eq]
  generalize (lg_sl ([.ref a1, .int x2]) ++ List.replicate (4 - (lg_sl ([.ref a1, .int x2])).length) Slot.unset).toArray = ls at hl ⊢
  have hl : lv_has ls 4 [(0, .ref a1), (1, .int x2)] := hl
  refine lv_aload_n hx hb d_AL_grow_1_0 rfl (lv_at hl 0 rfl) ?_
  refine va_get (D := tp_D E) (ci := 5) (v := .ref (tp_ad E 100)) (C := qR_AL) (T := qF_AL) (N := 3) hx hb htg qi_AL hown hK.1 hP 0 rfl rfl 1 (by decide) (htg _ kl_AL_9) (fun _ h => h) rfl d_AL_grow_1_1 ?_
  refine va_tlen (v := 0) hx hb hK.empT hS (by decide) d_AL_grow_1_4 ?_
  refine lv_istore_n (lv' := [(2, .int 0), (0, .ref a1), (1, .int x2)]) hx hb d_AL_grow_1_5 rfl hl (by decide) rfl (fun ls hl => ?_)
  refine lv_iload_n hx hb d_AL_grow_1_6 rfl (lv_at hl 0 rfl) ?_
  refine lv_if_gt (tgt := 20) hx hb d_AL_grow_1_7 (by decide) (fun h => absurd h (by decide)) (fun _ => ?_)
  refine lv_aload_n hx hb d_AL_grow_1_10 rfl (lv_at hl 1 rfl) ?_
  refine va_get (D := tp_D E) (ci := 5) (v := .ref (tp_ad E 100)) (C := qR_AL) (T := qF_AL) (N := 3) hx hb htg qi_AL hown hK.1 hP 0 rfl rfl 1 (by decide) (htg _ kl_AL_9) (fun _ h => h) rfl d_AL_grow_1_11 ?_
  refine va_gets (v := .ref (tp_ad E 100)) hx hb hK.C.2.1 hS hown (htg _ kl_AL_39) (fun _ h => h) d_AL_grow_1_14 ?_
  refine lv_acmp_eq (rx := some (tp_ad E 100)) (ry := some (tp_ad E 100)) (tgt := 45) hx hb d_AL_grow_1_17 (by decide) (fun _ => ?_) (fun h => absurd rfl h)
  refine lv_aload_n hx hb d_AL_grow_1_45 rfl (lv_at hl 1 rfl) ?_
  refine lv_bipush (v := 10) hx hb d_AL_grow_1_46 (by decide) ?_
  refine lv_iload_n hx hb d_AL_grow_1_48 rfl (lv_at hl 2 rfl) ?_
  refine va_mmax hx hb (by rw [hml]; exact hl.1.symm) hown (htg _ kl_AL_79) (htg _ ks_MA_max) (htg _ ki_MA) (htg _ kc_MA_max) (Nat.le_of_ble_eq_true rfl) (Nat.le_of_ble_eq_true rfl) (Nat.le_of_ble_eq_true rfl) (Nat.le_of_ble_eq_true rfl) d_AL_grow_1_49 ?_
  refine tp_topi (v := 10) (if_neg h1) ?_
  refine tp_newq 5 (N' := 10) hx hb hown (htg _ kl_AL_7) hK.2.2.2.2.2.1 rfl hK hP hD hS hA (by decide) (by decide) (by decide) (Nat.le_of_ble_eq_true rfl) (Nat.le_of_ble_eq_true rfl) d_AL_grow_1_52 (fun q1 H hP hD hS => ?_)
  have hP : va_P (tp_D E) tp_cl ((q1, .inl (tp_ty E 5, 10, .inr (.inr (.inr (.inr (fun _ => none)))))) :: (a1, .inr (5, [.int x3, .ref (tp_ad E 100), .int x4])) :: fr) H := hP
  have hD : va_D A ((q1, .inl (tp_ty E 5, 10, .inr (.inr (.inr (.inr (fun _ => none)))))) :: (a1, .inr (5, [.int x3, .ref (tp_ad E 100), .int x4])) :: fr) := hD
  refine lv_dup_x1 hx hb d_AL_grow_1_55 rfl rfl ?_
  refine va_put (D := tp_D E) (ci := 5) (v := .ref q1) (ty := (.array (.object "java/lang/Object"))) (C := qR_AL) (T := qF_AL) (N := 3) hx hb htg qi_AL qt_AL qt_AL_ok qn_AL hown hK.1 hP hD hS 1 rfl rfl 1 (by decide) (htg _ kl_AL_9) (fun _ h => h) rfl (by decide +kernel) rfl rfl (Nat.le_of_ble_eq_true rfl) d_AL_grow_1_56 (fun H locs hP hD hS => ?_)
  have hP : va_P (tp_D E) tp_cl ((q1, .inl (tp_ty E 5, 10, .inr (.inr (.inr (.inr (fun _ => none)))))) :: (a1, .inr (5, [.int x3, .ref q1, .int x4])) :: fr) H := hP
  have hD : va_D A ((q1, .inl (tp_ty E 5, 10, .inr (.inr (.inr (.inr (fun _ => none)))))) :: (a1, .inr (5, [.int x3, .ref q1, .int x4])) :: fr) := hD
  exact W.aret (v := .ref q1) hx hb hr (Or.inr ⟨_, rfl⟩) (Or.inr ⟨_, rfl⟩) (fun t ht hW => ⟨⟨q1, _, rfl, trivial, rfl, by rw [ht]; exact hP, hD⟩, hS.F ht⟩) hS.2.2 d_AL_grow_1_59
set_option maxHeartbeats 400000 in
set_option maxRecDepth 100000 in
theorem c_AL_grow_0_1 (l : Launch) (E : tp_Env) (fr : va_W) (sz : Nat) (a1 : Nat) (x2 : Int32) (x3 : Int32) (h1 : ¬ 10 < (x3 + 1)) : Met l y_AL_grow_0 w_AL_grow_0 ({ frames := 2, cells := 1, slots := 10, locals := 44 }) (va_Pc [.ref a1] (tp_in E ((a1, .inr (5, [.int x2, .ref (tp_ad E 100), .int x3])) :: fr) sz)) (va_Qr (fun (u : Nat) => True) (fun u q t => q = (fun (u : Nat) => u) u ∧ tp_out E (va_A ((a1, .inr (5, [.int x2, .ref (tp_ad E 100), .int x3])) :: fr) sz) ((u, .inl (tp_ty E 5, 10, .inr (.inr (.inr (.inr (fun _ => none)))))) :: (a1, .inr (5, [.int x2, .ref u, .int x3])) :: fr) t) (va_A ((a1, .inr (5, [.int x2, .ref (tp_ad E 100), .int x3])) :: fr) sz)) 1 10 (va_A ((a1, .inr (5, [.int x2, .ref (tp_ad E 100), .int x3])) :: fr) sz) := by
  refine Met.ofW (cc := b_AL_grow_0) (maxL := 1) (ret := (some (.array (.object "java/lang/Object")))) (by decide) rfl ?_
  intro p e s m args below meth c s₁ B hml hv
  obtain ⟨rfl, hsz, hP, hK, hD0⟩ := hv
  have hx := B.exec
  have hb := B.bytes
  have hr := B.returns
  have htg : ∀ w ∈ tp_G, w.before ([.ref a1] : List Value).toArray s = true := fun w h => atoms_spec (ws := w_AL_grow_0) B.pre w (List.mem_cons_of_mem _ h)
  have hown : s.vm.findClass "java/util/ArrayList" = some m.cls := findClass_of_methodNamed B.named
  have hlocks := B.notSynchronized
  subst hsz
  have hD := hD0.self (sz := s.heap.size)
  generalize hAe : va_A ((a1, .inr (5, [.int x2, .ref (tp_ad E 100), .int x3])) :: fr) s.heap.size = A at hD hK ⊢
  have hA : ∀ q : Nat, s.heap.size ≤ q → A q := fun q h => by rw [← hAe]; exact Or.inr h
  have hS : va_S A s.heap s.heap [] := va_S.rf
  have hl := lv_entry ([.ref a1]) (n := 1) (Nat.le_of_ble_eq_true rfl)
  rw [lg_entry_eq]
  generalize (lg_sl ([.ref a1]) ++ List.replicate (1 - (lg_sl ([.ref a1])).length) Slot.unset).toArray = ls at hl ⊢
  have hl : lv_has ls 1 [(0, .ref a1)] := hl
  refine lv_aload_n hx hb d_AL_grow_0_0 rfl (lv_at hl 0 rfl) ?_
  refine lv_aload_n hx hb d_AL_grow_0_1 rfl (lv_at hl 0 rfl) ?_
  refine va_get (D := tp_D E) (ci := 5) (v := .int x3) (C := qR_AL) (T := qF_AL) (N := 3) hx hb htg qi_AL hown hK.1 hP 0 rfl rfl 2 (by decide) (htg _ kl_AL_48) (fun _ h => h) rfl d_AL_grow_0_2 ?_
  refine lv_iconst (v := 1) hx hb d_AL_grow_0_5 (by decide) ?_
  refine lv_iadd hx hb d_AL_grow_0_6 ?_
  refine tp_cr (tp_rV (As := [.int (x3 + 1)]) (rest := []) ⟨hx, hb, hml, hown, htg⟩ (c_AL_grow_1_1 l E fr _ a1 (x3 + 1) x2 x3 h1) (⟨callB_of 1 htg (tp_good0 kc_AL_grow_1) rfl rfl rfl (htg _ ki_AL) (htg _ kl_AL_69) ⟨by decide, by decide, by decide +kernel⟩ ⟨Nat.le_of_ble_eq_true rfl, Nat.le_of_ble_eq_true rfl⟩, htg _ km_AL_grow_1, htg _ kp_AL_grow_1⟩) (va_recv (ci := 5) (q0 := 0) hK.1 hP rfl rfl) hK hP hD hS hA rfl hl.1 rfl (Nat.le_of_ble_eq_true rfl) d_AL_grow_0_7 ⟨Nat.le_of_ble_eq_true rfl, Nat.le_of_ble_eq_true rfl⟩) hD hS hA (fun u H locs _ hP hD hS => ?_)
  generalize u = q1 at hP hD ⊢
  have hP : va_P (tp_D E) tp_cl ((q1, .inl (tp_ty E 5, 10, .inr (.inr (.inr (.inr (fun _ => none)))))) :: (a1, .inr (5, [.int x2, .ref q1, .int x3])) :: fr) H := hP
  have hD : va_D A ((q1, .inl (tp_ty E 5, 10, .inr (.inr (.inr (.inr (fun _ => none)))))) :: (a1, .inr (5, [.int x2, .ref q1, .int x3])) :: fr) := hD
  exact W.aret (v := .ref q1) hx hb hr (Or.inr ⟨_, rfl⟩) (Or.inr ⟨_, rfl⟩) (fun t ht hW => ⟨⟨q1, _, rfl, trivial, rfl, by rw [ht]; exact hP, hD⟩, hS.F ht⟩) hS.2.2 d_AL_grow_0_10
set_option maxHeartbeats 400000 in
set_option maxRecDepth 100000 in
theorem c_AL_add_1_1 (l : Launch) (E : tp_Env) (fr : va_W) (sz : Nat) (a1 : Nat) (a2 : Nat) (x3 : Int32) (x4 : Int32) (x5 : Int32) (x6 : Int32) (x7 : Int32) (x8 : Int32) (x9 : Int32) (x10 : Int64) (x11 : Int32) (x12 : Int32) (x13 : Int32) (x14 : Int32) (x15 : Int32) (h1 : x3 = 0) (h2 : ¬ 10 < (x5 + 1)) (h3 : vp_in x3 10) : Met l y_AL_add_1 w_AL_add_1 ({ frames := 3, cells := 1, slots := 10, locals := 64 }) (va_Pc [.ref a1, .ref a2, .ref (tp_ad E 100), .int x3] (tp_in E ((a1, .inr (5, [.int x4, .ref (tp_ad E 100), .int x5])) :: (a2, .inr (3, [.int x6, .ref (tp_ad E 0), .int x7, .int x8, .int x9, .long x10, .int x11, .int x12, .int x13, .int x14, .int x15])) :: fr) sz)) (va_Qv (fun (u : Nat) => True) (fun u t => tp_out E (va_A ((a1, .inr (5, [.int x4, .ref (tp_ad E 100), .int x5])) :: (a2, .inr (3, [.int x6, .ref (tp_ad E 0), .int x7, .int x8, .int x9, .long x10, .int x11, .int x12, .int x13, .int x14, .int x15])) :: fr) sz) ((u, .inl (tp_ty E 5, 10, .inr (.inr (.inr (.inr (va_up (fun _ => none) x3.toNatClampNeg (some a2))))))) :: (a1, .inr (5, [.int x4, .ref u, .int (x3 + 1)])) :: (a2, .inr (3, [.int x6, .ref (tp_ad E 0), .int x7, .int x8, .int x9, .long x10, .int x11, .int x12, .int x13, .int x14, .int x15])) :: fr) t) (va_A ((a1, .inr (5, [.int x4, .ref (tp_ad E 100), .int x5])) :: (a2, .inr (3, [.int x6, .ref (tp_ad E 0), .int x7, .int x8, .int x9, .long x10, .int x11, .int x12, .int x13, .int x14, .int x15])) :: fr) sz)) 1 10 (va_A ((a1, .inr (5, [.int x4, .ref (tp_ad E 100), .int x5])) :: (a2, .inr (3, [.int x6, .ref (tp_ad E 0), .int x7, .int x8, .int x9, .long x10, .int x11, .int x12, .int x13, .int x14, .int x15])) :: fr) sz) := by
  refine Met.ofW (cc := b_AL_add_1) (maxL := 4) (ret := none) (by decide) rfl ?_
  intro p e s m args below meth c s₁ B hml hv
  obtain ⟨rfl, hsz, hP, hK, hD0⟩ := hv
  have hx := B.exec
  have hb := B.bytes
  have hr := B.returns
  have htg : ∀ w ∈ tp_G, w.before ([.ref a1, .ref a2, .ref (tp_ad E 100), .int x3] : List Value).toArray s = true := fun w h => atoms_spec (ws := w_AL_add_1) B.pre w (List.mem_cons_of_mem _ h)
  have hown : s.vm.findClass "java/util/ArrayList" = some m.cls := findClass_of_methodNamed B.named
  have hlocks := B.notSynchronized
  subst hsz
  have hD := hD0.self (sz := s.heap.size)
  generalize hAe : va_A ((a1, .inr (5, [.int x4, .ref (tp_ad E 100), .int x5])) :: (a2, .inr (3, [.int x6, .ref (tp_ad E 0), .int x7, .int x8, .int x9, .long x10, .int x11, .int x12, .int x13, .int x14, .int x15])) :: fr) s.heap.size = A at hD hK ⊢
  have hA : ∀ q : Nat, s.heap.size ≤ q → A q := fun q h => by rw [← hAe]; exact Or.inr h
  have hS : va_S A s.heap s.heap [] := va_S.rf
  have hl := lv_entry ([.ref a1, .ref a2, .ref (tp_ad E 100), .int x3]) (n := 4) (Nat.le_of_ble_eq_true rfl)
  rw [lg_entry_eq]
  generalize (lg_sl ([.ref a1, .ref a2, .ref (tp_ad E 100), .int x3]) ++ List.replicate (4 - (lg_sl ([.ref a1, .ref a2, .ref (tp_ad E 100), .int x3])).length) Slot.unset).toArray = ls at hl ⊢
  have hl : lv_has ls 4 [(0, .ref a1), (1, .ref a2), (2, .ref (tp_ad E 100)), (3, .int x3)] := hl
  refine lv_iload_n hx hb d_AL_add_1_0 rfl (lv_at hl 3 rfl) ?_
  refine lv_aload_n hx hb d_AL_add_1_1 rfl (lv_at hl 2 rfl) ?_
  refine va_tlen (v := 0) hx hb hK.empT hS (by decide) d_AL_add_1_2 ?_
  refine lv_icmp_ne (tgt := 11) hx hb d_AL_add_1_3 (by decide) (fun h => absurd h1 h) (fun _ => ?_)
  refine lv_aload_n hx hb d_AL_add_1_6 rfl (lv_at hl 0 rfl) ?_
  refine tp_cr (tp_rV (As := []) (rest := []) ⟨hx, hb, hml, hown, htg⟩ (c_AL_grow_0_1 l E ((a2, .inr (3, [.int x6, .ref (tp_ad E 0), .int x7, .int x8, .int x9, .long x10, .int x11, .int x12, .int x13, .int x14, .int x15])) :: fr) _ a1 x4 x5 h2) (⟨callB_of 0 htg (tp_good0 kc_AL_grow_0) rfl rfl rfl (htg _ ki_AL) (htg _ kl_AL_129) ⟨by decide, by decide, by decide +kernel⟩ ⟨Nat.le_of_ble_eq_true rfl, Nat.le_of_ble_eq_true rfl⟩, htg _ km_AL_grow_0, htg _ kp_AL_grow_0⟩) (va_recv (ci := 5) (q0 := 0) hK.1 hP rfl rfl) hK hP hD hS hA rfl hl.1 rfl (Nat.le_of_ble_eq_true rfl) d_AL_add_1_7 ⟨Nat.le_of_ble_eq_true rfl, Nat.le_of_ble_eq_true rfl⟩) hD hS hA (fun u H locs _ hP hD hS => ?_)
  generalize u = q1 at hP hD ⊢
  have hP : va_P (tp_D E) tp_cl ((q1, .inl (tp_ty E 5, 10, .inr (.inr (.inr (.inr (fun _ => none)))))) :: (a1, .inr (5, [.int x4, .ref q1, .int x5])) :: (a2, .inr (3, [.int x6, .ref (tp_ad E 0), .int x7, .int x8, .int x9, .long x10, .int x11, .int x12, .int x13, .int x14, .int x15])) :: fr) H := hP
  have hD : va_D A ((q1, .inl (tp_ty E 5, 10, .inr (.inr (.inr (.inr (fun _ => none)))))) :: (a1, .inr (5, [.int x4, .ref q1, .int x5])) :: (a2, .inr (3, [.int x6, .ref (tp_ad E 0), .int x7, .int x8, .int x9, .long x10, .int x11, .int x12, .int x13, .int x14, .int x15])) :: fr) := hD
  refine lv_astore_n (lv' := [(2, .ref q1), (0, .ref a1), (1, .ref a2), (3, .int x3)]) hx hb d_AL_add_1_10 rfl hl (by decide) rfl (fun ls hl => ?_)
  refine lv_aload_n hx hb d_AL_add_1_11 rfl (lv_at hl 0 rfl) ?_
  refine lv_iload_n hx hb d_AL_add_1_12 rfl (lv_at hl 3 rfl) ?_
  refine lv_aload_n hx hb d_AL_add_1_13 rfl (lv_at hl 2 rfl) ?_
  refine va_astqO (D := tp_D E) hx hb hK.1 hP hD hS 0 5 2 3 rfl rfl (hK.2.2.2.1 _ kcs_N_OJ) rfl rfl h3 d_AL_add_1_14 (fun H locs hP hD hS => ?_)
  have hP : va_P (tp_D E) tp_cl ((q1, .inl (tp_ty E 5, 10, .inr (.inr (.inr (.inr (va_up (fun _ => none) x3.toNatClampNeg (some a2))))))) :: (a1, .inr (5, [.int x4, .ref q1, .int x5])) :: (a2, .inr (3, [.int x6, .ref (tp_ad E 0), .int x7, .int x8, .int x9, .long x10, .int x11, .int x12, .int x13, .int x14, .int x15])) :: fr) H := hP
  have hD : va_D A ((q1, .inl (tp_ty E 5, 10, .inr (.inr (.inr (.inr (va_up (fun _ => none) x3.toNatClampNeg (some a2))))))) :: (a1, .inr (5, [.int x4, .ref q1, .int x5])) :: (a2, .inr (3, [.int x6, .ref (tp_ad E 0), .int x7, .int x8, .int x9, .long x10, .int x11, .int x12, .int x13, .int x14, .int x15])) :: fr) := hD
  refine lv_aload_n hx hb d_AL_add_1_15 rfl (lv_at hl 1 rfl) ?_
  refine lv_iload_n hx hb d_AL_add_1_16 rfl (lv_at hl 3 rfl) ?_
  refine lv_iconst (v := 1) hx hb d_AL_add_1_17 (by decide) ?_
  refine lv_iadd hx hb d_AL_add_1_18 ?_
  refine va_put (D := tp_D E) (ci := 5) (v := .int (x3 + 1)) (ty := .int) (C := qR_AL) (T := qF_AL) (N := 3) hx hb htg qi_AL qt_AL qt_AL_ok qn_AL hown hK.1 hP hD hS 1 rfl rfl 2 (by decide) (htg _ kl_AL_48) (fun _ h => h) rfl (by decide +kernel) rfl rfl (Nat.le_of_ble_eq_true rfl) d_AL_add_1_19 (fun H locs hP hD hS => ?_)
  have hP : va_P (tp_D E) tp_cl ((q1, .inl (tp_ty E 5, 10, .inr (.inr (.inr (.inr (va_up (fun _ => none) x3.toNatClampNeg (some a2))))))) :: (a1, .inr (5, [.int x4, .ref q1, .int (x3 + 1)])) :: (a2, .inr (3, [.int x6, .ref (tp_ad E 0), .int x7, .int x8, .int x9, .long x10, .int x11, .int x12, .int x13, .int x14, .int x15])) :: fr) H := hP
  have hD : va_D A ((q1, .inl (tp_ty E 5, 10, .inr (.inr (.inr (.inr (va_up (fun _ => none) x3.toNatClampNeg (some a2))))))) :: (a1, .inr (5, [.int x4, .ref q1, .int (x3 + 1)])) :: (a2, .inr (3, [.int x6, .ref (tp_ad E 0), .int x7, .int x8, .int x9, .long x10, .int x11, .int x12, .int x13, .int x14, .int x15])) :: fr) := hD
  exact W.vret hx hb hr (fun t ht hW => ⟨⟨q1, rfl, trivial, by rw [ht]; exact hP, hD⟩, hS.F ht⟩) hS.2.2 d_AL_add_1_22
set_option maxHeartbeats 400000 in
set_option maxRecDepth 100000 in
theorem c_AL_add_0_1 (l : Launch) (E : tp_Env) (fr : va_W) (sz : Nat) (a1 : Nat) (a2 : Nat) (x3 : Int32) (x4 : Int32) (x5 : Int32) (x6 : Int32) (x7 : Int32) (x8 : Int32) (x9 : Int64) (x10 : Int32) (x11 : Int32) (x12 : Int32) (x13 : Int32) (x14 : Int32) (h1 : x4 = 0) (h2 : ¬ 10 < (x4 + 1)) (h3 : vp_in x4 10) : Met l y_AL_add_0 w_AL_add_0 ({ frames := 4, cells := 1, slots := 10, locals := 87 }) (va_Pc [.ref a1, .ref a2] (tp_in E ((a1, .inr (5, [.int x3, .ref (tp_ad E 100), .int x4])) :: (a2, .inr (3, [.int x5, .ref (tp_ad E 0), .int x6, .int x7, .int x8, .long x9, .int x10, .int x11, .int x12, .int x13, .int x14])) :: fr) sz)) (va_Qi (fun r (u : Nat) => r = 1) (fun u t => tp_out E (va_A ((a1, .inr (5, [.int x3, .ref (tp_ad E 100), .int x4])) :: (a2, .inr (3, [.int x5, .ref (tp_ad E 0), .int x6, .int x7, .int x8, .long x9, .int x10, .int x11, .int x12, .int x13, .int x14])) :: fr) sz) ((u, .inl (tp_ty E 5, 10, .inr (.inr (.inr (.inr (va_up (fun _ => none) x4.toNatClampNeg (some a2))))))) :: (a1, .inr (5, [.int (x3 + 1), .ref u, .int (x4 + 1)])) :: (a2, .inr (3, [.int x5, .ref (tp_ad E 0), .int x6, .int x7, .int x8, .long x9, .int x10, .int x11, .int x12, .int x13, .int x14])) :: fr) t) (va_A ((a1, .inr (5, [.int x3, .ref (tp_ad E 100), .int x4])) :: (a2, .inr (3, [.int x5, .ref (tp_ad E 0), .int x6, .int x7, .int x8, .long x9, .int x10, .int x11, .int x12, .int x13, .int x14])) :: fr) sz)) 1 10 (va_A ((a1, .inr (5, [.int x3, .ref (tp_ad E 100), .int x4])) :: (a2, .inr (3, [.int x5, .ref (tp_ad E 0), .int x6, .int x7, .int x8, .long x9, .int x10, .int x11, .int x12, .int x13, .int x14])) :: fr) sz) := by
  refine Met.ofW (cc := b_AL_add_0) (maxL := 2) (ret := (some .boolean)) (by decide) rfl ?_
  intro p e s m args below meth c s₁ B hml hv
  obtain ⟨rfl, hsz, hP, hK, hD0⟩ := hv
  have hx := B.exec
  have hb := B.bytes
  have hr := B.returns
  have htg : ∀ w ∈ tp_G, w.before ([.ref a1, .ref a2] : List Value).toArray s = true := fun w h => atoms_spec (ws := w_AL_add_0) B.pre w (List.mem_cons_of_mem _ h)
  have hown : s.vm.findClass "java/util/ArrayList" = some m.cls := findClass_of_methodNamed B.named
  have hlocks := B.notSynchronized
  subst hsz
  have hD := hD0.self (sz := s.heap.size)
  generalize hAe : va_A ((a1, .inr (5, [.int x3, .ref (tp_ad E 100), .int x4])) :: (a2, .inr (3, [.int x5, .ref (tp_ad E 0), .int x6, .int x7, .int x8, .long x9, .int x10, .int x11, .int x12, .int x13, .int x14])) :: fr) s.heap.size = A at hD hK ⊢
  have hA : ∀ q : Nat, s.heap.size ≤ q → A q := fun q h => by rw [← hAe]; exact Or.inr h
  have hS : va_S A s.heap s.heap [] := va_S.rf
  have hl := lv_entry ([.ref a1, .ref a2]) (n := 2) (Nat.le_of_ble_eq_true rfl)
  rw [lg_entry_eq]
  generalize (lg_sl ([.ref a1, .ref a2]) ++ List.replicate (2 - (lg_sl ([.ref a1, .ref a2])).length) Slot.unset).toArray = ls at hl ⊢
  have hl : lv_has ls 2 [(0, .ref a1), (1, .ref a2)] := hl
  refine lv_aload_n hx hb d_AL_add_0_0 rfl (lv_at hl 0 rfl) ?_
  refine lv_dup hx hb d_AL_add_0_1 rfl ?_
  refine va_get (D := tp_D E) (ci := 5) (v := .int x3) (C := qR_AL) (T := qF_AL) (N := 3) hx hb htg qi_AL hown hK.1 hP 0 rfl rfl 0 (by decide) (htg _ kl_AL_63) (fun x h => u_same (htg (.sameField "java/util/ArrayList" "java/util/AbstractList" "modCount" "I") (by decide +kernel)) x h) rfl d_AL_add_0_2 ?_
  refine lv_iconst (v := 1) hx hb d_AL_add_0_5 (by decide) ?_
  refine lv_iadd hx hb d_AL_add_0_6 ?_
  refine va_put (D := tp_D E) (ci := 5) (v := .int (x3 + 1)) (ty := .int) (C := qR_AL) (T := qF_AL) (N := 3) hx hb htg qi_AL qt_AL qt_AL_ok qn_AL hown hK.1 hP hD hS 0 rfl rfl 0 (by decide) (htg _ kl_AL_63) (fun x h => u_same (htg (.sameField "java/util/ArrayList" "java/util/AbstractList" "modCount" "I") (by decide +kernel)) x h) rfl (by decide +kernel) rfl rfl (Nat.le_of_ble_eq_true rfl) d_AL_add_0_7 (fun H locs hP hD hS => ?_)
  have hP : va_P (tp_D E) tp_cl ((a1, .inr (5, [.int (x3 + 1), .ref (tp_ad E 100), .int x4])) :: (a2, .inr (3, [.int x5, .ref (tp_ad E 0), .int x6, .int x7, .int x8, .long x9, .int x10, .int x11, .int x12, .int x13, .int x14])) :: fr) H := hP
  have hD : va_D A ((a1, .inr (5, [.int (x3 + 1), .ref (tp_ad E 100), .int x4])) :: (a2, .inr (3, [.int x5, .ref (tp_ad E 0), .int x6, .int x7, .int x8, .long x9, .int x10, .int x11, .int x12, .int x13, .int x14])) :: fr) := hD
  refine lv_aload_n hx hb d_AL_add_0_10 rfl (lv_at hl 0 rfl) ?_
  refine lv_aload_n hx hb d_AL_add_0_11 rfl (lv_at hl 1 rfl) ?_
  refine lv_aload_n hx hb d_AL_add_0_12 rfl (lv_at hl 0 rfl) ?_
  refine va_get (D := tp_D E) (ci := 5) (v := .ref (tp_ad E 100)) (C := qR_AL) (T := qF_AL) (N := 3) hx hb htg qi_AL hown hK.1 hP 0 rfl rfl 1 (by decide) (htg _ kl_AL_9) (fun _ h => h) rfl d_AL_add_0_13 ?_
  refine lv_aload_n hx hb d_AL_add_0_16 rfl (lv_at hl 0 rfl) ?_
  refine va_get (D := tp_D E) (ci := 5) (v := .int x4) (C := qR_AL) (T := qF_AL) (N := 3) hx hb htg qi_AL hown hK.1 hP 0 rfl rfl 2 (by decide) (htg _ kl_AL_48) (fun _ h => h) rfl d_AL_add_0_17 ?_
  refine tp_cv (tp_rV (As := [.ref a2, .ref (tp_ad E 100), .int x4]) (rest := []) ⟨hx, hb, hml, hown, htg⟩ (c_AL_add_1_1 l E fr _ a1 a2 x4 (x3 + 1) x4 x5 x6 x7 x8 x9 x10 x11 x12 x13 x14 h1 h2 h3) (⟨callB_of 3 htg (tp_good0 kc_AL_add_1) rfl rfl rfl (htg _ ki_AL) (htg _ kl_AL_131) ⟨by decide, by decide, by decide +kernel⟩ ⟨Nat.le_of_ble_eq_true rfl, Nat.le_of_ble_eq_true rfl⟩, htg _ km_AL_add_1, htg _ kp_AL_add_1⟩) (va_recv (ci := 5) (q0 := 0) hK.1 hP rfl rfl) hK hP hD hS hA rfl hl.1 rfl (Nat.le_of_ble_eq_true rfl) d_AL_add_0_20 ⟨Nat.le_of_ble_eq_true rfl, Nat.le_of_ble_eq_true rfl⟩) hD hS hA (fun u H locs _ hP hD hS => ?_)
  generalize u = q1 at hP hD ⊢
  have hP : va_P (tp_D E) tp_cl ((q1, .inl (tp_ty E 5, 10, .inr (.inr (.inr (.inr (va_up (fun _ => none) x4.toNatClampNeg (some a2))))))) :: (a1, .inr (5, [.int (x3 + 1), .ref q1, .int (x4 + 1)])) :: (a2, .inr (3, [.int x5, .ref (tp_ad E 0), .int x6, .int x7, .int x8, .long x9, .int x10, .int x11, .int x12, .int x13, .int x14])) :: fr) H := hP
  have hD : va_D A ((q1, .inl (tp_ty E 5, 10, .inr (.inr (.inr (.inr (va_up (fun _ => none) x4.toNatClampNeg (some a2))))))) :: (a1, .inr (5, [.int (x3 + 1), .ref q1, .int (x4 + 1)])) :: (a2, .inr (3, [.int x5, .ref (tp_ad E 0), .int x6, .int x7, .int x8, .long x9, .int x10, .int x11, .int x12, .int x13, .int x14])) :: fr) := hD
  refine lv_iconst (v := 1) hx hb d_AL_add_0_23 (by decide) ?_
  exact W.zret (v := 1) hx hb hr rfl (fun t ht hW => ⟨⟨_, q1, rfl, rfl, by rw [ht]; exact hP, hD⟩, hS.F ht⟩) hS.2.2 d_AL_add_0_24
set_option maxHeartbeats 400000 in
set_option maxRecDepth 100000 in
theorem c_AL_size_2 (l : Launch) (E : tp_Env) (fr : va_W) (sz : Nat) (a1 : Nat) (x2 : Int32) (a3 : Nat) (x4 : Int32)  : Met l y_AL_size w_AL_size ({ frames := 0, cells := 0, slots := 0, locals := 0 }) (va_Pc [.ref a1] (tp_in E ((a1, .inr (5, [.int x2, .ref a3, .int x4])) :: fr) sz)) (va_Qi (fun r (_ : Unit) => r = x4) (fun _ t => tp_out E (va_A ((a1, .inr (5, [.int x2, .ref a3, .int x4])) :: fr) sz) ((a1, .inr (5, [.int x2, .ref a3, .int x4])) :: fr) t) (va_A ((a1, .inr (5, [.int x2, .ref a3, .int x4])) :: fr) sz)) 0 0 (va_A ((a1, .inr (5, [.int x2, .ref a3, .int x4])) :: fr) sz) := by
  refine Met.ofW (cc := b_AL_size) (maxL := 1) (ret := (some .int)) (by decide) rfl ?_
  intro p e s m args below meth c s₁ B hml hv
  obtain ⟨rfl, hsz, hP, hK, hD0⟩ := hv
  have hx := B.exec
  have hb := B.bytes
  have hr := B.returns
  have htg : ∀ w ∈ tp_G, w.before ([.ref a1] : List Value).toArray s = true := fun w h => atoms_spec (ws := w_AL_size) B.pre w (List.mem_cons_of_mem _ h)
  have hown : s.vm.findClass "java/util/ArrayList" = some m.cls := findClass_of_methodNamed B.named
  have hlocks := B.notSynchronized
  subst hsz
  have hD := hD0.self (sz := s.heap.size)
  generalize hAe : va_A ((a1, .inr (5, [.int x2, .ref a3, .int x4])) :: fr) s.heap.size = A at hD hK ⊢
  have hA : ∀ q : Nat, s.heap.size ≤ q → A q := fun q h => by rw [← hAe]; exact Or.inr h
  have hS : va_S A s.heap s.heap [] := va_S.rf
  have hl := lv_entry ([.ref a1]) (n := 1) (Nat.le_of_ble_eq_true rfl)
  rw [lg_entry_eq]
  generalize (lg_sl ([.ref a1]) ++ List.replicate (1 - (lg_sl ([.ref a1])).length) Slot.unset).toArray = ls at hl ⊢
  have hl : lv_has ls 1 [(0, .ref a1)] := hl
  refine lv_aload_n hx hb d_AL_size_0 rfl (lv_at hl 0 rfl) ?_
  refine va_get (D := tp_D E) (ci := 5) (v := .int x4) (C := qR_AL) (T := qF_AL) (N := 3) hx hb htg qi_AL hown hK.1 hP 0 rfl rfl 2 (by decide) (htg _ kl_AL_48) (fun _ h => h) rfl d_AL_size_1 ?_
  exact W.iret (v := x4) hx hb hr (fun t ht hW => ⟨⟨_, (), rfl, rfl, by rw [ht]; exact hP, hD⟩, hS.F ht⟩) hS.2.2 d_AL_size_4
set_option maxHeartbeats 400000 in
set_option maxRecDepth 100000 in
theorem c_S_count_2 (l : Launch) (E : tp_Env) (fr : va_W) (sz : Nat) (a1 : Nat) (a2 : Nat) (x3 : Int32) (a4 : Nat) (x5 : Int32)  : Met l y_S_count w_S_count ({ frames := 1, cells := 0, slots := 0, locals := 20 }) (va_Pc [.ref a1] (tp_in E ((a1, .inr (2, [.ref a2])) :: (a2, .inr (5, [.int x3, .ref a4, .int x5])) :: fr) sz)) (va_Qi (fun r (_ : Unit) => r = x5) (fun _ t => tp_out E (va_A ((a1, .inr (2, [.ref a2])) :: (a2, .inr (5, [.int x3, .ref a4, .int x5])) :: fr) sz) ((a2, .inr (5, [.int x3, .ref a4, .int x5])) :: (a1, .inr (2, [.ref a2])) :: fr) t) (va_A ((a1, .inr (2, [.ref a2])) :: (a2, .inr (5, [.int x3, .ref a4, .int x5])) :: fr) sz)) 0 0 (va_A ((a1, .inr (2, [.ref a2])) :: (a2, .inr (5, [.int x3, .ref a4, .int x5])) :: fr) sz) := by
  refine Met.ofW (cc := b_S_count) (maxL := 1) (ret := (some .int)) (by decide) rfl ?_
  intro p e s m args below meth c s₁ B hml hv
  obtain ⟨rfl, hsz, hP, hK, hD0⟩ := hv
  have hx := B.exec
  have hb := B.bytes
  have hr := B.returns
  have htg : ∀ w ∈ tp_G, w.before ([.ref a1] : List Value).toArray s = true := fun w h => atoms_spec (ws := w_S_count) B.pre w (List.mem_cons_of_mem _ h)
  have hown : s.vm.findClass "TwoPass$Source" = some m.cls := findClass_of_methodNamed B.named
  have hlocks := B.notSynchronized
  subst hsz
  have hD := hD0.self (sz := s.heap.size)
  generalize hAe : va_A ((a1, .inr (2, [.ref a2])) :: (a2, .inr (5, [.int x3, .ref a4, .int x5])) :: fr) s.heap.size = A at hD hK ⊢
  have hA : ∀ q : Nat, s.heap.size ≤ q → A q := fun q h => by rw [← hAe]; exact Or.inr h
  have hS : va_S A s.heap s.heap [] := va_S.rf
  have hl := lv_entry ([.ref a1]) (n := 1) (Nat.le_of_ble_eq_true rfl)
  rw [lg_entry_eq]
  generalize (lg_sl ([.ref a1]) ++ List.replicate (1 - (lg_sl ([.ref a1])).length) Slot.unset).toArray = ls at hl ⊢
  have hl : lv_has ls 1 [(0, .ref a1)] := hl
  refine lv_aload_n hx hb d_S_count_0 rfl (lv_at hl 0 rfl) ?_
  refine va_get (D := tp_D E) (ci := 2) (v := .ref a2) (C := qR_S) (T := qF_S) (N := 1) hx hb htg qi_S hown hK.1 hP 0 rfl rfl 0 (by decide) (htg _ kl_S_12) (fun _ h => h) rfl d_S_count_1 ?_
  have hP : va_P (tp_D E) tp_cl ((a2, .inr (5, [.int x3, .ref a4, .int x5])) :: (a1, .inr (2, [.ref a2])) :: fr) _ := tp_mvP 1 rfl hP
  have hD : va_D A ((a2, .inr (5, [.int x3, .ref a4, .int x5])) :: (a1, .inr (2, [.ref a2])) :: fr) := tp_mvD 1 rfl hD
  refine tp_ci (tp_rV (As := []) (rest := []) ⟨hx, hb, hml, hown, htg⟩ (c_AL_size_2 l E ((a1, .inr (2, [.ref a2])) :: fr) _ a2 x3 a4 x5 ) (⟨callB_of 0 htg (tp_good0 kc_AL_size) rfl rfl rfl (htg _ ki_AL) (htg _ kl_S_18) ⟨by decide, by decide, by decide +kernel⟩ ⟨Nat.le_of_ble_eq_true rfl, Nat.le_of_ble_eq_true rfl⟩, htg _ km_AL_size, htg _ kv_AL_AL_size⟩) (va_recv (ci := 5) (q0 := 0) hK.1 hP rfl rfl) hK hP hD hS hA rfl hl.1 rfl (Nat.le_of_ble_eq_true rfl) d_S_count_4 ⟨Nat.le_of_ble_eq_true rfl, Nat.le_of_ble_eq_true rfl⟩) hD hS hA (fun r u H locs hw hP hD hS => ?_)
  subst r
  have hP : va_P (tp_D E) tp_cl ((a2, .inr (5, [.int x3, .ref a4, .int x5])) :: (a1, .inr (2, [.ref a2])) :: fr) H := hP
  have hD : va_D A ((a2, .inr (5, [.int x3, .ref a4, .int x5])) :: (a1, .inr (2, [.ref a2])) :: fr) := hD
  exact W.iret (v := x5) hx hb hr (fun t ht hW => ⟨⟨_, (), rfl, rfl, by rw [ht]; exact hP, hD⟩, hS.F ht⟩) hS.2.2 d_S_count_7
set_option maxHeartbeats 400000 in
set_option maxRecDepth 100000 in
theorem c_T_line_3 (l : Launch) (E : tp_Env) (fr : va_W) (sz : Nat) (a1 : Nat) (a2 : Nat) (a3 : Nat) (a4 : Nat) (x5 : Int32) (x6 : Int32) (x7 : Int32) (a8 : Nat) (x9 : Int32) (x10 : Int32) (x11 : Int32) (x12 : Int32) (x13 : Int32) (f14 : Nat → Option Nat) (a15 : Nat) (a16 : Nat) (a17 : Nat) (x18 : Int32) (x19 : Int32) (h1 : ¬ x7 < 0) (h2 : ¬ 2 ≤ x7) (h3 : x9 ≤ 0) (h4 : f14 0 = some a15) (h5 : f14 1 = some a16) (h6 : x7 = 0) (h7 : x19 < 16) (h8 : x19 = 0) (h9 : ¬ 10 < (x19 + 1)) (h10 : vp_in x19 10) : Met l y_T_line w_T_line ({ frames := 5, cells := 2, slots := 21, locals := 108 }) (va_Pc [.ref a1, .int x7] (tp_in E ((a1, .inr (0, [.ref a2, .ref a3, .ref a4, .int x5, .int x6])) :: (a2, .inr (1, [.ref a8, .int x9, .int x10, .int x11, .int x12, .int x13])) :: (a3, .inl (tp_ty E 6, 2, .inr (.inr (.inr (.inr f14))))) :: (a15, .inr (2, [.ref a17])) :: (a17, .inr (5, [.int x18, .ref (tp_ad E 100), .int x19])) :: fr) sz)) (va_Qi (fun r (u : Nat × Nat) => r = (x19 + 1)) (fun u t => tp_out E (va_A ((a1, .inr (0, [.ref a2, .ref a3, .ref a4, .int x5, .int x6])) :: (a2, .inr (1, [.ref a8, .int x9, .int x10, .int x11, .int x12, .int x13])) :: (a3, .inl (tp_ty E 6, 2, .inr (.inr (.inr (.inr f14))))) :: (a15, .inr (2, [.ref a17])) :: (a17, .inr (5, [.int x18, .ref (tp_ad E 100), .int x19])) :: fr) sz) ((a17, .inr (5, [.int (x18 + 1), .ref u.2, .int (x19 + 1)])) :: (a15, .inr (2, [.ref a17])) :: (u.2, .inl (tp_ty E 5, 10, .inr (.inr (.inr (.inr (va_up (fun _ => none) x19.toNatClampNeg (some u.1))))))) :: (u.1, .inr (3, [.int 0, .ref (tp_ad E 0), .int 0, .int 0, .int 0, .long 0, .int 0, .int 0, .int 0, .int 0, .int 0])) :: (a2, .inr (1, [.ref a8, .int 0, .int x9, .int 0, .int 0, .int 0])) :: (a1, .inr (0, [.ref a2, .ref a3, .ref a4, .int 0, .int x6])) :: (a3, .inl (tp_ty E 6, 2, .inr (.inr (.inr (.inr f14))))) :: fr) t) (va_A ((a1, .inr (0, [.ref a2, .ref a3, .ref a4, .int x5, .int x6])) :: (a2, .inr (1, [.ref a8, .int x9, .int x10, .int x11, .int x12, .int x13])) :: (a3, .inl (tp_ty E 6, 2, .inr (.inr (.inr (.inr f14))))) :: (a15, .inr (2, [.ref a17])) :: (a17, .inr (5, [.int x18, .ref (tp_ad E 100), .int x19])) :: fr) sz)) 2 21 (va_A ((a1, .inr (0, [.ref a2, .ref a3, .ref a4, .int x5, .int x6])) :: (a2, .inr (1, [.ref a8, .int x9, .int x10, .int x11, .int x12, .int x13])) :: (a3, .inl (tp_ty E 6, 2, .inr (.inr (.inr (.inr f14))))) :: (a15, .inr (2, [.ref a17])) :: (a17, .inr (5, [.int x18, .ref (tp_ad E 100), .int x19])) :: fr) sz) := by
  refine Met.ofW (cc := b_T_line) (maxL := 4) (ret := (some .int)) (by decide) rfl ?_
  intro p e s m args below meth c s₁ B hml hv
  obtain ⟨rfl, hsz, hP, hK, hD0⟩ := hv
  have hx := B.exec
  have hb := B.bytes
  have hr := B.returns
  have htg : ∀ w ∈ tp_G, w.before ([.ref a1, .int x7] : List Value).toArray s = true := fun w h => atoms_spec (ws := w_T_line) B.pre w (List.mem_cons_of_mem _ h)
  have hown : s.vm.findClass "TwoPass" = some m.cls := findClass_of_methodNamed B.named
  have hlocks := B.notSynchronized
  subst hsz
  have hD := hD0.self (sz := s.heap.size)
  generalize hAe : va_A ((a1, .inr (0, [.ref a2, .ref a3, .ref a4, .int x5, .int x6])) :: (a2, .inr (1, [.ref a8, .int x9, .int x10, .int x11, .int x12, .int x13])) :: (a3, .inl (tp_ty E 6, 2, .inr (.inr (.inr (.inr f14))))) :: (a15, .inr (2, [.ref a17])) :: (a17, .inr (5, [.int x18, .ref (tp_ad E 100), .int x19])) :: fr) s.heap.size = A at hD hK ⊢
  have hA : ∀ q : Nat, s.heap.size ≤ q → A q := fun q h => by rw [← hAe]; exact Or.inr h
  have hS : va_S A s.heap s.heap [] := va_S.rf
  have hl := lv_entry ([.ref a1, .int x7]) (n := 4) (Nat.le_of_ble_eq_true rfl)
  rw [lg_entry_eq]
  generalize (lg_sl ([.ref a1, .int x7]) ++ List.replicate (4 - (lg_sl ([.ref a1, .int x7])).length) Slot.unset).toArray = ls at hl ⊢
  have hl : lv_has ls 4 [(0, .ref a1), (1, .int x7)] := hl
  refine lv_aload_n hx hb d_T_line_0 rfl (lv_at hl 0 rfl) ?_
  refine va_get (D := tp_D E) (ci := 0) (v := .ref a2) (C := qR_T) (T := qF_T) (N := 5) hx hb htg qi_T hown hK.1 hP 0 rfl rfl 0 (by decide) (htg _ kl_T_10) (fun _ h => h) rfl d_T_line_1 ?_
  have hP : va_P (tp_D E) tp_cl ((a2, .inr (1, [.ref a8, .int x9, .int x10, .int x11, .int x12, .int x13])) :: (a1, .inr (0, [.ref a2, .ref a3, .ref a4, .int x5, .int x6])) :: (a3, .inl (tp_ty E 6, 2, .inr (.inr (.inr (.inr f14))))) :: (a15, .inr (2, [.ref a17])) :: (a17, .inr (5, [.int x18, .ref (tp_ad E 100), .int x19])) :: fr) _ := tp_mvP 1 rfl hP
  have hD : va_D A ((a2, .inr (1, [.ref a8, .int x9, .int x10, .int x11, .int x12, .int x13])) :: (a1, .inr (0, [.ref a2, .ref a3, .ref a4, .int x5, .int x6])) :: (a3, .inl (tp_ty E 6, 2, .inr (.inr (.inr (.inr f14))))) :: (a15, .inr (2, [.ref a17])) :: (a17, .inr (5, [.int x18, .ref (tp_ad E 100), .int x19])) :: fr) := tp_mvD 1 rfl hD
  refine tp_cv (tp_rV (As := []) (rest := []) ⟨hx, hb, hml, hown, htg⟩ (c_Y_take_1 l E ((a1, .inr (0, [.ref a2, .ref a3, .ref a4, .int x5, .int x6])) :: (a3, .inl (tp_ty E 6, 2, .inr (.inr (.inr (.inr f14))))) :: (a15, .inr (2, [.ref a17])) :: (a17, .inr (5, [.int x18, .ref (tp_ad E 100), .int x19])) :: fr) _ a2 a8 x9 x10 x11 x12 x13 ) (⟨callB_of 0 htg (tp_good0 kc_Y_take) rfl rfl rfl (htg _ ki_Y) (htg _ kl_T_55) ⟨by decide, by decide, by decide +kernel⟩ ⟨Nat.le_of_ble_eq_true rfl, Nat.le_of_ble_eq_true rfl⟩, htg _ km_Y_take, htg _ kv_Y_Y_take⟩) (va_recv (ci := 1) (q0 := 0) hK.1 hP rfl rfl) hK hP hD hS hA rfl hl.1 rfl (Nat.le_of_ble_eq_true rfl) d_T_line_4 ⟨Nat.le_of_ble_eq_true rfl, Nat.le_of_ble_eq_true rfl⟩) hD hS hA (fun u H locs _ hP hD hS => ?_)
  have hP : va_P (tp_D E) tp_cl ((a2, .inr (1, [.ref a8, .int 0, .int x9, .int 0, .int x12, .int x13])) :: (a1, .inr (0, [.ref a2, .ref a3, .ref a4, .int x5, .int x6])) :: (a3, .inl (tp_ty E 6, 2, .inr (.inr (.inr (.inr f14))))) :: (a15, .inr (2, [.ref a17])) :: (a17, .inr (5, [.int x18, .ref (tp_ad E 100), .int x19])) :: fr) H := hP
  have hD : va_D A ((a2, .inr (1, [.ref a8, .int 0, .int x9, .int 0, .int x12, .int x13])) :: (a1, .inr (0, [.ref a2, .ref a3, .ref a4, .int x5, .int x6])) :: (a3, .inl (tp_ty E 6, 2, .inr (.inr (.inr (.inr f14))))) :: (a15, .inr (2, [.ref a17])) :: (a17, .inr (5, [.int x18, .ref (tp_ad E 100), .int x19])) :: fr) := hD
  refine lv_iload_n hx hb d_T_line_7 rfl (lv_at hl 1 rfl) ?_
  refine tp_cv (tp_rS (As := [.int x7]) (rest := []) ⟨hx, hb, hml, hown, htg⟩ (c_T_requireModule_3 l E ((a2, .inr (1, [.ref a8, .int 0, .int x9, .int 0, .int x12, .int x13])) :: (a1, .inr (0, [.ref a2, .ref a3, .ref a4, .int x5, .int x6])) :: (a3, .inl (tp_ty E 6, 2, .inr (.inr (.inr (.inr f14))))) :: (a15, .inr (2, [.ref a17])) :: (a17, .inr (5, [.int x18, .ref (tp_ad E 100), .int x19])) :: fr) _ x7 h1 h2) (⟨callB_of 1 htg (tp_good0 kc_T_requireModule) rfl rfl rfl (htg _ ki_T) (htg _ kl_T_58) ⟨by decide, by decide, by decide +kernel⟩ ⟨Nat.le_of_ble_eq_true rfl, Nat.le_of_ble_eq_true rfl⟩, htg _ ks_T_requireModule⟩) hK hP hD hS hA rfl hl.1 rfl (Nat.le_of_ble_eq_true rfl) d_T_line_8 ⟨Nat.le_of_ble_eq_true rfl, Nat.le_of_ble_eq_true rfl⟩) hD hS hA (fun u H locs _ hP hD hS => ?_)
  have hP : va_P (tp_D E) tp_cl ((a2, .inr (1, [.ref a8, .int 0, .int x9, .int 0, .int x12, .int x13])) :: (a1, .inr (0, [.ref a2, .ref a3, .ref a4, .int x5, .int x6])) :: (a3, .inl (tp_ty E 6, 2, .inr (.inr (.inr (.inr f14))))) :: (a15, .inr (2, [.ref a17])) :: (a17, .inr (5, [.int x18, .ref (tp_ad E 100), .int x19])) :: fr) H := hP
  have hD : va_D A ((a2, .inr (1, [.ref a8, .int 0, .int x9, .int 0, .int x12, .int x13])) :: (a1, .inr (0, [.ref a2, .ref a3, .ref a4, .int x5, .int x6])) :: (a3, .inl (tp_ty E 6, 2, .inr (.inr (.inr (.inr f14))))) :: (a15, .inr (2, [.ref a17])) :: (a17, .inr (5, [.int x18, .ref (tp_ad E 100), .int x19])) :: fr) := hD
  refine lv_aload_n hx hb d_T_line_11 rfl (lv_at hl 0 rfl) ?_
  refine va_get (D := tp_D E) (ci := 0) (v := .ref a2) (C := qR_T) (T := qF_T) (N := 5) hx hb htg qi_T hown hK.1 hP 1 rfl rfl 0 (by decide) (htg _ kl_T_10) (fun _ h => h) rfl d_T_line_12 ?_
  refine tp_cr (tp_rV (As := []) (rest := []) ⟨hx, hb, hml, hown, htg⟩ (c_Y_read_1 l E ((a1, .inr (0, [.ref a2, .ref a3, .ref a4, .int x5, .int x6])) :: (a3, .inl (tp_ty E 6, 2, .inr (.inr (.inr (.inr f14))))) :: (a15, .inr (2, [.ref a17])) :: (a17, .inr (5, [.int x18, .ref (tp_ad E 100), .int x19])) :: fr) _ a2 a8 0 x9 0 x12 x13 h3 (by decide)) (⟨callB_of 0 htg (tp_good0 kc_Y_read) rfl rfl rfl (htg _ ki_Y) (htg _ kl_T_62) ⟨by decide, by decide, by decide +kernel⟩ ⟨Nat.le_of_ble_eq_true rfl, Nat.le_of_ble_eq_true rfl⟩, htg _ km_Y_read, htg _ kv_Y_Y_read⟩) (va_recv (ci := 1) (q0 := 0) hK.1 hP rfl rfl) hK hP hD hS hA rfl hl.1 rfl (Nat.le_of_ble_eq_true rfl) d_T_line_15 ⟨Nat.le_of_ble_eq_true rfl, Nat.le_of_ble_eq_true rfl⟩) hD hS hA (fun u H locs _ hP hD hS => ?_)
  generalize u = q1 at hP hD ⊢
  have hP : va_P (tp_D E) tp_cl ((a2, .inr (1, [.ref a8, .int 0, .int x9, .int 0, .int 0, .int 0])) :: (q1, .inr (3, [.int 0, .ref (tp_ad E 0), .int 0, .int 0, .int 0, .long 0, .int 0, .int 0, .int 0, .int 0, .int 0])) :: (a1, .inr (0, [.ref a2, .ref a3, .ref a4, .int x5, .int x6])) :: (a3, .inl (tp_ty E 6, 2, .inr (.inr (.inr (.inr f14))))) :: (a15, .inr (2, [.ref a17])) :: (a17, .inr (5, [.int x18, .ref (tp_ad E 100), .int x19])) :: fr) H := hP
  have hD : va_D A ((a2, .inr (1, [.ref a8, .int 0, .int x9, .int 0, .int 0, .int 0])) :: (q1, .inr (3, [.int 0, .ref (tp_ad E 0), .int 0, .int 0, .int 0, .long 0, .int 0, .int 0, .int 0, .int 0, .int 0])) :: (a1, .inr (0, [.ref a2, .ref a3, .ref a4, .int x5, .int x6])) :: (a3, .inl (tp_ty E 6, 2, .inr (.inr (.inr (.inr f14))))) :: (a15, .inr (2, [.ref a17])) :: (a17, .inr (5, [.int x18, .ref (tp_ad E 100), .int x19])) :: fr) := hD
  refine lv_astore_n (lv' := [(2, .ref q1), (0, .ref a1), (1, .int x7)]) hx hb d_T_line_18 rfl hl (by decide) rfl (fun ls hl => ?_)
  refine lv_aload_n hx hb d_T_line_19 rfl (lv_at hl 1 rfl) ?_
  refine va_get (D := tp_D E) (ci := 0) (v := .ref a3) (C := qR_T) (T := qF_T) (N := 5) hx hb htg qi_T hown hK.1 hP 2 rfl rfl 1 (by decide) (htg _ kl_T_19) (fun _ h => h) rfl d_T_line_20 ?_
  refine lv_iload_n hx hb d_T_line_23 rfl (lv_at hl 2 rfl) ?_
  refine va_aldq (D := tp_D E) hx hb hK.1 hP 3 6 rfl rfl (tp_vin (k := 2) h1 h2 (by decide) (by decide)) d_T_line_24 ?_
  refine tp_topr (k := 0) (a := a15) (by rw [h6]; rfl) h4 ?_
  refine lv_astore_n (lv' := [(3, .ref a15), (2, .ref q1), (0, .ref a1), (1, .int x7)]) hx hb d_T_line_25 rfl hl (by decide) rfl (fun ls hl => ?_)
  refine lv_aload_n hx hb d_T_line_26 rfl (lv_at hl 0 rfl) ?_
  have hP : va_P (tp_D E) tp_cl ((a17, .inr (5, [.int x18, .ref (tp_ad E 100), .int x19])) :: (a2, .inr (1, [.ref a8, .int 0, .int x9, .int 0, .int 0, .int 0])) :: (q1, .inr (3, [.int 0, .ref (tp_ad E 0), .int 0, .int 0, .int 0, .long 0, .int 0, .int 0, .int 0, .int 0, .int 0])) :: (a1, .inr (0, [.ref a2, .ref a3, .ref a4, .int x5, .int x6])) :: (a3, .inl (tp_ty E 6, 2, .inr (.inr (.inr (.inr f14))))) :: (a15, .inr (2, [.ref a17])) :: fr) _ := tp_mvP 5 rfl hP
  have hD : va_D A ((a17, .inr (5, [.int x18, .ref (tp_ad E 100), .int x19])) :: (a2, .inr (1, [.ref a8, .int 0, .int x9, .int 0, .int 0, .int 0])) :: (q1, .inr (3, [.int 0, .ref (tp_ad E 0), .int 0, .int 0, .int 0, .long 0, .int 0, .int 0, .int 0, .int 0, .int 0])) :: (a1, .inr (0, [.ref a2, .ref a3, .ref a4, .int x5, .int x6])) :: (a3, .inl (tp_ty E 6, 2, .inr (.inr (.inr (.inr f14))))) :: (a15, .inr (2, [.ref a17])) :: fr) := tp_mvD 5 rfl hD
  have hP : va_P (tp_D E) tp_cl ((a15, .inr (2, [.ref a17])) :: (a17, .inr (5, [.int x18, .ref (tp_ad E 100), .int x19])) :: (a2, .inr (1, [.ref a8, .int 0, .int x9, .int 0, .int 0, .int 0])) :: (q1, .inr (3, [.int 0, .ref (tp_ad E 0), .int 0, .int 0, .int 0, .long 0, .int 0, .int 0, .int 0, .int 0, .int 0])) :: (a1, .inr (0, [.ref a2, .ref a3, .ref a4, .int x5, .int x6])) :: (a3, .inl (tp_ty E 6, 2, .inr (.inr (.inr (.inr f14))))) :: fr) _ := tp_mvP 5 rfl hP
  have hD : va_D A ((a15, .inr (2, [.ref a17])) :: (a17, .inr (5, [.int x18, .ref (tp_ad E 100), .int x19])) :: (a2, .inr (1, [.ref a8, .int 0, .int x9, .int 0, .int 0, .int 0])) :: (q1, .inr (3, [.int 0, .ref (tp_ad E 0), .int 0, .int 0, .int 0, .long 0, .int 0, .int 0, .int 0, .int 0, .int 0])) :: (a1, .inr (0, [.ref a2, .ref a3, .ref a4, .int x5, .int x6])) :: (a3, .inl (tp_ty E 6, 2, .inr (.inr (.inr (.inr f14))))) :: fr) := tp_mvD 5 rfl hD
  refine tp_ci (tp_rV (As := []) (rest := []) ⟨hx, hb, hml, hown, htg⟩ (c_S_count_1 l E ((a2, .inr (1, [.ref a8, .int 0, .int x9, .int 0, .int 0, .int 0])) :: (q1, .inr (3, [.int 0, .ref (tp_ad E 0), .int 0, .int 0, .int 0, .long 0, .int 0, .int 0, .int 0, .int 0, .int 0])) :: (a1, .inr (0, [.ref a2, .ref a3, .ref a4, .int x5, .int x6])) :: (a3, .inl (tp_ty E 6, 2, .inr (.inr (.inr (.inr f14))))) :: fr) _ a15 a17 x18 x19 ) (⟨callB_of 0 htg (tp_good0 kc_S_count) rfl rfl rfl (htg _ ki_S) (htg _ kl_T_66) ⟨by decide, by decide, by decide +kernel⟩ ⟨Nat.le_of_ble_eq_true rfl, Nat.le_of_ble_eq_true rfl⟩, htg _ km_S_count, htg _ kv_S_S_count⟩) (va_recv (ci := 2) (q0 := 0) hK.1 hP rfl rfl) hK hP hD hS hA rfl hl.1 rfl (Nat.le_of_ble_eq_true rfl) d_T_line_27 ⟨Nat.le_of_ble_eq_true rfl, Nat.le_of_ble_eq_true rfl⟩) hD hS hA (fun r u H locs hw hP hD hS => ?_)
  subst r
  have hP : va_P (tp_D E) tp_cl ((a17, .inr (5, [.int x18, .ref (tp_ad E 100), .int x19])) :: (a15, .inr (2, [.ref a17])) :: (a2, .inr (1, [.ref a8, .int 0, .int x9, .int 0, .int 0, .int 0])) :: (q1, .inr (3, [.int 0, .ref (tp_ad E 0), .int 0, .int 0, .int 0, .long 0, .int 0, .int 0, .int 0, .int 0, .int 0])) :: (a1, .inr (0, [.ref a2, .ref a3, .ref a4, .int x5, .int x6])) :: (a3, .inl (tp_ty E 6, 2, .inr (.inr (.inr (.inr f14))))) :: fr) H := hP
  have hD : va_D A ((a17, .inr (5, [.int x18, .ref (tp_ad E 100), .int x19])) :: (a15, .inr (2, [.ref a17])) :: (a2, .inr (1, [.ref a8, .int 0, .int x9, .int 0, .int 0, .int 0])) :: (q1, .inr (3, [.int 0, .ref (tp_ad E 0), .int 0, .int 0, .int 0, .long 0, .int 0, .int 0, .int 0, .int 0, .int 0])) :: (a1, .inr (0, [.ref a2, .ref a3, .ref a4, .int x5, .int x6])) :: (a3, .inl (tp_ty E 6, 2, .inr (.inr (.inr (.inr f14))))) :: fr) := hD
  refine lv_bipush (v := 16) hx hb d_T_line_30 (by decide) ?_
  refine lv_icmp_lt (tgt := 43) hx hb d_T_line_32 (by decide) (fun _ => ?_) (fun h => absurd h7 h)
  refine lv_aload_n hx hb d_T_line_43 rfl (lv_at hl 1 rfl) ?_
  refine va_get (D := tp_D E) (ci := 3) (v := .int 0) (C := qR_N) (T := qF_N) (N := 11) hx hb htg qi_N hown hK.1 hP 3 rfl rfl 0 (by decide) (htg _ kl_T_69) (fun _ h => h) rfl d_T_line_44 ?_
  refine lv_if_eq (tgt := 70) hx hb d_T_line_47 (by decide) (fun _ => ?_) (fun h => absurd (by decide) h)
  refine lv_aload_n hx hb d_T_line_70 rfl (lv_at hl 0 rfl) ?_
  refine va_get (D := tp_D E) (ci := 2) (v := .ref a17) (C := qR_S) (T := qF_S) (N := 1) hx hb htg qi_S hown hK.1 hP 1 rfl rfl 0 (by decide) (htg _ kl_T_78) (fun _ h => h) rfl d_T_line_71 ?_
  refine lv_aload_n hx hb d_T_line_74 rfl (lv_at hl 1 rfl) ?_
  have hP : va_P (tp_D E) tp_cl ((q1, .inr (3, [.int 0, .ref (tp_ad E 0), .int 0, .int 0, .int 0, .long 0, .int 0, .int 0, .int 0, .int 0, .int 0])) :: (a17, .inr (5, [.int x18, .ref (tp_ad E 100), .int x19])) :: (a15, .inr (2, [.ref a17])) :: (a2, .inr (1, [.ref a8, .int 0, .int x9, .int 0, .int 0, .int 0])) :: (a1, .inr (0, [.ref a2, .ref a3, .ref a4, .int x5, .int x6])) :: (a3, .inl (tp_ty E 6, 2, .inr (.inr (.inr (.inr f14))))) :: fr) _ := tp_mvP 3 rfl hP
  have hD : va_D A ((q1, .inr (3, [.int 0, .ref (tp_ad E 0), .int 0, .int 0, .int 0, .long 0, .int 0, .int 0, .int 0, .int 0, .int 0])) :: (a17, .inr (5, [.int x18, .ref (tp_ad E 100), .int x19])) :: (a15, .inr (2, [.ref a17])) :: (a2, .inr (1, [.ref a8, .int 0, .int x9, .int 0, .int 0, .int 0])) :: (a1, .inr (0, [.ref a2, .ref a3, .ref a4, .int x5, .int x6])) :: (a3, .inl (tp_ty E 6, 2, .inr (.inr (.inr (.inr f14))))) :: fr) := tp_mvD 3 rfl hD
  have hP : va_P (tp_D E) tp_cl ((a17, .inr (5, [.int x18, .ref (tp_ad E 100), .int x19])) :: (q1, .inr (3, [.int 0, .ref (tp_ad E 0), .int 0, .int 0, .int 0, .long 0, .int 0, .int 0, .int 0, .int 0, .int 0])) :: (a15, .inr (2, [.ref a17])) :: (a2, .inr (1, [.ref a8, .int 0, .int x9, .int 0, .int 0, .int 0])) :: (a1, .inr (0, [.ref a2, .ref a3, .ref a4, .int x5, .int x6])) :: (a3, .inl (tp_ty E 6, 2, .inr (.inr (.inr (.inr f14))))) :: fr) _ := tp_mvP 1 rfl hP
  have hD : va_D A ((a17, .inr (5, [.int x18, .ref (tp_ad E 100), .int x19])) :: (q1, .inr (3, [.int 0, .ref (tp_ad E 0), .int 0, .int 0, .int 0, .long 0, .int 0, .int 0, .int 0, .int 0, .int 0])) :: (a15, .inr (2, [.ref a17])) :: (a2, .inr (1, [.ref a8, .int 0, .int x9, .int 0, .int 0, .int 0])) :: (a1, .inr (0, [.ref a2, .ref a3, .ref a4, .int x5, .int x6])) :: (a3, .inl (tp_ty E 6, 2, .inr (.inr (.inr (.inr f14))))) :: fr) := tp_mvD 1 rfl hD
  refine tp_ci (tp_rV (As := [.ref q1]) (rest := []) ⟨hx, hb, hml, hown, htg⟩ (c_AL_add_0_1 l E ((a15, .inr (2, [.ref a17])) :: (a2, .inr (1, [.ref a8, .int 0, .int x9, .int 0, .int 0, .int 0])) :: (a1, .inr (0, [.ref a2, .ref a3, .ref a4, .int x5, .int x6])) :: (a3, .inl (tp_ty E 6, 2, .inr (.inr (.inr (.inr f14))))) :: fr) _ a17 q1 x18 x19 0 0 0 0 0 0 0 0 0 0 h8 h9 h10) (⟨callB_of 1 htg (tp_good0 kc_AL_add_0) rfl rfl rfl (htg _ ki_AL) (htg _ kl_T_82) ⟨by decide, by decide, by decide +kernel⟩ ⟨Nat.le_of_ble_eq_true rfl, Nat.le_of_ble_eq_true rfl⟩, htg _ km_AL_add_0, htg _ kv_AL_AL_add_0⟩) (va_recv (ci := 5) (q0 := 0) hK.1 hP rfl rfl) hK hP hD hS hA rfl hl.1 rfl (Nat.le_of_ble_eq_true rfl) d_T_line_75 ⟨Nat.le_of_ble_eq_true rfl, Nat.le_of_ble_eq_true rfl⟩) hD hS hA (fun r u H locs hw hP hD hS => ?_)
  generalize u = q2 at hP hD ⊢
  subst r
  have hP : va_P (tp_D E) tp_cl ((q2, .inl (tp_ty E 5, 10, .inr (.inr (.inr (.inr (va_up (fun _ => none) x19.toNatClampNeg (some q1))))))) :: (a17, .inr (5, [.int (x18 + 1), .ref q2, .int (x19 + 1)])) :: (q1, .inr (3, [.int 0, .ref (tp_ad E 0), .int 0, .int 0, .int 0, .long 0, .int 0, .int 0, .int 0, .int 0, .int 0])) :: (a15, .inr (2, [.ref a17])) :: (a2, .inr (1, [.ref a8, .int 0, .int x9, .int 0, .int 0, .int 0])) :: (a1, .inr (0, [.ref a2, .ref a3, .ref a4, .int x5, .int x6])) :: (a3, .inl (tp_ty E 6, 2, .inr (.inr (.inr (.inr f14))))) :: fr) H := hP
  have hD : va_D A ((q2, .inl (tp_ty E 5, 10, .inr (.inr (.inr (.inr (va_up (fun _ => none) x19.toNatClampNeg (some q1))))))) :: (a17, .inr (5, [.int (x18 + 1), .ref q2, .int (x19 + 1)])) :: (q1, .inr (3, [.int 0, .ref (tp_ad E 0), .int 0, .int 0, .int 0, .long 0, .int 0, .int 0, .int 0, .int 0, .int 0])) :: (a15, .inr (2, [.ref a17])) :: (a2, .inr (1, [.ref a8, .int 0, .int x9, .int 0, .int 0, .int 0])) :: (a1, .inr (0, [.ref a2, .ref a3, .ref a4, .int x5, .int x6])) :: (a3, .inl (tp_ty E 6, 2, .inr (.inr (.inr (.inr f14))))) :: fr) := hD
  refine lv_pop hx hb d_T_line_78 rfl ?_
  refine lv_aload_n hx hb d_T_line_79 rfl (lv_at hl 2 rfl) ?_
  refine lv_iconst (v := 0) hx hb d_T_line_80 (by decide) ?_
  refine va_put (D := tp_D E) (ci := 0) (v := .int 0) (ty := .boolean) (C := qR_T) (T := qF_T) (N := 5) hx hb htg qi_T qt_T qt_T_ok qn_T hown hK.1 hP hD hS 5 rfl rfl 3 (by decide) (htg _ kl_T_30) (fun _ h => h) rfl (by decide +kernel) rfl rfl (Nat.le_of_ble_eq_true rfl) d_T_line_81 (fun H locs hP hD hS => ?_)
  have hP : va_P (tp_D E) tp_cl ((q2, .inl (tp_ty E 5, 10, .inr (.inr (.inr (.inr (va_up (fun _ => none) x19.toNatClampNeg (some q1))))))) :: (a17, .inr (5, [.int (x18 + 1), .ref q2, .int (x19 + 1)])) :: (q1, .inr (3, [.int 0, .ref (tp_ad E 0), .int 0, .int 0, .int 0, .long 0, .int 0, .int 0, .int 0, .int 0, .int 0])) :: (a15, .inr (2, [.ref a17])) :: (a2, .inr (1, [.ref a8, .int 0, .int x9, .int 0, .int 0, .int 0])) :: (a1, .inr (0, [.ref a2, .ref a3, .ref a4, .int 0, .int x6])) :: (a3, .inl (tp_ty E 6, 2, .inr (.inr (.inr (.inr f14))))) :: fr) H := hP
  have hD : va_D A ((q2, .inl (tp_ty E 5, 10, .inr (.inr (.inr (.inr (va_up (fun _ => none) x19.toNatClampNeg (some q1))))))) :: (a17, .inr (5, [.int (x18 + 1), .ref q2, .int (x19 + 1)])) :: (q1, .inr (3, [.int 0, .ref (tp_ad E 0), .int 0, .int 0, .int 0, .long 0, .int 0, .int 0, .int 0, .int 0, .int 0])) :: (a15, .inr (2, [.ref a17])) :: (a2, .inr (1, [.ref a8, .int 0, .int x9, .int 0, .int 0, .int 0])) :: (a1, .inr (0, [.ref a2, .ref a3, .ref a4, .int 0, .int x6])) :: (a3, .inl (tp_ty E 6, 2, .inr (.inr (.inr (.inr f14))))) :: fr) := hD
  refine lv_aload_n hx hb d_T_line_84 rfl (lv_at hl 0 rfl) ?_
  have hP : va_P (tp_D E) tp_cl ((a17, .inr (5, [.int (x18 + 1), .ref q2, .int (x19 + 1)])) :: (q2, .inl (tp_ty E 5, 10, .inr (.inr (.inr (.inr (va_up (fun _ => none) x19.toNatClampNeg (some q1))))))) :: (q1, .inr (3, [.int 0, .ref (tp_ad E 0), .int 0, .int 0, .int 0, .long 0, .int 0, .int 0, .int 0, .int 0, .int 0])) :: (a15, .inr (2, [.ref a17])) :: (a2, .inr (1, [.ref a8, .int 0, .int x9, .int 0, .int 0, .int 0])) :: (a1, .inr (0, [.ref a2, .ref a3, .ref a4, .int 0, .int x6])) :: (a3, .inl (tp_ty E 6, 2, .inr (.inr (.inr (.inr f14))))) :: fr) _ := tp_mvP 1 rfl hP
  have hD : va_D A ((a17, .inr (5, [.int (x18 + 1), .ref q2, .int (x19 + 1)])) :: (q2, .inl (tp_ty E 5, 10, .inr (.inr (.inr (.inr (va_up (fun _ => none) x19.toNatClampNeg (some q1))))))) :: (q1, .inr (3, [.int 0, .ref (tp_ad E 0), .int 0, .int 0, .int 0, .long 0, .int 0, .int 0, .int 0, .int 0, .int 0])) :: (a15, .inr (2, [.ref a17])) :: (a2, .inr (1, [.ref a8, .int 0, .int x9, .int 0, .int 0, .int 0])) :: (a1, .inr (0, [.ref a2, .ref a3, .ref a4, .int 0, .int x6])) :: (a3, .inl (tp_ty E 6, 2, .inr (.inr (.inr (.inr f14))))) :: fr) := tp_mvD 1 rfl hD
  have hP : va_P (tp_D E) tp_cl ((a15, .inr (2, [.ref a17])) :: (a17, .inr (5, [.int (x18 + 1), .ref q2, .int (x19 + 1)])) :: (q2, .inl (tp_ty E 5, 10, .inr (.inr (.inr (.inr (va_up (fun _ => none) x19.toNatClampNeg (some q1))))))) :: (q1, .inr (3, [.int 0, .ref (tp_ad E 0), .int 0, .int 0, .int 0, .long 0, .int 0, .int 0, .int 0, .int 0, .int 0])) :: (a2, .inr (1, [.ref a8, .int 0, .int x9, .int 0, .int 0, .int 0])) :: (a1, .inr (0, [.ref a2, .ref a3, .ref a4, .int 0, .int x6])) :: (a3, .inl (tp_ty E 6, 2, .inr (.inr (.inr (.inr f14))))) :: fr) _ := tp_mvP 3 rfl hP
  have hD : va_D A ((a15, .inr (2, [.ref a17])) :: (a17, .inr (5, [.int (x18 + 1), .ref q2, .int (x19 + 1)])) :: (q2, .inl (tp_ty E 5, 10, .inr (.inr (.inr (.inr (va_up (fun _ => none) x19.toNatClampNeg (some q1))))))) :: (q1, .inr (3, [.int 0, .ref (tp_ad E 0), .int 0, .int 0, .int 0, .long 0, .int 0, .int 0, .int 0, .int 0, .int 0])) :: (a2, .inr (1, [.ref a8, .int 0, .int x9, .int 0, .int 0, .int 0])) :: (a1, .inr (0, [.ref a2, .ref a3, .ref a4, .int 0, .int x6])) :: (a3, .inl (tp_ty E 6, 2, .inr (.inr (.inr (.inr f14))))) :: fr) := tp_mvD 3 rfl hD
  refine tp_ci (tp_rV (As := []) (rest := []) ⟨hx, hb, hml, hown, htg⟩ (c_S_count_2 l E ((q2, .inl (tp_ty E 5, 10, .inr (.inr (.inr (.inr (va_up (fun _ => none) x19.toNatClampNeg (some q1))))))) :: (q1, .inr (3, [.int 0, .ref (tp_ad E 0), .int 0, .int 0, .int 0, .long 0, .int 0, .int 0, .int 0, .int 0, .int 0])) :: (a2, .inr (1, [.ref a8, .int 0, .int x9, .int 0, .int 0, .int 0])) :: (a1, .inr (0, [.ref a2, .ref a3, .ref a4, .int 0, .int x6])) :: (a3, .inl (tp_ty E 6, 2, .inr (.inr (.inr (.inr f14))))) :: fr) _ a15 a17 (x18 + 1) q2 (x19 + 1) ) (⟨callB_of 0 htg (tp_good0 kc_S_count) rfl rfl rfl (htg _ ki_S) (htg _ kl_T_66) ⟨by decide, by decide, by decide +kernel⟩ ⟨Nat.le_of_ble_eq_true rfl, Nat.le_of_ble_eq_true rfl⟩, htg _ km_S_count, htg _ kv_S_S_count⟩) (va_recv (ci := 2) (q0 := 0) hK.1 hP rfl rfl) hK hP hD hS hA rfl hl.1 rfl (Nat.le_of_ble_eq_true rfl) d_T_line_85 ⟨Nat.le_of_ble_eq_true rfl, Nat.le_of_ble_eq_true rfl⟩) hD hS hA (fun r u H locs hw hP hD hS => ?_)
  subst r
  have hP : va_P (tp_D E) tp_cl ((a17, .inr (5, [.int (x18 + 1), .ref q2, .int (x19 + 1)])) :: (a15, .inr (2, [.ref a17])) :: (q2, .inl (tp_ty E 5, 10, .inr (.inr (.inr (.inr (va_up (fun _ => none) x19.toNatClampNeg (some q1))))))) :: (q1, .inr (3, [.int 0, .ref (tp_ad E 0), .int 0, .int 0, .int 0, .long 0, .int 0, .int 0, .int 0, .int 0, .int 0])) :: (a2, .inr (1, [.ref a8, .int 0, .int x9, .int 0, .int 0, .int 0])) :: (a1, .inr (0, [.ref a2, .ref a3, .ref a4, .int 0, .int x6])) :: (a3, .inl (tp_ty E 6, 2, .inr (.inr (.inr (.inr f14))))) :: fr) H := hP
  have hD : va_D A ((a17, .inr (5, [.int (x18 + 1), .ref q2, .int (x19 + 1)])) :: (a15, .inr (2, [.ref a17])) :: (q2, .inl (tp_ty E 5, 10, .inr (.inr (.inr (.inr (va_up (fun _ => none) x19.toNatClampNeg (some q1))))))) :: (q1, .inr (3, [.int 0, .ref (tp_ad E 0), .int 0, .int 0, .int 0, .long 0, .int 0, .int 0, .int 0, .int 0, .int 0])) :: (a2, .inr (1, [.ref a8, .int 0, .int x9, .int 0, .int 0, .int 0])) :: (a1, .inr (0, [.ref a2, .ref a3, .ref a4, .int 0, .int x6])) :: (a3, .inl (tp_ty E 6, 2, .inr (.inr (.inr (.inr f14))))) :: fr) := hD
  exact W.iret (v := (x19 + 1)) hx hb hr (fun t ht hW => ⟨⟨_, (q1, q2), rfl, rfl, by rw [ht]; exact hP, hD⟩, hS.F ht⟩) hS.2.2 d_T_line_88
set_option maxHeartbeats 400000 in
set_option maxRecDepth 100000 in
theorem c_T_line_4 (l : Launch) (E : tp_Env) (fr : va_W) (sz : Nat) (a1 : Nat) (a2 : Nat) (a3 : Nat) (a4 : Nat) (x5 : Int32) (x6 : Int32) (x7 : Int32) (a8 : Nat) (x9 : Int32) (x10 : Int32) (x11 : Int32) (x12 : Int32) (x13 : Int32) (f14 : Nat → Option Nat) (a15 : Nat) (a16 : Nat) (a17 : Nat) (x18 : Int32) (x19 : Int32) (h1 : ¬ x7 < 0) (h2 : ¬ 2 ≤ x7) (h3 : x9 ≤ 0) (h4 : f14 0 = some a15) (h5 : f14 1 = some a16) (h6 : ¬ x7 = 0) (h7 : x19 < 16) (h8 : x19 = 0) (h9 : ¬ 10 < (x19 + 1)) (h10 : vp_in x19 10) : Met l y_T_line w_T_line ({ frames := 5, cells := 2, slots := 21, locals := 108 }) (va_Pc [.ref a1, .int x7] (tp_in E ((a1, .inr (0, [.ref a2, .ref a3, .ref a4, .int x5, .int x6])) :: (a2, .inr (1, [.ref a8, .int x9, .int x10, .int x11, .int x12, .int x13])) :: (a3, .inl (tp_ty E 6, 2, .inr (.inr (.inr (.inr f14))))) :: (a16, .inr (2, [.ref a17])) :: (a17, .inr (5, [.int x18, .ref (tp_ad E 100), .int x19])) :: fr) sz)) (va_Qi (fun r (u : Nat × Nat) => r = (x19 + 1)) (fun u t => tp_out E (va_A ((a1, .inr (0, [.ref a2, .ref a3, .ref a4, .int x5, .int x6])) :: (a2, .inr (1, [.ref a8, .int x9, .int x10, .int x11, .int x12, .int x13])) :: (a3, .inl (tp_ty E 6, 2, .inr (.inr (.inr (.inr f14))))) :: (a16, .inr (2, [.ref a17])) :: (a17, .inr (5, [.int x18, .ref (tp_ad E 100), .int x19])) :: fr) sz) ((a17, .inr (5, [.int (x18 + 1), .ref u.2, .int (x19 + 1)])) :: (a16, .inr (2, [.ref a17])) :: (u.2, .inl (tp_ty E 5, 10, .inr (.inr (.inr (.inr (va_up (fun _ => none) x19.toNatClampNeg (some u.1))))))) :: (u.1, .inr (3, [.int 0, .ref (tp_ad E 0), .int 0, .int 0, .int 0, .long 0, .int 0, .int 0, .int 0, .int 0, .int 0])) :: (a2, .inr (1, [.ref a8, .int 0, .int x9, .int 0, .int 0, .int 0])) :: (a1, .inr (0, [.ref a2, .ref a3, .ref a4, .int 0, .int x6])) :: (a3, .inl (tp_ty E 6, 2, .inr (.inr (.inr (.inr f14))))) :: fr) t) (va_A ((a1, .inr (0, [.ref a2, .ref a3, .ref a4, .int x5, .int x6])) :: (a2, .inr (1, [.ref a8, .int x9, .int x10, .int x11, .int x12, .int x13])) :: (a3, .inl (tp_ty E 6, 2, .inr (.inr (.inr (.inr f14))))) :: (a16, .inr (2, [.ref a17])) :: (a17, .inr (5, [.int x18, .ref (tp_ad E 100), .int x19])) :: fr) sz)) 2 21 (va_A ((a1, .inr (0, [.ref a2, .ref a3, .ref a4, .int x5, .int x6])) :: (a2, .inr (1, [.ref a8, .int x9, .int x10, .int x11, .int x12, .int x13])) :: (a3, .inl (tp_ty E 6, 2, .inr (.inr (.inr (.inr f14))))) :: (a16, .inr (2, [.ref a17])) :: (a17, .inr (5, [.int x18, .ref (tp_ad E 100), .int x19])) :: fr) sz) := by
  refine Met.ofW (cc := b_T_line) (maxL := 4) (ret := (some .int)) (by decide) rfl ?_
  intro p e s m args below meth c s₁ B hml hv
  obtain ⟨rfl, hsz, hP, hK, hD0⟩ := hv
  have hx := B.exec
  have hb := B.bytes
  have hr := B.returns
  have htg : ∀ w ∈ tp_G, w.before ([.ref a1, .int x7] : List Value).toArray s = true := fun w h => atoms_spec (ws := w_T_line) B.pre w (List.mem_cons_of_mem _ h)
  have hown : s.vm.findClass "TwoPass" = some m.cls := findClass_of_methodNamed B.named
  have hlocks := B.notSynchronized
  subst hsz
  have hD := hD0.self (sz := s.heap.size)
  generalize hAe : va_A ((a1, .inr (0, [.ref a2, .ref a3, .ref a4, .int x5, .int x6])) :: (a2, .inr (1, [.ref a8, .int x9, .int x10, .int x11, .int x12, .int x13])) :: (a3, .inl (tp_ty E 6, 2, .inr (.inr (.inr (.inr f14))))) :: (a16, .inr (2, [.ref a17])) :: (a17, .inr (5, [.int x18, .ref (tp_ad E 100), .int x19])) :: fr) s.heap.size = A at hD hK ⊢
  have hA : ∀ q : Nat, s.heap.size ≤ q → A q := fun q h => by rw [← hAe]; exact Or.inr h
  have hS : va_S A s.heap s.heap [] := va_S.rf
  have hl := lv_entry ([.ref a1, .int x7]) (n := 4) (Nat.le_of_ble_eq_true rfl)
  rw [lg_entry_eq]
  generalize (lg_sl ([.ref a1, .int x7]) ++ List.replicate (4 - (lg_sl ([.ref a1, .int x7])).length) Slot.unset).toArray = ls at hl ⊢
  have hl : lv_has ls 4 [(0, .ref a1), (1, .int x7)] := hl
  refine lv_aload_n hx hb d_T_line_0 rfl (lv_at hl 0 rfl) ?_
  refine va_get (D := tp_D E) (ci := 0) (v := .ref a2) (C := qR_T) (T := qF_T) (N := 5) hx hb htg qi_T hown hK.1 hP 0 rfl rfl 0 (by decide) (htg _ kl_T_10) (fun _ h => h) rfl d_T_line_1 ?_
  have hP : va_P (tp_D E) tp_cl ((a2, .inr (1, [.ref a8, .int x9, .int x10, .int x11, .int x12, .int x13])) :: (a1, .inr (0, [.ref a2, .ref a3, .ref a4, .int x5, .int x6])) :: (a3, .inl (tp_ty E 6, 2, .inr (.inr (.inr (.inr f14))))) :: (a16, .inr (2, [.ref a17])) :: (a17, .inr (5, [.int x18, .ref (tp_ad E 100), .int x19])) :: fr) _ := tp_mvP 1 rfl hP
  have hD : va_D A ((a2, .inr (1, [.ref a8, .int x9, .int x10, .int x11, .int x12, .int x13])) :: (a1, .inr (0, [.ref a2, .ref a3, .ref a4, .int x5, .int x6])) :: (a3, .inl (tp_ty E 6, 2, .inr (.inr (.inr (.inr f14))))) :: (a16, .inr (2, [.ref a17])) :: (a17, .inr (5, [.int x18, .ref (tp_ad E 100), .int x19])) :: fr) := tp_mvD 1 rfl hD
  refine tp_cv (tp_rV (As := []) (rest := []) ⟨hx, hb, hml, hown, htg⟩ (c_Y_take_1 l E ((a1, .inr (0, [.ref a2, .ref a3, .ref a4, .int x5, .int x6])) :: (a3, .inl (tp_ty E 6, 2, .inr (.inr (.inr (.inr f14))))) :: (a16, .inr (2, [.ref a17])) :: (a17, .inr (5, [.int x18, .ref (tp_ad E 100), .int x19])) :: fr) _ a2 a8 x9 x10 x11 x12 x13 ) (⟨callB_of 0 htg (tp_good0 kc_Y_take) rfl rfl rfl (htg _ ki_Y) (htg _ kl_T_55) ⟨by decide, by decide, by decide +kernel⟩ ⟨Nat.le_of_ble_eq_true rfl, Nat.le_of_ble_eq_true rfl⟩, htg _ km_Y_take, htg _ kv_Y_Y_take⟩) (va_recv (ci := 1) (q0 := 0) hK.1 hP rfl rfl) hK hP hD hS hA rfl hl.1 rfl (Nat.le_of_ble_eq_true rfl) d_T_line_4 ⟨Nat.le_of_ble_eq_true rfl, Nat.le_of_ble_eq_true rfl⟩) hD hS hA (fun u H locs _ hP hD hS => ?_)
  have hP : va_P (tp_D E) tp_cl ((a2, .inr (1, [.ref a8, .int 0, .int x9, .int 0, .int x12, .int x13])) :: (a1, .inr (0, [.ref a2, .ref a3, .ref a4, .int x5, .int x6])) :: (a3, .inl (tp_ty E 6, 2, .inr (.inr (.inr (.inr f14))))) :: (a16, .inr (2, [.ref a17])) :: (a17, .inr (5, [.int x18, .ref (tp_ad E 100), .int x19])) :: fr) H := hP
  have hD : va_D A ((a2, .inr (1, [.ref a8, .int 0, .int x9, .int 0, .int x12, .int x13])) :: (a1, .inr (0, [.ref a2, .ref a3, .ref a4, .int x5, .int x6])) :: (a3, .inl (tp_ty E 6, 2, .inr (.inr (.inr (.inr f14))))) :: (a16, .inr (2, [.ref a17])) :: (a17, .inr (5, [.int x18, .ref (tp_ad E 100), .int x19])) :: fr) := hD
  refine lv_iload_n hx hb d_T_line_7 rfl (lv_at hl 1 rfl) ?_
  refine tp_cv (tp_rS (As := [.int x7]) (rest := []) ⟨hx, hb, hml, hown, htg⟩ (c_T_requireModule_3 l E ((a2, .inr (1, [.ref a8, .int 0, .int x9, .int 0, .int x12, .int x13])) :: (a1, .inr (0, [.ref a2, .ref a3, .ref a4, .int x5, .int x6])) :: (a3, .inl (tp_ty E 6, 2, .inr (.inr (.inr (.inr f14))))) :: (a16, .inr (2, [.ref a17])) :: (a17, .inr (5, [.int x18, .ref (tp_ad E 100), .int x19])) :: fr) _ x7 h1 h2) (⟨callB_of 1 htg (tp_good0 kc_T_requireModule) rfl rfl rfl (htg _ ki_T) (htg _ kl_T_58) ⟨by decide, by decide, by decide +kernel⟩ ⟨Nat.le_of_ble_eq_true rfl, Nat.le_of_ble_eq_true rfl⟩, htg _ ks_T_requireModule⟩) hK hP hD hS hA rfl hl.1 rfl (Nat.le_of_ble_eq_true rfl) d_T_line_8 ⟨Nat.le_of_ble_eq_true rfl, Nat.le_of_ble_eq_true rfl⟩) hD hS hA (fun u H locs _ hP hD hS => ?_)
  have hP : va_P (tp_D E) tp_cl ((a2, .inr (1, [.ref a8, .int 0, .int x9, .int 0, .int x12, .int x13])) :: (a1, .inr (0, [.ref a2, .ref a3, .ref a4, .int x5, .int x6])) :: (a3, .inl (tp_ty E 6, 2, .inr (.inr (.inr (.inr f14))))) :: (a16, .inr (2, [.ref a17])) :: (a17, .inr (5, [.int x18, .ref (tp_ad E 100), .int x19])) :: fr) H := hP
  have hD : va_D A ((a2, .inr (1, [.ref a8, .int 0, .int x9, .int 0, .int x12, .int x13])) :: (a1, .inr (0, [.ref a2, .ref a3, .ref a4, .int x5, .int x6])) :: (a3, .inl (tp_ty E 6, 2, .inr (.inr (.inr (.inr f14))))) :: (a16, .inr (2, [.ref a17])) :: (a17, .inr (5, [.int x18, .ref (tp_ad E 100), .int x19])) :: fr) := hD
  refine lv_aload_n hx hb d_T_line_11 rfl (lv_at hl 0 rfl) ?_
  refine va_get (D := tp_D E) (ci := 0) (v := .ref a2) (C := qR_T) (T := qF_T) (N := 5) hx hb htg qi_T hown hK.1 hP 1 rfl rfl 0 (by decide) (htg _ kl_T_10) (fun _ h => h) rfl d_T_line_12 ?_
  refine tp_cr (tp_rV (As := []) (rest := []) ⟨hx, hb, hml, hown, htg⟩ (c_Y_read_1 l E ((a1, .inr (0, [.ref a2, .ref a3, .ref a4, .int x5, .int x6])) :: (a3, .inl (tp_ty E 6, 2, .inr (.inr (.inr (.inr f14))))) :: (a16, .inr (2, [.ref a17])) :: (a17, .inr (5, [.int x18, .ref (tp_ad E 100), .int x19])) :: fr) _ a2 a8 0 x9 0 x12 x13 h3 (by decide)) (⟨callB_of 0 htg (tp_good0 kc_Y_read) rfl rfl rfl (htg _ ki_Y) (htg _ kl_T_62) ⟨by decide, by decide, by decide +kernel⟩ ⟨Nat.le_of_ble_eq_true rfl, Nat.le_of_ble_eq_true rfl⟩, htg _ km_Y_read, htg _ kv_Y_Y_read⟩) (va_recv (ci := 1) (q0 := 0) hK.1 hP rfl rfl) hK hP hD hS hA rfl hl.1 rfl (Nat.le_of_ble_eq_true rfl) d_T_line_15 ⟨Nat.le_of_ble_eq_true rfl, Nat.le_of_ble_eq_true rfl⟩) hD hS hA (fun u H locs _ hP hD hS => ?_)
  generalize u = q1 at hP hD ⊢
  have hP : va_P (tp_D E) tp_cl ((a2, .inr (1, [.ref a8, .int 0, .int x9, .int 0, .int 0, .int 0])) :: (q1, .inr (3, [.int 0, .ref (tp_ad E 0), .int 0, .int 0, .int 0, .long 0, .int 0, .int 0, .int 0, .int 0, .int 0])) :: (a1, .inr (0, [.ref a2, .ref a3, .ref a4, .int x5, .int x6])) :: (a3, .inl (tp_ty E 6, 2, .inr (.inr (.inr (.inr f14))))) :: (a16, .inr (2, [.ref a17])) :: (a17, .inr (5, [.int x18, .ref (tp_ad E 100), .int x19])) :: fr) H := hP
  have hD : va_D A ((a2, .inr (1, [.ref a8, .int 0, .int x9, .int 0, .int 0, .int 0])) :: (q1, .inr (3, [.int 0, .ref (tp_ad E 0), .int 0, .int 0, .int 0, .long 0, .int 0, .int 0, .int 0, .int 0, .int 0])) :: (a1, .inr (0, [.ref a2, .ref a3, .ref a4, .int x5, .int x6])) :: (a3, .inl (tp_ty E 6, 2, .inr (.inr (.inr (.inr f14))))) :: (a16, .inr (2, [.ref a17])) :: (a17, .inr (5, [.int x18, .ref (tp_ad E 100), .int x19])) :: fr) := hD
  refine lv_astore_n (lv' := [(2, .ref q1), (0, .ref a1), (1, .int x7)]) hx hb d_T_line_18 rfl hl (by decide) rfl (fun ls hl => ?_)
  refine lv_aload_n hx hb d_T_line_19 rfl (lv_at hl 1 rfl) ?_
  refine va_get (D := tp_D E) (ci := 0) (v := .ref a3) (C := qR_T) (T := qF_T) (N := 5) hx hb htg qi_T hown hK.1 hP 2 rfl rfl 1 (by decide) (htg _ kl_T_19) (fun _ h => h) rfl d_T_line_20 ?_
  refine lv_iload_n hx hb d_T_line_23 rfl (lv_at hl 2 rfl) ?_
  refine va_aldq (D := tp_D E) hx hb hK.1 hP 3 6 rfl rfl (tp_vin (k := 2) h1 h2 (by decide) (by decide)) d_T_line_24 ?_
  refine tp_topr (k := 1) (a := a16) (by rw [tp_one h1 h2 h6]; rfl) h5 ?_
  refine lv_astore_n (lv' := [(3, .ref a16), (2, .ref q1), (0, .ref a1), (1, .int x7)]) hx hb d_T_line_25 rfl hl (by decide) rfl (fun ls hl => ?_)
  refine lv_aload_n hx hb d_T_line_26 rfl (lv_at hl 0 rfl) ?_
  have hP : va_P (tp_D E) tp_cl ((a17, .inr (5, [.int x18, .ref (tp_ad E 100), .int x19])) :: (a2, .inr (1, [.ref a8, .int 0, .int x9, .int 0, .int 0, .int 0])) :: (q1, .inr (3, [.int 0, .ref (tp_ad E 0), .int 0, .int 0, .int 0, .long 0, .int 0, .int 0, .int 0, .int 0, .int 0])) :: (a1, .inr (0, [.ref a2, .ref a3, .ref a4, .int x5, .int x6])) :: (a3, .inl (tp_ty E 6, 2, .inr (.inr (.inr (.inr f14))))) :: (a16, .inr (2, [.ref a17])) :: fr) _ := tp_mvP 5 rfl hP
  have hD : va_D A ((a17, .inr (5, [.int x18, .ref (tp_ad E 100), .int x19])) :: (a2, .inr (1, [.ref a8, .int 0, .int x9, .int 0, .int 0, .int 0])) :: (q1, .inr (3, [.int 0, .ref (tp_ad E 0), .int 0, .int 0, .int 0, .long 0, .int 0, .int 0, .int 0, .int 0, .int 0])) :: (a1, .inr (0, [.ref a2, .ref a3, .ref a4, .int x5, .int x6])) :: (a3, .inl (tp_ty E 6, 2, .inr (.inr (.inr (.inr f14))))) :: (a16, .inr (2, [.ref a17])) :: fr) := tp_mvD 5 rfl hD
  have hP : va_P (tp_D E) tp_cl ((a16, .inr (2, [.ref a17])) :: (a17, .inr (5, [.int x18, .ref (tp_ad E 100), .int x19])) :: (a2, .inr (1, [.ref a8, .int 0, .int x9, .int 0, .int 0, .int 0])) :: (q1, .inr (3, [.int 0, .ref (tp_ad E 0), .int 0, .int 0, .int 0, .long 0, .int 0, .int 0, .int 0, .int 0, .int 0])) :: (a1, .inr (0, [.ref a2, .ref a3, .ref a4, .int x5, .int x6])) :: (a3, .inl (tp_ty E 6, 2, .inr (.inr (.inr (.inr f14))))) :: fr) _ := tp_mvP 5 rfl hP
  have hD : va_D A ((a16, .inr (2, [.ref a17])) :: (a17, .inr (5, [.int x18, .ref (tp_ad E 100), .int x19])) :: (a2, .inr (1, [.ref a8, .int 0, .int x9, .int 0, .int 0, .int 0])) :: (q1, .inr (3, [.int 0, .ref (tp_ad E 0), .int 0, .int 0, .int 0, .long 0, .int 0, .int 0, .int 0, .int 0, .int 0])) :: (a1, .inr (0, [.ref a2, .ref a3, .ref a4, .int x5, .int x6])) :: (a3, .inl (tp_ty E 6, 2, .inr (.inr (.inr (.inr f14))))) :: fr) := tp_mvD 5 rfl hD
  refine tp_ci (tp_rV (As := []) (rest := []) ⟨hx, hb, hml, hown, htg⟩ (c_S_count_1 l E ((a2, .inr (1, [.ref a8, .int 0, .int x9, .int 0, .int 0, .int 0])) :: (q1, .inr (3, [.int 0, .ref (tp_ad E 0), .int 0, .int 0, .int 0, .long 0, .int 0, .int 0, .int 0, .int 0, .int 0])) :: (a1, .inr (0, [.ref a2, .ref a3, .ref a4, .int x5, .int x6])) :: (a3, .inl (tp_ty E 6, 2, .inr (.inr (.inr (.inr f14))))) :: fr) _ a16 a17 x18 x19 ) (⟨callB_of 0 htg (tp_good0 kc_S_count) rfl rfl rfl (htg _ ki_S) (htg _ kl_T_66) ⟨by decide, by decide, by decide +kernel⟩ ⟨Nat.le_of_ble_eq_true rfl, Nat.le_of_ble_eq_true rfl⟩, htg _ km_S_count, htg _ kv_S_S_count⟩) (va_recv (ci := 2) (q0 := 0) hK.1 hP rfl rfl) hK hP hD hS hA rfl hl.1 rfl (Nat.le_of_ble_eq_true rfl) d_T_line_27 ⟨Nat.le_of_ble_eq_true rfl, Nat.le_of_ble_eq_true rfl⟩) hD hS hA (fun r u H locs hw hP hD hS => ?_)
  subst r
  have hP : va_P (tp_D E) tp_cl ((a17, .inr (5, [.int x18, .ref (tp_ad E 100), .int x19])) :: (a16, .inr (2, [.ref a17])) :: (a2, .inr (1, [.ref a8, .int 0, .int x9, .int 0, .int 0, .int 0])) :: (q1, .inr (3, [.int 0, .ref (tp_ad E 0), .int 0, .int 0, .int 0, .long 0, .int 0, .int 0, .int 0, .int 0, .int 0])) :: (a1, .inr (0, [.ref a2, .ref a3, .ref a4, .int x5, .int x6])) :: (a3, .inl (tp_ty E 6, 2, .inr (.inr (.inr (.inr f14))))) :: fr) H := hP
  have hD : va_D A ((a17, .inr (5, [.int x18, .ref (tp_ad E 100), .int x19])) :: (a16, .inr (2, [.ref a17])) :: (a2, .inr (1, [.ref a8, .int 0, .int x9, .int 0, .int 0, .int 0])) :: (q1, .inr (3, [.int 0, .ref (tp_ad E 0), .int 0, .int 0, .int 0, .long 0, .int 0, .int 0, .int 0, .int 0, .int 0])) :: (a1, .inr (0, [.ref a2, .ref a3, .ref a4, .int x5, .int x6])) :: (a3, .inl (tp_ty E 6, 2, .inr (.inr (.inr (.inr f14))))) :: fr) := hD
  refine lv_bipush (v := 16) hx hb d_T_line_30 (by decide) ?_
  refine lv_icmp_lt (tgt := 43) hx hb d_T_line_32 (by decide) (fun _ => ?_) (fun h => absurd h7 h)
  refine lv_aload_n hx hb d_T_line_43 rfl (lv_at hl 1 rfl) ?_
  refine va_get (D := tp_D E) (ci := 3) (v := .int 0) (C := qR_N) (T := qF_N) (N := 11) hx hb htg qi_N hown hK.1 hP 3 rfl rfl 0 (by decide) (htg _ kl_T_69) (fun _ h => h) rfl d_T_line_44 ?_
  refine lv_if_eq (tgt := 70) hx hb d_T_line_47 (by decide) (fun _ => ?_) (fun h => absurd (by decide) h)
  refine lv_aload_n hx hb d_T_line_70 rfl (lv_at hl 0 rfl) ?_
  refine va_get (D := tp_D E) (ci := 2) (v := .ref a17) (C := qR_S) (T := qF_S) (N := 1) hx hb htg qi_S hown hK.1 hP 1 rfl rfl 0 (by decide) (htg _ kl_T_78) (fun _ h => h) rfl d_T_line_71 ?_
  refine lv_aload_n hx hb d_T_line_74 rfl (lv_at hl 1 rfl) ?_
  have hP : va_P (tp_D E) tp_cl ((q1, .inr (3, [.int 0, .ref (tp_ad E 0), .int 0, .int 0, .int 0, .long 0, .int 0, .int 0, .int 0, .int 0, .int 0])) :: (a17, .inr (5, [.int x18, .ref (tp_ad E 100), .int x19])) :: (a16, .inr (2, [.ref a17])) :: (a2, .inr (1, [.ref a8, .int 0, .int x9, .int 0, .int 0, .int 0])) :: (a1, .inr (0, [.ref a2, .ref a3, .ref a4, .int x5, .int x6])) :: (a3, .inl (tp_ty E 6, 2, .inr (.inr (.inr (.inr f14))))) :: fr) _ := tp_mvP 3 rfl hP
  have hD : va_D A ((q1, .inr (3, [.int 0, .ref (tp_ad E 0), .int 0, .int 0, .int 0, .long 0, .int 0, .int 0, .int 0, .int 0, .int 0])) :: (a17, .inr (5, [.int x18, .ref (tp_ad E 100), .int x19])) :: (a16, .inr (2, [.ref a17])) :: (a2, .inr (1, [.ref a8, .int 0, .int x9, .int 0, .int 0, .int 0])) :: (a1, .inr (0, [.ref a2, .ref a3, .ref a4, .int x5, .int x6])) :: (a3, .inl (tp_ty E 6, 2, .inr (.inr (.inr (.inr f14))))) :: fr) := tp_mvD 3 rfl hD
  have hP : va_P (tp_D E) tp_cl ((a17, .inr (5, [.int x18, .ref (tp_ad E 100), .int x19])) :: (q1, .inr (3, [.int 0, .ref (tp_ad E 0), .int 0, .int 0, .int 0, .long 0, .int 0, .int 0, .int 0, .int 0, .int 0])) :: (a16, .inr (2, [.ref a17])) :: (a2, .inr (1, [.ref a8, .int 0, .int x9, .int 0, .int 0, .int 0])) :: (a1, .inr (0, [.ref a2, .ref a3, .ref a4, .int x5, .int x6])) :: (a3, .inl (tp_ty E 6, 2, .inr (.inr (.inr (.inr f14))))) :: fr) _ := tp_mvP 1 rfl hP
  have hD : va_D A ((a17, .inr (5, [.int x18, .ref (tp_ad E 100), .int x19])) :: (q1, .inr (3, [.int 0, .ref (tp_ad E 0), .int 0, .int 0, .int 0, .long 0, .int 0, .int 0, .int 0, .int 0, .int 0])) :: (a16, .inr (2, [.ref a17])) :: (a2, .inr (1, [.ref a8, .int 0, .int x9, .int 0, .int 0, .int 0])) :: (a1, .inr (0, [.ref a2, .ref a3, .ref a4, .int x5, .int x6])) :: (a3, .inl (tp_ty E 6, 2, .inr (.inr (.inr (.inr f14))))) :: fr) := tp_mvD 1 rfl hD
  refine tp_ci (tp_rV (As := [.ref q1]) (rest := []) ⟨hx, hb, hml, hown, htg⟩ (c_AL_add_0_1 l E ((a16, .inr (2, [.ref a17])) :: (a2, .inr (1, [.ref a8, .int 0, .int x9, .int 0, .int 0, .int 0])) :: (a1, .inr (0, [.ref a2, .ref a3, .ref a4, .int x5, .int x6])) :: (a3, .inl (tp_ty E 6, 2, .inr (.inr (.inr (.inr f14))))) :: fr) _ a17 q1 x18 x19 0 0 0 0 0 0 0 0 0 0 h8 h9 h10) (⟨callB_of 1 htg (tp_good0 kc_AL_add_0) rfl rfl rfl (htg _ ki_AL) (htg _ kl_T_82) ⟨by decide, by decide, by decide +kernel⟩ ⟨Nat.le_of_ble_eq_true rfl, Nat.le_of_ble_eq_true rfl⟩, htg _ km_AL_add_0, htg _ kv_AL_AL_add_0⟩) (va_recv (ci := 5) (q0 := 0) hK.1 hP rfl rfl) hK hP hD hS hA rfl hl.1 rfl (Nat.le_of_ble_eq_true rfl) d_T_line_75 ⟨Nat.le_of_ble_eq_true rfl, Nat.le_of_ble_eq_true rfl⟩) hD hS hA (fun r u H locs hw hP hD hS => ?_)
  generalize u = q2 at hP hD ⊢
  subst r
  have hP : va_P (tp_D E) tp_cl ((q2, .inl (tp_ty E 5, 10, .inr (.inr (.inr (.inr (va_up (fun _ => none) x19.toNatClampNeg (some q1))))))) :: (a17, .inr (5, [.int (x18 + 1), .ref q2, .int (x19 + 1)])) :: (q1, .inr (3, [.int 0, .ref (tp_ad E 0), .int 0, .int 0, .int 0, .long 0, .int 0, .int 0, .int 0, .int 0, .int 0])) :: (a16, .inr (2, [.ref a17])) :: (a2, .inr (1, [.ref a8, .int 0, .int x9, .int 0, .int 0, .int 0])) :: (a1, .inr (0, [.ref a2, .ref a3, .ref a4, .int x5, .int x6])) :: (a3, .inl (tp_ty E 6, 2, .inr (.inr (.inr (.inr f14))))) :: fr) H := hP
  have hD : va_D A ((q2, .inl (tp_ty E 5, 10, .inr (.inr (.inr (.inr (va_up (fun _ => none) x19.toNatClampNeg (some q1))))))) :: (a17, .inr (5, [.int (x18 + 1), .ref q2, .int (x19 + 1)])) :: (q1, .inr (3, [.int 0, .ref (tp_ad E 0), .int 0, .int 0, .int 0, .long 0, .int 0, .int 0, .int 0, .int 0, .int 0])) :: (a16, .inr (2, [.ref a17])) :: (a2, .inr (1, [.ref a8, .int 0, .int x9, .int 0, .int 0, .int 0])) :: (a1, .inr (0, [.ref a2, .ref a3, .ref a4, .int x5, .int x6])) :: (a3, .inl (tp_ty E 6, 2, .inr (.inr (.inr (.inr f14))))) :: fr) := hD
  refine lv_pop hx hb d_T_line_78 rfl ?_
  refine lv_aload_n hx hb d_T_line_79 rfl (lv_at hl 2 rfl) ?_
  refine lv_iconst (v := 0) hx hb d_T_line_80 (by decide) ?_
  refine va_put (D := tp_D E) (ci := 0) (v := .int 0) (ty := .boolean) (C := qR_T) (T := qF_T) (N := 5) hx hb htg qi_T qt_T qt_T_ok qn_T hown hK.1 hP hD hS 5 rfl rfl 3 (by decide) (htg _ kl_T_30) (fun _ h => h) rfl (by decide +kernel) rfl rfl (Nat.le_of_ble_eq_true rfl) d_T_line_81 (fun H locs hP hD hS => ?_)
  have hP : va_P (tp_D E) tp_cl ((q2, .inl (tp_ty E 5, 10, .inr (.inr (.inr (.inr (va_up (fun _ => none) x19.toNatClampNeg (some q1))))))) :: (a17, .inr (5, [.int (x18 + 1), .ref q2, .int (x19 + 1)])) :: (q1, .inr (3, [.int 0, .ref (tp_ad E 0), .int 0, .int 0, .int 0, .long 0, .int 0, .int 0, .int 0, .int 0, .int 0])) :: (a16, .inr (2, [.ref a17])) :: (a2, .inr (1, [.ref a8, .int 0, .int x9, .int 0, .int 0, .int 0])) :: (a1, .inr (0, [.ref a2, .ref a3, .ref a4, .int 0, .int x6])) :: (a3, .inl (tp_ty E 6, 2, .inr (.inr (.inr (.inr f14))))) :: fr) H := hP
  have hD : va_D A ((q2, .inl (tp_ty E 5, 10, .inr (.inr (.inr (.inr (va_up (fun _ => none) x19.toNatClampNeg (some q1))))))) :: (a17, .inr (5, [.int (x18 + 1), .ref q2, .int (x19 + 1)])) :: (q1, .inr (3, [.int 0, .ref (tp_ad E 0), .int 0, .int 0, .int 0, .long 0, .int 0, .int 0, .int 0, .int 0, .int 0])) :: (a16, .inr (2, [.ref a17])) :: (a2, .inr (1, [.ref a8, .int 0, .int x9, .int 0, .int 0, .int 0])) :: (a1, .inr (0, [.ref a2, .ref a3, .ref a4, .int 0, .int x6])) :: (a3, .inl (tp_ty E 6, 2, .inr (.inr (.inr (.inr f14))))) :: fr) := hD
  refine lv_aload_n hx hb d_T_line_84 rfl (lv_at hl 0 rfl) ?_
  have hP : va_P (tp_D E) tp_cl ((a17, .inr (5, [.int (x18 + 1), .ref q2, .int (x19 + 1)])) :: (q2, .inl (tp_ty E 5, 10, .inr (.inr (.inr (.inr (va_up (fun _ => none) x19.toNatClampNeg (some q1))))))) :: (q1, .inr (3, [.int 0, .ref (tp_ad E 0), .int 0, .int 0, .int 0, .long 0, .int 0, .int 0, .int 0, .int 0, .int 0])) :: (a16, .inr (2, [.ref a17])) :: (a2, .inr (1, [.ref a8, .int 0, .int x9, .int 0, .int 0, .int 0])) :: (a1, .inr (0, [.ref a2, .ref a3, .ref a4, .int 0, .int x6])) :: (a3, .inl (tp_ty E 6, 2, .inr (.inr (.inr (.inr f14))))) :: fr) _ := tp_mvP 1 rfl hP
  have hD : va_D A ((a17, .inr (5, [.int (x18 + 1), .ref q2, .int (x19 + 1)])) :: (q2, .inl (tp_ty E 5, 10, .inr (.inr (.inr (.inr (va_up (fun _ => none) x19.toNatClampNeg (some q1))))))) :: (q1, .inr (3, [.int 0, .ref (tp_ad E 0), .int 0, .int 0, .int 0, .long 0, .int 0, .int 0, .int 0, .int 0, .int 0])) :: (a16, .inr (2, [.ref a17])) :: (a2, .inr (1, [.ref a8, .int 0, .int x9, .int 0, .int 0, .int 0])) :: (a1, .inr (0, [.ref a2, .ref a3, .ref a4, .int 0, .int x6])) :: (a3, .inl (tp_ty E 6, 2, .inr (.inr (.inr (.inr f14))))) :: fr) := tp_mvD 1 rfl hD
  have hP : va_P (tp_D E) tp_cl ((a16, .inr (2, [.ref a17])) :: (a17, .inr (5, [.int (x18 + 1), .ref q2, .int (x19 + 1)])) :: (q2, .inl (tp_ty E 5, 10, .inr (.inr (.inr (.inr (va_up (fun _ => none) x19.toNatClampNeg (some q1))))))) :: (q1, .inr (3, [.int 0, .ref (tp_ad E 0), .int 0, .int 0, .int 0, .long 0, .int 0, .int 0, .int 0, .int 0, .int 0])) :: (a2, .inr (1, [.ref a8, .int 0, .int x9, .int 0, .int 0, .int 0])) :: (a1, .inr (0, [.ref a2, .ref a3, .ref a4, .int 0, .int x6])) :: (a3, .inl (tp_ty E 6, 2, .inr (.inr (.inr (.inr f14))))) :: fr) _ := tp_mvP 3 rfl hP
  have hD : va_D A ((a16, .inr (2, [.ref a17])) :: (a17, .inr (5, [.int (x18 + 1), .ref q2, .int (x19 + 1)])) :: (q2, .inl (tp_ty E 5, 10, .inr (.inr (.inr (.inr (va_up (fun _ => none) x19.toNatClampNeg (some q1))))))) :: (q1, .inr (3, [.int 0, .ref (tp_ad E 0), .int 0, .int 0, .int 0, .long 0, .int 0, .int 0, .int 0, .int 0, .int 0])) :: (a2, .inr (1, [.ref a8, .int 0, .int x9, .int 0, .int 0, .int 0])) :: (a1, .inr (0, [.ref a2, .ref a3, .ref a4, .int 0, .int x6])) :: (a3, .inl (tp_ty E 6, 2, .inr (.inr (.inr (.inr f14))))) :: fr) := tp_mvD 3 rfl hD
  refine tp_ci (tp_rV (As := []) (rest := []) ⟨hx, hb, hml, hown, htg⟩ (c_S_count_2 l E ((q2, .inl (tp_ty E 5, 10, .inr (.inr (.inr (.inr (va_up (fun _ => none) x19.toNatClampNeg (some q1))))))) :: (q1, .inr (3, [.int 0, .ref (tp_ad E 0), .int 0, .int 0, .int 0, .long 0, .int 0, .int 0, .int 0, .int 0, .int 0])) :: (a2, .inr (1, [.ref a8, .int 0, .int x9, .int 0, .int 0, .int 0])) :: (a1, .inr (0, [.ref a2, .ref a3, .ref a4, .int 0, .int x6])) :: (a3, .inl (tp_ty E 6, 2, .inr (.inr (.inr (.inr f14))))) :: fr) _ a16 a17 (x18 + 1) q2 (x19 + 1) ) (⟨callB_of 0 htg (tp_good0 kc_S_count) rfl rfl rfl (htg _ ki_S) (htg _ kl_T_66) ⟨by decide, by decide, by decide +kernel⟩ ⟨Nat.le_of_ble_eq_true rfl, Nat.le_of_ble_eq_true rfl⟩, htg _ km_S_count, htg _ kv_S_S_count⟩) (va_recv (ci := 2) (q0 := 0) hK.1 hP rfl rfl) hK hP hD hS hA rfl hl.1 rfl (Nat.le_of_ble_eq_true rfl) d_T_line_85 ⟨Nat.le_of_ble_eq_true rfl, Nat.le_of_ble_eq_true rfl⟩) hD hS hA (fun r u H locs hw hP hD hS => ?_)
  subst r
  have hP : va_P (tp_D E) tp_cl ((a17, .inr (5, [.int (x18 + 1), .ref q2, .int (x19 + 1)])) :: (a16, .inr (2, [.ref a17])) :: (q2, .inl (tp_ty E 5, 10, .inr (.inr (.inr (.inr (va_up (fun _ => none) x19.toNatClampNeg (some q1))))))) :: (q1, .inr (3, [.int 0, .ref (tp_ad E 0), .int 0, .int 0, .int 0, .long 0, .int 0, .int 0, .int 0, .int 0, .int 0])) :: (a2, .inr (1, [.ref a8, .int 0, .int x9, .int 0, .int 0, .int 0])) :: (a1, .inr (0, [.ref a2, .ref a3, .ref a4, .int 0, .int x6])) :: (a3, .inl (tp_ty E 6, 2, .inr (.inr (.inr (.inr f14))))) :: fr) H := hP
  have hD : va_D A ((a17, .inr (5, [.int (x18 + 1), .ref q2, .int (x19 + 1)])) :: (a16, .inr (2, [.ref a17])) :: (q2, .inl (tp_ty E 5, 10, .inr (.inr (.inr (.inr (va_up (fun _ => none) x19.toNatClampNeg (some q1))))))) :: (q1, .inr (3, [.int 0, .ref (tp_ad E 0), .int 0, .int 0, .int 0, .long 0, .int 0, .int 0, .int 0, .int 0, .int 0])) :: (a2, .inr (1, [.ref a8, .int 0, .int x9, .int 0, .int 0, .int 0])) :: (a1, .inr (0, [.ref a2, .ref a3, .ref a4, .int 0, .int x6])) :: (a3, .inl (tp_ty E 6, 2, .inr (.inr (.inr (.inr f14))))) :: fr) := hD
  exact W.iret (v := (x19 + 1)) hx hb hr (fun t ht hW => ⟨⟨_, (q1, q2), rfl, rfl, by rw [ht]; exact hP, hD⟩, hS.F ht⟩) hS.2.2 d_T_line_88
