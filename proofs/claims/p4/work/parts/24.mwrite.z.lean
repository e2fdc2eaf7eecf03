set_option maxHeartbeats 4000000 in
set_option maxRecDepth 100000 in
theorem a_M_write (l : Launch) (E : tp_Env) (fr : va_W) (sz : Nat) (aM m_names m_forms m_text m_word m_count m_formOf m_codeOf m_dOf m_sOf m_tOf m_valueOf m_labelOf m_nameOf m_target m_place m_far m_image m_out : Nat) (m_thrown m_size m_bad m_at m_length m_form m_code m_d m_s m_t m_imageSize m_farCount m_written : Int32) (m_value m_label m_name : Int64) (f_out : Nat → Int32) (xv : Int32) (hc : 0 ≤ m_written.toInt ∧ m_written.toInt < 40) : Met l y_M_write w_M_write ({ frames := 0, cells := 0, slots := 0, locals := 0 }) (va_Pc [.ref aM, .int xv] (tp_in E ((aM, .inr (4, [.int m_thrown, .ref m_names, .ref m_forms, .int m_size, .ref m_text, .int m_bad, .int m_at, .int m_length, .ref m_word, .int m_form, .int m_code, .int m_d, .int m_s, .int m_t, .long m_value, .long m_label, .long m_name, .ref m_count, .ref m_formOf, .ref m_codeOf, .ref m_dOf, .ref m_sOf, .ref m_tOf, .ref m_valueOf, .ref m_labelOf, .ref m_nameOf, .ref m_target, .ref m_place, .ref m_far, .int m_imageSize, .int m_farCount, .ref m_image, .int m_written, .ref m_out])) :: (m_out, .inl (tp_ty E 0, 40, .inl f_out)) :: fr) sz)) (va_Qv (fun (u : Int32 × (Nat → Int32)) => u.1.toInt = m_written.toInt + 1) (fun u t => tp_out E (va_A ((aM, .inr (4, [.int m_thrown, .ref m_names, .ref m_forms, .int m_size, .ref m_text, .int m_bad, .int m_at, .int m_length, .ref m_word, .int m_form, .int m_code, .int m_d, .int m_s, .int m_t, .long m_value, .long m_label, .long m_name, .ref m_count, .ref m_formOf, .ref m_codeOf, .ref m_dOf, .ref m_sOf, .ref m_tOf, .ref m_valueOf, .ref m_labelOf, .ref m_nameOf, .ref m_target, .ref m_place, .ref m_far, .int m_imageSize, .int m_farCount, .ref m_image, .int m_written, .ref m_out])) :: (m_out, .inl (tp_ty E 0, 40, .inl f_out)) :: fr) sz) ((aM, .inr (4, [.int m_thrown, .ref m_names, .ref m_forms, .int m_size, .ref m_text, .int m_bad, .int m_at, .int m_length, .ref m_word, .int m_form, .int m_code, .int m_d, .int m_s, .int m_t, .long m_value, .long m_label, .long m_name, .ref m_count, .ref m_formOf, .ref m_codeOf, .ref m_dOf, .ref m_sOf, .ref m_tOf, .ref m_valueOf, .ref m_labelOf, .ref m_nameOf, .ref m_target, .ref m_place, .ref m_far, .int m_imageSize, .int m_farCount, .ref m_image, .int u.1, .ref m_out])) :: (m_out, .inl (tp_ty E 0, 40, .inl u.2)) :: fr) t) (va_A ((aM, .inr (4, [.int m_thrown, .ref m_names, .ref m_forms, .int m_size, .ref m_text, .int m_bad, .int m_at, .int m_length, .ref m_word, .int m_form, .int m_code, .int m_d, .int m_s, .int m_t, .long m_value, .long m_label, .long m_name, .ref m_count, .ref m_formOf, .ref m_codeOf, .ref m_dOf, .ref m_sOf, .ref m_tOf, .ref m_valueOf, .ref m_labelOf, .ref m_nameOf, .ref m_target, .ref m_place, .ref m_far, .int m_imageSize, .int m_farCount, .ref m_image, .int m_written, .ref m_out])) :: (m_out, .inl (tp_ty E 0, 40, .inl f_out)) :: fr) sz)) 0 0 (va_A ((aM, .inr (4, [.int m_thrown, .ref m_names, .ref m_forms, .int m_size, .ref m_text, .int m_bad, .int m_at, .int m_length, .ref m_word, .int m_form, .int m_code, .int m_d, .int m_s, .int m_t, .long m_value, .long m_label, .long m_name, .ref m_count, .ref m_formOf, .ref m_codeOf, .ref m_dOf, .ref m_sOf, .ref m_tOf, .ref m_valueOf, .ref m_labelOf, .ref m_nameOf, .ref m_target, .ref m_place, .ref m_far, .int m_imageSize, .int m_farCount, .ref m_image, .int m_written, .ref m_out])) :: (m_out, .inl (tp_ty E 0, 40, .inl f_out)) :: fr) sz) := by
  refine Met.ofW (cc := b_M_write) (maxL := 2) (ret := none) (by decide) rfl ?_
  intro p e s m args below meth c s₁ B hml hv
  obtain ⟨rfl, hsz, hP, hK, hD0⟩ := hv
  have hx := B.exec
  have hb := B.bytes
  have hr := B.returns
  have htg : ∀ w ∈ tp_G, w.before ([.ref aM, .int xv] : List Value).toArray s = true := fun w h => atoms_spec (ws := w_M_write) B.pre w (List.mem_cons_of_mem _ h)
  have hown : s.vm.findClass "TwoPassModel" = some m.cls := findClass_of_methodNamed B.named
  have hlocks := B.notSynchronized
  subst hsz
  have hD := hD0.self (sz := s.heap.size)
  generalize hAe : va_A ((aM, .inr (4, [.int m_thrown, .ref m_names, .ref m_forms, .int m_size, .ref m_text, .int m_bad, .int m_at, .int m_length, .ref m_word, .int m_form, .int m_code, .int m_d, .int m_s, .int m_t, .long m_value, .long m_label, .long m_name, .ref m_count, .ref m_formOf, .ref m_codeOf, .ref m_dOf, .ref m_sOf, .ref m_tOf, .ref m_valueOf, .ref m_labelOf, .ref m_nameOf, .ref m_target, .ref m_place, .ref m_far, .int m_imageSize, .int m_farCount, .ref m_image, .int m_written, .ref m_out])) :: (m_out, .inl (tp_ty E 0, 40, .inl f_out)) :: fr) s.heap.size = A at hD hK ⊢
  have hA : ∀ q : Nat, s.heap.size ≤ q → A q := fun q h => by rw [← hAe]; exact Or.inr h
  have hS : va_S A s.heap s.heap [] := va_S.rf
  have hl := lv_entry ([.ref aM, .int xv]) (n := 2) (Nat.le_of_ble_eq_true rfl)
  rw [lg_entry_eq]
  generalize (lg_sl ([.ref aM, .int xv]) ++ List.replicate (2 - (lg_sl ([.ref aM, .int xv])).length) Slot.unset).toArray = ls at hl ⊢
  have hl : lv_has ls 2 [(0, .ref aM), (1, .int xv)] := hl
  refine lv_aload_n hx hb d_M_write_0 rfl (lv_at hl 0 rfl) ?_
  refine va_get (D := tp_D E) (ci := 4) (v := .ref m_out) (C := qR_M) (T := qF_M) (N := 34) hx hb htg qi_M hown hK.1 hP 0 rfl rfl 33 (by decide) (htg _ kl_M_67) (fun _ h => h) rfl d_M_write_1 ?_
  refine lv_aload_n hx hb d_M_write_4 rfl (lv_at hl 0 rfl) ?_
  refine va_get (D := tp_D E) (ci := 4) (v := .int m_written) (C := qR_M) (T := qF_M) (N := 34) hx hb htg qi_M hown hK.1 hP 0 rfl rfl 32 (by decide) (htg _ kl_M_411) (fun _ h => h) rfl d_M_write_5 ?_
  refine lv_iload_n hx hb d_M_write_8 rfl (lv_at hl 1 rfl) ?_
  refine va_iast (D := tp_D E) hx hb hK.1 hP hD hS 1 0 rfl rfl (tp_v40 hc) d_M_write_9 (fun H locs hP hD hS => ?_)
  have hP : va_P (tp_D E) tp_cl ((aM, .inr (4, [.int m_thrown, .ref m_names, .ref m_forms, .int m_size, .ref m_text, .int m_bad, .int m_at, .int m_length, .ref m_word, .int m_form, .int m_code, .int m_d, .int m_s, .int m_t, .long m_value, .long m_label, .long m_name, .ref m_count, .ref m_formOf, .ref m_codeOf, .ref m_dOf, .ref m_sOf, .ref m_tOf, .ref m_valueOf, .ref m_labelOf, .ref m_nameOf, .ref m_target, .ref m_place, .ref m_far, .int m_imageSize, .int m_farCount, .ref m_image, .int m_written, .ref m_out])) :: (m_out, .inl (tp_ty E 0, 40, .inl (upd f_out m_written.toNatClampNeg xv))) :: fr) H := hP
  have hD : va_D A ((aM, .inr (4, [.int m_thrown, .ref m_names, .ref m_forms, .int m_size, .ref m_text, .int m_bad, .int m_at, .int m_length, .ref m_word, .int m_form, .int m_code, .int m_d, .int m_s, .int m_t, .long m_value, .long m_label, .long m_name, .ref m_count, .ref m_formOf, .ref m_codeOf, .ref m_dOf, .ref m_sOf, .ref m_tOf, .ref m_valueOf, .ref m_labelOf, .ref m_nameOf, .ref m_target, .ref m_place, .ref m_far, .int m_imageSize, .int m_farCount, .ref m_image, .int m_written, .ref m_out])) :: (m_out, .inl (tp_ty E 0, 40, .inl (upd f_out m_written.toNatClampNeg xv))) :: fr) := hD
  refine lv_aload_n hx hb d_M_write_10 rfl (lv_at hl 0 rfl) ?_
  refine lv_dup hx hb d_M_write_11 rfl ?_
  refine va_get (D := tp_D E) (ci := 4) (v := .int m_written) (C := qR_M) (T := qF_M) (N := 34) hx hb htg qi_M hown hK.1 hP 0 rfl rfl 32 (by decide) (htg _ kl_M_411) (fun _ h => h) rfl d_M_write_12 ?_
  refine lv_iconst (v := 1) hx hb d_M_write_15 (by decide) ?_
  refine lv_iadd hx hb d_M_write_16 ?_
  refine va_put (D := tp_D E) (ci := 4) (v := .int (m_written + 1)) (ty := .int) (C := qR_M) (T := qF_M) (N := 34) hx hb htg qi_M qt_M qt_M_ok qn_M hown hK.1 hP hD hS 0 rfl rfl 32 (by decide) (htg _ kl_M_411) (fun _ h => h) rfl (by decide +kernel) rfl rfl (Nat.le_of_ble_eq_true rfl) d_M_write_17 (fun H locs hP hD hS => ?_)
  have hP : va_P (tp_D E) tp_cl ((aM, .inr (4, [.int m_thrown, .ref m_names, .ref m_forms, .int m_size, .ref m_text, .int m_bad, .int m_at, .int m_length, .ref m_word, .int m_form, .int m_code, .int m_d, .int m_s, .int m_t, .long m_value, .long m_label, .long m_name, .ref m_count, .ref m_formOf, .ref m_codeOf, .ref m_dOf, .ref m_sOf, .ref m_tOf, .ref m_valueOf, .ref m_labelOf, .ref m_nameOf, .ref m_target, .ref m_place, .ref m_far, .int m_imageSize, .int m_farCount, .ref m_image, .int (m_written + 1), .ref m_out])) :: (m_out, .inl (tp_ty E 0, 40, .inl (upd f_out m_written.toNatClampNeg xv))) :: fr) H := hP
  have hD : va_D A ((aM, .inr (4, [.int m_thrown, .ref m_names, .ref m_forms, .int m_size, .ref m_text, .int m_bad, .int m_at, .int m_length, .ref m_word, .int m_form, .int m_code, .int m_d, .int m_s, .int m_t, .long m_value, .long m_label, .long m_name, .ref m_count, .ref m_formOf, .ref m_codeOf, .ref m_dOf, .ref m_sOf, .ref m_tOf, .ref m_valueOf, .ref m_labelOf, .ref m_nameOf, .ref m_target, .ref m_place, .ref m_far, .int m_imageSize, .int m_farCount, .ref m_image, .int (m_written + 1), .ref m_out])) :: (m_out, .inl (tp_ty E 0, 40, .inl (upd f_out m_written.toNatClampNeg xv))) :: fr) := hD
  exact W.vret hx hb hr (fun t ht hW => ⟨⟨((m_written + 1), (upd f_out m_written.toNatClampNeg xv)), rfl, tp_inc (by omega), by rw [ht]; exact hP, hD⟩, hS.F ht⟩) hS.2.2 d_M_write_20
set_option maxHeartbeats 4000000 in
set_option maxRecDepth 100000 in
theorem a_M_writeNumber (l : Launch) (E : tp_Env) (fr : va_W) (sz : Nat) (aM m_names m_forms m_text m_word m_count m_formOf m_codeOf m_dOf m_sOf m_tOf m_valueOf m_labelOf m_nameOf m_target m_place m_far m_image m_out : Nat) (m_thrown m_size m_bad m_at m_length m_form m_code m_d m_s m_t m_imageSize m_farCount m_written : Int32) (m_value m_label m_name : Int64) (f_out : Nat → Int32) (xv : Int32) (hc : 0 ≤ m_written.toInt ∧ m_written.toInt + (tp_dl xv : Int) ≤ 40) : Met l y_M_writeNumber w_M_writeNumber ({ frames := 1, cells := 0, slots := 0, locals := 21 }) (va_Pc [.ref aM, .int xv] (tp_in E ((aM, .inr (4, [.int m_thrown, .ref m_names, .ref m_forms, .int m_size, .ref m_text, .int m_bad, .int m_at, .int m_length, .ref m_word, .int m_form, .int m_code, .int m_d, .int m_s, .int m_t, .long m_value, .long m_label, .long m_name, .ref m_count, .ref m_formOf, .ref m_codeOf, .ref m_dOf, .ref m_sOf, .ref m_tOf, .ref m_valueOf, .ref m_labelOf, .ref m_nameOf, .ref m_target, .ref m_place, .ref m_far, .int m_imageSize, .int m_farCount, .ref m_image, .int m_written, .ref m_out])) :: (m_out, .inl (tp_ty E 0, 40, .inl f_out)) :: fr) sz)) (va_Qv (fun (u : Int32 × (Nat → Int32)) => u.1.toInt = m_written.toInt + (tp_dl xv : Int)) (fun u t => tp_out E (va_A ((aM, .inr (4, [.int m_thrown, .ref m_names, .ref m_forms, .int m_size, .ref m_text, .int m_bad, .int m_at, .int m_length, .ref m_word, .int m_form, .int m_code, .int m_d, .int m_s, .int m_t, .long m_value, .long m_label, .long m_name, .ref m_count, .ref m_formOf, .ref m_codeOf, .ref m_dOf, .ref m_sOf, .ref m_tOf, .ref m_valueOf, .ref m_labelOf, .ref m_nameOf, .ref m_target, .ref m_place, .ref m_far, .int m_imageSize, .int m_farCount, .ref m_image, .int m_written, .ref m_out])) :: (m_out, .inl (tp_ty E 0, 40, .inl f_out)) :: fr) sz) ((aM, .inr (4, [.int m_thrown, .ref m_names, .ref m_forms, .int m_size, .ref m_text, .int m_bad, .int m_at, .int m_length, .ref m_word, .int m_form, .int m_code, .int m_d, .int m_s, .int m_t, .long m_value, .long m_label, .long m_name, .ref m_count, .ref m_formOf, .ref m_codeOf, .ref m_dOf, .ref m_sOf, .ref m_tOf, .ref m_valueOf, .ref m_labelOf, .ref m_nameOf, .ref m_target, .ref m_place, .ref m_far, .int m_imageSize, .int m_farCount, .ref m_image, .int u.1, .ref m_out])) :: (m_out, .inl (tp_ty E 0, 40, .inl u.2)) :: fr) t) (va_A ((aM, .inr (4, [.int m_thrown, .ref m_names, .ref m_forms, .int m_size, .ref m_text, .int m_bad, .int m_at, .int m_length, .ref m_word, .int m_form, .int m_code, .int m_d, .int m_s, .int m_t, .long m_value, .long m_label, .long m_name, .ref m_count, .ref m_formOf, .ref m_codeOf, .ref m_dOf, .ref m_sOf, .ref m_tOf, .ref m_valueOf, .ref m_labelOf, .ref m_nameOf, .ref m_target, .ref m_place, .ref m_far, .int m_imageSize, .int m_farCount, .ref m_image, .int m_written, .ref m_out])) :: (m_out, .inl (tp_ty E 0, 40, .inl f_out)) :: fr) sz)) 0 0 (va_A ((aM, .inr (4, [.int m_thrown, .ref m_names, .ref m_forms, .int m_size, .ref m_text, .int m_bad, .int m_at, .int m_length, .ref m_word, .int m_form, .int m_code, .int m_d, .int m_s, .int m_t, .long m_value, .long m_label, .long m_name, .ref m_count, .ref m_formOf, .ref m_codeOf, .ref m_dOf, .ref m_sOf, .ref m_tOf, .ref m_valueOf, .ref m_labelOf, .ref m_nameOf, .ref m_target, .ref m_place, .ref m_far, .int m_imageSize, .int m_farCount, .ref m_image, .int m_written, .ref m_out])) :: (m_out, .inl (tp_ty E 0, 40, .inl f_out)) :: fr) sz) := by
  refine Met.ofW (cc := b_M_writeNumber) (maxL := 6) (ret := none) (by decide) rfl ?_
  intro p e s m args below meth c s₁ B hml hv
  obtain ⟨rfl, hsz, hP, hK, hD0⟩ := hv
  have hx := B.exec
  have hb := B.bytes
  have hr := B.returns
  have htg : ∀ w ∈ tp_G, w.before ([.ref aM, .int xv] : List Value).toArray s = true := fun w h => atoms_spec (ws := w_M_writeNumber) B.pre w (List.mem_cons_of_mem _ h)
  have hown : s.vm.findClass "TwoPassModel" = some m.cls := findClass_of_methodNamed B.named
  have hlocks := B.notSynchronized
  subst hsz
  have hD := hD0.self (sz := s.heap.size)
  generalize hAe : va_A ((aM, .inr (4, [.int m_thrown, .ref m_names, .ref m_forms, .int m_size, .ref m_text, .int m_bad, .int m_at, .int m_length, .ref m_word, .int m_form, .int m_code, .int m_d, .int m_s, .int m_t, .long m_value, .long m_label, .long m_name, .ref m_count, .ref m_formOf, .ref m_codeOf, .ref m_dOf, .ref m_sOf, .ref m_tOf, .ref m_valueOf, .ref m_labelOf, .ref m_nameOf, .ref m_target, .ref m_place, .ref m_far, .int m_imageSize, .int m_farCount, .ref m_image, .int m_written, .ref m_out])) :: (m_out, .inl (tp_ty E 0, 40, .inl f_out)) :: fr) s.heap.size = A at hD hK ⊢
  have hA : ∀ q : Nat, s.heap.size ≤ q → A q := fun q h => by rw [← hAe]; exact Or.inr h
  have hS : va_S A s.heap s.heap [] := va_S.rf
  have hl := lv_entry ([.ref aM, .int xv]) (n := 6) (Nat.le_of_ble_eq_true rfl)
  rw [lg_entry_eq]
  generalize (lg_sl ([.ref aM, .int xv]) ++ List.replicate (6 - (lg_sl ([.ref aM, .int xv])).length) Slot.unset).toArray = ls at hl ⊢
  have hl : lv_has ls 6 [(0, .ref aM), (1, .int xv)] := hl
  refine tp_join3 (pc' := 23) (fun ls H locs (vv : Int64) (wc : Int32) (fo : Nat → Int32) => ((vv.toInt = (xv.toInt.natAbs : Int)) ∧ (wc.toInt + (tp_dg xv.toInt.natAbs : Int) = m_written.toInt + (tp_dl xv : Int))) ∧ lv_has ls 6 [(2, .long vv), (0, .ref aM), (1, .int xv)] ∧ va_P (tp_D E) tp_cl ((aM, .inr (4, [.int m_thrown, .ref m_names, .ref m_forms, .int m_size, .ref m_text, .int m_bad, .int m_at, .int m_length, .ref m_word, .int m_form, .int m_code, .int m_d, .int m_s, .int m_t, .long m_value, .long m_label, .long m_name, .ref m_count, .ref m_formOf, .ref m_codeOf, .ref m_dOf, .ref m_sOf, .ref m_tOf, .ref m_valueOf, .ref m_labelOf, .ref m_nameOf, .ref m_target, .ref m_place, .ref m_far, .int m_imageSize, .int m_farCount, .ref m_image, .int wc, .ref m_out])) :: (m_out, .inl (tp_ty E 0, 40, .inl fo)) :: fr) H ∧ va_D A ((aM, .inr (4, [.int m_thrown, .ref m_names, .ref m_forms, .int m_size, .ref m_text, .int m_bad, .int m_at, .int m_length, .ref m_word, .int m_form, .int m_code, .int m_d, .int m_s, .int m_t, .long m_value, .long m_label, .long m_name, .ref m_count, .ref m_formOf, .ref m_codeOf, .ref m_dOf, .ref m_sOf, .ref m_tOf, .ref m_valueOf, .ref m_labelOf, .ref m_nameOf, .ref m_target, .ref m_place, .ref m_far, .int m_imageSize, .int m_farCount, .ref m_image, .int wc, .ref m_out])) :: (m_out, .inl (tp_ty E 0, 40, .inl fo)) :: fr) ∧ va_S A s.heap H locs) ?_ ?_
  · intro vv wc fo ls H locs hI
    obtain ⟨⟨hvv, hwc⟩, hl, hP, hD, hS⟩ := hI
    refine lv_lconst (v := 1) hx hb d_M_writeNumber_23 (by decide) ?_
    refine lv_lstore (lv' := [(4, .long 1), (2, .long vv), (0, .ref aM), (1, .int xv)]) hx hb d_M_writeNumber_24 hl (by decide) rfl (fun ls hl => ?_)
    refine tp_loop (fun j ls H locs (ii : Nat) => ((ii ≤ 9 ∧ (ii = 0 ∨ 10 ^ ii ≤ xv.toInt.natAbs)) ∧ (ii + j = 9)) ∧ lv_has ls 6 [(4, .long (tp_P ii)), (2, .long vv), (0, .ref aM), (1, .int xv)] ∧ va_P (tp_D E) tp_cl ((aM, .inr (4, [.int m_thrown, .ref m_names, .ref m_forms, .int m_size, .ref m_text, .int m_bad, .int m_at, .int m_length, .ref m_word, .int m_form, .int m_code, .int m_d, .int m_s, .int m_t, .long m_value, .long m_label, .long m_name, .ref m_count, .ref m_formOf, .ref m_codeOf, .ref m_dOf, .ref m_sOf, .ref m_tOf, .ref m_valueOf, .ref m_labelOf, .ref m_nameOf, .ref m_target, .ref m_place, .ref m_far, .int m_imageSize, .int m_farCount, .ref m_image, .int wc, .ref m_out])) :: (m_out, .inl (tp_ty E 0, 40, .inl fo)) :: fr) H ∧ va_D A ((aM, .inr (4, [.int m_thrown, .ref m_names, .ref m_forms, .int m_size, .ref m_text, .int m_bad, .int m_at, .int m_length, .ref m_word, .int m_form, .int m_code, .int m_d, .int m_s, .int m_t, .long m_value, .long m_label, .long m_name, .ref m_count, .ref m_formOf, .ref m_codeOf, .ref m_dOf, .ref m_sOf, .ref m_tOf, .ref m_valueOf, .ref m_labelOf, .ref m_nameOf, .ref m_target, .ref m_place, .ref m_far, .int m_imageSize, .int m_farCount, .ref m_image, .int wc, .ref m_out])) :: (m_out, .inl (tp_ty E 0, 40, .inl fo)) :: fr) ∧ va_S A s.heap H locs) ?_ 9 0 ⟨⟨⟨by omega, Or.inl rfl⟩, rfl⟩, tp_lvI hl [0, 1, 2, 3] rfl, hP, hD, hS⟩
    intro j ii ls H locs hI ih
    obtain ⟨⟨hii, hj⟩, hl, hP, hD, hS⟩ := hI
    refine lv_lload_n hx hb d_M_writeNumber_26 rfl (lv_at hl 1 rfl) ?_
    refine lv_lload hx hb d_M_writeNumber_27 (lv_at hl 0 rfl) ?_
    refine lv_ldiv hx hb d_M_writeNumber_29 (tp_Pnz hii.1) ?_
    refine lv_ldc2 (v := 9) hx hb hown (htg _ kl_M_417) d_M_writeNumber_30 ?_
    by_cases h1 : 9 < (vv / (tp_P ii))
    · refine W.lcmp hx hb d_M_writeNumber_33 ?_
      refine lv_if_le (tgt := 48) hx hb d_M_writeNumber_34 (by decide) (fun h => absurd h (tp_lc_le_f h1)) (fun _ => ?_)
      refine lv_ldc2 (v := 10) hx hb hown (htg _ kl_M_262) d_M_writeNumber_37 ?_
      refine lv_lload hx hb d_M_writeNumber_40 (lv_at hl 0 rfl) ?_
      refine lv_lmul hx hb d_M_writeNumber_42 ?_
      refine lv_lstore (lv' := [(4, .long (10 * (tp_P ii))), (2, .long vv), (0, .ref aM), (1, .int xv)]) hx hb d_M_writeNumber_43 hl (by decide) rfl (fun ls hl => ?_)
      refine lv_goto (tgt := 26) hx hb d_M_writeNumber_45 (by decide) ?_
      have hb9 := tp_Pbig hvv hii.1 h1
      rw [tp_Pmul (by omega)] at hl
      exact ih (j - 1) (ii + 1) ls _ _ (by omega) ⟨⟨⟨by omega, Or.inr hb9.2⟩, by omega⟩, tp_lvI hl [0, 1, 2, 3] rfl, hP, hD, hS⟩
    · refine W.lcmp hx hb d_M_writeNumber_33 ?_
      refine lv_if_le (tgt := 48) hx hb d_M_writeNumber_34 (by decide) (fun _ => ?_) (fun h => absurd (tp_lc_le_t h1) h)
      refine tp_loop3 (fun j2 ls H locs (rr : Nat) (wr : Int32) (fr2 : Nat → Int32) => ((wr.toInt + (rr : Int) = m_written.toInt + (tp_dl xv : Int) ∧ m_written.toInt ≤ wr.toInt ∧ rr ≤ 10) ∧ (j2 = rr)) ∧ lv_has ls 6 [(4, .long (tp_Q rr)), (2, .long vv), (0, .ref aM), (1, .int xv)] ∧ va_P (tp_D E) tp_cl ((aM, .inr (4, [.int m_thrown, .ref m_names, .ref m_forms, .int m_size, .ref m_text, .int m_bad, .int m_at, .int m_length, .ref m_word, .int m_form, .int m_code, .int m_d, .int m_s, .int m_t, .long m_value, .long m_label, .long m_name, .ref m_count, .ref m_formOf, .ref m_codeOf, .ref m_dOf, .ref m_sOf, .ref m_tOf, .ref m_valueOf, .ref m_labelOf, .ref m_nameOf, .ref m_target, .ref m_place, .ref m_far, .int m_imageSize, .int m_farCount, .ref m_image, .int wr, .ref m_out])) :: (m_out, .inl (tp_ty E 0, 40, .inl fr2)) :: fr) H ∧ va_D A ((aM, .inr (4, [.int m_thrown, .ref m_names, .ref m_forms, .int m_size, .ref m_text, .int m_bad, .int m_at, .int m_length, .ref m_word, .int m_form, .int m_code, .int m_d, .int m_s, .int m_t, .long m_value, .long m_label, .long m_name, .ref m_count, .ref m_formOf, .ref m_codeOf, .ref m_dOf, .ref m_sOf, .ref m_tOf, .ref m_valueOf, .ref m_labelOf, .ref m_nameOf, .ref m_target, .ref m_place, .ref m_far, .int m_imageSize, .int m_farCount, .ref m_image, .int wr, .ref m_out])) :: (m_out, .inl (tp_ty E 0, 40, .inl fr2)) :: fr) ∧ va_S A s.heap H locs) ?_ _ (ii + 1) wc fo ⟨⟨tp_dig hvv hii h1 hwc, rfl⟩, tp_lvI hl [0, 1, 2, 3] rfl, hP, hD, hS⟩
      intro j2 rr wr fr2 ls H locs hI ih2
      obtain ⟨⟨hrr, hj2⟩, hl, hP, hD, hS⟩ := hI
      refine lv_lload hx hb d_M_writeNumber_48 (lv_at hl 0 rfl) ?_
      refine lv_lconst (v := 0) hx hb d_M_writeNumber_50 (by decide) ?_
      by_cases h2 : 0 < (tp_Q rr)
      · refine W.lcmp hx hb d_M_writeNumber_51 ?_
        refine lv_if_le (tgt := 83) hx hb d_M_writeNumber_52 (by decide) (fun h => absurd h (tp_lc_le_f h2)) (fun _ => ?_)
        refine lv_aload_n hx hb d_M_writeNumber_55 rfl (lv_at hl 2 rfl) ?_
        refine lv_ldc2 (v := 48) hx hb hown (htg _ kl_M_264) d_M_writeNumber_56 ?_
        refine lv_lload_n hx hb d_M_writeNumber_59 rfl (lv_at hl 1 rfl) ?_
        refine lv_lload hx hb d_M_writeNumber_60 (lv_at hl 0 rfl) ?_
        refine lv_ldiv hx hb d_M_writeNumber_62 (tp_Qnz h2) ?_
        refine lv_ldc2 (v := 10) hx hb hown (htg _ kl_M_262) d_M_writeNumber_63 ?_
        refine lv_lrem hx hb d_M_writeNumber_66 (by decide) ?_
        refine lv_ladd hx hb d_M_writeNumber_67 ?_
        refine lv_l2i (v := (48 + ((vv / (tp_Q rr)) - (vv / (tp_Q rr)) / 10 * 10)).toInt32) hx hb d_M_writeNumber_68 rfl ?_
        refine tp_cv (tp_rV (As := [.int ((48 + ((vv / (tp_Q rr)) - (vv / (tp_Q rr)) / 10 * 10)).toInt32)]) (rest := []) ⟨hx, hb, hml, hown, htg⟩ (a_M_write l E fr _ aM m_names m_forms m_text m_word m_count m_formOf m_codeOf m_dOf m_sOf m_tOf m_valueOf m_labelOf m_nameOf m_target m_place m_far m_image m_out m_thrown m_size m_bad m_at m_length m_form m_code m_d m_s m_t m_imageSize m_farCount wr m_value m_label m_name fr2 ((48 + ((vv / (tp_Q rr)) - (vv / (tp_Q rr)) / 10 * 10)).toInt32) (tp_mn2 hc hrr h2)) (⟨callB_of 1 htg (tp_good0 kc_M_write) rfl rfl rfl (htg _ ki_M) (htg _ kl_M_414) ⟨by decide, by decide, by decide +kernel⟩ ⟨Nat.le_of_ble_eq_true rfl, Nat.le_of_ble_eq_true rfl⟩, htg _ km_M_write, htg _ kp_M_write⟩) (va_recv (ci := 4) (q0 := 0) hK.1 hP rfl rfl) hK hP hD hS hA rfl hl.1 rfl (Nat.le_of_ble_eq_true rfl) d_M_writeNumber_69 ⟨Nat.le_of_ble_eq_true rfl, Nat.le_of_ble_eq_true rfl⟩) hD hS hA (fun u H locs hw hP hD hS => ?_)
        obtain ⟨wq1, oq1⟩ := u
        have hwq1 : wq1.toInt = wr.toInt + 1 := hw
        have hP : va_P (tp_D E) tp_cl ((aM, .inr (4, [.int m_thrown, .ref m_names, .ref m_forms, .int m_size, .ref m_text, .int m_bad, .int m_at, .int m_length, .ref m_word, .int m_form, .int m_code, .int m_d, .int m_s, .int m_t, .long m_value, .long m_label, .long m_name, .ref m_count, .ref m_formOf, .ref m_codeOf, .ref m_dOf, .ref m_sOf, .ref m_tOf, .ref m_valueOf, .ref m_labelOf, .ref m_nameOf, .ref m_target, .ref m_place, .ref m_far, .int m_imageSize, .int m_farCount, .ref m_image, .int wq1, .ref m_out])) :: (m_out, .inl (tp_ty E 0, 40, .inl oq1)) :: fr) H := hP
        have hD : va_D A ((aM, .inr (4, [.int m_thrown, .ref m_names, .ref m_forms, .int m_size, .ref m_text, .int m_bad, .int m_at, .int m_length, .ref m_word, .int m_form, .int m_code, .int m_d, .int m_s, .int m_t, .long m_value, .long m_label, .long m_name, .ref m_count, .ref m_formOf, .ref m_codeOf, .ref m_dOf, .ref m_sOf, .ref m_tOf, .ref m_valueOf, .ref m_labelOf, .ref m_nameOf, .ref m_target, .ref m_place, .ref m_far, .int m_imageSize, .int m_farCount, .ref m_image, .int wq1, .ref m_out])) :: (m_out, .inl (tp_ty E 0, 40, .inl oq1)) :: fr) := hD
        refine lv_lload hx hb d_M_writeNumber_72 (lv_at hl 0 rfl) ?_
        refine lv_ldc2 (v := 10) hx hb hown (htg _ kl_M_262) d_M_writeNumber_74 ?_
        refine lv_ldiv hx hb d_M_writeNumber_77 (by decide) ?_
        refine lv_lstore (lv' := [(4, .long ((tp_Q rr) / 10)), (2, .long vv), (0, .ref aM), (1, .int xv)]) hx hb d_M_writeNumber_78 hl (by decide) rfl (fun ls hl => ?_)
        refine lv_goto (tgt := 48) hx hb d_M_writeNumber_80 (by decide) ?_
        have hr0 := tp_Qpos h2
        rw [tp_Qdiv hr0 hrr.2.2] at hl
        exact ih2 (j2 - 1) (rr - 1) wq1 oq1 ls _ _ (by omega) ⟨⟨tp_step hrr hwq1 hr0, by omega⟩, tp_lvI hl [0, 1, 2, 3] rfl, hP, hD, hS⟩
      · refine W.lcmp hx hb d_M_writeNumber_51 ?_
        refine lv_if_le (tgt := 83) hx hb d_M_writeNumber_52 (by decide) (fun _ => ?_) (fun h => absurd (tp_lc_le_t h2) h)
        exact W.vret hx hb hr (fun t ht hW => ⟨⟨(wr, fr2), rfl, tp_lastn hrr h2, by rw [ht]; exact hP, hD⟩, hS.F ht⟩) hS.2.2 d_M_writeNumber_83
  · intro jn23
    refine lv_iload_n hx hb d_M_writeNumber_0 rfl (lv_at hl 1 rfl) ?_
    by_cases h1 : 0 ≤ xv
    · refine lv_if_ge (tgt := 10) hx hb d_M_writeNumber_1 (by decide) (fun _ => ?_) (fun h => absurd h1 h)
      refine lv_iload_n hx hb d_M_writeNumber_10 rfl (lv_at hl 1 rfl) ?_
      refine lv_if_ge (tgt := 20) hx hb d_M_writeNumber_11 (by decide) (fun _ => ?_) (fun h => absurd h1 h)
      refine lv_iload_n hx hb d_M_writeNumber_20 rfl (lv_at hl 1 rfl) ?_
      refine lv_i2l (v := xv.toInt64) hx hb d_M_writeNumber_21 rfl ?_
      refine lv_lstore_n (lv' := [(2, .long xv.toInt64), (0, .ref aM), (1, .int xv)]) hx hb d_M_writeNumber_22 rfl hl (by decide) rfl (fun ls hl => ?_)
      exact jn23 xv.toInt64 m_written f_out ls _ _ ⟨⟨tp_vvp h1, tp_wcp h1⟩, tp_lvI hl [0, 1, 2] rfl, hP, hD, hS⟩
    · refine lv_if_ge (tgt := 10) hx hb d_M_writeNumber_1 (by decide) (fun h => absurd h h1) (fun _ => ?_)
      refine lv_aload_n hx hb d_M_writeNumber_4 rfl (lv_at hl 0 rfl) ?_
      refine lv_bipush (v := 45) hx hb d_M_writeNumber_5 (by decide) ?_
      refine tp_cv (tp_rV (As := [.int 45]) (rest := []) ⟨hx, hb, hml, hown, htg⟩ (a_M_write l E fr _ aM m_names m_forms m_text m_word m_count m_formOf m_codeOf m_dOf m_sOf m_tOf m_valueOf m_labelOf m_nameOf m_target m_place m_far m_image m_out m_thrown m_size m_bad m_at m_length m_form m_code m_d m_s m_t m_imageSize m_farCount m_written m_value m_label m_name f_out 45 (tp_mn1 hc h1)) (⟨callB_of 1 htg (tp_good0 kc_M_write) rfl rfl rfl (htg _ ki_M) (htg _ kl_M_414) ⟨by decide, by decide, by decide +kernel⟩ ⟨Nat.le_of_ble_eq_true rfl, Nat.le_of_ble_eq_true rfl⟩, htg _ km_M_write, htg _ kp_M_write⟩) (va_recv (ci := 4) (q0 := 0) hK.1 hP rfl rfl) hK hP hD hS hA rfl hl.1 rfl (Nat.le_of_ble_eq_true rfl) d_M_writeNumber_7 ⟨Nat.le_of_ble_eq_true rfl, Nat.le_of_ble_eq_true rfl⟩) hD hS hA (fun u H locs hw hP hD hS => ?_)
      obtain ⟨wq1, oq1⟩ := u
      have hwq1 : wq1.toInt = m_written.toInt + 1 := hw
      have hP : va_P (tp_D E) tp_cl ((aM, .inr (4, [.int m_thrown, .ref m_names, .ref m_forms, .int m_size, .ref m_text, .int m_bad, .int m_at, .int m_length, .ref m_word, .int m_form, .int m_code, .int m_d, .int m_s, .int m_t, .long m_value, .long m_label, .long m_name, .ref m_count, .ref m_formOf, .ref m_codeOf, .ref m_dOf, .ref m_sOf, .ref m_tOf, .ref m_valueOf, .ref m_labelOf, .ref m_nameOf, .ref m_target, .ref m_place, .ref m_far, .int m_imageSize, .int m_farCount, .ref m_image, .int wq1, .ref m_out])) :: (m_out, .inl (tp_ty E 0, 40, .inl oq1)) :: fr) H := hP
      have hD : va_D A ((aM, .inr (4, [.int m_thrown, .ref m_names, .ref m_forms, .int m_size, .ref m_text, .int m_bad, .int m_at, .int m_length, .ref m_word, .int m_form, .int m_code, .int m_d, .int m_s, .int m_t, .long m_value, .long m_label, .long m_name, .ref m_count, .ref m_formOf, .ref m_codeOf, .ref m_dOf, .ref m_sOf, .ref m_tOf, .ref m_valueOf, .ref m_labelOf, .ref m_nameOf, .ref m_target, .ref m_place, .ref m_far, .int m_imageSize, .int m_farCount, .ref m_image, .int wq1, .ref m_out])) :: (m_out, .inl (tp_ty E 0, 40, .inl oq1)) :: fr) := hD
      refine lv_iload_n hx hb d_M_writeNumber_10 rfl (lv_at hl 1 rfl) ?_
      refine lv_if_ge (tgt := 20) hx hb d_M_writeNumber_11 (by decide) (fun h => absurd h h1) (fun _ => ?_)
      refine lv_iload_n hx hb d_M_writeNumber_14 rfl (lv_at hl 1 rfl) ?_
      refine lv_i2l (v := xv.toInt64) hx hb d_M_writeNumber_15 rfl ?_
      refine lv_lneg hx hb d_M_writeNumber_16 ?_
      refine lv_goto (tgt := 22) hx hb d_M_writeNumber_17 (by decide) ?_
      refine lv_lstore_n (lv' := [(2, .long (-xv.toInt64)), (0, .ref aM), (1, .int xv)]) hx hb d_M_writeNumber_22 rfl hl (by decide) rfl (fun ls hl => ?_)
      exact jn23 (-xv.toInt64) wq1 oq1 ls _ _ ⟨⟨tp_vvn h1, tp_wcn h1 hwq1⟩, tp_lvI hl [0, 1, 2] rfl, hP, hD, hS⟩
set_option maxHeartbeats 4000000 in
set_option maxRecDepth 100000 in
theorem a_M_writeRegister (l : Launch) (E : tp_Env) (fr : va_W) (sz : Nat) (aM m_names m_forms m_text m_word m_count m_formOf m_codeOf m_dOf m_sOf m_tOf m_valueOf m_labelOf m_nameOf m_target m_place m_far m_image m_out : Nat) (m_thrown m_size m_bad m_at m_length m_form m_code m_d m_s m_t m_imageSize m_farCount m_written : Int32) (m_value m_label m_name : Int64) (f_out : Nat → Int32) (xb xv : Int32) (hc : 0 ≤ m_written.toInt ∧ m_written.toInt + 2 + (tp_dl xv : Int) ≤ 40) : Met l y_M_writeRegister w_M_writeRegister ({ frames := 2, cells := 0, slots := 0, locals := 46 }) (va_Pc [.ref aM, .int xb, .int xv] (tp_in E ((aM, .inr (4, [.int m_thrown, .ref m_names, .ref m_forms, .int m_size, .ref m_text, .int m_bad, .int m_at, .int m_length, .ref m_word, .int m_form, .int m_code, .int m_d, .int m_s, .int m_t, .long m_value, .long m_label, .long m_name, .ref m_count, .ref m_formOf, .ref m_codeOf, .ref m_dOf, .ref m_sOf, .ref m_tOf, .ref m_valueOf, .ref m_labelOf, .ref m_nameOf, .ref m_target, .ref m_place, .ref m_far, .int m_imageSize, .int m_farCount, .ref m_image, .int m_written, .ref m_out])) :: (m_out, .inl (tp_ty E 0, 40, .inl f_out)) :: fr) sz)) (va_Qv (fun (u : Int32 × (Nat → Int32)) => u.1.toInt = m_written.toInt + 2 + (tp_dl xv : Int)) (fun u t => tp_out E (va_A ((aM, .inr (4, [.int m_thrown, .ref m_names, .ref m_forms, .int m_size, .ref m_text, .int m_bad, .int m_at, .int m_length, .ref m_word, .int m_form, .int m_code, .int m_d, .int m_s, .int m_t, .long m_value, .long m_label, .long m_name, .ref m_count, .ref m_formOf, .ref m_codeOf, .ref m_dOf, .ref m_sOf, .ref m_tOf, .ref m_valueOf, .ref m_labelOf, .ref m_nameOf, .ref m_target, .ref m_place, .ref m_far, .int m_imageSize, .int m_farCount, .ref m_image, .int m_written, .ref m_out])) :: (m_out, .inl (tp_ty E 0, 40, .inl f_out)) :: fr) sz) ((aM, .inr (4, [.int m_thrown, .ref m_names, .ref m_forms, .int m_size, .ref m_text, .int m_bad, .int m_at, .int m_length, .ref m_word, .int m_form, .int m_code, .int m_d, .int m_s, .int m_t, .long m_value, .long m_label, .long m_name, .ref m_count, .ref m_formOf, .ref m_codeOf, .ref m_dOf, .ref m_sOf, .ref m_tOf, .ref m_valueOf, .ref m_labelOf, .ref m_nameOf, .ref m_target, .ref m_place, .ref m_far, .int m_imageSize, .int m_farCount, .ref m_image, .int u.1, .ref m_out])) :: (m_out, .inl (tp_ty E 0, 40, .inl u.2)) :: fr) t) (va_A ((aM, .inr (4, [.int m_thrown, .ref m_names, .ref m_forms, .int m_size, .ref m_text, .int m_bad, .int m_at, .int m_length, .ref m_word, .int m_form, .int m_code, .int m_d, .int m_s, .int m_t, .long m_value, .long m_label, .long m_name, .ref m_count, .ref m_formOf, .ref m_codeOf, .ref m_dOf, .ref m_sOf, .ref m_tOf, .ref m_valueOf, .ref m_labelOf, .ref m_nameOf, .ref m_target, .ref m_place, .ref m_far, .int m_imageSize, .int m_farCount, .ref m_image, .int m_written, .ref m_out])) :: (m_out, .inl (tp_ty E 0, 40, .inl f_out)) :: fr) sz)) 0 0 (va_A ((aM, .inr (4, [.int m_thrown, .ref m_names, .ref m_forms, .int m_size, .ref m_text, .int m_bad, .int m_at, .int m_length, .ref m_word, .int m_form, .int m_code, .int m_d, .int m_s, .int m_t, .long m_value, .long m_label, .long m_name, .ref m_count, .ref m_formOf, .ref m_codeOf, .ref m_dOf, .ref m_sOf, .ref m_tOf, .ref m_valueOf, .ref m_labelOf, .ref m_nameOf, .ref m_target, .ref m_place, .ref m_far, .int m_imageSize, .int m_farCount, .ref m_image, .int m_written, .ref m_out])) :: (m_out, .inl (tp_ty E 0, 40, .inl f_out)) :: fr) sz) := by
  refine Met.ofW (cc := b_M_writeRegister) (maxL := 3) (ret := none) (by decide) rfl ?_
  intro p e s m args below meth c s₁ B hml hv
  obtain ⟨rfl, hsz, hP, hK, hD0⟩ := hv
  have hx := B.exec
  have hb := B.bytes
  have hr := B.returns
  have htg : ∀ w ∈ tp_G, w.before ([.ref aM, .int xb, .int xv] : List Value).toArray s = true := fun w h => atoms_spec (ws := w_M_writeRegister) B.pre w (List.mem_cons_of_mem _ h)
  have hown : s.vm.findClass "TwoPassModel" = some m.cls := findClass_of_methodNamed B.named
  have hlocks := B.notSynchronized
  subst hsz
  have hD := hD0.self (sz := s.heap.size)
  generalize hAe : va_A ((aM, .inr (4, [.int m_thrown, .ref m_names, .ref m_forms, .int m_size, .ref m_text, .int m_bad, .int m_at, .int m_length, .ref m_word, .int m_form, .int m_code, .int m_d, .int m_s, .int m_t, .long m_value, .long m_label, .long m_name, .ref m_count, .ref m_formOf, .ref m_codeOf, .ref m_dOf, .ref m_sOf, .ref m_tOf, .ref m_valueOf, .ref m_labelOf, .ref m_nameOf, .ref m_target, .ref m_place, .ref m_far, .int m_imageSize, .int m_farCount, .ref m_image, .int m_written, .ref m_out])) :: (m_out, .inl (tp_ty E 0, 40, .inl f_out)) :: fr) s.heap.size = A at hD hK ⊢
  have hA : ∀ q : Nat, s.heap.size ≤ q → A q := fun q h => by rw [← hAe]; exact Or.inr h
  have hS : va_S A s.heap s.heap [] := va_S.rf
  have hl := lv_entry ([.ref aM, .int xb, .int xv]) (n := 3) (Nat.le_of_ble_eq_true rfl)
  rw [lg_entry_eq]
  generalize (lg_sl ([.ref aM, .int xb, .int xv]) ++ List.replicate (3 - (lg_sl ([.ref aM, .int xb, .int xv])).length) Slot.unset).toArray = ls at hl ⊢
  have hl : lv_has ls 3 [(0, .ref aM), (1, .int xb), (2, .int xv)] := hl
  refine lv_aload_n hx hb d_M_writeRegister_0 rfl (lv_at hl 0 rfl) ?_
  refine lv_iload_n hx hb d_M_writeRegister_1 rfl (lv_at hl 1 rfl) ?_
  refine tp_cv (tp_rV (As := [.int xb]) (rest := []) ⟨hx, hb, hml, hown, htg⟩ (a_M_write l E fr _ aM m_names m_forms m_text m_word m_count m_formOf m_codeOf m_dOf m_sOf m_tOf m_valueOf m_labelOf m_nameOf m_target m_place m_far m_image m_out m_thrown m_size m_bad m_at m_length m_form m_code m_d m_s m_t m_imageSize m_farCount m_written m_value m_label m_name f_out xb (tp_mr1 hc)) (⟨callB_of 1 htg (tp_good0 kc_M_write) rfl rfl rfl (htg _ ki_M) (htg _ kl_M_414) ⟨by decide, by decide, by decide +kernel⟩ ⟨Nat.le_of_ble_eq_true rfl, Nat.le_of_ble_eq_true rfl⟩, htg _ km_M_write, htg _ kp_M_write⟩) (va_recv (ci := 4) (q0 := 0) hK.1 hP rfl rfl) hK hP hD hS hA rfl hl.1 rfl (Nat.le_of_ble_eq_true rfl) d_M_writeRegister_2 ⟨Nat.le_of_ble_eq_true rfl, Nat.le_of_ble_eq_true rfl⟩) hD hS hA (fun u H locs hw hP hD hS => ?_)
  obtain ⟨wq1, oq1⟩ := u
  have hwq1 : wq1.toInt = m_written.toInt + 1 := hw
  have hP : va_P (tp_D E) tp_cl ((aM, .inr (4, [.int m_thrown, .ref m_names, .ref m_forms, .int m_size, .ref m_text, .int m_bad, .int m_at, .int m_length, .ref m_word, .int m_form, .int m_code, .int m_d, .int m_s, .int m_t, .long m_value, .long m_label, .long m_name, .ref m_count, .ref m_formOf, .ref m_codeOf, .ref m_dOf, .ref m_sOf, .ref m_tOf, .ref m_valueOf, .ref m_labelOf, .ref m_nameOf, .ref m_target, .ref m_place, .ref m_far, .int m_imageSize, .int m_farCount, .ref m_image, .int wq1, .ref m_out])) :: (m_out, .inl (tp_ty E 0, 40, .inl oq1)) :: fr) H := hP
  have hD : va_D A ((aM, .inr (4, [.int m_thrown, .ref m_names, .ref m_forms, .int m_size, .ref m_text, .int m_bad, .int m_at, .int m_length, .ref m_word, .int m_form, .int m_code, .int m_d, .int m_s, .int m_t, .long m_value, .long m_label, .long m_name, .ref m_count, .ref m_formOf, .ref m_codeOf, .ref m_dOf, .ref m_sOf, .ref m_tOf, .ref m_valueOf, .ref m_labelOf, .ref m_nameOf, .ref m_target, .ref m_place, .ref m_far, .int m_imageSize, .int m_farCount, .ref m_image, .int wq1, .ref m_out])) :: (m_out, .inl (tp_ty E 0, 40, .inl oq1)) :: fr) := hD
  refine lv_aload_n hx hb d_M_writeRegister_5 rfl (lv_at hl 0 rfl) ?_
  refine lv_bipush (v := 120) hx hb d_M_writeRegister_6 (by decide) ?_
  refine tp_cv (tp_rV (As := [.int 120]) (rest := []) ⟨hx, hb, hml, hown, htg⟩ (a_M_write l E fr _ aM m_names m_forms m_text m_word m_count m_formOf m_codeOf m_dOf m_sOf m_tOf m_valueOf m_labelOf m_nameOf m_target m_place m_far m_image m_out m_thrown m_size m_bad m_at m_length m_form m_code m_d m_s m_t m_imageSize m_farCount wq1 m_value m_label m_name oq1 120 (tp_mr2 hc hwq1)) (⟨callB_of 1 htg (tp_good0 kc_M_write) rfl rfl rfl (htg _ ki_M) (htg _ kl_M_414) ⟨by decide, by decide, by decide +kernel⟩ ⟨Nat.le_of_ble_eq_true rfl, Nat.le_of_ble_eq_true rfl⟩, htg _ km_M_write, htg _ kp_M_write⟩) (va_recv (ci := 4) (q0 := 0) hK.1 hP rfl rfl) hK hP hD hS hA rfl hl.1 rfl (Nat.le_of_ble_eq_true rfl) d_M_writeRegister_8 ⟨Nat.le_of_ble_eq_true rfl, Nat.le_of_ble_eq_true rfl⟩) hD hS hA (fun u H locs hw hP hD hS => ?_)
  obtain ⟨wq2, oq2⟩ := u
  have hwq2 : wq2.toInt = wq1.toInt + 1 := hw
  have hP : va_P (tp_D E) tp_cl ((aM, .inr (4, [.int m_thrown, .ref m_names, .ref m_forms, .int m_size, .ref m_text, .int m_bad, .int m_at, .int m_length, .ref m_word, .int m_form, .int m_code, .int m_d, .int m_s, .int m_t, .long m_value, .long m_label, .long m_name, .ref m_count, .ref m_formOf, .ref m_codeOf, .ref m_dOf, .ref m_sOf, .ref m_tOf, .ref m_valueOf, .ref m_labelOf, .ref m_nameOf, .ref m_target, .ref m_place, .ref m_far, .int m_imageSize, .int m_farCount, .ref m_image, .int wq2, .ref m_out])) :: (m_out, .inl (tp_ty E 0, 40, .inl oq2)) :: fr) H := hP
  have hD : va_D A ((aM, .inr (4, [.int m_thrown, .ref m_names, .ref m_forms, .int m_size, .ref m_text, .int m_bad, .int m_at, .int m_length, .ref m_word, .int m_form, .int m_code, .int m_d, .int m_s, .int m_t, .long m_value, .long m_label, .long m_name, .ref m_count, .ref m_formOf, .ref m_codeOf, .ref m_dOf, .ref m_sOf, .ref m_tOf, .ref m_valueOf, .ref m_labelOf, .ref m_nameOf, .ref m_target, .ref m_place, .ref m_far, .int m_imageSize, .int m_farCount, .ref m_image, .int wq2, .ref m_out])) :: (m_out, .inl (tp_ty E 0, 40, .inl oq2)) :: fr) := hD
  refine lv_aload_n hx hb d_M_writeRegister_11 rfl (lv_at hl 0 rfl) ?_
  refine lv_iload_n hx hb d_M_writeRegister_12 rfl (lv_at hl 2 rfl) ?_
  refine tp_cv (tp_rV (As := [.int xv]) (rest := []) ⟨hx, hb, hml, hown, htg⟩ (a_M_writeNumber l E fr _ aM m_names m_forms m_text m_word m_count m_formOf m_codeOf m_dOf m_sOf m_tOf m_valueOf m_labelOf m_nameOf m_target m_place m_far m_image m_out m_thrown m_size m_bad m_at m_length m_form m_code m_d m_s m_t m_imageSize m_farCount wq2 m_value m_label m_name oq2 xv (tp_mr3 hc hwq1 hwq2)) (⟨callB_of 1 htg (tp_good0 kc_M_writeNumber) rfl rfl rfl (htg _ ki_M) (htg _ kl_M_419) ⟨by decide, by decide, by decide +kernel⟩ ⟨Nat.le_of_ble_eq_true rfl, Nat.le_of_ble_eq_true rfl⟩, htg _ km_M_writeNumber, htg _ kp_M_writeNumber⟩) (va_recv (ci := 4) (q0 := 0) hK.1 hP rfl rfl) hK hP hD hS hA rfl hl.1 rfl (Nat.le_of_ble_eq_true rfl) d_M_writeRegister_13 ⟨Nat.le_of_ble_eq_true rfl, Nat.le_of_ble_eq_true rfl⟩) hD hS hA (fun u H locs hw hP hD hS => ?_)
  obtain ⟨wq3, oq3⟩ := u
  have hwq3 : wq3.toInt = wq2.toInt + (tp_dl xv : Int) := hw
  have hP : va_P (tp_D E) tp_cl ((aM, .inr (4, [.int m_thrown, .ref m_names, .ref m_forms, .int m_size, .ref m_text, .int m_bad, .int m_at, .int m_length, .ref m_word, .int m_form, .int m_code, .int m_d, .int m_s, .int m_t, .long m_value, .long m_label, .long m_name, .ref m_count, .ref m_formOf, .ref m_codeOf, .ref m_dOf, .ref m_sOf, .ref m_tOf, .ref m_valueOf, .ref m_labelOf, .ref m_nameOf, .ref m_target, .ref m_place, .ref m_far, .int m_imageSize, .int m_farCount, .ref m_image, .int wq3, .ref m_out])) :: (m_out, .inl (tp_ty E 0, 40, .inl oq3)) :: fr) H := hP
  have hD : va_D A ((aM, .inr (4, [.int m_thrown, .ref m_names, .ref m_forms, .int m_size, .ref m_text, .int m_bad, .int m_at, .int m_length, .ref m_word, .int m_form, .int m_code, .int m_d, .int m_s, .int m_t, .long m_value, .long m_label, .long m_name, .ref m_count, .ref m_formOf, .ref m_codeOf, .ref m_dOf, .ref m_sOf, .ref m_tOf, .ref m_valueOf, .ref m_labelOf, .ref m_nameOf, .ref m_target, .ref m_place, .ref m_far, .int m_imageSize, .int m_farCount, .ref m_image, .int wq3, .ref m_out])) :: (m_out, .inl (tp_ty E 0, 40, .inl oq3)) :: fr) := hD
  exact W.vret hx hb hr (fun t ht hW => ⟨⟨(wq3, oq3), rfl, tp_mr4 hwq1 hwq2 hwq3, by rw [ht]; exact hP, hD⟩, hS.F ht⟩) hS.2.2 d_M_writeRegister_16
set_option maxHeartbeats 4000000 in
set_option maxRecDepth 100000 in
theorem a_M_signed12 (l : Launch) (E : tp_Env) (fr : va_W) (sz : Nat) (xv : Int32)  : Met l y_M_signed w_M_signed ({ frames := 0, cells := 0, slots := 0, locals := 0 }) (va_Pc [.int xv, .int 12] (tp_in E fr sz)) (va_Qi (fun r (_ : Unit) => r = (if xv < 2048 then xv else xv - 4096)) (fun _ t => tp_out E (va_A fr sz) fr t) (va_A fr sz)) 0 0 (va_A fr sz) := by
  refine Met.ofW (cc := b_M_signed) (maxL := 2) (ret := (some .int)) (by decide) rfl ?_
  intro p e s m args below meth c s₁ B hml hv
  obtain ⟨rfl, hsz, hP, hK, hD0⟩ := hv
  have hx := B.exec
  have hb := B.bytes
  have hr := B.returns
  have htg : ∀ w ∈ tp_G, w.before ([.int xv, .int 12] : List Value).toArray s = true := fun w h => atoms_spec (ws := w_M_signed) B.pre w (List.mem_cons_of_mem _ h)
  have hown : s.vm.findClass "TwoPassModel" = some m.cls := findClass_of_methodNamed B.named
  have hlocks := B.notSynchronized
  subst hsz
  have hD := hD0.self (sz := s.heap.size)
  generalize hAe : va_A fr s.heap.size = A at hD hK ⊢
  have hA : ∀ q : Nat, s.heap.size ≤ q → A q := fun q h => by rw [← hAe]; exact Or.inr h
  have hS : va_S A s.heap s.heap [] := va_S.rf
  have hl := lv_entry ([.int xv, .int 12]) (n := 2) (Nat.le_of_ble_eq_true rfl)
  rw [lg_entry_eq]
  generalize (lg_sl ([.int xv, .int 12]) ++ List.replicate (2 - (lg_sl ([.int xv, .int 12])).length) Slot.unset).toArray = ls at hl ⊢
  have hl : lv_has ls 2 [(0, .int xv), (1, .int 12)] := hl
  refine lv_iload_n hx hb d_M_signed_0 rfl (lv_at hl 0 rfl) ?_
  refine lv_iconst (v := 1) hx hb d_M_signed_1 (by decide) ?_
  refine lv_iload_n hx hb d_M_signed_2 rfl (lv_at hl 1 rfl) ?_
  refine lv_iconst (v := 1) hx hb d_M_signed_3 (by decide) ?_
  refine lv_isub hx hb d_M_signed_4 ?_
  refine tp_topi (v := 11) (by decide) ?_
  refine lv_ishl hx hb d_M_signed_5 ?_
  refine tp_topi (v := 2048) (by decide) ?_
  by_cases h1 : xv < 2048
  · refine lv_icmp_lt (tgt := 17) hx hb d_M_signed_6 (by decide) (fun _ => ?_) (fun h => absurd h1 h)
    refine lv_iload_n hx hb d_M_signed_17 rfl (lv_at hl 0 rfl) ?_
    exact W.iret (v := xv) hx hb hr (fun t ht hW => ⟨⟨_, (), rfl, (by rw [if_pos h1]), by rw [ht]; exact hP, hD⟩, hS.F ht⟩) hS.2.2 d_M_signed_18
  · refine lv_icmp_lt (tgt := 17) hx hb d_M_signed_6 (by decide) (fun h => absurd h h1) (fun _ => ?_)
    refine lv_iload_n hx hb d_M_signed_9 rfl (lv_at hl 0 rfl) ?_
    refine lv_iconst (v := 1) hx hb d_M_signed_10 (by decide) ?_
    refine lv_iload_n hx hb d_M_signed_11 rfl (lv_at hl 1 rfl) ?_
    refine lv_ishl hx hb d_M_signed_12 ?_
    refine tp_topi (v := 4096) (by decide) ?_
    refine lv_isub hx hb d_M_signed_13 ?_
    refine lv_goto (tgt := 18) hx hb d_M_signed_14 (by decide) ?_
    exact W.iret (v := (xv - 4096)) hx hb hr (fun t ht hW => ⟨⟨_, (), rfl, (by rw [if_neg h1]), by rw [ht]; exact hP, hD⟩, hS.F ht⟩) hS.2.2 d_M_signed_18
set_option maxHeartbeats 4000000 in
set_option maxRecDepth 100000 in
theorem a_M_signed13 (l : Launch) (E : tp_Env) (fr : va_W) (sz : Nat) (xv : Int32)  : Met l y_M_signed w_M_signed ({ frames := 0, cells := 0, slots := 0, locals := 0 }) (va_Pc [.int xv, .int 13] (tp_in E fr sz)) (va_Qi (fun r (_ : Unit) => r = (if xv < 4096 then xv else xv - 8192)) (fun _ t => tp_out E (va_A fr sz) fr t) (va_A fr sz)) 0 0 (va_A fr sz) := by
  refine Met.ofW (cc := b_M_signed) (maxL := 2) (ret := (some .int)) (by decide) rfl ?_
  intro p e s m args below meth c s₁ B hml hv
  obtain ⟨rfl, hsz, hP, hK, hD0⟩ := hv
  have hx := B.exec
  have hb := B.bytes
  have hr := B.returns
  have htg : ∀ w ∈ tp_G, w.before ([.int xv, .int 13] : List Value).toArray s = true := fun w h => atoms_spec (ws := w_M_signed) B.pre w (List.mem_cons_of_mem _ h)
  have hown : s.vm.findClass "TwoPassModel" = some m.cls := findClass_of_methodNamed B.named
  have hlocks := B.notSynchronized
  subst hsz
  have hD := hD0.self (sz := s.heap.size)
  generalize hAe : va_A fr s.heap.size = A at hD hK ⊢
  have hA : ∀ q : Nat, s.heap.size ≤ q → A q := fun q h => by rw [← hAe]; exact Or.inr h
  have hS : va_S A s.heap s.heap [] := va_S.rf
  have hl := lv_entry ([.int xv, .int 13]) (n := 2) (Nat.le_of_ble_eq_true rfl)
  rw [lg_entry_eq]
  generalize (lg_sl ([.int xv, .int 13]) ++ List.replicate (2 - (lg_sl ([.int xv, .int 13])).length) Slot.unset).toArray = ls at hl ⊢
  have hl : lv_has ls 2 [(0, .int xv), (1, .int 13)] := hl
  refine lv_iload_n hx hb d_M_signed_0 rfl (lv_at hl 0 rfl) ?_
  refine lv_iconst (v := 1) hx hb d_M_signed_1 (by decide) ?_
  refine lv_iload_n hx hb d_M_signed_2 rfl (lv_at hl 1 rfl) ?_
  refine lv_iconst (v := 1) hx hb d_M_signed_3 (by decide) ?_
  refine lv_isub hx hb d_M_signed_4 ?_
  refine tp_topi (v := 12) (by decide) ?_
  refine lv_ishl hx hb d_M_signed_5 ?_
  refine tp_topi (v := 4096) (by decide) ?_
  by_cases h1 : xv < 4096
  · refine lv_icmp_lt (tgt := 17) hx hb d_M_signed_6 (by decide) (fun _ => ?_) (fun h => absurd h1 h)
    refine lv_iload_n hx hb d_M_signed_17 rfl (lv_at hl 0 rfl) ?_
    exact W.iret (v := xv) hx hb hr (fun t ht hW => ⟨⟨_, (), rfl, (by rw [if_pos h1]), by rw [ht]; exact hP, hD⟩, hS.F ht⟩) hS.2.2 d_M_signed_18
  · refine lv_icmp_lt (tgt := 17) hx hb d_M_signed_6 (by decide) (fun h => absurd h h1) (fun _ => ?_)
    refine lv_iload_n hx hb d_M_signed_9 rfl (lv_at hl 0 rfl) ?_
    refine lv_iconst (v := 1) hx hb d_M_signed_10 (by decide) ?_
    refine lv_iload_n hx hb d_M_signed_11 rfl (lv_at hl 1 rfl) ?_
    refine lv_ishl hx hb d_M_signed_12 ?_
    refine tp_topi (v := 8192) (by decide) ?_
    refine lv_isub hx hb d_M_signed_13 ?_
    refine lv_goto (tgt := 18) hx hb d_M_signed_14 (by decide) ?_
    exact W.iret (v := (xv - 8192)) hx hb hr (fun t ht hW => ⟨⟨_, (), rfl, (by rw [if_neg h1]), by rw [ht]; exact hP, hD⟩, hS.F ht⟩) hS.2.2 d_M_signed_18
set_option maxHeartbeats 4000000 in
set_option maxRecDepth 100000 in
theorem a_M_signed21 (l : Launch) (E : tp_Env) (fr : va_W) (sz : Nat) (xv : Int32)  : Met l y_M_signed w_M_signed ({ frames := 0, cells := 0, slots := 0, locals := 0 }) (va_Pc [.int xv, .int 21] (tp_in E fr sz)) (va_Qi (fun r (_ : Unit) => r = (if xv < 1048576 then xv else xv - 2097152)) (fun _ t => tp_out E (va_A fr sz) fr t) (va_A fr sz)) 0 0 (va_A fr sz) := by
  refine Met.ofW (cc := b_M_signed) (maxL := 2) (ret := (some .int)) (by decide) rfl ?_
  intro p e s m args below meth c s₁ B hml hv
  obtain ⟨rfl, hsz, hP, hK, hD0⟩ := hv
  have hx := B.exec
  have hb := B.bytes
  have hr := B.returns
  have htg : ∀ w ∈ tp_G, w.before ([.int xv, .int 21] : List Value).toArray s = true := fun w h => atoms_spec (ws := w_M_signed) B.pre w (List.mem_cons_of_mem _ h)
  have hown : s.vm.findClass "TwoPassModel" = some m.cls := findClass_of_methodNamed B.named
  have hlocks := B.notSynchronized
  subst hsz
  have hD := hD0.self (sz := s.heap.size)
  generalize hAe : va_A fr s.heap.size = A at hD hK ⊢
  have hA : ∀ q : Nat, s.heap.size ≤ q → A q := fun q h => by rw [← hAe]; exact Or.inr h
  have hS : va_S A s.heap s.heap [] := va_S.rf
  have hl := lv_entry ([.int xv, .int 21]) (n := 2) (Nat.le_of_ble_eq_true rfl)
  rw [lg_entry_eq]
  generalize (lg_sl ([.int xv, .int 21]) ++ List.replicate (2 - (lg_sl ([.int xv, .int 21])).length) Slot.unset).toArray = ls at hl ⊢
  have hl : lv_has ls 2 [(0, .int xv), (1, .int 21)] := hl
  refine lv_iload_n hx hb d_M_signed_0 rfl (lv_at hl 0 rfl) ?_
  refine lv_iconst (v := 1) hx hb d_M_signed_1 (by decide) ?_
  refine lv_iload_n hx hb d_M_signed_2 rfl (lv_at hl 1 rfl) ?_
  refine lv_iconst (v := 1) hx hb d_M_signed_3 (by decide) ?_
  refine lv_isub hx hb d_M_signed_4 ?_
  refine tp_topi (v := 20) (by decide) ?_
  refine lv_ishl hx hb d_M_signed_5 ?_
  refine tp_topi (v := 1048576) (by decide) ?_
  by_cases h1 : xv < 1048576
  · refine lv_icmp_lt (tgt := 17) hx hb d_M_signed_6 (by decide) (fun _ => ?_) (fun h => absurd h1 h)
    refine lv_iload_n hx hb d_M_signed_17 rfl (lv_at hl 0 rfl) ?_
    exact W.iret (v := xv) hx hb hr (fun t ht hW => ⟨⟨_, (), rfl, (by rw [if_pos h1]), by rw [ht]; exact hP, hD⟩, hS.F ht⟩) hS.2.2 d_M_signed_18
  · refine lv_icmp_lt (tgt := 17) hx hb d_M_signed_6 (by decide) (fun h => absurd h h1) (fun _ => ?_)
    refine lv_iload_n hx hb d_M_signed_9 rfl (lv_at hl 0 rfl) ?_
    refine lv_iconst (v := 1) hx hb d_M_signed_10 (by decide) ?_
    refine lv_iload_n hx hb d_M_signed_11 rfl (lv_at hl 1 rfl) ?_
    refine lv_ishl hx hb d_M_signed_12 ?_
    refine tp_topi (v := 2097152) (by decide) ?_
    refine lv_isub hx hb d_M_signed_13 ?_
    refine lv_goto (tgt := 18) hx hb d_M_signed_14 (by decide) ?_
    exact W.iret (v := (xv - 2097152)) hx hb hr (fun t ht hW => ⟨⟨_, (), rfl, (by rw [if_neg h1]), by rw [ht]; exact hP, hD⟩, hS.F ht⟩) hS.2.2 d_M_signed_18
set_option maxHeartbeats 4000000 in
set_option maxRecDepth 100000 in
theorem a_M_operationOf (l : Launch) (E : tp_Env) (fr : va_W) (sz : Nat) (aM m_names m_forms m_text m_word m_count m_formOf m_codeOf m_dOf m_sOf m_tOf m_valueOf m_labelOf m_nameOf m_target m_place m_far m_image m_out : Nat) (m_thrown m_size m_bad m_at m_length m_form m_code m_d m_s m_t m_imageSize m_farCount m_written : Int32) (m_value m_label m_name : Int64) (f_forms : Nat → Int32) (xw : Int32)  : Met l y_M_operationOf w_M_operationOf ({ frames := 0, cells := 0, slots := 0, locals := 0 }) (va_Pc [.ref aM, .int xw] (tp_in E ((aM, .inr (4, [.int m_thrown, .ref m_names, .ref m_forms, .int m_size, .ref m_text, .int m_bad, .int m_at, .int m_length, .ref m_word, .int m_form, .int m_code, .int m_d, .int m_s, .int m_t, .long m_value, .long m_label, .long m_name, .ref m_count, .ref m_formOf, .ref m_codeOf, .ref m_dOf, .ref m_sOf, .ref m_tOf, .ref m_valueOf, .ref m_labelOf, .ref m_nameOf, .ref m_target, .ref m_place, .ref m_far, .int m_imageSize, .int m_farCount, .ref m_image, .int m_written, .ref m_out])) :: (m_forms, .inl (tp_ty E 0, 46, .inl f_forms)) :: fr) sz)) (va_Qi (fun r (_ : Unit) => tp_mhit xw f_forms r) (fun _ t => tp_out E (va_A ((aM, .inr (4, [.int m_thrown, .ref m_names, .ref m_forms, .int m_size, .ref m_text, .int m_bad, .int m_at, .int m_length, .ref m_word, .int m_form, .int m_code, .int m_d, .int m_s, .int m_t, .long m_value, .long m_label, .long m_name, .ref m_count, .ref m_formOf, .ref m_codeOf, .ref m_dOf, .ref m_sOf, .ref m_tOf, .ref m_valueOf, .ref m_labelOf, .ref m_nameOf, .ref m_target, .ref m_place, .ref m_far, .int m_imageSize, .int m_farCount, .ref m_image, .int m_written, .ref m_out])) :: (m_forms, .inl (tp_ty E 0, 46, .inl f_forms)) :: fr) sz) ((aM, .inr (4, [.int m_thrown, .ref m_names, .ref m_forms, .int m_size, .ref m_text, .int m_bad, .int m_at, .int m_length, .ref m_word, .int m_form, .int m_code, .int m_d, .int m_s, .int m_t, .long m_value, .long m_label, .long m_name, .ref m_count, .ref m_formOf, .ref m_codeOf, .ref m_dOf, .ref m_sOf, .ref m_tOf, .ref m_valueOf, .ref m_labelOf, .ref m_nameOf, .ref m_target, .ref m_place, .ref m_far, .int m_imageSize, .int m_farCount, .ref m_image, .int m_written, .ref m_out])) :: (m_forms, .inl (tp_ty E 0, 46, .inl f_forms)) :: fr) t) (va_A ((aM, .inr (4, [.int m_thrown, .ref m_names, .ref m_forms, .int m_size, .ref m_text, .int m_bad, .int m_at, .int m_length, .ref m_word, .int m_form, .int m_code, .int m_d, .int m_s, .int m_t, .long m_value, .long m_label, .long m_name, .ref m_count, .ref m_formOf, .ref m_codeOf, .ref m_dOf, .ref m_sOf, .ref m_tOf, .ref m_valueOf, .ref m_labelOf, .ref m_nameOf, .ref m_target, .ref m_place, .ref m_far, .int m_imageSize, .int m_farCount, .ref m_image, .int m_written, .ref m_out])) :: (m_forms, .inl (tp_ty E 0, 46, .inl f_forms)) :: fr) sz)) 0 0 (va_A ((aM, .inr (4, [.int m_thrown, .ref m_names, .ref m_forms, .int m_size, .ref m_text, .int m_bad, .int m_at, .int m_length, .ref m_word, .int m_form, .int m_code, .int m_d, .int m_s, .int m_t, .long m_value, .long m_label, .long m_name, .ref m_count, .ref m_formOf, .ref m_codeOf, .ref m_dOf, .ref m_sOf, .ref m_tOf, .ref m_valueOf, .ref m_labelOf, .ref m_nameOf, .ref m_target, .ref m_place, .ref m_far, .int m_imageSize, .int m_farCount, .ref m_image, .int m_written, .ref m_out])) :: (m_forms, .inl (tp_ty E 0, 46, .inl f_forms)) :: fr) sz) := by
  refine Met.ofW (cc := b_M_operationOf) (maxL := 9) (ret := (some .int)) (by decide) rfl ?_
  intro p e s m args below meth c s₁ B hml hv
  obtain ⟨rfl, hsz, hP, hK, hD0⟩ := hv
  have hx := B.exec
  have hb := B.bytes
  have hr := B.returns
  have htg : ∀ w ∈ tp_G, w.before ([.ref aM, .int xw] : List Value).toArray s = true := fun w h => atoms_spec (ws := w_M_operationOf) B.pre w (List.mem_cons_of_mem _ h)
  have hown : s.vm.findClass "TwoPassModel" = some m.cls := findClass_of_methodNamed B.named
  have hlocks := B.notSynchronized
  subst hsz
  have hD := hD0.self (sz := s.heap.size)
  generalize hAe : va_A ((aM, .inr (4, [.int m_thrown, .ref m_names, .ref m_forms, .int m_size, .ref m_text, .int m_bad, .int m_at, .int m_length, .ref m_word, .int m_form, .int m_code, .int m_d, .int m_s, .int m_t, .long m_value, .long m_label, .long m_name, .ref m_count, .ref m_formOf, .ref m_codeOf, .ref m_dOf, .ref m_sOf, .ref m_tOf, .ref m_valueOf, .ref m_labelOf, .ref m_nameOf, .ref m_target, .ref m_place, .ref m_far, .int m_imageSize, .int m_farCount, .ref m_image, .int m_written, .ref m_out])) :: (m_forms, .inl (tp_ty E 0, 46, .inl f_forms)) :: fr) s.heap.size = A at hD hK ⊢
  have hA : ∀ q : Nat, s.heap.size ≤ q → A q := fun q h => by rw [← hAe]; exact Or.inr h
  have hS : va_S A s.heap s.heap [] := va_S.rf
  have hl := lv_entry ([.ref aM, .int xw]) (n := 9) (Nat.le_of_ble_eq_true rfl)
  rw [lg_entry_eq]
  generalize (lg_sl ([.ref aM, .int xw]) ++ List.replicate (9 - (lg_sl ([.ref aM, .int xw])).length) Slot.unset).toArray = ls at hl ⊢
  have hl : lv_has ls 9 [(0, .ref aM), (1, .int xw)] := hl
  refine lv_iload_n hx hb d_M_operationOf_0 rfl (lv_at hl 1 rfl) ?_
  refine lv_bipush (v := 127) hx hb d_M_operationOf_1 (by decide) ?_
  refine lv_iand hx hb d_M_operationOf_3 ?_
  refine lv_istore_n (lv' := [(2, .int (xw &&& 127)), (0, .ref aM), (1, .int xw)]) hx hb d_M_operationOf_4 rfl hl (by decide) rfl (fun ls hl => ?_)
  refine lv_iload_n hx hb d_M_operationOf_5 rfl (lv_at hl 2 rfl) ?_
  refine lv_bipush (v := 12) hx hb d_M_operationOf_6 (by decide) ?_
  refine lv_ishr hx hb d_M_operationOf_8 ?_
  refine lv_bipush (v := 7) hx hb d_M_operationOf_9 (by decide) ?_
  refine lv_iand hx hb d_M_operationOf_11 ?_
  refine lv_istore_n (lv' := [(3, .int ((xw >>> (12 &&& 31 : Int32)) &&& 7)), (2, .int (xw &&& 127)), (0, .ref aM), (1, .int xw)]) hx hb d_M_operationOf_12 rfl hl (by decide) rfl (fun ls hl => ?_)
  refine lv_iload_n hx hb d_M_operationOf_13 rfl (lv_at hl 3 rfl) ?_
  refine lv_bipush (v := 25) hx hb d_M_operationOf_14 (by decide) ?_
  refine lv_iushr (v := (xw.toUInt32 >>> (Int32.toUInt32 25 &&& Int32.toUInt32 31)).toInt32) hx hb d_M_operationOf_16 rfl ?_
  refine lv_istore (lv' := [(4, .int ((xw.toUInt32 >>> (Int32.toUInt32 25 &&& Int32.toUInt32 31)).toInt32)), (3, .int ((xw >>> (12 &&& 31 : Int32)) &&& 7)), (2, .int (xw &&& 127)), (0, .ref aM), (1, .int xw)]) hx hb d_M_operationOf_17 hl (by decide) rfl (fun ls hl => ?_)
  refine lv_iconst (v := 0) hx hb d_M_operationOf_19 (by decide) ?_
  refine lv_istore (lv' := [(5, .int 0), (4, .int ((xw.toUInt32 >>> (Int32.toUInt32 25 &&& Int32.toUInt32 31)).toInt32)), (3, .int ((xw >>> (12 &&& 31 : Int32)) &&& 7)), (2, .int (xw &&& 127)), (0, .ref aM), (1, .int xw)]) hx hb d_M_operationOf_20 hl (by decide) rfl (fun ls hl => ?_)
  refine tp_loop (fun j ls H locs (k : Int32) => ((0 ≤ k.toInt) ∧ (k.toInt + (j : Int) = 33) ∧ (∀ i : Nat, i < k.toInt.toNat → ¬ tp_mm xw (f_forms i))) ∧ lv_has ls 9 [(5, .int k), (4, .int ((xw.toUInt32 >>> (Int32.toUInt32 25 &&& Int32.toUInt32 31)).toInt32)), (3, .int ((xw >>> (12 &&& 31 : Int32)) &&& 7)), (2, .int (xw &&& 127)), (0, .ref aM), (1, .int xw)] ∧ va_P (tp_D E) tp_cl ((aM, .inr (4, [.int m_thrown, .ref m_names, .ref m_forms, .int m_size, .ref m_text, .int m_bad, .int m_at, .int m_length, .ref m_word, .int m_form, .int m_code, .int m_d, .int m_s, .int m_t, .long m_value, .long m_label, .long m_name, .ref m_count, .ref m_formOf, .ref m_codeOf, .ref m_dOf, .ref m_sOf, .ref m_tOf, .ref m_valueOf, .ref m_labelOf, .ref m_nameOf, .ref m_target, .ref m_place, .ref m_far, .int m_imageSize, .int m_farCount, .ref m_image, .int m_written, .ref m_out])) :: (m_forms, .inl (tp_ty E 0, 46, .inl f_forms)) :: fr) H ∧ va_D A ((aM, .inr (4, [.int m_thrown, .ref m_names, .ref m_forms, .int m_size, .ref m_text, .int m_bad, .int m_at, .int m_length, .ref m_word, .int m_form, .int m_code, .int m_d, .int m_s, .int m_t, .long m_value, .long m_label, .long m_name, .ref m_count, .ref m_formOf, .ref m_codeOf, .ref m_dOf, .ref m_sOf, .ref m_tOf, .ref m_valueOf, .ref m_labelOf, .ref m_nameOf, .ref m_target, .ref m_place, .ref m_far, .int m_imageSize, .int m_farCount, .ref m_image, .int m_written, .ref m_out])) :: (m_forms, .inl (tp_ty E 0, 46, .inl f_forms)) :: fr) ∧ va_S A s.heap H locs) ?_ _ 0 ⟨⟨by decide, show (0 : Int32).toInt + ((33 : Nat) : Int) = 33 from by decide, fun i z => absurd z (by rw [Int32.toInt_zero]; omega)⟩, tp_lvI hl [0, 1, 2, 3, 4, 5] rfl, hP, hD, hS⟩
  intro j k ls H locs hI ih
  obtain ⟨⟨hk0, hj, hno⟩, hl, hP, hD, hS⟩ := hI
  refine lv_iload hx hb d_M_operationOf_22 (lv_at hl 0 rfl) ?_
  refine lv_bipush (v := 33) hx hb d_M_operationOf_24 (by decide) ?_
  by_cases h1 : 33 ≤ k
  · refine lv_icmp_ge (tgt := 202) hx hb d_M_operationOf_26 (by decide) (fun _ => ?_) (fun h => absurd h1 h)
    refine lv_iconst (v := (-1)) hx hb d_M_operationOf_202 (by decide) ?_
    exact W.iret (v := (-1)) hx hb hr (fun t ht hW => ⟨⟨_, (), rfl, Or.inl ⟨rfl, tp_allmm hno h1⟩, by rw [ht]; exact hP, hD⟩, hS.F ht⟩) hS.2.2 d_M_operationOf_203
  · refine lv_icmp_ge (tgt := 202) hx hb d_M_operationOf_26 (by decide) (fun h => absurd h h1) (fun _ => ?_)
    refine lv_aload_n hx hb d_M_operationOf_29 rfl (lv_at hl 4 rfl) ?_
    refine va_get (D := tp_D E) (ci := 4) (v := .ref m_forms) (C := qR_M) (T := qF_M) (N := 34) hx hb htg qi_M hown hK.1 hP 0 rfl rfl 2 (by decide) (htg _ kl_M_13) (fun _ h => h) rfl d_M_operationOf_30 ?_
    refine lv_iload hx hb d_M_operationOf_33 (lv_at hl 0 rfl) ?_
    refine va_iald (D := tp_D E) hx hb hK.1 hP 1 0 rfl rfl (tp_k33 hk0 h1) d_M_operationOf_35 ?_
    refine lv_ldcw (v := 100000) hx hb hown (htg _ kl_M_321) d_M_operationOf_36 ?_
    refine lv_idiv hx hb d_M_operationOf_39 (by decide) ?_
    refine lv_istore (lv' := [(6, .int ((f_forms k.toNatClampNeg) / 100000)), (5, .int k), (4, .int ((xw.toUInt32 >>> (Int32.toUInt32 25 &&& Int32.toUInt32 31)).toInt32)), (3, .int ((xw >>> (12 &&& 31 : Int32)) &&& 7)), (2, .int (xw &&& 127)), (0, .ref aM), (1, .int xw)]) hx hb d_M_operationOf_40 hl (by decide) rfl (fun ls hl => ?_)
    refine tp_join (pc' := 97) (fun ls H locs (is1 : Int32) => (((is1 = 1 ∧ tp_mA xw (f_forms k.toNatClampNeg)) ∨ (is1 = 0 ∧ ¬ tp_mA xw (f_forms k.toNatClampNeg)))) ∧ lv_has ls 9 [(7, .int is1), (6, .int ((f_forms k.toNatClampNeg) / 100000)), (5, .int k), (4, .int ((xw.toUInt32 >>> (Int32.toUInt32 25 &&& Int32.toUInt32 31)).toInt32)), (3, .int ((xw >>> (12 &&& 31 : Int32)) &&& 7)), (2, .int (xw &&& 127)), (0, .ref aM), (1, .int xw)] ∧ va_P (tp_D E) tp_cl ((aM, .inr (4, [.int m_thrown, .ref m_names, .ref m_forms, .int m_size, .ref m_text, .int m_bad, .int m_at, .int m_length, .ref m_word, .int m_form, .int m_code, .int m_d, .int m_s, .int m_t, .long m_value, .long m_label, .long m_name, .ref m_count, .ref m_formOf, .ref m_codeOf, .ref m_dOf, .ref m_sOf, .ref m_tOf, .ref m_valueOf, .ref m_labelOf, .ref m_nameOf, .ref m_target, .ref m_place, .ref m_far, .int m_imageSize, .int m_farCount, .ref m_image, .int m_written, .ref m_out])) :: (m_forms, .inl (tp_ty E 0, 46, .inl f_forms)) :: fr) H ∧ va_D A ((aM, .inr (4, [.int m_thrown, .ref m_names, .ref m_forms, .int m_size, .ref m_text, .int m_bad, .int m_at, .int m_length, .ref m_word, .int m_form, .int m_code, .int m_d, .int m_s, .int m_t, .long m_value, .long m_label, .long m_name, .ref m_count, .ref m_formOf, .ref m_codeOf, .ref m_dOf, .ref m_sOf, .ref m_tOf, .ref m_valueOf, .ref m_labelOf, .ref m_nameOf, .ref m_target, .ref m_place, .ref m_far, .int m_imageSize, .int m_farCount, .ref m_image, .int m_written, .ref m_out])) :: (m_forms, .inl (tp_ty E 0, 46, .inl f_forms)) :: fr) ∧ va_S A s.heap H locs) ?_ ?_
    · intro is1 ls H locs hI
      obtain ⟨hi1, hl, hP, hD, hS⟩ := hI
      refine tp_join (pc' := 118) (fun ls H locs (mk : Int32) => (((mk = 1 ∧ tp_mB (f_forms k.toNatClampNeg)) ∨ (mk = 0 ∧ ¬ tp_mB (f_forms k.toNatClampNeg)))) ∧ lv_has ls 9 [(8, .int mk), (7, .int is1), (6, .int ((f_forms k.toNatClampNeg) / 100000)), (5, .int k), (4, .int ((xw.toUInt32 >>> (Int32.toUInt32 25 &&& Int32.toUInt32 31)).toInt32)), (3, .int ((xw >>> (12 &&& 31 : Int32)) &&& 7)), (2, .int (xw &&& 127)), (0, .ref aM), (1, .int xw)] ∧ va_P (tp_D E) tp_cl ((aM, .inr (4, [.int m_thrown, .ref m_names, .ref m_forms, .int m_size, .ref m_text, .int m_bad, .int m_at, .int m_length, .ref m_word, .int m_form, .int m_code, .int m_d, .int m_s, .int m_t, .long m_value, .long m_label, .long m_name, .ref m_count, .ref m_formOf, .ref m_codeOf, .ref m_dOf, .ref m_sOf, .ref m_tOf, .ref m_valueOf, .ref m_labelOf, .ref m_nameOf, .ref m_target, .ref m_place, .ref m_far, .int m_imageSize, .int m_farCount, .ref m_image, .int m_written, .ref m_out])) :: (m_forms, .inl (tp_ty E 0, 46, .inl f_forms)) :: fr) H ∧ va_D A ((aM, .inr (4, [.int m_thrown, .ref m_names, .ref m_forms, .int m_size, .ref m_text, .int m_bad, .int m_at, .int m_length, .ref m_word, .int m_form, .int m_code, .int m_d, .int m_s, .int m_t, .long m_value, .long m_label, .long m_name, .ref m_count, .ref m_formOf, .ref m_codeOf, .ref m_dOf, .ref m_sOf, .ref m_tOf, .ref m_valueOf, .ref m_labelOf, .ref m_nameOf, .ref m_target, .ref m_place, .ref m_far, .int m_imageSize, .int m_farCount, .ref m_image, .int m_written, .ref m_out])) :: (m_forms, .inl (tp_ty E 0, 46, .inl f_forms)) :: fr) ∧ va_S A s.heap H locs) ?_ ?_
      · intro mk ls H locs hI
        obtain ⟨hmk, hl, hP, hD, hS⟩ := hI
        refine tp_join (pc' := 152) (fun ls H locs (is2 : Int32) => (((is2 = 1 ∧ (tp_mA xw (f_forms k.toNatClampNeg)) ∧ (tp_m1 xw (f_forms k.toNatClampNeg))) ∨ (is2 = 0 ∧ ¬ ((tp_mA xw (f_forms k.toNatClampNeg)) ∧ (tp_m1 xw (f_forms k.toNatClampNeg)))))) ∧ lv_has ls 9 [(7, .int is2), (8, .int mk), (6, .int ((f_forms k.toNatClampNeg) / 100000)), (5, .int k), (4, .int ((xw.toUInt32 >>> (Int32.toUInt32 25 &&& Int32.toUInt32 31)).toInt32)), (3, .int ((xw >>> (12 &&& 31 : Int32)) &&& 7)), (2, .int (xw &&& 127)), (0, .ref aM), (1, .int xw)] ∧ va_P (tp_D E) tp_cl ((aM, .inr (4, [.int m_thrown, .ref m_names, .ref m_forms, .int m_size, .ref m_text, .int m_bad, .int m_at, .int m_length, .ref m_word, .int m_form, .int m_code, .int m_d, .int m_s, .int m_t, .long m_value, .long m_label, .long m_name, .ref m_count, .ref m_formOf, .ref m_codeOf, .ref m_dOf, .ref m_sOf, .ref m_tOf, .ref m_valueOf, .ref m_labelOf, .ref m_nameOf, .ref m_target, .ref m_place, .ref m_far, .int m_imageSize, .int m_farCount, .ref m_image, .int m_written, .ref m_out])) :: (m_forms, .inl (tp_ty E 0, 46, .inl f_forms)) :: fr) H ∧ va_D A ((aM, .inr (4, [.int m_thrown, .ref m_names, .ref m_forms, .int m_size, .ref m_text, .int m_bad, .int m_at, .int m_length, .ref m_word, .int m_form, .int m_code, .int m_d, .int m_s, .int m_t, .long m_value, .long m_label, .long m_name, .ref m_count, .ref m_formOf, .ref m_codeOf, .ref m_dOf, .ref m_sOf, .ref m_tOf, .ref m_valueOf, .ref m_labelOf, .ref m_nameOf, .ref m_target, .ref m_place, .ref m_far, .int m_imageSize, .int m_farCount, .ref m_image, .int m_written, .ref m_out])) :: (m_forms, .inl (tp_ty E 0, 46, .inl f_forms)) :: fr) ∧ va_S A s.heap H locs) ?_ ?_
        · intro is2 ls H locs hI
          obtain ⟨hi2, hl, hP, hD, hS⟩ := hI
          refine tp_join (pc' := 188) (fun ls H locs (is3 : Int32) => (((is3 = 1 ∧ tp_mm xw (f_forms k.toNatClampNeg)) ∨ (is3 = 0 ∧ ¬ tp_mm xw (f_forms k.toNatClampNeg)))) ∧ lv_has ls 9 [(7, .int is3), (8, .int mk), (6, .int ((f_forms k.toNatClampNeg) / 100000)), (5, .int k), (4, .int ((xw.toUInt32 >>> (Int32.toUInt32 25 &&& Int32.toUInt32 31)).toInt32)), (3, .int ((xw >>> (12 &&& 31 : Int32)) &&& 7)), (2, .int (xw &&& 127)), (0, .ref aM), (1, .int xw)] ∧ va_P (tp_D E) tp_cl ((aM, .inr (4, [.int m_thrown, .ref m_names, .ref m_forms, .int m_size, .ref m_text, .int m_bad, .int m_at, .int m_length, .ref m_word, .int m_form, .int m_code, .int m_d, .int m_s, .int m_t, .long m_value, .long m_label, .long m_name, .ref m_count, .ref m_formOf, .ref m_codeOf, .ref m_dOf, .ref m_sOf, .ref m_tOf, .ref m_valueOf, .ref m_labelOf, .ref m_nameOf, .ref m_target, .ref m_place, .ref m_far, .int m_imageSize, .int m_farCount, .ref m_image, .int m_written, .ref m_out])) :: (m_forms, .inl (tp_ty E 0, 46, .inl f_forms)) :: fr) H ∧ va_D A ((aM, .inr (4, [.int m_thrown, .ref m_names, .ref m_forms, .int m_size, .ref m_text, .int m_bad, .int m_at, .int m_length, .ref m_word, .int m_form, .int m_code, .int m_d, .int m_s, .int m_t, .long m_value, .long m_label, .long m_name, .ref m_count, .ref m_formOf, .ref m_codeOf, .ref m_dOf, .ref m_sOf, .ref m_tOf, .ref m_valueOf, .ref m_labelOf, .ref m_nameOf, .ref m_target, .ref m_place, .ref m_far, .int m_imageSize, .int m_farCount, .ref m_image, .int m_written, .ref m_out])) :: (m_forms, .inl (tp_ty E 0, 46, .inl f_forms)) :: fr) ∧ va_S A s.heap H locs) ?_ ?_
          · intro is3 ls H locs hI
            obtain ⟨hi3, hl, hP, hD, hS⟩ := hI
            refine lv_iload hx hb d_M_operationOf_188 (lv_at hl 0 rfl) ?_
            by_cases h2 : is3 = 0
            · refine lv_if_eq (tgt := 196) hx hb d_M_operationOf_190 (by decide) (fun _ => ?_) (fun h => absurd h2 h)
              refine lv_iinc (k := 3) (v := (k + 1)) (lv' := [(5, .int (k + 1)), (7, .int is3), (8, .int mk), (6, .int ((f_forms k.toNatClampNeg) / 100000)), (4, .int ((xw.toUInt32 >>> (Int32.toUInt32 25 &&& Int32.toUInt32 31)).toInt32)), (3, .int ((xw >>> (12 &&& 31 : Int32)) &&& 7)), (2, .int (xw &&& 127)), (0, .ref aM), (1, .int xw)]) hx hb d_M_operationOf_196 hl rfl rfl (by decide) rfl (fun ls hl => ?_)
              refine lv_goto (tgt := 22) hx hb d_M_operationOf_199 (by decide) ?_
              have hkn := tp_l33 h1
              have hk1 : (k + 1).toInt = k.toInt + 1 := tp_inc (by omega)
              exact ih (j - 1) (k + 1) ls _ _ (by omega) ⟨⟨by omega, by omega, tp_nomm hno hk0 hk1 (tp_not3 hi3 h2)⟩, tp_lvI hl [0, 4, 5, 6, 7, 8] rfl, hP, hD, hS⟩
            · refine lv_if_eq (tgt := 196) hx hb d_M_operationOf_190 (by decide) (fun h => absurd h h2) (fun _ => ?_)
              refine lv_iload hx hb d_M_operationOf_193 (lv_at hl 3 rfl) ?_
              exact W.iret (v := k) hx hb hr (fun t ht hW => ⟨⟨_, (), rfl, Or.inr ⟨hk0, tp_l33 h1, tp_yes3 hi3 h2, hno⟩, by rw [ht]; exact hP, hD⟩, hS.F ht⟩) hS.2.2 d_M_operationOf_195
          · intro jn188
            refine lv_iload hx hb d_M_operationOf_152 (lv_at hl 2 rfl) ?_
            refine lv_iconst (v := 3) hx hb d_M_operationOf_154 (by decide) ?_
            by_cases h2 : ((f_forms k.toNatClampNeg) / 100000) = 3
            · refine lv_icmp_ne (tgt := 188) hx hb d_M_operationOf_155 (by decide) (fun h => absurd h2 h) (fun _ => ?_)
              refine lv_iload hx hb d_M_operationOf_158 (lv_at hl 0 rfl) ?_
              by_cases h3 : is2 = 0
              · refine lv_if_eq (tgt := 185) hx hb d_M_operationOf_160 (by decide) (fun _ => ?_) (fun h => absurd h3 h)
                refine lv_iconst (v := 0) hx hb d_M_operationOf_185 (by decide) ?_
                refine lv_istore (lv' := [(7, .int 0), (8, .int mk), (6, .int ((f_forms k.toNatClampNeg) / 100000)), (5, .int k), (4, .int ((xw.toUInt32 >>> (Int32.toUInt32 25 &&& Int32.toUInt32 31)).toInt32)), (3, .int ((xw >>> (12 &&& 31 : Int32)) &&& 7)), (2, .int (xw &&& 127)), (0, .ref aM), (1, .int xw)]) hx hb d_M_operationOf_186 hl (by decide) rfl (fun ls hl => ?_)
                exact jn188 0 ls _ _ ⟨tp_D2 hi2 hmk h2 h3, tp_lvI hl [0, 1, 2, 3, 4, 5, 6, 7, 8] rfl, hP, hD, hS⟩
              · refine lv_if_eq (tgt := 185) hx hb d_M_operationOf_160 (by decide) (fun h => absurd h h3) (fun _ => ?_)
                refine lv_iload_n hx hb d_M_operationOf_163 rfl (lv_at hl 8 rfl) ?_
                refine lv_bipush (v := 26) hx hb d_M_operationOf_164 (by decide) ?_
                refine lv_iushr (v := (xw.toUInt32 >>> (Int32.toUInt32 26 &&& Int32.toUInt32 31)).toInt32) hx hb d_M_operationOf_166 rfl ?_
                refine lv_iload hx hb d_M_operationOf_167 (lv_at hl 1 rfl) ?_
                by_cases h4 : mk = 0
                · refine lv_if_eq (tgt := 177) hx hb d_M_operationOf_169 (by decide) (fun _ => ?_) (fun h => absurd h4 h)
                  refine lv_iconst (v := 0) hx hb d_M_operationOf_177 (by decide) ?_
                  by_cases h5 : (xw.toUInt32 >>> (Int32.toUInt32 26 &&& Int32.toUInt32 31)).toInt32 = 0
                  · refine lv_icmp_ne (tgt := 185) hx hb d_M_operationOf_178 (by decide) (fun h => absurd h5 h) (fun _ => ?_)
                    refine lv_iconst (v := 1) hx hb d_M_operationOf_181 (by decide) ?_
                    refine lv_goto (tgt := 186) hx hb d_M_operationOf_182 (by decide) ?_
                    refine lv_istore (lv' := [(7, .int 1), (8, .int mk), (6, .int ((f_forms k.toNatClampNeg) / 100000)), (5, .int k), (4, .int ((xw.toUInt32 >>> (Int32.toUInt32 25 &&& Int32.toUInt32 31)).toInt32)), (3, .int ((xw >>> (12 &&& 31 : Int32)) &&& 7)), (2, .int (xw &&& 127)), (0, .ref aM), (1, .int xw)]) hx hb d_M_operationOf_186 hl (by decide) rfl (fun ls hl => ?_)
                    exact jn188 1 ls _ _ ⟨tp_D1 hi2 hmk h2 h3 h4 h5 (Or.inl ⟨rfl, rfl⟩), tp_lvI hl [0, 1, 2, 3, 4, 5, 6, 7, 8] rfl, hP, hD, hS⟩
                  · refine lv_icmp_ne (tgt := 185) hx hb d_M_operationOf_178 (by decide) (fun _ => ?_) (fun h => absurd h h5)
                    refine lv_iconst (v := 0) hx hb d_M_operationOf_185 (by decide) ?_
                    refine lv_istore (lv' := [(7, .int 0), (8, .int mk), (6, .int ((f_forms k.toNatClampNeg) / 100000)), (5, .int k), (4, .int ((xw.toUInt32 >>> (Int32.toUInt32 25 &&& Int32.toUInt32 31)).toInt32)), (3, .int ((xw >>> (12 &&& 31 : Int32)) &&& 7)), (2, .int (xw &&& 127)), (0, .ref aM), (1, .int xw)]) hx hb d_M_operationOf_186 hl (by decide) rfl (fun ls hl => ?_)
                    exact jn188 0 ls _ _ ⟨tp_D3 hi2 hmk h2 h3 h4 h5 (Or.inl ⟨rfl, rfl⟩), tp_lvI hl [0, 1, 2, 3, 4, 5, 6, 7, 8] rfl, hP, hD, hS⟩
                · refine lv_if_eq (tgt := 177) hx hb d_M_operationOf_169 (by decide) (fun h => absurd h h4) (fun _ => ?_)
                  refine lv_bipush (v := 16) hx hb d_M_operationOf_172 (by decide) ?_
                  refine lv_goto (tgt := 178) hx hb d_M_operationOf_174 (by decide) ?_
                  by_cases h5 : (xw.toUInt32 >>> (Int32.toUInt32 26 &&& Int32.toUInt32 31)).toInt32 = 16
                  · refine lv_icmp_ne (tgt := 185) hx hb d_M_operationOf_178 (by decide) (fun h => absurd h5 h) (fun _ => ?_)
                    refine lv_iconst (v := 1) hx hb d_M_operationOf_181 (by decide) ?_
                    refine lv_goto (tgt := 186) hx hb d_M_operationOf_182 (by decide) ?_
                    refine lv_istore (lv' := [(7, .int 1), (8, .int mk), (6, .int ((f_forms k.toNatClampNeg) / 100000)), (5, .int k), (4, .int ((xw.toUInt32 >>> (Int32.toUInt32 25 &&& Int32.toUInt32 31)).toInt32)), (3, .int ((xw >>> (12 &&& 31 : Int32)) &&& 7)), (2, .int (xw &&& 127)), (0, .ref aM), (1, .int xw)]) hx hb d_M_operationOf_186 hl (by decide) rfl (fun ls hl => ?_)
                    exact jn188 1 ls _ _ ⟨tp_D1 hi2 hmk h2 h3 h4 h5 (Or.inr ⟨rfl, rfl⟩), tp_lvI hl [0, 1, 2, 3, 4, 5, 6, 7, 8] rfl, hP, hD, hS⟩
                  · refine lv_icmp_ne (tgt := 185) hx hb d_M_operationOf_178 (by decide) (fun _ => ?_) (fun h => absurd h h5)
                    refine lv_iconst (v := 0) hx hb d_M_operationOf_185 (by decide) ?_
                    refine lv_istore (lv' := [(7, .int 0), (8, .int mk), (6, .int ((f_forms k.toNatClampNeg) / 100000)), (5, .int k), (4, .int ((xw.toUInt32 >>> (Int32.toUInt32 25 &&& Int32.toUInt32 31)).toInt32)), (3, .int ((xw >>> (12 &&& 31 : Int32)) &&& 7)), (2, .int (xw &&& 127)), (0, .ref aM), (1, .int xw)]) hx hb d_M_operationOf_186 hl (by decide) rfl (fun ls hl => ?_)
                    exact jn188 0 ls _ _ ⟨tp_D3 hi2 hmk h2 h3 h4 h5 (Or.inr ⟨rfl, rfl⟩), tp_lvI hl [0, 1, 2, 3, 4, 5, 6, 7, 8] rfl, hP, hD, hS⟩
            · refine lv_icmp_ne (tgt := 188) hx hb d_M_operationOf_155 (by decide) (fun _ => ?_) (fun h => absurd h h2)
              exact jn188 is2 ls _ _ ⟨tp_D0 hi2 h2, tp_lvI hl [0, 1, 2, 3, 4, 5, 6, 7, 8] rfl, hP, hD, hS⟩
        · intro jn152
          refine lv_iload hx hb d_M_operationOf_118 (lv_at hl 2 rfl) ?_
          refine lv_iconst (v := 1) hx hb d_M_operationOf_120 (by decide) ?_
          by_cases h2 : ((f_forms k.toNatClampNeg) / 100000) = 1
          · refine lv_icmp_ne (tgt := 152) hx hb d_M_operationOf_121 (by decide) (fun h => absurd h2 h) (fun _ => ?_)
            refine lv_iload hx hb d_M_operationOf_124 (lv_at hl 1 rfl) ?_
            by_cases h3 : is1 = 0
            · refine lv_if_eq (tgt := 149) hx hb d_M_operationOf_126 (by decide) (fun _ => ?_) (fun h => absurd h3 h)
              refine lv_iconst (v := 0) hx hb d_M_operationOf_149 (by decide) ?_
              refine lv_istore (lv' := [(7, .int 0), (8, .int mk), (6, .int ((f_forms k.toNatClampNeg) / 100000)), (5, .int k), (4, .int ((xw.toUInt32 >>> (Int32.toUInt32 25 &&& Int32.toUInt32 31)).toInt32)), (3, .int ((xw >>> (12 &&& 31 : Int32)) &&& 7)), (2, .int (xw &&& 127)), (0, .ref aM), (1, .int xw)]) hx hb d_M_operationOf_150 hl (by decide) rfl (fun ls hl => ?_)
              exact jn152 0 ls _ _ ⟨tp_C2 hi1 hmk h2 h3, tp_lvI hl [0, 1, 2, 3, 4, 5, 6, 7, 8] rfl, hP, hD, hS⟩
            · refine lv_if_eq (tgt := 149) hx hb d_M_operationOf_126 (by decide) (fun h => absurd h h3) (fun _ => ?_)
              refine lv_iload hx hb d_M_operationOf_129 (lv_at hl 4 rfl) ?_
              refine lv_iload hx hb d_M_operationOf_131 (lv_at hl 0 rfl) ?_
              by_cases h4 : mk = 0
              · refine lv_if_eq (tgt := 141) hx hb d_M_operationOf_133 (by decide) (fun _ => ?_) (fun h => absurd h4 h)
                refine lv_iconst (v := 0) hx hb d_M_operationOf_141 (by decide) ?_
                by_cases h5 : (xw.toUInt32 >>> (Int32.toUInt32 25 &&& Int32.toUInt32 31)).toInt32 = 0
                · refine lv_icmp_ne (tgt := 149) hx hb d_M_operationOf_142 (by decide) (fun h => absurd h5 h) (fun _ => ?_)
                  refine lv_iconst (v := 1) hx hb d_M_operationOf_145 (by decide) ?_
                  refine lv_goto (tgt := 150) hx hb d_M_operationOf_146 (by decide) ?_
                  refine lv_istore (lv' := [(7, .int 1), (8, .int mk), (6, .int ((f_forms k.toNatClampNeg) / 100000)), (5, .int k), (4, .int ((xw.toUInt32 >>> (Int32.toUInt32 25 &&& Int32.toUInt32 31)).toInt32)), (3, .int ((xw >>> (12 &&& 31 : Int32)) &&& 7)), (2, .int (xw &&& 127)), (0, .ref aM), (1, .int xw)]) hx hb d_M_operationOf_150 hl (by decide) rfl (fun ls hl => ?_)
                  exact jn152 1 ls _ _ ⟨tp_C1 hi1 hmk h2 h3 h4 h5 (Or.inl ⟨rfl, rfl⟩), tp_lvI hl [0, 1, 2, 3, 4, 5, 6, 7, 8] rfl, hP, hD, hS⟩
                · refine lv_icmp_ne (tgt := 149) hx hb d_M_operationOf_142 (by decide) (fun _ => ?_) (fun h => absurd h h5)
                  refine lv_iconst (v := 0) hx hb d_M_operationOf_149 (by decide) ?_
                  refine lv_istore (lv' := [(7, .int 0), (8, .int mk), (6, .int ((f_forms k.toNatClampNeg) / 100000)), (5, .int k), (4, .int ((xw.toUInt32 >>> (Int32.toUInt32 25 &&& Int32.toUInt32 31)).toInt32)), (3, .int ((xw >>> (12 &&& 31 : Int32)) &&& 7)), (2, .int (xw &&& 127)), (0, .ref aM), (1, .int xw)]) hx hb d_M_operationOf_150 hl (by decide) rfl (fun ls hl => ?_)
                  exact jn152 0 ls _ _ ⟨tp_C3 hi1 hmk h2 h3 h4 h5 (Or.inl ⟨rfl, rfl⟩), tp_lvI hl [0, 1, 2, 3, 4, 5, 6, 7, 8] rfl, hP, hD, hS⟩
              · refine lv_if_eq (tgt := 141) hx hb d_M_operationOf_133 (by decide) (fun h => absurd h h4) (fun _ => ?_)
                refine lv_bipush (v := 32) hx hb d_M_operationOf_136 (by decide) ?_
                refine lv_goto (tgt := 142) hx hb d_M_operationOf_138 (by decide) ?_
                by_cases h5 : (xw.toUInt32 >>> (Int32.toUInt32 25 &&& Int32.toUInt32 31)).toInt32 = 32
                · refine lv_icmp_ne (tgt := 149) hx hb d_M_operationOf_142 (by decide) (fun h => absurd h5 h) (fun _ => ?_)
                  refine lv_iconst (v := 1) hx hb d_M_operationOf_145 (by decide) ?_
                  refine lv_goto (tgt := 150) hx hb d_M_operationOf_146 (by decide) ?_
                  refine lv_istore (lv' := [(7, .int 1), (8, .int mk), (6, .int ((f_forms k.toNatClampNeg) / 100000)), (5, .int k), (4, .int ((xw.toUInt32 >>> (Int32.toUInt32 25 &&& Int32.toUInt32 31)).toInt32)), (3, .int ((xw >>> (12 &&& 31 : Int32)) &&& 7)), (2, .int (xw &&& 127)), (0, .ref aM), (1, .int xw)]) hx hb d_M_operationOf_150 hl (by decide) rfl (fun ls hl => ?_)
                  exact jn152 1 ls _ _ ⟨tp_C1 hi1 hmk h2 h3 h4 h5 (Or.inr ⟨rfl, rfl⟩), tp_lvI hl [0, 1, 2, 3, 4, 5, 6, 7, 8] rfl, hP, hD, hS⟩
                · refine lv_icmp_ne (tgt := 149) hx hb d_M_operationOf_142 (by decide) (fun _ => ?_) (fun h => absurd h h5)
                  refine lv_iconst (v := 0) hx hb d_M_operationOf_149 (by decide) ?_
                  refine lv_istore (lv' := [(7, .int 0), (8, .int mk), (6, .int ((f_forms k.toNatClampNeg) / 100000)), (5, .int k), (4, .int ((xw.toUInt32 >>> (Int32.toUInt32 25 &&& Int32.toUInt32 31)).toInt32)), (3, .int ((xw >>> (12 &&& 31 : Int32)) &&& 7)), (2, .int (xw &&& 127)), (0, .ref aM), (1, .int xw)]) hx hb d_M_operationOf_150 hl (by decide) rfl (fun ls hl => ?_)
                  exact jn152 0 ls _ _ ⟨tp_C3 hi1 hmk h2 h3 h4 h5 (Or.inr ⟨rfl, rfl⟩), tp_lvI hl [0, 1, 2, 3, 4, 5, 6, 7, 8] rfl, hP, hD, hS⟩
          · refine lv_icmp_ne (tgt := 152) hx hb d_M_operationOf_121 (by decide) (fun _ => ?_) (fun h => absurd h h2)
            exact jn152 is1 ls _ _ ⟨tp_C0 hi1 h2, tp_lvI hl [1, 0, 2, 3, 4, 5, 6, 7, 8] rfl, hP, hD, hS⟩
      · intro jn118
        refine lv_aload_n hx hb d_M_operationOf_97 rfl (lv_at hl 6 rfl) ?_
        refine va_get (D := tp_D E) (ci := 4) (v := .ref m_forms) (C := qR_M) (T := qF_M) (N := 34) hx hb htg qi_M hown hK.1 hP 0 rfl rfl 2 (by decide) (htg _ kl_M_13) (fun _ h => h) rfl d_M_operationOf_98 ?_
        refine lv_iload hx hb d_M_operationOf_101 (lv_at hl 2 rfl) ?_
        refine va_iald (D := tp_D E) hx hb hK.1 hP 1 0 rfl rfl (tp_k33 hk0 h1) d_M_operationOf_103 ?_
        refine lv_bipush (v := 10) hx hb d_M_operationOf_104 (by decide) ?_
        refine lv_irem hx hb d_M_operationOf_106 (by decide) ?_
        refine lv_iconst (v := 1) hx hb d_M_operationOf_107 (by decide) ?_
        by_cases h2 : ((f_forms k.toNatClampNeg) - (f_forms k.toNatClampNeg) / 10 * 10) = 1
        · refine lv_icmp_ne (tgt := 115) hx hb d_M_operationOf_108 (by decide) (fun h => absurd h2 h) (fun _ => ?_)
          refine lv_iconst (v := 1) hx hb d_M_operationOf_111 (by decide) ?_
          refine lv_goto (tgt := 116) hx hb d_M_operationOf_112 (by decide) ?_
          refine lv_istore (lv' := [(8, .int 1), (7, .int is1), (6, .int ((f_forms k.toNatClampNeg) / 100000)), (5, .int k), (4, .int ((xw.toUInt32 >>> (Int32.toUInt32 25 &&& Int32.toUInt32 31)).toInt32)), (3, .int ((xw >>> (12 &&& 31 : Int32)) &&& 7)), (2, .int (xw &&& 127)), (0, .ref aM), (1, .int xw)]) hx hb d_M_operationOf_116 hl (by decide) rfl (fun ls hl => ?_)
          exact jn118 1 ls _ _ ⟨Or.inl ⟨rfl, h2⟩, tp_lvI hl [0, 1, 2, 3, 4, 5, 6, 7, 8] rfl, hP, hD, hS⟩
        · refine lv_icmp_ne (tgt := 115) hx hb d_M_operationOf_108 (by decide) (fun _ => ?_) (fun h => absurd h h2)
          refine lv_iconst (v := 0) hx hb d_M_operationOf_115 (by decide) ?_
          refine lv_istore (lv' := [(8, .int 0), (7, .int is1), (6, .int ((f_forms k.toNatClampNeg) / 100000)), (5, .int k), (4, .int ((xw.toUInt32 >>> (Int32.toUInt32 25 &&& Int32.toUInt32 31)).toInt32)), (3, .int ((xw >>> (12 &&& 31 : Int32)) &&& 7)), (2, .int (xw &&& 127)), (0, .ref aM), (1, .int xw)]) hx hb d_M_operationOf_116 hl (by decide) rfl (fun ls hl => ?_)
          exact jn118 0 ls _ _ ⟨Or.inr ⟨rfl, h2⟩, tp_lvI hl [0, 1, 2, 3, 4, 5, 6, 7, 8] rfl, hP, hD, hS⟩
    · intro jn97
      refine lv_aload_n hx hb d_M_operationOf_42 rfl (lv_at hl 5 rfl) ?_
      refine va_get (D := tp_D E) (ci := 4) (v := .ref m_forms) (C := qR_M) (T := qF_M) (N := 34) hx hb htg qi_M hown hK.1 hP 0 rfl rfl 2 (by decide) (htg _ kl_M_13) (fun _ h => h) rfl d_M_operationOf_43 ?_
      refine lv_iload hx hb d_M_operationOf_46 (lv_at hl 1 rfl) ?_
      refine va_iald (D := tp_D E) hx hb hK.1 hP 1 0 rfl rfl (tp_k33 hk0 h1) d_M_operationOf_48 ?_
      refine lv_bipush (v := 100) hx hb d_M_operationOf_49 (by decide) ?_
      refine lv_idiv hx hb d_M_operationOf_51 (by decide) ?_
      refine lv_sipush (v := 1000) hx hb d_M_operationOf_52 (by decide) ?_
      refine lv_irem hx hb d_M_operationOf_55 (by decide) ?_
      refine lv_iload_n hx hb d_M_operationOf_56 rfl (lv_at hl 4 rfl) ?_
      by_cases h2 : (((f_forms k.toNatClampNeg) / 100) - ((f_forms k.toNatClampNeg) / 100) / 1000 * 1000) = (xw &&& 127)
      · refine lv_icmp_ne (tgt := 94) hx hb d_M_operationOf_57 (by decide) (fun h => absurd h2 h) (fun _ => ?_)
        refine lv_iload hx hb d_M_operationOf_60 (lv_at hl 0 rfl) ?_
        refine lv_iconst (v := 4) hx hb d_M_operationOf_62 (by decide) ?_
        by_cases h3 : ((f_forms k.toNatClampNeg) / 100000) = 4
        · refine lv_icmp_eq (tgt := 90) hx hb d_M_operationOf_63 (by decide) (fun _ => ?_) (fun h => absurd h3 h)
          refine lv_iconst (v := 1) hx hb d_M_operationOf_90 (by decide) ?_
          refine lv_goto (tgt := 95) hx hb d_M_operationOf_91 (by decide) ?_
          refine lv_istore (lv' := [(7, .int 1), (6, .int ((f_forms k.toNatClampNeg) / 100000)), (5, .int k), (4, .int ((xw.toUInt32 >>> (Int32.toUInt32 25 &&& Int32.toUInt32 31)).toInt32)), (3, .int ((xw >>> (12 &&& 31 : Int32)) &&& 7)), (2, .int (xw &&& 127)), (0, .ref aM), (1, .int xw)]) hx hb d_M_operationOf_95 hl (by decide) rfl (fun ls hl => ?_)
          exact jn97 1 ls _ _ ⟨Or.inl ⟨rfl, ⟨h2, Or.inl h3⟩⟩, tp_lvI hl [0, 1, 2, 3, 4, 5, 6, 7] rfl, hP, hD, hS⟩
        · refine lv_icmp_eq (tgt := 90) hx hb d_M_operationOf_63 (by decide) (fun h => absurd h h3) (fun _ => ?_)
          refine lv_iload hx hb d_M_operationOf_66 (lv_at hl 0 rfl) ?_
          refine lv_bipush (v := 8) hx hb d_M_operationOf_68 (by decide) ?_
          by_cases h4 : ((f_forms k.toNatClampNeg) / 100000) = 8
          · refine lv_icmp_eq (tgt := 90) hx hb d_M_operationOf_70 (by decide) (fun _ => ?_) (fun h => absurd h4 h)
            refine lv_iconst (v := 1) hx hb d_M_operationOf_90 (by decide) ?_
            refine lv_goto (tgt := 95) hx hb d_M_operationOf_91 (by decide) ?_
            refine lv_istore (lv' := [(7, .int 1), (6, .int ((f_forms k.toNatClampNeg) / 100000)), (5, .int k), (4, .int ((xw.toUInt32 >>> (Int32.toUInt32 25 &&& Int32.toUInt32 31)).toInt32)), (3, .int ((xw >>> (12 &&& 31 : Int32)) &&& 7)), (2, .int (xw &&& 127)), (0, .ref aM), (1, .int xw)]) hx hb d_M_operationOf_95 hl (by decide) rfl (fun ls hl => ?_)
            exact jn97 1 ls _ _ ⟨Or.inl ⟨rfl, ⟨h2, Or.inr (Or.inl h4)⟩⟩, tp_lvI hl [0, 1, 2, 3, 4, 5, 6, 7] rfl, hP, hD, hS⟩
          · refine lv_icmp_eq (tgt := 90) hx hb d_M_operationOf_70 (by decide) (fun h => absurd h h4) (fun _ => ?_)
            refine lv_aload_n hx hb d_M_operationOf_73 rfl (lv_at hl 5 rfl) ?_
            refine va_get (D := tp_D E) (ci := 4) (v := .ref m_forms) (C := qR_M) (T := qF_M) (N := 34) hx hb htg qi_M hown hK.1 hP 0 rfl rfl 2 (by decide) (htg _ kl_M_13) (fun _ h => h) rfl d_M_operationOf_74 ?_
            refine lv_iload hx hb d_M_operationOf_77 (lv_at hl 1 rfl) ?_
            refine va_iald (D := tp_D E) hx hb hK.1 hP 1 0 rfl rfl (tp_k33 hk0 h1) d_M_operationOf_79 ?_
            refine lv_bipush (v := 10) hx hb d_M_operationOf_80 (by decide) ?_
            refine lv_idiv hx hb d_M_operationOf_82 (by decide) ?_
            refine lv_bipush (v := 10) hx hb d_M_operationOf_83 (by decide) ?_
            refine lv_irem hx hb d_M_operationOf_85 (by decide) ?_
            refine lv_iload_n hx hb d_M_operationOf_86 rfl (lv_at hl 3 rfl) ?_
            by_cases h5 : (((f_forms k.toNatClampNeg) / 10) - ((f_forms k.toNatClampNeg) / 10) / 10 * 10) = ((xw >>> (12 &&& 31 : Int32)) &&& 7)
            · refine lv_icmp_ne (tgt := 94) hx hb d_M_operationOf_87 (by decide) (fun h => absurd h5 h) (fun _ => ?_)
              refine lv_iconst (v := 1) hx hb d_M_operationOf_90 (by decide) ?_
              refine lv_goto (tgt := 95) hx hb d_M_operationOf_91 (by decide) ?_
              refine lv_istore (lv' := [(7, .int 1), (6, .int ((f_forms k.toNatClampNeg) / 100000)), (5, .int k), (4, .int ((xw.toUInt32 >>> (Int32.toUInt32 25 &&& Int32.toUInt32 31)).toInt32)), (3, .int ((xw >>> (12 &&& 31 : Int32)) &&& 7)), (2, .int (xw &&& 127)), (0, .ref aM), (1, .int xw)]) hx hb d_M_operationOf_95 hl (by decide) rfl (fun ls hl => ?_)
              exact jn97 1 ls _ _ ⟨Or.inl ⟨rfl, ⟨h2, Or.inr (Or.inr h5)⟩⟩, tp_lvI hl [0, 1, 2, 3, 4, 5, 6, 7] rfl, hP, hD, hS⟩
            · refine lv_icmp_ne (tgt := 94) hx hb d_M_operationOf_87 (by decide) (fun _ => ?_) (fun h => absurd h h5)
              refine lv_iconst (v := 0) hx hb d_M_operationOf_94 (by decide) ?_
              refine lv_istore (lv' := [(7, .int 0), (6, .int ((f_forms k.toNatClampNeg) / 100000)), (5, .int k), (4, .int ((xw.toUInt32 >>> (Int32.toUInt32 25 &&& Int32.toUInt32 31)).toInt32)), (3, .int ((xw >>> (12 &&& 31 : Int32)) &&& 7)), (2, .int (xw &&& 127)), (0, .ref aM), (1, .int xw)]) hx hb d_M_operationOf_95 hl (by decide) rfl (fun ls hl => ?_)
              exact jn97 0 ls _ _ ⟨Or.inr ⟨rfl, fun z => (z.2.elim h3 (fun z => z.elim h4 h5))⟩, tp_lvI hl [0, 1, 2, 3, 4, 5, 6, 7] rfl, hP, hD, hS⟩
      · refine lv_icmp_ne (tgt := 94) hx hb d_M_operationOf_57 (by decide) (fun _ => ?_) (fun h => absurd h h2)
        refine lv_iconst (v := 0) hx hb d_M_operationOf_94 (by decide) ?_
        refine lv_istore (lv' := [(7, .int 0), (6, .int ((f_forms k.toNatClampNeg) / 100000)), (5, .int k), (4, .int ((xw.toUInt32 >>> (Int32.toUInt32 25 &&& Int32.toUInt32 31)).toInt32)), (3, .int ((xw >>> (12 &&& 31 : Int32)) &&& 7)), (2, .int (xw &&& 127)), (0, .ref aM), (1, .int xw)]) hx hb d_M_operationOf_95 hl (by decide) rfl (fun ls hl => ?_)
        exact jn97 0 ls _ _ ⟨Or.inr ⟨rfl, fun z => h2 z.1⟩, tp_lvI hl [0, 1, 2, 3, 4, 5, 6, 7] rfl, hP, hD, hS⟩
