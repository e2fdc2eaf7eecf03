set_option maxHeartbeats 4000000 in
set_option maxRecDepth 100000 in
theorem s_AS_setLength (l : Launch) (E : tp_Env) (fr : va_W) (sz : Nat) (aB ab : Nat) (xm xc : Int32) (nb : Nat) (fb : Nat → Int32) (hn : nb = 16 ∨ nb = 34) (hf : tp_fit fb) (hc : 0 ≤ xc.toInt) : Met l y_AS_setLength w_AS_setLength ({ frames := 4, cells := 1, slots := 34, locals := 144 }) (va_Pc [.ref aB, .int 0] (tp_in E ((aB, .inr (6, [.ref ab, .int 0, .int xm, .int xc])) :: (ab, .inl (tp_ty E 3, nb, .inl fb)) :: fr) sz)) (va_Qv (fun (u : Nat × Nat × (Nat → Int32) × Int32) => (u.2.1 = 16 ∨ u.2.1 = 34) ∧ tp_fit u.2.2.1) (fun u t => tp_out E (va_A ((aB, .inr (6, [.ref ab, .int 0, .int xm, .int xc])) :: (ab, .inl (tp_ty E 3, nb, .inl fb)) :: fr) sz) ((aB, .inr (6, [.ref u.1, .int 0, .int u.2.2.2, .int 0])) :: (u.1, .inl (tp_ty E 3, u.2.1, .inl u.2.2.1)) :: fr) t) (va_A ((aB, .inr (6, [.ref ab, .int 0, .int xm, .int xc])) :: (ab, .inl (tp_ty E 3, nb, .inl fb)) :: fr) sz)) 1 34 (va_A ((aB, .inr (6, [.ref ab, .int 0, .int xm, .int xc])) :: (ab, .inl (tp_ty E 3, nb, .inl fb)) :: fr) sz) := by
  refine Met.ofW (cc := b_AS_setLength) (maxL := 2) (ret := none) (by decide) rfl ?_
  intro p e s m args below meth c s₁ B hml hv
  obtain ⟨rfl, hsz, hP, hK, hD0⟩ := hv
  have hx := B.exec
  have hb := B.bytes
  have hr := B.returns
  have htg : ∀ w ∈ tp_G, w.before ([.ref aB, .int 0] : List Value).toArray s = true := fun w h => atoms_spec (ws := w_AS_setLength) B.pre w (List.mem_cons_of_mem _ h)
  have hown : s.vm.findClass "java/lang/AbstractStringBuilder" = some m.cls := findClass_of_methodNamed B.named
  have hlocks := B.notSynchronized
  subst hsz
  have hD := hD0.self (sz := s.heap.size)
  generalize hAe : va_A ((aB, .inr (6, [.ref ab, .int 0, .int xm, .int xc])) :: (ab, .inl (tp_ty E 3, nb, .inl fb)) :: fr) s.heap.size = A at hD hK ⊢
  have hA : ∀ q : Nat, s.heap.size ≤ q → A q := fun q h => by rw [← hAe]; exact Or.inr h
  have hS : va_S A s.heap s.heap [] := va_S.rf
  have hl := lv_entry ([.ref aB, .int 0]) (n := 2) (Nat.le_of_ble_eq_true rfl)
  rw [lg_entry_eq]
  generalize (lg_sl ([.ref aB, .int 0]) ++ List.replicate (2 - (lg_sl ([.ref aB, .int 0])).length) Slot.unset).toArray = ls at hl ⊢
  have hl : lv_has ls 2 [(0, .ref aB), (1, .int 0)] := hl
  refine lv_iload_n hx hb d_AS_setLength_0 rfl (lv_at hl 1 rfl) ?_
  refine lv_if_ge (tgt := 13) hx hb d_AS_setLength_1 (by decide) (fun _ => ?_) (fun h => absurd (by decide) h)
  refine lv_aload_n hx hb d_AS_setLength_13 rfl (lv_at hl 0 rfl) ?_
  refine lv_iload_n hx hb d_AS_setLength_14 rfl (lv_at hl 1 rfl) ?_
  refine tp_cv (tp_rV (As := [.int 0]) (rest := []) ⟨hx, hb, hml, hown, htg⟩ (a_AS_ensure l E fr _ aB ab xm xc 0 nb fb hn (by decide) hf) (⟨callB_of 1 htg (tp_good0 kc_AS_ensureCapacityInternal) rfl rfl rfl (htg _ ki_AS) (htg _ kl_AS_100) ⟨by decide, by decide, by decide +kernel⟩ ⟨Nat.le_of_ble_eq_true rfl, Nat.le_of_ble_eq_true rfl⟩, htg _ km_AS_ensureCapacityInternal, htg _ kv_SB_AS_ensureCapacityInternal⟩) (va_recv (ci := 6) (q0 := 0) hK.1 hP rfl rfl) hK hP hD hS hA rfl hl.1 rfl (Nat.le_of_ble_eq_true rfl) d_AS_setLength_15 ⟨Nat.le_of_ble_eq_true rfl, Nat.le_of_ble_eq_true rfl⟩) hD hS hA (fun u H locs hw hP hD hS => ?_)
  obtain ⟨eq1, nq1, fq1⟩ := u
  obtain ⟨hnq1, hmq1, hfq1⟩ : (nq1 = 16 ∨ nq1 = 34) ∧ (0 : Int32).toInt ≤ (nq1 : Int) ∧ tp_fit fq1 := hw
  have hP : va_P (tp_D E) tp_cl ((aB, .inr (6, [.ref eq1, .int 0, .int xm, .int xc])) :: (eq1, .inl (tp_ty E 3, nq1, .inl fq1)) :: fr) H := hP
  have hD : va_D A ((aB, .inr (6, [.ref eq1, .int 0, .int xm, .int xc])) :: (eq1, .inl (tp_ty E 3, nq1, .inl fq1)) :: fr) := hD
  refine lv_aload_n hx hb d_AS_setLength_18 rfl (lv_at hl 0 rfl) ?_
  refine va_get (D := tp_D E) (ci := 6) (v := .int xc) (C := qR_SB) (T := qF_SB) (N := 4) hx hb htg qi_SB hown hK.1 hP 0 rfl rfl 3 (by decide) (htg _ kl_AS_79) (fun _ h => h) rfl d_AS_setLength_19 ?_
  refine lv_iload_n hx hb d_AS_setLength_22 rfl (lv_at hl 1 rfl) ?_
  refine lv_icmp_ge (tgt := 63) hx hb d_AS_setLength_23 (by decide) (fun _ => ?_) (fun h => absurd (sf_0le hc) h)
  refine lv_aload_n hx hb d_AS_setLength_63 rfl (lv_at hl 0 rfl) ?_
  refine va_get (D := tp_D E) (ci := 6) (v := .int xc) (C := qR_SB) (T := qF_SB) (N := 4) hx hb htg qi_SB hown hK.1 hP 0 rfl rfl 3 (by decide) (htg _ kl_AS_79) (fun _ h => h) rfl d_AS_setLength_64 ?_
  refine lv_iload_n hx hb d_AS_setLength_67 rfl (lv_at hl 1 rfl) ?_
  by_cases h1 : xc ≤ 0
  · refine lv_icmp_le (tgt := 76) hx hb d_AS_setLength_68 (by decide) (fun _ => ?_) (fun h => absurd h1 h)
    refine lv_aload_n hx hb d_AS_setLength_76 rfl (lv_at hl 0 rfl) ?_
    refine lv_iload_n hx hb d_AS_setLength_77 rfl (lv_at hl 1 rfl) ?_
    refine va_put (D := tp_D E) (ci := 6) (v := .int 0) (ty := .int) (C := qR_SB) (T := qF_SB) (N := 4) hx hb htg qi_SB qt_SB qt_SB_ok qn_SB hown hK.1 hP hD hS 0 rfl rfl 3 (by decide) (htg _ kl_AS_79) (fun _ h => h) rfl (by decide +kernel) rfl rfl (Nat.le_of_ble_eq_true rfl) d_AS_setLength_78 (fun H locs hP hD hS => ?_)
    have hP : va_P (tp_D E) tp_cl ((aB, .inr (6, [.ref eq1, .int 0, .int xm, .int 0])) :: (eq1, .inl (tp_ty E 3, nq1, .inl fq1)) :: fr) H := hP
    have hD : va_D A ((aB, .inr (6, [.ref eq1, .int 0, .int xm, .int 0])) :: (eq1, .inl (tp_ty E 3, nq1, .inl fq1)) :: fr) := hD
    exact W.vret hx hb hr (fun t ht hW => ⟨⟨(eq1, nq1, fq1, xm), rfl, ⟨hnq1, hfq1⟩, by rw [ht]; exact hP, hD⟩, hS.F ht⟩) hS.2.2 d_AS_setLength_81
  · refine lv_icmp_le (tgt := 76) hx hb d_AS_setLength_68 (by decide) (fun h => absurd h h1) (fun _ => ?_)
    refine lv_aload_n hx hb d_AS_setLength_71 rfl (lv_at hl 0 rfl) ?_
    refine lv_iconst (v := 1) hx hb d_AS_setLength_72 (by decide) ?_
    refine va_put (D := tp_D E) (ci := 6) (v := .int 1) (ty := .boolean) (C := qR_SB) (T := qF_SB) (N := 4) hx hb htg qi_SB qt_SB qt_SB_ok qn_SB hown hK.1 hP hD hS 0 rfl rfl 2 (by decide) (htg _ kl_AS_73) (fun _ h => h) rfl (by decide +kernel) rfl rfl (Nat.le_of_ble_eq_true rfl) d_AS_setLength_73 (fun H locs hP hD hS => ?_)
    have hP : va_P (tp_D E) tp_cl ((aB, .inr (6, [.ref eq1, .int 0, .int 1, .int xc])) :: (eq1, .inl (tp_ty E 3, nq1, .inl fq1)) :: fr) H := hP
    have hD : va_D A ((aB, .inr (6, [.ref eq1, .int 0, .int 1, .int xc])) :: (eq1, .inl (tp_ty E 3, nq1, .inl fq1)) :: fr) := hD
    refine lv_aload_n hx hb d_AS_setLength_76 rfl (lv_at hl 0 rfl) ?_
    refine lv_iload_n hx hb d_AS_setLength_77 rfl (lv_at hl 1 rfl) ?_
    refine va_put (D := tp_D E) (ci := 6) (v := .int 0) (ty := .int) (C := qR_SB) (T := qF_SB) (N := 4) hx hb htg qi_SB qt_SB qt_SB_ok qn_SB hown hK.1 hP hD hS 0 rfl rfl 3 (by decide) (htg _ kl_AS_79) (fun _ h => h) rfl (by decide +kernel) rfl rfl (Nat.le_of_ble_eq_true rfl) d_AS_setLength_78 (fun H locs hP hD hS => ?_)
    have hP : va_P (tp_D E) tp_cl ((aB, .inr (6, [.ref eq1, .int 0, .int 1, .int 0])) :: (eq1, .inl (tp_ty E 3, nq1, .inl fq1)) :: fr) H := hP
    have hD : va_D A ((aB, .inr (6, [.ref eq1, .int 0, .int 1, .int 0])) :: (eq1, .inl (tp_ty E 3, nq1, .inl fq1)) :: fr) := hD
    exact W.vret hx hb hr (fun t ht hW => ⟨⟨(eq1, nq1, fq1, 1), rfl, ⟨hnq1, hfq1⟩, by rw [ht]; exact hP, hD⟩, hS.F ht⟩) hS.2.2 d_AS_setLength_81
set_option maxHeartbeats 4000000 in
set_option maxRecDepth 100000 in
theorem s_SB_setLength (l : Launch) (E : tp_Env) (fr : va_W) (sz : Nat) (aB ab : Nat) (xm xc : Int32) (nb : Nat) (fb : Nat → Int32) (hn : nb = 16 ∨ nb = 34) (hf : tp_fit fb) (hc : 0 ≤ xc.toInt) : Met l y_SB_setLength w_SB_setLength ({ frames := 5, cells := 1, slots := 34, locals := 165 }) (va_Pc [.ref aB, .int 0] (tp_in E ((aB, .inr (6, [.ref ab, .int 0, .int xm, .int xc])) :: (ab, .inl (tp_ty E 3, nb, .inl fb)) :: fr) sz)) (va_Qv (fun (u : Nat × Nat × (Nat → Int32) × Int32) => (u.2.1 = 16 ∨ u.2.1 = 34) ∧ tp_fit u.2.2.1) (fun u t => tp_out E (va_A ((aB, .inr (6, [.ref ab, .int 0, .int xm, .int xc])) :: (ab, .inl (tp_ty E 3, nb, .inl fb)) :: fr) sz) ((aB, .inr (6, [.ref u.1, .int 0, .int u.2.2.2, .int 0])) :: (u.1, .inl (tp_ty E 3, u.2.1, .inl u.2.2.1)) :: fr) t) (va_A ((aB, .inr (6, [.ref ab, .int 0, .int xm, .int xc])) :: (ab, .inl (tp_ty E 3, nb, .inl fb)) :: fr) sz)) 1 34 (va_A ((aB, .inr (6, [.ref ab, .int 0, .int xm, .int xc])) :: (ab, .inl (tp_ty E 3, nb, .inl fb)) :: fr) sz) := by
  refine Met.ofW (cc := b_SB_setLength) (maxL := 2) (ret := none) (by decide) rfl ?_
  intro p e s m args below meth c s₁ B hml hv
  obtain ⟨rfl, hsz, hP, hK, hD0⟩ := hv
  have hx := B.exec
  have hb := B.bytes
  have hr := B.returns
  have htg : ∀ w ∈ tp_G, w.before ([.ref aB, .int 0] : List Value).toArray s = true := fun w h => atoms_spec (ws := w_SB_setLength) B.pre w (List.mem_cons_of_mem _ h)
  have hown : s.vm.findClass "java/lang/StringBuilder" = some m.cls := findClass_of_methodNamed B.named
  have hlocks := B.notSynchronized
  subst hsz
  have hD := hD0.self (sz := s.heap.size)
  generalize hAe : va_A ((aB, .inr (6, [.ref ab, .int 0, .int xm, .int xc])) :: (ab, .inl (tp_ty E 3, nb, .inl fb)) :: fr) s.heap.size = A at hD hK ⊢
  have hA : ∀ q : Nat, s.heap.size ≤ q → A q := fun q h => by rw [← hAe]; exact Or.inr h
  have hS : va_S A s.heap s.heap [] := va_S.rf
  have hl := lv_entry ([.ref aB, .int 0]) (n := 2) (Nat.le_of_ble_eq_true rfl)
  rw [lg_entry_eq]
  generalize (lg_sl ([.ref aB, .int 0]) ++ List.replicate (2 - (lg_sl ([.ref aB, .int 0])).length) Slot.unset).toArray = ls at hl ⊢
  have hl : lv_has ls 2 [(0, .ref aB), (1, .int 0)] := hl
  refine lv_aload_n hx hb d_SB_setLength_0 rfl (lv_at hl 0 rfl) ?_
  refine lv_iload_n hx hb d_SB_setLength_1 rfl (lv_at hl 1 rfl) ?_
  refine tp_cv (tp_rU (As := [.int 0]) (rest := []) ⟨hx, hb, hml, hown, htg⟩ (s_AS_setLength l E fr _ aB ab xm xc nb fb hn hf hc) (tp_cwU 1 htg kc_AS_setLength (htg _ kl_SB_333) (htg _ kq_AS_setLength) (htg _ kz_SB) (htg _ km_AS_setLength) (htg _ ki_AS) ⟨by decide, by decide +kernel⟩ ⟨Nat.le_of_ble_eq_true rfl, Nat.le_of_ble_eq_true rfl⟩) (va_recv (ci := 6) (q0 := 0) hK.1 hP rfl rfl) (hK.1.1 6 _ rfl).2 hK hP hD hS hA rfl hl.1 rfl (Nat.le_of_ble_eq_true rfl) d_SB_setLength_2 ⟨Nat.le_of_ble_eq_true rfl, Nat.le_of_ble_eq_true rfl⟩) hD hS hA (fun u H locs hw hP hD hS => ?_)
  obtain ⟨qs485, ns485, fs485, xs485⟩ := u
  obtain ⟨hn485, hf485⟩ : (ns485 = 16 ∨ ns485 = 34) ∧ tp_fit fs485 := hw
  have hP : va_P (tp_D E) tp_cl ((aB, .inr (6, [.ref qs485, .int 0, .int xs485, .int 0])) :: (qs485, .inl (tp_ty E 3, ns485, .inl fs485)) :: fr) H := hP
  have hD : va_D A ((aB, .inr (6, [.ref qs485, .int 0, .int xs485, .int 0])) :: (qs485, .inl (tp_ty E 3, ns485, .inl fs485)) :: fr) := hD
  exact W.vret hx hb hr (fun t ht hW => ⟨⟨(qs485, ns485, fs485, xs485), rfl, ⟨hn485, hf485⟩, by rw [ht]; exact hP, hD⟩, hS.F ht⟩) hS.2.2 d_SB_setLength_5
set_option maxHeartbeats 400000 in
set_option maxRecDepth 100000 in
theorem cs_AS_isLatin1_1 (l : Launch) (E : tp_Env) (fr : va_W) (sz : Nat) (a1 : Nat) (a2 : Nat) (x3 : Int32) (x4 : Int32) (x5 : Int32) (h1 : x3 = 0) : Met l y_AS_isLatin1 w_AS_isLatin1 ({ frames := 0, cells := 0, slots := 0, locals := 0 }) (va_Pc [.ref a1] (tp_in E ((a1, .inr (6, [.ref a2, .int x3, .int x4, .int x5])) :: fr) sz)) (va_Qi (fun r (_ : Unit) => r = 1) (fun _ t => tp_out E (va_A ((a1, .inr (6, [.ref a2, .int x3, .int x4, .int x5])) :: fr) sz) ((a1, .inr (6, [.ref a2, .int x3, .int x4, .int x5])) :: fr) t) (va_A ((a1, .inr (6, [.ref a2, .int x3, .int x4, .int x5])) :: fr) sz)) 0 0 (va_A ((a1, .inr (6, [.ref a2, .int x3, .int x4, .int x5])) :: fr) sz) := by
  refine Met.ofW (cc := b_AS_isLatin1) (maxL := 1) (ret := (some .boolean)) (by decide) rfl ?_
  intro p e s m args below meth c s₁ B hml hv
  obtain ⟨rfl, hsz, hP, hK, hD0⟩ := hv
  have hx := B.exec
  have hb := B.bytes
  have hr := B.returns
  have htg : ∀ w ∈ tp_G, w.before ([.ref a1] : List Value).toArray s = true := fun w h => atoms_spec (ws := w_AS_isLatin1) B.pre w (List.mem_cons_of_mem _ h)
  have hown : s.vm.findClass "java/lang/AbstractStringBuilder" = some m.cls := findClass_of_methodNamed B.named
  have hlocks := B.notSynchronized
  subst hsz
  have hD := hD0.self (sz := s.heap.size)
  generalize hAe : va_A ((a1, .inr (6, [.ref a2, .int x3, .int x4, .int x5])) :: fr) s.heap.size = A at hD hK ⊢
  have hA : ∀ q : Nat, s.heap.size ≤ q → A q := fun q h => by rw [← hAe]; exact Or.inr h
  have hS : va_S A s.heap s.heap [] := va_S.rf
  have hl := lv_entry ([.ref a1]) (n := 1) (Nat.le_of_ble_eq_true rfl)
  rw [lg_entry_eq]
  generalize (lg_sl ([.ref a1]) ++ List.replicate (1 - (lg_sl ([.ref a1])).length) Slot.unset).toArray = ls at hl ⊢
  have hl : lv_has ls 1 [(0, .ref a1)] := hl
  refine va_gets (v := .int 1) hx hb hK.C.1 hS hown (htg _ kl_AS_18) (fun _ h => h) d_AS_isLatin1_0 ?_
  refine lv_if_eq (tgt := 17) hx hb d_AS_isLatin1_3 (by decide) (fun h => absurd h (by decide)) (fun _ => ?_)
  refine lv_aload_n hx hb d_AS_isLatin1_6 rfl (lv_at hl 0 rfl) ?_
  refine va_get (D := tp_D E) (ci := 6) (v := .int x3) (C := qR_SB) (T := qF_SB) (N := 4) hx hb htg qi_SB hown hK.1 hP 0 rfl rfl 1 (by decide) (htg _ kl_AS_22) (fun _ h => h) rfl d_AS_isLatin1_7 ?_
  refine lv_if_ne (tgt := 17) hx hb d_AS_isLatin1_10 (by decide) (fun h => absurd h1 h) (fun _ => ?_)
  refine lv_iconst (v := 1) hx hb d_AS_isLatin1_13 (by decide) ?_
  refine lv_goto (tgt := 18) hx hb d_AS_isLatin1_14 (by decide) ?_
  exact W.zret (v := 1) hx hb hr rfl (fun t ht hW => ⟨⟨_, (), rfl, rfl, by rw [ht]; exact hP, hD⟩, hS.F ht⟩) hS.2.2 d_AS_isLatin1_18
set_option maxHeartbeats 400000 in
set_option maxRecDepth 100000 in
theorem cs_SL_canEncode_1 (l : Launch) (E : tp_Env) (fr : va_W) (sz : Nat) (x1 : Int32) (h1 : ¬ 255 < x1) : Met l y_SL_canEncode w_SL_canEncode ({ frames := 0, cells := 0, slots := 0, locals := 0 }) (va_Pc [.int x1] (tp_in E fr sz)) (va_Qi (fun r (_ : Unit) => r = 1) (fun _ t => tp_out E (va_A fr sz) fr t) (va_A fr sz)) 0 0 (va_A fr sz) := by
  refine Met.ofW (cc := b_SL_canEncode) (maxL := 1) (ret := (some .boolean)) (by decide) rfl ?_
  intro p e s m args below meth c s₁ B hml hv
  obtain ⟨rfl, hsz, hP, hK, hD0⟩ := hv
  have hx := B.exec
  have hb := B.bytes
  have hr := B.returns
  have htg : ∀ w ∈ tp_G, w.before ([.int x1] : List Value).toArray s = true := fun w h => atoms_spec (ws := w_SL_canEncode) B.pre w (List.mem_cons_of_mem _ h)
  have hown : s.vm.findClass "java/lang/StringLatin1" = some m.cls := findClass_of_methodNamed B.named
  have hlocks := B.notSynchronized
  subst hsz
  have hD := hD0.self (sz := s.heap.size)
  generalize hAe : va_A fr s.heap.size = A at hD hK ⊢
  have hA : ∀ q : Nat, s.heap.size ≤ q → A q := fun q h => by rw [← hAe]; exact Or.inr h
  have hS : va_S A s.heap s.heap [] := va_S.rf
  have hl := lv_entry ([.int x1]) (n := 1) (Nat.le_of_ble_eq_true rfl)
  rw [lg_entry_eq]
  generalize (lg_sl ([.int x1]) ++ List.replicate (1 - (lg_sl ([.int x1])).length) Slot.unset).toArray = ls at hl ⊢
  have hl : lv_has ls 1 [(0, .int x1)] := hl
  refine lv_iload_n hx hb d_SL_canEncode_0 rfl (lv_at hl 0 rfl) ?_
  refine lv_sipush (v := 255) hx hb d_SL_canEncode_1 (by decide) ?_
  refine lv_icmp_gt (tgt := 11) hx hb d_SL_canEncode_4 (by decide) (fun h => absurd h h1) (fun _ => ?_)
  refine lv_iconst (v := 1) hx hb d_SL_canEncode_7 (by decide) ?_
  refine lv_goto (tgt := 12) hx hb d_SL_canEncode_8 (by decide) ?_
  exact W.zret (v := 1) hx hb hr rfl (fun t ht hW => ⟨⟨_, (), rfl, rfl, by rw [ht]; exact hP, hD⟩, hS.F ht⟩) hS.2.2 d_SL_canEncode_12
set_option maxHeartbeats 4000000 in
set_option maxRecDepth 100000 in
theorem s_AS_appC (l : Launch) (E : tp_Env) (fr : va_W) (sz : Nat) (aB ab : Nat) (xm xc : Int32) (nb : Nat) (fb : Nat → Int32) (xk : Int32) (hn : nb = 16 ∨ nb = 34) (hf : tp_fit fb) (hc : 0 ≤ xc.toInt ∧ xc.toInt < 34) (h1 : ¬ 255 < xk) : Met l y_AS_append_0 w_AS_append_0 ({ frames := 4, cells := 1, slots := 34, locals := 144 }) (va_Pc [.ref aB, .int xk] (tp_in E ((aB, .inr (6, [.ref ab, .int 0, .int xm, .int xc])) :: (ab, .inl (tp_ty E 3, nb, .inl fb)) :: fr) sz)) (va_Qr (fun (u : Nat × Nat × (Nat → Int32)) => (u.2.1 = 16 ∨ u.2.1 = 34) ∧ tp_fit u.2.2 ∧ (xc + 1).toInt ≤ (u.2.1 : Int)) (fun u q t => q = (fun (_ : Nat × Nat × (Nat → Int32)) => aB) u ∧ tp_out E (va_A ((aB, .inr (6, [.ref ab, .int 0, .int xm, .int xc])) :: (ab, .inl (tp_ty E 3, nb, .inl fb)) :: fr) sz) ((aB, .inr (6, [.ref u.1, .int 0, .int xm, .int (xc + 1)])) :: (u.1, .inl (tp_ty E 3, u.2.1, .inl u.2.2)) :: fr) t) (va_A ((aB, .inr (6, [.ref ab, .int 0, .int xm, .int xc])) :: (ab, .inl (tp_ty E 3, nb, .inl fb)) :: fr) sz)) 1 34 (va_A ((aB, .inr (6, [.ref ab, .int 0, .int xm, .int xc])) :: (ab, .inl (tp_ty E 3, nb, .inl fb)) :: fr) sz) := by
  refine Met.ofW (cc := b_AS_append_0) (maxL := 2) (ret := (some (.object "java/lang/AbstractStringBuilder"))) (by decide) rfl ?_
  intro p e s m args below meth c s₁ B hml hv
  obtain ⟨rfl, hsz, hP, hK, hD0⟩ := hv
  have hx := B.exec
  have hb := B.bytes
  have hr := B.returns
  have htg : ∀ w ∈ tp_G, w.before ([.ref aB, .int xk] : List Value).toArray s = true := fun w h => atoms_spec (ws := w_AS_append_0) B.pre w (List.mem_cons_of_mem _ h)
  have hown : s.vm.findClass "java/lang/AbstractStringBuilder" = some m.cls := findClass_of_methodNamed B.named
  have hlocks := B.notSynchronized
  subst hsz
  have hD := hD0.self (sz := s.heap.size)
  generalize hAe : va_A ((aB, .inr (6, [.ref ab, .int 0, .int xm, .int xc])) :: (ab, .inl (tp_ty E 3, nb, .inl fb)) :: fr) s.heap.size = A at hD hK ⊢
  have hA : ∀ q : Nat, s.heap.size ≤ q → A q := fun q h => by rw [← hAe]; exact Or.inr h
  have hS : va_S A s.heap s.heap [] := va_S.rf
  have hl := lv_entry ([.ref aB, .int xk]) (n := 2) (Nat.le_of_ble_eq_true rfl)
  rw [lg_entry_eq]
  generalize (lg_sl ([.ref aB, .int xk]) ++ List.replicate (2 - (lg_sl ([.ref aB, .int xk])).length) Slot.unset).toArray = ls at hl ⊢
  have hl : lv_has ls 2 [(0, .ref aB), (1, .int xk)] := hl
  refine lv_aload_n hx hb d_AS_append_0_0 rfl (lv_at hl 0 rfl) ?_
  refine lv_aload_n hx hb d_AS_append_0_1 rfl (lv_at hl 0 rfl) ?_
  refine va_get (D := tp_D E) (ci := 6) (v := .int xc) (C := qR_SB) (T := qF_SB) (N := 4) hx hb htg qi_SB hown hK.1 hP 0 rfl rfl 3 (by decide) (htg _ kl_AS_79) (fun _ h => h) rfl d_AS_append_0_2 ?_
  refine lv_iconst (v := 1) hx hb d_AS_append_0_5 (by decide) ?_
  refine lv_iadd hx hb d_AS_append_0_6 ?_
  refine tp_cv (tp_rV (As := [.int (xc + 1)]) (rest := []) ⟨hx, hb, hml, hown, htg⟩ (a_AS_ensure l E fr _ aB ab xm xc (xc + 1) nb fb hn (tp_c1 hc) hf) (⟨callB_of 1 htg (tp_good0 kc_AS_ensureCapacityInternal) rfl rfl rfl (htg _ ki_AS) (htg _ kl_AS_100) ⟨by decide, by decide, by decide +kernel⟩ ⟨Nat.le_of_ble_eq_true rfl, Nat.le_of_ble_eq_true rfl⟩, htg _ km_AS_ensureCapacityInternal, htg _ kv_SB_AS_ensureCapacityInternal⟩) (va_recv (ci := 6) (q0 := 0) hK.1 hP rfl rfl) hK hP hD hS hA rfl hl.1 rfl (Nat.le_of_ble_eq_true rfl) d_AS_append_0_7 ⟨Nat.le_of_ble_eq_true rfl, Nat.le_of_ble_eq_true rfl⟩) hD hS hA (fun u H locs hw hP hD hS => ?_)
  obtain ⟨eq1, nq1, fq1⟩ := u
  obtain ⟨hnq1, hmq1, hfq1⟩ : (nq1 = 16 ∨ nq1 = 34) ∧ (xc + 1).toInt ≤ (nq1 : Int) ∧ tp_fit fq1 := hw
  have hP : va_P (tp_D E) tp_cl ((aB, .inr (6, [.ref eq1, .int 0, .int xm, .int xc])) :: (eq1, .inl (tp_ty E 3, nq1, .inl fq1)) :: fr) H := hP
  have hD : va_D A ((aB, .inr (6, [.ref eq1, .int 0, .int xm, .int xc])) :: (eq1, .inl (tp_ty E 3, nq1, .inl fq1)) :: fr) := hD
  refine lv_aload_n hx hb d_AS_append_0_10 rfl (lv_at hl 0 rfl) ?_
  refine tp_ci (tp_rV (As := []) (rest := []) ⟨hx, hb, hml, hown, htg⟩ (cs_AS_isLatin1_1 l E ((eq1, .inl (tp_ty E 3, nq1, .inl fq1)) :: fr) _ aB eq1 0 xm xc (by decide)) (⟨callB_of 0 htg (tp_good0 kc_AS_isLatin1) rfl rfl rfl (htg _ ki_AS) (htg _ kl_AS_83) ⟨by decide, by decide, by decide +kernel⟩ ⟨Nat.le_of_ble_eq_true rfl, Nat.le_of_ble_eq_true rfl⟩, htg _ km_AS_isLatin1, htg _ kv_SB_AS_isLatin1⟩) (va_recv (ci := 6) (q0 := 0) hK.1 hP rfl rfl) hK hP hD hS hA rfl hl.1 rfl (Nat.le_of_ble_eq_true rfl) d_AS_append_0_11 ⟨Nat.le_of_ble_eq_true rfl, Nat.le_of_ble_eq_true rfl⟩) hD hS hA (fun r u H locs hw hP hD hS => ?_)
  subst r
  have hP : va_P (tp_D E) tp_cl ((aB, .inr (6, [.ref eq1, .int 0, .int xm, .int xc])) :: (eq1, .inl (tp_ty E 3, nq1, .inl fq1)) :: fr) H := hP
  have hD : va_D A ((aB, .inr (6, [.ref eq1, .int 0, .int xm, .int xc])) :: (eq1, .inl (tp_ty E 3, nq1, .inl fq1)) :: fr) := hD
  refine lv_if_eq (tgt := 45) hx hb d_AS_append_0_14 (by decide) (fun h => absurd h (by decide)) (fun _ => ?_)
  refine lv_iload_n hx hb d_AS_append_0_17 rfl (lv_at hl 1 rfl) ?_
  refine tp_ci (tp_rS (As := [.int xk]) (rest := []) ⟨hx, hb, hml, hown, htg⟩ (cs_SL_canEncode_1 l E ((aB, .inr (6, [.ref eq1, .int 0, .int xm, .int xc])) :: (eq1, .inl (tp_ty E 3, nq1, .inl fq1)) :: fr) _ xk h1) (⟨callB_of 1 htg (tp_good0 kc_SL_canEncode) rfl rfl rfl (htg _ ki_SL) (htg _ kl_AS_191) ⟨by decide, by decide, by decide +kernel⟩ ⟨Nat.le_of_ble_eq_true rfl, Nat.le_of_ble_eq_true rfl⟩, htg _ ks_SL_canEncode⟩) hK hP hD hS hA rfl hl.1 rfl (Nat.le_of_ble_eq_true rfl) d_AS_append_0_18 ⟨Nat.le_of_ble_eq_true rfl, Nat.le_of_ble_eq_true rfl⟩) hD hS hA (fun r u H locs hw hP hD hS => ?_)
  subst r
  have hP : va_P (tp_D E) tp_cl ((aB, .inr (6, [.ref eq1, .int 0, .int xm, .int xc])) :: (eq1, .inl (tp_ty E 3, nq1, .inl fq1)) :: fr) H := hP
  have hD : va_D A ((aB, .inr (6, [.ref eq1, .int 0, .int xm, .int xc])) :: (eq1, .inl (tp_ty E 3, nq1, .inl fq1)) :: fr) := hD
  refine lv_if_eq (tgt := 45) hx hb d_AS_append_0_21 (by decide) (fun h => absurd h (by decide)) (fun _ => ?_)
  refine lv_aload_n hx hb d_AS_append_0_24 rfl (lv_at hl 0 rfl) ?_
  refine va_get (D := tp_D E) (ci := 6) (v := .ref eq1) (C := qR_SB) (T := qF_SB) (N := 4) hx hb htg qi_SB hown hK.1 hP 0 rfl rfl 0 (by decide) (htg _ kl_AS_15) (fun _ h => h) rfl d_AS_append_0_25 ?_
  refine lv_aload_n hx hb d_AS_append_0_28 rfl (lv_at hl 0 rfl) ?_
  refine lv_dup hx hb d_AS_append_0_29 rfl ?_
  refine va_get (D := tp_D E) (ci := 6) (v := .int xc) (C := qR_SB) (T := qF_SB) (N := 4) hx hb htg qi_SB hown hK.1 hP 0 rfl rfl 3 (by decide) (htg _ kl_AS_79) (fun _ h => h) rfl d_AS_append_0_30 ?_
  refine lv_dup_x1 hx hb d_AS_append_0_33 rfl rfl ?_
  refine lv_iconst (v := 1) hx hb d_AS_append_0_34 (by decide) ?_
  refine lv_iadd hx hb d_AS_append_0_35 ?_
  refine va_put (D := tp_D E) (ci := 6) (v := .int (xc + 1)) (ty := .int) (C := qR_SB) (T := qF_SB) (N := 4) hx hb htg qi_SB qt_SB qt_SB_ok qn_SB hown hK.1 hP hD hS 0 rfl rfl 3 (by decide) (htg _ kl_AS_79) (fun _ h => h) rfl (by decide +kernel) rfl rfl (Nat.le_of_ble_eq_true rfl) d_AS_append_0_36 (fun H locs hP hD hS => ?_)
  have hP : va_P (tp_D E) tp_cl ((aB, .inr (6, [.ref eq1, .int 0, .int xm, .int (xc + 1)])) :: (eq1, .inl (tp_ty E 3, nq1, .inl fq1)) :: fr) H := hP
  have hD : va_D A ((aB, .inr (6, [.ref eq1, .int 0, .int xm, .int (xc + 1)])) :: (eq1, .inl (tp_ty E 3, nq1, .inl fq1)) :: fr) := hD
  refine lv_iload_n hx hb d_AS_append_0_39 rfl (lv_at hl 1 rfl) ?_
  refine lv_i2b (v := xk.toInt8.toInt32) hx hb d_AS_append_0_40 rfl ?_
  refine va_bast (D := tp_D E) hx hb hK.1 hP hD hS 1 3 rfl rfl (tp_vc hc hmq1) d_AS_append_0_41 (fun H locs hP hD hS => ?_)
  have hP : va_P (tp_D E) tp_cl ((aB, .inr (6, [.ref eq1, .int 0, .int xm, .int (xc + 1)])) :: (eq1, .inl (tp_ty E 3, nq1, .inl (upd fq1 xc.toNatClampNeg (vp_nar .byte xk.toInt8.toInt32)))) :: fr) H := hP
  have hD : va_D A ((aB, .inr (6, [.ref eq1, .int 0, .int xm, .int (xc + 1)])) :: (eq1, .inl (tp_ty E 3, nq1, .inl (upd fq1 xc.toNatClampNeg (vp_nar .byte xk.toInt8.toInt32)))) :: fr) := hD
  refine lv_goto (tgt := 75) hx hb d_AS_append_0_42 (by decide) ?_
  refine lv_aload_n hx hb d_AS_append_0_75 rfl (lv_at hl 0 rfl) ?_
  exact W.aret (v := .ref aB) hx hb hr (Or.inl ⟨_, rfl⟩) (Or.inr ⟨_, rfl⟩) (fun t ht hW => ⟨⟨(eq1, nq1, (upd fq1 xc.toNatClampNeg (vp_nar .byte xk.toInt8.toInt32))), _, rfl, ⟨hnq1, tp_fitst hfq1, hmq1⟩, rfl, by rw [ht]; exact hP, hD⟩, hS.F ht⟩) hS.2.2 d_AS_append_0_76
set_option maxHeartbeats 4000000 in
set_option maxRecDepth 100000 in
theorem s_SB_appC (l : Launch) (E : tp_Env) (fr : va_W) (sz : Nat) (aB ab : Nat) (xm xc : Int32) (nb : Nat) (fb : Nat → Int32) (xk : Int32) (hn : nb = 16 ∨ nb = 34) (hf : tp_fit fb) (hc : 0 ≤ xc.toInt ∧ xc.toInt < 34) (h1 : ¬ 255 < xk) : Met l y_SB_append_0 w_SB_append_0 ({ frames := 5, cells := 1, slots := 34, locals := 165 }) (va_Pc [.ref aB, .int xk] (tp_in E ((aB, .inr (6, [.ref ab, .int 0, .int xm, .int xc])) :: (ab, .inl (tp_ty E 3, nb, .inl fb)) :: fr) sz)) (va_Qr (fun (u : Nat × Nat × (Nat → Int32)) => (u.2.1 = 16 ∨ u.2.1 = 34) ∧ tp_fit u.2.2 ∧ (xc + 1).toInt ≤ (u.2.1 : Int)) (fun u q t => q = (fun (_ : Nat × Nat × (Nat → Int32)) => aB) u ∧ tp_out E (va_A ((aB, .inr (6, [.ref ab, .int 0, .int xm, .int xc])) :: (ab, .inl (tp_ty E 3, nb, .inl fb)) :: fr) sz) ((aB, .inr (6, [.ref u.1, .int 0, .int xm, .int (xc + 1)])) :: (u.1, .inl (tp_ty E 3, u.2.1, .inl u.2.2)) :: fr) t) (va_A ((aB, .inr (6, [.ref ab, .int 0, .int xm, .int xc])) :: (ab, .inl (tp_ty E 3, nb, .inl fb)) :: fr) sz)) 1 34 (va_A ((aB, .inr (6, [.ref ab, .int 0, .int xm, .int xc])) :: (ab, .inl (tp_ty E 3, nb, .inl fb)) :: fr) sz) := by
  refine Met.ofW (cc := b_SB_append_0) (maxL := 2) (ret := (some (.object "java/lang/StringBuilder"))) (by decide) rfl ?_
  intro p e s m args below meth c s₁ B hml hv
  obtain ⟨rfl, hsz, hP, hK, hD0⟩ := hv
  have hx := B.exec
  have hb := B.bytes
  have hr := B.returns
  have htg : ∀ w ∈ tp_G, w.before ([.ref aB, .int xk] : List Value).toArray s = true := fun w h => atoms_spec (ws := w_SB_append_0) B.pre w (List.mem_cons_of_mem _ h)
  have hown : s.vm.findClass "java/lang/StringBuilder" = some m.cls := findClass_of_methodNamed B.named
  have hlocks := B.notSynchronized
  subst hsz
  have hD := hD0.self (sz := s.heap.size)
  generalize hAe : va_A ((aB, .inr (6, [.ref ab, .int 0, .int xm, .int xc])) :: (ab, .inl (tp_ty E 3, nb, .inl fb)) :: fr) s.heap.size = A at hD hK ⊢
  have hA : ∀ q : Nat, s.heap.size ≤ q → A q := fun q h => by rw [← hAe]; exact Or.inr h
  have hS : va_S A s.heap s.heap [] := va_S.rf
  have hl := lv_entry ([.ref aB, .int xk]) (n := 2) (Nat.le_of_ble_eq_true rfl)
  rw [lg_entry_eq]
  generalize (lg_sl ([.ref aB, .int xk]) ++ List.replicate (2 - (lg_sl ([.ref aB, .int xk])).length) Slot.unset).toArray = ls at hl ⊢
  have hl : lv_has ls 2 [(0, .ref aB), (1, .int xk)] := hl
  refine lv_aload_n hx hb d_SB_append_0_0 rfl (lv_at hl 0 rfl) ?_
  refine lv_iload_n hx hb d_SB_append_0_1 rfl (lv_at hl 1 rfl) ?_
  refine tp_cr (tp_rU (As := [.int xk]) (rest := []) ⟨hx, hb, hml, hown, htg⟩ (s_AS_appC l E fr _ aB ab xm xc nb fb xk hn hf hc h1) (tp_cwU 1 htg kc_AS_append_0 (htg _ kl_SB_50) (htg _ kq_AS_append_0) (htg _ kz_SB) (htg _ km_AS_append_0) (htg _ ki_AS) ⟨by decide, by decide +kernel⟩ ⟨Nat.le_of_ble_eq_true rfl, Nat.le_of_ble_eq_true rfl⟩) (va_recv (ci := 6) (q0 := 0) hK.1 hP rfl rfl) (hK.1.1 6 _ rfl).2 hK hP hD hS hA rfl hl.1 rfl (Nat.le_of_ble_eq_true rfl) d_SB_append_0_2 ⟨Nat.le_of_ble_eq_true rfl, Nat.le_of_ble_eq_true rfl⟩) hD hS hA (fun u H locs hw hP hD hS => ?_)
  obtain ⟨eq1, nq1, fq1⟩ := u
  obtain ⟨hnq1, hfq1, hqq1⟩ : (nq1 = 16 ∨ nq1 = 34) ∧ tp_fit fq1 ∧ (xc + 1).toInt ≤ (nq1 : Int) := hw
  have hP : va_P (tp_D E) tp_cl ((aB, .inr (6, [.ref eq1, .int 0, .int xm, .int (xc + 1)])) :: (eq1, .inl (tp_ty E 3, nq1, .inl fq1)) :: fr) H := hP
  have hD : va_D A ((aB, .inr (6, [.ref eq1, .int 0, .int xm, .int (xc + 1)])) :: (eq1, .inl (tp_ty E 3, nq1, .inl fq1)) :: fr) := hD
  refine lv_pop hx hb d_SB_append_0_5 rfl ?_
  refine lv_aload_n hx hb d_SB_append_0_6 rfl (lv_at hl 0 rfl) ?_
  exact W.aret (v := .ref aB) hx hb hr (Or.inl ⟨_, rfl⟩) (Or.inr ⟨_, rfl⟩) (fun t ht hW => ⟨⟨(eq1, nq1, fq1), _, rfl, ⟨hnq1, hfq1, hqq1⟩, rfl, by rw [ht]; exact hP, hD⟩, hS.F ht⟩) hS.2.2 d_SB_append_0_7
set_option maxHeartbeats 4000000 in
set_option maxRecDepth 100000 in
theorem a_IN_stringSize (l : Launch) (E : tp_Env) (fr : va_W) (sz : Nat) (xv : Int32)  : Met l y_IN_stringSize w_IN_stringSize ({ frames := 0, cells := 0, slots := 0, locals := 0 }) (va_Pc [.int xv] (tp_in E fr sz)) (va_Qi (fun r (_ : Unit) => r.toInt = (tp_dl xv : Int)) (fun _ t => tp_out E (va_A fr sz) fr t) (va_A fr sz)) 0 0 (va_A fr sz) := by
  refine Met.ofW (cc := b_IN_stringSize) (maxL := 4) (ret := (some .int)) (by decide) rfl ?_
  intro p e s m args below meth c s₁ B hml hv
  obtain ⟨rfl, hsz, hP, hK, hD0⟩ := hv
  have hx := B.exec
  have hb := B.bytes
  have hr := B.returns
  have htg : ∀ w ∈ tp_G, w.before ([.int xv] : List Value).toArray s = true := fun w h => atoms_spec (ws := w_IN_stringSize) B.pre w (List.mem_cons_of_mem _ h)
  have hown : s.vm.findClass "java/lang/Integer" = some m.cls := findClass_of_methodNamed B.named
  have hlocks := B.notSynchronized
  subst hsz
  have hD := hD0.self (sz := s.heap.size)
  generalize hAe : va_A fr s.heap.size = A at hD hK ⊢
  have hA : ∀ q : Nat, s.heap.size ≤ q → A q := fun q h => by rw [← hAe]; exact Or.inr h
  have hS : va_S A s.heap s.heap [] := va_S.rf
  have hl := lv_entry ([.int xv]) (n := 4) (Nat.le_of_ble_eq_true rfl)
  rw [lg_entry_eq]
  generalize (lg_sl ([.int xv]) ++ List.replicate (4 - (lg_sl ([.int xv])).length) Slot.unset).toArray = ls at hl ⊢
  have hl : lv_has ls 4 [(0, .int xv)] := hl
  refine tp_join2 (pc' := 11) (fun ls H locs (xd : Int32) (xx : Int32) => ((xx.toInt = -(xv.toInt.natAbs : Int)) ∧ ((tp_dl xv : Int) = (tp_dg xv.toInt.natAbs : Int) + xd.toInt ∧ 0 ≤ xd.toInt ∧ xd.toInt ≤ 1)) ∧ lv_has ls 4 [(1, .int xd), (0, .int xx)] ∧ va_P (tp_D E) tp_cl fr H ∧ va_D A fr ∧ va_S A s.heap H locs) ?_ ?_
  · intro xd xx ls H locs hI
    obtain ⟨⟨hx0, hd⟩, hl, hP, hD, hS⟩ := hI
    refine lv_bipush (v := (-10)) hx hb d_IN_stringSize_11 (by decide) ?_
    refine lv_istore_n (lv' := [(2, .int (-10)), (1, .int xd), (0, .int xx)]) hx hb d_IN_stringSize_13 rfl hl (by decide) rfl (fun ls hl => ?_)
    refine lv_iconst (v := 1) hx hb d_IN_stringSize_14 (by decide) ?_
    refine lv_istore_n (lv' := [(3, .int 1), (2, .int (-10)), (1, .int xd), (0, .int xx)]) hx hb d_IN_stringSize_15 rfl hl (by decide) rfl (fun ls hl => ?_)
    refine lv_iload_n hx hb d_IN_stringSize_16 rfl (lv_at hl 0 rfl) ?_
    refine lv_bipush (v := 10) hx hb d_IN_stringSize_17 (by decide) ?_
    refine lv_icmp_ge (tgt := 42) hx hb d_IN_stringSize_19 (by decide) (fun h => absurd h (by decide)) (fun _ => ?_)
    refine lv_iload_n hx hb d_IN_stringSize_22 rfl (lv_at hl 3 rfl) ?_
    refine lv_iload_n hx hb d_IN_stringSize_23 rfl (lv_at hl 1 rfl) ?_
    by_cases h1 : xx ≤ (-10)
    · refine lv_icmp_le (tgt := 31) hx hb d_IN_stringSize_24 (by decide) (fun _ => ?_) (fun h => absurd h1 h)
      refine lv_bipush (v := 10) hx hb d_IN_stringSize_31 (by decide) ?_
      refine lv_iload_n hx hb d_IN_stringSize_33 rfl (lv_at hl 1 rfl) ?_
      refine lv_imul hx hb d_IN_stringSize_34 ?_
      refine tp_topi (v := (-100)) (by decide) ?_
      refine lv_istore_n (lv' := [(2, .int (-100)), (3, .int 1), (1, .int xd), (0, .int xx)]) hx hb d_IN_stringSize_35 rfl hl (by decide) rfl (fun ls hl => ?_)
      refine lv_iinc (k := 1) (v := 2) (lv' := [(3, .int 2), (2, .int (-100)), (1, .int xd), (0, .int xx)]) hx hb d_IN_stringSize_36 hl rfl (by decide) (by decide) rfl (fun ls hl => ?_)
      refine lv_goto (tgt := 16) hx hb d_IN_stringSize_39 (by decide) ?_
      refine lv_iload_n hx hb d_IN_stringSize_16 rfl (lv_at hl 0 rfl) ?_
      refine lv_bipush (v := 10) hx hb d_IN_stringSize_17 (by decide) ?_
      refine lv_icmp_ge (tgt := 42) hx hb d_IN_stringSize_19 (by decide) (fun h => absurd h (by decide)) (fun _ => ?_)
      refine lv_iload_n hx hb d_IN_stringSize_22 rfl (lv_at hl 3 rfl) ?_
      refine lv_iload_n hx hb d_IN_stringSize_23 rfl (lv_at hl 1 rfl) ?_
      by_cases h2 : xx ≤ (-100)
      · refine lv_icmp_le (tgt := 31) hx hb d_IN_stringSize_24 (by decide) (fun _ => ?_) (fun h => absurd h2 h)
        refine lv_bipush (v := 10) hx hb d_IN_stringSize_31 (by decide) ?_
        refine lv_iload_n hx hb d_IN_stringSize_33 rfl (lv_at hl 1 rfl) ?_
        refine lv_imul hx hb d_IN_stringSize_34 ?_
        refine tp_topi (v := (-1000)) (by decide) ?_
        refine lv_istore_n (lv' := [(2, .int (-1000)), (3, .int 2), (1, .int xd), (0, .int xx)]) hx hb d_IN_stringSize_35 rfl hl (by decide) rfl (fun ls hl => ?_)
        refine lv_iinc (k := 1) (v := 3) (lv' := [(3, .int 3), (2, .int (-1000)), (1, .int xd), (0, .int xx)]) hx hb d_IN_stringSize_36 hl rfl (by decide) (by decide) rfl (fun ls hl => ?_)
        refine lv_goto (tgt := 16) hx hb d_IN_stringSize_39 (by decide) ?_
        refine lv_iload_n hx hb d_IN_stringSize_16 rfl (lv_at hl 0 rfl) ?_
        refine lv_bipush (v := 10) hx hb d_IN_stringSize_17 (by decide) ?_
        refine lv_icmp_ge (tgt := 42) hx hb d_IN_stringSize_19 (by decide) (fun h => absurd h (by decide)) (fun _ => ?_)
        refine lv_iload_n hx hb d_IN_stringSize_22 rfl (lv_at hl 3 rfl) ?_
        refine lv_iload_n hx hb d_IN_stringSize_23 rfl (lv_at hl 1 rfl) ?_
        by_cases h3 : xx ≤ (-1000)
        · refine lv_icmp_le (tgt := 31) hx hb d_IN_stringSize_24 (by decide) (fun _ => ?_) (fun h => absurd h3 h)
          refine lv_bipush (v := 10) hx hb d_IN_stringSize_31 (by decide) ?_
          refine lv_iload_n hx hb d_IN_stringSize_33 rfl (lv_at hl 1 rfl) ?_
          refine lv_imul hx hb d_IN_stringSize_34 ?_
          refine tp_topi (v := (-10000)) (by decide) ?_
          refine lv_istore_n (lv' := [(2, .int (-10000)), (3, .int 3), (1, .int xd), (0, .int xx)]) hx hb d_IN_stringSize_35 rfl hl (by decide) rfl (fun ls hl => ?_)
          refine lv_iinc (k := 1) (v := 4) (lv' := [(3, .int 4), (2, .int (-10000)), (1, .int xd), (0, .int xx)]) hx hb d_IN_stringSize_36 hl rfl (by decide) (by decide) rfl (fun ls hl => ?_)
          refine lv_goto (tgt := 16) hx hb d_IN_stringSize_39 (by decide) ?_
          refine lv_iload_n hx hb d_IN_stringSize_16 rfl (lv_at hl 0 rfl) ?_
          refine lv_bipush (v := 10) hx hb d_IN_stringSize_17 (by decide) ?_
          refine lv_icmp_ge (tgt := 42) hx hb d_IN_stringSize_19 (by decide) (fun h => absurd h (by decide)) (fun _ => ?_)
          refine lv_iload_n hx hb d_IN_stringSize_22 rfl (lv_at hl 3 rfl) ?_
          refine lv_iload_n hx hb d_IN_stringSize_23 rfl (lv_at hl 1 rfl) ?_
          by_cases h4 : xx ≤ (-10000)
          · refine lv_icmp_le (tgt := 31) hx hb d_IN_stringSize_24 (by decide) (fun _ => ?_) (fun h => absurd h4 h)
            refine lv_bipush (v := 10) hx hb d_IN_stringSize_31 (by decide) ?_
            refine lv_iload_n hx hb d_IN_stringSize_33 rfl (lv_at hl 1 rfl) ?_
            refine lv_imul hx hb d_IN_stringSize_34 ?_
            refine tp_topi (v := (-100000)) (by decide) ?_
            refine lv_istore_n (lv' := [(2, .int (-100000)), (3, .int 4), (1, .int xd), (0, .int xx)]) hx hb d_IN_stringSize_35 rfl hl (by decide) rfl (fun ls hl => ?_)
            refine lv_iinc (k := 1) (v := 5) (lv' := [(3, .int 5), (2, .int (-100000)), (1, .int xd), (0, .int xx)]) hx hb d_IN_stringSize_36 hl rfl (by decide) (by decide) rfl (fun ls hl => ?_)
            refine lv_goto (tgt := 16) hx hb d_IN_stringSize_39 (by decide) ?_
            refine lv_iload_n hx hb d_IN_stringSize_16 rfl (lv_at hl 0 rfl) ?_
            refine lv_bipush (v := 10) hx hb d_IN_stringSize_17 (by decide) ?_
            refine lv_icmp_ge (tgt := 42) hx hb d_IN_stringSize_19 (by decide) (fun h => absurd h (by decide)) (fun _ => ?_)
            refine lv_iload_n hx hb d_IN_stringSize_22 rfl (lv_at hl 3 rfl) ?_
            refine lv_iload_n hx hb d_IN_stringSize_23 rfl (lv_at hl 1 rfl) ?_
            by_cases h5 : xx ≤ (-100000)
            · refine lv_icmp_le (tgt := 31) hx hb d_IN_stringSize_24 (by decide) (fun _ => ?_) (fun h => absurd h5 h)
              refine lv_bipush (v := 10) hx hb d_IN_stringSize_31 (by decide) ?_
              refine lv_iload_n hx hb d_IN_stringSize_33 rfl (lv_at hl 1 rfl) ?_
              refine lv_imul hx hb d_IN_stringSize_34 ?_
              refine tp_topi (v := (-1000000)) (by decide) ?_
              refine lv_istore_n (lv' := [(2, .int (-1000000)), (3, .int 5), (1, .int xd), (0, .int xx)]) hx hb d_IN_stringSize_35 rfl hl (by decide) rfl (fun ls hl => ?_)
              refine lv_iinc (k := 1) (v := 6) (lv' := [(3, .int 6), (2, .int (-1000000)), (1, .int xd), (0, .int xx)]) hx hb d_IN_stringSize_36 hl rfl (by decide) (by decide) rfl (fun ls hl => ?_)
              refine lv_goto (tgt := 16) hx hb d_IN_stringSize_39 (by decide) ?_
              refine lv_iload_n hx hb d_IN_stringSize_16 rfl (lv_at hl 0 rfl) ?_
              refine lv_bipush (v := 10) hx hb d_IN_stringSize_17 (by decide) ?_
              refine lv_icmp_ge (tgt := 42) hx hb d_IN_stringSize_19 (by decide) (fun h => absurd h (by decide)) (fun _ => ?_)
              refine lv_iload_n hx hb d_IN_stringSize_22 rfl (lv_at hl 3 rfl) ?_
              refine lv_iload_n hx hb d_IN_stringSize_23 rfl (lv_at hl 1 rfl) ?_
              by_cases h6 : xx ≤ (-1000000)
              · refine lv_icmp_le (tgt := 31) hx hb d_IN_stringSize_24 (by decide) (fun _ => ?_) (fun h => absurd h6 h)
                refine lv_bipush (v := 10) hx hb d_IN_stringSize_31 (by decide) ?_
                refine lv_iload_n hx hb d_IN_stringSize_33 rfl (lv_at hl 1 rfl) ?_
                refine lv_imul hx hb d_IN_stringSize_34 ?_
                refine tp_topi (v := (-10000000)) (by decide) ?_
                refine lv_istore_n (lv' := [(2, .int (-10000000)), (3, .int 6), (1, .int xd), (0, .int xx)]) hx hb d_IN_stringSize_35 rfl hl (by decide) rfl (fun ls hl => ?_)
                refine lv_iinc (k := 1) (v := 7) (lv' := [(3, .int 7), (2, .int (-10000000)), (1, .int xd), (0, .int xx)]) hx hb d_IN_stringSize_36 hl rfl (by decide) (by decide) rfl (fun ls hl => ?_)
                refine lv_goto (tgt := 16) hx hb d_IN_stringSize_39 (by decide) ?_
                refine lv_iload_n hx hb d_IN_stringSize_16 rfl (lv_at hl 0 rfl) ?_
                refine lv_bipush (v := 10) hx hb d_IN_stringSize_17 (by decide) ?_
                refine lv_icmp_ge (tgt := 42) hx hb d_IN_stringSize_19 (by decide) (fun h => absurd h (by decide)) (fun _ => ?_)
                refine lv_iload_n hx hb d_IN_stringSize_22 rfl (lv_at hl 3 rfl) ?_
                refine lv_iload_n hx hb d_IN_stringSize_23 rfl (lv_at hl 1 rfl) ?_
                by_cases h7 : xx ≤ (-10000000)
                · refine lv_icmp_le (tgt := 31) hx hb d_IN_stringSize_24 (by decide) (fun _ => ?_) (fun h => absurd h7 h)
                  refine lv_bipush (v := 10) hx hb d_IN_stringSize_31 (by decide) ?_
                  refine lv_iload_n hx hb d_IN_stringSize_33 rfl (lv_at hl 1 rfl) ?_
                  refine lv_imul hx hb d_IN_stringSize_34 ?_
                  refine tp_topi (v := (-100000000)) (by decide) ?_
                  refine lv_istore_n (lv' := [(2, .int (-100000000)), (3, .int 7), (1, .int xd), (0, .int xx)]) hx hb d_IN_stringSize_35 rfl hl (by decide) rfl (fun ls hl => ?_)
                  refine lv_iinc (k := 1) (v := 8) (lv' := [(3, .int 8), (2, .int (-100000000)), (1, .int xd), (0, .int xx)]) hx hb d_IN_stringSize_36 hl rfl (by decide) (by decide) rfl (fun ls hl => ?_)
                  refine lv_goto (tgt := 16) hx hb d_IN_stringSize_39 (by decide) ?_
                  refine lv_iload_n hx hb d_IN_stringSize_16 rfl (lv_at hl 0 rfl) ?_
                  refine lv_bipush (v := 10) hx hb d_IN_stringSize_17 (by decide) ?_
                  refine lv_icmp_ge (tgt := 42) hx hb d_IN_stringSize_19 (by decide) (fun h => absurd h (by decide)) (fun _ => ?_)
                  refine lv_iload_n hx hb d_IN_stringSize_22 rfl (lv_at hl 3 rfl) ?_
                  refine lv_iload_n hx hb d_IN_stringSize_23 rfl (lv_at hl 1 rfl) ?_
                  by_cases h8 : xx ≤ (-100000000)
                  · refine lv_icmp_le (tgt := 31) hx hb d_IN_stringSize_24 (by decide) (fun _ => ?_) (fun h => absurd h8 h)
                    refine lv_bipush (v := 10) hx hb d_IN_stringSize_31 (by decide) ?_
                    refine lv_iload_n hx hb d_IN_stringSize_33 rfl (lv_at hl 1 rfl) ?_
                    refine lv_imul hx hb d_IN_stringSize_34 ?_
                    refine tp_topi (v := (-1000000000)) (by decide) ?_
                    refine lv_istore_n (lv' := [(2, .int (-1000000000)), (3, .int 8), (1, .int xd), (0, .int xx)]) hx hb d_IN_stringSize_35 rfl hl (by decide) rfl (fun ls hl => ?_)
                    refine lv_iinc (k := 1) (v := 9) (lv' := [(3, .int 9), (2, .int (-1000000000)), (1, .int xd), (0, .int xx)]) hx hb d_IN_stringSize_36 hl rfl (by decide) (by decide) rfl (fun ls hl => ?_)
                    refine lv_goto (tgt := 16) hx hb d_IN_stringSize_39 (by decide) ?_
                    refine lv_iload_n hx hb d_IN_stringSize_16 rfl (lv_at hl 0 rfl) ?_
                    refine lv_bipush (v := 10) hx hb d_IN_stringSize_17 (by decide) ?_
                    refine lv_icmp_ge (tgt := 42) hx hb d_IN_stringSize_19 (by decide) (fun h => absurd h (by decide)) (fun _ => ?_)
                    refine lv_iload_n hx hb d_IN_stringSize_22 rfl (lv_at hl 3 rfl) ?_
                    refine lv_iload_n hx hb d_IN_stringSize_23 rfl (lv_at hl 1 rfl) ?_
                    by_cases h9 : xx ≤ (-1000000000)
                    · refine lv_icmp_le (tgt := 31) hx hb d_IN_stringSize_24 (by decide) (fun _ => ?_) (fun h => absurd h9 h)
                      refine lv_bipush (v := 10) hx hb d_IN_stringSize_31 (by decide) ?_
                      refine lv_iload_n hx hb d_IN_stringSize_33 rfl (lv_at hl 1 rfl) ?_
                      refine lv_imul hx hb d_IN_stringSize_34 ?_
                      refine tp_topi (v := (-1410065408)) (by decide) ?_
                      refine lv_istore_n (lv' := [(2, .int (-1410065408)), (3, .int 9), (1, .int xd), (0, .int xx)]) hx hb d_IN_stringSize_35 rfl hl (by decide) rfl (fun ls hl => ?_)
                      refine lv_iinc (k := 1) (v := 10) (lv' := [(3, .int 10), (2, .int (-1410065408)), (1, .int xd), (0, .int xx)]) hx hb d_IN_stringSize_36 hl rfl (by decide) (by decide) rfl (fun ls hl => ?_)
                      refine lv_goto (tgt := 16) hx hb d_IN_stringSize_39 (by decide) ?_
                      refine lv_iload_n hx hb d_IN_stringSize_16 rfl (lv_at hl 0 rfl) ?_
                      refine lv_bipush (v := 10) hx hb d_IN_stringSize_17 (by decide) ?_
                      refine lv_icmp_ge (tgt := 42) hx hb d_IN_stringSize_19 (by decide) (fun _ => ?_) (fun h => absurd (by decide) h)
                      refine lv_bipush (v := 10) hx hb d_IN_stringSize_42 (by decide) ?_
                      refine lv_iload_n hx hb d_IN_stringSize_44 rfl (lv_at hl 2 rfl) ?_
                      refine lv_iadd hx hb d_IN_stringSize_45 ?_
                      exact W.iret (v := (10 + xd)) hx hb hr (fun t ht hW => ⟨⟨_, (), rfl, tp_sz10 hx0 hd h8 h9, by rw [ht]; exact hP, hD⟩, hS.F ht⟩) hS.2.2 d_IN_stringSize_46
                    · refine lv_icmp_le (tgt := 31) hx hb d_IN_stringSize_24 (by decide) (fun h => absurd h h9) (fun _ => ?_)
                      refine lv_iload_n hx hb d_IN_stringSize_27 rfl (lv_at hl 0 rfl) ?_
                      refine lv_iload_n hx hb d_IN_stringSize_28 rfl (lv_at hl 2 rfl) ?_
                      refine lv_iadd hx hb d_IN_stringSize_29 ?_
                      exact W.iret (v := (9 + xd)) hx hb hr (fun t ht hW => ⟨⟨_, (), rfl, tp_sz9 hx0 hd h8 h9, by rw [ht]; exact hP, hD⟩, hS.F ht⟩) hS.2.2 d_IN_stringSize_30
                  · refine lv_icmp_le (tgt := 31) hx hb d_IN_stringSize_24 (by decide) (fun h => absurd h h8) (fun _ => ?_)
                    refine lv_iload_n hx hb d_IN_stringSize_27 rfl (lv_at hl 0 rfl) ?_
                    refine lv_iload_n hx hb d_IN_stringSize_28 rfl (lv_at hl 2 rfl) ?_
                    refine lv_iadd hx hb d_IN_stringSize_29 ?_
                    exact W.iret (v := (8 + xd)) hx hb hr (fun t ht hW => ⟨⟨_, (), rfl, tp_sz8 hx0 hd h7 h8, by rw [ht]; exact hP, hD⟩, hS.F ht⟩) hS.2.2 d_IN_stringSize_30
                · refine lv_icmp_le (tgt := 31) hx hb d_IN_stringSize_24 (by decide) (fun h => absurd h h7) (fun _ => ?_)
                  refine lv_iload_n hx hb d_IN_stringSize_27 rfl (lv_at hl 0 rfl) ?_
                  refine lv_iload_n hx hb d_IN_stringSize_28 rfl (lv_at hl 2 rfl) ?_
                  refine lv_iadd hx hb d_IN_stringSize_29 ?_
                  exact W.iret (v := (7 + xd)) hx hb hr (fun t ht hW => ⟨⟨_, (), rfl, tp_sz7 hx0 hd h6 h7, by rw [ht]; exact hP, hD⟩, hS.F ht⟩) hS.2.2 d_IN_stringSize_30
              · refine lv_icmp_le (tgt := 31) hx hb d_IN_stringSize_24 (by decide) (fun h => absurd h h6) (fun _ => ?_)
                refine lv_iload_n hx hb d_IN_stringSize_27 rfl (lv_at hl 0 rfl) ?_
                refine lv_iload_n hx hb d_IN_stringSize_28 rfl (lv_at hl 2 rfl) ?_
                refine lv_iadd hx hb d_IN_stringSize_29 ?_
                exact W.iret (v := (6 + xd)) hx hb hr (fun t ht hW => ⟨⟨_, (), rfl, tp_sz6 hx0 hd h5 h6, by rw [ht]; exact hP, hD⟩, hS.F ht⟩) hS.2.2 d_IN_stringSize_30
            · refine lv_icmp_le (tgt := 31) hx hb d_IN_stringSize_24 (by decide) (fun h => absurd h h5) (fun _ => ?_)
              refine lv_iload_n hx hb d_IN_stringSize_27 rfl (lv_at hl 0 rfl) ?_
              refine lv_iload_n hx hb d_IN_stringSize_28 rfl (lv_at hl 2 rfl) ?_
              refine lv_iadd hx hb d_IN_stringSize_29 ?_
              exact W.iret (v := (5 + xd)) hx hb hr (fun t ht hW => ⟨⟨_, (), rfl, tp_sz5 hx0 hd h4 h5, by rw [ht]; exact hP, hD⟩, hS.F ht⟩) hS.2.2 d_IN_stringSize_30
          · refine lv_icmp_le (tgt := 31) hx hb d_IN_stringSize_24 (by decide) (fun h => absurd h h4) (fun _ => ?_)
            refine lv_iload_n hx hb d_IN_stringSize_27 rfl (lv_at hl 0 rfl) ?_
            refine lv_iload_n hx hb d_IN_stringSize_28 rfl (lv_at hl 2 rfl) ?_
            refine lv_iadd hx hb d_IN_stringSize_29 ?_
            exact W.iret (v := (4 + xd)) hx hb hr (fun t ht hW => ⟨⟨_, (), rfl, tp_sz4 hx0 hd h3 h4, by rw [ht]; exact hP, hD⟩, hS.F ht⟩) hS.2.2 d_IN_stringSize_30
        · refine lv_icmp_le (tgt := 31) hx hb d_IN_stringSize_24 (by decide) (fun h => absurd h h3) (fun _ => ?_)
          refine lv_iload_n hx hb d_IN_stringSize_27 rfl (lv_at hl 0 rfl) ?_
          refine lv_iload_n hx hb d_IN_stringSize_28 rfl (lv_at hl 2 rfl) ?_
          refine lv_iadd hx hb d_IN_stringSize_29 ?_
          exact W.iret (v := (3 + xd)) hx hb hr (fun t ht hW => ⟨⟨_, (), rfl, tp_sz3 hx0 hd h2 h3, by rw [ht]; exact hP, hD⟩, hS.F ht⟩) hS.2.2 d_IN_stringSize_30
      · refine lv_icmp_le (tgt := 31) hx hb d_IN_stringSize_24 (by decide) (fun h => absurd h h2) (fun _ => ?_)
        refine lv_iload_n hx hb d_IN_stringSize_27 rfl (lv_at hl 0 rfl) ?_
        refine lv_iload_n hx hb d_IN_stringSize_28 rfl (lv_at hl 2 rfl) ?_
        refine lv_iadd hx hb d_IN_stringSize_29 ?_
        exact W.iret (v := (2 + xd)) hx hb hr (fun t ht hW => ⟨⟨_, (), rfl, tp_sz2 hx0 hd h1 h2, by rw [ht]; exact hP, hD⟩, hS.F ht⟩) hS.2.2 d_IN_stringSize_30
    · refine lv_icmp_le (tgt := 31) hx hb d_IN_stringSize_24 (by decide) (fun h => absurd h h1) (fun _ => ?_)
      refine lv_iload_n hx hb d_IN_stringSize_27 rfl (lv_at hl 0 rfl) ?_
      refine lv_iload_n hx hb d_IN_stringSize_28 rfl (lv_at hl 2 rfl) ?_
      refine lv_iadd hx hb d_IN_stringSize_29 ?_
      exact W.iret (v := (1 + xd)) hx hb hr (fun t ht hW => ⟨⟨_, (), rfl, tp_sz1 hx0 hd h1, by rw [ht]; exact hP, hD⟩, hS.F ht⟩) hS.2.2 d_IN_stringSize_30
  · intro jn11
    refine lv_iconst (v := 1) hx hb d_IN_stringSize_0 (by decide) ?_
    refine lv_istore_n (lv' := [(1, .int 1), (0, .int xv)]) hx hb d_IN_stringSize_1 rfl hl (by decide) rfl (fun ls hl => ?_)
    refine lv_iload_n hx hb d_IN_stringSize_2 rfl (lv_at hl 1 rfl) ?_
    by_cases h1 : xv < 0
    · refine lv_if_lt (tgt := 11) hx hb d_IN_stringSize_3 (by decide) (fun _ => ?_) (fun h => absurd h1 h)
      exact jn11 1 xv ls _ _ ⟨⟨tp_ssn h1, tp_sdn h1⟩, tp_lvI hl [0, 1] rfl, hP, hD, hS⟩
    · refine lv_if_lt (tgt := 11) hx hb d_IN_stringSize_3 (by decide) (fun h => absurd h h1) (fun _ => ?_)
      refine lv_iconst (v := 0) hx hb d_IN_stringSize_6 (by decide) ?_
      refine lv_istore_n (lv' := [(1, .int 0), (0, .int xv)]) hx hb d_IN_stringSize_7 rfl hl (by decide) rfl (fun ls hl => ?_)
      refine lv_iload_n hx hb d_IN_stringSize_8 rfl (lv_at hl 1 rfl) ?_
      refine lv_ineg hx hb d_IN_stringSize_9 ?_
      refine lv_istore_n (lv' := [(0, .int (-xv)), (1, .int 0)]) hx hb d_IN_stringSize_10 rfl hl (by decide) rfl (fun ls hl => ?_)
      exact jn11 0 (-xv) ls _ _ ⟨⟨tp_ssp h1, tp_sdp h1⟩, tp_lvI hl [1, 0] rfl, hP, hD, hS⟩
set_option maxHeartbeats 4000000 in
set_option maxRecDepth 100000 in
theorem a_IN_getChars (l : Launch) (E : tp_Env) (fr : va_W) (sz : Nat) (ab nb : Nat) (xv xi : Int32) (fb : Nat → Int32) (hd : (tp_dl xv : Int) ≤ xi.toInt) (hin9 : xi.toInt ≤ (nb : Int)) (hf : tp_fit fb) : Met l y_IN_getChars w_IN_getChars ({ frames := 0, cells := 0, slots := 0, locals := 0 }) (va_Pc [.int xv, .int xi, .ref ab] (tp_in E ((ab, .inl (tp_ty E 3, nb, .inl fb)) :: fr) sz)) (va_Qi (fun _ (u : Nat → Int32) => tp_fit u) (fun u t => tp_out E (va_A ((ab, .inl (tp_ty E 3, nb, .inl fb)) :: fr) sz) ((ab, .inl (tp_ty E 3, nb, .inl u)) :: fr) t) (va_A ((ab, .inl (tp_ty E 3, nb, .inl fb)) :: fr) sz)) 0 0 (va_A ((ab, .inl (tp_ty E 3, nb, .inl fb)) :: fr) sz) := by
  refine Met.ofW (cc := b_IN_getChars) (maxL := 7) (ret := (some .int)) (by decide) rfl ?_
  intro p e s m args below meth c s₁ B hml hv
  obtain ⟨rfl, hsz, hP, hK, hD0⟩ := hv
  have hx := B.exec
  have hb := B.bytes
  have hr := B.returns
  have htg : ∀ w ∈ tp_G, w.before ([.int xv, .int xi, .ref ab] : List Value).toArray s = true := fun w h => atoms_spec (ws := w_IN_getChars) B.pre w (List.mem_cons_of_mem _ h)
  have hown : s.vm.findClass "java/lang/Integer" = some m.cls := findClass_of_methodNamed B.named
  have hlocks := B.notSynchronized
  subst hsz
  have hD := hD0.self (sz := s.heap.size)
  generalize hAe : va_A ((ab, .inl (tp_ty E 3, nb, .inl fb)) :: fr) s.heap.size = A at hD hK ⊢
  have hA : ∀ q : Nat, s.heap.size ≤ q → A q := fun q h => by rw [← hAe]; exact Or.inr h
  have hS : va_S A s.heap s.heap [] := va_S.rf
  have hl := lv_entry ([.int xv, .int xi, .ref ab]) (n := 7) (Nat.le_of_ble_eq_true rfl)
  rw [lg_entry_eq]
  generalize (lg_sl ([.int xv, .int xi, .ref ab]) ++ List.replicate (7 - (lg_sl ([.int xv, .int xi, .ref ab])).length) Slot.unset).toArray = ls at hl ⊢
  have hl : lv_has ls 7 [(0, .int xv), (1, .int xi), (2, .ref ab)] := hl
  refine lv_iload_n hx hb d_IN_getChars_0 rfl (lv_at hl 1 rfl) ?_
  refine lv_istore (lv' := [(5, .int xi), (0, .int xv), (1, .int xi), (2, .ref ab)]) hx hb d_IN_getChars_1 hl (by decide) rfl (fun ls hl => ?_)
  refine lv_iload_n hx hb d_IN_getChars_3 rfl (lv_at hl 1 rfl) ?_
  by_cases h1 : 0 ≤ xv
  · refine lv_if_ge (tgt := 11) hx hb d_IN_getChars_4 (by decide) (fun _ => ?_) (fun h => absurd h1 h)
    refine lv_iconst (v := 0) hx hb d_IN_getChars_11 (by decide) ?_
    refine lv_istore (lv' := [(6, .int 0), (5, .int xi), (0, .int xv), (1, .int xi), (2, .ref ab)]) hx hb d_IN_getChars_12 hl (by decide) rfl (fun ls hl => ?_)
    refine lv_iload hx hb d_IN_getChars_14 (lv_at hl 0 rfl) ?_
    refine lv_if_ne (tgt := 22) hx hb d_IN_getChars_16 (by decide) (fun h => absurd (by decide) h) (fun _ => ?_)
    refine lv_iload_n hx hb d_IN_getChars_19 rfl (lv_at hl 2 rfl) ?_
    refine lv_ineg hx hb d_IN_getChars_20 ?_
    refine lv_istore_n (lv' := [(0, .int (-xv)), (6, .int 0), (5, .int xi), (1, .int xi), (2, .ref ab)]) hx hb d_IN_getChars_21 rfl hl (by decide) rfl (fun ls hl => ?_)
    refine tp_loop3 (fun j ls H locs (x : Int32) (cp : Int32) (f : Nat → Int32) => ((x.toInt ≤ 0) ∧ (x.toInt.natAbs = j) ∧ ((tp_dg x.toInt.natAbs : Int) + 0 ≤ cp.toInt) ∧ (cp.toInt ≤ (nb : Int)) ∧ (tp_fit f)) ∧ lv_has ls 7 [(0, .int x), (5, .int cp), (6, .int 0), (1, .int xi), (2, .ref ab)] ∧ va_P (tp_D E) tp_cl ((ab, .inl (tp_ty E 3, nb, .inl f)) :: fr) H ∧ va_D A ((ab, .inl (tp_ty E 3, nb, .inl f)) :: fr) ∧ va_S A s.heap H locs) ?_ _ (-xv) xi fb ⟨⟨tp_x0p h1, rfl, tp_dlp hd h1, hin9, hf⟩, tp_lvI hl [0, 2, 1, 3, 4] rfl, hP, hD, hS⟩
    intro j x cp f ls H locs hI ih
    obtain ⟨⟨hx0, hj, hd, hcn, hf⟩, hl, hP, hD, hS⟩ := hI
    refine lv_iload_n hx hb d_IN_getChars_22 rfl (lv_at hl 0 rfl) ?_
    refine lv_bipush (v := (-100)) hx hb d_IN_getChars_23 (by decide) ?_
    by_cases h2 : (-100) < x
    · refine lv_icmp_gt (tgt := 72) hx hb d_IN_getChars_25 (by decide) (fun _ => ?_) (fun h => absurd h2 h)
      refine lv_aload_n hx hb d_IN_getChars_72 rfl (lv_at hl 4 rfl) ?_
      refine lv_iinc (k := 1) (v := (cp + (-1))) (lv' := [(5, .int (cp + (-1))), (0, .int x), (6, .int 0), (1, .int xi), (2, .ref ab)]) hx hb d_IN_getChars_73 hl rfl rfl (by decide) rfl (fun ls hl => ?_)
      refine lv_iload hx hb d_IN_getChars_76 (lv_at hl 0 rfl) ?_
      refine va_gets (v := .ref (tp_ad E 102)) hx hb hK.onesZ hS hown (htg _ kl_IN_83) (fun _ h => h) d_IN_getChars_78 ?_
      refine lv_iload_n hx hb d_IN_getChars_81 rfl (lv_at hl 1 rfl) ?_
      refine lv_ineg hx hb d_IN_getChars_82 ?_
      refine va_tb (v := .int (tp_ones.getD (-x).toNatClampNeg 0)) hx hb hK.onesT hS (tp_vng hx0 h2) rfl d_IN_getChars_83 ?_
      refine va_bast (D := tp_D E) hx hb hK.1 hP hD hS 0 3 rfl rfl (tp_vD1 (by have g1 := @tp_dg1 x.toInt.natAbs; omega) hcn) d_IN_getChars_84 (fun H locs hP hD hS => ?_)
      have hP : va_P (tp_D E) tp_cl ((ab, .inl (tp_ty E 3, nb, .inl (upd f (cp + (-1)).toNatClampNeg (vp_nar .byte (tp_ones.getD (-x).toNatClampNeg 0))))) :: fr) H := hP
      have hD : va_D A ((ab, .inl (tp_ty E 3, nb, .inl (upd f (cp + (-1)).toNatClampNeg (vp_nar .byte (tp_ones.getD (-x).toNatClampNeg 0))))) :: fr) := hD
      refine lv_iload_n hx hb d_IN_getChars_85 rfl (lv_at hl 1 rfl) ?_
      refine lv_bipush (v := (-9)) hx hb d_IN_getChars_86 (by decide) ?_
      by_cases h3 : (-9) ≤ x
      · refine lv_icmp_ge (tgt := 104) hx hb d_IN_getChars_88 (by decide) (fun _ => ?_) (fun h => absurd h3 h)
        refine lv_iload hx hb d_IN_getChars_104 (lv_at hl 2 rfl) ?_
        refine lv_if_eq (tgt := 118) hx hb d_IN_getChars_106 (by decide) (fun _ => ?_) (fun h => absurd (by decide) h)
        refine lv_iload hx hb d_IN_getChars_118 (lv_at hl 0 rfl) ?_
        exact W.iret (v := (cp + (-1))) hx hb hr (fun t ht hW => ⟨⟨_, (upd f (cp + (-1)).toNatClampNeg (vp_nar .byte (tp_ones.getD (-x).toNatClampNeg 0))), rfl, (tp_fitst hf), by rw [ht]; exact hP, hD⟩, hS.F ht⟩) hS.2.2 d_IN_getChars_120
      · refine lv_icmp_ge (tgt := 104) hx hb d_IN_getChars_88 (by decide) (fun h => absurd h h3) (fun _ => ?_)
        refine lv_aload_n hx hb d_IN_getChars_91 rfl (lv_at hl 4 rfl) ?_
        refine lv_iinc (k := 0) (v := ((cp + (-1)) + (-1))) (lv' := [(5, .int ((cp + (-1)) + (-1))), (0, .int x), (6, .int 0), (1, .int xi), (2, .ref ab)]) hx hb d_IN_getChars_92 hl rfl rfl (by decide) rfl (fun ls hl => ?_)
        refine lv_iload hx hb d_IN_getChars_95 (lv_at hl 0 rfl) ?_
        refine va_gets (v := .ref (tp_ad E 103)) hx hb hK.tensZ hS hown (htg _ kl_IN_87) (fun _ h => h) d_IN_getChars_97 ?_
        refine lv_iload_n hx hb d_IN_getChars_100 rfl (lv_at hl 1 rfl) ?_
        refine lv_ineg hx hb d_IN_getChars_101 ?_
        refine va_tb (v := .int (tp_tens.getD (-x).toNatClampNeg 0)) hx hb hK.tensT hS (tp_vng hx0 h2) rfl d_IN_getChars_102 ?_
        refine va_bast (D := tp_D E) hx hb hK.1 hP hD hS 0 3 rfl rfl (tp_vD2 (by have g1 := @tp_dg1 x.toInt.natAbs; have g2 := tp_dg2 (tp_na10 h3); omega) hcn) d_IN_getChars_103 (fun H locs hP hD hS => ?_)
        have hP : va_P (tp_D E) tp_cl ((ab, .inl (tp_ty E 3, nb, .inl (upd (upd f (cp + (-1)).toNatClampNeg (vp_nar .byte (tp_ones.getD (-x).toNatClampNeg 0))) ((cp + (-1)) + (-1)).toNatClampNeg (vp_nar .byte (tp_tens.getD (-x).toNatClampNeg 0))))) :: fr) H := hP
        have hD : va_D A ((ab, .inl (tp_ty E 3, nb, .inl (upd (upd f (cp + (-1)).toNatClampNeg (vp_nar .byte (tp_ones.getD (-x).toNatClampNeg 0))) ((cp + (-1)) + (-1)).toNatClampNeg (vp_nar .byte (tp_tens.getD (-x).toNatClampNeg 0))))) :: fr) := hD
        refine lv_iload hx hb d_IN_getChars_104 (lv_at hl 2 rfl) ?_
        refine lv_if_eq (tgt := 118) hx hb d_IN_getChars_106 (by decide) (fun _ => ?_) (fun h => absurd (by decide) h)
        refine lv_iload hx hb d_IN_getChars_118 (lv_at hl 0 rfl) ?_
        exact W.iret (v := ((cp + (-1)) + (-1))) hx hb hr (fun t ht hW => ⟨⟨_, (upd (upd f (cp + (-1)).toNatClampNeg (vp_nar .byte (tp_ones.getD (-x).toNatClampNeg 0))) ((cp + (-1)) + (-1)).toNatClampNeg (vp_nar .byte (tp_tens.getD (-x).toNatClampNeg 0))), rfl, (tp_fitst (tp_fitst hf)), by rw [ht]; exact hP, hD⟩, hS.F ht⟩) hS.2.2 d_IN_getChars_120
    · refine lv_icmp_gt (tgt := 72) hx hb d_IN_getChars_25 (by decide) (fun h => absurd h h2) (fun _ => ?_)
      refine lv_iload_n hx hb d_IN_getChars_28 rfl (lv_at hl 0 rfl) ?_
      refine lv_bipush (v := 100) hx hb d_IN_getChars_29 (by decide) ?_
      refine lv_idiv hx hb d_IN_getChars_31 (by decide) ?_
      refine lv_istore_n (lv' := [(3, .int (x / 100)), (0, .int x), (5, .int cp), (6, .int 0), (1, .int xi), (2, .ref ab)]) hx hb d_IN_getChars_32 rfl hl (by decide) rfl (fun ls hl => ?_)
      refine lv_iload_n hx hb d_IN_getChars_33 rfl (lv_at hl 0 rfl) ?_
      refine lv_bipush (v := 100) hx hb d_IN_getChars_34 (by decide) ?_
      refine lv_imul hx hb d_IN_getChars_36 ?_
      refine lv_iload_n hx hb d_IN_getChars_37 rfl (lv_at hl 1 rfl) ?_
      refine lv_isub hx hb d_IN_getChars_38 ?_
      refine lv_istore (lv' := [(4, .int (((x / 100) * 100) - x)), (3, .int (x / 100)), (0, .int x), (5, .int cp), (6, .int 0), (1, .int xi), (2, .ref ab)]) hx hb d_IN_getChars_39 hl (by decide) rfl (fun ls hl => ?_)
      refine lv_iload_n hx hb d_IN_getChars_41 rfl (lv_at hl 1 rfl) ?_
      refine lv_istore_n (lv' := [(0, .int (x / 100)), (4, .int (((x / 100) * 100) - x)), (3, .int (x / 100)), (5, .int cp), (6, .int 0), (1, .int xi), (2, .ref ab)]) hx hb d_IN_getChars_42 rfl hl (by decide) rfl (fun ls hl => ?_)
      refine lv_aload_n hx hb d_IN_getChars_43 rfl (lv_at hl 6 rfl) ?_
      refine lv_iinc (k := 3) (v := (cp + (-1))) (lv' := [(5, .int (cp + (-1))), (0, .int (x / 100)), (4, .int (((x / 100) * 100) - x)), (3, .int (x / 100)), (6, .int 0), (1, .int xi), (2, .ref ab)]) hx hb d_IN_getChars_44 hl rfl rfl (by decide) rfl (fun ls hl => ?_)
      refine lv_iload hx hb d_IN_getChars_47 (lv_at hl 0 rfl) ?_
      refine va_gets (v := .ref (tp_ad E 102)) hx hb hK.onesZ hS hown (htg _ kl_IN_83) (fun _ h => h) d_IN_getChars_49 ?_
      refine lv_iload hx hb d_IN_getChars_52 (lv_at hl 2 rfl) ?_
      refine va_tb (v := .int (tp_ones.getD (((x / 100) * 100) - x).toNatClampNeg 0)) hx hb hK.onesT hS (tp_vr hx0) rfl d_IN_getChars_54 ?_
      refine va_bast (D := tp_D E) hx hb hK.1 hP hD hS 0 3 rfl rfl (tp_vD1 (by have g1 := @tp_dg1 x.toInt.natAbs; have g3 := tp_dg3 (tp_na100 h2); omega) hcn) d_IN_getChars_55 (fun H locs hP hD hS => ?_)
      have hP : va_P (tp_D E) tp_cl ((ab, .inl (tp_ty E 3, nb, .inl (upd f (cp + (-1)).toNatClampNeg (vp_nar .byte (tp_ones.getD (((x / 100) * 100) - x).toNatClampNeg 0))))) :: fr) H := hP
      have hD : va_D A ((ab, .inl (tp_ty E 3, nb, .inl (upd f (cp + (-1)).toNatClampNeg (vp_nar .byte (tp_ones.getD (((x / 100) * 100) - x).toNatClampNeg 0))))) :: fr) := hD
      refine lv_aload_n hx hb d_IN_getChars_56 rfl (lv_at hl 6 rfl) ?_
      refine lv_iinc (k := 0) (v := ((cp + (-1)) + (-1))) (lv' := [(5, .int ((cp + (-1)) + (-1))), (0, .int (x / 100)), (4, .int (((x / 100) * 100) - x)), (3, .int (x / 100)), (6, .int 0), (1, .int xi), (2, .ref ab)]) hx hb d_IN_getChars_57 hl rfl rfl (by decide) rfl (fun ls hl => ?_)
      refine lv_iload hx hb d_IN_getChars_60 (lv_at hl 0 rfl) ?_
      refine va_gets (v := .ref (tp_ad E 103)) hx hb hK.tensZ hS hown (htg _ kl_IN_87) (fun _ h => h) d_IN_getChars_62 ?_
      refine lv_iload hx hb d_IN_getChars_65 (lv_at hl 2 rfl) ?_
      refine va_tb (v := .int (tp_tens.getD (((x / 100) * 100) - x).toNatClampNeg 0)) hx hb hK.tensT hS (tp_vr hx0) rfl d_IN_getChars_67 ?_
      refine va_bast (D := tp_D E) hx hb hK.1 hP hD hS 0 3 rfl rfl (tp_vD2 (by have g1 := @tp_dg1 x.toInt.natAbs; have g3 := tp_dg3 (tp_na100 h2); omega) hcn) d_IN_getChars_68 (fun H locs hP hD hS => ?_)
      have hP : va_P (tp_D E) tp_cl ((ab, .inl (tp_ty E 3, nb, .inl (upd (upd f (cp + (-1)).toNatClampNeg (vp_nar .byte (tp_ones.getD (((x / 100) * 100) - x).toNatClampNeg 0))) ((cp + (-1)) + (-1)).toNatClampNeg (vp_nar .byte (tp_tens.getD (((x / 100) * 100) - x).toNatClampNeg 0))))) :: fr) H := hP
      have hD : va_D A ((ab, .inl (tp_ty E 3, nb, .inl (upd (upd f (cp + (-1)).toNatClampNeg (vp_nar .byte (tp_ones.getD (((x / 100) * 100) - x).toNatClampNeg 0))) ((cp + (-1)) + (-1)).toNatClampNeg (vp_nar .byte (tp_tens.getD (((x / 100) * 100) - x).toNatClampNeg 0))))) :: fr) := hD
      refine lv_goto (tgt := 22) hx hb d_IN_getChars_69 (by decide) ?_
      have hq := tp_q100 hx0 h2
      have e1 : ((cp + (-1)) + (-1)).toInt = cp.toInt - 2 := tp_m2 (by have g1 := @tp_dg1 x.toInt.natAbs; omega)
      exact ih ((x / 100).toInt.natAbs) (x / 100) ((cp + (-1)) + (-1)) (upd (upd f (cp + (-1)).toNatClampNeg (vp_nar .byte (tp_ones.getD (((x / 100) * 100) - x).toNatClampNeg 0))) ((cp + (-1)) + (-1)).toNatClampNeg (vp_nar .byte (tp_tens.getD (((x / 100) * 100) - x).toNatClampNeg 0))) ls _ _ (by rw [← hj]; exact hq.2.1) ⟨⟨hq.1, rfl, tp_gc1 hd hq.2.2 e1, tp_gc2 hcn e1, tp_fitst (tp_fitst hf)⟩, tp_lvI hl [1, 0, 4, 5, 6] rfl, hP, hD, hS⟩
  · refine lv_if_ge (tgt := 11) hx hb d_IN_getChars_4 (by decide) (fun h => absurd h h1) (fun _ => ?_)
    refine lv_iconst (v := 1) hx hb d_IN_getChars_7 (by decide) ?_
    refine lv_goto (tgt := 12) hx hb d_IN_getChars_8 (by decide) ?_
    refine lv_istore (lv' := [(6, .int 1), (5, .int xi), (0, .int xv), (1, .int xi), (2, .ref ab)]) hx hb d_IN_getChars_12 hl (by decide) rfl (fun ls hl => ?_)
    refine lv_iload hx hb d_IN_getChars_14 (lv_at hl 0 rfl) ?_
    refine lv_if_ne (tgt := 22) hx hb d_IN_getChars_16 (by decide) (fun _ => ?_) (fun h => absurd h (by decide))
    refine tp_loop3 (fun j ls H locs (x : Int32) (cp : Int32) (f : Nat → Int32) => ((x.toInt ≤ 0) ∧ (x.toInt.natAbs = j) ∧ ((tp_dg x.toInt.natAbs : Int) + 1 ≤ cp.toInt) ∧ (cp.toInt ≤ (nb : Int)) ∧ (tp_fit f)) ∧ lv_has ls 7 [(0, .int x), (5, .int cp), (6, .int 1), (1, .int xi), (2, .ref ab)] ∧ va_P (tp_D E) tp_cl ((ab, .inl (tp_ty E 3, nb, .inl f)) :: fr) H ∧ va_D A ((ab, .inl (tp_ty E 3, nb, .inl f)) :: fr) ∧ va_S A s.heap H locs) ?_ _ xv xi fb ⟨⟨tp_x0n h1, rfl, tp_dln hd h1, hin9, hf⟩, tp_lvI hl [2, 1, 0, 3, 4] rfl, hP, hD, hS⟩
    intro j x cp f ls H locs hI ih
    obtain ⟨⟨hx0, hj, hd, hcn, hf⟩, hl, hP, hD, hS⟩ := hI
    refine lv_iload_n hx hb d_IN_getChars_22 rfl (lv_at hl 0 rfl) ?_
    refine lv_bipush (v := (-100)) hx hb d_IN_getChars_23 (by decide) ?_
    by_cases h2 : (-100) < x
    · refine lv_icmp_gt (tgt := 72) hx hb d_IN_getChars_25 (by decide) (fun _ => ?_) (fun h => absurd h2 h)
      refine lv_aload_n hx hb d_IN_getChars_72 rfl (lv_at hl 4 rfl) ?_
      refine lv_iinc (k := 1) (v := (cp + (-1))) (lv' := [(5, .int (cp + (-1))), (0, .int x), (6, .int 1), (1, .int xi), (2, .ref ab)]) hx hb d_IN_getChars_73 hl rfl rfl (by decide) rfl (fun ls hl => ?_)
      refine lv_iload hx hb d_IN_getChars_76 (lv_at hl 0 rfl) ?_
      refine va_gets (v := .ref (tp_ad E 102)) hx hb hK.onesZ hS hown (htg _ kl_IN_83) (fun _ h => h) d_IN_getChars_78 ?_
      refine lv_iload_n hx hb d_IN_getChars_81 rfl (lv_at hl 1 rfl) ?_
      refine lv_ineg hx hb d_IN_getChars_82 ?_
      refine va_tb (v := .int (tp_ones.getD (-x).toNatClampNeg 0)) hx hb hK.onesT hS (tp_vng hx0 h2) rfl d_IN_getChars_83 ?_
      refine va_bast (D := tp_D E) hx hb hK.1 hP hD hS 0 3 rfl rfl (tp_vD1 (by have g1 := @tp_dg1 x.toInt.natAbs; omega) hcn) d_IN_getChars_84 (fun H locs hP hD hS => ?_)
      have hP : va_P (tp_D E) tp_cl ((ab, .inl (tp_ty E 3, nb, .inl (upd f (cp + (-1)).toNatClampNeg (vp_nar .byte (tp_ones.getD (-x).toNatClampNeg 0))))) :: fr) H := hP
      have hD : va_D A ((ab, .inl (tp_ty E 3, nb, .inl (upd f (cp + (-1)).toNatClampNeg (vp_nar .byte (tp_ones.getD (-x).toNatClampNeg 0))))) :: fr) := hD
      refine lv_iload_n hx hb d_IN_getChars_85 rfl (lv_at hl 1 rfl) ?_
      refine lv_bipush (v := (-9)) hx hb d_IN_getChars_86 (by decide) ?_
      by_cases h3 : (-9) ≤ x
      · refine lv_icmp_ge (tgt := 104) hx hb d_IN_getChars_88 (by decide) (fun _ => ?_) (fun h => absurd h3 h)
        refine lv_iload hx hb d_IN_getChars_104 (lv_at hl 2 rfl) ?_
        refine lv_if_eq (tgt := 118) hx hb d_IN_getChars_106 (by decide) (fun h => absurd h (by decide)) (fun _ => ?_)
        refine lv_aload_n hx hb d_IN_getChars_109 rfl (lv_at hl 4 rfl) ?_
        refine lv_iinc (k := 0) (v := ((cp + (-1)) + (-1))) (lv' := [(5, .int ((cp + (-1)) + (-1))), (0, .int x), (6, .int 1), (1, .int xi), (2, .ref ab)]) hx hb d_IN_getChars_110 hl rfl rfl (by decide) rfl (fun ls hl => ?_)
        refine lv_iload hx hb d_IN_getChars_113 (lv_at hl 0 rfl) ?_
        refine lv_bipush (v := 45) hx hb d_IN_getChars_115 (by decide) ?_
        refine va_bast (D := tp_D E) hx hb hK.1 hP hD hS 0 3 rfl rfl (tp_vD2 (by have g1 := @tp_dg1 x.toInt.natAbs; omega) hcn) d_IN_getChars_117 (fun H locs hP hD hS => ?_)
        have hP : va_P (tp_D E) tp_cl ((ab, .inl (tp_ty E 3, nb, .inl (upd (upd f (cp + (-1)).toNatClampNeg (vp_nar .byte (tp_ones.getD (-x).toNatClampNeg 0))) ((cp + (-1)) + (-1)).toNatClampNeg 45))) :: fr) H := hP
        have hD : va_D A ((ab, .inl (tp_ty E 3, nb, .inl (upd (upd f (cp + (-1)).toNatClampNeg (vp_nar .byte (tp_ones.getD (-x).toNatClampNeg 0))) ((cp + (-1)) + (-1)).toNatClampNeg 45))) :: fr) := hD
        refine lv_iload hx hb d_IN_getChars_118 (lv_at hl 0 rfl) ?_
        exact W.iret (v := ((cp + (-1)) + (-1))) hx hb hr (fun t ht hW => ⟨⟨_, (upd (upd f (cp + (-1)).toNatClampNeg (vp_nar .byte (tp_ones.getD (-x).toNatClampNeg 0))) ((cp + (-1)) + (-1)).toNatClampNeg 45), rfl, (tp_fit45 (tp_fitst hf)), by rw [ht]; exact hP, hD⟩, hS.F ht⟩) hS.2.2 d_IN_getChars_120
      · refine lv_icmp_ge (tgt := 104) hx hb d_IN_getChars_88 (by decide) (fun h => absurd h h3) (fun _ => ?_)
        refine lv_aload_n hx hb d_IN_getChars_91 rfl (lv_at hl 4 rfl) ?_
        refine lv_iinc (k := 0) (v := ((cp + (-1)) + (-1))) (lv' := [(5, .int ((cp + (-1)) + (-1))), (0, .int x), (6, .int 1), (1, .int xi), (2, .ref ab)]) hx hb d_IN_getChars_92 hl rfl rfl (by decide) rfl (fun ls hl => ?_)
        refine lv_iload hx hb d_IN_getChars_95 (lv_at hl 0 rfl) ?_
        refine va_gets (v := .ref (tp_ad E 103)) hx hb hK.tensZ hS hown (htg _ kl_IN_87) (fun _ h => h) d_IN_getChars_97 ?_
        refine lv_iload_n hx hb d_IN_getChars_100 rfl (lv_at hl 1 rfl) ?_
        refine lv_ineg hx hb d_IN_getChars_101 ?_
        refine va_tb (v := .int (tp_tens.getD (-x).toNatClampNeg 0)) hx hb hK.tensT hS (tp_vng hx0 h2) rfl d_IN_getChars_102 ?_
        refine va_bast (D := tp_D E) hx hb hK.1 hP hD hS 0 3 rfl rfl (tp_vD2 (by have g1 := @tp_dg1 x.toInt.natAbs; have g2 := tp_dg2 (tp_na10 h3); omega) hcn) d_IN_getChars_103 (fun H locs hP hD hS => ?_)
        have hP : va_P (tp_D E) tp_cl ((ab, .inl (tp_ty E 3, nb, .inl (upd (upd f (cp + (-1)).toNatClampNeg (vp_nar .byte (tp_ones.getD (-x).toNatClampNeg 0))) ((cp + (-1)) + (-1)).toNatClampNeg (vp_nar .byte (tp_tens.getD (-x).toNatClampNeg 0))))) :: fr) H := hP
        have hD : va_D A ((ab, .inl (tp_ty E 3, nb, .inl (upd (upd f (cp + (-1)).toNatClampNeg (vp_nar .byte (tp_ones.getD (-x).toNatClampNeg 0))) ((cp + (-1)) + (-1)).toNatClampNeg (vp_nar .byte (tp_tens.getD (-x).toNatClampNeg 0))))) :: fr) := hD
        refine lv_iload hx hb d_IN_getChars_104 (lv_at hl 2 rfl) ?_
        refine lv_if_eq (tgt := 118) hx hb d_IN_getChars_106 (by decide) (fun h => absurd h (by decide)) (fun _ => ?_)
        refine lv_aload_n hx hb d_IN_getChars_109 rfl (lv_at hl 4 rfl) ?_
        refine lv_iinc (k := 0) (v := (((cp + (-1)) + (-1)) + (-1))) (lv' := [(5, .int (((cp + (-1)) + (-1)) + (-1))), (0, .int x), (6, .int 1), (1, .int xi), (2, .ref ab)]) hx hb d_IN_getChars_110 hl rfl rfl (by decide) rfl (fun ls hl => ?_)
        refine lv_iload hx hb d_IN_getChars_113 (lv_at hl 0 rfl) ?_
        refine lv_bipush (v := 45) hx hb d_IN_getChars_115 (by decide) ?_
        refine va_bast (D := tp_D E) hx hb hK.1 hP hD hS 0 3 rfl rfl (tp_vD3 (by have g1 := @tp_dg1 x.toInt.natAbs; have g2 := tp_dg2 (tp_na10 h3); omega) hcn) d_IN_getChars_117 (fun H locs hP hD hS => ?_)
        have hP : va_P (tp_D E) tp_cl ((ab, .inl (tp_ty E 3, nb, .inl (upd (upd (upd f (cp + (-1)).toNatClampNeg (vp_nar .byte (tp_ones.getD (-x).toNatClampNeg 0))) ((cp + (-1)) + (-1)).toNatClampNeg (vp_nar .byte (tp_tens.getD (-x).toNatClampNeg 0))) (((cp + (-1)) + (-1)) + (-1)).toNatClampNeg 45))) :: fr) H := hP
        have hD : va_D A ((ab, .inl (tp_ty E 3, nb, .inl (upd (upd (upd f (cp + (-1)).toNatClampNeg (vp_nar .byte (tp_ones.getD (-x).toNatClampNeg 0))) ((cp + (-1)) + (-1)).toNatClampNeg (vp_nar .byte (tp_tens.getD (-x).toNatClampNeg 0))) (((cp + (-1)) + (-1)) + (-1)).toNatClampNeg 45))) :: fr) := hD
        refine lv_iload hx hb d_IN_getChars_118 (lv_at hl 0 rfl) ?_
        exact W.iret (v := (((cp + (-1)) + (-1)) + (-1))) hx hb hr (fun t ht hW => ⟨⟨_, (upd (upd (upd f (cp + (-1)).toNatClampNeg (vp_nar .byte (tp_ones.getD (-x).toNatClampNeg 0))) ((cp + (-1)) + (-1)).toNatClampNeg (vp_nar .byte (tp_tens.getD (-x).toNatClampNeg 0))) (((cp + (-1)) + (-1)) + (-1)).toNatClampNeg 45), rfl, (tp_fit45 (tp_fitst (tp_fitst hf))), by rw [ht]; exact hP, hD⟩, hS.F ht⟩) hS.2.2 d_IN_getChars_120
    · refine lv_icmp_gt (tgt := 72) hx hb d_IN_getChars_25 (by decide) (fun h => absurd h h2) (fun _ => ?_)
      refine lv_iload_n hx hb d_IN_getChars_28 rfl (lv_at hl 0 rfl) ?_
      refine lv_bipush (v := 100) hx hb d_IN_getChars_29 (by decide) ?_
      refine lv_idiv hx hb d_IN_getChars_31 (by decide) ?_
      refine lv_istore_n (lv' := [(3, .int (x / 100)), (0, .int x), (5, .int cp), (6, .int 1), (1, .int xi), (2, .ref ab)]) hx hb d_IN_getChars_32 rfl hl (by decide) rfl (fun ls hl => ?_)
      refine lv_iload_n hx hb d_IN_getChars_33 rfl (lv_at hl 0 rfl) ?_
      refine lv_bipush (v := 100) hx hb d_IN_getChars_34 (by decide) ?_
      refine lv_imul hx hb d_IN_getChars_36 ?_
      refine lv_iload_n hx hb d_IN_getChars_37 rfl (lv_at hl 1 rfl) ?_
      refine lv_isub hx hb d_IN_getChars_38 ?_
      refine lv_istore (lv' := [(4, .int (((x / 100) * 100) - x)), (3, .int (x / 100)), (0, .int x), (5, .int cp), (6, .int 1), (1, .int xi), (2, .ref ab)]) hx hb d_IN_getChars_39 hl (by decide) rfl (fun ls hl => ?_)
      refine lv_iload_n hx hb d_IN_getChars_41 rfl (lv_at hl 1 rfl) ?_
      refine lv_istore_n (lv' := [(0, .int (x / 100)), (4, .int (((x / 100) * 100) - x)), (3, .int (x / 100)), (5, .int cp), (6, .int 1), (1, .int xi), (2, .ref ab)]) hx hb d_IN_getChars_42 rfl hl (by decide) rfl (fun ls hl => ?_)
      refine lv_aload_n hx hb d_IN_getChars_43 rfl (lv_at hl 6 rfl) ?_
      refine lv_iinc (k := 3) (v := (cp + (-1))) (lv' := [(5, .int (cp + (-1))), (0, .int (x / 100)), (4, .int (((x / 100) * 100) - x)), (3, .int (x / 100)), (6, .int 1), (1, .int xi), (2, .ref ab)]) hx hb d_IN_getChars_44 hl rfl rfl (by decide) rfl (fun ls hl => ?_)
      refine lv_iload hx hb d_IN_getChars_47 (lv_at hl 0 rfl) ?_
      refine va_gets (v := .ref (tp_ad E 102)) hx hb hK.onesZ hS hown (htg _ kl_IN_83) (fun _ h => h) d_IN_getChars_49 ?_
      refine lv_iload hx hb d_IN_getChars_52 (lv_at hl 2 rfl) ?_
      refine va_tb (v := .int (tp_ones.getD (((x / 100) * 100) - x).toNatClampNeg 0)) hx hb hK.onesT hS (tp_vr hx0) rfl d_IN_getChars_54 ?_
      refine va_bast (D := tp_D E) hx hb hK.1 hP hD hS 0 3 rfl rfl (tp_vD1 (by have g1 := @tp_dg1 x.toInt.natAbs; have g3 := tp_dg3 (tp_na100 h2); omega) hcn) d_IN_getChars_55 (fun H locs hP hD hS => ?_)
      have hP : va_P (tp_D E) tp_cl ((ab, .inl (tp_ty E 3, nb, .inl (upd f (cp + (-1)).toNatClampNeg (vp_nar .byte (tp_ones.getD (((x / 100) * 100) - x).toNatClampNeg 0))))) :: fr) H := hP
      have hD : va_D A ((ab, .inl (tp_ty E 3, nb, .inl (upd f (cp + (-1)).toNatClampNeg (vp_nar .byte (tp_ones.getD (((x / 100) * 100) - x).toNatClampNeg 0))))) :: fr) := hD
      refine lv_aload_n hx hb d_IN_getChars_56 rfl (lv_at hl 6 rfl) ?_
      refine lv_iinc (k := 0) (v := ((cp + (-1)) + (-1))) (lv' := [(5, .int ((cp + (-1)) + (-1))), (0, .int (x / 100)), (4, .int (((x / 100) * 100) - x)), (3, .int (x / 100)), (6, .int 1), (1, .int xi), (2, .ref ab)]) hx hb d_IN_getChars_57 hl rfl rfl (by decide) rfl (fun ls hl => ?_)
      refine lv_iload hx hb d_IN_getChars_60 (lv_at hl 0 rfl) ?_
      refine va_gets (v := .ref (tp_ad E 103)) hx hb hK.tensZ hS hown (htg _ kl_IN_87) (fun _ h => h) d_IN_getChars_62 ?_
      refine lv_iload hx hb d_IN_getChars_65 (lv_at hl 2 rfl) ?_
      refine va_tb (v := .int (tp_tens.getD (((x / 100) * 100) - x).toNatClampNeg 0)) hx hb hK.tensT hS (tp_vr hx0) rfl d_IN_getChars_67 ?_
      refine va_bast (D := tp_D E) hx hb hK.1 hP hD hS 0 3 rfl rfl (tp_vD2 (by have g1 := @tp_dg1 x.toInt.natAbs; have g3 := tp_dg3 (tp_na100 h2); omega) hcn) d_IN_getChars_68 (fun H locs hP hD hS => ?_)
      have hP : va_P (tp_D E) tp_cl ((ab, .inl (tp_ty E 3, nb, .inl (upd (upd f (cp + (-1)).toNatClampNeg (vp_nar .byte (tp_ones.getD (((x / 100) * 100) - x).toNatClampNeg 0))) ((cp + (-1)) + (-1)).toNatClampNeg (vp_nar .byte (tp_tens.getD (((x / 100) * 100) - x).toNatClampNeg 0))))) :: fr) H := hP
      have hD : va_D A ((ab, .inl (tp_ty E 3, nb, .inl (upd (upd f (cp + (-1)).toNatClampNeg (vp_nar .byte (tp_ones.getD (((x / 100) * 100) - x).toNatClampNeg 0))) ((cp + (-1)) + (-1)).toNatClampNeg (vp_nar .byte (tp_tens.getD (((x / 100) * 100) - x).toNatClampNeg 0))))) :: fr) := hD
      refine lv_goto (tgt := 22) hx hb d_IN_getChars_69 (by decide) ?_
      have hq := tp_q100 hx0 h2
      have e1 : ((cp + (-1)) + (-1)).toInt = cp.toInt - 2 := tp_m2 (by have g1 := @tp_dg1 x.toInt.natAbs; omega)
      exact ih ((x / 100).toInt.natAbs) (x / 100) ((cp + (-1)) + (-1)) (upd (upd f (cp + (-1)).toNatClampNeg (vp_nar .byte (tp_ones.getD (((x / 100) * 100) - x).toNatClampNeg 0))) ((cp + (-1)) + (-1)).toNatClampNeg (vp_nar .byte (tp_tens.getD (((x / 100) * 100) - x).toNatClampNeg 0))) ls _ _ (by rw [← hj]; exact hq.2.1) ⟨⟨hq.1, rfl, tp_gc1 hd hq.2.2 e1, tp_gc2 hcn e1, tp_fitst (tp_fitst hf)⟩, tp_lvI hl [1, 0, 4, 5, 6] rfl, hP, hD, hS⟩
set_option maxHeartbeats 4000000 in
set_option maxRecDepth 100000 in
theorem a_AS_appI (l : Launch) (E : tp_Env) (fr : va_W) (sz : Nat) (aB ab : Nat) (xm xc : Int32) (nb : Nat) (fb : Nat → Int32) (xv : Int32) (hn : nb = 16 ∨ nb = 34) (hf : tp_fit fb) (hc : 0 ≤ xc.toInt ∧ xc.toInt + (tp_dl xv : Int) ≤ 34) : Met l y_AS_append_1 w_AS_append_1 ({ frames := 4, cells := 1, slots := 34, locals := 144 }) (va_Pc [.ref aB, .int xv] (tp_in E ((aB, .inr (6, [.ref ab, .int 0, .int xm, .int xc])) :: (ab, .inl (tp_ty E 3, nb, .inl fb)) :: fr) sz)) (va_Qr (fun (u : Nat × Nat × (Nat → Int32) × Int32) => (u.2.1 = 16 ∨ u.2.1 = 34) ∧ tp_fit u.2.2.1 ∧ u.2.2.2.toInt = xc.toInt + (tp_dl xv : Int) ∧ u.2.2.2.toInt ≤ (u.2.1 : Int)) (fun u q t => q = (fun (_ : Nat × Nat × (Nat → Int32) × Int32) => aB) u ∧ tp_out E (va_A ((aB, .inr (6, [.ref ab, .int 0, .int xm, .int xc])) :: (ab, .inl (tp_ty E 3, nb, .inl fb)) :: fr) sz) ((aB, .inr (6, [.ref u.1, .int 0, .int xm, .int u.2.2.2])) :: (u.1, .inl (tp_ty E 3, u.2.1, .inl u.2.2.1)) :: fr) t) (va_A ((aB, .inr (6, [.ref ab, .int 0, .int xm, .int xc])) :: (ab, .inl (tp_ty E 3, nb, .inl fb)) :: fr) sz)) 1 34 (va_A ((aB, .inr (6, [.ref ab, .int 0, .int xm, .int xc])) :: (ab, .inl (tp_ty E 3, nb, .inl fb)) :: fr) sz) := by
  refine Met.ofW (cc := b_AS_append_1) (maxL := 4) (ret := (some (.object "java/lang/AbstractStringBuilder"))) (by decide) rfl ?_
  intro p e s m args below meth c s₁ B hml hv
  obtain ⟨rfl, hsz, hP, hK, hD0⟩ := hv
  have hx := B.exec
  have hb := B.bytes
  have hr := B.returns
  have htg : ∀ w ∈ tp_G, w.before ([.ref aB, .int xv] : List Value).toArray s = true := fun w h => atoms_spec (ws := w_AS_append_1) B.pre w (List.mem_cons_of_mem _ h)
  have hown : s.vm.findClass "java/lang/AbstractStringBuilder" = some m.cls := findClass_of_methodNamed B.named
  have hlocks := B.notSynchronized
  subst hsz
  have hD := hD0.self (sz := s.heap.size)
  generalize hAe : va_A ((aB, .inr (6, [.ref ab, .int 0, .int xm, .int xc])) :: (ab, .inl (tp_ty E 3, nb, .inl fb)) :: fr) s.heap.size = A at hD hK ⊢
  have hA : ∀ q : Nat, s.heap.size ≤ q → A q := fun q h => by rw [← hAe]; exact Or.inr h
  have hS : va_S A s.heap s.heap [] := va_S.rf
  have hl := lv_entry ([.ref aB, .int xv]) (n := 4) (Nat.le_of_ble_eq_true rfl)
  rw [lg_entry_eq]
  generalize (lg_sl ([.ref aB, .int xv]) ++ List.replicate (4 - (lg_sl ([.ref aB, .int xv])).length) Slot.unset).toArray = ls at hl ⊢
  have hl : lv_has ls 4 [(0, .ref aB), (1, .int xv)] := hl
  refine lv_aload_n hx hb d_AS_append_1_0 rfl (lv_at hl 0 rfl) ?_
  refine va_get (D := tp_D E) (ci := 6) (v := .int xc) (C := qR_SB) (T := qF_SB) (N := 4) hx hb htg qi_SB hown hK.1 hP 0 rfl rfl 3 (by decide) (htg _ kl_AS_79) (fun _ h => h) rfl d_AS_append_1_1 ?_
  refine lv_istore_n (lv' := [(2, .int xc), (0, .ref aB), (1, .int xv)]) hx hb d_AS_append_1_4 rfl hl (by decide) rfl (fun ls hl => ?_)
  refine lv_iload_n hx hb d_AS_append_1_5 rfl (lv_at hl 0 rfl) ?_
  refine lv_iload_n hx hb d_AS_append_1_6 rfl (lv_at hl 2 rfl) ?_
  refine tp_ci (tp_rS (As := [.int xv]) (rest := [.int xc]) ⟨hx, hb, hml, hown, htg⟩ (a_IN_stringSize l E ((aB, .inr (6, [.ref ab, .int 0, .int xm, .int xc])) :: (ab, .inl (tp_ty E 3, nb, .inl fb)) :: fr) _ xv ) (⟨callB_of 1 htg (tp_good0 kc_IN_stringSize) rfl rfl rfl (htg _ ki_IN) (htg _ kl_AS_245) ⟨by decide, by decide, by decide +kernel⟩ ⟨Nat.le_of_ble_eq_true rfl, Nat.le_of_ble_eq_true rfl⟩, htg _ ks_IN_stringSize⟩) hK hP hD hS hA rfl hl.1 rfl (Nat.le_of_ble_eq_true rfl) d_AS_append_1_7 ⟨Nat.le_of_ble_eq_true rfl, Nat.le_of_ble_eq_true rfl⟩) hD hS hA (fun r u H locs hw hP hD hS => ?_)
  have hszq1 : r.toInt = (tp_dl xv : Int) := hw
  generalize r = szq1 at hszq1 ⊢
  have hP : va_P (tp_D E) tp_cl ((aB, .inr (6, [.ref ab, .int 0, .int xm, .int xc])) :: (ab, .inl (tp_ty E 3, nb, .inl fb)) :: fr) H := hP
  have hD : va_D A ((aB, .inr (6, [.ref ab, .int 0, .int xm, .int xc])) :: (ab, .inl (tp_ty E 3, nb, .inl fb)) :: fr) := hD
  refine lv_iadd hx hb d_AS_append_1_10 ?_
  refine lv_istore_n (lv' := [(3, .int (xc + szq1)), (2, .int xc), (0, .ref aB), (1, .int xv)]) hx hb d_AS_append_1_11 rfl hl (by decide) rfl (fun ls hl => ?_)
  refine lv_aload_n hx hb d_AS_append_1_12 rfl (lv_at hl 2 rfl) ?_
  refine lv_iload_n hx hb d_AS_append_1_13 rfl (lv_at hl 0 rfl) ?_
  refine tp_cv (tp_rV (As := [.int (xc + szq1)]) (rest := []) ⟨hx, hb, hml, hown, htg⟩ (a_AS_ensure l E fr _ aB ab xm xc (xc + szq1) nb fb hn (tp_ci1 hc hszq1) hf) (⟨callB_of 1 htg (tp_good0 kc_AS_ensureCapacityInternal) rfl rfl rfl (htg _ ki_AS) (htg _ kl_AS_100) ⟨by decide, by decide, by decide +kernel⟩ ⟨Nat.le_of_ble_eq_true rfl, Nat.le_of_ble_eq_true rfl⟩, htg _ km_AS_ensureCapacityInternal, htg _ kv_SB_AS_ensureCapacityInternal⟩) (va_recv (ci := 6) (q0 := 0) hK.1 hP rfl rfl) hK hP hD hS hA rfl hl.1 rfl (Nat.le_of_ble_eq_true rfl) d_AS_append_1_14 ⟨Nat.le_of_ble_eq_true rfl, Nat.le_of_ble_eq_true rfl⟩) hD hS hA (fun u H locs hw hP hD hS => ?_)
  obtain ⟨eq2, nq2, fq2⟩ := u
  obtain ⟨hnq2, hmq2, hfq2⟩ : (nq2 = 16 ∨ nq2 = 34) ∧ (xc + szq1).toInt ≤ (nq2 : Int) ∧ tp_fit fq2 := hw
  have hP : va_P (tp_D E) tp_cl ((aB, .inr (6, [.ref eq2, .int 0, .int xm, .int xc])) :: (eq2, .inl (tp_ty E 3, nq2, .inl fq2)) :: fr) H := hP
  have hD : va_D A ((aB, .inr (6, [.ref eq2, .int 0, .int xm, .int xc])) :: (eq2, .inl (tp_ty E 3, nq2, .inl fq2)) :: fr) := hD
  refine lv_aload_n hx hb d_AS_append_1_17 rfl (lv_at hl 2 rfl) ?_
  refine tp_ci (tp_rV (As := []) (rest := []) ⟨hx, hb, hml, hown, htg⟩ (cs_AS_isLatin1_1 l E ((eq2, .inl (tp_ty E 3, nq2, .inl fq2)) :: fr) _ aB eq2 0 xm xc (by decide)) (⟨callB_of 0 htg (tp_good0 kc_AS_isLatin1) rfl rfl rfl (htg _ ki_AS) (htg _ kl_AS_83) ⟨by decide, by decide, by decide +kernel⟩ ⟨Nat.le_of_ble_eq_true rfl, Nat.le_of_ble_eq_true rfl⟩, htg _ km_AS_isLatin1, htg _ kv_SB_AS_isLatin1⟩) (va_recv (ci := 6) (q0 := 0) hK.1 hP rfl rfl) hK hP hD hS hA rfl hl.1 rfl (Nat.le_of_ble_eq_true rfl) d_AS_append_1_18 ⟨Nat.le_of_ble_eq_true rfl, Nat.le_of_ble_eq_true rfl⟩) hD hS hA (fun r u H locs hw hP hD hS => ?_)
  subst r
  have hP : va_P (tp_D E) tp_cl ((aB, .inr (6, [.ref eq2, .int 0, .int xm, .int xc])) :: (eq2, .inl (tp_ty E 3, nq2, .inl fq2)) :: fr) H := hP
  have hD : va_D A ((aB, .inr (6, [.ref eq2, .int 0, .int xm, .int xc])) :: (eq2, .inl (tp_ty E 3, nq2, .inl fq2)) :: fr) := hD
  refine lv_if_eq (tgt := 37) hx hb d_AS_append_1_21 (by decide) (fun h => absurd h (by decide)) (fun _ => ?_)
  refine lv_iload_n hx hb d_AS_append_1_24 rfl (lv_at hl 3 rfl) ?_
  refine lv_iload_n hx hb d_AS_append_1_25 rfl (lv_at hl 0 rfl) ?_
  refine lv_aload_n hx hb d_AS_append_1_26 rfl (lv_at hl 2 rfl) ?_
  refine va_get (D := tp_D E) (ci := 6) (v := .ref eq2) (C := qR_SB) (T := qF_SB) (N := 4) hx hb htg qi_SB hown hK.1 hP 0 rfl rfl 0 (by decide) (htg _ kl_AS_15) (fun _ h => h) rfl d_AS_append_1_27 ?_
  have hP : va_P (tp_D E) tp_cl ((eq2, .inl (tp_ty E 3, nq2, .inl fq2)) :: (aB, .inr (6, [.ref eq2, .int 0, .int xm, .int xc])) :: fr) _ := tp_mvP 1 rfl hP
  have hD : va_D A ((eq2, .inl (tp_ty E 3, nq2, .inl fq2)) :: (aB, .inr (6, [.ref eq2, .int 0, .int xm, .int xc])) :: fr) := tp_mvD 1 rfl hD
  refine tp_ci (tp_rS (As := [.int xv, .int (xc + szq1), .ref eq2]) (rest := []) ⟨hx, hb, hml, hown, htg⟩ (a_IN_getChars l E ((aB, .inr (6, [.ref eq2, .int 0, .int xm, .int xc])) :: fr) _ eq2 nq2 xv (xc + szq1) fq2 (tp_ci2 hc hszq1) hmq2 hfq2) (⟨callB_of 3 htg (tp_good0 kc_IN_getChars) rfl rfl rfl (htg _ ki_IN) (htg _ kl_AS_248) ⟨by decide, by decide, by decide +kernel⟩ ⟨Nat.le_of_ble_eq_true rfl, Nat.le_of_ble_eq_true rfl⟩, htg _ ks_IN_getChars⟩) hK hP hD hS hA rfl hl.1 rfl (Nat.le_of_ble_eq_true rfl) d_AS_append_1_30 ⟨Nat.le_of_ble_eq_true rfl, Nat.le_of_ble_eq_true rfl⟩) hD hS hA (fun r u H locs hw hP hD hS => ?_)
  have hfq3 : tp_fit u := hw
  generalize u = cq3 at hP hD hfq3
  have hP : va_P (tp_D E) tp_cl ((eq2, .inl (tp_ty E 3, nq2, .inl cq3)) :: (aB, .inr (6, [.ref eq2, .int 0, .int xm, .int xc])) :: fr) H := hP
  have hD : va_D A ((eq2, .inl (tp_ty E 3, nq2, .inl cq3)) :: (aB, .inr (6, [.ref eq2, .int 0, .int xm, .int xc])) :: fr) := hD
  refine lv_pop hx hb d_AS_append_1_33 rfl ?_
  refine lv_goto (tgt := 48) hx hb d_AS_append_1_34 (by decide) ?_
  refine lv_aload_n hx hb d_AS_append_1_48 rfl (lv_at hl 2 rfl) ?_
  refine lv_iload_n hx hb d_AS_append_1_49 rfl (lv_at hl 0 rfl) ?_
  refine va_put (D := tp_D E) (ci := 6) (v := .int (xc + szq1)) (ty := .int) (C := qR_SB) (T := qF_SB) (N := 4) hx hb htg qi_SB qt_SB qt_SB_ok qn_SB hown hK.1 hP hD hS 1 rfl rfl 3 (by decide) (htg _ kl_AS_79) (fun _ h => h) rfl (by decide +kernel) rfl rfl (Nat.le_of_ble_eq_true rfl) d_AS_append_1_50 (fun H locs hP hD hS => ?_)
  have hP : va_P (tp_D E) tp_cl ((eq2, .inl (tp_ty E 3, nq2, .inl cq3)) :: (aB, .inr (6, [.ref eq2, .int 0, .int xm, .int (xc + szq1)])) :: fr) H := hP
  have hD : va_D A ((eq2, .inl (tp_ty E 3, nq2, .inl cq3)) :: (aB, .inr (6, [.ref eq2, .int 0, .int xm, .int (xc + szq1)])) :: fr) := hD
  refine lv_aload_n hx hb d_AS_append_1_53 rfl (lv_at hl 2 rfl) ?_
  have hP : va_P (tp_D E) tp_cl ((eq2, .inl (tp_ty E 3, nq2, .inl cq3)) :: (aB, .inr (6, [.ref eq2, .int 0, .int xm, .int (xc + szq1)])) :: fr) _ := tp_mvP 0 rfl hP
  have hD : va_D A ((eq2, .inl (tp_ty E 3, nq2, .inl cq3)) :: (aB, .inr (6, [.ref eq2, .int 0, .int xm, .int (xc + szq1)])) :: fr) := tp_mvD 0 rfl hD
  have hP : va_P (tp_D E) tp_cl ((aB, .inr (6, [.ref eq2, .int 0, .int xm, .int (xc + szq1)])) :: (eq2, .inl (tp_ty E 3, nq2, .inl cq3)) :: fr) _ := tp_mvP 1 rfl hP
  have hD : va_D A ((aB, .inr (6, [.ref eq2, .int 0, .int xm, .int (xc + szq1)])) :: (eq2, .inl (tp_ty E 3, nq2, .inl cq3)) :: fr) := tp_mvD 1 rfl hD
  exact W.aret (v := .ref aB) hx hb hr (Or.inl ⟨_, rfl⟩) (Or.inr ⟨_, rfl⟩) (fun t ht hW => ⟨⟨(eq2, nq2, cq3, (xc + szq1)), _, rfl, ⟨hnq2, hfq3, tp_ci3 hc hszq1, hmq2⟩, rfl, by rw [ht]; exact hP, hD⟩, hS.F ht⟩) hS.2.2 d_AS_append_1_54
set_option maxHeartbeats 4000000 in
set_option maxRecDepth 100000 in
theorem a_SB_appI (l : Launch) (E : tp_Env) (fr : va_W) (sz : Nat) (aB ab : Nat) (xm xc : Int32) (nb : Nat) (fb : Nat → Int32) (xv : Int32) (hn : nb = 16 ∨ nb = 34) (hf : tp_fit fb) (hc : 0 ≤ xc.toInt ∧ xc.toInt + (tp_dl xv : Int) ≤ 34) : Met l y_SB_append_1 w_SB_append_1 ({ frames := 5, cells := 1, slots := 34, locals := 167 }) (va_Pc [.ref aB, .int xv] (tp_in E ((aB, .inr (6, [.ref ab, .int 0, .int xm, .int xc])) :: (ab, .inl (tp_ty E 3, nb, .inl fb)) :: fr) sz)) (va_Qr (fun (u : Nat × Nat × (Nat → Int32) × Int32) => (u.2.1 = 16 ∨ u.2.1 = 34) ∧ tp_fit u.2.2.1 ∧ u.2.2.2.toInt = xc.toInt + (tp_dl xv : Int) ∧ u.2.2.2.toInt ≤ (u.2.1 : Int)) (fun u q t => q = (fun (_ : Nat × Nat × (Nat → Int32) × Int32) => aB) u ∧ tp_out E (va_A ((aB, .inr (6, [.ref ab, .int 0, .int xm, .int xc])) :: (ab, .inl (tp_ty E 3, nb, .inl fb)) :: fr) sz) ((aB, .inr (6, [.ref u.1, .int 0, .int xm, .int u.2.2.2])) :: (u.1, .inl (tp_ty E 3, u.2.1, .inl u.2.2.1)) :: fr) t) (va_A ((aB, .inr (6, [.ref ab, .int 0, .int xm, .int xc])) :: (ab, .inl (tp_ty E 3, nb, .inl fb)) :: fr) sz)) 1 34 (va_A ((aB, .inr (6, [.ref ab, .int 0, .int xm, .int xc])) :: (ab, .inl (tp_ty E 3, nb, .inl fb)) :: fr) sz) := by
  refine Met.ofW (cc := b_SB_append_1) (maxL := 2) (ret := (some (.object "java/lang/StringBuilder"))) (by decide) rfl ?_
  intro p e s m args below meth c s₁ B hml hv
  obtain ⟨rfl, hsz, hP, hK, hD0⟩ := hv
  have hx := B.exec
  have hb := B.bytes
  have hr := B.returns
  have htg : ∀ w ∈ tp_G, w.before ([.ref aB, .int xv] : List Value).toArray s = true := fun w h => atoms_spec (ws := w_SB_append_1) B.pre w (List.mem_cons_of_mem _ h)
  have hown : s.vm.findClass "java/lang/StringBuilder" = some m.cls := findClass_of_methodNamed B.named
  have hlocks := B.notSynchronized
  subst hsz
  have hD := hD0.self (sz := s.heap.size)
  generalize hAe : va_A ((aB, .inr (6, [.ref ab, .int 0, .int xm, .int xc])) :: (ab, .inl (tp_ty E 3, nb, .inl fb)) :: fr) s.heap.size = A at hD hK ⊢
  have hA : ∀ q : Nat, s.heap.size ≤ q → A q := fun q h => by rw [← hAe]; exact Or.inr h
  have hS : va_S A s.heap s.heap [] := va_S.rf
  have hl := lv_entry ([.ref aB, .int xv]) (n := 2) (Nat.le_of_ble_eq_true rfl)
  rw [lg_entry_eq]
  generalize (lg_sl ([.ref aB, .int xv]) ++ List.replicate (2 - (lg_sl ([.ref aB, .int xv])).length) Slot.unset).toArray = ls at hl ⊢
  have hl : lv_has ls 2 [(0, .ref aB), (1, .int xv)] := hl
  refine lv_aload_n hx hb d_SB_append_1_0 rfl (lv_at hl 0 rfl) ?_
  refine lv_iload_n hx hb d_SB_append_1_1 rfl (lv_at hl 1 rfl) ?_
  refine tp_cr (tp_rU (As := [.int xv]) (rest := []) ⟨hx, hb, hml, hown, htg⟩ (a_AS_appI l E fr _ aB ab xm xc nb fb xv hn hf hc) (tp_cwU 1 htg kc_AS_append_1 (htg _ kl_SB_53) (htg _ kq_AS_append_1) (htg _ kz_SB) (htg _ km_AS_append_1) (htg _ ki_AS) ⟨by decide, by decide +kernel⟩ ⟨Nat.le_of_ble_eq_true rfl, Nat.le_of_ble_eq_true rfl⟩) (va_recv (ci := 6) (q0 := 0) hK.1 hP rfl rfl) (hK.1.1 6 _ rfl).2 hK hP hD hS hA rfl hl.1 rfl (Nat.le_of_ble_eq_true rfl) d_SB_append_1_2 ⟨Nat.le_of_ble_eq_true rfl, Nat.le_of_ble_eq_true rfl⟩) hD hS hA (fun u H locs hw hP hD hS => ?_)
  obtain ⟨eq1, nq1, fq1, cq1⟩ := u
  obtain ⟨hnq1, hfq1, hcq1, hqq1⟩ : (nq1 = 16 ∨ nq1 = 34) ∧ tp_fit fq1 ∧ cq1.toInt = xc.toInt + (tp_dl xv : Int) ∧ cq1.toInt ≤ (nq1 : Int) := hw
  have hP : va_P (tp_D E) tp_cl ((aB, .inr (6, [.ref eq1, .int 0, .int xm, .int cq1])) :: (eq1, .inl (tp_ty E 3, nq1, .inl fq1)) :: fr) H := hP
  have hD : va_D A ((aB, .inr (6, [.ref eq1, .int 0, .int xm, .int cq1])) :: (eq1, .inl (tp_ty E 3, nq1, .inl fq1)) :: fr) := hD
  refine lv_pop hx hb d_SB_append_1_5 rfl ?_
  refine lv_aload_n hx hb d_SB_append_1_6 rfl (lv_at hl 0 rfl) ?_
  exact W.aret (v := .ref aB) hx hb hr (Or.inl ⟨_, rfl⟩) (Or.inr ⟨_, rfl⟩) (fun t ht hW => ⟨⟨(eq1, nq1, fq1, cq1), _, rfl, ⟨hnq1, hfq1, hcq1, hqq1⟩, rfl, by rw [ht]; exact hP, hD⟩, hS.F ht⟩) hS.2.2 d_SB_append_1_7
set_option maxHeartbeats 4000000 in
set_option maxRecDepth 100000 in
theorem a_AS_inflate (l : Launch) (E : tp_Env) (fr : va_W) (sz : Nat) (aB ab : Nat) (xm xc : Int32) (nb : Nat) (fb : Nat → Int32) (i : Nat) (hi : i < 97)  : Met l y_AS_inflateIfNeededFor w_AS_inflateIfNeededFor ({ frames := 1, cells := 0, slots := 0, locals := 20 }) (va_Pc [.ref aB, .ref (tp_ad E (200 + i))] (tp_in E ((aB, .inr (6, [.ref ab, .int 0, .int xm, .int xc])) :: (ab, .inl (tp_ty E 3, nb, .inl fb)) :: fr) sz)) (va_Qv (fun (_ : Unit) => True) (fun _ t => tp_out E (va_A ((aB, .inr (6, [.ref ab, .int 0, .int xm, .int xc])) :: (ab, .inl (tp_ty E 3, nb, .inl fb)) :: fr) sz) ((aB, .inr (6, [.ref ab, .int 0, .int xm, .int xc])) :: (ab, .inl (tp_ty E 3, nb, .inl fb)) :: fr) t) (va_A ((aB, .inr (6, [.ref ab, .int 0, .int xm, .int xc])) :: (ab, .inl (tp_ty E 3, nb, .inl fb)) :: fr) sz)) 0 0 (va_A ((aB, .inr (6, [.ref ab, .int 0, .int xm, .int xc])) :: (ab, .inl (tp_ty E 3, nb, .inl fb)) :: fr) sz) := by
  refine Met.ofW (cc := b_AS_inflateIfNeededFor) (maxL := 2) (ret := none) (by decide) rfl ?_
  intro p e s m args below meth c s₁ B hml hv
  obtain ⟨rfl, hsz, hP, hK, hD0⟩ := hv
  have hx := B.exec
  have hb := B.bytes
  have hr := B.returns
  have htg : ∀ w ∈ tp_G, w.before ([.ref aB, .ref (tp_ad E (200 + i))] : List Value).toArray s = true := fun w h => atoms_spec (ws := w_AS_inflateIfNeededFor) B.pre w (List.mem_cons_of_mem _ h)
  have hown : s.vm.findClass "java/lang/AbstractStringBuilder" = some m.cls := findClass_of_methodNamed B.named
  have hlocks := B.notSynchronized
  subst hsz
  have hD := hD0.self (sz := s.heap.size)
  generalize hAe : va_A ((aB, .inr (6, [.ref ab, .int 0, .int xm, .int xc])) :: (ab, .inl (tp_ty E 3, nb, .inl fb)) :: fr) s.heap.size = A at hD hK ⊢
  have hA : ∀ q : Nat, s.heap.size ≤ q → A q := fun q h => by rw [← hAe]; exact Or.inr h
  have hS : va_S A s.heap s.heap [] := va_S.rf
  have hl := lv_entry ([.ref aB, .ref (tp_ad E (200 + i))]) (n := 2) (Nat.le_of_ble_eq_true rfl)
  rw [lg_entry_eq]
  generalize (lg_sl ([.ref aB, .ref (tp_ad E (200 + i))]) ++ List.replicate (2 - (lg_sl ([.ref aB, .ref (tp_ad E (200 + i))])).length) Slot.unset).toArray = ls at hl ⊢
  have hl : lv_has ls 2 [(0, .ref aB), (1, .ref (tp_ad E (200 + i)))] := hl
  refine va_gets (v := .int 1) hx hb hK.C.1 hS hown (htg _ kl_AS_18) (fun _ h => h) d_AS_inflateIfNeededFor_0 ?_
  refine lv_if_eq (tgt := 21) hx hb d_AS_inflateIfNeededFor_3 (by decide) (fun h => absurd h (by decide)) (fun _ => ?_)
  refine lv_aload_n hx hb d_AS_inflateIfNeededFor_6 rfl (lv_at hl 0 rfl) ?_
  refine va_get (D := tp_D E) (ci := 6) (v := .int 0) (C := qR_SB) (T := qF_SB) (N := 4) hx hb htg qi_SB hown hK.1 hP 0 rfl rfl 1 (by decide) (htg _ kl_AS_22) (fun _ h => h) rfl d_AS_inflateIfNeededFor_7 ?_
  refine lv_aload_n hx hb d_AS_inflateIfNeededFor_10 rfl (lv_at hl 1 rfl) ?_
  refine tp_ci (tp_rV (As := []) (rest := [.int 0]) ⟨hx, hb, hml, hown, htg⟩ (a_ST_coder l E ((aB, .inr (6, [.ref ab, .int 0, .int xm, .int xc])) :: (ab, .inl (tp_ty E 3, nb, .inl fb)) :: fr) _ i hi ) (⟨callB_of 0 htg (tp_good0 kc_ST_coder) rfl rfl rfl (htg _ ki_ST) (htg _ kl_AS_40) ⟨by decide, by decide, by decide +kernel⟩ ⟨Nat.le_of_ble_eq_true rfl, Nat.le_of_ble_eq_true rfl⟩, htg _ km_ST_coder, htg _ kv_ST_ST_coder⟩) (hK.strO (i := i) hi hS) hK hP hD hS hA rfl hl.1 rfl (Nat.le_of_ble_eq_true rfl) d_AS_inflateIfNeededFor_11 ⟨Nat.le_of_ble_eq_true rfl, Nat.le_of_ble_eq_true rfl⟩) hD hS hA (fun r u H locs hw hP hD hS => ?_)
  subst r
  have hP : va_P (tp_D E) tp_cl ((aB, .inr (6, [.ref ab, .int 0, .int xm, .int xc])) :: (ab, .inl (tp_ty E 3, nb, .inl fb)) :: fr) H := hP
  have hD : va_D A ((aB, .inr (6, [.ref ab, .int 0, .int xm, .int xc])) :: (ab, .inl (tp_ty E 3, nb, .inl fb)) :: fr) := hD
  refine lv_icmp_eq (tgt := 21) hx hb d_AS_inflateIfNeededFor_14 (by decide) (fun _ => ?_) (fun h => absurd (by decide) h)
  exact W.vret hx hb hr (fun t ht hW => ⟨⟨(), rfl, trivial, by rw [ht]; exact hP, hD⟩, hS.F ht⟩) hS.2.2 d_AS_inflateIfNeededFor_21
set_option maxHeartbeats 4000000 in
set_option maxRecDepth 100000 in
theorem a_ST_getBytes (l : Launch) (E : tp_Env) (fr : va_W) (sz : Nat) (i : Nat) (hi : i < 97) (ab nb : Nat) (fb : Nat → Int32) (hn : nb = 16 ∨ nb = 34) (hf : tp_fit fb) : Met l y_ST_getBytes w_ST_getBytes ({ frames := 1, cells := 0, slots := 0, locals := 100 }) (va_Pc [.ref (tp_ad E (200 + i)), .ref ab, .int 0, .int 0] (tp_in E ((ab, .inl (tp_ty E 3, nb, .inl fb)) :: fr) sz)) (va_Qv (fun (u : Nat → Int32) => tp_fit u) (fun u t => tp_out E (va_A ((ab, .inl (tp_ty E 3, nb, .inl fb)) :: fr) sz) ((ab, .inl (tp_ty E 3, nb, .inl u)) :: fr) t) (va_A ((ab, .inl (tp_ty E 3, nb, .inl fb)) :: fr) sz)) 0 0 (va_A ((ab, .inl (tp_ty E 3, nb, .inl fb)) :: fr) sz) := by
  refine Met.ofW (cc := b_ST_getBytes) (maxL := 4) (ret := none) (by decide) rfl ?_
  intro p e s m args below meth c s₁ B hml hv
  obtain ⟨rfl, hsz, hP, hK, hD0⟩ := hv
  have hx := B.exec
  have hb := B.bytes
  have hr := B.returns
  have htg : ∀ w ∈ tp_G, w.before ([.ref (tp_ad E (200 + i)), .ref ab, .int 0, .int 0] : List Value).toArray s = true := fun w h => atoms_spec (ws := w_ST_getBytes) B.pre w (List.mem_cons_of_mem _ h)
  have hown : s.vm.findClass "java/lang/String" = some m.cls := findClass_of_methodNamed B.named
  have hlocks := B.notSynchronized
  subst hsz
  have hD := hD0.self (sz := s.heap.size)
  generalize hAe : va_A ((ab, .inl (tp_ty E 3, nb, .inl fb)) :: fr) s.heap.size = A at hD hK ⊢
  have hA : ∀ q : Nat, s.heap.size ≤ q → A q := fun q h => by rw [← hAe]; exact Or.inr h
  have hS : va_S A s.heap s.heap [] := va_S.rf
  have hl := lv_entry ([.ref (tp_ad E (200 + i)), .ref ab, .int 0, .int 0]) (n := 4) (Nat.le_of_ble_eq_true rfl)
  rw [lg_entry_eq]
  generalize (lg_sl ([.ref (tp_ad E (200 + i)), .ref ab, .int 0, .int 0]) ++ List.replicate (4 - (lg_sl ([.ref (tp_ad E (200 + i)), .ref ab, .int 0, .int 0])).length) Slot.unset).toArray = ls at hl ⊢
  have hl : lv_has ls 4 [(0, .ref (tp_ad E (200 + i))), (1, .ref ab), (2, .int 0), (3, .int 0)] := hl
  refine lv_aload_n hx hb d_ST_getBytes_0 rfl (lv_at hl 0 rfl) ?_
  refine tp_ci (tp_rV (As := []) (rest := []) ⟨hx, hb, hml, hown, htg⟩ (a_ST_coder l E ((ab, .inl (tp_ty E 3, nb, .inl fb)) :: fr) _ i hi ) (⟨callB_of 0 htg (tp_good0 kc_ST_coder) rfl rfl rfl (htg _ ki_ST) (htg _ kl_ST_335) ⟨by decide, by decide, by decide +kernel⟩ ⟨Nat.le_of_ble_eq_true rfl, Nat.le_of_ble_eq_true rfl⟩, htg _ km_ST_coder, htg _ kv_ST_ST_coder⟩) (hK.strO (i := i) hi hS) hK hP hD hS hA rfl hl.1 rfl (Nat.le_of_ble_eq_true rfl) d_ST_getBytes_1 ⟨Nat.le_of_ble_eq_true rfl, Nat.le_of_ble_eq_true rfl⟩) hD hS hA (fun r u H locs hw hP hD hS => ?_)
  subst r
  have hP : va_P (tp_D E) tp_cl ((ab, .inl (tp_ty E 3, nb, .inl fb)) :: fr) H := hP
  have hD : va_D A ((ab, .inl (tp_ty E 3, nb, .inl fb)) :: fr) := hD
  refine lv_iload_n hx hb d_ST_getBytes_4 rfl (lv_at hl 3 rfl) ?_
  refine lv_icmp_ne (tgt := 28) hx hb d_ST_getBytes_5 (by decide) (fun h => absurd (by decide) h) (fun _ => ?_)
  refine lv_aload_n hx hb d_ST_getBytes_8 rfl (lv_at hl 0 rfl) ?_
  refine vk_getf (v := .ref (tp_ad E (400 + i))) hx hb (hK.strV (i := i) hi) hS hown (htg _ kl_ST_9) (fun _ h => h) d_ST_getBytes_9 ?_
  refine lv_iconst (v := 0) hx hb d_ST_getBytes_12 (by decide) ?_
  refine lv_aload_n hx hb d_ST_getBytes_13 rfl (lv_at hl 1 rfl) ?_
  refine lv_iload_n hx hb d_ST_getBytes_14 rfl (lv_at hl 2 rfl) ?_
  refine lv_iload_n hx hb d_ST_getBytes_15 rfl (lv_at hl 3 rfl) ?_
  refine lv_ishl hx hb d_ST_getBytes_16 ?_
  refine tp_topi (v := 0) (by decide) ?_
  refine lv_aload_n hx hb d_ST_getBytes_17 rfl (lv_at hl 0 rfl) ?_
  refine vk_getf (v := .ref (tp_ad E (400 + i))) hx hb (hK.strV (i := i) hi) hS hown (htg _ kl_ST_9) (fun _ h => h) d_ST_getBytes_18 ?_
  refine va_tlen (v := (Int32.ofNat (tp_len.getD i 0))) hx hb (hK.strT (i := i) hi) hS rfl d_ST_getBytes_21 ?_
  refine vk_copyt (f := (fun j => (tp_byt.getD i []).getD j 0)) hx hb (by rw [hml]; exact hl.1.symm) hown (htg _ kl_ST_212) (htg _ kny_copy) (htg _ kns_copy) (htg _ ki_SY) hK.1 hP hD hS (hK.strT (i := i) hi) 0 3 rfl rfl (by decide) (by decide) (tp_lnn hi) (tp_l0 hi) (tp_lnb hi hn) (tp_lfit hi) (Nat.le_of_ble_eq_true rfl) (Nat.le_of_ble_eq_true rfl) d_ST_getBytes_22 (fun H locs hP hD hS => ?_)
  have hP : va_P (tp_D E) tp_cl ((ab, .inl (tp_ty E 3, nb, .inl (va_cpy (fun j => (tp_byt.getD i []).getD j 0) fb 0 0 (Int32.ofNat (tp_len.getD i 0)).toNatClampNeg))) :: fr) H := hP
  have hD : va_D A ((ab, .inl (tp_ty E 3, nb, .inl (va_cpy (fun j => (tp_byt.getD i []).getD j 0) fb 0 0 (Int32.ofNat (tp_len.getD i 0)).toNatClampNeg))) :: fr) := hD
  refine lv_goto (tgt := 43) hx hb d_ST_getBytes_25 (by decide) ?_
  exact W.vret hx hb hr (fun t ht hW => ⟨⟨(va_cpy (fun j => (tp_byt.getD i []).getD j 0) fb 0 0 (Int32.ofNat (tp_len.getD i 0)).toNatClampNeg), rfl, tp_fitcps hi hf, by rw [ht]; exact hP, hD⟩, hS.F ht⟩) hS.2.2 d_ST_getBytes_43
set_option maxHeartbeats 4000000 in
set_option maxRecDepth 100000 in
theorem a_AS_putStringAt (l : Launch) (E : tp_Env) (fr : va_W) (sz : Nat) (aB ab : Nat) (xm xc : Int32) (nb : Nat) (fb : Nat → Int32) (i : Nat) (hi : i < 97) (hn : nb = 16 ∨ nb = 34) (hf : tp_fit fb) : Met l y_AS_putStringAt w_AS_putStringAt ({ frames := 2, cells := 0, slots := 0, locals := 123 }) (va_Pc [.ref aB, .int 0, .ref (tp_ad E (200 + i))] (tp_in E ((aB, .inr (6, [.ref ab, .int 0, .int xm, .int xc])) :: (ab, .inl (tp_ty E 3, nb, .inl fb)) :: fr) sz)) (va_Qv (fun (u : Nat → Int32) => tp_fit u) (fun u t => tp_out E (va_A ((aB, .inr (6, [.ref ab, .int 0, .int xm, .int xc])) :: (ab, .inl (tp_ty E 3, nb, .inl fb)) :: fr) sz) ((aB, .inr (6, [.ref ab, .int 0, .int xm, .int xc])) :: (ab, .inl (tp_ty E 3, nb, .inl u)) :: fr) t) (va_A ((aB, .inr (6, [.ref ab, .int 0, .int xm, .int xc])) :: (ab, .inl (tp_ty E 3, nb, .inl fb)) :: fr) sz)) 0 0 (va_A ((aB, .inr (6, [.ref ab, .int 0, .int xm, .int xc])) :: (ab, .inl (tp_ty E 3, nb, .inl fb)) :: fr) sz) := by
  refine Met.ofW (cc := b_AS_putStringAt) (maxL := 3) (ret := none) (by decide) rfl ?_
  intro p e s m args below meth c s₁ B hml hv
  obtain ⟨rfl, hsz, hP, hK, hD0⟩ := hv
  have hx := B.exec
  have hb := B.bytes
  have hr := B.returns
  have htg : ∀ w ∈ tp_G, w.before ([.ref aB, .int 0, .ref (tp_ad E (200 + i))] : List Value).toArray s = true := fun w h => atoms_spec (ws := w_AS_putStringAt) B.pre w (List.mem_cons_of_mem _ h)
  have hown : s.vm.findClass "java/lang/AbstractStringBuilder" = some m.cls := findClass_of_methodNamed B.named
  have hlocks := B.notSynchronized
  subst hsz
  have hD := hD0.self (sz := s.heap.size)
  generalize hAe : va_A ((aB, .inr (6, [.ref ab, .int 0, .int xm, .int xc])) :: (ab, .inl (tp_ty E 3, nb, .inl fb)) :: fr) s.heap.size = A at hD hK ⊢
  have hA : ∀ q : Nat, s.heap.size ≤ q → A q := fun q h => by rw [← hAe]; exact Or.inr h
  have hS : va_S A s.heap s.heap [] := va_S.rf
  have hl := lv_entry ([.ref aB, .int 0, .ref (tp_ad E (200 + i))]) (n := 3) (Nat.le_of_ble_eq_true rfl)
  rw [lg_entry_eq]
  generalize (lg_sl ([.ref aB, .int 0, .ref (tp_ad E (200 + i))]) ++ List.replicate (3 - (lg_sl ([.ref aB, .int 0, .ref (tp_ad E (200 + i))])).length) Slot.unset).toArray = ls at hl ⊢
  have hl : lv_has ls 3 [(0, .ref aB), (1, .int 0), (2, .ref (tp_ad E (200 + i)))] := hl
  refine lv_aload_n hx hb d_AS_putStringAt_0 rfl (lv_at hl 0 rfl) ?_
  refine lv_aload_n hx hb d_AS_putStringAt_1 rfl (lv_at hl 2 rfl) ?_
  refine tp_cv (tp_rV (As := [.ref (tp_ad E (200 + i))]) (rest := []) ⟨hx, hb, hml, hown, htg⟩ (a_AS_inflate l E fr _ aB ab xm xc nb fb i hi ) (⟨callB_of 1 htg (tp_good0 kc_AS_inflateIfNeededFor) rfl rfl rfl (htg _ ki_AS) (htg _ kl_AS_397) ⟨by decide, by decide, by decide +kernel⟩ ⟨Nat.le_of_ble_eq_true rfl, Nat.le_of_ble_eq_true rfl⟩, htg _ km_AS_inflateIfNeededFor, htg _ kv_SB_AS_inflateIfNeededFor⟩) (va_recv (ci := 6) (q0 := 0) hK.1 hP rfl rfl) hK hP hD hS hA rfl hl.1 rfl (Nat.le_of_ble_eq_true rfl) d_AS_putStringAt_2 ⟨Nat.le_of_ble_eq_true rfl, Nat.le_of_ble_eq_true rfl⟩) hD hS hA (fun u H locs hw hP hD hS => ?_)
  have hP : va_P (tp_D E) tp_cl ((aB, .inr (6, [.ref ab, .int 0, .int xm, .int xc])) :: (ab, .inl (tp_ty E 3, nb, .inl fb)) :: fr) H := hP
  have hD : va_D A ((aB, .inr (6, [.ref ab, .int 0, .int xm, .int xc])) :: (ab, .inl (tp_ty E 3, nb, .inl fb)) :: fr) := hD
  refine lv_aload_n hx hb d_AS_putStringAt_5 rfl (lv_at hl 2 rfl) ?_
  refine lv_aload_n hx hb d_AS_putStringAt_6 rfl (lv_at hl 0 rfl) ?_
  refine va_get (D := tp_D E) (ci := 6) (v := .ref ab) (C := qR_SB) (T := qF_SB) (N := 4) hx hb htg qi_SB hown hK.1 hP 0 rfl rfl 0 (by decide) (htg _ kl_AS_15) (fun _ h => h) rfl d_AS_putStringAt_7 ?_
  refine lv_iload_n hx hb d_AS_putStringAt_10 rfl (lv_at hl 1 rfl) ?_
  refine lv_aload_n hx hb d_AS_putStringAt_11 rfl (lv_at hl 0 rfl) ?_
  refine va_get (D := tp_D E) (ci := 6) (v := .int 0) (C := qR_SB) (T := qF_SB) (N := 4) hx hb htg qi_SB hown hK.1 hP 0 rfl rfl 1 (by decide) (htg _ kl_AS_22) (fun _ h => h) rfl d_AS_putStringAt_12 ?_
  have hP : va_P (tp_D E) tp_cl ((ab, .inl (tp_ty E 3, nb, .inl fb)) :: (aB, .inr (6, [.ref ab, .int 0, .int xm, .int xc])) :: fr) _ := tp_mvP 1 rfl hP
  have hD : va_D A ((ab, .inl (tp_ty E 3, nb, .inl fb)) :: (aB, .inr (6, [.ref ab, .int 0, .int xm, .int xc])) :: fr) := tp_mvD 1 rfl hD
  refine tp_cv (tp_rV (As := [.ref ab, .int 0, .int 0]) (rest := []) ⟨hx, hb, hml, hown, htg⟩ (a_ST_getBytes l E ((aB, .inr (6, [.ref ab, .int 0, .int xm, .int xc])) :: fr) _ i hi ab nb fb hn hf) (⟨callB_of 3 htg (tp_good0 kc_ST_getBytes) rfl rfl rfl (htg _ ki_ST) (htg _ kl_AS_399) ⟨by decide, by decide, by decide +kernel⟩ ⟨Nat.le_of_ble_eq_true rfl, Nat.le_of_ble_eq_true rfl⟩, htg _ km_ST_getBytes, htg _ kv_ST_ST_getBytes⟩) (hK.strO (i := i) hi hS) hK hP hD hS hA rfl hl.1 rfl (Nat.le_of_ble_eq_true rfl) d_AS_putStringAt_15 ⟨Nat.le_of_ble_eq_true rfl, Nat.le_of_ble_eq_true rfl⟩) hD hS hA (fun u H locs hw hP hD hS => ?_)
  have hfq1 : tp_fit u := hw
  generalize u = sq1 at hP hD hfq1
  have hP : va_P (tp_D E) tp_cl ((ab, .inl (tp_ty E 3, nb, .inl sq1)) :: (aB, .inr (6, [.ref ab, .int 0, .int xm, .int xc])) :: fr) H := hP
  have hD : va_D A ((ab, .inl (tp_ty E 3, nb, .inl sq1)) :: (aB, .inr (6, [.ref ab, .int 0, .int xm, .int xc])) :: fr) := hD
  have hP : va_P (tp_D E) tp_cl ((ab, .inl (tp_ty E 3, nb, .inl sq1)) :: (aB, .inr (6, [.ref ab, .int 0, .int xm, .int xc])) :: fr) _ := tp_mvP 0 rfl hP
  have hD : va_D A ((ab, .inl (tp_ty E 3, nb, .inl sq1)) :: (aB, .inr (6, [.ref ab, .int 0, .int xm, .int xc])) :: fr) := tp_mvD 0 rfl hD
  have hP : va_P (tp_D E) tp_cl ((aB, .inr (6, [.ref ab, .int 0, .int xm, .int xc])) :: (ab, .inl (tp_ty E 3, nb, .inl sq1)) :: fr) _ := tp_mvP 1 rfl hP
  have hD : va_D A ((aB, .inr (6, [.ref ab, .int 0, .int xm, .int xc])) :: (ab, .inl (tp_ty E 3, nb, .inl sq1)) :: fr) := tp_mvD 1 rfl hD
  exact W.vret hx hb hr (fun t ht hW => ⟨⟨sq1, rfl, hfq1, by rw [ht]; exact hP, hD⟩, hS.F ht⟩) hS.2.2 d_AS_putStringAt_18
set_option maxHeartbeats 4000000 in
set_option maxRecDepth 100000 in
theorem a_AS_appS (l : Launch) (E : tp_Env) (fr : va_W) (sz : Nat) (aB ab : Nat) (xm : Int32) (nb : Nat) (fb : Nat → Int32) (i : Nat) (hi : i < 97) (hn : nb = 16 ∨ nb = 34) (hf : tp_fit fb) : Met l y_AS_append_2 w_AS_append_2 ({ frames := 4, cells := 1, slots := 34, locals := 145 }) (va_Pc [.ref aB, .ref (tp_ad E (200 + i))] (tp_in E ((aB, .inr (6, [.ref ab, .int 0, .int xm, .int 0])) :: (ab, .inl (tp_ty E 3, nb, .inl fb)) :: fr) sz)) (va_Qr (fun (u : Nat × Nat × (Nat → Int32) × Int32) => (u.2.1 = 16 ∨ u.2.1 = 34) ∧ tp_fit u.2.2.1 ∧ u.2.2.2.toInt = ((tp_len.getD i 0 : Nat) : Int) ∧ u.2.2.2.toInt ≤ (u.2.1 : Int)) (fun u q t => q = (fun (_ : Nat × Nat × (Nat → Int32) × Int32) => aB) u ∧ tp_out E (va_A ((aB, .inr (6, [.ref ab, .int 0, .int xm, .int 0])) :: (ab, .inl (tp_ty E 3, nb, .inl fb)) :: fr) sz) ((aB, .inr (6, [.ref u.1, .int 0, .int xm, .int u.2.2.2])) :: (u.1, .inl (tp_ty E 3, u.2.1, .inl u.2.2.1)) :: fr) t) (va_A ((aB, .inr (6, [.ref ab, .int 0, .int xm, .int 0])) :: (ab, .inl (tp_ty E 3, nb, .inl fb)) :: fr) sz)) 1 34 (va_A ((aB, .inr (6, [.ref ab, .int 0, .int xm, .int 0])) :: (ab, .inl (tp_ty E 3, nb, .inl fb)) :: fr) sz) := by
  refine Met.ofW (cc := b_AS_append_2) (maxL := 3) (ret := (some (.object "java/lang/AbstractStringBuilder"))) (by decide) rfl ?_
  intro p e s m args below meth c s₁ B hml hv
  obtain ⟨rfl, hsz, hP, hK, hD0⟩ := hv
  have hx := B.exec
  have hb := B.bytes
  have hr := B.returns
  have htg : ∀ w ∈ tp_G, w.before ([.ref aB, .ref (tp_ad E (200 + i))] : List Value).toArray s = true := fun w h => atoms_spec (ws := w_AS_append_2) B.pre w (List.mem_cons_of_mem _ h)
  have hown : s.vm.findClass "java/lang/AbstractStringBuilder" = some m.cls := findClass_of_methodNamed B.named
  have hlocks := B.notSynchronized
  subst hsz
  have hD := hD0.self (sz := s.heap.size)
  generalize hAe : va_A ((aB, .inr (6, [.ref ab, .int 0, .int xm, .int 0])) :: (ab, .inl (tp_ty E 3, nb, .inl fb)) :: fr) s.heap.size = A at hD hK ⊢
  have hA : ∀ q : Nat, s.heap.size ≤ q → A q := fun q h => by rw [← hAe]; exact Or.inr h
  have hS : va_S A s.heap s.heap [] := va_S.rf
  have hl := lv_entry ([.ref aB, .ref (tp_ad E (200 + i))]) (n := 3) (Nat.le_of_ble_eq_true rfl)
  rw [lg_entry_eq]
  generalize (lg_sl ([.ref aB, .ref (tp_ad E (200 + i))]) ++ List.replicate (3 - (lg_sl ([.ref aB, .ref (tp_ad E (200 + i))])).length) Slot.unset).toArray = ls at hl ⊢
  have hl : lv_has ls 3 [(0, .ref aB), (1, .ref (tp_ad E (200 + i)))] := hl
  refine lv_aload_n hx hb d_AS_append_2_0 rfl (lv_at hl 1 rfl) ?_
  refine lv_ifnonnull (tgt := 9) hx hb d_AS_append_2_1 (by decide) ?_
  refine lv_aload_n hx hb d_AS_append_2_9 rfl (lv_at hl 1 rfl) ?_
  refine tp_ci (tp_rV (As := []) (rest := []) ⟨hx, hb, hml, hown, htg⟩ (a_ST_length l E ((aB, .inr (6, [.ref ab, .int 0, .int xm, .int 0])) :: (ab, .inl (tp_ty E 3, nb, .inl fb)) :: fr) _ i hi ) (⟨callB_of 0 htg (tp_good0 kc_ST_length) rfl rfl rfl (htg _ ki_ST) (htg _ kl_AS_32) ⟨by decide, by decide, by decide +kernel⟩ ⟨Nat.le_of_ble_eq_true rfl, Nat.le_of_ble_eq_true rfl⟩, htg _ km_ST_length, htg _ kv_ST_ST_length⟩) (hK.strO (i := i) hi hS) hK hP hD hS hA rfl hl.1 rfl (Nat.le_of_ble_eq_true rfl) d_AS_append_2_10 ⟨Nat.le_of_ble_eq_true rfl, Nat.le_of_ble_eq_true rfl⟩) hD hS hA (fun r u H locs hw hP hD hS => ?_)
  subst r
  have hP : va_P (tp_D E) tp_cl ((aB, .inr (6, [.ref ab, .int 0, .int xm, .int 0])) :: (ab, .inl (tp_ty E 3, nb, .inl fb)) :: fr) H := hP
  have hD : va_D A ((aB, .inr (6, [.ref ab, .int 0, .int xm, .int 0])) :: (ab, .inl (tp_ty E 3, nb, .inl fb)) :: fr) := hD
  refine lv_istore_n (lv' := [(2, .int (Int32.ofNat (tp_len.getD i 0))), (0, .ref aB), (1, .ref (tp_ad E (200 + i)))]) hx hb d_AS_append_2_13 rfl hl (by decide) rfl (fun ls hl => ?_)
  refine lv_aload_n hx hb d_AS_append_2_14 rfl (lv_at hl 1 rfl) ?_
  refine lv_aload_n hx hb d_AS_append_2_15 rfl (lv_at hl 1 rfl) ?_
  refine va_get (D := tp_D E) (ci := 6) (v := .int 0) (C := qR_SB) (T := qF_SB) (N := 4) hx hb htg qi_SB hown hK.1 hP 0 rfl rfl 3 (by decide) (htg _ kl_AS_79) (fun _ h => h) rfl d_AS_append_2_16 ?_
  refine lv_iload_n hx hb d_AS_append_2_19 rfl (lv_at hl 0 rfl) ?_
  refine lv_iadd hx hb d_AS_append_2_20 ?_
  refine tp_cv (tp_rV (As := [.int (0 + (Int32.ofNat (tp_len.getD i 0)))]) (rest := []) ⟨hx, hb, hml, hown, htg⟩ (a_AS_ensure l E fr _ aB ab xm 0 (0 + (Int32.ofNat (tp_len.getD i 0))) nb fb hn (tp_l34 hi) hf) (⟨callB_of 1 htg (tp_good0 kc_AS_ensureCapacityInternal) rfl rfl rfl (htg _ ki_AS) (htg _ kl_AS_100) ⟨by decide, by decide, by decide +kernel⟩ ⟨Nat.le_of_ble_eq_true rfl, Nat.le_of_ble_eq_true rfl⟩, htg _ km_AS_ensureCapacityInternal, htg _ kv_SB_AS_ensureCapacityInternal⟩) (va_recv (ci := 6) (q0 := 0) hK.1 hP rfl rfl) hK hP hD hS hA rfl hl.1 rfl (Nat.le_of_ble_eq_true rfl) d_AS_append_2_21 ⟨Nat.le_of_ble_eq_true rfl, Nat.le_of_ble_eq_true rfl⟩) hD hS hA (fun u H locs hw hP hD hS => ?_)
  obtain ⟨eq1, nq1, fq1⟩ := u
  obtain ⟨hnq1, hmq1, hfq1⟩ : (nq1 = 16 ∨ nq1 = 34) ∧ (0 + (Int32.ofNat (tp_len.getD i 0))).toInt ≤ (nq1 : Int) ∧ tp_fit fq1 := hw
  have hP : va_P (tp_D E) tp_cl ((aB, .inr (6, [.ref eq1, .int 0, .int xm, .int 0])) :: (eq1, .inl (tp_ty E 3, nq1, .inl fq1)) :: fr) H := hP
  have hD : va_D A ((aB, .inr (6, [.ref eq1, .int 0, .int xm, .int 0])) :: (eq1, .inl (tp_ty E 3, nq1, .inl fq1)) :: fr) := hD
  refine lv_aload_n hx hb d_AS_append_2_24 rfl (lv_at hl 1 rfl) ?_
  refine lv_aload_n hx hb d_AS_append_2_25 rfl (lv_at hl 1 rfl) ?_
  refine va_get (D := tp_D E) (ci := 6) (v := .int 0) (C := qR_SB) (T := qF_SB) (N := 4) hx hb htg qi_SB hown hK.1 hP 0 rfl rfl 3 (by decide) (htg _ kl_AS_79) (fun _ h => h) rfl d_AS_append_2_26 ?_
  refine lv_aload_n hx hb d_AS_append_2_29 rfl (lv_at hl 2 rfl) ?_
  refine tp_cv (tp_rV (As := [.int 0, .ref (tp_ad E (200 + i))]) (rest := []) ⟨hx, hb, hml, hown, htg⟩ (a_AS_putStringAt l E fr _ aB eq1 xm 0 nq1 fq1 i hi hnq1 hfq1) (⟨callB_of 2 htg (tp_good0 kc_AS_putStringAt) rfl rfl rfl (htg _ ki_AS) (htg _ kl_AS_208) ⟨by decide, by decide, by decide +kernel⟩ ⟨Nat.le_of_ble_eq_true rfl, Nat.le_of_ble_eq_true rfl⟩, htg _ km_AS_putStringAt, htg _ kv_SB_AS_putStringAt⟩) (va_recv (ci := 6) (q0 := 0) hK.1 hP rfl rfl) hK hP hD hS hA rfl hl.1 rfl (Nat.le_of_ble_eq_true rfl) d_AS_append_2_30 ⟨Nat.le_of_ble_eq_true rfl, Nat.le_of_ble_eq_true rfl⟩) hD hS hA (fun u H locs hw hP hD hS => ?_)
  have hfq2 : tp_fit u := hw
  generalize u = sq2 at hP hD hfq2
  have hP : va_P (tp_D E) tp_cl ((aB, .inr (6, [.ref eq1, .int 0, .int xm, .int 0])) :: (eq1, .inl (tp_ty E 3, nq1, .inl sq2)) :: fr) H := hP
  have hD : va_D A ((aB, .inr (6, [.ref eq1, .int 0, .int xm, .int 0])) :: (eq1, .inl (tp_ty E 3, nq1, .inl sq2)) :: fr) := hD
  refine lv_aload_n hx hb d_AS_append_2_33 rfl (lv_at hl 1 rfl) ?_
  refine lv_dup hx hb d_AS_append_2_34 rfl ?_
  refine va_get (D := tp_D E) (ci := 6) (v := .int 0) (C := qR_SB) (T := qF_SB) (N := 4) hx hb htg qi_SB hown hK.1 hP 0 rfl rfl 3 (by decide) (htg _ kl_AS_79) (fun _ h => h) rfl d_AS_append_2_35 ?_
  refine lv_iload_n hx hb d_AS_append_2_38 rfl (lv_at hl 0 rfl) ?_
  refine lv_iadd hx hb d_AS_append_2_39 ?_
  refine va_put (D := tp_D E) (ci := 6) (v := .int (0 + (Int32.ofNat (tp_len.getD i 0)))) (ty := .int) (C := qR_SB) (T := qF_SB) (N := 4) hx hb htg qi_SB qt_SB qt_SB_ok qn_SB hown hK.1 hP hD hS 0 rfl rfl 3 (by decide) (htg _ kl_AS_79) (fun _ h => h) rfl (by decide +kernel) rfl rfl (Nat.le_of_ble_eq_true rfl) d_AS_append_2_40 (fun H locs hP hD hS => ?_)
  have hP : va_P (tp_D E) tp_cl ((aB, .inr (6, [.ref eq1, .int 0, .int xm, .int (0 + (Int32.ofNat (tp_len.getD i 0)))])) :: (eq1, .inl (tp_ty E 3, nq1, .inl sq2)) :: fr) H := hP
  have hD : va_D A ((aB, .inr (6, [.ref eq1, .int 0, .int xm, .int (0 + (Int32.ofNat (tp_len.getD i 0)))])) :: (eq1, .inl (tp_ty E 3, nq1, .inl sq2)) :: fr) := hD
  refine lv_aload_n hx hb d_AS_append_2_43 rfl (lv_at hl 1 rfl) ?_
  exact W.aret (v := .ref aB) hx hb hr (Or.inl ⟨_, rfl⟩) (Or.inr ⟨_, rfl⟩) (fun t ht hW => ⟨⟨(eq1, nq1, sq2, (0 + (Int32.ofNat (tp_len.getD i 0)))), _, rfl, ⟨hnq1, hfq2, tp_l0i hi, hmq1⟩, rfl, by rw [ht]; exact hP, hD⟩, hS.F ht⟩) hS.2.2 d_AS_append_2_44
set_option maxHeartbeats 4000000 in
set_option maxRecDepth 100000 in
theorem a_SB_appS (l : Launch) (E : tp_Env) (fr : va_W) (sz : Nat) (aB ab : Nat) (xm : Int32) (nb : Nat) (fb : Nat → Int32) (i : Nat) (hi : i < 97) (hn : nb = 16 ∨ nb = 34) (hf : tp_fit fb)  : Met l y_SB_append_2 w_SB_append_2 ({ frames := 5, cells := 1, slots := 34, locals := 167 }) (va_Pc [.ref aB, .ref (tp_ad E (200 + i))] (tp_in E ((aB, .inr (6, [.ref ab, .int 0, .int xm, .int 0])) :: (ab, .inl (tp_ty E 3, nb, .inl fb)) :: fr) sz)) (va_Qr (fun (u : Nat × Nat × (Nat → Int32) × Int32) => (u.2.1 = 16 ∨ u.2.1 = 34) ∧ tp_fit u.2.2.1 ∧ u.2.2.2.toInt = ((tp_len.getD i 0 : Nat) : Int) ∧ u.2.2.2.toInt ≤ (u.2.1 : Int)) (fun u q t => q = (fun (_ : Nat × Nat × (Nat → Int32) × Int32) => aB) u ∧ tp_out E (va_A ((aB, .inr (6, [.ref ab, .int 0, .int xm, .int 0])) :: (ab, .inl (tp_ty E 3, nb, .inl fb)) :: fr) sz) ((aB, .inr (6, [.ref u.1, .int 0, .int xm, .int u.2.2.2])) :: (u.1, .inl (tp_ty E 3, u.2.1, .inl u.2.2.1)) :: fr) t) (va_A ((aB, .inr (6, [.ref ab, .int 0, .int xm, .int 0])) :: (ab, .inl (tp_ty E 3, nb, .inl fb)) :: fr) sz)) 1 34 (va_A ((aB, .inr (6, [.ref ab, .int 0, .int xm, .int 0])) :: (ab, .inl (tp_ty E 3, nb, .inl fb)) :: fr) sz) := by
  refine Met.ofW (cc := b_SB_append_2) (maxL := 2) (ret := (some (.object "java/lang/StringBuilder"))) (by decide) rfl ?_
  intro p e s m args below meth c s₁ B hml hv
  obtain ⟨rfl, hsz, hP, hK, hD0⟩ := hv
  have hx := B.exec
  have hb := B.bytes
  have hr := B.returns
  have htg : ∀ w ∈ tp_G, w.before ([.ref aB, .ref (tp_ad E (200 + i))] : List Value).toArray s = true := fun w h => atoms_spec (ws := w_SB_append_2) B.pre w (List.mem_cons_of_mem _ h)
  have hown : s.vm.findClass "java/lang/StringBuilder" = some m.cls := findClass_of_methodNamed B.named
  have hlocks := B.notSynchronized
  subst hsz
  have hD := hD0.self (sz := s.heap.size)
  generalize hAe : va_A ((aB, .inr (6, [.ref ab, .int 0, .int xm, .int 0])) :: (ab, .inl (tp_ty E 3, nb, .inl fb)) :: fr) s.heap.size = A at hD hK ⊢
  have hA : ∀ q : Nat, s.heap.size ≤ q → A q := fun q h => by rw [← hAe]; exact Or.inr h
  have hS : va_S A s.heap s.heap [] := va_S.rf
  have hl := lv_entry ([.ref aB, .ref (tp_ad E (200 + i))]) (n := 2) (Nat.le_of_ble_eq_true rfl)
  rw [lg_entry_eq]
  generalize (lg_sl ([.ref aB, .ref (tp_ad E (200 + i))]) ++ List.replicate (2 - (lg_sl ([.ref aB, .ref (tp_ad E (200 + i))])).length) Slot.unset).toArray = ls at hl ⊢
  have hl : lv_has ls 2 [(0, .ref aB), (1, .ref (tp_ad E (200 + i)))] := hl
  refine lv_aload_n hx hb d_SB_append_2_0 rfl (lv_at hl 0 rfl) ?_
  refine lv_aload_n hx hb d_SB_append_2_1 rfl (lv_at hl 1 rfl) ?_
  refine tp_cr (tp_rU (As := [.ref (tp_ad E (200 + i))]) (rest := []) ⟨hx, hb, hml, hown, htg⟩ (a_AS_appS l E fr _ aB ab xm nb fb i hi hn hf) (tp_cwU 1 htg kc_AS_append_2 (htg _ kl_SB_29) (htg _ kq_AS_append_2) (htg _ kz_SB) (htg _ km_AS_append_2) (htg _ ki_AS) ⟨by decide, by decide +kernel⟩ ⟨Nat.le_of_ble_eq_true rfl, Nat.le_of_ble_eq_true rfl⟩) (va_recv (ci := 6) (q0 := 0) hK.1 hP rfl rfl) (hK.1.1 6 _ rfl).2 hK hP hD hS hA rfl hl.1 rfl (Nat.le_of_ble_eq_true rfl) d_SB_append_2_2 ⟨Nat.le_of_ble_eq_true rfl, Nat.le_of_ble_eq_true rfl⟩) hD hS hA (fun u H locs hw hP hD hS => ?_)
  obtain ⟨eq1, nq1, fq1, cq1⟩ := u
  obtain ⟨hnq1, hfq1, hcq1, hqq1⟩ : (nq1 = 16 ∨ nq1 = 34) ∧ tp_fit fq1 ∧ cq1.toInt = ((tp_len.getD i 0 : Nat) : Int) ∧ cq1.toInt ≤ (nq1 : Int) := hw
  have hP : va_P (tp_D E) tp_cl ((aB, .inr (6, [.ref eq1, .int 0, .int xm, .int cq1])) :: (eq1, .inl (tp_ty E 3, nq1, .inl fq1)) :: fr) H := hP
  have hD : va_D A ((aB, .inr (6, [.ref eq1, .int 0, .int xm, .int cq1])) :: (eq1, .inl (tp_ty E 3, nq1, .inl fq1)) :: fr) := hD
  refine lv_pop hx hb d_SB_append_2_5 rfl ?_
  refine lv_aload_n hx hb d_SB_append_2_6 rfl (lv_at hl 0 rfl) ?_
  exact W.aret (v := .ref aB) hx hb hr (Or.inl ⟨_, rfl⟩) (Or.inr ⟨_, rfl⟩) (fun t ht hW => ⟨⟨(eq1, nq1, fq1, cq1), _, rfl, ⟨hnq1, hfq1, hcq1, hqq1⟩, rfl, by rw [ht]; exact hP, hD⟩, hS.F ht⟩) hS.2.2 d_SB_append_2_7
set_option maxHeartbeats 4000000 in
set_option maxRecDepth 100000 in
theorem a_C_fixedBits (l : Launch) (E : tp_Env) (fr : va_W) (sz : Nat) (xl : Int32)  : Met l y_C_fixedBits w_C_fixedBits ({ frames := 0, cells := 0, slots := 0, locals := 0 }) (va_Pc [.int xl] (tp_in E fr sz)) (va_Qi (fun r (_ : Unit) => r = tp_fix xl) (fun _ t => tp_out E (va_A fr sz) fr t) (va_A fr sz)) 0 0 (va_A fr sz) := by
  refine Met.ofW (cc := b_C_fixedBits) (maxL := 1) (ret := (some .int)) (by decide) rfl ?_
  intro p e s m args below meth c s₁ B hml hv
  obtain ⟨rfl, hsz, hP, hK, hD0⟩ := hv
  have hx := B.exec
  have hb := B.bytes
  have hr := B.returns
  have htg : ∀ w ∈ tp_G, w.before ([.int xl] : List Value).toArray s = true := fun w h => atoms_spec (ws := w_C_fixedBits) B.pre w (List.mem_cons_of_mem _ h)
  have hown : s.vm.findClass "TwoPass$Code" = some m.cls := findClass_of_methodNamed B.named
  have hlocks := B.notSynchronized
  subst hsz
  have hD := hD0.self (sz := s.heap.size)
  generalize hAe : va_A fr s.heap.size = A at hD hK ⊢
  have hA : ∀ q : Nat, s.heap.size ≤ q → A q := fun q h => by rw [← hAe]; exact Or.inr h
  have hS : va_S A s.heap s.heap [] := va_S.rf
  have hl := lv_entry ([.int xl]) (n := 1) (Nat.le_of_ble_eq_true rfl)
  rw [lg_entry_eq]
  generalize (lg_sl ([.int xl]) ++ List.replicate (1 - (lg_sl ([.int xl])).length) Slot.unset).toArray = ls at hl ⊢
  have hl : lv_has ls 1 [(0, .int xl)] := hl
  refine lv_iload_n hx hb d_C_fixedBits_0 rfl (lv_at hl 0 rfl) ?_
  by_cases h1 : xl = 1
  · refine lv_tableIn (off := 43) (tgt := 44) hx hb d_C_fixedBits_1 (by rw [h1]; decide) (by rw [h1]; decide) (by rw [h1]; decide) (by decide) ?_
    refine lv_ldc (v := (-33525633)) hx hb hown (htg _ kl_C_40) d_C_fixedBits_44 ?_
    exact W.iret (v := (-33525633)) hx hb hr (fun t ht hW => ⟨⟨_, (), rfl, (by unfold tp_fix; rw [if_pos h1]), by rw [ht]; exact hP, hD⟩, hS.F ht⟩) hS.2.2 d_C_fixedBits_46
  · by_cases h2 : xl = 2
    · refine lv_tableIn (off := 49) (tgt := 50) hx hb d_C_fixedBits_1 (by rw [h2]; decide) (by rw [h2]; decide) (by rw [h2]; decide) (by decide) ?_
      refine lv_sipush (v := 28799) hx hb d_C_fixedBits_50 (by decide) ?_
      exact W.iret (v := 28799) hx hb hr (fun t ht hW => ⟨⟨_, (), rfl, (by unfold tp_fix; rw [if_neg h1, if_pos h2]), by rw [ht]; exact hP, hD⟩, hS.F ht⟩) hS.2.2 d_C_fixedBits_53
    · by_cases h3 : xl = 3
      · refine lv_tableIn (off := 46) (tgt := 47) hx hb d_C_fixedBits_1 (by rw [h3]; decide) (by rw [h3]; decide) (by rw [h3]; decide) (by decide) ?_
        refine lv_ldc (v := (-67080065)) hx hb hown (htg _ kl_C_41) d_C_fixedBits_47 ?_
        exact W.iret (v := (-67080065)) hx hb hr (fun t ht hW => ⟨⟨_, (), rfl, (by unfold tp_fix; rw [if_neg h1, if_neg h2, if_pos h3]), by rw [ht]; exact hP, hD⟩, hS.F ht⟩) hS.2.2 d_C_fixedBits_49
      · by_cases h4 : xl = 4
        · refine lv_tableIn (off := 53) (tgt := 54) hx hb d_C_fixedBits_1 (by rw [h4]; decide) (by rw [h4]; decide) (by rw [h4]; decide) (by decide) ?_
          refine lv_bipush (v := 127) hx hb d_C_fixedBits_54 (by decide) ?_
          exact W.iret (v := 127) hx hb hr (fun t ht hW => ⟨⟨_, (), rfl, (by unfold tp_fix; rw [if_neg h1, if_neg h2, if_neg h3, if_pos h4]), by rw [ht]; exact hP, hD⟩, hS.F ht⟩) hS.2.2 d_C_fixedBits_56
        · by_cases h5 : xl = 5
          · refine lv_tableIn (off := 49) (tgt := 50) hx hb d_C_fixedBits_1 (by rw [h5]; decide) (by rw [h5]; decide) (by rw [h5]; decide) (by decide) ?_
            refine lv_sipush (v := 28799) hx hb d_C_fixedBits_50 (by decide) ?_
            exact W.iret (v := 28799) hx hb hr (fun t ht hW => ⟨⟨_, (), rfl, (by unfold tp_fix; rw [if_neg h1, if_neg h2, if_neg h3, if_neg h4, if_pos h5]), by rw [ht]; exact hP, hD⟩, hS.F ht⟩) hS.2.2 d_C_fixedBits_53
          · by_cases h6 : xl = 6
            · refine lv_tableIn (off := 49) (tgt := 50) hx hb d_C_fixedBits_1 (by rw [h6]; decide) (by rw [h6]; decide) (by rw [h6]; decide) (by decide) ?_
              refine lv_sipush (v := 28799) hx hb d_C_fixedBits_50 (by decide) ?_
              exact W.iret (v := 28799) hx hb hr (fun t ht hW => ⟨⟨_, (), rfl, (by unfold tp_fix; rw [if_neg h1, if_neg h2, if_neg h3, if_neg h4, if_neg h5, if_pos h6]), by rw [ht]; exact hP, hD⟩, hS.F ht⟩) hS.2.2 d_C_fixedBits_53
            · by_cases h7 : xl = 7
              · refine lv_tableIn (off := 53) (tgt := 54) hx hb d_C_fixedBits_1 (by rw [h7]; decide) (by rw [h7]; decide) (by rw [h7]; decide) (by decide) ?_
                refine lv_bipush (v := 127) hx hb d_C_fixedBits_54 (by decide) ?_
                exact W.iret (v := 127) hx hb hr (fun t ht hW => ⟨⟨_, (), rfl, (by unfold tp_fix; rw [if_neg h1, if_neg h2, if_neg h3, if_neg h4, if_neg h5, if_neg h6, if_pos h7]), by rw [ht]; exact hP, hD⟩, hS.F ht⟩) hS.2.2 d_C_fixedBits_56
              · refine lv_tableOut (tgt := 57) hx hb d_C_fixedBits_1 (by have g11 := tp_neI (v := 1) (n := 1) rfl h1; have g12 := tp_neI (v := 2) (n := 2) rfl h2; have g13 := tp_neI (v := 3) (n := 3) rfl h3; have g14 := tp_neI (v := 4) (n := 4) rfl h4; have g15 := tp_neI (v := 5) (n := 5) rfl h5; have g16 := tp_neI (v := 6) (n := 6) rfl h6; have g17 := tp_neI (v := 7) (n := 7) rfl h7; omega) (by decide) ?_
                refine lv_iconst (v := 0) hx hb d_C_fixedBits_57 (by decide) ?_
                exact W.iret (v := 0) hx hb hr (fun t ht hW => ⟨⟨_, (), rfl, (by unfold tp_fix; rw [if_neg h1, if_neg h2, if_neg h3, if_neg h4, if_neg h5, if_neg h6, if_neg h7]), by rw [ht]; exact hP, hD⟩, hS.F ht⟩) hS.2.2 d_C_fixedBits_58
set_option maxHeartbeats 400000 in
set_option maxRecDepth 100000 in
theorem cs_C_bits_1 (l : Launch) (E : tp_Env) (fr : va_W) (sz : Nat) (x1 : Int32)  : Met l y_C_bits w_C_bits ({ frames := 0, cells := 0, slots := 0, locals := 0 }) (va_Pc [.int x1, .int 20, .int 6] (tp_in E fr sz)) (va_Qi (fun r (_ : Unit) => r = ((x1.toUInt32 >>> (Int32.toUInt32 20 &&& Int32.toUInt32 31)).toInt32 &&& 63)) (fun _ t => tp_out E (va_A fr sz) fr t) (va_A fr sz)) 0 0 (va_A fr sz) := by
  refine Met.ofW (cc := b_C_bits) (maxL := 3) (ret := (some .int)) (by decide) rfl ?_
  intro p e s m args below meth c s₁ B hml hv
  obtain ⟨rfl, hsz, hP, hK, hD0⟩ := hv
  have hx := B.exec
  have hb := B.bytes
  have hr := B.returns
  have htg : ∀ w ∈ tp_G, w.before ([.int x1, .int 20, .int 6] : List Value).toArray s = true := fun w h => atoms_spec (ws := w_C_bits) B.pre w (List.mem_cons_of_mem _ h)
  have hown : s.vm.findClass "TwoPass$Code" = some m.cls := findClass_of_methodNamed B.named
  have hlocks := B.notSynchronized
  subst hsz
  have hD := hD0.self (sz := s.heap.size)
  generalize hAe : va_A fr s.heap.size = A at hD hK ⊢
  have hA : ∀ q : Nat, s.heap.size ≤ q → A q := fun q h => by rw [← hAe]; exact Or.inr h
  have hS : va_S A s.heap s.heap [] := va_S.rf
  have hl := lv_entry ([.int x1, .int 20, .int 6]) (n := 3) (Nat.le_of_ble_eq_true rfl)
  rw [lg_entry_eq]
  generalize (lg_sl ([.int x1, .int 20, .int 6]) ++ List.replicate (3 - (lg_sl ([.int x1, .int 20, .int 6])).length) Slot.unset).toArray = ls at hl ⊢
  have hl : lv_has ls 3 [(0, .int x1), (1, .int 20), (2, .int 6)] := hl
  refine lv_iload_n hx hb d_C_bits_0 rfl (lv_at hl 0 rfl) ?_
  refine lv_iload_n hx hb d_C_bits_1 rfl (lv_at hl 1 rfl) ?_
  refine lv_iushr (v := (x1.toUInt32 >>> (Int32.toUInt32 20 &&& Int32.toUInt32 31)).toInt32) hx hb d_C_bits_2 rfl ?_
  refine lv_iconst (v := 1) hx hb d_C_bits_3 (by decide) ?_
  refine lv_iload_n hx hb d_C_bits_4 rfl (lv_at hl 2 rfl) ?_
  refine lv_ishl hx hb d_C_bits_5 ?_
  refine tp_topi (v := 64) (by decide) ?_
  refine lv_iconst (v := 1) hx hb d_C_bits_6 (by decide) ?_
  refine lv_isub hx hb d_C_bits_7 ?_
  refine tp_topi (v := 63) (by decide) ?_
  refine lv_iand hx hb d_C_bits_8 ?_
  exact W.iret (v := ((x1.toUInt32 >>> (Int32.toUInt32 20 &&& Int32.toUInt32 31)).toInt32 &&& 63)) hx hb hr (fun t ht hW => ⟨⟨_, (), rfl, rfl, by rw [ht]; exact hP, hD⟩, hS.F ht⟩) hS.2.2 d_C_bits_9
set_option maxHeartbeats 400000 in
set_option maxRecDepth 100000 in
theorem cs_C_bits_2 (l : Launch) (E : tp_Env) (fr : va_W) (sz : Nat) (x1 : Int32)  : Met l y_C_bits w_C_bits ({ frames := 0, cells := 0, slots := 0, locals := 0 }) (va_Pc [.int x1, .int 7, .int 5] (tp_in E fr sz)) (va_Qi (fun r (_ : Unit) => r = ((x1.toUInt32 >>> (Int32.toUInt32 7 &&& Int32.toUInt32 31)).toInt32 &&& 31)) (fun _ t => tp_out E (va_A fr sz) fr t) (va_A fr sz)) 0 0 (va_A fr sz) := by
  refine Met.ofW (cc := b_C_bits) (maxL := 3) (ret := (some .int)) (by decide) rfl ?_
  intro p e s m args below meth c s₁ B hml hv
  obtain ⟨rfl, hsz, hP, hK, hD0⟩ := hv
  have hx := B.exec
  have hb := B.bytes
  have hr := B.returns
  have htg : ∀ w ∈ tp_G, w.before ([.int x1, .int 7, .int 5] : List Value).toArray s = true := fun w h => atoms_spec (ws := w_C_bits) B.pre w (List.mem_cons_of_mem _ h)
  have hown : s.vm.findClass "TwoPass$Code" = some m.cls := findClass_of_methodNamed B.named
  have hlocks := B.notSynchronized
  subst hsz
  have hD := hD0.self (sz := s.heap.size)
  generalize hAe : va_A fr s.heap.size = A at hD hK ⊢
  have hA : ∀ q : Nat, s.heap.size ≤ q → A q := fun q h => by rw [← hAe]; exact Or.inr h
  have hS : va_S A s.heap s.heap [] := va_S.rf
  have hl := lv_entry ([.int x1, .int 7, .int 5]) (n := 3) (Nat.le_of_ble_eq_true rfl)
  rw [lg_entry_eq]
  generalize (lg_sl ([.int x1, .int 7, .int 5]) ++ List.replicate (3 - (lg_sl ([.int x1, .int 7, .int 5])).length) Slot.unset).toArray = ls at hl ⊢
  have hl : lv_has ls 3 [(0, .int x1), (1, .int 7), (2, .int 5)] := hl
  refine lv_iload_n hx hb d_C_bits_0 rfl (lv_at hl 0 rfl) ?_
  refine lv_iload_n hx hb d_C_bits_1 rfl (lv_at hl 1 rfl) ?_
  refine lv_iushr (v := (x1.toUInt32 >>> (Int32.toUInt32 7 &&& Int32.toUInt32 31)).toInt32) hx hb d_C_bits_2 rfl ?_
  refine lv_iconst (v := 1) hx hb d_C_bits_3 (by decide) ?_
  refine lv_iload_n hx hb d_C_bits_4 rfl (lv_at hl 2 rfl) ?_
  refine lv_ishl hx hb d_C_bits_5 ?_
  refine tp_topi (v := 32) (by decide) ?_
  refine lv_iconst (v := 1) hx hb d_C_bits_6 (by decide) ?_
  refine lv_isub hx hb d_C_bits_7 ?_
  refine tp_topi (v := 31) (by decide) ?_
  refine lv_iand hx hb d_C_bits_8 ?_
  exact W.iret (v := ((x1.toUInt32 >>> (Int32.toUInt32 7 &&& Int32.toUInt32 31)).toInt32 &&& 31)) hx hb hr (fun t ht hW => ⟨⟨_, (), rfl, rfl, by rw [ht]; exact hP, hD⟩, hS.F ht⟩) hS.2.2 d_C_bits_9
set_option maxHeartbeats 400000 in
set_option maxRecDepth 100000 in
theorem cs_C_bits_3 (l : Launch) (E : tp_Env) (fr : va_W) (sz : Nat) (x1 : Int32)  : Met l y_C_bits w_C_bits ({ frames := 0, cells := 0, slots := 0, locals := 0 }) (va_Pc [.int x1, .int 8, .int 4] (tp_in E fr sz)) (va_Qi (fun r (_ : Unit) => r = ((x1.toUInt32 >>> (Int32.toUInt32 8 &&& Int32.toUInt32 31)).toInt32 &&& 15)) (fun _ t => tp_out E (va_A fr sz) fr t) (va_A fr sz)) 0 0 (va_A fr sz) := by
  refine Met.ofW (cc := b_C_bits) (maxL := 3) (ret := (some .int)) (by decide) rfl ?_
  intro p e s m args below meth c s₁ B hml hv
  obtain ⟨rfl, hsz, hP, hK, hD0⟩ := hv
  have hx := B.exec
  have hb := B.bytes
  have hr := B.returns
  have htg : ∀ w ∈ tp_G, w.before ([.int x1, .int 8, .int 4] : List Value).toArray s = true := fun w h => atoms_spec (ws := w_C_bits) B.pre w (List.mem_cons_of_mem _ h)
  have hown : s.vm.findClass "TwoPass$Code" = some m.cls := findClass_of_methodNamed B.named
  have hlocks := B.notSynchronized
  subst hsz
  have hD := hD0.self (sz := s.heap.size)
  generalize hAe : va_A fr s.heap.size = A at hD hK ⊢
  have hA : ∀ q : Nat, s.heap.size ≤ q → A q := fun q h => by rw [← hAe]; exact Or.inr h
  have hS : va_S A s.heap s.heap [] := va_S.rf
  have hl := lv_entry ([.int x1, .int 8, .int 4]) (n := 3) (Nat.le_of_ble_eq_true rfl)
  rw [lg_entry_eq]
  generalize (lg_sl ([.int x1, .int 8, .int 4]) ++ List.replicate (3 - (lg_sl ([.int x1, .int 8, .int 4])).length) Slot.unset).toArray = ls at hl ⊢
  have hl : lv_has ls 3 [(0, .int x1), (1, .int 8), (2, .int 4)] := hl
  refine lv_iload_n hx hb d_C_bits_0 rfl (lv_at hl 0 rfl) ?_
  refine lv_iload_n hx hb d_C_bits_1 rfl (lv_at hl 1 rfl) ?_
  refine lv_iushr (v := (x1.toUInt32 >>> (Int32.toUInt32 8 &&& Int32.toUInt32 31)).toInt32) hx hb d_C_bits_2 rfl ?_
  refine lv_iconst (v := 1) hx hb d_C_bits_3 (by decide) ?_
  refine lv_iload_n hx hb d_C_bits_4 rfl (lv_at hl 2 rfl) ?_
  refine lv_ishl hx hb d_C_bits_5 ?_
  refine tp_topi (v := 16) (by decide) ?_
  refine lv_iconst (v := 1) hx hb d_C_bits_6 (by decide) ?_
  refine lv_isub hx hb d_C_bits_7 ?_
  refine tp_topi (v := 15) (by decide) ?_
  refine lv_iand hx hb d_C_bits_8 ?_
  exact W.iret (v := ((x1.toUInt32 >>> (Int32.toUInt32 8 &&& Int32.toUInt32 31)).toInt32 &&& 15)) hx hb hr (fun t ht hW => ⟨⟨_, (), rfl, rfl, by rw [ht]; exact hP, hD⟩, hS.F ht⟩) hS.2.2 d_C_bits_9
set_option maxHeartbeats 400000 in
set_option maxRecDepth 100000 in
theorem cs_C_bits_4 (l : Launch) (E : tp_Env) (fr : va_W) (sz : Nat) (x1 : Int32)  : Met l y_C_bits w_C_bits ({ frames := 0, cells := 0, slots := 0, locals := 0 }) (va_Pc [.int x1, .int 25, .int 6] (tp_in E fr sz)) (va_Qi (fun r (_ : Unit) => r = ((x1.toUInt32 >>> (Int32.toUInt32 25 &&& Int32.toUInt32 31)).toInt32 &&& 63)) (fun _ t => tp_out E (va_A fr sz) fr t) (va_A fr sz)) 0 0 (va_A fr sz) := by
  refine Met.ofW (cc := b_C_bits) (maxL := 3) (ret := (some .int)) (by decide) rfl ?_
  intro p e s m args below meth c s₁ B hml hv
  obtain ⟨rfl, hsz, hP, hK, hD0⟩ := hv
  have hx := B.exec
  have hb := B.bytes
  have hr := B.returns
  have htg : ∀ w ∈ tp_G, w.before ([.int x1, .int 25, .int 6] : List Value).toArray s = true := fun w h => atoms_spec (ws := w_C_bits) B.pre w (List.mem_cons_of_mem _ h)
  have hown : s.vm.findClass "TwoPass$Code" = some m.cls := findClass_of_methodNamed B.named
  have hlocks := B.notSynchronized
  subst hsz
  have hD := hD0.self (sz := s.heap.size)
  generalize hAe : va_A fr s.heap.size = A at hD hK ⊢
  have hA : ∀ q : Nat, s.heap.size ≤ q → A q := fun q h => by rw [← hAe]; exact Or.inr h
  have hS : va_S A s.heap s.heap [] := va_S.rf
  have hl := lv_entry ([.int x1, .int 25, .int 6]) (n := 3) (Nat.le_of_ble_eq_true rfl)
  rw [lg_entry_eq]
  generalize (lg_sl ([.int x1, .int 25, .int 6]) ++ List.replicate (3 - (lg_sl ([.int x1, .int 25, .int 6])).length) Slot.unset).toArray = ls at hl ⊢
  have hl : lv_has ls 3 [(0, .int x1), (1, .int 25), (2, .int 6)] := hl
  refine lv_iload_n hx hb d_C_bits_0 rfl (lv_at hl 0 rfl) ?_
  refine lv_iload_n hx hb d_C_bits_1 rfl (lv_at hl 1 rfl) ?_
  refine lv_iushr (v := (x1.toUInt32 >>> (Int32.toUInt32 25 &&& Int32.toUInt32 31)).toInt32) hx hb d_C_bits_2 rfl ?_
  refine lv_iconst (v := 1) hx hb d_C_bits_3 (by decide) ?_
  refine lv_iload_n hx hb d_C_bits_4 rfl (lv_at hl 2 rfl) ?_
  refine lv_ishl hx hb d_C_bits_5 ?_
  refine tp_topi (v := 64) (by decide) ?_
  refine lv_iconst (v := 1) hx hb d_C_bits_6 (by decide) ?_
  refine lv_isub hx hb d_C_bits_7 ?_
  refine tp_topi (v := 63) (by decide) ?_
  refine lv_iand hx hb d_C_bits_8 ?_
  exact W.iret (v := ((x1.toUInt32 >>> (Int32.toUInt32 25 &&& Int32.toUInt32 31)).toInt32 &&& 63)) hx hb hr (fun t ht hW => ⟨⟨_, (), rfl, rfl, by rw [ht]; exact hP, hD⟩, hS.F ht⟩) hS.2.2 d_C_bits_9
set_option maxHeartbeats 400000 in
set_option maxRecDepth 100000 in
theorem cs_C_bits_5 (l : Launch) (E : tp_Env) (fr : va_W) (sz : Nat) (x1 : Int32)  : Met l y_C_bits w_C_bits ({ frames := 0, cells := 0, slots := 0, locals := 0 }) (va_Pc [.int x1, .int 7, .int 1] (tp_in E fr sz)) (va_Qi (fun r (_ : Unit) => r = ((x1.toUInt32 >>> (Int32.toUInt32 7 &&& Int32.toUInt32 31)).toInt32 &&& 1)) (fun _ t => tp_out E (va_A fr sz) fr t) (va_A fr sz)) 0 0 (va_A fr sz) := by
  refine Met.ofW (cc := b_C_bits) (maxL := 3) (ret := (some .int)) (by decide) rfl ?_
  intro p e s m args below meth c s₁ B hml hv
  obtain ⟨rfl, hsz, hP, hK, hD0⟩ := hv
  have hx := B.exec
  have hb := B.bytes
  have hr := B.returns
  have htg : ∀ w ∈ tp_G, w.before ([.int x1, .int 7, .int 1] : List Value).toArray s = true := fun w h => atoms_spec (ws := w_C_bits) B.pre w (List.mem_cons_of_mem _ h)
  have hown : s.vm.findClass "TwoPass$Code" = some m.cls := findClass_of_methodNamed B.named
  have hlocks := B.notSynchronized
  subst hsz
  have hD := hD0.self (sz := s.heap.size)
  generalize hAe : va_A fr s.heap.size = A at hD hK ⊢
  have hA : ∀ q : Nat, s.heap.size ≤ q → A q := fun q h => by rw [← hAe]; exact Or.inr h
  have hS : va_S A s.heap s.heap [] := va_S.rf
  have hl := lv_entry ([.int x1, .int 7, .int 1]) (n := 3) (Nat.le_of_ble_eq_true rfl)
  rw [lg_entry_eq]
  generalize (lg_sl ([.int x1, .int 7, .int 1]) ++ List.replicate (3 - (lg_sl ([.int x1, .int 7, .int 1])).length) Slot.unset).toArray = ls at hl ⊢
  have hl : lv_has ls 3 [(0, .int x1), (1, .int 7), (2, .int 1)] := hl
  refine lv_iload_n hx hb d_C_bits_0 rfl (lv_at hl 0 rfl) ?_
  refine lv_iload_n hx hb d_C_bits_1 rfl (lv_at hl 1 rfl) ?_
  refine lv_iushr (v := (x1.toUInt32 >>> (Int32.toUInt32 7 &&& Int32.toUInt32 31)).toInt32) hx hb d_C_bits_2 rfl ?_
  refine lv_iconst (v := 1) hx hb d_C_bits_3 (by decide) ?_
  refine lv_iload_n hx hb d_C_bits_4 rfl (lv_at hl 2 rfl) ?_
  refine lv_ishl hx hb d_C_bits_5 ?_
  refine tp_topi (v := 2) (by decide) ?_
  refine lv_iconst (v := 1) hx hb d_C_bits_6 (by decide) ?_
  refine lv_isub hx hb d_C_bits_7 ?_
  refine tp_topi (v := 1) (by decide) ?_
  refine lv_iand hx hb d_C_bits_8 ?_
  exact W.iret (v := ((x1.toUInt32 >>> (Int32.toUInt32 7 &&& Int32.toUInt32 31)).toInt32 &&& 1)) hx hb hr (fun t ht hW => ⟨⟨_, (), rfl, rfl, by rw [ht]; exact hP, hD⟩, hS.F ht⟩) hS.2.2 d_C_bits_9
set_option maxHeartbeats 400000 in
set_option maxRecDepth 100000 in
theorem cs_C_bits_6 (l : Launch) (E : tp_Env) (fr : va_W) (sz : Nat) (x1 : Int32)  : Met l y_C_bits w_C_bits ({ frames := 0, cells := 0, slots := 0, locals := 0 }) (va_Pc [.int x1, .int 21, .int 10] (tp_in E fr sz)) (va_Qi (fun r (_ : Unit) => r = ((x1.toUInt32 >>> (Int32.toUInt32 21 &&& Int32.toUInt32 31)).toInt32 &&& 1023)) (fun _ t => tp_out E (va_A fr sz) fr t) (va_A fr sz)) 0 0 (va_A fr sz) := by
  refine Met.ofW (cc := b_C_bits) (maxL := 3) (ret := (some .int)) (by decide) rfl ?_
  intro p e s m args below meth c s₁ B hml hv
  obtain ⟨rfl, hsz, hP, hK, hD0⟩ := hv
  have hx := B.exec
  have hb := B.bytes
  have hr := B.returns
  have htg : ∀ w ∈ tp_G, w.before ([.int x1, .int 21, .int 10] : List Value).toArray s = true := fun w h => atoms_spec (ws := w_C_bits) B.pre w (List.mem_cons_of_mem _ h)
  have hown : s.vm.findClass "TwoPass$Code" = some m.cls := findClass_of_methodNamed B.named
  have hlocks := B.notSynchronized
  subst hsz
  have hD := hD0.self (sz := s.heap.size)
  generalize hAe : va_A fr s.heap.size = A at hD hK ⊢
  have hA : ∀ q : Nat, s.heap.size ≤ q → A q := fun q h => by rw [← hAe]; exact Or.inr h
  have hS : va_S A s.heap s.heap [] := va_S.rf
  have hl := lv_entry ([.int x1, .int 21, .int 10]) (n := 3) (Nat.le_of_ble_eq_true rfl)
  rw [lg_entry_eq]
  generalize (lg_sl ([.int x1, .int 21, .int 10]) ++ List.replicate (3 - (lg_sl ([.int x1, .int 21, .int 10])).length) Slot.unset).toArray = ls at hl ⊢
  have hl : lv_has ls 3 [(0, .int x1), (1, .int 21), (2, .int 10)] := hl
  refine lv_iload_n hx hb d_C_bits_0 rfl (lv_at hl 0 rfl) ?_
  refine lv_iload_n hx hb d_C_bits_1 rfl (lv_at hl 1 rfl) ?_
  refine lv_iushr (v := (x1.toUInt32 >>> (Int32.toUInt32 21 &&& Int32.toUInt32 31)).toInt32) hx hb d_C_bits_2 rfl ?_
  refine lv_iconst (v := 1) hx hb d_C_bits_3 (by decide) ?_
  refine lv_iload_n hx hb d_C_bits_4 rfl (lv_at hl 2 rfl) ?_
  refine lv_ishl hx hb d_C_bits_5 ?_
  refine tp_topi (v := 1024) (by decide) ?_
  refine lv_iconst (v := 1) hx hb d_C_bits_6 (by decide) ?_
  refine lv_isub hx hb d_C_bits_7 ?_
  refine tp_topi (v := 1023) (by decide) ?_
  refine lv_iand hx hb d_C_bits_8 ?_
  exact W.iret (v := ((x1.toUInt32 >>> (Int32.toUInt32 21 &&& Int32.toUInt32 31)).toInt32 &&& 1023)) hx hb hr (fun t ht hW => ⟨⟨_, (), rfl, rfl, by rw [ht]; exact hP, hD⟩, hS.F ht⟩) hS.2.2 d_C_bits_9
set_option maxHeartbeats 400000 in
set_option maxRecDepth 100000 in
theorem cs_C_bits_7 (l : Launch) (E : tp_Env) (fr : va_W) (sz : Nat) (x1 : Int32)  : Met l y_C_bits w_C_bits ({ frames := 0, cells := 0, slots := 0, locals := 0 }) (va_Pc [.int x1, .int 20, .int 1] (tp_in E fr sz)) (va_Qi (fun r (_ : Unit) => r = ((x1.toUInt32 >>> (Int32.toUInt32 20 &&& Int32.toUInt32 31)).toInt32 &&& 1)) (fun _ t => tp_out E (va_A fr sz) fr t) (va_A fr sz)) 0 0 (va_A fr sz) := by
  refine Met.ofW (cc := b_C_bits) (maxL := 3) (ret := (some .int)) (by decide) rfl ?_
  intro p e s m args below meth c s₁ B hml hv
  obtain ⟨rfl, hsz, hP, hK, hD0⟩ := hv
  have hx := B.exec
  have hb := B.bytes
  have hr := B.returns
  have htg : ∀ w ∈ tp_G, w.before ([.int x1, .int 20, .int 1] : List Value).toArray s = true := fun w h => atoms_spec (ws := w_C_bits) B.pre w (List.mem_cons_of_mem _ h)
  have hown : s.vm.findClass "TwoPass$Code" = some m.cls := findClass_of_methodNamed B.named
  have hlocks := B.notSynchronized
  subst hsz
  have hD := hD0.self (sz := s.heap.size)
  generalize hAe : va_A fr s.heap.size = A at hD hK ⊢
  have hA : ∀ q : Nat, s.heap.size ≤ q → A q := fun q h => by rw [← hAe]; exact Or.inr h
  have hS : va_S A s.heap s.heap [] := va_S.rf
  have hl := lv_entry ([.int x1, .int 20, .int 1]) (n := 3) (Nat.le_of_ble_eq_true rfl)
  rw [lg_entry_eq]
  generalize (lg_sl ([.int x1, .int 20, .int 1]) ++ List.replicate (3 - (lg_sl ([.int x1, .int 20, .int 1])).length) Slot.unset).toArray = ls at hl ⊢
  have hl : lv_has ls 3 [(0, .int x1), (1, .int 20), (2, .int 1)] := hl
  refine lv_iload_n hx hb d_C_bits_0 rfl (lv_at hl 0 rfl) ?_
  refine lv_iload_n hx hb d_C_bits_1 rfl (lv_at hl 1 rfl) ?_
  refine lv_iushr (v := (x1.toUInt32 >>> (Int32.toUInt32 20 &&& Int32.toUInt32 31)).toInt32) hx hb d_C_bits_2 rfl ?_
  refine lv_iconst (v := 1) hx hb d_C_bits_3 (by decide) ?_
  refine lv_iload_n hx hb d_C_bits_4 rfl (lv_at hl 2 rfl) ?_
  refine lv_ishl hx hb d_C_bits_5 ?_
  refine tp_topi (v := 2) (by decide) ?_
  refine lv_iconst (v := 1) hx hb d_C_bits_6 (by decide) ?_
  refine lv_isub hx hb d_C_bits_7 ?_
  refine tp_topi (v := 1) (by decide) ?_
  refine lv_iand hx hb d_C_bits_8 ?_
  exact W.iret (v := ((x1.toUInt32 >>> (Int32.toUInt32 20 &&& Int32.toUInt32 31)).toInt32 &&& 1)) hx hb hr (fun t ht hW => ⟨⟨_, (), rfl, rfl, by rw [ht]; exact hP, hD⟩, hS.F ht⟩) hS.2.2 d_C_bits_9
set_option maxHeartbeats 400000 in
set_option maxRecDepth 100000 in
theorem cs_C_bits_8 (l : Launch) (E : tp_Env) (fr : va_W) (sz : Nat) (x1 : Int32)  : Met l y_C_bits w_C_bits ({ frames := 0, cells := 0, slots := 0, locals := 0 }) (va_Pc [.int x1, .int 12, .int 8] (tp_in E fr sz)) (va_Qi (fun r (_ : Unit) => r = ((x1.toUInt32 >>> (Int32.toUInt32 12 &&& Int32.toUInt32 31)).toInt32 &&& 255)) (fun _ t => tp_out E (va_A fr sz) fr t) (va_A fr sz)) 0 0 (va_A fr sz) := by
  refine Met.ofW (cc := b_C_bits) (maxL := 3) (ret := (some .int)) (by decide) rfl ?_
  intro p e s m args below meth c s₁ B hml hv
  obtain ⟨rfl, hsz, hP, hK, hD0⟩ := hv
  have hx := B.exec
  have hb := B.bytes
  have hr := B.returns
  have htg : ∀ w ∈ tp_G, w.before ([.int x1, .int 12, .int 8] : List Value).toArray s = true := fun w h => atoms_spec (ws := w_C_bits) B.pre w (List.mem_cons_of_mem _ h)
  have hown : s.vm.findClass "TwoPass$Code" = some m.cls := findClass_of_methodNamed B.named
  have hlocks := B.notSynchronized
  subst hsz
  have hD := hD0.self (sz := s.heap.size)
  generalize hAe : va_A fr s.heap.size = A at hD hK ⊢
  have hA : ∀ q : Nat, s.heap.size ≤ q → A q := fun q h => by rw [← hAe]; exact Or.inr h
  have hS : va_S A s.heap s.heap [] := va_S.rf
  have hl := lv_entry ([.int x1, .int 12, .int 8]) (n := 3) (Nat.le_of_ble_eq_true rfl)
  rw [lg_entry_eq]
  generalize (lg_sl ([.int x1, .int 12, .int 8]) ++ List.replicate (3 - (lg_sl ([.int x1, .int 12, .int 8])).length) Slot.unset).toArray = ls at hl ⊢
  have hl : lv_has ls 3 [(0, .int x1), (1, .int 12), (2, .int 8)] := hl
  refine lv_iload_n hx hb d_C_bits_0 rfl (lv_at hl 0 rfl) ?_
  refine lv_iload_n hx hb d_C_bits_1 rfl (lv_at hl 1 rfl) ?_
  refine lv_iushr (v := (x1.toUInt32 >>> (Int32.toUInt32 12 &&& Int32.toUInt32 31)).toInt32) hx hb d_C_bits_2 rfl ?_
  refine lv_iconst (v := 1) hx hb d_C_bits_3 (by decide) ?_
  refine lv_iload_n hx hb d_C_bits_4 rfl (lv_at hl 2 rfl) ?_
  refine lv_ishl hx hb d_C_bits_5 ?_
  refine tp_topi (v := 256) (by decide) ?_
  refine lv_iconst (v := 1) hx hb d_C_bits_6 (by decide) ?_
  refine lv_isub hx hb d_C_bits_7 ?_
  refine tp_topi (v := 255) (by decide) ?_
  refine lv_iand hx hb d_C_bits_8 ?_
  exact W.iret (v := ((x1.toUInt32 >>> (Int32.toUInt32 12 &&& Int32.toUInt32 31)).toInt32 &&& 255)) hx hb hr (fun t ht hW => ⟨⟨_, (), rfl, rfl, by rw [ht]; exact hP, hD⟩, hS.F ht⟩) hS.2.2 d_C_bits_9
set_option maxHeartbeats 4000000 in
set_option maxRecDepth 100000 in
theorem a_C_numberOf (l : Launch) (E : tp_Env) (fr : va_W) (sz : Nat) (xl xw : Int32)  : Met l y_C_numberOf w_C_numberOf ({ frames := 1, cells := 0, slots := 0, locals := 22 }) (va_Pc [.int xl, .int xw] (tp_in E fr sz)) (va_Qi (fun r (_ : Unit) => r = tp_num xl xw) (fun _ t => tp_out E (va_A fr sz) fr t) (va_A fr sz)) 0 0 (va_A fr sz) := by
  refine Met.ofW (cc := b_C_numberOf) (maxL := 2) (ret := (some .int)) (by decide) rfl ?_
  intro p e s m args below meth c s₁ B hml hv
  obtain ⟨rfl, hsz, hP, hK, hD0⟩ := hv
  have hx := B.exec
  have hb := B.bytes
  have hr := B.returns
  have htg : ∀ w ∈ tp_G, w.before ([.int xl, .int xw] : List Value).toArray s = true := fun w h => atoms_spec (ws := w_C_numberOf) B.pre w (List.mem_cons_of_mem _ h)
  have hown : s.vm.findClass "TwoPass$Code" = some m.cls := findClass_of_methodNamed B.named
  have hlocks := B.notSynchronized
  subst hsz
  have hD := hD0.self (sz := s.heap.size)
  generalize hAe : va_A fr s.heap.size = A at hD hK ⊢
  have hA : ∀ q : Nat, s.heap.size ≤ q → A q := fun q h => by rw [← hAe]; exact Or.inr h
  have hS : va_S A s.heap s.heap [] := va_S.rf
  have hl := lv_entry ([.int xl, .int xw]) (n := 2) (Nat.le_of_ble_eq_true rfl)
  rw [lg_entry_eq]
  generalize (lg_sl ([.int xl, .int xw]) ++ List.replicate (2 - (lg_sl ([.int xl, .int xw])).length) Slot.unset).toArray = ls at hl ⊢
  have hl : lv_has ls 2 [(0, .int xl), (1, .int xw)] := hl
  refine lv_iload_n hx hb d_C_numberOf_0 rfl (lv_at hl 0 rfl) ?_
  by_cases h1 : xl = 2
  · refine lv_tableIn (off := 39) (tgt := 40) hx hb d_C_numberOf_1 (by rw [h1]; decide) (by rw [h1]; decide) (by rw [h1]; decide) (by decide) ?_
    refine lv_iload_n hx hb d_C_numberOf_40 rfl (lv_at hl 1 rfl) ?_
    refine lv_bipush (v := 20) hx hb d_C_numberOf_41 (by decide) ?_
    refine lv_ishr hx hb d_C_numberOf_43 ?_
    exact W.iret (v := (xw >>> (20 &&& 31 : Int32))) hx hb hr (fun t ht hW => ⟨⟨_, (), rfl, (by unfold tp_num; rw [if_pos h1]), by rw [ht]; exact hP, hD⟩, hS.F ht⟩) hS.2.2 d_C_numberOf_44
  · by_cases h2 : xl = 3
    · refine lv_tableIn (off := 44) (tgt := 45) hx hb d_C_numberOf_1 (by rw [h2]; decide) (by rw [h2]; decide) (by rw [h2]; decide) (by decide) ?_
      refine lv_iload_n hx hb d_C_numberOf_45 rfl (lv_at hl 1 rfl) ?_
      refine lv_bipush (v := 20) hx hb d_C_numberOf_46 (by decide) ?_
      refine lv_bipush (v := 6) hx hb d_C_numberOf_48 (by decide) ?_
      refine tp_ci (tp_rS (As := [.int xw, .int 20, .int 6]) (rest := []) ⟨hx, hb, hml, hown, htg⟩ (cs_C_bits_1 l E fr _ xw ) (⟨callB_of 3 htg (tp_good0 kc_C_bits) rfl rfl rfl (htg _ ki_C) (htg _ kl_C_24) ⟨by decide, by decide, by decide +kernel⟩ ⟨Nat.le_of_ble_eq_true rfl, Nat.le_of_ble_eq_true rfl⟩, htg _ ks_C_bits⟩) hK hP hD hS hA rfl hl.1 rfl (Nat.le_of_ble_eq_true rfl) d_C_numberOf_50 ⟨Nat.le_of_ble_eq_true rfl, Nat.le_of_ble_eq_true rfl⟩) hD hS hA (fun r u H locs hw hP hD hS => ?_)
      subst r
      have hP : va_P (tp_D E) tp_cl (fr) H := hP
      have hD : va_D A (fr) := hD
      exact W.iret (v := ((xw.toUInt32 >>> (Int32.toUInt32 20 &&& Int32.toUInt32 31)).toInt32 &&& 63)) hx hb hr (fun t ht hW => ⟨⟨_, (), rfl, (by unfold tp_num; rw [if_neg h1, if_pos h2]), by rw [ht]; exact hP, hD⟩, hS.F ht⟩) hS.2.2 d_C_numberOf_53
    · by_cases h3 : xl = 4
      · refine lv_tableIn (off := 53) (tgt := 54) hx hb d_C_numberOf_1 (by rw [h3]; decide) (by rw [h3]; decide) (by rw [h3]; decide) (by decide) ?_
        refine lv_iload_n hx hb d_C_numberOf_54 rfl (lv_at hl 1 rfl) ?_
        refine lv_bipush (v := 12) hx hb d_C_numberOf_55 (by decide) ?_
        refine lv_iushr (v := (xw.toUInt32 >>> (Int32.toUInt32 12 &&& Int32.toUInt32 31)).toInt32) hx hb d_C_numberOf_57 rfl ?_
        exact W.iret (v := (xw.toUInt32 >>> (Int32.toUInt32 12 &&& Int32.toUInt32 31)).toInt32) hx hb hr (fun t ht hW => ⟨⟨_, (), rfl, (by unfold tp_num; rw [if_neg h1, if_neg h2, if_pos h3]), by rw [ht]; exact hP, hD⟩, hS.F ht⟩) hS.2.2 d_C_numberOf_58
      · by_cases h4 : xl = 5
        · refine lv_tableIn (off := 58) (tgt := 59) hx hb d_C_numberOf_1 (by rw [h4]; decide) (by rw [h4]; decide) (by rw [h4]; decide) (by decide) ?_
          refine lv_iload_n hx hb d_C_numberOf_59 rfl (lv_at hl 1 rfl) ?_
          refine lv_bipush (v := 7) hx hb d_C_numberOf_60 (by decide) ?_
          refine lv_iconst (v := 5) hx hb d_C_numberOf_62 (by decide) ?_
          refine tp_ci (tp_rS (As := [.int xw, .int 7, .int 5]) (rest := []) ⟨hx, hb, hml, hown, htg⟩ (cs_C_bits_2 l E fr _ xw ) (⟨callB_of 3 htg (tp_good0 kc_C_bits) rfl rfl rfl (htg _ ki_C) (htg _ kl_C_24) ⟨by decide, by decide, by decide +kernel⟩ ⟨Nat.le_of_ble_eq_true rfl, Nat.le_of_ble_eq_true rfl⟩, htg _ ks_C_bits⟩) hK hP hD hS hA rfl hl.1 rfl (Nat.le_of_ble_eq_true rfl) d_C_numberOf_63 ⟨Nat.le_of_ble_eq_true rfl, Nat.le_of_ble_eq_true rfl⟩) hD hS hA (fun r u H locs hw hP hD hS => ?_)
          subst r
          have hP : va_P (tp_D E) tp_cl (fr) H := hP
          have hD : va_D A (fr) := hD
          refine lv_iload_n hx hb d_C_numberOf_66 rfl (lv_at hl 1 rfl) ?_
          refine lv_bipush (v := 25) hx hb d_C_numberOf_67 (by decide) ?_
          refine lv_ishr hx hb d_C_numberOf_69 ?_
          refine lv_iconst (v := 5) hx hb d_C_numberOf_70 (by decide) ?_
          refine lv_ishl hx hb d_C_numberOf_71 ?_
          refine lv_ior hx hb d_C_numberOf_72 ?_
          exact W.iret (v := (((xw.toUInt32 >>> (Int32.toUInt32 7 &&& Int32.toUInt32 31)).toInt32 &&& 31) ||| ((xw >>> (25 &&& 31 : Int32)) <<< (5 &&& 31 : Int32)))) hx hb hr (fun t ht hW => ⟨⟨_, (), rfl, (by unfold tp_num; rw [if_neg h1, if_neg h2, if_neg h3, if_pos h4]), by rw [ht]; exact hP, hD⟩, hS.F ht⟩) hS.2.2 d_C_numberOf_73
        · by_cases h5 : xl = 6
          · refine lv_tableIn (off := 73) (tgt := 74) hx hb d_C_numberOf_1 (by rw [h5]; decide) (by rw [h5]; decide) (by rw [h5]; decide) (by decide) ?_
            refine lv_iload_n hx hb d_C_numberOf_74 rfl (lv_at hl 1 rfl) ?_
            refine lv_bipush (v := 8) hx hb d_C_numberOf_75 (by decide) ?_
            refine lv_iconst (v := 4) hx hb d_C_numberOf_77 (by decide) ?_
            refine tp_ci (tp_rS (As := [.int xw, .int 8, .int 4]) (rest := []) ⟨hx, hb, hml, hown, htg⟩ (cs_C_bits_3 l E fr _ xw ) (⟨callB_of 3 htg (tp_good0 kc_C_bits) rfl rfl rfl (htg _ ki_C) (htg _ kl_C_24) ⟨by decide, by decide, by decide +kernel⟩ ⟨Nat.le_of_ble_eq_true rfl, Nat.le_of_ble_eq_true rfl⟩, htg _ ks_C_bits⟩) hK hP hD hS hA rfl hl.1 rfl (Nat.le_of_ble_eq_true rfl) d_C_numberOf_78 ⟨Nat.le_of_ble_eq_true rfl, Nat.le_of_ble_eq_true rfl⟩) hD hS hA (fun r u H locs hw hP hD hS => ?_)
            subst r
            have hP : va_P (tp_D E) tp_cl (fr) H := hP
            have hD : va_D A (fr) := hD
            refine lv_iconst (v := 1) hx hb d_C_numberOf_81 (by decide) ?_
            refine lv_ishl hx hb d_C_numberOf_82 ?_
            refine lv_iload_n hx hb d_C_numberOf_83 rfl (lv_at hl 1 rfl) ?_
            refine lv_bipush (v := 25) hx hb d_C_numberOf_84 (by decide) ?_
            refine lv_bipush (v := 6) hx hb d_C_numberOf_86 (by decide) ?_
            refine tp_ci (tp_rS (As := [.int xw, .int 25, .int 6]) (rest := [.int (((xw.toUInt32 >>> (Int32.toUInt32 8 &&& Int32.toUInt32 31)).toInt32 &&& 15) <<< (1 &&& 31 : Int32))]) ⟨hx, hb, hml, hown, htg⟩ (cs_C_bits_4 l E fr _ xw ) (⟨callB_of 3 htg (tp_good0 kc_C_bits) rfl rfl rfl (htg _ ki_C) (htg _ kl_C_24) ⟨by decide, by decide, by decide +kernel⟩ ⟨Nat.le_of_ble_eq_true rfl, Nat.le_of_ble_eq_true rfl⟩, htg _ ks_C_bits⟩) hK hP hD hS hA rfl hl.1 rfl (Nat.le_of_ble_eq_true rfl) d_C_numberOf_88 ⟨Nat.le_of_ble_eq_true rfl, Nat.le_of_ble_eq_true rfl⟩) hD hS hA (fun r u H locs hw hP hD hS => ?_)
            subst r
            have hP : va_P (tp_D E) tp_cl (fr) H := hP
            have hD : va_D A (fr) := hD
            refine lv_iconst (v := 5) hx hb d_C_numberOf_91 (by decide) ?_
            refine lv_ishl hx hb d_C_numberOf_92 ?_
            refine lv_ior hx hb d_C_numberOf_93 ?_
            refine lv_iload_n hx hb d_C_numberOf_94 rfl (lv_at hl 1 rfl) ?_
            refine lv_bipush (v := 7) hx hb d_C_numberOf_95 (by decide) ?_
            refine lv_iconst (v := 1) hx hb d_C_numberOf_97 (by decide) ?_
            refine tp_ci (tp_rS (As := [.int xw, .int 7, .int 1]) (rest := [.int ((((xw.toUInt32 >>> (Int32.toUInt32 8 &&& Int32.toUInt32 31)).toInt32 &&& 15) <<< (1 &&& 31 : Int32)) ||| (((xw.toUInt32 >>> (Int32.toUInt32 25 &&& Int32.toUInt32 31)).toInt32 &&& 63) <<< (5 &&& 31 : Int32)))]) ⟨hx, hb, hml, hown, htg⟩ (cs_C_bits_5 l E fr _ xw ) (⟨callB_of 3 htg (tp_good0 kc_C_bits) rfl rfl rfl (htg _ ki_C) (htg _ kl_C_24) ⟨by decide, by decide, by decide +kernel⟩ ⟨Nat.le_of_ble_eq_true rfl, Nat.le_of_ble_eq_true rfl⟩, htg _ ks_C_bits⟩) hK hP hD hS hA rfl hl.1 rfl (Nat.le_of_ble_eq_true rfl) d_C_numberOf_98 ⟨Nat.le_of_ble_eq_true rfl, Nat.le_of_ble_eq_true rfl⟩) hD hS hA (fun r u H locs hw hP hD hS => ?_)
            subst r
            have hP : va_P (tp_D E) tp_cl (fr) H := hP
            have hD : va_D A (fr) := hD
            refine lv_bipush (v := 11) hx hb d_C_numberOf_101 (by decide) ?_
            refine lv_ishl hx hb d_C_numberOf_103 ?_
            refine lv_ior hx hb d_C_numberOf_104 ?_
            refine lv_iload_n hx hb d_C_numberOf_105 rfl (lv_at hl 1 rfl) ?_
            refine lv_bipush (v := 31) hx hb d_C_numberOf_106 (by decide) ?_
            refine lv_ishr hx hb d_C_numberOf_108 ?_
            refine lv_bipush (v := 12) hx hb d_C_numberOf_109 (by decide) ?_
            refine lv_ishl hx hb d_C_numberOf_111 ?_
            refine lv_ior hx hb d_C_numberOf_112 ?_
            exact W.iret (v := ((((((xw.toUInt32 >>> (Int32.toUInt32 8 &&& Int32.toUInt32 31)).toInt32 &&& 15) <<< (1 &&& 31 : Int32)) ||| (((xw.toUInt32 >>> (Int32.toUInt32 25 &&& Int32.toUInt32 31)).toInt32 &&& 63) <<< (5 &&& 31 : Int32))) ||| (((xw.toUInt32 >>> (Int32.toUInt32 7 &&& Int32.toUInt32 31)).toInt32 &&& 1) <<< (11 &&& 31 : Int32))) ||| ((xw >>> (31 &&& 31 : Int32)) <<< (12 &&& 31 : Int32)))) hx hb hr (fun t ht hW => ⟨⟨_, (), rfl, (by unfold tp_num; rw [if_neg h1, if_neg h2, if_neg h3, if_neg h4, if_pos h5]), by rw [ht]; exact hP, hD⟩, hS.F ht⟩) hS.2.2 d_C_numberOf_113
          · by_cases h6 : xl = 7
            · refine lv_tableIn (off := 113) (tgt := 114) hx hb d_C_numberOf_1 (by rw [h6]; decide) (by rw [h6]; decide) (by rw [h6]; decide) (by decide) ?_
              refine lv_iload_n hx hb d_C_numberOf_114 rfl (lv_at hl 1 rfl) ?_
              refine lv_bipush (v := 21) hx hb d_C_numberOf_115 (by decide) ?_
              refine lv_bipush (v := 10) hx hb d_C_numberOf_117 (by decide) ?_
              refine tp_ci (tp_rS (As := [.int xw, .int 21, .int 10]) (rest := []) ⟨hx, hb, hml, hown, htg⟩ (cs_C_bits_6 l E fr _ xw ) (⟨callB_of 3 htg (tp_good0 kc_C_bits) rfl rfl rfl (htg _ ki_C) (htg _ kl_C_24) ⟨by decide, by decide, by decide +kernel⟩ ⟨Nat.le_of_ble_eq_true rfl, Nat.le_of_ble_eq_true rfl⟩, htg _ ks_C_bits⟩) hK hP hD hS hA rfl hl.1 rfl (Nat.le_of_ble_eq_true rfl) d_C_numberOf_119 ⟨Nat.le_of_ble_eq_true rfl, Nat.le_of_ble_eq_true rfl⟩) hD hS hA (fun r u H locs hw hP hD hS => ?_)
              subst r
              have hP : va_P (tp_D E) tp_cl (fr) H := hP
              have hD : va_D A (fr) := hD
              refine lv_iconst (v := 1) hx hb d_C_numberOf_122 (by decide) ?_
              refine lv_ishl hx hb d_C_numberOf_123 ?_
              refine lv_iload_n hx hb d_C_numberOf_124 rfl (lv_at hl 1 rfl) ?_
              refine lv_bipush (v := 20) hx hb d_C_numberOf_125 (by decide) ?_
              refine lv_iconst (v := 1) hx hb d_C_numberOf_127 (by decide) ?_
              refine tp_ci (tp_rS (As := [.int xw, .int 20, .int 1]) (rest := [.int (((xw.toUInt32 >>> (Int32.toUInt32 21 &&& Int32.toUInt32 31)).toInt32 &&& 1023) <<< (1 &&& 31 : Int32))]) ⟨hx, hb, hml, hown, htg⟩ (cs_C_bits_7 l E fr _ xw ) (⟨callB_of 3 htg (tp_good0 kc_C_bits) rfl rfl rfl (htg _ ki_C) (htg _ kl_C_24) ⟨by decide, by decide, by decide +kernel⟩ ⟨Nat.le_of_ble_eq_true rfl, Nat.le_of_ble_eq_true rfl⟩, htg _ ks_C_bits⟩) hK hP hD hS hA rfl hl.1 rfl (Nat.le_of_ble_eq_true rfl) d_C_numberOf_128 ⟨Nat.le_of_ble_eq_true rfl, Nat.le_of_ble_eq_true rfl⟩) hD hS hA (fun r u H locs hw hP hD hS => ?_)
              subst r
              have hP : va_P (tp_D E) tp_cl (fr) H := hP
              have hD : va_D A (fr) := hD
              refine lv_bipush (v := 11) hx hb d_C_numberOf_131 (by decide) ?_
              refine lv_ishl hx hb d_C_numberOf_133 ?_
              refine lv_ior hx hb d_C_numberOf_134 ?_
              refine lv_iload_n hx hb d_C_numberOf_135 rfl (lv_at hl 1 rfl) ?_
              refine lv_bipush (v := 12) hx hb d_C_numberOf_136 (by decide) ?_
              refine lv_bipush (v := 8) hx hb d_C_numberOf_138 (by decide) ?_
              refine tp_ci (tp_rS (As := [.int xw, .int 12, .int 8]) (rest := [.int ((((xw.toUInt32 >>> (Int32.toUInt32 21 &&& Int32.toUInt32 31)).toInt32 &&& 1023) <<< (1 &&& 31 : Int32)) ||| (((xw.toUInt32 >>> (Int32.toUInt32 20 &&& Int32.toUInt32 31)).toInt32 &&& 1) <<< (11 &&& 31 : Int32)))]) ⟨hx, hb, hml, hown, htg⟩ (cs_C_bits_8 l E fr _ xw ) (⟨callB_of 3 htg (tp_good0 kc_C_bits) rfl rfl rfl (htg _ ki_C) (htg _ kl_C_24) ⟨by decide, by decide, by decide +kernel⟩ ⟨Nat.le_of_ble_eq_true rfl, Nat.le_of_ble_eq_true rfl⟩, htg _ ks_C_bits⟩) hK hP hD hS hA rfl hl.1 rfl (Nat.le_of_ble_eq_true rfl) d_C_numberOf_140 ⟨Nat.le_of_ble_eq_true rfl, Nat.le_of_ble_eq_true rfl⟩) hD hS hA (fun r u H locs hw hP hD hS => ?_)
              subst r
              have hP : va_P (tp_D E) tp_cl (fr) H := hP
              have hD : va_D A (fr) := hD
              refine lv_bipush (v := 12) hx hb d_C_numberOf_143 (by decide) ?_
              refine lv_ishl hx hb d_C_numberOf_145 ?_
              refine lv_ior hx hb d_C_numberOf_146 ?_
              refine lv_iload_n hx hb d_C_numberOf_147 rfl (lv_at hl 1 rfl) ?_
              refine lv_bipush (v := 31) hx hb d_C_numberOf_148 (by decide) ?_
              refine lv_ishr hx hb d_C_numberOf_150 ?_
              refine lv_bipush (v := 20) hx hb d_C_numberOf_151 (by decide) ?_
              refine lv_ishl hx hb d_C_numberOf_153 ?_
              refine lv_ior hx hb d_C_numberOf_154 ?_
              exact W.iret (v := ((((((xw.toUInt32 >>> (Int32.toUInt32 21 &&& Int32.toUInt32 31)).toInt32 &&& 1023) <<< (1 &&& 31 : Int32)) ||| (((xw.toUInt32 >>> (Int32.toUInt32 20 &&& Int32.toUInt32 31)).toInt32 &&& 1) <<< (11 &&& 31 : Int32))) ||| (((xw.toUInt32 >>> (Int32.toUInt32 12 &&& Int32.toUInt32 31)).toInt32 &&& 255) <<< (12 &&& 31 : Int32))) ||| ((xw >>> (31 &&& 31 : Int32)) <<< (20 &&& 31 : Int32)))) hx hb hr (fun t ht hW => ⟨⟨_, (), rfl, (by unfold tp_num; rw [if_neg h1, if_neg h2, if_neg h3, if_neg h4, if_neg h5, if_pos h6]), by rw [ht]; exact hP, hD⟩, hS.F ht⟩) hS.2.2 d_C_numberOf_155
            · refine lv_tableOut (tgt := 156) hx hb d_C_numberOf_1 (by have g12 := tp_neI (v := 2) (n := 2) rfl h1; have g13 := tp_neI (v := 3) (n := 3) rfl h2; have g14 := tp_neI (v := 4) (n := 4) rfl h3; have g15 := tp_neI (v := 5) (n := 5) rfl h4; have g16 := tp_neI (v := 6) (n := 6) rfl h5; have g17 := tp_neI (v := 7) (n := 7) rfl h6; omega) (by decide) ?_
              refine lv_iconst (v := 0) hx hb d_C_numberOf_156 (by decide) ?_
              exact W.iret (v := 0) hx hb hr (fun t ht hW => ⟨⟨_, (), rfl, (by unfold tp_num; rw [if_neg h1, if_neg h2, if_neg h3, if_neg h4, if_neg h5, if_neg h6]), by rw [ht]; exact hP, hD⟩, hS.F ht⟩) hS.2.2 d_C_numberOf_157
set_option maxHeartbeats 4000000 in
set_option maxRecDepth 100000 in
theorem a_C_operationOf (l : Launch) (E : tp_Env) (fr : va_W) (sz : Nat) (xw : Int32)  : Met l y_C_operationOf w_C_operationOf ({ frames := 1, cells := 0, slots := 0, locals := 20 }) (va_Pc [.int xw] (tp_in E fr sz)) (va_Qr (fun (u : Nat) => tp_hit xw u) (fun u q t => q = (fun (u : Nat) => tp_ad E u) u ∧ tp_out E (va_A fr sz) fr t) (va_A fr sz)) 0 0 (va_A fr sz) := by
  refine Met.ofW (cc := b_C_operationOf) (maxL := 3) (ret := (some (.object "TwoPass$Operation"))) (by decide) rfl ?_
  intro p e s m args below meth c s₁ B hml hv
  obtain ⟨rfl, hsz, hP, hK, hD0⟩ := hv
  have hx := B.exec
  have hb := B.bytes
  have hr := B.returns
  have htg : ∀ w ∈ tp_G, w.before ([.int xw] : List Value).toArray s = true := fun w h => atoms_spec (ws := w_C_operationOf) B.pre w (List.mem_cons_of_mem _ h)
  have hown : s.vm.findClass "TwoPass$Code" = some m.cls := findClass_of_methodNamed B.named
  have hlocks := B.notSynchronized
  subst hsz
  have hD := hD0.self (sz := s.heap.size)
  generalize hAe : va_A fr s.heap.size = A at hD hK ⊢
  have hA : ∀ q : Nat, s.heap.size ≤ q → A q := fun q h => by rw [← hAe]; exact Or.inr h
  have hS : va_S A s.heap s.heap [] := va_S.rf
  have hl := lv_entry ([.int xw]) (n := 3) (Nat.le_of_ble_eq_true rfl)
  rw [lg_entry_eq]
  generalize (lg_sl ([.int xw]) ++ List.replicate (3 - (lg_sl ([.int xw])).length) Slot.unset).toArray = ls at hl ⊢
  have hl : lv_has ls 3 [(0, .int xw)] := hl
  refine lv_iconst (v := 0) hx hb d_C_operationOf_0 (by decide) ?_
  refine lv_istore_n (lv' := [(1, .int 0), (0, .int xw)]) hx hb d_C_operationOf_1 rfl hl (by decide) rfl (fun ls hl => ?_)
  refine tp_loop (fun j ls H locs (k : Int32) => ((0 ≤ k.toInt) ∧ (k.toInt + (j : Int) = 47) ∧ (∀ i : Nat, i < k.toInt.toNat → ¬ tp_mt xw i)) ∧ lv_has ls 3 [(1, .int k), (0, .int xw)] ∧ va_P (tp_D E) tp_cl fr H ∧ va_D A fr ∧ va_S A s.heap H locs) ?_ _ 0 ⟨⟨by decide, show (0 : Int32).toInt + ((47 : Nat) : Int) = 47 from by decide, fun i z => absurd z (by rw [Int32.toInt_zero]; omega)⟩, tp_lvI hl [0, 1] rfl, hP, hD, hS⟩
  intro j k ls H locs hI ih
  obtain ⟨⟨hk0, hj, hno⟩, hl, hP, hD, hS⟩ := hI
  refine lv_iload_n hx hb d_C_operationOf_2 rfl (lv_at hl 0 rfl) ?_
  refine va_getsN (v := .ref (tp_ad E 101)) hx hb hK.opsZ hS hown (hK.2.2.2.1.use kf_C_28) (fun _ h => h) d_C_operationOf_3 ?_
  refine va_tlen (v := 47) hx hb hK.opsT hS (by decide) d_C_operationOf_6 ?_
  by_cases h1 : 47 ≤ k
  · refine lv_icmp_ge (tgt := 52) hx hb d_C_operationOf_7 (by decide) (fun _ => ?_) (fun h => absurd h1 h)
    refine va_gets (v := .ref (tp_ad E 0)) hx hb (hK.opZ (i := 0) (by decide)) hS hown (htg _ kl_C_36) (fun _ h => h) d_C_operationOf_52 ?_
    exact W.aret (v := .ref (tp_ad E 0)) hx hb hr (Or.inl ⟨_, rfl⟩) (Or.inr ⟨_, rfl⟩) (fun t ht hW => ⟨⟨0, _, rfl, Or.inl ⟨rfl, tp_allmt hno h1⟩, rfl, by rw [ht]; exact hP, hD⟩, hS.F ht⟩) hS.2.2 d_C_operationOf_55
  · refine lv_icmp_ge (tgt := 52) hx hb d_C_operationOf_7 (by decide) (fun h => absurd h h1) (fun _ => ?_)
    refine va_getsN (v := .ref (tp_ad E 101)) hx hb hK.opsZ hS hown (hK.2.2.2.1.use kf_C_28) (fun _ h => h) d_C_operationOf_10 ?_
    refine lv_iload_n hx hb d_C_operationOf_13 rfl (lv_at hl 0 rfl) ?_
    refine vb_tq (v := .ref (tp_ad E k.toNatClampNeg)) hx hb hK.opsT hS (tp_k47 hk0 h1) rfl d_C_operationOf_14 ?_
    refine vk_getf (v := .int (tp_lay.getD k.toNatClampNeg 0)) hx hb (hK.lay (i := k.toNatClampNeg) (tp_n47 hk0 h1)) hS hown (htg _ kl_C_15) (fun _ h => h) d_C_operationOf_15 ?_
    refine tp_ci (tp_rS (As := [.int (tp_lay.getD k.toNatClampNeg 0)]) (rest := []) ⟨hx, hb, hml, hown, htg⟩ (a_C_fixedBits l E fr _ (tp_lay.getD k.toNatClampNeg 0) ) (⟨callB_of 1 htg (tp_good0 kc_C_fixedBits) rfl rfl rfl (htg _ ki_C) (htg _ kl_C_32) ⟨by decide, by decide, by decide +kernel⟩ ⟨Nat.le_of_ble_eq_true rfl, Nat.le_of_ble_eq_true rfl⟩, htg _ ks_C_fixedBits⟩) hK hP hD hS hA rfl hl.1 rfl (Nat.le_of_ble_eq_true rfl) d_C_operationOf_18 ⟨Nat.le_of_ble_eq_true rfl, Nat.le_of_ble_eq_true rfl⟩) hD hS hA (fun r u H locs hw hP hD hS => ?_)
    subst r
    have hP : va_P (tp_D E) tp_cl (fr) H := hP
    have hD : va_D A (fr) := hD
    refine lv_istore_n (lv' := [(2, .int (tp_fix (tp_lay.getD k.toNatClampNeg 0))), (1, .int k), (0, .int xw)]) hx hb d_C_operationOf_21 rfl hl (by decide) rfl (fun ls hl => ?_)
    refine lv_iload_n hx hb d_C_operationOf_22 rfl (lv_at hl 0 rfl) ?_
    by_cases h2 : (tp_fix (tp_lay.getD k.toNatClampNeg 0)) = 0
    · refine lv_if_eq (tgt := 46) hx hb d_C_operationOf_23 (by decide) (fun _ => ?_) (fun h => absurd h2 h)
      refine lv_iinc (k := 1) (v := (k + 1)) (lv' := [(1, .int (k + 1)), (2, .int (tp_fix (tp_lay.getD k.toNatClampNeg 0))), (0, .int xw)]) hx hb d_C_operationOf_46 hl rfl rfl (by decide) rfl (fun ls hl => ?_)
      refine lv_goto (tgt := 2) hx hb d_C_operationOf_49 (by decide) ?_
      have hkn := tp_l47 hk0 h1
      have hk1 : (k + 1).toInt = k.toInt + 1 := tp_inc (by omega)
      exact ih (j - 1) (k + 1) ls _ _ (by omega) ⟨⟨by omega, by omega, tp_nomt hno hk0 hk1 (fun z => z.1 h2)⟩, tp_lvI hl [0, 2] rfl, hP, hD, hS⟩
    · refine lv_if_eq (tgt := 46) hx hb d_C_operationOf_23 (by decide) (fun h => absurd h h2) (fun _ => ?_)
      refine lv_iload_n hx hb d_C_operationOf_26 rfl (lv_at hl 2 rfl) ?_
      refine lv_iload_n hx hb d_C_operationOf_27 rfl (lv_at hl 0 rfl) ?_
      refine lv_iand hx hb d_C_operationOf_28 ?_
      refine va_getsN (v := .ref (tp_ad E 101)) hx hb hK.opsZ hS hown (hK.2.2.2.1.use kf_C_28) (fun _ h => h) d_C_operationOf_29 ?_
      refine lv_iload_n hx hb d_C_operationOf_32 rfl (lv_at hl 1 rfl) ?_
      refine vb_tq (v := .ref (tp_ad E k.toNatClampNeg)) hx hb hK.opsT hS (tp_k47 hk0 h1) rfl d_C_operationOf_33 ?_
      refine vk_getf (v := .int (tp_cod.getD k.toNatClampNeg 0)) hx hb (hK.cod (i := k.toNatClampNeg) (tp_n47 hk0 h1)) hS hown (htg _ kl_C_9) (fun _ h => h) d_C_operationOf_34 ?_
      by_cases h3 : (xw &&& (tp_fix (tp_lay.getD k.toNatClampNeg 0))) = (tp_cod.getD k.toNatClampNeg 0)
      · refine lv_icmp_ne (tgt := 46) hx hb d_C_operationOf_37 (by decide) (fun h => absurd h3 h) (fun _ => ?_)
        refine va_getsN (v := .ref (tp_ad E 101)) hx hb hK.opsZ hS hown (hK.2.2.2.1.use kf_C_28) (fun _ h => h) d_C_operationOf_40 ?_
        refine lv_iload_n hx hb d_C_operationOf_43 rfl (lv_at hl 1 rfl) ?_
        refine vb_tq (v := .ref (tp_ad E k.toNatClampNeg)) hx hb hK.opsT hS (tp_k47 hk0 h1) rfl d_C_operationOf_44 ?_
        exact W.aret (v := .ref (tp_ad E k.toNatClampNeg)) hx hb hr (Or.inl ⟨_, rfl⟩) (Or.inr ⟨_, rfl⟩) (fun t ht hW => ⟨⟨k.toNatClampNeg, _, rfl, Or.inr ⟨tp_n47 hk0 h1, ⟨h2, h3⟩, hno⟩, rfl, by rw [ht]; exact hP, hD⟩, hS.F ht⟩) hS.2.2 d_C_operationOf_45
      · refine lv_icmp_ne (tgt := 46) hx hb d_C_operationOf_37 (by decide) (fun _ => ?_) (fun h => absurd h h3)
        refine lv_iinc (k := 1) (v := (k + 1)) (lv' := [(1, .int (k + 1)), (2, .int (tp_fix (tp_lay.getD k.toNatClampNeg 0))), (0, .int xw)]) hx hb d_C_operationOf_46 hl rfl rfl (by decide) rfl (fun ls hl => ?_)
        refine lv_goto (tgt := 2) hx hb d_C_operationOf_49 (by decide) ?_
        have hkn := tp_l47 hk0 h1
        have hk1 : (k + 1).toInt = k.toInt + 1 := tp_inc (by omega)
        exact ih (j - 1) (k + 1) ls _ _ (by omega) ⟨⟨by omega, by omega, tp_nomt hno hk0 hk1 (fun z => h3 z.2)⟩, tp_lvI hl [0, 2] rfl, hP, hD, hS⟩
set_option maxHeartbeats 4000000 in
set_option maxRecDepth 100000 in
theorem a_T_writeRegister (l : Launch) (E : tp_Env) (fr : va_W) (sz : Nat) (aT aY aS : Nat) (xl xg : Int32) (aB ab : Nat) (xm xc : Int32) (nb : Nat) (fb : Nat → Int32) (xr : Int32) (hn : nb = 16 ∨ nb = 34) (hf : tp_fit fb) (hc : 0 ≤ xc.toInt ∧ xc.toInt + 1 + (tp_dl xr : Int) ≤ 34) : Met l y_T_writeRegister w_T_writeRegister ({ frames := 6, cells := 2, slots := 68, locals := 188 }) (va_Pc [.ref aT, .int xr] (tp_in E ((aT, .inr (0, [.ref aY, .ref aS, .ref aB, .int xl, .int xg])) :: (aB, .inr (6, [.ref ab, .int 0, .int xm, .int xc])) :: (ab, .inl (tp_ty E 3, nb, .inl fb)) :: fr) sz)) (va_Qv (fun (u : Nat × Nat × (Nat → Int32) × Int32) => (u.2.1 = 16 ∨ u.2.1 = 34) ∧ tp_fit u.2.2.1 ∧ u.2.2.2.toInt = xc.toInt + 1 + (tp_dl xr : Int) ∧ u.2.2.2.toInt ≤ (u.2.1 : Int)) (fun u t => tp_out E (va_A ((aT, .inr (0, [.ref aY, .ref aS, .ref aB, .int xl, .int xg])) :: (aB, .inr (6, [.ref ab, .int 0, .int xm, .int xc])) :: (ab, .inl (tp_ty E 3, nb, .inl fb)) :: fr) sz) ((aT, .inr (0, [.ref aY, .ref aS, .ref aB, .int xl, .int xg])) :: (aB, .inr (6, [.ref u.1, .int 0, .int xm, .int u.2.2.2])) :: (u.1, .inl (tp_ty E 3, u.2.1, .inl u.2.2.1)) :: fr) t) (va_A ((aT, .inr (0, [.ref aY, .ref aS, .ref aB, .int xl, .int xg])) :: (aB, .inr (6, [.ref ab, .int 0, .int xm, .int xc])) :: (ab, .inl (tp_ty E 3, nb, .inl fb)) :: fr) sz)) 2 68 (va_A ((aT, .inr (0, [.ref aY, .ref aS, .ref aB, .int xl, .int xg])) :: (aB, .inr (6, [.ref ab, .int 0, .int xm, .int xc])) :: (ab, .inl (tp_ty E 3, nb, .inl fb)) :: fr) sz) := by
  refine Met.ofW (cc := b_T_writeRegister) (maxL := 2) (ret := none) (by decide) rfl ?_
  intro p e s m args below meth c s₁ B hml hv
  obtain ⟨rfl, hsz, hP, hK, hD0⟩ := hv
  have hx := B.exec
  have hb := B.bytes
  have hr := B.returns
  have htg : ∀ w ∈ tp_G, w.before ([.ref aT, .int xr] : List Value).toArray s = true := fun w h => atoms_spec (ws := w_T_writeRegister) B.pre w (List.mem_cons_of_mem _ h)
  have hown : s.vm.findClass "TwoPass" = some m.cls := findClass_of_methodNamed B.named
  have hlocks := B.notSynchronized
  subst hsz
  have hD := hD0.self (sz := s.heap.size)
  generalize hAe : va_A ((aT, .inr (0, [.ref aY, .ref aS, .ref aB, .int xl, .int xg])) :: (aB, .inr (6, [.ref ab, .int 0, .int xm, .int xc])) :: (ab, .inl (tp_ty E 3, nb, .inl fb)) :: fr) s.heap.size = A at hD hK ⊢
  have hA : ∀ q : Nat, s.heap.size ≤ q → A q := fun q h => by rw [← hAe]; exact Or.inr h
  have hS : va_S A s.heap s.heap [] := va_S.rf
  have hl := lv_entry ([.ref aT, .int xr]) (n := 2) (Nat.le_of_ble_eq_true rfl)
  rw [lg_entry_eq]
  generalize (lg_sl ([.ref aT, .int xr]) ++ List.replicate (2 - (lg_sl ([.ref aT, .int xr])).length) Slot.unset).toArray = ls at hl ⊢
  have hl : lv_has ls 2 [(0, .ref aT), (1, .int xr)] := hl
  refine lv_aload_n hx hb d_T_writeRegister_0 rfl (lv_at hl 0 rfl) ?_
  refine va_get (D := tp_D E) (ci := 0) (v := .ref aB) (C := qR_T) (T := qF_T) (N := 5) hx hb htg qi_T hown hK.1 hP 0 rfl rfl 2 (by decide) (htg _ kl_T_26) (fun _ h => h) rfl d_T_writeRegister_1 ?_
  refine lv_bipush (v := 120) hx hb d_T_writeRegister_4 (by decide) ?_
  have hP : va_P (tp_D E) tp_cl ((ab, .inl (tp_ty E 3, nb, .inl fb)) :: (aT, .inr (0, [.ref aY, .ref aS, .ref aB, .int xl, .int xg])) :: (aB, .inr (6, [.ref ab, .int 0, .int xm, .int xc])) :: fr) _ := tp_mvP 2 rfl hP
  have hD : va_D A ((ab, .inl (tp_ty E 3, nb, .inl fb)) :: (aT, .inr (0, [.ref aY, .ref aS, .ref aB, .int xl, .int xg])) :: (aB, .inr (6, [.ref ab, .int 0, .int xm, .int xc])) :: fr) := tp_mvD 2 rfl hD
  have hP : va_P (tp_D E) tp_cl ((aB, .inr (6, [.ref ab, .int 0, .int xm, .int xc])) :: (ab, .inl (tp_ty E 3, nb, .inl fb)) :: (aT, .inr (0, [.ref aY, .ref aS, .ref aB, .int xl, .int xg])) :: fr) _ := tp_mvP 2 rfl hP
  have hD : va_D A ((aB, .inr (6, [.ref ab, .int 0, .int xm, .int xc])) :: (ab, .inl (tp_ty E 3, nb, .inl fb)) :: (aT, .inr (0, [.ref aY, .ref aS, .ref aB, .int xl, .int xg])) :: fr) := tp_mvD 2 rfl hD
  refine tp_cr (tp_rV (As := [.int 120]) (rest := []) ⟨hx, hb, hml, hown, htg⟩ (s_SB_appC l E ((aT, .inr (0, [.ref aY, .ref aS, .ref aB, .int xl, .int xg])) :: fr) _ aB ab xm xc nb fb 120 hn hf (tp_wr1 hc) (by decide)) (⟨callB_of 1 htg (tp_good0 kc_SB_append_0) rfl rfl rfl (htg _ ki_SB) (htg _ kl_T_154) ⟨by decide, by decide, by decide +kernel⟩ ⟨Nat.le_of_ble_eq_true rfl, Nat.le_of_ble_eq_true rfl⟩, htg _ km_SB_append_0, htg _ kv_SB_SB_append_0⟩) (va_recv (ci := 6) (q0 := 0) hK.1 hP rfl rfl) hK hP hD hS hA rfl hl.1 rfl (Nat.le_of_ble_eq_true rfl) d_T_writeRegister_6 ⟨Nat.le_of_ble_eq_true rfl, Nat.le_of_ble_eq_true rfl⟩) hD hS hA (fun u H locs hw hP hD hS => ?_)
  obtain ⟨eq1, nq1, fq1⟩ := u
  obtain ⟨hnq1, hfq1, hqq1⟩ : (nq1 = 16 ∨ nq1 = 34) ∧ tp_fit fq1 ∧ (xc + 1).toInt ≤ (nq1 : Int) := hw
  have hP : va_P (tp_D E) tp_cl ((aB, .inr (6, [.ref eq1, .int 0, .int xm, .int (xc + 1)])) :: (eq1, .inl (tp_ty E 3, nq1, .inl fq1)) :: (aT, .inr (0, [.ref aY, .ref aS, .ref aB, .int xl, .int xg])) :: fr) H := hP
  have hD : va_D A ((aB, .inr (6, [.ref eq1, .int 0, .int xm, .int (xc + 1)])) :: (eq1, .inl (tp_ty E 3, nq1, .inl fq1)) :: (aT, .inr (0, [.ref aY, .ref aS, .ref aB, .int xl, .int xg])) :: fr) := hD
  refine lv_pop hx hb d_T_writeRegister_9 rfl ?_
  refine lv_aload_n hx hb d_T_writeRegister_10 rfl (lv_at hl 0 rfl) ?_
  refine va_get (D := tp_D E) (ci := 0) (v := .ref aB) (C := qR_T) (T := qF_T) (N := 5) hx hb htg qi_T hown hK.1 hP 2 rfl rfl 2 (by decide) (htg _ kl_T_26) (fun _ h => h) rfl d_T_writeRegister_11 ?_
  refine lv_iload_n hx hb d_T_writeRegister_14 rfl (lv_at hl 1 rfl) ?_
  refine tp_cr (tp_rV (As := [.int xr]) (rest := []) ⟨hx, hb, hml, hown, htg⟩ (a_SB_appI l E ((aT, .inr (0, [.ref aY, .ref aS, .ref aB, .int xl, .int xg])) :: fr) _ aB eq1 xm (xc + 1) nq1 fq1 xr hnq1 hfq1 (tp_wr2 hc)) (⟨callB_of 1 htg (tp_good0 kc_SB_append_1) rfl rfl rfl (htg _ ki_SB) (htg _ kl_T_238) ⟨by decide, by decide, by decide +kernel⟩ ⟨Nat.le_of_ble_eq_true rfl, Nat.le_of_ble_eq_true rfl⟩, htg _ km_SB_append_1, htg _ kv_SB_SB_append_1⟩) (va_recv (ci := 6) (q0 := 0) hK.1 hP rfl rfl) hK hP hD hS hA rfl hl.1 rfl (Nat.le_of_ble_eq_true rfl) d_T_writeRegister_15 ⟨Nat.le_of_ble_eq_true rfl, Nat.le_of_ble_eq_true rfl⟩) hD hS hA (fun u H locs hw hP hD hS => ?_)
  obtain ⟨eq2, nq2, fq2, cq2⟩ := u
  obtain ⟨hnq2, hfq2, hcq2, hqq2⟩ : (nq2 = 16 ∨ nq2 = 34) ∧ tp_fit fq2 ∧ cq2.toInt = (xc + 1).toInt + (tp_dl xr : Int) ∧ cq2.toInt ≤ (nq2 : Int) := hw
  have hP : va_P (tp_D E) tp_cl ((aB, .inr (6, [.ref eq2, .int 0, .int xm, .int cq2])) :: (eq2, .inl (tp_ty E 3, nq2, .inl fq2)) :: (aT, .inr (0, [.ref aY, .ref aS, .ref aB, .int xl, .int xg])) :: fr) H := hP
  have hD : va_D A ((aB, .inr (6, [.ref eq2, .int 0, .int xm, .int cq2])) :: (eq2, .inl (tp_ty E 3, nq2, .inl fq2)) :: (aT, .inr (0, [.ref aY, .ref aS, .ref aB, .int xl, .int xg])) :: fr) := hD
  refine lv_pop hx hb d_T_writeRegister_18 rfl ?_
  have hP : va_P (tp_D E) tp_cl ((eq2, .inl (tp_ty E 3, nq2, .inl fq2)) :: (aB, .inr (6, [.ref eq2, .int 0, .int xm, .int cq2])) :: (aT, .inr (0, [.ref aY, .ref aS, .ref aB, .int xl, .int xg])) :: fr) _ := tp_mvP 1 rfl hP
  have hD : va_D A ((eq2, .inl (tp_ty E 3, nq2, .inl fq2)) :: (aB, .inr (6, [.ref eq2, .int 0, .int xm, .int cq2])) :: (aT, .inr (0, [.ref aY, .ref aS, .ref aB, .int xl, .int xg])) :: fr) := tp_mvD 1 rfl hD
  have hP : va_P (tp_D E) tp_cl ((aB, .inr (6, [.ref eq2, .int 0, .int xm, .int cq2])) :: (eq2, .inl (tp_ty E 3, nq2, .inl fq2)) :: (aT, .inr (0, [.ref aY, .ref aS, .ref aB, .int xl, .int xg])) :: fr) _ := tp_mvP 1 rfl hP
  have hD : va_D A ((aB, .inr (6, [.ref eq2, .int 0, .int xm, .int cq2])) :: (eq2, .inl (tp_ty E 3, nq2, .inl fq2)) :: (aT, .inr (0, [.ref aY, .ref aS, .ref aB, .int xl, .int xg])) :: fr) := tp_mvD 1 rfl hD
  have hP : va_P (tp_D E) tp_cl ((aT, .inr (0, [.ref aY, .ref aS, .ref aB, .int xl, .int xg])) :: (aB, .inr (6, [.ref eq2, .int 0, .int xm, .int cq2])) :: (eq2, .inl (tp_ty E 3, nq2, .inl fq2)) :: fr) _ := tp_mvP 2 rfl hP
  have hD : va_D A ((aT, .inr (0, [.ref aY, .ref aS, .ref aB, .int xl, .int xg])) :: (aB, .inr (6, [.ref eq2, .int 0, .int xm, .int cq2])) :: (eq2, .inl (tp_ty E 3, nq2, .inl fq2)) :: fr) := tp_mvD 2 rfl hD
  exact W.vret hx hb hr (fun t ht hW => ⟨⟨(eq2, nq2, fq2, cq2), rfl, ⟨hnq2, hfq2, hcq2.trans (tp_wr3 hc), hqq2⟩, by rw [ht]; exact hP, hD⟩, hS.F ht⟩) hS.2.2 d_T_writeRegister_19
set_option maxHeartbeats 400000 in
set_option maxRecDepth 100000 in
theorem cs_C_registerAt_1 (l : Launch) (E : tp_Env) (fr : va_W) (sz : Nat) (x1 : Int32)  : Met l y_C_registerAt w_C_registerAt ({ frames := 1, cells := 0, slots := 0, locals := 22 }) (va_Pc [.int x1, .int 7] (tp_in E fr sz)) (va_Qi (fun r (_ : Unit) => r = ((x1.toUInt32 >>> (Int32.toUInt32 7 &&& Int32.toUInt32 31)).toInt32 &&& 31)) (fun _ t => tp_out E (va_A fr sz) fr t) (va_A fr sz)) 0 0 (va_A fr sz) := by
  refine Met.ofW (cc := b_C_registerAt) (maxL := 2) (ret := (some .int)) (by decide) rfl ?_
  intro p e s m args below meth c s₁ B hml hv
  obtain ⟨rfl, hsz, hP, hK, hD0⟩ := hv
  have hx := B.exec
  have hb := B.bytes
  have hr := B.returns
  have htg : ∀ w ∈ tp_G, w.before ([.int x1, .int 7] : List Value).toArray s = true := fun w h => atoms_spec (ws := w_C_registerAt) B.pre w (List.mem_cons_of_mem _ h)
  have hown : s.vm.findClass "TwoPass$Code" = some m.cls := findClass_of_methodNamed B.named
  have hlocks := B.notSynchronized
  subst hsz
  have hD := hD0.self (sz := s.heap.size)
  generalize hAe : va_A fr s.heap.size = A at hD hK ⊢
  have hA : ∀ q : Nat, s.heap.size ≤ q → A q := fun q h => by rw [← hAe]; exact Or.inr h
  have hS : va_S A s.heap s.heap [] := va_S.rf
  have hl := lv_entry ([.int x1, .int 7]) (n := 2) (Nat.le_of_ble_eq_true rfl)
  rw [lg_entry_eq]
  generalize (lg_sl ([.int x1, .int 7]) ++ List.replicate (2 - (lg_sl ([.int x1, .int 7])).length) Slot.unset).toArray = ls at hl ⊢
  have hl : lv_has ls 2 [(0, .int x1), (1, .int 7)] := hl
  refine lv_iload_n hx hb d_C_registerAt_0 rfl (lv_at hl 0 rfl) ?_
  refine lv_iload_n hx hb d_C_registerAt_1 rfl (lv_at hl 1 rfl) ?_
  refine lv_iconst (v := 5) hx hb d_C_registerAt_2 (by decide) ?_
  refine tp_ci (tp_rS (As := [.int x1, .int 7, .int 5]) (rest := []) ⟨hx, hb, hml, hown, htg⟩ (cs_C_bits_2 l E fr _ x1 ) (⟨callB_of 3 htg (tp_good0 kc_C_bits) rfl rfl rfl (htg _ ki_C) (htg _ kl_C_24) ⟨by decide, by decide, by decide +kernel⟩ ⟨Nat.le_of_ble_eq_true rfl, Nat.le_of_ble_eq_true rfl⟩, htg _ ks_C_bits⟩) hK hP hD hS hA rfl hl.1 rfl (Nat.le_of_ble_eq_true rfl) d_C_registerAt_3 ⟨Nat.le_of_ble_eq_true rfl, Nat.le_of_ble_eq_true rfl⟩) hD hS hA (fun r u H locs hw hP hD hS => ?_)
  subst r
  have hP : va_P (tp_D E) tp_cl (fr) H := hP
  have hD : va_D A (fr) := hD
  exact W.iret (v := ((x1.toUInt32 >>> (Int32.toUInt32 7 &&& Int32.toUInt32 31)).toInt32 &&& 31)) hx hb hr (fun t ht hW => ⟨⟨_, (), rfl, rfl, by rw [ht]; exact hP, hD⟩, hS.F ht⟩) hS.2.2 d_C_registerAt_6
set_option maxHeartbeats 400000 in
set_option maxRecDepth 100000 in
theorem cs_C_bits_9 (l : Launch) (E : tp_Env) (fr : va_W) (sz : Nat) (x1 : Int32)  : Met l y_C_bits w_C_bits ({ frames := 0, cells := 0, slots := 0, locals := 0 }) (va_Pc [.int x1, .int 15, .int 5] (tp_in E fr sz)) (va_Qi (fun r (_ : Unit) => r = ((x1.toUInt32 >>> (Int32.toUInt32 15 &&& Int32.toUInt32 31)).toInt32 &&& 31)) (fun _ t => tp_out E (va_A fr sz) fr t) (va_A fr sz)) 0 0 (va_A fr sz) := by
  refine Met.ofW (cc := b_C_bits) (maxL := 3) (ret := (some .int)) (by decide) rfl ?_
  intro p e s m args below meth c s₁ B hml hv
  obtain ⟨rfl, hsz, hP, hK, hD0⟩ := hv
  have hx := B.exec
  have hb := B.bytes
  have hr := B.returns
  have htg : ∀ w ∈ tp_G, w.before ([.int x1, .int 15, .int 5] : List Value).toArray s = true := fun w h => atoms_spec (ws := w_C_bits) B.pre w (List.mem_cons_of_mem _ h)
  have hown : s.vm.findClass "TwoPass$Code" = some m.cls := findClass_of_methodNamed B.named
  have hlocks := B.notSynchronized
  subst hsz
  have hD := hD0.self (sz := s.heap.size)
  generalize hAe : va_A fr s.heap.size = A at hD hK ⊢
  have hA : ∀ q : Nat, s.heap.size ≤ q → A q := fun q h => by rw [← hAe]; exact Or.inr h
  have hS : va_S A s.heap s.heap [] := va_S.rf
  have hl := lv_entry ([.int x1, .int 15, .int 5]) (n := 3) (Nat.le_of_ble_eq_true rfl)
  rw [lg_entry_eq]
  generalize (lg_sl ([.int x1, .int 15, .int 5]) ++ List.replicate (3 - (lg_sl ([.int x1, .int 15, .int 5])).length) Slot.unset).toArray = ls at hl ⊢
  have hl : lv_has ls 3 [(0, .int x1), (1, .int 15), (2, .int 5)] := hl
  refine lv_iload_n hx hb d_C_bits_0 rfl (lv_at hl 0 rfl) ?_
  refine lv_iload_n hx hb d_C_bits_1 rfl (lv_at hl 1 rfl) ?_
  refine lv_iushr (v := (x1.toUInt32 >>> (Int32.toUInt32 15 &&& Int32.toUInt32 31)).toInt32) hx hb d_C_bits_2 rfl ?_
  refine lv_iconst (v := 1) hx hb d_C_bits_3 (by decide) ?_
  refine lv_iload_n hx hb d_C_bits_4 rfl (lv_at hl 2 rfl) ?_
  refine lv_ishl hx hb d_C_bits_5 ?_
  refine tp_topi (v := 32) (by decide) ?_
  refine lv_iconst (v := 1) hx hb d_C_bits_6 (by decide) ?_
  refine lv_isub hx hb d_C_bits_7 ?_
  refine tp_topi (v := 31) (by decide) ?_
  refine lv_iand hx hb d_C_bits_8 ?_
  exact W.iret (v := ((x1.toUInt32 >>> (Int32.toUInt32 15 &&& Int32.toUInt32 31)).toInt32 &&& 31)) hx hb hr (fun t ht hW => ⟨⟨_, (), rfl, rfl, by rw [ht]; exact hP, hD⟩, hS.F ht⟩) hS.2.2 d_C_bits_9
set_option maxHeartbeats 400000 in
set_option maxRecDepth 100000 in
theorem cs_C_registerAt_2 (l : Launch) (E : tp_Env) (fr : va_W) (sz : Nat) (x1 : Int32)  : Met l y_C_registerAt w_C_registerAt ({ frames := 1, cells := 0, slots := 0, locals := 22 }) (va_Pc [.int x1, .int 15] (tp_in E fr sz)) (va_Qi (fun r (_ : Unit) => r = ((x1.toUInt32 >>> (Int32.toUInt32 15 &&& Int32.toUInt32 31)).toInt32 &&& 31)) (fun _ t => tp_out E (va_A fr sz) fr t) (va_A fr sz)) 0 0 (va_A fr sz) := by
  refine Met.ofW (cc := b_C_registerAt) (maxL := 2) (ret := (some .int)) (by decide) rfl ?_
  intro p e s m args below meth c s₁ B hml hv
  obtain ⟨rfl, hsz, hP, hK, hD0⟩ := hv
  have hx := B.exec
  have hb := B.bytes
  have hr := B.returns
  have htg : ∀ w ∈ tp_G, w.before ([.int x1, .int 15] : List Value).toArray s = true := fun w h => atoms_spec (ws := w_C_registerAt) B.pre w (List.mem_cons_of_mem _ h)
  have hown : s.vm.findClass "TwoPass$Code" = some m.cls := findClass_of_methodNamed B.named
  have hlocks := B.notSynchronized
  subst hsz
  have hD := hD0.self (sz := s.heap.size)
  generalize hAe : va_A fr s.heap.size = A at hD hK ⊢
  have hA : ∀ q : Nat, s.heap.size ≤ q → A q := fun q h => by rw [← hAe]; exact Or.inr h
  have hS : va_S A s.heap s.heap [] := va_S.rf
  have hl := lv_entry ([.int x1, .int 15]) (n := 2) (Nat.le_of_ble_eq_true rfl)
  rw [lg_entry_eq]
  generalize (lg_sl ([.int x1, .int 15]) ++ List.replicate (2 - (lg_sl ([.int x1, .int 15])).length) Slot.unset).toArray = ls at hl ⊢
  have hl : lv_has ls 2 [(0, .int x1), (1, .int 15)] := hl
  refine lv_iload_n hx hb d_C_registerAt_0 rfl (lv_at hl 0 rfl) ?_
  refine lv_iload_n hx hb d_C_registerAt_1 rfl (lv_at hl 1 rfl) ?_
  refine lv_iconst (v := 5) hx hb d_C_registerAt_2 (by decide) ?_
  refine tp_ci (tp_rS (As := [.int x1, .int 15, .int 5]) (rest := []) ⟨hx, hb, hml, hown, htg⟩ (cs_C_bits_9 l E fr _ x1 ) (⟨callB_of 3 htg (tp_good0 kc_C_bits) rfl rfl rfl (htg _ ki_C) (htg _ kl_C_24) ⟨by decide, by decide, by decide +kernel⟩ ⟨Nat.le_of_ble_eq_true rfl, Nat.le_of_ble_eq_true rfl⟩, htg _ ks_C_bits⟩) hK hP hD hS hA rfl hl.1 rfl (Nat.le_of_ble_eq_true rfl) d_C_registerAt_3 ⟨Nat.le_of_ble_eq_true rfl, Nat.le_of_ble_eq_true rfl⟩) hD hS hA (fun r u H locs hw hP hD hS => ?_)
  subst r
  have hP : va_P (tp_D E) tp_cl (fr) H := hP
  have hD : va_D A (fr) := hD
  exact W.iret (v := ((x1.toUInt32 >>> (Int32.toUInt32 15 &&& Int32.toUInt32 31)).toInt32 &&& 31)) hx hb hr (fun t ht hW => ⟨⟨_, (), rfl, rfl, by rw [ht]; exact hP, hD⟩, hS.F ht⟩) hS.2.2 d_C_registerAt_6
set_option maxHeartbeats 400000 in
set_option maxRecDepth 100000 in
theorem cs_C_bits_10 (l : Launch) (E : tp_Env) (fr : va_W) (sz : Nat) (x1 : Int32)  : Met l y_C_bits w_C_bits ({ frames := 0, cells := 0, slots := 0, locals := 0 }) (va_Pc [.int x1, .int 20, .int 5] (tp_in E fr sz)) (va_Qi (fun r (_ : Unit) => r = ((x1.toUInt32 >>> (Int32.toUInt32 20 &&& Int32.toUInt32 31)).toInt32 &&& 31)) (fun _ t => tp_out E (va_A fr sz) fr t) (va_A fr sz)) 0 0 (va_A fr sz) := by
  refine Met.ofW (cc := b_C_bits) (maxL := 3) (ret := (some .int)) (by decide) rfl ?_
  intro p e s m args below meth c s₁ B hml hv
  obtain ⟨rfl, hsz, hP, hK, hD0⟩ := hv
  have hx := B.exec
  have hb := B.bytes
  have hr := B.returns
  have htg : ∀ w ∈ tp_G, w.before ([.int x1, .int 20, .int 5] : List Value).toArray s = true := fun w h => atoms_spec (ws := w_C_bits) B.pre w (List.mem_cons_of_mem _ h)
  have hown : s.vm.findClass "TwoPass$Code" = some m.cls := findClass_of_methodNamed B.named
  have hlocks := B.notSynchronized
  subst hsz
  have hD := hD0.self (sz := s.heap.size)
  generalize hAe : va_A fr s.heap.size = A at hD hK ⊢
  have hA : ∀ q : Nat, s.heap.size ≤ q → A q := fun q h => by rw [← hAe]; exact Or.inr h
  have hS : va_S A s.heap s.heap [] := va_S.rf
  have hl := lv_entry ([.int x1, .int 20, .int 5]) (n := 3) (Nat.le_of_ble_eq_true rfl)
  rw [lg_entry_eq]
  generalize (lg_sl ([.int x1, .int 20, .int 5]) ++ List.replicate (3 - (lg_sl ([.int x1, .int 20, .int 5])).length) Slot.unset).toArray = ls at hl ⊢
  have hl : lv_has ls 3 [(0, .int x1), (1, .int 20), (2, .int 5)] := hl
  refine lv_iload_n hx hb d_C_bits_0 rfl (lv_at hl 0 rfl) ?_
  refine lv_iload_n hx hb d_C_bits_1 rfl (lv_at hl 1 rfl) ?_
  refine lv_iushr (v := (x1.toUInt32 >>> (Int32.toUInt32 20 &&& Int32.toUInt32 31)).toInt32) hx hb d_C_bits_2 rfl ?_
  refine lv_iconst (v := 1) hx hb d_C_bits_3 (by decide) ?_
  refine lv_iload_n hx hb d_C_bits_4 rfl (lv_at hl 2 rfl) ?_
  refine lv_ishl hx hb d_C_bits_5 ?_
  refine tp_topi (v := 32) (by decide) ?_
  refine lv_iconst (v := 1) hx hb d_C_bits_6 (by decide) ?_
  refine lv_isub hx hb d_C_bits_7 ?_
  refine tp_topi (v := 31) (by decide) ?_
  refine lv_iand hx hb d_C_bits_8 ?_
  exact W.iret (v := ((x1.toUInt32 >>> (Int32.toUInt32 20 &&& Int32.toUInt32 31)).toInt32 &&& 31)) hx hb hr (fun t ht hW => ⟨⟨_, (), rfl, rfl, by rw [ht]; exact hP, hD⟩, hS.F ht⟩) hS.2.2 d_C_bits_9
set_option maxHeartbeats 400000 in
set_option maxRecDepth 100000 in
theorem cs_C_registerAt_3 (l : Launch) (E : tp_Env) (fr : va_W) (sz : Nat) (x1 : Int32)  : Met l y_C_registerAt w_C_registerAt ({ frames := 1, cells := 0, slots := 0, locals := 22 }) (va_Pc [.int x1, .int 20] (tp_in E fr sz)) (va_Qi (fun r (_ : Unit) => r = ((x1.toUInt32 >>> (Int32.toUInt32 20 &&& Int32.toUInt32 31)).toInt32 &&& 31)) (fun _ t => tp_out E (va_A fr sz) fr t) (va_A fr sz)) 0 0 (va_A fr sz) := by
  refine Met.ofW (cc := b_C_registerAt) (maxL := 2) (ret := (some .int)) (by decide) rfl ?_
  intro p e s m args below meth c s₁ B hml hv
  obtain ⟨rfl, hsz, hP, hK, hD0⟩ := hv
  have hx := B.exec
  have hb := B.bytes
  have hr := B.returns
  have htg : ∀ w ∈ tp_G, w.before ([.int x1, .int 20] : List Value).toArray s = true := fun w h => atoms_spec (ws := w_C_registerAt) B.pre w (List.mem_cons_of_mem _ h)
  have hown : s.vm.findClass "TwoPass$Code" = some m.cls := findClass_of_methodNamed B.named
  have hlocks := B.notSynchronized
  subst hsz
  have hD := hD0.self (sz := s.heap.size)
  generalize hAe : va_A fr s.heap.size = A at hD hK ⊢
  have hA : ∀ q : Nat, s.heap.size ≤ q → A q := fun q h => by rw [← hAe]; exact Or.inr h
  have hS : va_S A s.heap s.heap [] := va_S.rf
  have hl := lv_entry ([.int x1, .int 20]) (n := 2) (Nat.le_of_ble_eq_true rfl)
  rw [lg_entry_eq]
  generalize (lg_sl ([.int x1, .int 20]) ++ List.replicate (2 - (lg_sl ([.int x1, .int 20])).length) Slot.unset).toArray = ls at hl ⊢
  have hl : lv_has ls 2 [(0, .int x1), (1, .int 20)] := hl
  refine lv_iload_n hx hb d_C_registerAt_0 rfl (lv_at hl 0 rfl) ?_
  refine lv_iload_n hx hb d_C_registerAt_1 rfl (lv_at hl 1 rfl) ?_
  refine lv_iconst (v := 5) hx hb d_C_registerAt_2 (by decide) ?_
  refine tp_ci (tp_rS (As := [.int x1, .int 20, .int 5]) (rest := []) ⟨hx, hb, hml, hown, htg⟩ (cs_C_bits_10 l E fr _ x1 ) (⟨callB_of 3 htg (tp_good0 kc_C_bits) rfl rfl rfl (htg _ ki_C) (htg _ kl_C_24) ⟨by decide, by decide, by decide +kernel⟩ ⟨Nat.le_of_ble_eq_true rfl, Nat.le_of_ble_eq_true rfl⟩, htg _ ks_C_bits⟩) hK hP hD hS hA rfl hl.1 rfl (Nat.le_of_ble_eq_true rfl) d_C_registerAt_3 ⟨Nat.le_of_ble_eq_true rfl, Nat.le_of_ble_eq_true rfl⟩) hD hS hA (fun r u H locs hw hP hD hS => ?_)
  subst r
  have hP : va_P (tp_D E) tp_cl (fr) H := hP
  have hD : va_D A (fr) := hD
  exact W.iret (v := ((x1.toUInt32 >>> (Int32.toUInt32 20 &&& Int32.toUInt32 31)).toInt32 &&& 31)) hx hb hr (fun t ht hW => ⟨⟨_, (), rfl, rfl, by rw [ht]; exact hP, hD⟩, hS.F ht⟩) hS.2.2 d_C_registerAt_6
set_option maxHeartbeats 4000000 in
set_option maxRecDepth 100000 in
theorem a_T_writeOperand (l : Launch) (E : tp_Env) (fr : va_W) (sz : Nat) (aT aY aS : Nat) (xl xg : Int32) (aB ab : Nat) (xm xc : Int32) (nb : Nat) (fb : Nat → Int32) (ou : Nat) (hou : ou < 47) (xk xw : Int32) (hn : nb = 16 ∨ nb = 34) (hf : tp_fit fb) (hc : 0 ≤ xc.toInt ∧ xc.toInt + (tp_ol ou xk xw : Int) ≤ 34) (hk : ¬ 255 < xk) : Met l y_T_writeOperand w_T_writeOperand ({ frames := 7, cells := 2, slots := 68, locals := 209 }) (va_Pc [.ref aT, .ref (tp_ad E ou), .int xk, .int xw] (tp_in E ((aT, .inr (0, [.ref aY, .ref aS, .ref aB, .int xl, .int xg])) :: (aB, .inr (6, [.ref ab, .int 0, .int xm, .int xc])) :: (ab, .inl (tp_ty E 3, nb, .inl fb)) :: fr) sz)) (va_Qv (fun (u : Nat × Nat × (Nat → Int32) × Int32) => (u.2.1 = 16 ∨ u.2.1 = 34) ∧ tp_fit u.2.2.1 ∧ u.2.2.2.toInt = xc.toInt + (tp_ol ou xk xw : Int) ∧ u.2.2.2.toInt ≤ (u.2.1 : Int)) (fun u t => tp_out E (va_A ((aT, .inr (0, [.ref aY, .ref aS, .ref aB, .int xl, .int xg])) :: (aB, .inr (6, [.ref ab, .int 0, .int xm, .int xc])) :: (ab, .inl (tp_ty E 3, nb, .inl fb)) :: fr) sz) ((aT, .inr (0, [.ref aY, .ref aS, .ref aB, .int xl, .int xg])) :: (aB, .inr (6, [.ref u.1, .int 0, .int xm, .int u.2.2.2])) :: (u.1, .inl (tp_ty E 3, u.2.1, .inl u.2.2.1)) :: fr) t) (va_A ((aT, .inr (0, [.ref aY, .ref aS, .ref aB, .int xl, .int xg])) :: (aB, .inr (6, [.ref ab, .int 0, .int xm, .int xc])) :: (ab, .inl (tp_ty E 3, nb, .inl fb)) :: fr) sz)) 2 68 (va_A ((aT, .inr (0, [.ref aY, .ref aS, .ref aB, .int xl, .int xg])) :: (aB, .inr (6, [.ref ab, .int 0, .int xm, .int xc])) :: (ab, .inl (tp_ty E 3, nb, .inl fb)) :: fr) sz) := by
  refine Met.ofW (cc := b_T_writeOperand) (maxL := 4) (ret := none) (by decide) rfl ?_
  intro p e s m args below meth c s₁ B hml hv
  obtain ⟨rfl, hsz, hP, hK, hD0⟩ := hv
  have hx := B.exec
  have hb := B.bytes
  have hr := B.returns
  have htg : ∀ w ∈ tp_G, w.before ([.ref aT, .ref (tp_ad E ou), .int xk, .int xw] : List Value).toArray s = true := fun w h => atoms_spec (ws := w_T_writeOperand) B.pre w (List.mem_cons_of_mem _ h)
  have hown : s.vm.findClass "TwoPass" = some m.cls := findClass_of_methodNamed B.named
  have hlocks := B.notSynchronized
  subst hsz
  have hD := hD0.self (sz := s.heap.size)
  generalize hAe : va_A ((aT, .inr (0, [.ref aY, .ref aS, .ref aB, .int xl, .int xg])) :: (aB, .inr (6, [.ref ab, .int 0, .int xm, .int xc])) :: (ab, .inl (tp_ty E 3, nb, .inl fb)) :: fr) s.heap.size = A at hD hK ⊢
  have hA : ∀ q : Nat, s.heap.size ≤ q → A q := fun q h => by rw [← hAe]; exact Or.inr h
  have hS : va_S A s.heap s.heap [] := va_S.rf
  have hl := lv_entry ([.ref aT, .ref (tp_ad E ou), .int xk, .int xw]) (n := 4) (Nat.le_of_ble_eq_true rfl)
  rw [lg_entry_eq]
  generalize (lg_sl ([.ref aT, .ref (tp_ad E ou), .int xk, .int xw]) ++ List.replicate (4 - (lg_sl ([.ref aT, .ref (tp_ad E ou), .int xk, .int xw])).length) Slot.unset).toArray = ls at hl ⊢
  have hl : lv_has ls 4 [(0, .ref aT), (1, .ref (tp_ad E ou)), (2, .int xk), (3, .int xw)] := hl
  refine lv_iload_n hx hb d_T_writeOperand_0 rfl (lv_at hl 2 rfl) ?_
  by_cases h1 : xk = 100
  · refine lv_lookup (off := 51) (tgt := 52) hx hb d_T_writeOperand_1 (by decide) (by rw [h1]; decide) (by decide) ?_
    refine lv_aload_n hx hb d_T_writeOperand_52 rfl (lv_at hl 0 rfl) ?_
    refine lv_iload_n hx hb d_T_writeOperand_53 rfl (lv_at hl 3 rfl) ?_
    refine lv_bipush (v := 7) hx hb d_T_writeOperand_54 (by decide) ?_
    refine tp_ci (tp_rS (As := [.int xw, .int 7]) (rest := [.ref aT]) ⟨hx, hb, hml, hown, htg⟩ (cs_C_registerAt_1 l E ((aT, .inr (0, [.ref aY, .ref aS, .ref aB, .int xl, .int xg])) :: (aB, .inr (6, [.ref ab, .int 0, .int xm, .int xc])) :: (ab, .inl (tp_ty E 3, nb, .inl fb)) :: fr) _ xw ) (⟨callB_of 2 htg (tp_good0 kc_C_registerAt) rfl rfl rfl (htg _ ki_C) (htg _ kl_T_229) ⟨by decide, by decide, by decide +kernel⟩ ⟨Nat.le_of_ble_eq_true rfl, Nat.le_of_ble_eq_true rfl⟩, htg _ ks_C_registerAt⟩) hK hP hD hS hA rfl hl.1 rfl (Nat.le_of_ble_eq_true rfl) d_T_writeOperand_56 ⟨Nat.le_of_ble_eq_true rfl, Nat.le_of_ble_eq_true rfl⟩) hD hS hA (fun r u H locs hw hP hD hS => ?_)
    subst r
    have hP : va_P (tp_D E) tp_cl ((aT, .inr (0, [.ref aY, .ref aS, .ref aB, .int xl, .int xg])) :: (aB, .inr (6, [.ref ab, .int 0, .int xm, .int xc])) :: (ab, .inl (tp_ty E 3, nb, .inl fb)) :: fr) H := hP
    have hD : va_D A ((aT, .inr (0, [.ref aY, .ref aS, .ref aB, .int xl, .int xg])) :: (aB, .inr (6, [.ref ab, .int 0, .int xm, .int xc])) :: (ab, .inl (tp_ty E 3, nb, .inl fb)) :: fr) := hD
    refine tp_cv (tp_rV (As := [.int ((xw.toUInt32 >>> (Int32.toUInt32 7 &&& Int32.toUInt32 31)).toInt32 &&& 31)]) (rest := []) ⟨hx, hb, hml, hown, htg⟩ (a_T_writeRegister l E fr _ aT aY aS xl xg aB ab xm xc nb fb ((xw.toUInt32 >>> (Int32.toUInt32 7 &&& Int32.toUInt32 31)).toInt32 &&& 31) hn hf (tp_wo1 hc (by unfold tp_ol; rw [if_pos h1]))) (⟨callB_of 1 htg (tp_good0 kc_T_writeRegister) rfl rfl rfl (htg _ ki_T) (htg _ kl_T_232) ⟨by decide, by decide, by decide +kernel⟩ ⟨Nat.le_of_ble_eq_true rfl, Nat.le_of_ble_eq_true rfl⟩, htg _ km_T_writeRegister, htg _ kp_T_writeRegister⟩) (va_recv (ci := 0) (q0 := 0) hK.1 hP rfl rfl) hK hP hD hS hA rfl hl.1 rfl (Nat.le_of_ble_eq_true rfl) d_T_writeOperand_59 ⟨Nat.le_of_ble_eq_true rfl, Nat.le_of_ble_eq_true rfl⟩) hD hS hA (fun u H locs hw hP hD hS => ?_)
    obtain ⟨eq1, nq1, fq1, cq1⟩ := u
    obtain ⟨hnq1, hfq1, hcq1, hqq1⟩ : (nq1 = 16 ∨ nq1 = 34) ∧ tp_fit fq1 ∧ cq1.toInt = xc.toInt + 1 + (tp_dl ((xw.toUInt32 >>> (Int32.toUInt32 7 &&& Int32.toUInt32 31)).toInt32 &&& 31) : Int) ∧ cq1.toInt ≤ (nq1 : Int) := hw
    have hP : va_P (tp_D E) tp_cl ((aT, .inr (0, [.ref aY, .ref aS, .ref aB, .int xl, .int xg])) :: (aB, .inr (6, [.ref eq1, .int 0, .int xm, .int cq1])) :: (eq1, .inl (tp_ty E 3, nq1, .inl fq1)) :: fr) H := hP
    have hD : va_D A ((aT, .inr (0, [.ref aY, .ref aS, .ref aB, .int xl, .int xg])) :: (aB, .inr (6, [.ref eq1, .int 0, .int xm, .int cq1])) :: (eq1, .inl (tp_ty E 3, nq1, .inl fq1)) :: fr) := hD
    refine lv_goto (tgt := 119) hx hb d_T_writeOperand_62 (by decide) ?_
    exact W.vret hx hb hr (fun t ht hW => ⟨⟨(eq1, nq1, fq1, cq1), rfl, ⟨hnq1, hfq1, tp_wo4 hc (by unfold tp_ol; rw [if_pos h1]) hcq1, hqq1⟩, by rw [ht]; exact hP, hD⟩, hS.F ht⟩) hS.2.2 d_T_writeOperand_119
  · by_cases h2 : xk = 105
    · refine lv_lookup (off := 90) (tgt := 91) hx hb d_T_writeOperand_1 (by decide) (by rw [h2]; decide) (by decide) ?_
      refine lv_aload_n hx hb d_T_writeOperand_91 rfl (lv_at hl 0 rfl) ?_
      refine va_get (D := tp_D E) (ci := 0) (v := .ref aB) (C := qR_T) (T := qF_T) (N := 5) hx hb htg qi_T hown hK.1 hP 0 rfl rfl 2 (by decide) (htg _ kl_T_26) (fun _ h => h) rfl d_T_writeOperand_92 ?_
      refine lv_aload_n hx hb d_T_writeOperand_95 rfl (lv_at hl 1 rfl) ?_
      refine vk_getf (v := .int (tp_lay.getD ou 0)) hx hb (hK.lay (i := ou) hou) hS hown (htg _ kl_T_181) (fun _ h => h) d_T_writeOperand_96 ?_
      refine lv_iload_n hx hb d_T_writeOperand_99 rfl (lv_at hl 3 rfl) ?_
      refine tp_ci (tp_rS (As := [.int (tp_lay.getD ou 0), .int xw]) (rest := [.ref aB]) ⟨hx, hb, hml, hown, htg⟩ (a_C_numberOf l E ((aT, .inr (0, [.ref aY, .ref aS, .ref aB, .int xl, .int xg])) :: (aB, .inr (6, [.ref ab, .int 0, .int xm, .int xc])) :: (ab, .inl (tp_ty E 3, nb, .inl fb)) :: fr) _ (tp_lay.getD ou 0) xw ) (⟨callB_of 2 htg (tp_good0 kc_C_numberOf) rfl rfl rfl (htg _ ki_C) (htg _ kl_T_235) ⟨by decide, by decide, by decide +kernel⟩ ⟨Nat.le_of_ble_eq_true rfl, Nat.le_of_ble_eq_true rfl⟩, htg _ ks_C_numberOf⟩) hK hP hD hS hA rfl hl.1 rfl (Nat.le_of_ble_eq_true rfl) d_T_writeOperand_100 ⟨Nat.le_of_ble_eq_true rfl, Nat.le_of_ble_eq_true rfl⟩) hD hS hA (fun r u H locs hw hP hD hS => ?_)
      subst r
      have hP : va_P (tp_D E) tp_cl ((aT, .inr (0, [.ref aY, .ref aS, .ref aB, .int xl, .int xg])) :: (aB, .inr (6, [.ref ab, .int 0, .int xm, .int xc])) :: (ab, .inl (tp_ty E 3, nb, .inl fb)) :: fr) H := hP
      have hD : va_D A ((aT, .inr (0, [.ref aY, .ref aS, .ref aB, .int xl, .int xg])) :: (aB, .inr (6, [.ref ab, .int 0, .int xm, .int xc])) :: (ab, .inl (tp_ty E 3, nb, .inl fb)) :: fr) := hD
      have hP : va_P (tp_D E) tp_cl ((ab, .inl (tp_ty E 3, nb, .inl fb)) :: (aT, .inr (0, [.ref aY, .ref aS, .ref aB, .int xl, .int xg])) :: (aB, .inr (6, [.ref ab, .int 0, .int xm, .int xc])) :: fr) _ := tp_mvP 2 rfl hP
      have hD : va_D A ((ab, .inl (tp_ty E 3, nb, .inl fb)) :: (aT, .inr (0, [.ref aY, .ref aS, .ref aB, .int xl, .int xg])) :: (aB, .inr (6, [.ref ab, .int 0, .int xm, .int xc])) :: fr) := tp_mvD 2 rfl hD
      have hP : va_P (tp_D E) tp_cl ((aB, .inr (6, [.ref ab, .int 0, .int xm, .int xc])) :: (ab, .inl (tp_ty E 3, nb, .inl fb)) :: (aT, .inr (0, [.ref aY, .ref aS, .ref aB, .int xl, .int xg])) :: fr) _ := tp_mvP 2 rfl hP
      have hD : va_D A ((aB, .inr (6, [.ref ab, .int 0, .int xm, .int xc])) :: (ab, .inl (tp_ty E 3, nb, .inl fb)) :: (aT, .inr (0, [.ref aY, .ref aS, .ref aB, .int xl, .int xg])) :: fr) := tp_mvD 2 rfl hD
      refine tp_cr (tp_rV (As := [.int (tp_num (tp_lay.getD ou 0) xw)]) (rest := []) ⟨hx, hb, hml, hown, htg⟩ (a_SB_appI l E ((aT, .inr (0, [.ref aY, .ref aS, .ref aB, .int xl, .int xg])) :: fr) _ aB ab xm xc nb fb (tp_num (tp_lay.getD ou 0) xw) hn hf (tp_wo2 hc (by unfold tp_ol; rw [if_neg h1, if_pos h2]))) (⟨callB_of 1 htg (tp_good0 kc_SB_append_1) rfl rfl rfl (htg _ ki_SB) (htg _ kl_T_238) ⟨by decide, by decide, by decide +kernel⟩ ⟨Nat.le_of_ble_eq_true rfl, Nat.le_of_ble_eq_true rfl⟩, htg _ km_SB_append_1, htg _ kv_SB_SB_append_1⟩) (va_recv (ci := 6) (q0 := 0) hK.1 hP rfl rfl) hK hP hD hS hA rfl hl.1 rfl (Nat.le_of_ble_eq_true rfl) d_T_writeOperand_103 ⟨Nat.le_of_ble_eq_true rfl, Nat.le_of_ble_eq_true rfl⟩) hD hS hA (fun u H locs hw hP hD hS => ?_)
      obtain ⟨eq1, nq1, fq1, cq1⟩ := u
      obtain ⟨hnq1, hfq1, hcq1, hqq1⟩ : (nq1 = 16 ∨ nq1 = 34) ∧ tp_fit fq1 ∧ cq1.toInt = xc.toInt + (tp_dl (tp_num (tp_lay.getD ou 0) xw) : Int) ∧ cq1.toInt ≤ (nq1 : Int) := hw
      have hP : va_P (tp_D E) tp_cl ((aB, .inr (6, [.ref eq1, .int 0, .int xm, .int cq1])) :: (eq1, .inl (tp_ty E 3, nq1, .inl fq1)) :: (aT, .inr (0, [.ref aY, .ref aS, .ref aB, .int xl, .int xg])) :: fr) H := hP
      have hD : va_D A ((aB, .inr (6, [.ref eq1, .int 0, .int xm, .int cq1])) :: (eq1, .inl (tp_ty E 3, nq1, .inl fq1)) :: (aT, .inr (0, [.ref aY, .ref aS, .ref aB, .int xl, .int xg])) :: fr) := hD
      refine lv_pop hx hb d_T_writeOperand_106 rfl ?_
      refine lv_goto (tgt := 119) hx hb d_T_writeOperand_107 (by decide) ?_
      have hP : va_P (tp_D E) tp_cl ((eq1, .inl (tp_ty E 3, nq1, .inl fq1)) :: (aB, .inr (6, [.ref eq1, .int 0, .int xm, .int cq1])) :: (aT, .inr (0, [.ref aY, .ref aS, .ref aB, .int xl, .int xg])) :: fr) _ := tp_mvP 1 rfl hP
      have hD : va_D A ((eq1, .inl (tp_ty E 3, nq1, .inl fq1)) :: (aB, .inr (6, [.ref eq1, .int 0, .int xm, .int cq1])) :: (aT, .inr (0, [.ref aY, .ref aS, .ref aB, .int xl, .int xg])) :: fr) := tp_mvD 1 rfl hD
      have hP : va_P (tp_D E) tp_cl ((aB, .inr (6, [.ref eq1, .int 0, .int xm, .int cq1])) :: (eq1, .inl (tp_ty E 3, nq1, .inl fq1)) :: (aT, .inr (0, [.ref aY, .ref aS, .ref aB, .int xl, .int xg])) :: fr) _ := tp_mvP 1 rfl hP
      have hD : va_D A ((aB, .inr (6, [.ref eq1, .int 0, .int xm, .int cq1])) :: (eq1, .inl (tp_ty E 3, nq1, .inl fq1)) :: (aT, .inr (0, [.ref aY, .ref aS, .ref aB, .int xl, .int xg])) :: fr) := tp_mvD 1 rfl hD
      have hP : va_P (tp_D E) tp_cl ((aT, .inr (0, [.ref aY, .ref aS, .ref aB, .int xl, .int xg])) :: (aB, .inr (6, [.ref eq1, .int 0, .int xm, .int cq1])) :: (eq1, .inl (tp_ty E 3, nq1, .inl fq1)) :: fr) _ := tp_mvP 2 rfl hP
      have hD : va_D A ((aT, .inr (0, [.ref aY, .ref aS, .ref aB, .int xl, .int xg])) :: (aB, .inr (6, [.ref eq1, .int 0, .int xm, .int cq1])) :: (eq1, .inl (tp_ty E 3, nq1, .inl fq1)) :: fr) := tp_mvD 2 rfl hD
      exact tp_widen (k := 2) (n := 68) (Nat.le_of_ble_eq_true rfl) (Nat.le_of_ble_eq_true rfl) (W.vret hx hb hr (fun t ht hW => ⟨⟨(eq1, nq1, fq1, cq1), rfl, ⟨hnq1, hfq1, tp_wo5 hc (by unfold tp_ol; rw [if_neg h1, if_pos h2]) hcq1, hqq1⟩, by rw [ht]; exact hP, hD⟩, hS.F ht⟩) hS.2.2 d_T_writeOperand_119)
    · by_cases h3 : xk = 108
      · refine lv_lookup (off := 90) (tgt := 91) hx hb d_T_writeOperand_1 (by decide) (by rw [h3]; decide) (by decide) ?_
        refine lv_aload_n hx hb d_T_writeOperand_91 rfl (lv_at hl 0 rfl) ?_
        refine va_get (D := tp_D E) (ci := 0) (v := .ref aB) (C := qR_T) (T := qF_T) (N := 5) hx hb htg qi_T hown hK.1 hP 0 rfl rfl 2 (by decide) (htg _ kl_T_26) (fun _ h => h) rfl d_T_writeOperand_92 ?_
        refine lv_aload_n hx hb d_T_writeOperand_95 rfl (lv_at hl 1 rfl) ?_
        refine vk_getf (v := .int (tp_lay.getD ou 0)) hx hb (hK.lay (i := ou) hou) hS hown (htg _ kl_T_181) (fun _ h => h) d_T_writeOperand_96 ?_
        refine lv_iload_n hx hb d_T_writeOperand_99 rfl (lv_at hl 3 rfl) ?_
        refine tp_ci (tp_rS (As := [.int (tp_lay.getD ou 0), .int xw]) (rest := [.ref aB]) ⟨hx, hb, hml, hown, htg⟩ (a_C_numberOf l E ((aT, .inr (0, [.ref aY, .ref aS, .ref aB, .int xl, .int xg])) :: (aB, .inr (6, [.ref ab, .int 0, .int xm, .int xc])) :: (ab, .inl (tp_ty E 3, nb, .inl fb)) :: fr) _ (tp_lay.getD ou 0) xw ) (⟨callB_of 2 htg (tp_good0 kc_C_numberOf) rfl rfl rfl (htg _ ki_C) (htg _ kl_T_235) ⟨by decide, by decide, by decide +kernel⟩ ⟨Nat.le_of_ble_eq_true rfl, Nat.le_of_ble_eq_true rfl⟩, htg _ ks_C_numberOf⟩) hK hP hD hS hA rfl hl.1 rfl (Nat.le_of_ble_eq_true rfl) d_T_writeOperand_100 ⟨Nat.le_of_ble_eq_true rfl, Nat.le_of_ble_eq_true rfl⟩) hD hS hA (fun r u H locs hw hP hD hS => ?_)
        subst r
        have hP : va_P (tp_D E) tp_cl ((aT, .inr (0, [.ref aY, .ref aS, .ref aB, .int xl, .int xg])) :: (aB, .inr (6, [.ref ab, .int 0, .int xm, .int xc])) :: (ab, .inl (tp_ty E 3, nb, .inl fb)) :: fr) H := hP
        have hD : va_D A ((aT, .inr (0, [.ref aY, .ref aS, .ref aB, .int xl, .int xg])) :: (aB, .inr (6, [.ref ab, .int 0, .int xm, .int xc])) :: (ab, .inl (tp_ty E 3, nb, .inl fb)) :: fr) := hD
        have hP : va_P (tp_D E) tp_cl ((ab, .inl (tp_ty E 3, nb, .inl fb)) :: (aT, .inr (0, [.ref aY, .ref aS, .ref aB, .int xl, .int xg])) :: (aB, .inr (6, [.ref ab, .int 0, .int xm, .int xc])) :: fr) _ := tp_mvP 2 rfl hP
        have hD : va_D A ((ab, .inl (tp_ty E 3, nb, .inl fb)) :: (aT, .inr (0, [.ref aY, .ref aS, .ref aB, .int xl, .int xg])) :: (aB, .inr (6, [.ref ab, .int 0, .int xm, .int xc])) :: fr) := tp_mvD 2 rfl hD
        have hP : va_P (tp_D E) tp_cl ((aB, .inr (6, [.ref ab, .int 0, .int xm, .int xc])) :: (ab, .inl (tp_ty E 3, nb, .inl fb)) :: (aT, .inr (0, [.ref aY, .ref aS, .ref aB, .int xl, .int xg])) :: fr) _ := tp_mvP 2 rfl hP
        have hD : va_D A ((aB, .inr (6, [.ref ab, .int 0, .int xm, .int xc])) :: (ab, .inl (tp_ty E 3, nb, .inl fb)) :: (aT, .inr (0, [.ref aY, .ref aS, .ref aB, .int xl, .int xg])) :: fr) := tp_mvD 2 rfl hD
        refine tp_cr (tp_rV (As := [.int (tp_num (tp_lay.getD ou 0) xw)]) (rest := []) ⟨hx, hb, hml, hown, htg⟩ (a_SB_appI l E ((aT, .inr (0, [.ref aY, .ref aS, .ref aB, .int xl, .int xg])) :: fr) _ aB ab xm xc nb fb (tp_num (tp_lay.getD ou 0) xw) hn hf (tp_wo2 hc (by unfold tp_ol; rw [if_neg h1, if_neg h2, if_pos h3]))) (⟨callB_of 1 htg (tp_good0 kc_SB_append_1) rfl rfl rfl (htg _ ki_SB) (htg _ kl_T_238) ⟨by decide, by decide, by decide +kernel⟩ ⟨Nat.le_of_ble_eq_true rfl, Nat.le_of_ble_eq_true rfl⟩, htg _ km_SB_append_1, htg _ kv_SB_SB_append_1⟩) (va_recv (ci := 6) (q0 := 0) hK.1 hP rfl rfl) hK hP hD hS hA rfl hl.1 rfl (Nat.le_of_ble_eq_true rfl) d_T_writeOperand_103 ⟨Nat.le_of_ble_eq_true rfl, Nat.le_of_ble_eq_true rfl⟩) hD hS hA (fun u H locs hw hP hD hS => ?_)
        obtain ⟨eq1, nq1, fq1, cq1⟩ := u
        obtain ⟨hnq1, hfq1, hcq1, hqq1⟩ : (nq1 = 16 ∨ nq1 = 34) ∧ tp_fit fq1 ∧ cq1.toInt = xc.toInt + (tp_dl (tp_num (tp_lay.getD ou 0) xw) : Int) ∧ cq1.toInt ≤ (nq1 : Int) := hw
        have hP : va_P (tp_D E) tp_cl ((aB, .inr (6, [.ref eq1, .int 0, .int xm, .int cq1])) :: (eq1, .inl (tp_ty E 3, nq1, .inl fq1)) :: (aT, .inr (0, [.ref aY, .ref aS, .ref aB, .int xl, .int xg])) :: fr) H := hP
        have hD : va_D A ((aB, .inr (6, [.ref eq1, .int 0, .int xm, .int cq1])) :: (eq1, .inl (tp_ty E 3, nq1, .inl fq1)) :: (aT, .inr (0, [.ref aY, .ref aS, .ref aB, .int xl, .int xg])) :: fr) := hD
        refine lv_pop hx hb d_T_writeOperand_106 rfl ?_
        refine lv_goto (tgt := 119) hx hb d_T_writeOperand_107 (by decide) ?_
        have hP : va_P (tp_D E) tp_cl ((eq1, .inl (tp_ty E 3, nq1, .inl fq1)) :: (aB, .inr (6, [.ref eq1, .int 0, .int xm, .int cq1])) :: (aT, .inr (0, [.ref aY, .ref aS, .ref aB, .int xl, .int xg])) :: fr) _ := tp_mvP 1 rfl hP
        have hD : va_D A ((eq1, .inl (tp_ty E 3, nq1, .inl fq1)) :: (aB, .inr (6, [.ref eq1, .int 0, .int xm, .int cq1])) :: (aT, .inr (0, [.ref aY, .ref aS, .ref aB, .int xl, .int xg])) :: fr) := tp_mvD 1 rfl hD
        have hP : va_P (tp_D E) tp_cl ((aB, .inr (6, [.ref eq1, .int 0, .int xm, .int cq1])) :: (eq1, .inl (tp_ty E 3, nq1, .inl fq1)) :: (aT, .inr (0, [.ref aY, .ref aS, .ref aB, .int xl, .int xg])) :: fr) _ := tp_mvP 1 rfl hP
        have hD : va_D A ((aB, .inr (6, [.ref eq1, .int 0, .int xm, .int cq1])) :: (eq1, .inl (tp_ty E 3, nq1, .inl fq1)) :: (aT, .inr (0, [.ref aY, .ref aS, .ref aB, .int xl, .int xg])) :: fr) := tp_mvD 1 rfl hD
        have hP : va_P (tp_D E) tp_cl ((aT, .inr (0, [.ref aY, .ref aS, .ref aB, .int xl, .int xg])) :: (aB, .inr (6, [.ref eq1, .int 0, .int xm, .int cq1])) :: (eq1, .inl (tp_ty E 3, nq1, .inl fq1)) :: fr) _ := tp_mvP 2 rfl hP
        have hD : va_D A ((aT, .inr (0, [.ref aY, .ref aS, .ref aB, .int xl, .int xg])) :: (aB, .inr (6, [.ref eq1, .int 0, .int xm, .int cq1])) :: (eq1, .inl (tp_ty E 3, nq1, .inl fq1)) :: fr) := tp_mvD 2 rfl hD
        exact tp_widen (k := 2) (n := 68) (Nat.le_of_ble_eq_true rfl) (Nat.le_of_ble_eq_true rfl) (W.vret hx hb hr (fun t ht hW => ⟨⟨(eq1, nq1, fq1, cq1), rfl, ⟨hnq1, hfq1, tp_wo5 hc (by unfold tp_ol; rw [if_neg h1, if_neg h2, if_pos h3]) hcq1, hqq1⟩, by rw [ht]; exact hP, hD⟩, hS.F ht⟩) hS.2.2 d_T_writeOperand_119)
      · by_cases h4 : xk = 115
        · refine lv_lookup (off := 64) (tgt := 65) hx hb d_T_writeOperand_1 (by decide) (by rw [h4]; decide) (by decide) ?_
          refine lv_aload_n hx hb d_T_writeOperand_65 rfl (lv_at hl 0 rfl) ?_
          refine lv_iload_n hx hb d_T_writeOperand_66 rfl (lv_at hl 3 rfl) ?_
          refine lv_bipush (v := 15) hx hb d_T_writeOperand_67 (by decide) ?_
          refine tp_ci (tp_rS (As := [.int xw, .int 15]) (rest := [.ref aT]) ⟨hx, hb, hml, hown, htg⟩ (cs_C_registerAt_2 l E ((aT, .inr (0, [.ref aY, .ref aS, .ref aB, .int xl, .int xg])) :: (aB, .inr (6, [.ref ab, .int 0, .int xm, .int xc])) :: (ab, .inl (tp_ty E 3, nb, .inl fb)) :: fr) _ xw ) (⟨callB_of 2 htg (tp_good0 kc_C_registerAt) rfl rfl rfl (htg _ ki_C) (htg _ kl_T_229) ⟨by decide, by decide, by decide +kernel⟩ ⟨Nat.le_of_ble_eq_true rfl, Nat.le_of_ble_eq_true rfl⟩, htg _ ks_C_registerAt⟩) hK hP hD hS hA rfl hl.1 rfl (Nat.le_of_ble_eq_true rfl) d_T_writeOperand_69 ⟨Nat.le_of_ble_eq_true rfl, Nat.le_of_ble_eq_true rfl⟩) hD hS hA (fun r u H locs hw hP hD hS => ?_)
          subst r
          have hP : va_P (tp_D E) tp_cl ((aT, .inr (0, [.ref aY, .ref aS, .ref aB, .int xl, .int xg])) :: (aB, .inr (6, [.ref ab, .int 0, .int xm, .int xc])) :: (ab, .inl (tp_ty E 3, nb, .inl fb)) :: fr) H := hP
          have hD : va_D A ((aT, .inr (0, [.ref aY, .ref aS, .ref aB, .int xl, .int xg])) :: (aB, .inr (6, [.ref ab, .int 0, .int xm, .int xc])) :: (ab, .inl (tp_ty E 3, nb, .inl fb)) :: fr) := hD
          refine tp_cv (tp_rV (As := [.int ((xw.toUInt32 >>> (Int32.toUInt32 15 &&& Int32.toUInt32 31)).toInt32 &&& 31)]) (rest := []) ⟨hx, hb, hml, hown, htg⟩ (a_T_writeRegister l E fr _ aT aY aS xl xg aB ab xm xc nb fb ((xw.toUInt32 >>> (Int32.toUInt32 15 &&& Int32.toUInt32 31)).toInt32 &&& 31) hn hf (tp_wo1 hc (by unfold tp_ol; rw [if_neg h1, if_neg h2, if_neg h3, if_pos h4]))) (⟨callB_of 1 htg (tp_good0 kc_T_writeRegister) rfl rfl rfl (htg _ ki_T) (htg _ kl_T_232) ⟨by decide, by decide, by decide +kernel⟩ ⟨Nat.le_of_ble_eq_true rfl, Nat.le_of_ble_eq_true rfl⟩, htg _ km_T_writeRegister, htg _ kp_T_writeRegister⟩) (va_recv (ci := 0) (q0 := 0) hK.1 hP rfl rfl) hK hP hD hS hA rfl hl.1 rfl (Nat.le_of_ble_eq_true rfl) d_T_writeOperand_72 ⟨Nat.le_of_ble_eq_true rfl, Nat.le_of_ble_eq_true rfl⟩) hD hS hA (fun u H locs hw hP hD hS => ?_)
          obtain ⟨eq1, nq1, fq1, cq1⟩ := u
          obtain ⟨hnq1, hfq1, hcq1, hqq1⟩ : (nq1 = 16 ∨ nq1 = 34) ∧ tp_fit fq1 ∧ cq1.toInt = xc.toInt + 1 + (tp_dl ((xw.toUInt32 >>> (Int32.toUInt32 15 &&& Int32.toUInt32 31)).toInt32 &&& 31) : Int) ∧ cq1.toInt ≤ (nq1 : Int) := hw
          have hP : va_P (tp_D E) tp_cl ((aT, .inr (0, [.ref aY, .ref aS, .ref aB, .int xl, .int xg])) :: (aB, .inr (6, [.ref eq1, .int 0, .int xm, .int cq1])) :: (eq1, .inl (tp_ty E 3, nq1, .inl fq1)) :: fr) H := hP
          have hD : va_D A ((aT, .inr (0, [.ref aY, .ref aS, .ref aB, .int xl, .int xg])) :: (aB, .inr (6, [.ref eq1, .int 0, .int xm, .int cq1])) :: (eq1, .inl (tp_ty E 3, nq1, .inl fq1)) :: fr) := hD
          refine lv_goto (tgt := 119) hx hb d_T_writeOperand_75 (by decide) ?_
          exact W.vret hx hb hr (fun t ht hW => ⟨⟨(eq1, nq1, fq1, cq1), rfl, ⟨hnq1, hfq1, tp_wo4 hc (by unfold tp_ol; rw [if_neg h1, if_neg h2, if_neg h3, if_pos h4]) hcq1, hqq1⟩, by rw [ht]; exact hP, hD⟩, hS.F ht⟩) hS.2.2 d_T_writeOperand_119
        · by_cases h5 : xk = 116
          · refine lv_lookup (off := 77) (tgt := 78) hx hb d_T_writeOperand_1 (by decide) (by rw [h5]; decide) (by decide) ?_
            refine lv_aload_n hx hb d_T_writeOperand_78 rfl (lv_at hl 0 rfl) ?_
            refine lv_iload_n hx hb d_T_writeOperand_79 rfl (lv_at hl 3 rfl) ?_
            refine lv_bipush (v := 20) hx hb d_T_writeOperand_80 (by decide) ?_
            refine tp_ci (tp_rS (As := [.int xw, .int 20]) (rest := [.ref aT]) ⟨hx, hb, hml, hown, htg⟩ (cs_C_registerAt_3 l E ((aT, .inr (0, [.ref aY, .ref aS, .ref aB, .int xl, .int xg])) :: (aB, .inr (6, [.ref ab, .int 0, .int xm, .int xc])) :: (ab, .inl (tp_ty E 3, nb, .inl fb)) :: fr) _ xw ) (⟨callB_of 2 htg (tp_good0 kc_C_registerAt) rfl rfl rfl (htg _ ki_C) (htg _ kl_T_229) ⟨by decide, by decide, by decide +kernel⟩ ⟨Nat.le_of_ble_eq_true rfl, Nat.le_of_ble_eq_true rfl⟩, htg _ ks_C_registerAt⟩) hK hP hD hS hA rfl hl.1 rfl (Nat.le_of_ble_eq_true rfl) d_T_writeOperand_82 ⟨Nat.le_of_ble_eq_true rfl, Nat.le_of_ble_eq_true rfl⟩) hD hS hA (fun r u H locs hw hP hD hS => ?_)
            subst r
            have hP : va_P (tp_D E) tp_cl ((aT, .inr (0, [.ref aY, .ref aS, .ref aB, .int xl, .int xg])) :: (aB, .inr (6, [.ref ab, .int 0, .int xm, .int xc])) :: (ab, .inl (tp_ty E 3, nb, .inl fb)) :: fr) H := hP
            have hD : va_D A ((aT, .inr (0, [.ref aY, .ref aS, .ref aB, .int xl, .int xg])) :: (aB, .inr (6, [.ref ab, .int 0, .int xm, .int xc])) :: (ab, .inl (tp_ty E 3, nb, .inl fb)) :: fr) := hD
            refine tp_cv (tp_rV (As := [.int ((xw.toUInt32 >>> (Int32.toUInt32 20 &&& Int32.toUInt32 31)).toInt32 &&& 31)]) (rest := []) ⟨hx, hb, hml, hown, htg⟩ (a_T_writeRegister l E fr _ aT aY aS xl xg aB ab xm xc nb fb ((xw.toUInt32 >>> (Int32.toUInt32 20 &&& Int32.toUInt32 31)).toInt32 &&& 31) hn hf (tp_wo1 hc (by unfold tp_ol; rw [if_neg h1, if_neg h2, if_neg h3, if_neg h4, if_pos h5]))) (⟨callB_of 1 htg (tp_good0 kc_T_writeRegister) rfl rfl rfl (htg _ ki_T) (htg _ kl_T_232) ⟨by decide, by decide, by decide +kernel⟩ ⟨Nat.le_of_ble_eq_true rfl, Nat.le_of_ble_eq_true rfl⟩, htg _ km_T_writeRegister, htg _ kp_T_writeRegister⟩) (va_recv (ci := 0) (q0 := 0) hK.1 hP rfl rfl) hK hP hD hS hA rfl hl.1 rfl (Nat.le_of_ble_eq_true rfl) d_T_writeOperand_85 ⟨Nat.le_of_ble_eq_true rfl, Nat.le_of_ble_eq_true rfl⟩) hD hS hA (fun u H locs hw hP hD hS => ?_)
            obtain ⟨eq1, nq1, fq1, cq1⟩ := u
            obtain ⟨hnq1, hfq1, hcq1, hqq1⟩ : (nq1 = 16 ∨ nq1 = 34) ∧ tp_fit fq1 ∧ cq1.toInt = xc.toInt + 1 + (tp_dl ((xw.toUInt32 >>> (Int32.toUInt32 20 &&& Int32.toUInt32 31)).toInt32 &&& 31) : Int) ∧ cq1.toInt ≤ (nq1 : Int) := hw
            have hP : va_P (tp_D E) tp_cl ((aT, .inr (0, [.ref aY, .ref aS, .ref aB, .int xl, .int xg])) :: (aB, .inr (6, [.ref eq1, .int 0, .int xm, .int cq1])) :: (eq1, .inl (tp_ty E 3, nq1, .inl fq1)) :: fr) H := hP
            have hD : va_D A ((aT, .inr (0, [.ref aY, .ref aS, .ref aB, .int xl, .int xg])) :: (aB, .inr (6, [.ref eq1, .int 0, .int xm, .int cq1])) :: (eq1, .inl (tp_ty E 3, nq1, .inl fq1)) :: fr) := hD
            refine lv_goto (tgt := 119) hx hb d_T_writeOperand_88 (by decide) ?_
            exact W.vret hx hb hr (fun t ht hW => ⟨⟨(eq1, nq1, fq1, cq1), rfl, ⟨hnq1, hfq1, tp_wo4 hc (by unfold tp_ol; rw [if_neg h1, if_neg h2, if_neg h3, if_neg h4, if_pos h5]) hcq1, hqq1⟩, by rw [ht]; exact hP, hD⟩, hS.F ht⟩) hS.2.2 d_T_writeOperand_119
          · refine lv_lookup (off := 109) (tgt := 110) hx hb d_T_writeOperand_1 (by decide) (by show (if (100 : Int) = xk.toInt then (51 : Int) else if (105 : Int) = xk.toInt then (90 : Int) else if (108 : Int) = xk.toInt then (90 : Int) else if (115 : Int) = xk.toInt then (64 : Int) else if (116 : Int) = xk.toInt then (77 : Int) else 109) = _; rw [if_neg (fun q => tp_neI (v := 100) (n := 100) rfl h1 q.symm), if_neg (fun q => tp_neI (v := 105) (n := 105) rfl h2 q.symm), if_neg (fun q => tp_neI (v := 108) (n := 108) rfl h3 q.symm), if_neg (fun q => tp_neI (v := 115) (n := 115) rfl h4 q.symm), if_neg (fun q => tp_neI (v := 116) (n := 116) rfl h5 q.symm)]) (by decide) ?_
            refine lv_aload_n hx hb d_T_writeOperand_110 rfl (lv_at hl 0 rfl) ?_
            refine va_get (D := tp_D E) (ci := 0) (v := .ref aB) (C := qR_T) (T := qF_T) (N := 5) hx hb htg qi_T hown hK.1 hP 0 rfl rfl 2 (by decide) (htg _ kl_T_26) (fun _ h => h) rfl d_T_writeOperand_111 ?_
            refine lv_iload_n hx hb d_T_writeOperand_114 rfl (lv_at hl 2 rfl) ?_
            have hP : va_P (tp_D E) tp_cl ((ab, .inl (tp_ty E 3, nb, .inl fb)) :: (aT, .inr (0, [.ref aY, .ref aS, .ref aB, .int xl, .int xg])) :: (aB, .inr (6, [.ref ab, .int 0, .int xm, .int xc])) :: fr) _ := tp_mvP 2 rfl hP
            have hD : va_D A ((ab, .inl (tp_ty E 3, nb, .inl fb)) :: (aT, .inr (0, [.ref aY, .ref aS, .ref aB, .int xl, .int xg])) :: (aB, .inr (6, [.ref ab, .int 0, .int xm, .int xc])) :: fr) := tp_mvD 2 rfl hD
            have hP : va_P (tp_D E) tp_cl ((aB, .inr (6, [.ref ab, .int 0, .int xm, .int xc])) :: (ab, .inl (tp_ty E 3, nb, .inl fb)) :: (aT, .inr (0, [.ref aY, .ref aS, .ref aB, .int xl, .int xg])) :: fr) _ := tp_mvP 2 rfl hP
            have hD : va_D A ((aB, .inr (6, [.ref ab, .int 0, .int xm, .int xc])) :: (ab, .inl (tp_ty E 3, nb, .inl fb)) :: (aT, .inr (0, [.ref aY, .ref aS, .ref aB, .int xl, .int xg])) :: fr) := tp_mvD 2 rfl hD
            refine tp_cr (tp_rV (As := [.int xk]) (rest := []) ⟨hx, hb, hml, hown, htg⟩ (s_SB_appC l E ((aT, .inr (0, [.ref aY, .ref aS, .ref aB, .int xl, .int xg])) :: fr) _ aB ab xm xc nb fb xk hn hf (tp_wo3 hc (by unfold tp_ol; rw [if_neg h1, if_neg h2, if_neg h3, if_neg h4, if_neg h5])) hk) (⟨callB_of 1 htg (tp_good0 kc_SB_append_0) rfl rfl rfl (htg _ ki_SB) (htg _ kl_T_154) ⟨by decide, by decide, by decide +kernel⟩ ⟨Nat.le_of_ble_eq_true rfl, Nat.le_of_ble_eq_true rfl⟩, htg _ km_SB_append_0, htg _ kv_SB_SB_append_0⟩) (va_recv (ci := 6) (q0 := 0) hK.1 hP rfl rfl) hK hP hD hS hA rfl hl.1 rfl (Nat.le_of_ble_eq_true rfl) d_T_writeOperand_115 ⟨Nat.le_of_ble_eq_true rfl, Nat.le_of_ble_eq_true rfl⟩) hD hS hA (fun u H locs hw hP hD hS => ?_)
            obtain ⟨eq1, nq1, fq1⟩ := u
            obtain ⟨hnq1, hfq1, hqq1⟩ : (nq1 = 16 ∨ nq1 = 34) ∧ tp_fit fq1 ∧ (xc + 1).toInt ≤ (nq1 : Int) := hw
            have hP : va_P (tp_D E) tp_cl ((aB, .inr (6, [.ref eq1, .int 0, .int xm, .int (xc + 1)])) :: (eq1, .inl (tp_ty E 3, nq1, .inl fq1)) :: (aT, .inr (0, [.ref aY, .ref aS, .ref aB, .int xl, .int xg])) :: fr) H := hP
            have hD : va_D A ((aB, .inr (6, [.ref eq1, .int 0, .int xm, .int (xc + 1)])) :: (eq1, .inl (tp_ty E 3, nq1, .inl fq1)) :: (aT, .inr (0, [.ref aY, .ref aS, .ref aB, .int xl, .int xg])) :: fr) := hD
            refine lv_pop hx hb d_T_writeOperand_118 rfl ?_
            have hP : va_P (tp_D E) tp_cl ((eq1, .inl (tp_ty E 3, nq1, .inl fq1)) :: (aB, .inr (6, [.ref eq1, .int 0, .int xm, .int (xc + 1)])) :: (aT, .inr (0, [.ref aY, .ref aS, .ref aB, .int xl, .int xg])) :: fr) _ := tp_mvP 1 rfl hP
            have hD : va_D A ((eq1, .inl (tp_ty E 3, nq1, .inl fq1)) :: (aB, .inr (6, [.ref eq1, .int 0, .int xm, .int (xc + 1)])) :: (aT, .inr (0, [.ref aY, .ref aS, .ref aB, .int xl, .int xg])) :: fr) := tp_mvD 1 rfl hD
            have hP : va_P (tp_D E) tp_cl ((aB, .inr (6, [.ref eq1, .int 0, .int xm, .int (xc + 1)])) :: (eq1, .inl (tp_ty E 3, nq1, .inl fq1)) :: (aT, .inr (0, [.ref aY, .ref aS, .ref aB, .int xl, .int xg])) :: fr) _ := tp_mvP 1 rfl hP
            have hD : va_D A ((aB, .inr (6, [.ref eq1, .int 0, .int xm, .int (xc + 1)])) :: (eq1, .inl (tp_ty E 3, nq1, .inl fq1)) :: (aT, .inr (0, [.ref aY, .ref aS, .ref aB, .int xl, .int xg])) :: fr) := tp_mvD 1 rfl hD
            have hP : va_P (tp_D E) tp_cl ((aT, .inr (0, [.ref aY, .ref aS, .ref aB, .int xl, .int xg])) :: (aB, .inr (6, [.ref eq1, .int 0, .int xm, .int (xc + 1)])) :: (eq1, .inl (tp_ty E 3, nq1, .inl fq1)) :: fr) _ := tp_mvP 2 rfl hP
            have hD : va_D A ((aT, .inr (0, [.ref aY, .ref aS, .ref aB, .int xl, .int xg])) :: (aB, .inr (6, [.ref eq1, .int 0, .int xm, .int (xc + 1)])) :: (eq1, .inl (tp_ty E 3, nq1, .inl fq1)) :: fr) := tp_mvD 2 rfl hD
            exact tp_widen (k := 2) (n := 68) (Nat.le_of_ble_eq_true rfl) (Nat.le_of_ble_eq_true rfl) (W.vret hx hb hr (fun t ht hW => ⟨⟨(eq1, nq1, fq1, (xc + 1)), rfl, ⟨hnq1, hfq1, tp_wo6 hc (by unfold tp_ol; rw [if_neg h1, if_neg h2, if_neg h3, if_neg h4, if_neg h5]), hqq1⟩, by rw [ht]; exact hP, hD⟩, hS.F ht⟩) hS.2.2 d_T_writeOperand_119)
set_option maxHeartbeats 400000 in
set_option maxRecDepth 100000 in
theorem cs_AS_length_1 (l : Launch) (E : tp_Env) (fr : va_W) (sz : Nat) (a1 : Nat) (a2 : Nat) (x3 : Int32) (x4 : Int32) (x5 : Int32)  : Met l y_AS_length w_AS_length ({ frames := 0, cells := 0, slots := 0, locals := 0 }) (va_Pc [.ref a1] (tp_in E ((a1, .inr (6, [.ref a2, .int x3, .int x4, .int x5])) :: fr) sz)) (va_Qi (fun r (_ : Unit) => r = x5) (fun _ t => tp_out E (va_A ((a1, .inr (6, [.ref a2, .int x3, .int x4, .int x5])) :: fr) sz) ((a1, .inr (6, [.ref a2, .int x3, .int x4, .int x5])) :: fr) t) (va_A ((a1, .inr (6, [.ref a2, .int x3, .int x4, .int x5])) :: fr) sz)) 0 0 (va_A ((a1, .inr (6, [.ref a2, .int x3, .int x4, .int x5])) :: fr) sz) := by
  refine Met.ofW (cc := b_AS_length) (maxL := 1) (ret := (some .int)) (by decide) rfl ?_
  intro p e s m args below meth c s₁ B hml hv
  obtain ⟨rfl, hsz, hP, hK, hD0⟩ := hv
  have hx := B.exec
  have hb := B.bytes
  have hr := B.returns
  have htg : ∀ w ∈ tp_G, w.before ([.ref a1] : List Value).toArray s = true := fun w h => atoms_spec (ws := w_AS_length) B.pre w (List.mem_cons_of_mem _ h)
  have hown : s.vm.findClass "java/lang/AbstractStringBuilder" = some m.cls := findClass_of_methodNamed B.named
  have hlocks := B.notSynchronized
  subst hsz
  have hD := hD0.self (sz := s.heap.size)
  generalize hAe : va_A ((a1, .inr (6, [.ref a2, .int x3, .int x4, .int x5])) :: fr) s.heap.size = A at hD hK ⊢
  have hA : ∀ q : Nat, s.heap.size ≤ q → A q := fun q h => by rw [← hAe]; exact Or.inr h
  have hS : va_S A s.heap s.heap [] := va_S.rf
  have hl := lv_entry ([.ref a1]) (n := 1) (Nat.le_of_ble_eq_true rfl)
  rw [lg_entry_eq]
  generalize (lg_sl ([.ref a1]) ++ List.replicate (1 - (lg_sl ([.ref a1])).length) Slot.unset).toArray = ls at hl ⊢
  have hl : lv_has ls 1 [(0, .ref a1)] := hl
  refine lv_aload_n hx hb d_AS_length_0 rfl (lv_at hl 0 rfl) ?_
  refine va_get (D := tp_D E) (ci := 6) (v := .int x5) (C := qR_SB) (T := qF_SB) (N := 4) hx hb htg qi_SB hown hK.1 hP 0 rfl rfl 3 (by decide) (htg _ kl_AS_79) (fun _ h => h) rfl d_AS_length_1 ?_
  exact W.iret (v := x5) hx hb hr (fun t ht hW => ⟨⟨_, (), rfl, rfl, by rw [ht]; exact hP, hD⟩, hS.F ht⟩) hS.2.2 d_AS_length_4
set_option maxHeartbeats 400000 in
set_option maxRecDepth 100000 in
theorem cs_SB_length_1 (l : Launch) (E : tp_Env) (fr : va_W) (sz : Nat) (a1 : Nat) (a2 : Nat) (x3 : Int32) (x4 : Int32) (x5 : Int32)  : Met l y_SB_length w_SB_length ({ frames := 1, cells := 0, slots := 0, locals := 20 }) (va_Pc [.ref a1] (tp_in E ((a1, .inr (6, [.ref a2, .int x3, .int x4, .int x5])) :: fr) sz)) (va_Qi (fun r (_ : Unit) => r = x5) (fun _ t => tp_out E (va_A ((a1, .inr (6, [.ref a2, .int x3, .int x4, .int x5])) :: fr) sz) ((a1, .inr (6, [.ref a2, .int x3, .int x4, .int x5])) :: fr) t) (va_A ((a1, .inr (6, [.ref a2, .int x3, .int x4, .int x5])) :: fr) sz)) 0 0 (va_A ((a1, .inr (6, [.ref a2, .int x3, .int x4, .int x5])) :: fr) sz) := by
  refine Met.ofW (cc := b_SB_length) (maxL := 1) (ret := (some .int)) (by decide) rfl ?_
  intro p e s m args below meth c s₁ B hml hv
  obtain ⟨rfl, hsz, hP, hK, hD0⟩ := hv
  have hx := B.exec
  have hb := B.bytes
  have hr := B.returns
  have htg : ∀ w ∈ tp_G, w.before ([.ref a1] : List Value).toArray s = true := fun w h => atoms_spec (ws := w_SB_length) B.pre w (List.mem_cons_of_mem _ h)
  have hown : s.vm.findClass "java/lang/StringBuilder" = some m.cls := findClass_of_methodNamed B.named
  have hlocks := B.notSynchronized
  subst hsz
  have hD := hD0.self (sz := s.heap.size)
  generalize hAe : va_A ((a1, .inr (6, [.ref a2, .int x3, .int x4, .int x5])) :: fr) s.heap.size = A at hD hK ⊢
  have hA : ∀ q : Nat, s.heap.size ≤ q → A q := fun q h => by rw [← hAe]; exact Or.inr h
  have hS : va_S A s.heap s.heap [] := va_S.rf
  have hl := lv_entry ([.ref a1]) (n := 1) (Nat.le_of_ble_eq_true rfl)
  rw [lg_entry_eq]
  generalize (lg_sl ([.ref a1]) ++ List.replicate (1 - (lg_sl ([.ref a1])).length) Slot.unset).toArray = ls at hl ⊢
  have hl : lv_has ls 1 [(0, .ref a1)] := hl
  refine lv_aload_n hx hb d_SB_length_0 rfl (lv_at hl 0 rfl) ?_
  refine tp_ci (tp_rU (As := []) (rest := []) ⟨hx, hb, hml, hown, htg⟩ (cs_AS_length_1 l E fr _ a1 a2 x3 x4 x5 ) (tp_cwU 0 htg kc_AS_length (htg _ kl_SB_343) (htg _ kq_AS_length) (htg _ kz_SB) (htg _ km_AS_length) (htg _ ki_AS) ⟨by decide, by decide +kernel⟩ ⟨Nat.le_of_ble_eq_true rfl, Nat.le_of_ble_eq_true rfl⟩) (va_recv (ci := 6) (q0 := 0) hK.1 hP rfl rfl) (hK.1.1 6 _ rfl).2 hK hP hD hS hA rfl hl.1 rfl (Nat.le_of_ble_eq_true rfl) d_SB_length_1 ⟨Nat.le_of_ble_eq_true rfl, Nat.le_of_ble_eq_true rfl⟩) hD hS hA (fun r u H locs hw hP hD hS => ?_)
  subst r
  have hP : va_P (tp_D E) tp_cl ((a1, .inr (6, [.ref a2, .int x3, .int x4, .int x5])) :: fr) H := hP
  have hD : va_D A ((a1, .inr (6, [.ref a2, .int x3, .int x4, .int x5])) :: fr) := hD
  exact W.iret (v := x5) hx hb hr (fun t ht hW => ⟨⟨_, (), rfl, rfl, by rw [ht]; exact hP, hD⟩, hS.F ht⟩) hS.2.2 d_SB_length_4
set_option maxHeartbeats 4000000 in
set_option maxRecDepth 100000 in
theorem s_T_show (l : Launch) (hfl : l.stackTraces = false) (E : tp_Env) (fr : va_W) (sz : Nat) (aT aY aS : Nat) (xl xg : Int32) (aB ab : Nat) (xm xc : Int32) (nb : Nat) (fb : Nat → Int32) (xw : Int32) (hn : nb = 16 ∨ nb = 34) (hf : tp_fit fb) (hc : 0 ≤ xc.toInt) : vx_Met l y_T_show w_T_show ({ frames := 8, cells := 19, slots := 646, locals := 232 }) (va_Pc [.ref aT, .int xw] (tp_in E ((aT, .inr (0, [.ref aY, .ref aS, .ref aB, .int xl, .int xg])) :: (aB, .inr (6, [.ref ab, .int 0, .int xm, .int xc])) :: (ab, .inl (tp_ty E 3, nb, .inl fb)) :: fr) sz)) (va_Qi (fun r (u : Nat × Nat × Nat × (Nat → Int32) × Int32 × Int32) => (tp_hit xw u.1 ∧ ¬ u.1 = 0 ∧ r.toInt = (tp_lenT u.1 xw : Nat)) ∧ ((u.2.2.1 = 16 ∨ u.2.2.1 = 34) ∧ tp_fit u.2.2.2.1 ∧ u.2.2.2.2.2.toInt ≤ (u.2.2.1 : Int)) ∧ (0 ≤ r.toInt ∧ r.toInt ≤ 34) ∧ u.2.2.2.2.2 = r) (fun u t => tp_out E (va_A ((aT, .inr (0, [.ref aY, .ref aS, .ref aB, .int xl, .int xg])) :: (aB, .inr (6, [.ref ab, .int 0, .int xm, .int xc])) :: (ab, .inl (tp_ty E 3, nb, .inl fb)) :: fr) sz) ((aT, .inr (0, [.ref aY, .ref aS, .ref aB, .int xl, .int xg])) :: (aB, .inr (6, [.ref u.2.1, .int 0, .int u.2.2.2.2.1, .int u.2.2.2.2.2])) :: (u.2.1, .inl (tp_ty E 3, u.2.2.1, .inl u.2.2.2.1)) :: fr) t) (va_A ((aT, .inr (0, [.ref aY, .ref aS, .ref aB, .int xl, .int xg])) :: (aB, .inr (6, [.ref ab, .int 0, .int xm, .int xc])) :: (ab, .inl (tp_ty E 3, nb, .inl fb)) :: fr) sz)) (vx_X (fun (u : Nat × Nat × (Nat → Int32) × Int32) => tp_hit xw 0 ∧ (u.2.1 = 16 ∨ u.2.1 = 34) ∧ tp_fit u.2.2.1) (fun x u t => x = "java/lang/IllegalArgumentException" ∧ tp_out E (va_A ((aT, .inr (0, [.ref aY, .ref aS, .ref aB, .int xl, .int xg])) :: (aB, .inr (6, [.ref ab, .int 0, .int xm, .int xc])) :: (ab, .inl (tp_ty E 3, nb, .inl fb)) :: fr) sz) ((aT, .inr (0, [.ref aY, .ref aS, .ref aB, .int xl, .int xg])) :: (aB, .inr (6, [.ref u.1, .int 0, .int u.2.2.2, .int 0])) :: (u.1, .inl (tp_ty E 3, u.2.1, .inl u.2.2.1)) :: fr) t) (va_A ((aT, .inr (0, [.ref aY, .ref aS, .ref aB, .int xl, .int xg])) :: (aB, .inr (6, [.ref ab, .int 0, .int xm, .int xc])) :: (ab, .inl (tp_ty E 3, nb, .inl fb)) :: fr) sz)) 19 646 (va_A ((aT, .inr (0, [.ref aY, .ref aS, .ref aB, .int xl, .int xg])) :: (aB, .inr (6, [.ref ab, .int 0, .int xm, .int xc])) :: (ab, .inl (tp_ty E 3, nb, .inl fb)) :: fr) sz) := by
  refine vx_ofW (cc := b_T_show) (maxL := 4) (ret := (some .int)) (by decide) rfl ?_
  intro p e s m args below meth c s₁ B hml htab hv
  obtain ⟨rfl, hsz, hP, hK, hD0⟩ := hv
  have hx := B.exec
  have hb := B.bytes
  have hr := B.returns
  have htg : ∀ w ∈ tp_G, w.before ([.ref aT, .int xw] : List Value).toArray s = true := fun w h => atoms_spec (ws := w_T_show) B.pre w (List.mem_cons_of_mem _ h)
  have hown : s.vm.findClass "TwoPass" = some m.cls := findClass_of_methodNamed B.named
  have hlocks := B.notSynchronized
  subst hsz
  have hD := hD0.self (sz := s.heap.size)
  generalize hAe : va_A ((aT, .inr (0, [.ref aY, .ref aS, .ref aB, .int xl, .int xg])) :: (aB, .inr (6, [.ref ab, .int 0, .int xm, .int xc])) :: (ab, .inl (tp_ty E 3, nb, .inl fb)) :: fr) s.heap.size = A at hD hK ⊢
  have hA : ∀ q : Nat, s.heap.size ≤ q → A q := fun q h => by rw [← hAe]; exact Or.inr h
  have hS : va_S A s.heap s.heap [] := va_S.rf
  have hl := lv_entry ([.ref aT, .int xw]) (n := 4) (Nat.le_of_ble_eq_true rfl)
  rw [lg_entry_eq]
  generalize (lg_sl ([.ref aT, .int xw]) ++ List.replicate (4 - (lg_sl ([.ref aT, .int xw])).length) Slot.unset).toArray = ls at hl ⊢
  have hl : lv_has ls 4 [(0, .ref aT), (1, .int xw)] := hl
  refine lv_aload_n hx hb d_T_show_0 rfl (lv_at hl 0 rfl) ?_
  refine va_get (D := tp_D E) (ci := 0) (v := .ref aB) (C := qR_T) (T := qF_T) (N := 5) hx hb htg qi_T hown hK.1 hP 0 rfl rfl 2 (by decide) (htg _ kl_T_26) (fun _ h => h) rfl d_T_show_1 ?_
  refine lv_iconst (v := 0) hx hb d_T_show_4 (by decide) ?_
  have hP : va_P (tp_D E) tp_cl ((ab, .inl (tp_ty E 3, nb, .inl fb)) :: (aT, .inr (0, [.ref aY, .ref aS, .ref aB, .int xl, .int xg])) :: (aB, .inr (6, [.ref ab, .int 0, .int xm, .int xc])) :: fr) _ := tp_mvP 2 rfl hP
  have hD : va_D A ((ab, .inl (tp_ty E 3, nb, .inl fb)) :: (aT, .inr (0, [.ref aY, .ref aS, .ref aB, .int xl, .int xg])) :: (aB, .inr (6, [.ref ab, .int 0, .int xm, .int xc])) :: fr) := tp_mvD 2 rfl hD
  have hP : va_P (tp_D E) tp_cl ((aB, .inr (6, [.ref ab, .int 0, .int xm, .int xc])) :: (ab, .inl (tp_ty E 3, nb, .inl fb)) :: (aT, .inr (0, [.ref aY, .ref aS, .ref aB, .int xl, .int xg])) :: fr) _ := tp_mvP 2 rfl hP
  have hD : va_D A ((aB, .inr (6, [.ref ab, .int 0, .int xm, .int xc])) :: (ab, .inl (tp_ty E 3, nb, .inl fb)) :: (aT, .inr (0, [.ref aY, .ref aS, .ref aB, .int xl, .int xg])) :: fr) := tp_mvD 2 rfl hD
  refine tp_cv (tp_rV (As := [.int 0]) (rest := []) ⟨hx, hb, hml, hown, htg⟩ (s_SB_setLength l E ((aT, .inr (0, [.ref aY, .ref aS, .ref aB, .int xl, .int xg])) :: fr) _ aB ab xm xc nb fb hn hf hc) (⟨callB_of 1 htg (tp_good0 kc_SB_setLength) rfl rfl rfl (htg _ ki_SB) (htg _ kl_T_131) ⟨by decide, by decide, by decide +kernel⟩ ⟨Nat.le_of_ble_eq_true rfl, Nat.le_of_ble_eq_true rfl⟩, htg _ km_SB_setLength, htg _ kv_SB_SB_setLength⟩) (va_recv (ci := 6) (q0 := 0) hK.1 hP rfl rfl) hK hP hD hS hA rfl hl.1 rfl (Nat.le_of_ble_eq_true rfl) d_T_show_5 ⟨Nat.le_of_ble_eq_true rfl, Nat.le_of_ble_eq_true rfl⟩) hD hS hA (fun u H locs hw hP hD hS => ?_)
  obtain ⟨qs486, ns486, fs486, xs486⟩ := u
  obtain ⟨hn486, hf486⟩ : (ns486 = 16 ∨ ns486 = 34) ∧ tp_fit fs486 := hw
  have hP : va_P (tp_D E) tp_cl ((aB, .inr (6, [.ref qs486, .int 0, .int xs486, .int 0])) :: (qs486, .inl (tp_ty E 3, ns486, .inl fs486)) :: (aT, .inr (0, [.ref aY, .ref aS, .ref aB, .int xl, .int xg])) :: fr) H := hP
  have hD : va_D A ((aB, .inr (6, [.ref qs486, .int 0, .int xs486, .int 0])) :: (qs486, .inl (tp_ty E 3, ns486, .inl fs486)) :: (aT, .inr (0, [.ref aY, .ref aS, .ref aB, .int xl, .int xg])) :: fr) := hD
  refine lv_iload_n hx hb d_T_show_8 rfl (lv_at hl 1 rfl) ?_
  refine tp_cr (tp_rS (As := [.int xw]) (rest := []) ⟨hx, hb, hml, hown, htg⟩ (a_C_operationOf l E ((aB, .inr (6, [.ref qs486, .int 0, .int xs486, .int 0])) :: (qs486, .inl (tp_ty E 3, ns486, .inl fs486)) :: (aT, .inr (0, [.ref aY, .ref aS, .ref aB, .int xl, .int xg])) :: fr) _ xw ) (⟨callB_of 1 htg (tp_good0 kc_C_operationOf) rfl rfl rfl (htg _ ki_C) (htg _ kl_T_134) ⟨by decide, by decide, by decide +kernel⟩ ⟨Nat.le_of_ble_eq_true rfl, Nat.le_of_ble_eq_true rfl⟩, htg _ ks_C_operationOf⟩) hK hP hD hS hA rfl hl.1 rfl (Nat.le_of_ble_eq_true rfl) d_T_show_9 ⟨Nat.le_of_ble_eq_true rfl, Nat.le_of_ble_eq_true rfl⟩) hD hS hA (fun u H locs hw hP hD hS => ?_)
  have hhit : tp_hit xw u := hw
  generalize u = uo at hhit ⊢
  have huo : uo < 47 := tp_hit47 hhit
  have hP : va_P (tp_D E) tp_cl ((aB, .inr (6, [.ref qs486, .int 0, .int xs486, .int 0])) :: (qs486, .inl (tp_ty E 3, ns486, .inl fs486)) :: (aT, .inr (0, [.ref aY, .ref aS, .ref aB, .int xl, .int xg])) :: fr) H := hP
  have hD : va_D A ((aB, .inr (6, [.ref qs486, .int 0, .int xs486, .int 0])) :: (qs486, .inl (tp_ty E 3, ns486, .inl fs486)) :: (aT, .inr (0, [.ref aY, .ref aS, .ref aB, .int xl, .int xg])) :: fr) := hD
  refine lv_astore_n (lv' := [(2, .ref (tp_ad E uo)), (0, .ref aT), (1, .int xw)]) hx hb d_T_show_12 rfl hl (by decide) rfl (fun ls hl => ?_)
  refine lv_aload_n hx hb d_T_show_13 rfl (lv_at hl 0 rfl) ?_
  refine va_gets (v := .ref (tp_ad E 0)) hx hb (hK.opZ (i := 0) (by decide)) hS hown (htg _ kl_T_140) (fun _ h => h) d_T_show_14 ?_
  by_cases h1 : some (tp_ad E uo) = some (tp_ad E 0)
  · refine lv_acmp_ne (rx := some (tp_ad E uo)) (ry := some (tp_ad E 0)) (tgt := 28) hx hb d_T_show_17 (by decide) (fun h => absurd h1 h) (fun _ => ?_)
    have hP : va_P (tp_D E) tp_cl ((qs486, .inl (tp_ty E 3, ns486, .inl fs486)) :: (aB, .inr (6, [.ref qs486, .int 0, .int xs486, .int 0])) :: (aT, .inr (0, [.ref aY, .ref aS, .ref aB, .int xl, .int xg])) :: fr) _ := tp_mvP 1 rfl hP
    have hD : va_D A ((qs486, .inl (tp_ty E 3, ns486, .inl fs486)) :: (aB, .inr (6, [.ref qs486, .int 0, .int xs486, .int 0])) :: (aT, .inr (0, [.ref aY, .ref aS, .ref aB, .int xl, .int xg])) :: fr) := tp_mvD 1 rfl hD
    have hP : va_P (tp_D E) tp_cl ((aB, .inr (6, [.ref qs486, .int 0, .int xs486, .int 0])) :: (qs486, .inl (tp_ty E 3, ns486, .inl fs486)) :: (aT, .inr (0, [.ref aY, .ref aS, .ref aB, .int xl, .int xg])) :: fr) _ := tp_mvP 1 rfl hP
    have hD : va_D A ((aB, .inr (6, [.ref qs486, .int 0, .int xs486, .int 0])) :: (qs486, .inl (tp_ty E 3, ns486, .inl fs486)) :: (aT, .inr (0, [.ref aY, .ref aS, .ref aB, .int xl, .int xg])) :: fr) := tp_mvD 1 rfl hD
    have hP : va_P (tp_D E) tp_cl ((aT, .inr (0, [.ref aY, .ref aS, .ref aB, .int xl, .int xg])) :: (aB, .inr (6, [.ref qs486, .int 0, .int xs486, .int 0])) :: (qs486, .inl (tp_ty E 3, ns486, .inl fs486)) :: fr) _ := tp_mvP 2 rfl hP
    have hD : va_D A ((aT, .inr (0, [.ref aY, .ref aS, .ref aB, .int xl, .int xg])) :: (aB, .inr (6, [.ref qs486, .int 0, .int xs486, .int 0])) :: (qs486, .inl (tp_ty E 3, ns486, .inl fs486)) :: fr) := tp_mvD 2 rfl hD
    exact vx_throw0 (own := "TwoPass") (cls := "java/lang/IllegalArgumentException") (names := ["java/lang/RuntimeException", "java/lang/Exception"]) (ik := 38) (ic := 40) hx hb hfl hown (by decide +kernel) (by decide +kernel) (htg _ kl_T_38) (htg _ kx_IllegalArgumentException) (kxa_T_40 htg hK.2.2.2.1) kxg_T_40 hK.2.1 hK.2.2.1 hS (hl.1.trans hml.symm) d_T_show_20 d_T_show_23 d_T_show_24 d_T_show_27 (fun x h => (htab x h).elim) (Nat.le_of_ble_eq_true rfl) (Nat.le_of_ble_eq_true rfl) (Nat.le_of_ble_eq_true rfl) (Nat.le_of_ble_eq_true rfl) hlocks (fun t hvm hz hq => ⟨(qs486, ns486, fs486, xs486), ⟨tp_hit00 hhit (hK.opD huo (by decide) (Option.some.inj h1)), hn486, hf486⟩, ⟨rfl, va_P.kept hP (fun k q hk => hq _ (vx_lt hP hk)), hD⟩, ⟨Nat.le_trans hS.1 hz, fun q h1 h2 => (hq q (Nat.lt_of_lt_of_le h1 hS.1)).trans (hS.2.1 q h1 h2)⟩⟩) hS.2.2 (Nat.le_of_ble_eq_true rfl) (Nat.le_of_ble_eq_true rfl)
  · refine lv_acmp_ne (rx := some (tp_ad E uo)) (ry := some (tp_ad E 0)) (tgt := 28) hx hb d_T_show_17 (by decide) (fun _ => ?_) (fun h => absurd h h1)
    refine lv_aload_n hx hb d_T_show_28 rfl (lv_at hl 1 rfl) ?_
    refine va_get (D := tp_D E) (ci := 0) (v := .ref aB) (C := qR_T) (T := qF_T) (N := 5) hx hb htg qi_T hown hK.1 hP 2 rfl rfl 2 (by decide) (htg _ kl_T_26) (fun _ h => h) rfl d_T_show_29 ?_
    refine lv_aload_n hx hb d_T_show_32 rfl (lv_at hl 0 rfl) ?_
    refine vk_getf (v := .ref (tp_ad E (200 + uo))) hx hb (hK.txt (i := uo) huo) hS hown (htg _ kl_T_146) (fun _ h => h) d_T_show_33 ?_
    refine tp_cr (tp_rV (As := [.ref (tp_ad E (200 + uo))]) (rest := []) ⟨hx, hb, hml, hown, htg⟩ (a_SB_appS l E ((aT, .inr (0, [.ref aY, .ref aS, .ref aB, .int xl, .int xg])) :: fr) _ aB qs486 xs486 ns486 fs486 uo (Nat.lt_of_lt_of_le huo (by decide)) hn486 hf486) (⟨callB_of 1 htg (tp_good0 kc_SB_append_2) rfl rfl rfl (htg _ ki_SB) (htg _ kl_T_150) ⟨by decide, by decide, by decide +kernel⟩ ⟨Nat.le_of_ble_eq_true rfl, Nat.le_of_ble_eq_true rfl⟩, htg _ km_SB_append_2, htg _ kv_SB_SB_append_2⟩) (va_recv (ci := 6) (q0 := 0) hK.1 hP rfl rfl) hK hP hD hS hA rfl hl.1 rfl (Nat.le_of_ble_eq_true rfl) d_T_show_36 ⟨Nat.le_of_ble_eq_true rfl, Nat.le_of_ble_eq_true rfl⟩) hD hS hA (fun u H locs hw hP hD hS => ?_)
    obtain ⟨eq1, nq1, fq1, cq1⟩ := u
    obtain ⟨hnq1, hfq1, hcq1, hqq1⟩ : (nq1 = 16 ∨ nq1 = 34) ∧ tp_fit fq1 ∧ cq1.toInt = ((tp_len.getD uo 0 : Nat) : Int) ∧ cq1.toInt ≤ (nq1 : Int) := hw
    have hP : va_P (tp_D E) tp_cl ((aB, .inr (6, [.ref eq1, .int 0, .int xs486, .int cq1])) :: (eq1, .inl (tp_ty E 3, nq1, .inl fq1)) :: (aT, .inr (0, [.ref aY, .ref aS, .ref aB, .int xl, .int xg])) :: fr) H := hP
    have hD : va_D A ((aB, .inr (6, [.ref eq1, .int 0, .int xs486, .int cq1])) :: (eq1, .inl (tp_ty E 3, nq1, .inl fq1)) :: (aT, .inr (0, [.ref aY, .ref aS, .ref aB, .int xl, .int xg])) :: fr) := hD
    refine lv_pop hx hb d_T_show_39 rfl ?_
    refine lv_aload_n hx hb d_T_show_40 rfl (lv_at hl 1 rfl) ?_
    refine va_get (D := tp_D E) (ci := 0) (v := .ref aB) (C := qR_T) (T := qF_T) (N := 5) hx hb htg qi_T hown hK.1 hP 2 rfl rfl 2 (by decide) (htg _ kl_T_26) (fun _ h => h) rfl d_T_show_41 ?_
    refine lv_bipush (v := 32) hx hb d_T_show_44 (by decide) ?_
    refine tp_cr (tp_rV (As := [.int 32]) (rest := []) ⟨hx, hb, hml, hown, htg⟩ (s_SB_appC l E ((aT, .inr (0, [.ref aY, .ref aS, .ref aB, .int xl, .int xg])) :: fr) _ aB eq1 xs486 cq1 nq1 fq1 32 hnq1 hfq1 (tp_sh1 huo hcq1) (by decide)) (⟨callB_of 1 htg (tp_good0 kc_SB_append_0) rfl rfl rfl (htg _ ki_SB) (htg _ kl_T_154) ⟨by decide, by decide, by decide +kernel⟩ ⟨Nat.le_of_ble_eq_true rfl, Nat.le_of_ble_eq_true rfl⟩, htg _ km_SB_append_0, htg _ kv_SB_SB_append_0⟩) (va_recv (ci := 6) (q0 := 0) hK.1 hP rfl rfl) hK hP hD hS hA rfl hl.1 rfl (Nat.le_of_ble_eq_true rfl) d_T_show_46 ⟨Nat.le_of_ble_eq_true rfl, Nat.le_of_ble_eq_true rfl⟩) hD hS hA (fun u H locs hw hP hD hS => ?_)
    obtain ⟨eq2, nq2, fq2⟩ := u
    obtain ⟨hnq2, hfq2, hqq2⟩ : (nq2 = 16 ∨ nq2 = 34) ∧ tp_fit fq2 ∧ (cq1 + 1).toInt ≤ (nq2 : Int) := hw
    have hP : va_P (tp_D E) tp_cl ((aB, .inr (6, [.ref eq2, .int 0, .int xs486, .int (cq1 + 1)])) :: (eq2, .inl (tp_ty E 3, nq2, .inl fq2)) :: (aT, .inr (0, [.ref aY, .ref aS, .ref aB, .int xl, .int xg])) :: fr) H := hP
    have hD : va_D A ((aB, .inr (6, [.ref eq2, .int 0, .int xs486, .int (cq1 + 1)])) :: (eq2, .inl (tp_ty E 3, nq2, .inl fq2)) :: (aT, .inr (0, [.ref aY, .ref aS, .ref aB, .int xl, .int xg])) :: fr) := hD
    refine lv_pop hx hb d_T_show_49 rfl ?_
    refine lv_iconst (v := 0) hx hb d_T_show_50 (by decide) ?_
    refine lv_istore_n (lv' := [(3, .int 0), (2, .ref (tp_ad E uo)), (0, .ref aT), (1, .int xw)]) hx hb d_T_show_51 rfl hl (by decide) rfl (fun ls hl => ?_)
    refine tp_loopC (fun j ls H locs cells slots (a : Int32 × Nat × Nat × (Nat → Int32) × Int32) => tp_S5 (fun k qv nv fv cv => ((0 ≤ k.toInt) ∧ (k.toInt + (j : Int) = (tp_len.getD (47 + uo) 0 : Nat)) ∧ (nv = 16 ∨ nv = 34) ∧ (tp_fit fv) ∧ (cv.toInt = (tp_len.getD uo 0 : Nat) + 1 + (tp_os uo xw k.toInt.toNat : Nat)) ∧ (cv.toInt ≤ (nv : Int)) ∧ (cells = 3 + 2 * k.toInt.toNat ∧ slots = 102 + 68 * k.toInt.toNat)) ∧ lv_has ls 4 [(3, .int k), (2, .ref (tp_ad E uo)), (0, .ref aT), (1, .int xw)] ∧ va_P (tp_D E) tp_cl ((aB, .inr (6, [.ref qv, .int 0, .int xs486, .int cv])) :: (qv, .inl (tp_ty E 3, nv, .inl fv)) :: (aT, .inr (0, [.ref aY, .ref aS, .ref aB, .int xl, .int xg])) :: fr) H ∧ va_D A ((aB, .inr (6, [.ref qv, .int 0, .int xs486, .int cv])) :: (qv, .inl (tp_ty E 3, nv, .inl fv)) :: (aT, .inr (0, [.ref aY, .ref aS, .ref aB, .int xl, .int xg])) :: fr) ∧ va_S A s.heap H locs) a) ?_ (tp_len.getD (47 + uo) 0) (0, eq2, nq2, fq2, (cq1 + 1)) ⟨⟨show 0 ≤ (0 : Int32).toInt from by decide, show (0 : Int32).toInt + ((tp_len.getD (47 + uo) 0 : Nat) : Int) = ((tp_len.getD (47 + uo) 0 : Nat) : Int) from by rw [Int32.toInt_zero]; omega, hnq2, hfq2, tp_sh3 huo hcq1, hqq2, show 3 = 3 + 2 * (0 : Int32).toInt.toNat ∧ 102 = 102 + 68 * (0 : Int32).toInt.toNat from by decide⟩, tp_lvI hl [0, 1, 2, 3] rfl, hP, hD, hS⟩
    intro j a ls H locs cells slots hI ih
    obtain ⟨k, qv, nv, fv, cv⟩ := a
    obtain ⟨⟨hk0, hkl, hnv, hfv, hcv, hqv, hcr⟩, hl, hP, hD, hS⟩ : ((0 ≤ k.toInt) ∧ (k.toInt + (j : Int) = (tp_len.getD (47 + uo) 0 : Nat)) ∧ (nv = 16 ∨ nv = 34) ∧ (tp_fit fv) ∧ (cv.toInt = (tp_len.getD uo 0 : Nat) + 1 + (tp_os uo xw k.toInt.toNat : Nat)) ∧ (cv.toInt ≤ (nv : Int)) ∧ (cells = 3 + 2 * k.toInt.toNat ∧ slots = 102 + 68 * k.toInt.toNat)) ∧ lv_has ls 4 [(3, .int k), (2, .ref (tp_ad E uo)), (0, .ref aT), (1, .int xw)] ∧ va_P (tp_D E) tp_cl ((aB, .inr (6, [.ref qv, .int 0, .int xs486, .int cv])) :: (qv, .inl (tp_ty E 3, nv, .inl fv)) :: (aT, .inr (0, [.ref aY, .ref aS, .ref aB, .int xl, .int xg])) :: fr) H ∧ va_D A ((aB, .inr (6, [.ref qv, .int 0, .int xs486, .int cv])) :: (qv, .inl (tp_ty E 3, nv, .inl fv)) :: (aT, .inr (0, [.ref aY, .ref aS, .ref aB, .int xl, .int xg])) :: fr) ∧ va_S A s.heap H locs := hI
    have hl7 := tp_len7 (i := 47 + uo) (by omega)
    refine lv_iload_n hx hb d_T_show_52 rfl (lv_at hl 0 rfl) ?_
    refine lv_aload_n hx hb d_T_show_53 rfl (lv_at hl 1 rfl) ?_
    refine vk_getf (v := .ref (tp_ad E (200 + (47 + uo)))) hx hb (hK.opr (i := uo) huo) hS hown (htg _ kl_T_157) (fun _ h => h) d_T_show_54 ?_
    refine tp_ci (tp_rV (As := []) (rest := [.int k]) ⟨hx, hb, hml, hown, htg⟩ (a_ST_length l E ((aB, .inr (6, [.ref qv, .int 0, .int xs486, .int cv])) :: (qv, .inl (tp_ty E 3, nv, .inl fv)) :: (aT, .inr (0, [.ref aY, .ref aS, .ref aB, .int xl, .int xg])) :: fr) _ (47 + uo) (Nat.lt_of_lt_of_le (Nat.add_lt_add_left huo 47) (by decide)) ) (⟨callB_of 0 htg (tp_good0 kc_ST_length) rfl rfl rfl (htg _ ki_ST) (htg _ kl_T_160) ⟨by decide, by decide, by decide +kernel⟩ ⟨Nat.le_of_ble_eq_true rfl, Nat.le_of_ble_eq_true rfl⟩, htg _ km_ST_length, htg _ kv_ST_ST_length⟩) (hK.strO (i := (47 + uo)) (Nat.lt_of_lt_of_le (Nat.add_lt_add_left huo 47) (by decide)) hS) hK hP hD hS hA rfl hl.1 rfl (Nat.le_of_ble_eq_true rfl) d_T_show_57 ⟨Nat.le_trans (m := 19) (by omega) (Nat.le_of_ble_eq_true rfl), Nat.le_trans (m := 646) (by omega) (Nat.le_of_ble_eq_true rfl)⟩) hD hS hA (fun r u H locs hw hP hD hS => ?_)
    subst r
    have hP : va_P (tp_D E) tp_cl ((aB, .inr (6, [.ref qv, .int 0, .int xs486, .int cv])) :: (qv, .inl (tp_ty E 3, nv, .inl fv)) :: (aT, .inr (0, [.ref aY, .ref aS, .ref aB, .int xl, .int xg])) :: fr) H := hP
    have hD : va_D A ((aB, .inr (6, [.ref qv, .int 0, .int xs486, .int cv])) :: (qv, .inl (tp_ty E 3, nv, .inl fv)) :: (aT, .inr (0, [.ref aY, .ref aS, .ref aB, .int xl, .int xg])) :: fr) := hD
    by_cases h2 : (Int32.ofNat (tp_len.getD (47 + uo) 0)) ≤ k
    · refine lv_icmp_ge (tgt := 83) hx hb d_T_show_60 (by decide) (fun _ => ?_) (fun h => absurd h2 h)
      refine lv_aload_n hx hb d_T_show_83 rfl (lv_at hl 2 rfl) ?_
      refine va_get (D := tp_D E) (ci := 0) (v := .ref aB) (C := qR_T) (T := qF_T) (N := 5) hx hb htg qi_T hown hK.1 hP 2 rfl rfl 2 (by decide) (htg _ kl_T_26) (fun _ h => h) rfl d_T_show_84 ?_
      refine tp_ci (tp_rV (As := []) (rest := []) ⟨hx, hb, hml, hown, htg⟩ (cs_SB_length_1 l E ((qv, .inl (tp_ty E 3, nv, .inl fv)) :: (aT, .inr (0, [.ref aY, .ref aS, .ref aB, .int xl, .int xg])) :: fr) _ aB qv 0 xs486 cv ) (⟨callB_of 0 htg (tp_good0 kc_SB_length) rfl rfl rfl (htg _ ki_SB) (htg _ kl_T_172) ⟨by decide, by decide, by decide +kernel⟩ ⟨Nat.le_of_ble_eq_true rfl, Nat.le_of_ble_eq_true rfl⟩, htg _ km_SB_length, htg _ kv_SB_SB_length⟩) (va_recv (ci := 6) (q0 := 0) hK.1 hP rfl rfl) hK hP hD hS hA rfl hl.1 rfl (Nat.le_of_ble_eq_true rfl) d_T_show_87 ⟨Nat.le_trans (m := 19) (by omega) (Nat.le_of_ble_eq_true rfl), Nat.le_trans (m := 646) (by omega) (Nat.le_of_ble_eq_true rfl)⟩) hD hS hA (fun r u H locs hw hP hD hS => ?_)
      subst r
      have hP : va_P (tp_D E) tp_cl ((aB, .inr (6, [.ref qv, .int 0, .int xs486, .int cv])) :: (qv, .inl (tp_ty E 3, nv, .inl fv)) :: (aT, .inr (0, [.ref aY, .ref aS, .ref aB, .int xl, .int xg])) :: fr) H := hP
      have hD : va_D A ((aB, .inr (6, [.ref qv, .int 0, .int xs486, .int cv])) :: (qv, .inl (tp_ty E 3, nv, .inl fv)) :: (aT, .inr (0, [.ref aY, .ref aS, .ref aB, .int xl, .int xg])) :: fr) := hD
      have hP : va_P (tp_D E) tp_cl ((qv, .inl (tp_ty E 3, nv, .inl fv)) :: (aB, .inr (6, [.ref qv, .int 0, .int xs486, .int cv])) :: (aT, .inr (0, [.ref aY, .ref aS, .ref aB, .int xl, .int xg])) :: fr) _ := tp_mvP 1 rfl hP
      have hD : va_D A ((qv, .inl (tp_ty E 3, nv, .inl fv)) :: (aB, .inr (6, [.ref qv, .int 0, .int xs486, .int cv])) :: (aT, .inr (0, [.ref aY, .ref aS, .ref aB, .int xl, .int xg])) :: fr) := tp_mvD 1 rfl hD
      have hP : va_P (tp_D E) tp_cl ((aB, .inr (6, [.ref qv, .int 0, .int xs486, .int cv])) :: (qv, .inl (tp_ty E 3, nv, .inl fv)) :: (aT, .inr (0, [.ref aY, .ref aS, .ref aB, .int xl, .int xg])) :: fr) _ := tp_mvP 1 rfl hP
      have hD : va_D A ((aB, .inr (6, [.ref qv, .int 0, .int xs486, .int cv])) :: (qv, .inl (tp_ty E 3, nv, .inl fv)) :: (aT, .inr (0, [.ref aY, .ref aS, .ref aB, .int xl, .int xg])) :: fr) := tp_mvD 1 rfl hD
      have hP : va_P (tp_D E) tp_cl ((aT, .inr (0, [.ref aY, .ref aS, .ref aB, .int xl, .int xg])) :: (aB, .inr (6, [.ref qv, .int 0, .int xs486, .int cv])) :: (qv, .inl (tp_ty E 3, nv, .inl fv)) :: fr) _ := tp_mvP 2 rfl hP
      have hD : va_D A ((aT, .inr (0, [.ref aY, .ref aS, .ref aB, .int xl, .int xg])) :: (aB, .inr (6, [.ref qv, .int 0, .int xs486, .int cv])) :: (qv, .inl (tp_ty E 3, nv, .inl fv)) :: fr) := tp_mvD 2 rfl hD
      have hlt := tp_sh5 hl7 hk0 hkl h2 hcv
      exact tp_widen (k := 19) (n := 646) (by omega) (by omega) (vx_ret (W.iret (v := cv) hx hb hr (fun t ht hW => ⟨⟨_, (uo, qv, nv, fv, xs486, cv), rfl, ⟨⟨hhit, fun (e : uo = 0) => h1 (by rw [e]), hlt⟩, ⟨hnv, hfv, hqv⟩, sf_l34 huo hlt, rfl⟩, by rw [ht]; exact hP, hD⟩, hS.F ht⟩) hS.2.2 d_T_show_90))
    · refine lv_icmp_ge (tgt := 83) hx hb d_T_show_60 (by decide) (fun h => absurd h h2) (fun _ => ?_)
      refine lv_aload_n hx hb d_T_show_63 rfl (lv_at hl 2 rfl) ?_
      refine lv_aload_n hx hb d_T_show_64 rfl (lv_at hl 1 rfl) ?_
      refine lv_aload_n hx hb d_T_show_65 rfl (lv_at hl 1 rfl) ?_
      refine vk_getf (v := .ref (tp_ad E (200 + (47 + uo)))) hx hb (hK.opr (i := uo) huo) hS hown (htg _ kl_T_157) (fun _ h => h) d_T_show_66 ?_
      refine lv_iload_n hx hb d_T_show_69 rfl (lv_at hl 0 rfl) ?_
      refine tp_ci (tp_rV (As := [.int k]) (rest := [.ref (tp_ad E uo), .ref aT]) ⟨hx, hb, hml, hown, htg⟩ (a_ST_charAt l E ((aB, .inr (6, [.ref qv, .int 0, .int xs486, .int cv])) :: (qv, .inl (tp_ty E 3, nv, .inl fv)) :: (aT, .inr (0, [.ref aY, .ref aS, .ref aB, .int xl, .int xg])) :: fr) _ (47 + uo) (Nat.lt_of_lt_of_le (Nat.add_lt_add_left huo 47) (by decide)) k (tp_nn hk0) (Int32.not_le.mp h2)) (⟨callB_of 1 htg (tp_good0 kc_ST_charAt) rfl rfl rfl (htg _ ki_ST) (htg _ kl_T_164) ⟨by decide, by decide, by decide +kernel⟩ ⟨Nat.le_of_ble_eq_true rfl, Nat.le_of_ble_eq_true rfl⟩, htg _ km_ST_charAt, htg _ kv_ST_ST_charAt⟩) (hK.strO (i := (47 + uo)) (Nat.lt_of_lt_of_le (Nat.add_lt_add_left huo 47) (by decide)) hS) hK hP hD hS hA rfl hl.1 rfl (Nat.le_of_ble_eq_true rfl) d_T_show_70 ⟨Nat.le_trans (m := 19) (by omega) (Nat.le_of_ble_eq_true rfl), Nat.le_trans (m := 646) (by omega) (Nat.le_of_ble_eq_true rfl)⟩) hD hS hA (fun r u H locs hw hP hD hS => ?_)
      subst r
      have hP : va_P (tp_D E) tp_cl ((aB, .inr (6, [.ref qv, .int 0, .int xs486, .int cv])) :: (qv, .inl (tp_ty E 3, nv, .inl fv)) :: (aT, .inr (0, [.ref aY, .ref aS, .ref aB, .int xl, .int xg])) :: fr) H := hP
      have hD : va_D A ((aB, .inr (6, [.ref qv, .int 0, .int xs486, .int cv])) :: (qv, .inl (tp_ty E 3, nv, .inl fv)) :: (aT, .inr (0, [.ref aY, .ref aS, .ref aB, .int xl, .int xg])) :: fr) := hD
      refine lv_iload_n hx hb d_T_show_73 rfl (lv_at hl 3 rfl) ?_
      have hP : va_P (tp_D E) tp_cl ((qv, .inl (tp_ty E 3, nv, .inl fv)) :: (aB, .inr (6, [.ref qv, .int 0, .int xs486, .int cv])) :: (aT, .inr (0, [.ref aY, .ref aS, .ref aB, .int xl, .int xg])) :: fr) _ := tp_mvP 1 rfl hP
      have hD : va_D A ((qv, .inl (tp_ty E 3, nv, .inl fv)) :: (aB, .inr (6, [.ref qv, .int 0, .int xs486, .int cv])) :: (aT, .inr (0, [.ref aY, .ref aS, .ref aB, .int xl, .int xg])) :: fr) := tp_mvD 1 rfl hD
      have hP : va_P (tp_D E) tp_cl ((aB, .inr (6, [.ref qv, .int 0, .int xs486, .int cv])) :: (qv, .inl (tp_ty E 3, nv, .inl fv)) :: (aT, .inr (0, [.ref aY, .ref aS, .ref aB, .int xl, .int xg])) :: fr) _ := tp_mvP 1 rfl hP
      have hD : va_D A ((aB, .inr (6, [.ref qv, .int 0, .int xs486, .int cv])) :: (qv, .inl (tp_ty E 3, nv, .inl fv)) :: (aT, .inr (0, [.ref aY, .ref aS, .ref aB, .int xl, .int xg])) :: fr) := tp_mvD 1 rfl hD
      have hP : va_P (tp_D E) tp_cl ((aT, .inr (0, [.ref aY, .ref aS, .ref aB, .int xl, .int xg])) :: (aB, .inr (6, [.ref qv, .int 0, .int xs486, .int cv])) :: (qv, .inl (tp_ty E 3, nv, .inl fv)) :: fr) _ := tp_mvP 2 rfl hP
      have hD : va_D A ((aT, .inr (0, [.ref aY, .ref aS, .ref aB, .int xl, .int xg])) :: (aB, .inr (6, [.ref qv, .int 0, .int xs486, .int cv])) :: (qv, .inl (tp_ty E 3, nv, .inl fv)) :: fr) := tp_mvD 2 rfl hD
      refine tp_cv (tp_rV (As := [.ref (tp_ad E uo), .int ((tp_byt.getD (47 + uo) []).getD k.toNatClampNeg 0), .int xw]) (rest := []) ⟨hx, hb, hml, hown, htg⟩ (a_T_writeOperand l E fr _ aT aY aS xl xg aB qv xs486 cv nv fv uo huo ((tp_byt.getD (47 + uo) []).getD k.toNatClampNeg 0) xw hnv hfv (tp_sh4 huo hk0 (tp_klt hl7 h2) hcv) (tp_ch255 (i := 47 + uo) (by omega))) (⟨callB_of 3 htg (tp_good0 kc_T_writeOperand) rfl rfl rfl (htg _ ki_T) (htg _ kl_T_168) ⟨by decide, by decide, by decide +kernel⟩ ⟨Nat.le_of_ble_eq_true rfl, Nat.le_of_ble_eq_true rfl⟩, htg _ km_T_writeOperand, htg _ kp_T_writeOperand⟩) (va_recv (ci := 0) (q0 := 0) hK.1 hP rfl rfl) hK hP hD hS hA rfl hl.1 rfl (Nat.le_of_ble_eq_true rfl) d_T_show_74 ⟨Nat.le_trans (m := 19) (by omega) (Nat.le_of_ble_eq_true rfl), Nat.le_trans (m := 646) (by omega) (Nat.le_of_ble_eq_true rfl)⟩) hD hS hA (fun u H locs hw hP hD hS => ?_)
      obtain ⟨eq3, nq3, fq3, cq3⟩ := u
      obtain ⟨hnq3, hfq3, hcq3, hqq3⟩ : (nq3 = 16 ∨ nq3 = 34) ∧ tp_fit fq3 ∧ cq3.toInt = cv.toInt + (tp_ol uo ((tp_byt.getD (47 + uo) []).getD k.toNatClampNeg 0) xw : Int) ∧ cq3.toInt ≤ (nq3 : Int) := hw
      have hP : va_P (tp_D E) tp_cl ((aT, .inr (0, [.ref aY, .ref aS, .ref aB, .int xl, .int xg])) :: (aB, .inr (6, [.ref eq3, .int 0, .int xs486, .int cq3])) :: (eq3, .inl (tp_ty E 3, nq3, .inl fq3)) :: fr) H := hP
      have hD : va_D A ((aT, .inr (0, [.ref aY, .ref aS, .ref aB, .int xl, .int xg])) :: (aB, .inr (6, [.ref eq3, .int 0, .int xs486, .int cq3])) :: (eq3, .inl (tp_ty E 3, nq3, .inl fq3)) :: fr) := hD
      refine lv_iinc (k := 0) (v := (k + 1)) (lv' := [(3, .int (k + 1)), (2, .ref (tp_ad E uo)), (0, .ref aT), (1, .int xw)]) hx hb d_T_show_77 hl rfl rfl (by decide) rfl (fun ls hl => ?_)
      refine lv_goto (tgt := 52) hx hb d_T_show_80 (by decide) ?_
      have hP : va_P (tp_D E) tp_cl ((aT, .inr (0, [.ref aY, .ref aS, .ref aB, .int xl, .int xg])) :: (aB, .inr (6, [.ref eq3, .int 0, .int xs486, .int cq3])) :: (eq3, .inl (tp_ty E 3, nq3, .inl fq3)) :: fr) _ := tp_mvP 0 rfl hP
      have hD : va_D A ((aT, .inr (0, [.ref aY, .ref aS, .ref aB, .int xl, .int xg])) :: (aB, .inr (6, [.ref eq3, .int 0, .int xs486, .int cq3])) :: (eq3, .inl (tp_ty E 3, nq3, .inl fq3)) :: fr) := tp_mvD 0 rfl hD
      have hP : va_P (tp_D E) tp_cl ((eq3, .inl (tp_ty E 3, nq3, .inl fq3)) :: (aT, .inr (0, [.ref aY, .ref aS, .ref aB, .int xl, .int xg])) :: (aB, .inr (6, [.ref eq3, .int 0, .int xs486, .int cq3])) :: fr) _ := tp_mvP 2 rfl hP
      have hD : va_D A ((eq3, .inl (tp_ty E 3, nq3, .inl fq3)) :: (aT, .inr (0, [.ref aY, .ref aS, .ref aB, .int xl, .int xg])) :: (aB, .inr (6, [.ref eq3, .int 0, .int xs486, .int cq3])) :: fr) := tp_mvD 2 rfl hD
      have hP : va_P (tp_D E) tp_cl ((aB, .inr (6, [.ref eq3, .int 0, .int xs486, .int cq3])) :: (eq3, .inl (tp_ty E 3, nq3, .inl fq3)) :: (aT, .inr (0, [.ref aY, .ref aS, .ref aB, .int xl, .int xg])) :: fr) _ := tp_mvP 2 rfl hP
      have hD : va_D A ((aB, .inr (6, [.ref eq3, .int 0, .int xs486, .int cq3])) :: (eq3, .inl (tp_ty E 3, nq3, .inl fq3)) :: (aT, .inr (0, [.ref aY, .ref aS, .ref aB, .int xl, .int xg])) :: fr) := tp_mvD 2 rfl hD
      have hlt := (tp_klt hl7 h2)
      have hk1 : (k + 1).toInt = k.toInt + 1 := tp_inc (by omega)
      have e2 : (k + 1).toInt.toNat = k.toInt.toNat + 1 := by omega
      have f5 : cq3.toInt = (tp_len.getD uo 0 : Nat) + 1 + (tp_os uo xw (k + 1).toInt.toNat : Nat) := by rw [e2, hcq3, hcv, tp_os_succ hk0]; omega
      have f1 : 0 ≤ (k + 1).toInt := by omega
      have f2 : (k + 1).toInt + ((j - 1 : Nat) : Int) = ((tp_len.getD (47 + uo) 0 : Nat) : Int) := by omega
      have f6 : cells + 0 + 0 + 2 = 3 + 2 * (k + 1).toInt.toNat ∧ slots + 0 + 0 + 68 = 102 + 68 * (k + 1).toInt.toNat := by omega
      exact ih (j - 1) (k + 1, eq3, nq3, fq3, cq3) ls _ _ _ _ (by omega) ⟨⟨f1, f2, hnq3, hfq3, f5, hqq3, f6⟩, tp_lvI hl [0, 1, 2, 3] rfl, hP, hD, hS⟩
set_option maxHeartbeats 4000000 in
set_option maxRecDepth 100000 in
theorem s_AS_charAt (l : Launch) (E : tp_Env) (fr : va_W) (sz : Nat) (aB ab : Nat) (xm xc xk : Int32) (nb : Nat) (fb : Nat → Int32) (hn : nb = 16 ∨ nb = 34) (hq : xc.toInt ≤ (nb : Int)) (h1 : ¬ xk < 0) (h2 : xk < xc) : Met l y_AS_charAt w_AS_charAt ({ frames := 2, cells := 0, slots := 0, locals := 43 }) (va_Pc [.ref aB, .int xk] (tp_in E ((aB, .inr (6, [.ref ab, .int 0, .int xm, .int xc])) :: (ab, .inl (tp_ty E 3, nb, .inl fb)) :: fr) sz)) (va_Qi (fun r (_ : Unit) => narrow .char (.int r) = .int r) (fun _ t => tp_out E (va_A ((aB, .inr (6, [.ref ab, .int 0, .int xm, .int xc])) :: (ab, .inl (tp_ty E 3, nb, .inl fb)) :: fr) sz) ((aB, .inr (6, [.ref ab, .int 0, .int xm, .int xc])) :: (ab, .inl (tp_ty E 3, nb, .inl fb)) :: fr) t) (va_A ((aB, .inr (6, [.ref ab, .int 0, .int xm, .int xc])) :: (ab, .inl (tp_ty E 3, nb, .inl fb)) :: fr) sz)) 0 0 (va_A ((aB, .inr (6, [.ref ab, .int 0, .int xm, .int xc])) :: (ab, .inl (tp_ty E 3, nb, .inl fb)) :: fr) sz) := by
  refine Met.ofW (cc := b_AS_charAt) (maxL := 5) (ret := (some .char)) (by decide) rfl ?_
  intro p e s m args below meth c s₁ B hml hv
  obtain ⟨rfl, hsz, hP, hK, hD0⟩ := hv
  have hx := B.exec
  have hb := B.bytes
  have hr := B.returns
  have htg : ∀ w ∈ tp_G, w.before ([.ref aB, .int xk] : List Value).toArray s = true := fun w h => atoms_spec (ws := w_AS_charAt) B.pre w (List.mem_cons_of_mem _ h)
  have hown : s.vm.findClass "java/lang/AbstractStringBuilder" = some m.cls := findClass_of_methodNamed B.named
  have hlocks := B.notSynchronized
  subst hsz
  have hD := hD0.self (sz := s.heap.size)
  generalize hAe : va_A ((aB, .inr (6, [.ref ab, .int 0, .int xm, .int xc])) :: (ab, .inl (tp_ty E 3, nb, .inl fb)) :: fr) s.heap.size = A at hD hK ⊢
  have hA : ∀ q : Nat, s.heap.size ≤ q → A q := fun q h => by rw [← hAe]; exact Or.inr h
  have hS : va_S A s.heap s.heap [] := va_S.rf
  have hl := lv_entry ([.ref aB, .int xk]) (n := 5) (Nat.le_of_ble_eq_true rfl)
  rw [lg_entry_eq]
  generalize (lg_sl ([.ref aB, .int xk]) ++ List.replicate (5 - (lg_sl ([.ref aB, .int xk])).length) Slot.unset).toArray = ls at hl ⊢
  have hl : lv_has ls 5 [(0, .ref aB), (1, .int xk)] := hl
  rcases hn with rfl | rfl
  · refine lv_aload_n hx hb d_AS_charAt_0 rfl (lv_at hl 0 rfl) ?_
    refine va_get (D := tp_D E) (ci := 6) (v := .int 0) (C := qR_SB) (T := qF_SB) (N := 4) hx hb htg qi_SB hown hK.1 hP 0 rfl rfl 1 (by decide) (htg _ kl_AS_22) (fun _ h => h) rfl d_AS_charAt_1 ?_
    refine lv_istore_n (lv' := [(2, .int 0), (0, .ref aB), (1, .int xk)]) hx hb d_AS_charAt_4 rfl hl (by decide) rfl (fun ls hl => ?_)
    refine lv_aload_n hx hb d_AS_charAt_5 rfl (lv_at hl 1 rfl) ?_
    refine va_get (D := tp_D E) (ci := 6) (v := .ref ab) (C := qR_SB) (T := qF_SB) (N := 4) hx hb htg qi_SB hown hK.1 hP 0 rfl rfl 0 (by decide) (htg _ kl_AS_15) (fun _ h => h) rfl d_AS_charAt_6 ?_
    refine lv_astore_n (lv' := [(3, .ref ab), (2, .int 0), (0, .ref aB), (1, .int xk)]) hx hb d_AS_charAt_9 rfl hl (by decide) rfl (fun ls hl => ?_)
    refine lv_aload_n hx hb d_AS_charAt_10 rfl (lv_at hl 2 rfl) ?_
    refine va_get (D := tp_D E) (ci := 6) (v := .int xc) (C := qR_SB) (T := qF_SB) (N := 4) hx hb htg qi_SB hown hK.1 hP 0 rfl rfl 3 (by decide) (htg _ kl_AS_79) (fun _ h => h) rfl d_AS_charAt_11 ?_
    refine lv_aload_n hx hb d_AS_charAt_14 rfl (lv_at hl 0 rfl) ?_
    refine va_alen (D := tp_D E) (v := 16) hx hb hK.1 hP 1 3 rfl rfl rfl d_AS_charAt_15 ?_
    refine lv_iload_n hx hb d_AS_charAt_16 rfl (lv_at hl 1 rfl) ?_
    refine lv_ishr hx hb d_AS_charAt_17 ?_
    refine tp_topi (v := 16) (by decide) ?_
    refine va_mmin hx hb (by rw [hml]; exact hl.1.symm) hown (htg _ kl_AS_138) (htg _ ks_MA_min) (htg _ ki_MA) (htg _ kc_MA_min) (Nat.le_of_ble_eq_true rfl) (Nat.le_of_ble_eq_true rfl) (Nat.le_of_ble_eq_true rfl) (Nat.le_of_ble_eq_true rfl) d_AS_charAt_18 ?_
    refine tp_topi (v := xc) (if_neg (sf_ncap16 hq)) ?_
    refine lv_istore (lv' := [(4, .int xc), (3, .ref ab), (2, .int 0), (0, .ref aB), (1, .int xk)]) hx hb d_AS_charAt_21 hl (by decide) rfl (fun ls hl => ?_)
    refine lv_iload_n hx hb d_AS_charAt_23 rfl (lv_at hl 4 rfl) ?_
    refine lv_iload hx hb d_AS_charAt_24 (lv_at hl 0 rfl) ?_
    refine tp_cv (tp_rS (As := [.int xk, .int xc]) (rest := []) ⟨hx, hb, hml, hown, htg⟩ (a_ST_checkIndex l E ((aB, .inr (6, [.ref ab, .int 0, .int xm, .int xc])) :: (ab, .inl (tp_ty E 3, 16, .inl fb)) :: fr) _ xk xc h1 h2) (⟨callB_of 2 htg (tp_good0 kc_ST_checkIndex) rfl rfl rfl (htg _ ki_ST) (htg _ kl_AS_144) ⟨by decide, by decide, by decide +kernel⟩ ⟨Nat.le_of_ble_eq_true rfl, Nat.le_of_ble_eq_true rfl⟩, htg _ ks_ST_checkIndex⟩) hK hP hD hS hA rfl hl.1 rfl (Nat.le_of_ble_eq_true rfl) d_AS_charAt_26 ⟨Nat.le_of_ble_eq_true rfl, Nat.le_of_ble_eq_true rfl⟩) hD hS hA (fun u H locs hw hP hD hS => ?_)
    have hP : va_P (tp_D E) tp_cl ((aB, .inr (6, [.ref ab, .int 0, .int xm, .int xc])) :: (ab, .inl (tp_ty E 3, 16, .inl fb)) :: fr) H := hP
    have hD : va_D A ((aB, .inr (6, [.ref ab, .int 0, .int xm, .int xc])) :: (ab, .inl (tp_ty E 3, 16, .inl fb)) :: fr) := hD
    refine lv_iload_n hx hb d_AS_charAt_29 rfl (lv_at hl 2 rfl) ?_
    refine lv_if_ne (tgt := 42) hx hb d_AS_charAt_30 (by decide) (fun h => absurd (by decide) h) (fun _ => ?_)
    refine lv_aload_n hx hb d_AS_charAt_33 rfl (lv_at hl 1 rfl) ?_
    refine lv_iload_n hx hb d_AS_charAt_34 rfl (lv_at hl 4 rfl) ?_
    refine va_bald (D := tp_D E) hx hb hK.1 hP 1 3 rfl rfl (sf_kcap2 h1 h2 hq) d_AS_charAt_35 ?_
    refine lv_sipush (v := 255) hx hb d_AS_charAt_36 (by decide) ?_
    refine lv_iand hx hb d_AS_charAt_39 ?_
    refine lv_i2c (v := (((fb xk.toNatClampNeg) &&& 255).toUInt32 % 65536).toInt32) hx hb d_AS_charAt_40 rfl ?_
    exact W.zret (v := (((fb xk.toNatClampNeg) &&& 255).toUInt32 % 65536).toInt32) hx hb hr (sf_ch8) (fun t ht hW => ⟨⟨_, (), rfl, sf_ch8, by rw [ht]; exact hP, hD⟩, hS.F ht⟩) hS.2.2 d_AS_charAt_41
  · refine lv_aload_n hx hb d_AS_charAt_0 rfl (lv_at hl 0 rfl) ?_
    refine va_get (D := tp_D E) (ci := 6) (v := .int 0) (C := qR_SB) (T := qF_SB) (N := 4) hx hb htg qi_SB hown hK.1 hP 0 rfl rfl 1 (by decide) (htg _ kl_AS_22) (fun _ h => h) rfl d_AS_charAt_1 ?_
    refine lv_istore_n (lv' := [(2, .int 0), (0, .ref aB), (1, .int xk)]) hx hb d_AS_charAt_4 rfl hl (by decide) rfl (fun ls hl => ?_)
    refine lv_aload_n hx hb d_AS_charAt_5 rfl (lv_at hl 1 rfl) ?_
    refine va_get (D := tp_D E) (ci := 6) (v := .ref ab) (C := qR_SB) (T := qF_SB) (N := 4) hx hb htg qi_SB hown hK.1 hP 0 rfl rfl 0 (by decide) (htg _ kl_AS_15) (fun _ h => h) rfl d_AS_charAt_6 ?_
    refine lv_astore_n (lv' := [(3, .ref ab), (2, .int 0), (0, .ref aB), (1, .int xk)]) hx hb d_AS_charAt_9 rfl hl (by decide) rfl (fun ls hl => ?_)
    refine lv_aload_n hx hb d_AS_charAt_10 rfl (lv_at hl 2 rfl) ?_
    refine va_get (D := tp_D E) (ci := 6) (v := .int xc) (C := qR_SB) (T := qF_SB) (N := 4) hx hb htg qi_SB hown hK.1 hP 0 rfl rfl 3 (by decide) (htg _ kl_AS_79) (fun _ h => h) rfl d_AS_charAt_11 ?_
    refine lv_aload_n hx hb d_AS_charAt_14 rfl (lv_at hl 0 rfl) ?_
    refine va_alen (D := tp_D E) (v := 34) hx hb hK.1 hP 1 3 rfl rfl rfl d_AS_charAt_15 ?_
    refine lv_iload_n hx hb d_AS_charAt_16 rfl (lv_at hl 1 rfl) ?_
    refine lv_ishr hx hb d_AS_charAt_17 ?_
    refine tp_topi (v := 34) (by decide) ?_
    refine va_mmin hx hb (by rw [hml]; exact hl.1.symm) hown (htg _ kl_AS_138) (htg _ ks_MA_min) (htg _ ki_MA) (htg _ kc_MA_min) (Nat.le_of_ble_eq_true rfl) (Nat.le_of_ble_eq_true rfl) (Nat.le_of_ble_eq_true rfl) (Nat.le_of_ble_eq_true rfl) d_AS_charAt_18 ?_
    refine tp_topi (v := xc) (if_neg (sf_ncap34 hq)) ?_
    refine lv_istore (lv' := [(4, .int xc), (3, .ref ab), (2, .int 0), (0, .ref aB), (1, .int xk)]) hx hb d_AS_charAt_21 hl (by decide) rfl (fun ls hl => ?_)
    refine lv_iload_n hx hb d_AS_charAt_23 rfl (lv_at hl 4 rfl) ?_
    refine lv_iload hx hb d_AS_charAt_24 (lv_at hl 0 rfl) ?_
    refine tp_cv (tp_rS (As := [.int xk, .int xc]) (rest := []) ⟨hx, hb, hml, hown, htg⟩ (a_ST_checkIndex l E ((aB, .inr (6, [.ref ab, .int 0, .int xm, .int xc])) :: (ab, .inl (tp_ty E 3, 34, .inl fb)) :: fr) _ xk xc h1 h2) (⟨callB_of 2 htg (tp_good0 kc_ST_checkIndex) rfl rfl rfl (htg _ ki_ST) (htg _ kl_AS_144) ⟨by decide, by decide, by decide +kernel⟩ ⟨Nat.le_of_ble_eq_true rfl, Nat.le_of_ble_eq_true rfl⟩, htg _ ks_ST_checkIndex⟩) hK hP hD hS hA rfl hl.1 rfl (Nat.le_of_ble_eq_true rfl) d_AS_charAt_26 ⟨Nat.le_of_ble_eq_true rfl, Nat.le_of_ble_eq_true rfl⟩) hD hS hA (fun u H locs hw hP hD hS => ?_)
    have hP : va_P (tp_D E) tp_cl ((aB, .inr (6, [.ref ab, .int 0, .int xm, .int xc])) :: (ab, .inl (tp_ty E 3, 34, .inl fb)) :: fr) H := hP
    have hD : va_D A ((aB, .inr (6, [.ref ab, .int 0, .int xm, .int xc])) :: (ab, .inl (tp_ty E 3, 34, .inl fb)) :: fr) := hD
    refine lv_iload_n hx hb d_AS_charAt_29 rfl (lv_at hl 2 rfl) ?_
    refine lv_if_ne (tgt := 42) hx hb d_AS_charAt_30 (by decide) (fun h => absurd (by decide) h) (fun _ => ?_)
    refine lv_aload_n hx hb d_AS_charAt_33 rfl (lv_at hl 1 rfl) ?_
    refine lv_iload_n hx hb d_AS_charAt_34 rfl (lv_at hl 4 rfl) ?_
    refine va_bald (D := tp_D E) hx hb hK.1 hP 1 3 rfl rfl (sf_kcap2 h1 h2 hq) d_AS_charAt_35 ?_
    refine lv_sipush (v := 255) hx hb d_AS_charAt_36 (by decide) ?_
    refine lv_iand hx hb d_AS_charAt_39 ?_
    refine lv_i2c (v := (((fb xk.toNatClampNeg) &&& 255).toUInt32 % 65536).toInt32) hx hb d_AS_charAt_40 rfl ?_
    exact W.zret (v := (((fb xk.toNatClampNeg) &&& 255).toUInt32 % 65536).toInt32) hx hb hr (sf_ch8) (fun t ht hW => ⟨⟨_, (), rfl, sf_ch8, by rw [ht]; exact hP, hD⟩, hS.F ht⟩) hS.2.2 d_AS_charAt_41
set_option maxHeartbeats 4000000 in
set_option maxRecDepth 100000 in
theorem s_SB_charAt (l : Launch) (E : tp_Env) (fr : va_W) (sz : Nat) (aB ab : Nat) (xm xc xk : Int32) (nb : Nat) (fb : Nat → Int32) (hn : nb = 16 ∨ nb = 34) (hq : xc.toInt ≤ (nb : Int)) (h1 : ¬ xk < 0) (h2 : xk < xc) : Met l y_SB_charAt w_SB_charAt ({ frames := 3, cells := 0, slots := 0, locals := 67 }) (va_Pc [.ref aB, .int xk] (tp_in E ((aB, .inr (6, [.ref ab, .int 0, .int xm, .int xc])) :: (ab, .inl (tp_ty E 3, nb, .inl fb)) :: fr) sz)) (va_Qi (fun r (_ : Unit) => narrow .char (.int r) = .int r) (fun _ t => tp_out E (va_A ((aB, .inr (6, [.ref ab, .int 0, .int xm, .int xc])) :: (ab, .inl (tp_ty E 3, nb, .inl fb)) :: fr) sz) ((aB, .inr (6, [.ref ab, .int 0, .int xm, .int xc])) :: (ab, .inl (tp_ty E 3, nb, .inl fb)) :: fr) t) (va_A ((aB, .inr (6, [.ref ab, .int 0, .int xm, .int xc])) :: (ab, .inl (tp_ty E 3, nb, .inl fb)) :: fr) sz)) 0 0 (va_A ((aB, .inr (6, [.ref ab, .int 0, .int xm, .int xc])) :: (ab, .inl (tp_ty E 3, nb, .inl fb)) :: fr) sz) := by
  refine Met.ofW (cc := b_SB_charAt) (maxL := 2) (ret := (some .char)) (by decide) rfl ?_
  intro p e s m args below meth c s₁ B hml hv
  obtain ⟨rfl, hsz, hP, hK, hD0⟩ := hv
  have hx := B.exec
  have hb := B.bytes
  have hr := B.returns
  have htg : ∀ w ∈ tp_G, w.before ([.ref aB, .int xk] : List Value).toArray s = true := fun w h => atoms_spec (ws := w_SB_charAt) B.pre w (List.mem_cons_of_mem _ h)
  have hown : s.vm.findClass "java/lang/StringBuilder" = some m.cls := findClass_of_methodNamed B.named
  have hlocks := B.notSynchronized
  subst hsz
  have hD := hD0.self (sz := s.heap.size)
  generalize hAe : va_A ((aB, .inr (6, [.ref ab, .int 0, .int xm, .int xc])) :: (ab, .inl (tp_ty E 3, nb, .inl fb)) :: fr) s.heap.size = A at hD hK ⊢
  have hA : ∀ q : Nat, s.heap.size ≤ q → A q := fun q h => by rw [← hAe]; exact Or.inr h
  have hS : va_S A s.heap s.heap [] := va_S.rf
  have hl := lv_entry ([.ref aB, .int xk]) (n := 2) (Nat.le_of_ble_eq_true rfl)
  rw [lg_entry_eq]
  generalize (lg_sl ([.ref aB, .int xk]) ++ List.replicate (2 - (lg_sl ([.ref aB, .int xk])).length) Slot.unset).toArray = ls at hl ⊢
  have hl : lv_has ls 2 [(0, .ref aB), (1, .int xk)] := hl
  refine lv_aload_n hx hb d_SB_charAt_0 rfl (lv_at hl 0 rfl) ?_
  refine lv_iload_n hx hb d_SB_charAt_1 rfl (lv_at hl 1 rfl) ?_
  refine tp_ci (tp_rU (As := [.int xk]) (rest := []) ⟨hx, hb, hml, hown, htg⟩ (s_AS_charAt l E fr _ aB ab xm xc xk nb fb hn hq h1 h2) (tp_cwU 1 htg kc_AS_charAt (htg _ kl_SB_329) (htg _ kq_AS_charAt) (htg _ kz_SB) (htg _ km_AS_charAt) (htg _ ki_AS) ⟨by decide, by decide +kernel⟩ ⟨Nat.le_of_ble_eq_true rfl, Nat.le_of_ble_eq_true rfl⟩) (va_recv (ci := 6) (q0 := 0) hK.1 hP rfl rfl) (hK.1.1 6 _ rfl).2 hK hP hD hS hA rfl hl.1 rfl (Nat.le_of_ble_eq_true rfl) d_SB_charAt_2 ⟨Nat.le_of_ble_eq_true rfl, Nat.le_of_ble_eq_true rfl⟩) hD hS hA (fun cr487 u H locs hw hP hD hS => ?_)
  have hcr : narrow .char (.int cr487) = .int cr487 := hw
  have hP : va_P (tp_D E) tp_cl ((aB, .inr (6, [.ref ab, .int 0, .int xm, .int xc])) :: (ab, .inl (tp_ty E 3, nb, .inl fb)) :: fr) H := hP
  have hD : va_D A ((aB, .inr (6, [.ref ab, .int 0, .int xm, .int xc])) :: (ab, .inl (tp_ty E 3, nb, .inl fb)) :: fr) := hD
  exact W.zret (v := cr487) hx hb hr hcr (fun t ht hW => ⟨⟨_, (), rfl, hcr, by rw [ht]; exact hP, hD⟩, hS.F ht⟩) hS.2.2 d_SB_charAt_5
set_option maxHeartbeats 4000000 in
set_option maxRecDepth 100000 in
theorem s_T_letter (l : Launch) (hfl : l.stackTraces = false) (E : tp_Env) (fr : va_W) (sz : Nat) (aT aY aS : Nat) (xl xg : Int32) (aB ab : Nat) (xm xc : Int32) (nb : Nat) (fb : Nat → Int32) (xk : Int32) (hn : nb = 16 ∨ nb = 34) (hq : xc.toInt ≤ (nb : Int)) : vx_Met l y_T_letter w_T_letter ({ frames := 6, cells := 1, slots := 6, locals := 89 }) (va_Pc [.ref aT, .int xk] (tp_in E ((aT, .inr (0, [.ref aY, .ref aS, .ref aB, .int xl, .int xg])) :: (aB, .inr (6, [.ref ab, .int 0, .int xm, .int xc])) :: (ab, .inl (tp_ty E 3, nb, .inl fb)) :: fr) sz)) (va_Qi (fun r (_ : Unit) => True) (fun _ t => tp_out E (va_A ((aT, .inr (0, [.ref aY, .ref aS, .ref aB, .int xl, .int xg])) :: (aB, .inr (6, [.ref ab, .int 0, .int xm, .int xc])) :: (ab, .inl (tp_ty E 3, nb, .inl fb)) :: fr) sz) ((aT, .inr (0, [.ref aY, .ref aS, .ref aB, .int xl, .int xg])) :: (aB, .inr (6, [.ref ab, .int 0, .int xm, .int xc])) :: (ab, .inl (tp_ty E 3, nb, .inl fb)) :: fr) t) (va_A ((aT, .inr (0, [.ref aY, .ref aS, .ref aB, .int xl, .int xg])) :: (aB, .inr (6, [.ref ab, .int 0, .int xm, .int xc])) :: (ab, .inl (tp_ty E 3, nb, .inl fb)) :: fr) sz)) (vx_X (fun (_ : Unit) => True) (fun x _ t => x = "java/lang/IndexOutOfBoundsException" ∧ tp_out E (va_A ((aT, .inr (0, [.ref aY, .ref aS, .ref aB, .int xl, .int xg])) :: (aB, .inr (6, [.ref ab, .int 0, .int xm, .int xc])) :: (ab, .inl (tp_ty E 3, nb, .inl fb)) :: fr) sz) ((aT, .inr (0, [.ref aY, .ref aS, .ref aB, .int xl, .int xg])) :: (aB, .inr (6, [.ref ab, .int 0, .int xm, .int xc])) :: (ab, .inl (tp_ty E 3, nb, .inl fb)) :: fr) t) (va_A ((aT, .inr (0, [.ref aY, .ref aS, .ref aB, .int xl, .int xg])) :: (aB, .inr (6, [.ref ab, .int 0, .int xm, .int xc])) :: (ab, .inl (tp_ty E 3, nb, .inl fb)) :: fr) sz)) 1 6 (va_A ((aT, .inr (0, [.ref aY, .ref aS, .ref aB, .int xl, .int xg])) :: (aB, .inr (6, [.ref ab, .int 0, .int xm, .int xc])) :: (ab, .inl (tp_ty E 3, nb, .inl fb)) :: fr) sz) := by
  refine vx_ofW (cc := b_T_letter) (maxL := 2) (ret := (some .int)) (by decide) rfl ?_
  intro p e s m args below meth c s₁ B hml htab hv
  obtain ⟨rfl, hsz, hP, hK, hD0⟩ := hv
  have hx := B.exec
  have hb := B.bytes
  have hr := B.returns
  have htg : ∀ w ∈ tp_G, w.before ([.ref aT, .int xk] : List Value).toArray s = true := fun w h => atoms_spec (ws := w_T_letter) B.pre w (List.mem_cons_of_mem _ h)
  have hown : s.vm.findClass "TwoPass" = some m.cls := findClass_of_methodNamed B.named
  have hlocks := B.notSynchronized
  subst hsz
  have hD := hD0.self (sz := s.heap.size)
  generalize hAe : va_A ((aT, .inr (0, [.ref aY, .ref aS, .ref aB, .int xl, .int xg])) :: (aB, .inr (6, [.ref ab, .int 0, .int xm, .int xc])) :: (ab, .inl (tp_ty E 3, nb, .inl fb)) :: fr) s.heap.size = A at hD hK ⊢
  have hA : ∀ q : Nat, s.heap.size ≤ q → A q := fun q h => by rw [← hAe]; exact Or.inr h
  have hS : va_S A s.heap s.heap [] := va_S.rf
  have hl := lv_entry ([.ref aT, .int xk]) (n := 2) (Nat.le_of_ble_eq_true rfl)
  rw [lg_entry_eq]
  generalize (lg_sl ([.ref aT, .int xk]) ++ List.replicate (2 - (lg_sl ([.ref aT, .int xk])).length) Slot.unset).toArray = ls at hl ⊢
  have hl : lv_has ls 2 [(0, .ref aT), (1, .int xk)] := hl
  refine lv_iload_n hx hb d_T_letter_0 rfl (lv_at hl 1 rfl) ?_
  by_cases h1 : xk < 0
  · refine lv_if_lt (tgt := 15) hx hb d_T_letter_1 (by decide) (fun _ => ?_) (fun h => absurd h1 h)
    exact vx_throw0 (own := "TwoPass") (cls := "java/lang/IndexOutOfBoundsException") (names := ["java/lang/RuntimeException", "java/lang/Exception"]) (ik := 115) (ic := 117) hx hb hfl hown (by decide +kernel) (by decide +kernel) (htg _ kl_T_115) (htg _ kx_IndexOutOfBoundsException) (kxa_T_117 htg hK.2.2.2.1) kxg_T_117 hK.2.1 hK.2.2.1 hS (hl.1.trans hml.symm) d_T_letter_15 d_T_letter_18 d_T_letter_19 d_T_letter_22 (fun x h => (htab x h).elim) (Nat.le_of_ble_eq_true rfl) (Nat.le_of_ble_eq_true rfl) (Nat.le_of_ble_eq_true rfl) (Nat.le_of_ble_eq_true rfl) hlocks (fun t hvm hz hq => ⟨(), trivial, ⟨rfl, va_P.kept hP (fun k q hk => hq _ (vx_lt hP hk)), hD⟩, ⟨Nat.le_trans hS.1 hz, fun q h1 h2 => (hq q (Nat.lt_of_lt_of_le h1 hS.1)).trans (hS.2.1 q h1 h2)⟩⟩) hS.2.2 (Nat.le_of_ble_eq_true rfl) (Nat.le_of_ble_eq_true rfl)
  · refine lv_if_lt (tgt := 15) hx hb d_T_letter_1 (by decide) (fun h => absurd h h1) (fun _ => ?_)
    refine lv_iload_n hx hb d_T_letter_4 rfl (lv_at hl 1 rfl) ?_
    refine lv_aload_n hx hb d_T_letter_5 rfl (lv_at hl 0 rfl) ?_
    refine va_get (D := tp_D E) (ci := 0) (v := .ref aB) (C := qR_T) (T := qF_T) (N := 5) hx hb htg qi_T hown hK.1 hP 0 rfl rfl 2 (by decide) (htg _ kl_T_26) (fun _ h => h) rfl d_T_letter_6 ?_
    have hP : va_P (tp_D E) tp_cl ((aB, .inr (6, [.ref ab, .int 0, .int xm, .int xc])) :: (aT, .inr (0, [.ref aY, .ref aS, .ref aB, .int xl, .int xg])) :: (ab, .inl (tp_ty E 3, nb, .inl fb)) :: fr) _ := tp_mvP 1 rfl hP
    have hD : va_D A ((aB, .inr (6, [.ref ab, .int 0, .int xm, .int xc])) :: (aT, .inr (0, [.ref aY, .ref aS, .ref aB, .int xl, .int xg])) :: (ab, .inl (tp_ty E 3, nb, .inl fb)) :: fr) := tp_mvD 1 rfl hD
    refine tp_ci (tp_rV (As := []) (rest := [.int xk]) ⟨hx, hb, hml, hown, htg⟩ (cs_SB_length_1 l E ((aT, .inr (0, [.ref aY, .ref aS, .ref aB, .int xl, .int xg])) :: (ab, .inl (tp_ty E 3, nb, .inl fb)) :: fr) _ aB ab 0 xm xc ) (⟨callB_of 0 htg (tp_good0 kc_SB_length) rfl rfl rfl (htg _ ki_SB) (htg _ kl_T_172) ⟨by decide, by decide, by decide +kernel⟩ ⟨Nat.le_of_ble_eq_true rfl, Nat.le_of_ble_eq_true rfl⟩, htg _ km_SB_length, htg _ kv_SB_SB_length⟩) (va_recv (ci := 6) (q0 := 0) hK.1 hP rfl rfl) hK hP hD hS hA rfl hl.1 rfl (Nat.le_of_ble_eq_true rfl) d_T_letter_9 ⟨Nat.le_of_ble_eq_true rfl, Nat.le_of_ble_eq_true rfl⟩) hD hS hA (fun r u H locs hw hP hD hS => ?_)
    subst r
    have hP : va_P (tp_D E) tp_cl ((aB, .inr (6, [.ref ab, .int 0, .int xm, .int xc])) :: (aT, .inr (0, [.ref aY, .ref aS, .ref aB, .int xl, .int xg])) :: (ab, .inl (tp_ty E 3, nb, .inl fb)) :: fr) H := hP
    have hD : va_D A ((aB, .inr (6, [.ref ab, .int 0, .int xm, .int xc])) :: (aT, .inr (0, [.ref aY, .ref aS, .ref aB, .int xl, .int xg])) :: (ab, .inl (tp_ty E 3, nb, .inl fb)) :: fr) := hD
    by_cases h2 : xk < xc
    · refine lv_icmp_lt (tgt := 23) hx hb d_T_letter_12 (by decide) (fun _ => ?_) (fun h => absurd h2 h)
      refine lv_aload_n hx hb d_T_letter_23 rfl (lv_at hl 0 rfl) ?_
      refine va_get (D := tp_D E) (ci := 0) (v := .ref aB) (C := qR_T) (T := qF_T) (N := 5) hx hb htg qi_T hown hK.1 hP 1 rfl rfl 2 (by decide) (htg _ kl_T_26) (fun _ h => h) rfl d_T_letter_24 ?_
      refine lv_iload_n hx hb d_T_letter_27 rfl (lv_at hl 1 rfl) ?_
      have hP : va_P (tp_D E) tp_cl ((ab, .inl (tp_ty E 3, nb, .inl fb)) :: (aB, .inr (6, [.ref ab, .int 0, .int xm, .int xc])) :: (aT, .inr (0, [.ref aY, .ref aS, .ref aB, .int xl, .int xg])) :: fr) _ := tp_mvP 2 rfl hP
      have hD : va_D A ((ab, .inl (tp_ty E 3, nb, .inl fb)) :: (aB, .inr (6, [.ref ab, .int 0, .int xm, .int xc])) :: (aT, .inr (0, [.ref aY, .ref aS, .ref aB, .int xl, .int xg])) :: fr) := tp_mvD 2 rfl hD
      have hP : va_P (tp_D E) tp_cl ((aB, .inr (6, [.ref ab, .int 0, .int xm, .int xc])) :: (ab, .inl (tp_ty E 3, nb, .inl fb)) :: (aT, .inr (0, [.ref aY, .ref aS, .ref aB, .int xl, .int xg])) :: fr) _ := tp_mvP 1 rfl hP
      have hD : va_D A ((aB, .inr (6, [.ref ab, .int 0, .int xm, .int xc])) :: (ab, .inl (tp_ty E 3, nb, .inl fb)) :: (aT, .inr (0, [.ref aY, .ref aS, .ref aB, .int xl, .int xg])) :: fr) := tp_mvD 1 rfl hD
      refine tp_ci (tp_rV (As := [.int xk]) (rest := []) ⟨hx, hb, hml, hown, htg⟩ (s_SB_charAt l E ((aT, .inr (0, [.ref aY, .ref aS, .ref aB, .int xl, .int xg])) :: fr) _ aB ab xm xc xk nb fb hn hq h1 h2) (⟨callB_of 1 htg (tp_good0 kc_SB_charAt) rfl rfl rfl (htg _ ki_SB) (htg _ kl_T_173) ⟨by decide, by decide, by decide +kernel⟩ ⟨Nat.le_of_ble_eq_true rfl, Nat.le_of_ble_eq_true rfl⟩, htg _ km_SB_charAt, htg _ kv_SB_SB_charAt⟩) (va_recv (ci := 6) (q0 := 0) hK.1 hP rfl rfl) hK hP hD hS hA rfl hl.1 rfl (Nat.le_of_ble_eq_true rfl) d_T_letter_28 ⟨Nat.le_of_ble_eq_true rfl, Nat.le_of_ble_eq_true rfl⟩) hD hS hA (fun cr488 u H locs hw hP hD hS => ?_)
      have hcr : narrow .char (.int cr488) = .int cr488 := hw
      have hP : va_P (tp_D E) tp_cl ((aB, .inr (6, [.ref ab, .int 0, .int xm, .int xc])) :: (ab, .inl (tp_ty E 3, nb, .inl fb)) :: (aT, .inr (0, [.ref aY, .ref aS, .ref aB, .int xl, .int xg])) :: fr) H := hP
      have hD : va_D A ((aB, .inr (6, [.ref ab, .int 0, .int xm, .int xc])) :: (ab, .inl (tp_ty E 3, nb, .inl fb)) :: (aT, .inr (0, [.ref aY, .ref aS, .ref aB, .int xl, .int xg])) :: fr) := hD
      have hP : va_P (tp_D E) tp_cl ((ab, .inl (tp_ty E 3, nb, .inl fb)) :: (aB, .inr (6, [.ref ab, .int 0, .int xm, .int xc])) :: (aT, .inr (0, [.ref aY, .ref aS, .ref aB, .int xl, .int xg])) :: fr) _ := tp_mvP 1 rfl hP
      have hD : va_D A ((ab, .inl (tp_ty E 3, nb, .inl fb)) :: (aB, .inr (6, [.ref ab, .int 0, .int xm, .int xc])) :: (aT, .inr (0, [.ref aY, .ref aS, .ref aB, .int xl, .int xg])) :: fr) := tp_mvD 1 rfl hD
      have hP : va_P (tp_D E) tp_cl ((aB, .inr (6, [.ref ab, .int 0, .int xm, .int xc])) :: (ab, .inl (tp_ty E 3, nb, .inl fb)) :: (aT, .inr (0, [.ref aY, .ref aS, .ref aB, .int xl, .int xg])) :: fr) _ := tp_mvP 1 rfl hP
      have hD : va_D A ((aB, .inr (6, [.ref ab, .int 0, .int xm, .int xc])) :: (ab, .inl (tp_ty E 3, nb, .inl fb)) :: (aT, .inr (0, [.ref aY, .ref aS, .ref aB, .int xl, .int xg])) :: fr) := tp_mvD 1 rfl hD
      have hP : va_P (tp_D E) tp_cl ((aT, .inr (0, [.ref aY, .ref aS, .ref aB, .int xl, .int xg])) :: (aB, .inr (6, [.ref ab, .int 0, .int xm, .int xc])) :: (ab, .inl (tp_ty E 3, nb, .inl fb)) :: fr) _ := tp_mvP 2 rfl hP
      have hD : va_D A ((aT, .inr (0, [.ref aY, .ref aS, .ref aB, .int xl, .int xg])) :: (aB, .inr (6, [.ref ab, .int 0, .int xm, .int xc])) :: (ab, .inl (tp_ty E 3, nb, .inl fb)) :: fr) := tp_mvD 2 rfl hD
      exact tp_widen (k := 1) (n := 6) (Nat.le_of_ble_eq_true rfl) (Nat.le_of_ble_eq_true rfl) (vx_ret (W.iret (v := cr488) hx hb hr (fun t ht hW => ⟨⟨_, (), rfl, trivial, by rw [ht]; exact hP, hD⟩, hS.F ht⟩) hS.2.2 d_T_letter_31))
    · refine lv_icmp_lt (tgt := 23) hx hb d_T_letter_12 (by decide) (fun h => absurd h h2) (fun _ => ?_)
      have hP : va_P (tp_D E) tp_cl ((aB, .inr (6, [.ref ab, .int 0, .int xm, .int xc])) :: (aT, .inr (0, [.ref aY, .ref aS, .ref aB, .int xl, .int xg])) :: (ab, .inl (tp_ty E 3, nb, .inl fb)) :: fr) _ := tp_mvP 0 rfl hP
      have hD : va_D A ((aB, .inr (6, [.ref ab, .int 0, .int xm, .int xc])) :: (aT, .inr (0, [.ref aY, .ref aS, .ref aB, .int xl, .int xg])) :: (ab, .inl (tp_ty E 3, nb, .inl fb)) :: fr) := tp_mvD 0 rfl hD
      have hP : va_P (tp_D E) tp_cl ((aT, .inr (0, [.ref aY, .ref aS, .ref aB, .int xl, .int xg])) :: (aB, .inr (6, [.ref ab, .int 0, .int xm, .int xc])) :: (ab, .inl (tp_ty E 3, nb, .inl fb)) :: fr) _ := tp_mvP 1 rfl hP
      have hD : va_D A ((aT, .inr (0, [.ref aY, .ref aS, .ref aB, .int xl, .int xg])) :: (aB, .inr (6, [.ref ab, .int 0, .int xm, .int xc])) :: (ab, .inl (tp_ty E 3, nb, .inl fb)) :: fr) := tp_mvD 1 rfl hD
      exact vx_throw0 (own := "TwoPass") (cls := "java/lang/IndexOutOfBoundsException") (names := ["java/lang/RuntimeException", "java/lang/Exception"]) (ik := 115) (ic := 117) hx hb hfl hown (by decide +kernel) (by decide +kernel) (htg _ kl_T_115) (htg _ kx_IndexOutOfBoundsException) (kxa_T_117 htg hK.2.2.2.1) kxg_T_117 hK.2.1 hK.2.2.1 hS (hl.1.trans hml.symm) d_T_letter_15 d_T_letter_18 d_T_letter_19 d_T_letter_22 (fun x h => (htab x h).elim) (Nat.le_of_ble_eq_true rfl) (Nat.le_of_ble_eq_true rfl) (Nat.le_of_ble_eq_true rfl) (Nat.le_of_ble_eq_true rfl) hlocks (fun t hvm hz hq => ⟨(), trivial, ⟨rfl, va_P.kept hP (fun k q hk => hq _ (vx_lt hP hk)), hD⟩, ⟨Nat.le_trans hS.1 hz, fun q h1 h2 => (hq q (Nat.lt_of_lt_of_le h1 hS.1)).trans (hS.2.1 q h1 h2)⟩⟩) hS.2.2 (Nat.le_of_ble_eq_true rfl) (Nat.le_of_ble_eq_true rfl)
set_option maxHeartbeats 4000000 in
set_option maxRecDepth 100000 in
theorem a_M_write (l : Launch) (E : tp_Env) (fr : va_W) (sz : Nat) (aM m_names m_forms m_text m_word m_count m_formOf m_codeOf m_dOf m_sOf m_tOf m_valueOf m_labelOf m_nameOf m_target m_place m_far m_image m_out : Nat) (m_thrown m_size m_bad m_at m_length m_form m_code m_d m_s m_t m_imageSize m_farCount m_written : Int32) (m_value m_label m_name : Int64) (f_out : Nat → Int32) (xv : Int32) (hc : 0 ≤ m_written.toInt ∧ m_written.toInt < 40) : Met l y_M_write w_M_write ({ frames := 0, cells := 0, slots := 0, locals := 0 }) (va_Pc [.ref aM, .int xv] (tp_in E ((aM, .inr (4, [.int m_thrown, .ref m_names, .ref m_forms, .int m_size, .ref m_text, .int m_bad, .int m_at, .int m_length, .ref m_word, .int m_form, .int m_code, .int m_d, .int m_s, .int m_t, .long m_value, .long m_label, .long m_name, .ref m_count, .ref m_formOf, .ref m_codeOf, .ref m_dOf, .ref m_sOf, .ref m_tOf, .ref m_valueOf, .ref m_labelOf, .ref m_nameOf, .ref m_target, .ref m_place, .ref m_far, .int m_imageSize, .int m_farCount, .ref m_image, .int m_written, .ref m_out])) :: (m_out, .inl (tp_ty E 0, 40, .inl f_out)) :: fr) sz)) (va_Qv (fun (u : Int32 × (Nat → Int32)) => u.1.toInt = m_written.toInt + 1) (fun u t => tp_out E (va_A ((aM, .inr (4, [.int m_thrown, .ref m_names, .ref m_forms, .int m_size, .ref m_text, .int m_bad, .int m_at, .int m_length, .ref m_word, .int m_form, .int m_code, .int m_d, .int m_s, .int m_t, .long m_value, .long m_label, .long m_name, .ref m_count, .ref m_formOf, .ref m_codeOf, .ref m_dOf, .ref m_sOf, .ref m_tOf, .ref m_valueOf, .ref m_labelOf, .ref m_nameOf, .ref m_target, .ref m_place, .ref m_far, .int m_imageSize, .int m_farCount, .ref m_image, .int m_written, .ref m_out])) :: (m_out, .inl (tp_ty E 0, 40, .inl f_out)) :: fr) sz) ((aM, .inr (4, [.int m_thrown, .ref m_names, .ref m_forms, .int m_size, .ref m_text, .int m_bad, .int m_at, .int m_length, .ref m_word, .int m_form, .int m_code, .int m_d, .int m_s, .int m_t, .long m_value, .long m_label, .long m_name, .ref m_count, .ref m_formOf, .ref m_codeOf, .ref m_dOf, .ref m_sOf, .ref m_tOf, .ref m_valueOf, .ref m_labelOf, .ref m_nameOf, .ref m_target, .ref m_place, .ref m_far, .int m_imageSize, .int m_farCount, .ref m_image, .int u.1, .ref m_out])) :: (m_out, .inl (tp_ty E 0, 40, .inl u.2)) :: fr) t) (va_A ((aM, .inr (4, [.int m_thrown, .ref m_names, .ref m_forms, .int m_size, .ref m_text, .int m_bad, .int m_at, .int m_length, .ref m_word, .int m_form, .int m_code, .int m_d, .int m_s, .int m_t, .long m_value, .long m_label, .long m_name, .ref m_count, .ref m_formOf, .ref m_codeOf, .ref m_dOf, .ref m_sOf, .ref m_tOf, .ref m_valueOf, .ref m_labelOf, .ref m_nameOf, .ref m_target, .ref m_place, .ref m_far, .int m_imageSize, .int m_farCount, .ref m_image, .int m_written, .ref m_out])) :: (m_out, .inl (tp_ty E 0, 40, .inl f_out)) :: fr) sz)) 0 0 (va_A ((aM, .inr (4, [.int m_thrown, .ref m_names, .ref m_forms, .int m_size, .ref m_text, .int m_bad, .int m_at, .int m_length, .ref m_word, .int m_form, .int m_code, .int m_d, .int m_s, .int m_t, .long m_value, .long m_label, .long m_name, .ref m_count, .ref m_formOf, .ref m_codeOf, .ref m_dOf, .ref m_sOf, .ref m_tOf, .ref m_valueOf, .ref m_labelOf, .ref m_nameOf, .ref m_target, .ref m_place, .ref m_far, .int m_imageSize, .int m_farCount, .ref m_image, .int m_written, .ref m_out])) :: (m_out, .inl (tp_ty E 0, 40, .inl f_out)) :: fr) sz) := by
  refine Met.ofW (cc := b_M_write) (maxL := 2) (ret := none) (by decide) rfl ?_
  intro p e s m args below meth c s₁ B hml hv
  obtain ⟨rfl, hsz, hP, hK, hD0⟩ := hv
  have hx := B.exec
  have hb := B.bytes
  have hr := B.returns
  have htg : ∀ w ∈ tp_G, w.before ([.ref aM, .int xv] : List Value).toArray s = true := fun w h => atoms_spec (ws := w_M_write) B.pre w (List.mem_cons_of_mem _ h)
  have hown : s.vm.findClass "TwoPassModel" = some m.cls := findClass_of_methodNamed B.named
  have hlocks := B.notSynchronized
  subst hsz
  have hD := hD0.self (sz := s.heap.size)
  generalize hAe : va_A ((aM, .inr (4, [.int m_thrown, .ref m_names, .ref m_forms, .int m_size, .ref m_text, .int m_bad, .int m_at, .int m_length, .ref m_word, .int m_form, .int m_code, .int m_d, .int m_s, .int m_t, .long m_value, .long m_label, .long m_name, .ref m_count, .ref m_formOf, .ref m_codeOf, .ref m_dOf, .ref m_sOf, .ref m_tOf, .ref m_valueOf, .ref m_labelOf, .ref m_nameOf, .ref m_target, .ref m_place, .ref m_far, .int m_imageSize, .int m_farCount, .ref m_image, .int m_written, .ref m_out])) :: (m_out, .inl (tp_ty E 0, 40, .inl f_out)) :: fr) s.heap.size = A at hD hK ⊢
  have hA : ∀ q : Nat, s.heap.size ≤ q → A q := fun q h => by rw [← hAe]; exact Or.inr h
  have hS : va_S A s.heap s.heap [] := va_S.rf
  have hl := lv_entry ([.ref aM, .int xv]) (n := 2) (Nat.le_of_ble_eq_true rfl)
  rw [lg_entry_eq]
  generalize (lg_sl ([.ref aM, .int xv]) ++ List.replicate (2 - (lg_sl ([.ref aM, .int xv])).length) Slot.unset).toArray = ls at hl ⊢
  have hl : lv_has ls 2 [(0, .ref aM), (1, .int xv)] := hl
  refine lv_aload_n hx hb d_M_write_0 rfl (lv_at hl 0 rfl) ?_
  refine va_get (D := tp_D E) (ci := 4) (v := .ref m_out) (C := qR_M) (T := qF_M) (N := 34) hx hb htg qi_M hown hK.1 hP 0 rfl rfl 33 (by decide) (htg _ kl_M_67) (fun _ h => h) rfl d_M_write_1 ?_
  refine lv_aload_n hx hb d_M_write_4 rfl (lv_at hl 0 rfl) ?_
  refine va_get (D := tp_D E) (ci := 4) (v := .int m_written) (C := qR_M) (T := qF_M) (N := 34) hx hb htg qi_M hown hK.1 hP 0 rfl rfl 32 (by decide) (htg _ kl_M_411) (fun _ h => h) rfl d_M_write_5 ?_
  refine lv_iload_n hx hb d_M_write_8 rfl (lv_at hl 1 rfl) ?_
  refine va_iast (D := tp_D E) hx hb hK.1 hP hD hS 1 0 rfl rfl (tp_v40 hc) d_M_write_9 (fun H locs hP hD hS => ?_)
  have hP : va_P (tp_D E) tp_cl ((aM, .inr (4, [.int m_thrown, .ref m_names, .ref m_forms, .int m_size, .ref m_text, .int m_bad, .int m_at, .int m_length, .ref m_word, .int m_form, .int m_code, .int m_d, .int m_s, .int m_t, .long m_value, .long m_label, .long m_name, .ref m_count, .ref m_formOf, .ref m_codeOf, .ref m_dOf, .ref m_sOf, .ref m_tOf, .ref m_valueOf, .ref m_labelOf, .ref m_nameOf, .ref m_target, .ref m_place, .ref m_far, .int m_imageSize, .int m_farCount, .ref m_image, .int m_written, .ref m_out])) :: (m_out, .inl (tp_ty E 0, 40, .inl (upd f_out m_written.toNatClampNeg xv))) :: fr) H := hP
  have hD : va_D A ((aM, .inr (4, [.int m_thrown, .ref m_names, .ref m_forms, .int m_size, .ref m_text, .int m_bad, .int m_at, .int m_length, .ref m_word, .int m_form, .int m_code, .int m_d, .int m_s, .int m_t, .long m_value, .long m_label, .long m_name, .ref m_count, .ref m_formOf, .ref m_codeOf, .ref m_dOf, .ref m_sOf, .ref m_tOf, .ref m_valueOf, .ref m_labelOf, .ref m_nameOf, .ref m_target, .ref m_place, .ref m_far, .int m_imageSize, .int m_farCount, .ref m_image, .int m_written, .ref m_out])) :: (m_out, .inl (tp_ty E 0, 40, .inl (upd f_out m_written.toNatClampNeg xv))) :: fr) := hD
  refine lv_aload_n hx hb d_M_write_10 rfl (lv_at hl 0 rfl) ?_
  refine lv_dup hx hb d_M_write_11 rfl ?_
  refine va_get (D := tp_D E) (ci := 4) (v := .int m_written) (C := qR_M) (T := qF_M) (N := 34) hx hb htg qi_M hown hK.1 hP 0 rfl rfl 32 (by decide) (htg _ kl_M_411) (fun _ h => h) rfl d_M_write_12 ?_
  refine lv_iconst (v := 1) hx hb d_M_write_15 (by decide) ?_
  refine lv_iadd hx hb d_M_write_16 ?_
  refine va_put (D := tp_D E) (ci := 4) (v := .int (m_written + 1)) (ty := .int) (C := qR_M) (T := qF_M) (N := 34) hx hb htg qi_M qt_M qt_M_ok qn_M hown hK.1 hP hD hS 0 rfl rfl 32 (by decide) (htg _ kl_M_411) (fun _ h => h) rfl (by decide +kernel) rfl rfl (Nat.le_of_ble_eq_true rfl) d_M_write_17 (fun H locs hP hD hS => ?_)
  have hP : va_P (tp_D E) tp_cl ((aM, .inr (4, [.int m_thrown, .ref m_names, .ref m_forms, .int m_size, .ref m_text, .int m_bad, .int m_at, .int m_length, .ref m_word, .int m_form, .int m_code, .int m_d, .int m_s, .int m_t, .long m_value, .long m_label, .long m_name, .ref m_count, .ref m_formOf, .ref m_codeOf, .ref m_dOf, .ref m_sOf, .ref m_tOf, .ref m_valueOf, .ref m_labelOf, .ref m_nameOf, .ref m_target, .ref m_place, .ref m_far, .int m_imageSize, .int m_farCount, .ref m_image, .int (m_written + 1), .ref m_out])) :: (m_out, .inl (tp_ty E 0, 40, .inl (upd f_out m_written.toNatClampNeg xv))) :: fr) H := hP
  have hD : va_D A ((aM, .inr (4, [.int m_thrown, .ref m_names, .ref m_forms, .int m_size, .ref m_text, .int m_bad, .int m_at, .int m_length, .ref m_word, .int m_form, .int m_code, .int m_d, .int m_s, .int m_t, .long m_value, .long m_label, .long m_name, .ref m_count, .ref m_formOf, .ref m_codeOf, .ref m_dOf, .ref m_sOf, .ref m_tOf, .ref m_valueOf, .ref m_labelOf, .ref m_nameOf, .ref m_target, .ref m_place, .ref m_far, .int m_imageSize, .int m_farCount, .ref m_image, .int (m_written + 1), .ref m_out])) :: (m_out, .inl (tp_ty E 0, 40, .inl (upd f_out m_written.toNatClampNeg xv))) :: fr) := hD
  exact W.vret hx hb hr (fun t ht hW => ⟨⟨((m_written + 1), (upd f_out m_written.toNatClampNeg xv)), rfl, tp_inc (by omega), by rw [ht]; exact hP, hD⟩, hS.F ht⟩) hS.2.2 d_M_write_20
set_option maxHeartbeats 4000000 in
set_option maxRecDepth 100000 in
theorem a_M_writeNumber (l : Launch) (E : tp_Env) (fr : va_W) (sz : Nat) (aM m_names m_forms m_text m_word m_count m_formOf m_codeOf m_dOf m_sOf m_tOf m_valueOf m_labelOf m_nameOf m_target m_place m_far m_image m_out : Nat) (m_thrown m_size m_bad m_at m_length m_form m_code m_d m_s m_t m_imageSize m_farCount m_written : Int32) (m_value m_label m_name : Int64) (f_out : Nat → Int32) (xv : Int32) (hc : 0 ≤ m_written.toInt ∧ m_written.toInt + (tp_dl xv : Int) ≤ 40) : Met l y_M_writeNumber w_M_writeNumber ({ frames := 1, cells := 0, slots := 0, locals := 21 }) (va_Pc [.ref aM, .int xv] (tp_in E ((aM, .inr (4, [.int m_thrown, .ref m_names, .ref m_forms, .int m_size, .ref m_text, .int m_bad, .int m_at, .int m_length, .ref m_word, .int m_form, .int m_code, .int m_d, .int m_s, .int m_t, .long m_value, .long m_label, .long m_name, .ref m_count, .ref m_formOf, .ref m_codeOf, .ref m_dOf, .ref m_sOf, .ref m_tOf, .ref m_valueOf, .ref m_labelOf, .ref m_nameOf, .ref m_target, .ref m_place, .ref m_far, .int m_imageSize, .int m_farCount, .ref m_image, .int m_written, .ref m_out])) :: (m_out, .inl (tp_ty E 0, 40, .inl f_out)) :: fr) sz)) (va_Qv (fun (u : Int32 × (Nat → Int32)) => u.1.toInt = m_written.toInt + (tp_dl xv : Int)) (fun u t => tp_out E (va_A ((aM, .inr (4, [.int m_thrown, .ref m_names, .ref m_forms, .int m_size, .ref m_text, .int m_bad, .int m_at, .int m_length, .ref m_word, .int m_form, .int m_code, .int m_d, .int m_s, .int m_t, .long m_value, .long m_label, .long m_name, .ref m_count, .ref m_formOf, .ref m_codeOf, .ref m_dOf, .ref m_sOf, .ref m_tOf, .ref m_valueOf, .ref m_labelOf, .ref m_nameOf, .ref m_target, .ref m_place, .ref m_far, .int m_imageSize, .int m_farCount, .ref m_image, .int m_written, .ref m_out])) :: (m_out, .inl (tp_ty E 0, 40, .inl f_out)) :: fr) sz) ((aM, .inr (4, [.int m_thrown, .ref m_names, .ref m_forms, .int m_size, .ref m_text, .int m_bad, .int m_at, .int m_length, .ref m_word, .int m_form, .int m_code, .int m_d, .int m_s, .int m_t, .long m_value, .long m_label, .long m_name, .ref m_count, .ref m_formOf, .ref m_codeOf, .ref m_dOf, .ref m_sOf, .ref m_tOf, .ref m_valueOf, .ref m_labelOf, .ref m_nameOf, .ref m_target, .ref m_place, .ref m_far, .int m_imageSize, .int m_farCount, .ref m_image, .int u.1, .ref m_out])) :: (m_out, .inl (tp_ty E 0, 40, .inl u.2)) :: fr) t) (va_A ((aM, .inr (4, [.int m_thrown, .ref m_names, .ref m_forms, .int m_size, .ref m_text, .int m_bad, .int m_at, .int m_length, .ref m_word, .int m_form, .int m_code, .int m_d, .int m_s, .int m_t, .long m_value, .long m_label, .long m_name, .ref m_count, .ref m_formOf, .ref m_codeOf, .ref m_dOf, .ref m_sOf, .ref m_tOf, .ref m_valueOf, .ref m_labelOf, .ref m_nameOf, .ref m_target, .ref m_place, .ref m_far, .int m_imageSize, .int m_farCount, .ref m_image, .int m_written, .ref m_out])) :: (m_out, .inl (tp_ty E 0, 40, .inl f_out)) :: fr) sz)) 0 0 (va_A ((aM, .inr (4, [.int m_thrown, .ref m_names, .ref m_forms, .int m_size, .ref m_text, .int m_bad, .int m_at, .int m_length, .ref m_word, .int m_form, .int m_code, .int m_d, .int m_s, .int m_t, .long m_value, .long m_label, .long m_name, .ref m_count, .ref m_formOf, .ref m_codeOf, .ref m_dOf, .ref m_sOf, .ref m_tOf, .ref m_valueOf, .ref m_labelOf, .ref m_nameOf, .ref m_target, .ref m_place, .ref m_far, .int m_imageSize, .int m_farCount, .ref m_image, .int m_written, .ref m_out])) :: (m_out, .inl (tp_ty E 0, 40, .inl f_out)) :: fr) sz) := by
  refine Met.ofW (cc := b_M_writeNumber) (maxL := 6) (ret := none) (by decide) rfl ?_
  intro p e s m args below meth c s₁ B hml hv
  obtain ⟨rfl, hsz, hP, hK, hD0⟩ := hv
  have hx := B.exec
  have hb := B.bytes
  have hr := B.returns
  have htg : ∀ w ∈ tp_G, w.before ([.ref aM, .int xv] : List Value).toArray s = true := fun w h => atoms_spec (ws := w_M_writeNumber) B.pre w (List.mem_cons_of_mem _ h)
  have hown : s.vm.findClass "TwoPassModel" = some m.cls := findClass_of_methodNamed B.named
  have hlocks := B.notSynchronized
  subst hsz
  have hD := hD0.self (sz := s.heap.size)
  generalize hAe : va_A ((aM, .inr (4, [.int m_thrown, .ref m_names, .ref m_forms, .int m_size, .ref m_text, .int m_bad, .int m_at, .int m_length, .ref m_word, .int m_form, .int m_code, .int m_d, .int m_s, .int m_t, .long m_value, .long m_label, .long m_name, .ref m_count, .ref m_formOf, .ref m_codeOf, .ref m_dOf, .ref m_sOf, .ref m_tOf, .ref m_valueOf, .ref m_labelOf, .ref m_nameOf, .ref m_target, .ref m_place, .ref m_far, .int m_imageSize, .int m_farCount, .ref m_image, .int m_written, .ref m_out])) :: (m_out, .inl (tp_ty E 0, 40, .inl f_out)) :: fr) s.heap.size = A at hD hK ⊢
  have hA : ∀ q : Nat, s.heap.size ≤ q → A q := fun q h => by rw [← hAe]; exact Or.inr h
  have hS : va_S A s.heap s.heap [] := va_S.rf
  have hl := lv_entry ([.ref aM, .int xv]) (n := 6) (Nat.le_of_ble_eq_true rfl)
  rw [lg_entry_eq]
  generalize (lg_sl ([.ref aM, .int xv]) ++ List.replicate (6 - (lg_sl ([.ref aM, .int xv])).length) Slot.unset).toArray = ls at hl ⊢
  have hl : lv_has ls 6 [(0, .ref aM), (1, .int xv)] := hl
  refine tp_join3 (pc' := 23) (fun ls H locs (vv : Int64) (wc : Int32) (fo : Nat → Int32) => ((vv.toInt = (xv.toInt.natAbs : Int)) ∧ (wc.toInt + (tp_dg xv.toInt.natAbs : Int) = m_written.toInt + (tp_dl xv : Int))) ∧ lv_has ls 6 [(2, .long vv), (0, .ref aM), (1, .int xv)] ∧ va_P (tp_D E) tp_cl ((aM, .inr (4, [.int m_thrown, .ref m_names, .ref m_forms, .int m_size, .ref m_text, .int m_bad, .int m_at, .int m_length, .ref m_word, .int m_form, .int m_code, .int m_d, .int m_s, .int m_t, .long m_value, .long m_label, .long m_name, .ref m_count, .ref m_formOf, .ref m_codeOf, .ref m_dOf, .ref m_sOf, .ref m_tOf, .ref m_valueOf, .ref m_labelOf, .ref m_nameOf, .ref m_target, .ref m_place, .ref m_far, .int m_imageSize, .int m_farCount, .ref m_image, .int wc, .ref m_out])) :: (m_out, .inl (tp_ty E 0, 40, .inl fo)) :: fr) H ∧ va_D A ((aM, .inr (4, [.int m_thrown, .ref m_names, .ref m_forms, .int m_size, .ref m_text, .int m_bad, .int m_at, .int m_length, .ref m_word, .int m_form, .int m_code, .int m_d, .int m_s, .int m_t, .long m_value, .long m_label, .long m_name, .ref m_count, .ref m_formOf, .ref m_codeOf, .ref m_dOf, .ref m_sOf, .ref m_tOf, .ref m_valueOf, .ref m_labelOf, .ref m_nameOf, .ref m_target, .ref m_place, .ref m_far, .int m_imageSize, .int m_farCount, .ref m_image, .int wc, .ref m_out])) :: (m_out, .inl (tp_ty E 0, 40, .inl fo)) :: fr) ∧ va_S A s.heap H locs) ?_ ?_
  · intro vv wc fo ls H locs hI
    obtain ⟨⟨hvv, hwc⟩, hl, hP, hD, hS⟩ := hI
    refine lv_lconst (v := 1) hx hb d_M_writeNumber_23 (by decide) ?_
    refine lv_lstore (lv' := [(4, .long 1), (2, .long vv), (0, .ref aM), (1, .int xv)]) hx hb d_M_writeNumber_24 hl (by decide) rfl (fun ls hl => ?_)
    refine tp_loop (fun j ls H locs (ii : Nat) => ((ii ≤ 9 ∧ (ii = 0 ∨ 10 ^ ii ≤ xv.toInt.natAbs)) ∧ (ii + j = 9)) ∧ lv_has ls 6 [(4, .long (tp_P ii)), (2, .long vv), (0, .ref aM), (1, .int xv)] ∧ va_P (tp_D E) tp_cl ((aM, .inr (4, [.int m_thrown, .ref m_names, .ref m_forms, .int m_size, .ref m_text, .int m_bad, .int m_at, .int m_length, .ref m_word, .int m_form, .int m_code, .int m_d, .int m_s, .int m_t, .long m_value, .long m_label, .long m_name, .ref m_count, .ref m_formOf, .ref m_codeOf, .ref m_dOf, .ref m_sOf, .ref m_tOf, .ref m_valueOf, .ref m_labelOf, .ref m_nameOf, .ref m_target, .ref m_place, .ref m_far, .int m_imageSize, .int m_farCount, .ref m_image, .int wc, .ref m_out])) :: (m_out, .inl (tp_ty E 0, 40, .inl fo)) :: fr) H ∧ va_D A ((aM, .inr (4, [.int m_thrown, .ref m_names, .ref m_forms, .int m_size, .ref m_text, .int m_bad, .int m_at, .int m_length, .ref m_word, .int m_form, .int m_code, .int m_d, .int m_s, .int m_t, .long m_value, .long m_label, .long m_name, .ref m_count, .ref m_formOf, .ref m_codeOf, .ref m_dOf, .ref m_sOf, .ref m_tOf, .ref m_valueOf, .ref m_labelOf, .ref m_nameOf, .ref m_target, .ref m_place, .ref m_far, .int m_imageSize, .int m_farCount, .ref m_image, .int wc, .ref m_out])) :: (m_out, .inl (tp_ty E 0, 40, .inl fo)) :: fr) ∧ va_S A s.heap H locs) ?_ 9 0 ⟨⟨⟨by omega, Or.inl rfl⟩, rfl⟩, tp_lvI hl [0, 1, 2, 3] rfl, hP, hD, hS⟩
    intro j ii ls H locs hI ih
    obtain ⟨⟨hii, hj⟩, hl, hP, hD, hS⟩ := hI
    refine lv_lload_n hx hb d_M_writeNumber_26 rfl (lv_at hl 1 rfl) ?_
    refine lv_lload hx hb d_M_writeNumber_27 (lv_at hl 0 rfl) ?_
    refine lv_ldiv hx hb d_M_writeNumber_29 (tp_Pnz hii.1) ?_
    refine lv_ldc2 (v := 9) hx hb hown (htg _ kl_M_417) d_M_writeNumber_30 ?_
    by_cases h1 : 9 < (vv / (tp_P ii))
    · refine W.lcmp hx hb d_M_writeNumber_33 ?_
      refine lv_if_le (tgt := 48) hx hb d_M_writeNumber_34 (by decide) (fun h => absurd h (tp_lc_le_f h1)) (fun _ => ?_)
      refine lv_ldc2 (v := 10) hx hb hown (htg _ kl_M_262) d_M_writeNumber_37 ?_
      refine lv_lload hx hb d_M_writeNumber_40 (lv_at hl 0 rfl) ?_
      refine lv_lmul hx hb d_M_writeNumber_42 ?_
      refine lv_lstore (lv' := [(4, .long (10 * (tp_P ii))), (2, .long vv), (0, .ref aM), (1, .int xv)]) hx hb d_M_writeNumber_43 hl (by decide) rfl (fun ls hl => ?_)
      refine lv_goto (tgt := 26) hx hb d_M_writeNumber_45 (by decide) ?_
      have hb9 := tp_Pbig hvv hii.1 h1
      rw [tp_Pmul (by omega)] at hl
      exact ih (j - 1) (ii + 1) ls _ _ (by omega) ⟨⟨⟨by omega, Or.inr hb9.2⟩, by omega⟩, tp_lvI hl [0, 1, 2, 3] rfl, hP, hD, hS⟩
    · refine W.lcmp hx hb d_M_writeNumber_33 ?_
      refine lv_if_le (tgt := 48) hx hb d_M_writeNumber_34 (by decide) (fun _ => ?_) (fun h => absurd (tp_lc_le_t h1) h)
      refine tp_loop3 (fun j2 ls H locs (rr : Nat) (wr : Int32) (fr2 : Nat → Int32) => ((wr.toInt + (rr : Int) = m_written.toInt + (tp_dl xv : Int) ∧ m_written.toInt ≤ wr.toInt ∧ rr ≤ 10) ∧ (j2 = rr)) ∧ lv_has ls 6 [(4, .long (tp_Q rr)), (2, .long vv), (0, .ref aM), (1, .int xv)] ∧ va_P (tp_D E) tp_cl ((aM, .inr (4, [.int m_thrown, .ref m_names, .ref m_forms, .int m_size, .ref m_text, .int m_bad, .int m_at, .int m_length, .ref m_word, .int m_form, .int m_code, .int m_d, .int m_s, .int m_t, .long m_value, .long m_label, .long m_name, .ref m_count, .ref m_formOf, .ref m_codeOf, .ref m_dOf, .ref m_sOf, .ref m_tOf, .ref m_valueOf, .ref m_labelOf, .ref m_nameOf, .ref m_target, .ref m_place, .ref m_far, .int m_imageSize, .int m_farCount, .ref m_image, .int wr, .ref m_out])) :: (m_out, .inl (tp_ty E 0, 40, .inl fr2)) :: fr) H ∧ va_D A ((aM, .inr (4, [.int m_thrown, .ref m_names, .ref m_forms, .int m_size, .ref m_text, .int m_bad, .int m_at, .int m_length, .ref m_word, .int m_form, .int m_code, .int m_d, .int m_s, .int m_t, .long m_value, .long m_label, .long m_name, .ref m_count, .ref m_formOf, .ref m_codeOf, .ref m_dOf, .ref m_sOf, .ref m_tOf, .ref m_valueOf, .ref m_labelOf, .ref m_nameOf, .ref m_target, .ref m_place, .ref m_far, .int m_imageSize, .int m_farCount, .ref m_image, .int wr, .ref m_out])) :: (m_out, .inl (tp_ty E 0, 40, .inl fr2)) :: fr) ∧ va_S A s.heap H locs) ?_ _ (ii + 1) wc fo ⟨⟨tp_dig hvv hii h1 hwc, rfl⟩, tp_lvI hl [0, 1, 2, 3] rfl, hP, hD, hS⟩
      intro j2 rr wr fr2 ls H locs hI ih2
      obtain ⟨⟨hrr, hj2⟩, hl, hP, hD, hS⟩ := hI
      refine lv_lload hx hb d_M_writeNumber_48 (lv_at hl 0 rfl) ?_
      refine lv_lconst (v := 0) hx hb d_M_writeNumber_50 (by decide) ?_
      by_cases h2 : 0 < (tp_Q rr)
      · refine W.lcmp hx hb d_M_writeNumber_51 ?_
        refine lv_if_le (tgt := 83) hx hb d_M_writeNumber_52 (by decide) (fun h => absurd h (tp_lc_le_f h2)) (fun _ => ?_)
        refine lv_aload_n hx hb d_M_writeNumber_55 rfl (lv_at hl 2 rfl) ?_
        refine lv_ldc2 (v := 48) hx hb hown (htg _ kl_M_264) d_M_writeNumber_56 ?_
        refine lv_lload_n hx hb d_M_writeNumber_59 rfl (lv_at hl 1 rfl) ?_
        refine lv_lload hx hb d_M_writeNumber_60 (lv_at hl 0 rfl) ?_
        refine lv_ldiv hx hb d_M_writeNumber_62 (tp_Qnz h2) ?_
        refine lv_ldc2 (v := 10) hx hb hown (htg _ kl_M_262) d_M_writeNumber_63 ?_
        refine lv_lrem hx hb d_M_writeNumber_66 (by decide) ?_
        refine lv_ladd hx hb d_M_writeNumber_67 ?_
        refine lv_l2i (v := (48 + ((vv / (tp_Q rr)) - (vv / (tp_Q rr)) / 10 * 10)).toInt32) hx hb d_M_writeNumber_68 rfl ?_
        refine tp_cv (tp_rV (As := [.int ((48 + ((vv / (tp_Q rr)) - (vv / (tp_Q rr)) / 10 * 10)).toInt32)]) (rest := []) ⟨hx, hb, hml, hown, htg⟩ (a_M_write l E fr _ aM m_names m_forms m_text m_word m_count m_formOf m_codeOf m_dOf m_sOf m_tOf m_valueOf m_labelOf m_nameOf m_target m_place m_far m_image m_out m_thrown m_size m_bad m_at m_length m_form m_code m_d m_s m_t m_imageSize m_farCount wr m_value m_label m_name fr2 ((48 + ((vv / (tp_Q rr)) - (vv / (tp_Q rr)) / 10 * 10)).toInt32) (tp_mn2 hc hrr h2)) (⟨callB_of 1 htg (tp_good0 kc_M_write) rfl rfl rfl (htg _ ki_M) (htg _ kl_M_414) ⟨by decide, by decide, by decide +kernel⟩ ⟨Nat.le_of_ble_eq_true rfl, Nat.le_of_ble_eq_true rfl⟩, htg _ km_M_write, htg _ kp_M_write⟩) (va_recv (ci := 4) (q0 := 0) hK.1 hP rfl rfl) hK hP hD hS hA rfl hl.1 rfl (Nat.le_of_ble_eq_true rfl) d_M_writeNumber_69 ⟨Nat.le_of_ble_eq_true rfl, Nat.le_of_ble_eq_true rfl⟩) hD hS hA (fun u H locs hw hP hD hS => ?_)
        obtain ⟨wq1, oq1⟩ := u
        have hwq1 : wq1.toInt = wr.toInt + 1 := hw
        have hP : va_P (tp_D E) tp_cl ((aM, .inr (4, [.int m_thrown, .ref m_names, .ref m_forms, .int m_size, .ref m_text, .int m_bad, .int m_at, .int m_length, .ref m_word, .int m_form, .int m_code, .int m_d, .int m_s, .int m_t, .long m_value, .long m_label, .long m_name, .ref m_count, .ref m_formOf, .ref m_codeOf, .ref m_dOf, .ref m_sOf, .ref m_tOf, .ref m_valueOf, .ref m_labelOf, .ref m_nameOf, .ref m_target, .ref m_place, .ref m_far, .int m_imageSize, .int m_farCount, .ref m_image, .int wq1, .ref m_out])) :: (m_out, .inl (tp_ty E 0, 40, .inl oq1)) :: fr) H := hP
        have hD : va_D A ((aM, .inr (4, [.int m_thrown, .ref m_names, .ref m_forms, .int m_size, .ref m_text, .int m_bad, .int m_at, .int m_length, .ref m_word, .int m_form, .int m_code, .int m_d, .int m_s, .int m_t, .long m_value, .long m_label, .long m_name, .ref m_count, .ref m_formOf, .ref m_codeOf, .ref m_dOf, .ref m_sOf, .ref m_tOf, .ref m_valueOf, .ref m_labelOf, .ref m_nameOf, .ref m_target, .ref m_place, .ref m_far, .int m_imageSize, .int m_farCount, .ref m_image, .int wq1, .ref m_out])) :: (m_out, .inl (tp_ty E 0, 40, .inl oq1)) :: fr) := hD
        refine lv_lload hx hb d_M_writeNumber_72 (lv_at hl 0 rfl) ?_
        refine lv_ldc2 (v := 10) hx hb hown (htg _ kl_M_262) d_M_writeNumber_74 ?_
        refine lv_ldiv hx hb d_M_writeNumber_77 (by decide) ?_
        refine lv_lstore (lv' := [(4, .long ((tp_Q rr) / 10)), (2, .long vv), (0, .ref aM), (1, .int xv)]) hx hb d_M_writeNumber_78 hl (by decide) rfl (fun ls hl => ?_)
        refine lv_goto (tgt := 48) hx hb d_M_writeNumber_80 (by decide) ?_
        have hr0 := tp_Qpos h2
        rw [tp_Qdiv hr0 hrr.2.2] at hl
        exact ih2 (j2 - 1) (rr - 1) wq1 oq1 ls _ _ (by omega) ⟨⟨tp_step hrr hwq1 hr0, by omega⟩, tp_lvI hl [0, 1, 2, 3] rfl, hP, hD, hS⟩
      · refine W.lcmp hx hb d_M_writeNumber_51 ?_
        refine lv_if_le (tgt := 83) hx hb d_M_writeNumber_52 (by decide) (fun _ => ?_) (fun h => absurd (tp_lc_le_t h2) h)
        exact W.vret hx hb hr (fun t ht hW => ⟨⟨(wr, fr2), rfl, tp_lastn hrr h2, by rw [ht]; exact hP, hD⟩, hS.F ht⟩) hS.2.2 d_M_writeNumber_83
  · intro jn23
    refine lv_iload_n hx hb d_M_writeNumber_0 rfl (lv_at hl 1 rfl) ?_
    by_cases h1 : 0 ≤ xv
    · refine lv_if_ge (tgt := 10) hx hb d_M_writeNumber_1 (by decide) (fun _ => ?_) (fun h => absurd h1 h)
      refine lv_iload_n hx hb d_M_writeNumber_10 rfl (lv_at hl 1 rfl) ?_
      refine lv_if_ge (tgt := 20) hx hb d_M_writeNumber_11 (by decide) (fun _ => ?_) (fun h => absurd h1 h)
      refine lv_iload_n hx hb d_M_writeNumber_20 rfl (lv_at hl 1 rfl) ?_
      refine lv_i2l (v := xv.toInt64) hx hb d_M_writeNumber_21 rfl ?_
      refine lv_lstore_n (lv' := [(2, .long xv.toInt64), (0, .ref aM), (1, .int xv)]) hx hb d_M_writeNumber_22 rfl hl (by decide) rfl (fun ls hl => ?_)
      exact jn23 xv.toInt64 m_written f_out ls _ _ ⟨⟨tp_vvp h1, tp_wcp h1⟩, tp_lvI hl [0, 1, 2] rfl, hP, hD, hS⟩
    · refine lv_if_ge (tgt := 10) hx hb d_M_writeNumber_1 (by decide) (fun h => absurd h h1) (fun _ => ?_)
      refine lv_aload_n hx hb d_M_writeNumber_4 rfl (lv_at hl 0 rfl) ?_
      refine lv_bipush (v := 45) hx hb d_M_writeNumber_5 (by decide) ?_
      refine tp_cv (tp_rV (As := [.int 45]) (rest := []) ⟨hx, hb, hml, hown, htg⟩ (a_M_write l E fr _ aM m_names m_forms m_text m_word m_count m_formOf m_codeOf m_dOf m_sOf m_tOf m_valueOf m_labelOf m_nameOf m_target m_place m_far m_image m_out m_thrown m_size m_bad m_at m_length m_form m_code m_d m_s m_t m_imageSize m_farCount m_written m_value m_label m_name f_out 45 (tp_mn1 hc h1)) (⟨callB_of 1 htg (tp_good0 kc_M_write) rfl rfl rfl (htg _ ki_M) (htg _ kl_M_414) ⟨by decide, by decide, by decide +kernel⟩ ⟨Nat.le_of_ble_eq_true rfl, Nat.le_of_ble_eq_true rfl⟩, htg _ km_M_write, htg _ kp_M_write⟩) (va_recv (ci := 4) (q0 := 0) hK.1 hP rfl rfl) hK hP hD hS hA rfl hl.1 rfl (Nat.le_of_ble_eq_true rfl) d_M_writeNumber_7 ⟨Nat.le_of_ble_eq_true rfl, Nat.le_of_ble_eq_true rfl⟩) hD hS hA (fun u H locs hw hP hD hS => ?_)
      obtain ⟨wq1, oq1⟩ := u
      have hwq1 : wq1.toInt = m_written.toInt + 1 := hw
      have hP : va_P (tp_D E) tp_cl ((aM, .inr (4, [.int m_thrown, .ref m_names, .ref m_forms, .int m_size, .ref m_text, .int m_bad, .int m_at, .int m_length, .ref m_word, .int m_form, .int m_code, .int m_d, .int m_s, .int m_t, .long m_value, .long m_label, .long m_name, .ref m_count, .ref m_formOf, .ref m_codeOf, .ref m_dOf, .ref m_sOf, .ref m_tOf, .ref m_valueOf, .ref m_labelOf, .ref m_nameOf, .ref m_target, .ref m_place, .ref m_far, .int m_imageSize, .int m_farCount, .ref m_image, .int wq1, .ref m_out])) :: (m_out, .inl (tp_ty E 0, 40, .inl oq1)) :: fr) H := hP
      have hD : va_D A ((aM, .inr (4, [.int m_thrown, .ref m_names, .ref m_forms, .int m_size, .ref m_text, .int m_bad, .int m_at, .int m_length, .ref m_word, .int m_form, .int m_code, .int m_d, .int m_s, .int m_t, .long m_value, .long m_label, .long m_name, .ref m_count, .ref m_formOf, .ref m_codeOf, .ref m_dOf, .ref m_sOf, .ref m_tOf, .ref m_valueOf, .ref m_labelOf, .ref m_nameOf, .ref m_target, .ref m_place, .ref m_far, .int m_imageSize, .int m_farCount, .ref m_image, .int wq1, .ref m_out])) :: (m_out, .inl (tp_ty E 0, 40, .inl oq1)) :: fr) := hD
      refine lv_iload_n hx hb d_M_writeNumber_10 rfl (lv_at hl 1 rfl) ?_
      refine lv_if_ge (tgt := 20) hx hb d_M_writeNumber_11 (by decide) (fun h => absurd h h1) (fun _ => ?_)
      refine lv_iload_n hx hb d_M_writeNumber_14 rfl (lv_at hl 1 rfl) ?_
      refine lv_i2l (v := xv.toInt64) hx hb d_M_writeNumber_15 rfl ?_
      refine lv_lneg hx hb d_M_writeNumber_16 ?_
      refine lv_goto (tgt := 22) hx hb d_M_writeNumber_17 (by decide) ?_
      refine lv_lstore_n (lv' := [(2, .long (-xv.toInt64)), (0, .ref aM), (1, .int xv)]) hx hb d_M_writeNumber_22 rfl hl (by decide) rfl (fun ls hl => ?_)
      exact jn23 (-xv.toInt64) wq1 oq1 ls _ _ ⟨⟨tp_vvn h1, tp_wcn h1 hwq1⟩, tp_lvI hl [0, 1, 2] rfl, hP, hD, hS⟩
set_option maxHeartbeats 4000000 in
set_option maxRecDepth 100000 in
theorem a_M_writeRegister (l : Launch) (E : tp_Env) (fr : va_W) (sz : Nat) (aM m_names m_forms m_text m_word m_count m_formOf m_codeOf m_dOf m_sOf m_tOf m_valueOf m_labelOf m_nameOf m_target m_place m_far m_image m_out : Nat) (m_thrown m_size m_bad m_at m_length m_form m_code m_d m_s m_t m_imageSize m_farCount m_written : Int32) (m_value m_label m_name : Int64) (f_out : Nat → Int32) (xb xv : Int32) (hc : 0 ≤ m_written.toInt ∧ m_written.toInt + 2 + (tp_dl xv : Int) ≤ 40) : Met l y_M_writeRegister w_M_writeRegister ({ frames := 2, cells := 0, slots := 0, locals := 46 }) (va_Pc [.ref aM, .int xb, .int xv] (tp_in E ((aM, .inr (4, [.int m_thrown, .ref m_names, .ref m_forms, .int m_size, .ref m_text, .int m_bad, .int m_at, .int m_length, .ref m_word, .int m_form, .int m_code, .int m_d, .int m_s, .int m_t, .long m_value, .long m_label, .long m_name, .ref m_count, .ref m_formOf, .ref m_codeOf, .ref m_dOf, .ref m_sOf, .ref m_tOf, .ref m_valueOf, .ref m_labelOf, .ref m_nameOf, .ref m_target, .ref m_place, .ref m_far, .int m_imageSize, .int m_farCount, .ref m_image, .int m_written, .ref m_out])) :: (m_out, .inl (tp_ty E 0, 40, .inl f_out)) :: fr) sz)) (va_Qv (fun (u : Int32 × (Nat → Int32)) => u.1.toInt = m_written.toInt + 2 + (tp_dl xv : Int)) (fun u t => tp_out E (va_A ((aM, .inr (4, [.int m_thrown, .ref m_names, .ref m_forms, .int m_size, .ref m_text, .int m_bad, .int m_at, .int m_length, .ref m_word, .int m_form, .int m_code, .int m_d, .int m_s, .int m_t, .long m_value, .long m_label, .long m_name, .ref m_count, .ref m_formOf, .ref m_codeOf, .ref m_dOf, .ref m_sOf, .ref m_tOf, .ref m_valueOf, .ref m_labelOf, .ref m_nameOf, .ref m_target, .ref m_place, .ref m_far, .int m_imageSize, .int m_farCount, .ref m_image, .int m_written, .ref m_out])) :: (m_out, .inl (tp_ty E 0, 40, .inl f_out)) :: fr) sz) ((aM, .inr (4, [.int m_thrown, .ref m_names, .ref m_forms, .int m_size, .ref m_text, .int m_bad, .int m_at, .int m_length, .ref m_word, .int m_form, .int m_code, .int m_d, .int m_s, .int m_t, .long m_value, .long m_label, .long m_name, .ref m_count, .ref m_formOf, .ref m_codeOf, .ref m_dOf, .ref m_sOf, .ref m_tOf, .ref m_valueOf, .ref m_labelOf, .ref m_nameOf, .ref m_target, .ref m_place, .ref m_far, .int m_imageSize, .int m_farCount, .ref m_image, .int u.1, .ref m_out])) :: (m_out, .inl (tp_ty E 0, 40, .inl u.2)) :: fr) t) (va_A ((aM, .inr (4, [.int m_thrown, .ref m_names, .ref m_forms, .int m_size, .ref m_text, .int m_bad, .int m_at, .int m_length, .ref m_word, .int m_form, .int m_code, .int m_d, .int m_s, .int m_t, .long m_value, .long m_label, .long m_name, .ref m_count, .ref m_formOf, .ref m_codeOf, .ref m_dOf, .ref m_sOf, .ref m_tOf, .ref m_valueOf, .ref m_labelOf, .ref m_nameOf, .ref m_target, .ref m_place, .ref m_far, .int m_imageSize, .int m_farCount, .ref m_image, .int m_written, .ref m_out])) :: (m_out, .inl (tp_ty E 0, 40, .inl f_out)) :: fr) sz)) 0 0 (va_A ((aM, .inr (4, [.int m_thrown, .ref m_names, .ref m_forms, .int m_size, .ref m_text, .int m_bad, .int m_at, .int m_length, .ref m_word, .int m_form, .int m_code, .int m_d, .int m_s, .int m_t, .long m_value, .long m_label, .long m_name, .ref m_count, .ref m_formOf, .ref m_codeOf, .ref m_dOf, .ref m_sOf, .ref m_tOf, .ref m_valueOf, .ref m_labelOf, .ref m_nameOf, .ref m_target, .ref m_place, .ref m_far, .int m_imageSize, .int m_farCount, .ref m_image, .int m_written, .ref m_out])) :: (m_out, .inl (tp_ty E 0, 40, .inl f_out)) :: fr) sz) := by
  refine Met.ofW (cc := b_M_writeRegister) (maxL := 3) (ret := none) (by decide) rfl ?_
  intro p e s m args below meth c s₁ B hml hv
  obtain ⟨rfl, hsz, hP, hK, hD0⟩ := hv
  have hx := B.exec
  have hb := B.bytes
  have hr := B.returns
  have htg : ∀ w ∈ tp_G, w.before ([.ref aM, .int xb, .int xv] : List Value).toArray s = true := fun w h => atoms_spec (ws := w_M_writeRegister) B.pre w (List.mem_cons_of_mem _ h)
  have hown : s.vm.findClass "TwoPassModel" = some m.cls := findClass_of_methodNamed B.named
  have hlocks := B.notSynchronized
  subst hsz
  have hD := hD0.self (sz := s.heap.size)
  generalize hAe : va_A ((aM, .inr (4, [.int m_thrown, .ref m_names, .ref m_forms, .int m_size, .ref m_text, .int m_bad, .int m_at, .int m_length, .ref m_word, .int m_form, .int m_code, .int m_d, .int m_s, .int m_t, .long m_value, .long m_label, .long m_name, .ref m_count, .ref m_formOf, .ref m_codeOf, .ref m_dOf, .ref m_sOf, .ref m_tOf, .ref m_valueOf, .ref m_labelOf, .ref m_nameOf, .ref m_target, .ref m_place, .ref m_far, .int m_imageSize, .int m_farCount, .ref m_image, .int m_written, .ref m_out])) :: (m_out, .inl (tp_ty E 0, 40, .inl f_out)) :: fr) s.heap.size = A at hD hK ⊢
  have hA : ∀ q : Nat, s.heap.size ≤ q → A q := fun q h => by rw [← hAe]; exact Or.inr h
  have hS : va_S A s.heap s.heap [] := va_S.rf
  have hl := lv_entry ([.ref aM, .int xb, .int xv]) (n := 3) (Nat.le_of_ble_eq_true rfl)
  rw [lg_entry_eq]
  generalize (lg_sl ([.ref aM, .int xb, .int xv]) ++ List.replicate (3 - (lg_sl ([.ref aM, .int xb, .int xv])).length) Slot.unset).toArray = ls at hl ⊢
  have hl : lv_has ls 3 [(0, .ref aM), (1, .int xb), (2, .int xv)] := hl
  refine lv_aload_n hx hb d_M_writeRegister_0 rfl (lv_at hl 0 rfl) ?_
  refine lv_iload_n hx hb d_M_writeRegister_1 rfl (lv_at hl 1 rfl) ?_
  refine tp_cv (tp_rV (As := [.int xb]) (rest := []) ⟨hx, hb, hml, hown, htg⟩ (a_M_write l E fr _ aM m_names m_forms m_text m_word m_count m_formOf m_codeOf m_dOf m_sOf m_tOf m_valueOf m_labelOf m_nameOf m_target m_place m_far m_image m_out m_thrown m_size m_bad m_at m_length m_form m_code m_d m_s m_t m_imageSize m_farCount m_written m_value m_label m_name f_out xb (tp_mr1 hc)) (⟨callB_of 1 htg (tp_good0 kc_M_write) rfl rfl rfl (htg _ ki_M) (htg _ kl_M_414) ⟨by decide, by decide, by decide +kernel⟩ ⟨Nat.le_of_ble_eq_true rfl, Nat.le_of_ble_eq_true rfl⟩, htg _ km_M_write, htg _ kp_M_write⟩) (va_recv (ci := 4) (q0 := 0) hK.1 hP rfl rfl) hK hP hD hS hA rfl hl.1 rfl (Nat.le_of_ble_eq_true rfl) d_M_writeRegister_2 ⟨Nat.le_of_ble_eq_true rfl, Nat.le_of_ble_eq_true rfl⟩) hD hS hA (fun u H locs hw hP hD hS => ?_)
  obtain ⟨wq1, oq1⟩ := u
  have hwq1 : wq1.toInt = m_written.toInt + 1 := hw
  have hP : va_P (tp_D E) tp_cl ((aM, .inr (4, [.int m_thrown, .ref m_names, .ref m_forms, .int m_size, .ref m_text, .int m_bad, .int m_at, .int m_length, .ref m_word, .int m_form, .int m_code, .int m_d, .int m_s, .int m_t, .long m_value, .long m_label, .long m_name, .ref m_count, .ref m_formOf, .ref m_codeOf, .ref m_dOf, .ref m_sOf, .ref m_tOf, .ref m_valueOf, .ref m_labelOf, .ref m_nameOf, .ref m_target, .ref m_place, .ref m_far, .int m_imageSize, .int m_farCount, .ref m_image, .int wq1, .ref m_out])) :: (m_out, .inl (tp_ty E 0, 40, .inl oq1)) :: fr) H := hP
  have hD : va_D A ((aM, .inr (4, [.int m_thrown, .ref m_names, .ref m_forms, .int m_size, .ref m_text, .int m_bad, .int m_at, .int m_length, .ref m_word, .int m_form, .int m_code, .int m_d, .int m_s, .int m_t, .long m_value, .long m_label, .long m_name, .ref m_count, .ref m_formOf, .ref m_codeOf, .ref m_dOf, .ref m_sOf, .ref m_tOf, .ref m_valueOf, .ref m_labelOf, .ref m_nameOf, .ref m_target, .ref m_place, .ref m_far, .int m_imageSize, .int m_farCount, .ref m_image, .int wq1, .ref m_out])) :: (m_out, .inl (tp_ty E 0, 40, .inl oq1)) :: fr) := hD
  refine lv_aload_n hx hb d_M_writeRegister_5 rfl (lv_at hl 0 rfl) ?_
  refine lv_bipush (v := 120) hx hb d_M_writeRegister_6 (by decide) ?_
  refine tp_cv (tp_rV (As := [.int 120]) (rest := []) ⟨hx, hb, hml, hown, htg⟩ (a_M_write l E fr _ aM m_names m_forms m_text m_word m_count m_formOf m_codeOf m_dOf m_sOf m_tOf m_valueOf m_labelOf m_nameOf m_target m_place m_far m_image m_out m_thrown m_size m_bad m_at m_length m_form m_code m_d m_s m_t m_imageSize m_farCount wq1 m_value m_label m_name oq1 120 (tp_mr2 hc hwq1)) (⟨callB_of 1 htg (tp_good0 kc_M_write) rfl rfl rfl (htg _ ki_M) (htg _ kl_M_414) ⟨by decide, by decide, by decide +kernel⟩ ⟨Nat.le_of_ble_eq_true rfl, Nat.le_of_ble_eq_true rfl⟩, htg _ km_M_write, htg _ kp_M_write⟩) (va_recv (ci := 4) (q0 := 0) hK.1 hP rfl rfl) hK hP hD hS hA rfl hl.1 rfl (Nat.le_of_ble_eq_true rfl) d_M_writeRegister_8 ⟨Nat.le_of_ble_eq_true rfl, Nat.le_of_ble_eq_true rfl⟩) hD hS hA (fun u H locs hw hP hD hS => ?_)
  obtain ⟨wq2, oq2⟩ := u
  have hwq2 : wq2.toInt = wq1.toInt + 1 := hw
  have hP : va_P (tp_D E) tp_cl ((aM, .inr (4, [.int m_thrown, .ref m_names, .ref m_forms, .int m_size, .ref m_text, .int m_bad, .int m_at, .int m_length, .ref m_word, .int m_form, .int m_code, .int m_d, .int m_s, .int m_t, .long m_value, .long m_label, .long m_name, .ref m_count, .ref m_formOf, .ref m_codeOf, .ref m_dOf, .ref m_sOf, .ref m_tOf, .ref m_valueOf, .ref m_labelOf, .ref m_nameOf, .ref m_target, .ref m_place, .ref m_far, .int m_imageSize, .int m_farCount, .ref m_image, .int wq2, .ref m_out])) :: (m_out, .inl (tp_ty E 0, 40, .inl oq2)) :: fr) H := hP
  have hD : va_D A ((aM, .inr (4, [.int m_thrown, .ref m_names, .ref m_forms, .int m_size, .ref m_text, .int m_bad, .int m_at, .int m_length, .ref m_word, .int m_form, .int m_code, .int m_d, .int m_s, .int m_t, .long m_value, .long m_label, .long m_name, .ref m_count, .ref m_formOf, .ref m_codeOf, .ref m_dOf, .ref m_sOf, .ref m_tOf, .ref m_valueOf, .ref m_labelOf, .ref m_nameOf, .ref m_target, .ref m_place, .ref m_far, .int m_imageSize, .int m_farCount, .ref m_image, .int wq2, .ref m_out])) :: (m_out, .inl (tp_ty E 0, 40, .inl oq2)) :: fr) := hD
  refine lv_aload_n hx hb d_M_writeRegister_11 rfl (lv_at hl 0 rfl) ?_
  refine lv_iload_n hx hb d_M_writeRegister_12 rfl (lv_at hl 2 rfl) ?_
  refine tp_cv (tp_rV (As := [.int xv]) (rest := []) ⟨hx, hb, hml, hown, htg⟩ (a_M_writeNumber l E fr _ aM m_names m_forms m_text m_word m_count m_formOf m_codeOf m_dOf m_sOf m_tOf m_valueOf m_labelOf m_nameOf m_target m_place m_far m_image m_out m_thrown m_size m_bad m_at m_length m_form m_code m_d m_s m_t m_imageSize m_farCount wq2 m_value m_label m_name oq2 xv (tp_mr3 hc hwq1 hwq2)) (⟨callB_of 1 htg (tp_good0 kc_M_writeNumber) rfl rfl rfl (htg _ ki_M) (htg _ kl_M_419) ⟨by decide, by decide, by decide +kernel⟩ ⟨Nat.le_of_ble_eq_true rfl, Nat.le_of_ble_eq_true rfl⟩, htg _ km_M_writeNumber, htg _ kp_M_writeNumber⟩) (va_recv (ci := 4) (q0 := 0) hK.1 hP rfl rfl) hK hP hD hS hA rfl hl.1 rfl (Nat.le_of_ble_eq_true rfl) d_M_writeRegister_13 ⟨Nat.le_of_ble_eq_true rfl, Nat.le_of_ble_eq_true rfl⟩) hD hS hA (fun u H locs hw hP hD hS => ?_)
  obtain ⟨wq3, oq3⟩ := u
  have hwq3 : wq3.toInt = wq2.toInt + (tp_dl xv : Int) := hw
  have hP : va_P (tp_D E) tp_cl ((aM, .inr (4, [.int m_thrown, .ref m_names, .ref m_forms, .int m_size, .ref m_text, .int m_bad, .int m_at, .int m_length, .ref m_word, .int m_form, .int m_code, .int m_d, .int m_s, .int m_t, .long m_value, .long m_label, .long m_name, .ref m_count, .ref m_formOf, .ref m_codeOf, .ref m_dOf, .ref m_sOf, .ref m_tOf, .ref m_valueOf, .ref m_labelOf, .ref m_nameOf, .ref m_target, .ref m_place, .ref m_far, .int m_imageSize, .int m_farCount, .ref m_image, .int wq3, .ref m_out])) :: (m_out, .inl (tp_ty E 0, 40, .inl oq3)) :: fr) H := hP
  have hD : va_D A ((aM, .inr (4, [.int m_thrown, .ref m_names, .ref m_forms, .int m_size, .ref m_text, .int m_bad, .int m_at, .int m_length, .ref m_word, .int m_form, .int m_code, .int m_d, .int m_s, .int m_t, .long m_value, .long m_label, .long m_name, .ref m_count, .ref m_formOf, .ref m_codeOf, .ref m_dOf, .ref m_sOf, .ref m_tOf, .ref m_valueOf, .ref m_labelOf, .ref m_nameOf, .ref m_target, .ref m_place, .ref m_far, .int m_imageSize, .int m_farCount, .ref m_image, .int wq3, .ref m_out])) :: (m_out, .inl (tp_ty E 0, 40, .inl oq3)) :: fr) := hD
  exact W.vret hx hb hr (fun t ht hW => ⟨⟨(wq3, oq3), rfl, tp_mr4 hwq1 hwq2 hwq3, by rw [ht]; exact hP, hD⟩, hS.F ht⟩) hS.2.2 d_M_writeRegister_16
set_option maxHeartbeats 4000000 in
set_option maxRecDepth 100000 in
theorem a_M_signed12 (l : Launch) (E : tp_Env) (fr : va_W) (sz : Nat) (xv : Int32)  : Met l y_M_signed w_M_signed ({ frames := 0, cells := 0, slots := 0, locals := 0 }) (va_Pc [.int xv, .int 12] (tp_in E fr sz)) (va_Qi (fun r (_ : Unit) => r = (if xv < 2048 then xv else xv - 4096)) (fun _ t => tp_out E (va_A fr sz) fr t) (va_A fr sz)) 0 0 (va_A fr sz) := by
  refine Met.ofW (cc := b_M_signed) (maxL := 2) (ret := (some .int)) (by decide) rfl ?_
  intro p e s m args below meth c s₁ B hml hv
  obtain ⟨rfl, hsz, hP, hK, hD0⟩ := hv
  have hx := B.exec
  have hb := B.bytes
  have hr := B.returns
  have htg : ∀ w ∈ tp_G, w.before ([.int xv, .int 12] : List Value).toArray s = true := fun w h => atoms_spec (ws := w_M_signed) B.pre w (List.mem_cons_of_mem _ h)
  have hown : s.vm.findClass "TwoPassModel" = some m.cls := findClass_of_methodNamed B.named
  have hlocks := B.notSynchronized
  subst hsz
  have hD := hD0.self (sz := s.heap.size)
  generalize hAe : va_A fr s.heap.size = A at hD hK ⊢
  have hA : ∀ q : Nat, s.heap.size ≤ q → A q := fun q h => by rw [← hAe]; exact Or.inr h
  have hS : va_S A s.heap s.heap [] := va_S.rf
  have hl := lv_entry ([.int xv, .int 12]) (n := 2) (Nat.le_of_ble_eq_true rfl)
  rw [lg_entry_eq]
  generalize (lg_sl ([.int xv, .int 12]) ++ List.replicate (2 - (lg_sl ([.int xv, .int 12])).length) Slot.unset).toArray = ls at hl ⊢
  have hl : lv_has ls 2 [(0, .int xv), (1, .int 12)] := hl
  refine lv_iload_n hx hb d_M_signed_0 rfl (lv_at hl 0 rfl) ?_
  refine lv_iconst (v := 1) hx hb d_M_signed_1 (by decide) ?_
  refine lv_iload_n hx hb d_M_signed_2 rfl (lv_at hl 1 rfl) ?_
  refine lv_iconst (v := 1) hx hb d_M_signed_3 (by decide) ?_
  refine lv_isub hx hb d_M_signed_4 ?_
  refine tp_topi (v := 11) (by decide) ?_
  refine lv_ishl hx hb d_M_signed_5 ?_
  refine tp_topi (v := 2048) (by decide) ?_
  by_cases h1 : xv < 2048
  · refine lv_icmp_lt (tgt := 17) hx hb d_M_signed_6 (by decide) (fun _ => ?_) (fun h => absurd h1 h)
    refine lv_iload_n hx hb d_M_signed_17 rfl (lv_at hl 0 rfl) ?_
    exact W.iret (v := xv) hx hb hr (fun t ht hW => ⟨⟨_, (), rfl, (by rw [if_pos h1]), by rw [ht]; exact hP, hD⟩, hS.F ht⟩) hS.2.2 d_M_signed_18
  · refine lv_icmp_lt (tgt := 17) hx hb d_M_signed_6 (by decide) (fun h => absurd h h1) (fun _ => ?_)
    refine lv_iload_n hx hb d_M_signed_9 rfl (lv_at hl 0 rfl) ?_
    refine lv_iconst (v := 1) hx hb d_M_signed_10 (by decide) ?_
    refine lv_iload_n hx hb d_M_signed_11 rfl (lv_at hl 1 rfl) ?_
    refine lv_ishl hx hb d_M_signed_12 ?_
    refine tp_topi (v := 4096) (by decide) ?_
    refine lv_isub hx hb d_M_signed_13 ?_
    refine lv_goto (tgt := 18) hx hb d_M_signed_14 (by decide) ?_
    exact W.iret (v := (xv - 4096)) hx hb hr (fun t ht hW => ⟨⟨_, (), rfl, (by rw [if_neg h1]), by rw [ht]; exact hP, hD⟩, hS.F ht⟩) hS.2.2 d_M_signed_18
set_option maxHeartbeats 4000000 in
set_option maxRecDepth 100000 in
theorem a_M_signed13 (l : Launch) (E : tp_Env) (fr : va_W) (sz : Nat) (xv : Int32)  : Met l y_M_signed w_M_signed ({ frames := 0, cells := 0, slots := 0, locals := 0 }) (va_Pc [.int xv, .int 13] (tp_in E fr sz)) (va_Qi (fun r (_ : Unit) => r = (if xv < 4096 then xv else xv - 8192)) (fun _ t => tp_out E (va_A fr sz) fr t) (va_A fr sz)) 0 0 (va_A fr sz) := by
  refine Met.ofW (cc := b_M_signed) (maxL := 2) (ret := (some .int)) (by decide) rfl ?_
  intro p e s m args below meth c s₁ B hml hv
  obtain ⟨rfl, hsz, hP, hK, hD0⟩ := hv
  have hx := B.exec
  have hb := B.bytes
  have hr := B.returns
  have htg : ∀ w ∈ tp_G, w.before ([.int xv, .int 13] : List Value).toArray s = true := fun w h => atoms_spec (ws := w_M_signed) B.pre w (List.mem_cons_of_mem _ h)
  have hown : s.vm.findClass "TwoPassModel" = some m.cls := findClass_of_methodNamed B.named
  have hlocks := B.notSynchronized
  subst hsz
  have hD := hD0.self (sz := s.heap.size)
  generalize hAe : va_A fr s.heap.size = A at hD hK ⊢
  have hA : ∀ q : Nat, s.heap.size ≤ q → A q := fun q h => by rw [← hAe]; exact Or.inr h
  have hS : va_S A s.heap s.heap [] := va_S.rf
  have hl := lv_entry ([.int xv, .int 13]) (n := 2) (Nat.le_of_ble_eq_true rfl)
  rw [lg_entry_eq]
  generalize (lg_sl ([.int xv, .int 13]) ++ List.replicate (2 - (lg_sl ([.int xv, .int 13])).length) Slot.unset).toArray = ls at hl ⊢
  have hl : lv_has ls 2 [(0, .int xv), (1, .int 13)] := hl
  refine lv_iload_n hx hb d_M_signed_0 rfl (lv_at hl 0 rfl) ?_
  refine lv_iconst (v := 1) hx hb d_M_signed_1 (by decide) ?_
  refine lv_iload_n hx hb d_M_signed_2 rfl (lv_at hl 1 rfl) ?_
  refine lv_iconst (v := 1) hx hb d_M_signed_3 (by decide) ?_
  refine lv_isub hx hb d_M_signed_4 ?_
  refine tp_topi (v := 12) (by decide) ?_
  refine lv_ishl hx hb d_M_signed_5 ?_
  refine tp_topi (v := 4096) (by decide) ?_
  by_cases h1 : xv < 4096
  · refine lv_icmp_lt (tgt := 17) hx hb d_M_signed_6 (by decide) (fun _ => ?_) (fun h => absurd h1 h)
    refine lv_iload_n hx hb d_M_signed_17 rfl (lv_at hl 0 rfl) ?_
    exact W.iret (v := xv) hx hb hr (fun t ht hW => ⟨⟨_, (), rfl, (by rw [if_pos h1]), by rw [ht]; exact hP, hD⟩, hS.F ht⟩) hS.2.2 d_M_signed_18
  · refine lv_icmp_lt (tgt := 17) hx hb d_M_signed_6 (by decide) (fun h => absurd h h1) (fun _ => ?_)
    refine lv_iload_n hx hb d_M_signed_9 rfl (lv_at hl 0 rfl) ?_
    refine lv_iconst (v := 1) hx hb d_M_signed_10 (by decide) ?_
    refine lv_iload_n hx hb d_M_signed_11 rfl (lv_at hl 1 rfl) ?_
    refine lv_ishl hx hb d_M_signed_12 ?_
    refine tp_topi (v := 8192) (by decide) ?_
    refine lv_isub hx hb d_M_signed_13 ?_
    refine lv_goto (tgt := 18) hx hb d_M_signed_14 (by decide) ?_
    exact W.iret (v := (xv - 8192)) hx hb hr (fun t ht hW => ⟨⟨_, (), rfl, (by rw [if_neg h1]), by rw [ht]; exact hP, hD⟩, hS.F ht⟩) hS.2.2 d_M_signed_18
set_option maxHeartbeats 4000000 in
set_option maxRecDepth 100000 in
theorem a_M_signed21 (l : Launch) (E : tp_Env) (fr : va_W) (sz : Nat) (xv : Int32)  : Met l y_M_signed w_M_signed ({ frames := 0, cells := 0, slots := 0, locals := 0 }) (va_Pc [.int xv, .int 21] (tp_in E fr sz)) (va_Qi (fun r (_ : Unit) => r = (if xv < 1048576 then xv else xv - 2097152)) (fun _ t => tp_out E (va_A fr sz) fr t) (va_A fr sz)) 0 0 (va_A fr sz) := by
  refine Met.ofW (cc := b_M_signed) (maxL := 2) (ret := (some .int)) (by decide) rfl ?_
  intro p e s m args below meth c s₁ B hml hv
  obtain ⟨rfl, hsz, hP, hK, hD0⟩ := hv
  have hx := B.exec
  have hb := B.bytes
  have hr := B.returns
  have htg : ∀ w ∈ tp_G, w.before ([.int xv, .int 21] : List Value).toArray s = true := fun w h => atoms_spec (ws := w_M_signed) B.pre w (List.mem_cons_of_mem _ h)
  have hown : s.vm.findClass "TwoPassModel" = some m.cls := findClass_of_methodNamed B.named
  have hlocks := B.notSynchronized
  subst hsz
  have hD := hD0.self (sz := s.heap.size)
  generalize hAe : va_A fr s.heap.size = A at hD hK ⊢
  have hA : ∀ q : Nat, s.heap.size ≤ q → A q := fun q h => by rw [← hAe]; exact Or.inr h
  have hS : va_S A s.heap s.heap [] := va_S.rf
  have hl := lv_entry ([.int xv, .int 21]) (n := 2) (Nat.le_of_ble_eq_true rfl)
  rw [lg_entry_eq]
  generalize (lg_sl ([.int xv, .int 21]) ++ List.replicate (2 - (lg_sl ([.int xv, .int 21])).length) Slot.unset).toArray = ls at hl ⊢
  have hl : lv_has ls 2 [(0, .int xv), (1, .int 21)] := hl
  refine lv_iload_n hx hb d_M_signed_0 rfl (lv_at hl 0 rfl) ?_
  refine lv_iconst (v := 1) hx hb d_M_signed_1 (by decide) ?_
  refine lv_iload_n hx hb d_M_signed_2 rfl (lv_at hl 1 rfl) ?_
  refine lv_iconst (v := 1) hx hb d_M_signed_3 (by decide) ?_
  refine lv_isub hx hb d_M_signed_4 ?_
  refine tp_topi (v := 20) (by decide) ?_
  refine lv_ishl hx hb d_M_signed_5 ?_
  refine tp_topi (v := 1048576) (by decide) ?_
  by_cases h1 : xv < 1048576
  · refine lv_icmp_lt (tgt := 17) hx hb d_M_signed_6 (by decide) (fun _ => ?_) (fun h => absurd h1 h)
    refine lv_iload_n hx hb d_M_signed_17 rfl (lv_at hl 0 rfl) ?_
    exact W.iret (v := xv) hx hb hr (fun t ht hW => ⟨⟨_, (), rfl, (by rw [if_pos h1]), by rw [ht]; exact hP, hD⟩, hS.F ht⟩) hS.2.2 d_M_signed_18
  · refine lv_icmp_lt (tgt := 17) hx hb d_M_signed_6 (by decide) (fun h => absurd h h1) (fun _ => ?_)
    refine lv_iload_n hx hb d_M_signed_9 rfl (lv_at hl 0 rfl) ?_
    refine lv_iconst (v := 1) hx hb d_M_signed_10 (by decide) ?_
    refine lv_iload_n hx hb d_M_signed_11 rfl (lv_at hl 1 rfl) ?_
    refine lv_ishl hx hb d_M_signed_12 ?_
    refine tp_topi (v := 2097152) (by decide) ?_
    refine lv_isub hx hb d_M_signed_13 ?_
    refine lv_goto (tgt := 18) hx hb d_M_signed_14 (by decide) ?_
    exact W.iret (v := (xv - 2097152)) hx hb hr (fun t ht hW => ⟨⟨_, (), rfl, (by rw [if_neg h1]), by rw [ht]; exact hP, hD⟩, hS.F ht⟩) hS.2.2 d_M_signed_18
set_option maxHeartbeats 4000000 in
set_option maxRecDepth 100000 in
theorem a_M_operationOf (l : Launch) (E : tp_Env) (fr : va_W) (sz : Nat) (aM m_names m_forms m_text m_word m_count m_formOf m_codeOf m_dOf m_sOf m_tOf m_valueOf m_labelOf m_nameOf m_target m_place m_far m_image m_out : Nat) (m_thrown m_size m_bad m_at m_length m_form m_code m_d m_s m_t m_imageSize m_farCount m_written : Int32) (m_value m_label m_name : Int64) (f_forms : Nat → Int32) (xw : Int32)  : Met l y_M_operationOf w_M_operationOf ({ frames := 0, cells := 0, slots := 0, locals := 0 }) (va_Pc [.ref aM, .int xw] (tp_in E ((aM, .inr (4, [.int m_thrown, .ref m_names, .ref m_forms, .int m_size, .ref m_text, .int m_bad, .int m_at, .int m_length, .ref m_word, .int m_form, .int m_code, .int m_d, .int m_s, .int m_t, .long m_value, .long m_label, .long m_name, .ref m_count, .ref m_formOf, .ref m_codeOf, .ref m_dOf, .ref m_sOf, .ref m_tOf, .ref m_valueOf, .ref m_labelOf, .ref m_nameOf, .ref m_target, .ref m_place, .ref m_far, .int m_imageSize, .int m_farCount, .ref m_image, .int m_written, .ref m_out])) :: (m_forms, .inl (tp_ty E 0, 46, .inl f_forms)) :: fr) sz)) (va_Qi (fun r (_ : Unit) => tp_mhit xw f_forms r) (fun _ t => tp_out E (va_A ((aM, .inr (4, [.int m_thrown, .ref m_names, .ref m_forms, .int m_size, .ref m_text, .int m_bad, .int m_at, .int m_length, .ref m_word, .int m_form, .int m_code, .int m_d, .int m_s, .int m_t, .long m_value, .long m_label, .long m_name, .ref m_count, .ref m_formOf, .ref m_codeOf, .ref m_dOf, .ref m_sOf, .ref m_tOf, .ref m_valueOf, .ref m_labelOf, .ref m_nameOf, .ref m_target, .ref m_place, .ref m_far, .int m_imageSize, .int m_farCount, .ref m_image, .int m_written, .ref m_out])) :: (m_forms, .inl (tp_ty E 0, 46, .inl f_forms)) :: fr) sz) ((aM, .inr (4, [.int m_thrown, .ref m_names, .ref m_forms, .int m_size, .ref m_text, .int m_bad, .int m_at, .int m_length, .ref m_word, .int m_form, .int m_code, .int m_d, .int m_s, .int m_t, .long m_value, .long m_label, .long m_name, .ref m_count, .ref m_formOf, .ref m_codeOf, .ref m_dOf, .ref m_sOf, .ref m_tOf, .ref m_valueOf, .ref m_labelOf, .ref m_nameOf, .ref m_target, .ref m_place, .ref m_far, .int m_imageSize, .int m_farCount, .ref m_image, .int m_written, .ref m_out])) :: (m_forms, .inl (tp_ty E 0, 46, .inl f_forms)) :: fr) t) (va_A ((aM, .inr (4, [.int m_thrown, .ref m_names, .ref m_forms, .int m_size, .ref m_text, .int m_bad, .int m_at, .int m_length, .ref m_word, .int m_form, .int m_code, .int m_d, .int m_s, .int m_t, .long m_value, .long m_label, .long m_name, .ref m_count, .ref m_formOf, .ref m_codeOf, .ref m_dOf, .ref m_sOf, .ref m_tOf, .ref m_valueOf, .ref m_labelOf, .ref m_nameOf, .ref m_target, .ref m_place, .ref m_far, .int m_imageSize, .int m_farCount, .ref m_image, .int m_written, .ref m_out])) :: (m_forms, .inl (tp_ty E 0, 46, .inl f_forms)) :: fr) sz)) 0 0 (va_A ((aM, .inr (4, [.int m_thrown, .ref m_names, .ref m_forms, .int m_size, .ref m_text, .int m_bad, .int m_at, .int m_length, .ref m_word, .int m_form, .int m_code, .int m_d, .int m_s, .int m_t, .long m_value, .long m_label, .long m_name, .ref m_count, .ref m_formOf, .ref m_codeOf, .ref m_dOf, .ref m_sOf, .ref m_tOf, .ref m_valueOf, .ref m_labelOf, .ref m_nameOf, .ref m_target, .ref m_place, .ref m_far, .int m_imageSize, .int m_farCount, .ref m_image, .int m_written, .ref m_out])) :: (m_forms, .inl (tp_ty E 0, 46, .inl f_forms)) :: fr) sz) := by
  refine Met.ofW (cc := b_M_operationOf) (maxL := 9) (ret := (some .int)) (by decide) rfl ?_
  intro p e s m args below meth c s₁ B hml hv
  obtain ⟨rfl, hsz, hP, hK, hD0⟩ := hv
  have hx := B.exec
  have hb := B.bytes
  have hr := B.returns
  have htg : ∀ w ∈ tp_G, w.before ([.ref aM, .int xw] : List Value).toArray s = true := fun w h => atoms_spec (ws := w_M_operationOf) B.pre w (List.mem_cons_of_mem _ h)
  have hown : s.vm.findClass "TwoPassModel" = some m.cls := findClass_of_methodNamed B.named
  have hlocks := B.notSynchronized
  subst hsz
  have hD := hD0.self (sz := s.heap.size)
  generalize hAe : va_A ((aM, .inr (4, [.int m_thrown, .ref m_names, .ref m_forms, .int m_size, .ref m_text, .int m_bad, .int m_at, .int m_length, .ref m_word, .int m_form, .int m_code, .int m_d, .int m_s, .int m_t, .long m_value, .long m_label, .long m_name, .ref m_count, .ref m_formOf, .ref m_codeOf, .ref m_dOf, .ref m_sOf, .ref m_tOf, .ref m_valueOf, .ref m_labelOf, .ref m_nameOf, .ref m_target, .ref m_place, .ref m_far, .int m_imageSize, .int m_farCount, .ref m_image, .int m_written, .ref m_out])) :: (m_forms, .inl (tp_ty E 0, 46, .inl f_forms)) :: fr) s.heap.size = A at hD hK ⊢
  have hA : ∀ q : Nat, s.heap.size ≤ q → A q := fun q h => by rw [← hAe]; exact Or.inr h
  have hS : va_S A s.heap s.heap [] := va_S.rf
  have hl := lv_entry ([.ref aM, .int xw]) (n := 9) (Nat.le_of_ble_eq_true rfl)
  rw [lg_entry_eq]
  generalize (lg_sl ([.ref aM, .int xw]) ++ List.replicate (9 - (lg_sl ([.ref aM, .int xw])).length) Slot.unset).toArray = ls at hl ⊢
  have hl : lv_has ls 9 [(0, .ref aM), (1, .int xw)] := hl
  refine lv_iload_n hx hb d_M_operationOf_0 rfl (lv_at hl 1 rfl) ?_
  refine lv_bipush (v := 127) hx hb d_M_operationOf_1 (by decide) ?_
  refine lv_iand hx hb d_M_operationOf_3 ?_
  refine lv_istore_n (lv' := [(2, .int (xw &&& 127)), (0, .ref aM), (1, .int xw)]) hx hb d_M_operationOf_4 rfl hl (by decide) rfl (fun ls hl => ?_)
  refine lv_iload_n hx hb d_M_operationOf_5 rfl (lv_at hl 2 rfl) ?_
  refine lv_bipush (v := 12) hx hb d_M_operationOf_6 (by decide) ?_
  refine lv_ishr hx hb d_M_operationOf_8 ?_
  refine lv_bipush (v := 7) hx hb d_M_operationOf_9 (by decide) ?_
  refine lv_iand hx hb d_M_operationOf_11 ?_
  refine lv_istore_n (lv' := [(3, .int ((xw >>> (12 &&& 31 : Int32)) &&& 7)), (2, .int (xw &&& 127)), (0, .ref aM), (1, .int xw)]) hx hb d_M_operationOf_12 rfl hl (by decide) rfl (fun ls hl => ?_)
  refine lv_iload_n hx hb d_M_operationOf_13 rfl (lv_at hl 3 rfl) ?_
  refine lv_bipush (v := 25) hx hb d_M_operationOf_14 (by decide) ?_
  refine lv_iushr (v := (xw.toUInt32 >>> (Int32.toUInt32 25 &&& Int32.toUInt32 31)).toInt32) hx hb d_M_operationOf_16 rfl ?_
  refine lv_istore (lv' := [(4, .int ((xw.toUInt32 >>> (Int32.toUInt32 25 &&& Int32.toUInt32 31)).toInt32)), (3, .int ((xw >>> (12 &&& 31 : Int32)) &&& 7)), (2, .int (xw &&& 127)), (0, .ref aM), (1, .int xw)]) hx hb d_M_operationOf_17 hl (by decide) rfl (fun ls hl => ?_)
  refine lv_iconst (v := 0) hx hb d_M_operationOf_19 (by decide) ?_
  refine lv_istore (lv' := [(5, .int 0), (4, .int ((xw.toUInt32 >>> (Int32.toUInt32 25 &&& Int32.toUInt32 31)).toInt32)), (3, .int ((xw >>> (12 &&& 31 : Int32)) &&& 7)), (2, .int (xw &&& 127)), (0, .ref aM), (1, .int xw)]) hx hb d_M_operationOf_20 hl (by decide) rfl (fun ls hl => ?_)
  refine tp_loop (fun j ls H locs (k : Int32) => ((0 ≤ k.toInt) ∧ (k.toInt + (j : Int) = 33) ∧ (∀ i : Nat, i < k.toInt.toNat → ¬ tp_mm xw (f_forms i))) ∧ lv_has ls 9 [(5, .int k), (4, .int ((xw.toUInt32 >>> (Int32.toUInt32 25 &&& Int32.toUInt32 31)).toInt32)), (3, .int ((xw >>> (12 &&& 31 : Int32)) &&& 7)), (2, .int (xw &&& 127)), (0, .ref aM), (1, .int xw)] ∧ va_P (tp_D E) tp_cl ((aM, .inr (4, [.int m_thrown, .ref m_names, .ref m_forms, .int m_size, .ref m_text, .int m_bad, .int m_at, .int m_length, .ref m_word, .int m_form, .int m_code, .int m_d, .int m_s, .int m_t, .long m_value, .long m_label, .long m_name, .ref m_count, .ref m_formOf, .ref m_codeOf, .ref m_dOf, .ref m_sOf, .ref m_tOf, .ref m_valueOf, .ref m_labelOf, .ref m_nameOf, .ref m_target, .ref m_place, .ref m_far, .int m_imageSize, .int m_farCount, .ref m_image, .int m_written, .ref m_out])) :: (m_forms, .inl (tp_ty E 0, 46, .inl f_forms)) :: fr) H ∧ va_D A ((aM, .inr (4, [.int m_thrown, .ref m_names, .ref m_forms, .int m_size, .ref m_text, .int m_bad, .int m_at, .int m_length, .ref m_word, .int m_form, .int m_code, .int m_d, .int m_s, .int m_t, .long m_value, .long m_label, .long m_name, .ref m_count, .ref m_formOf, .ref m_codeOf, .ref m_dOf, .ref m_sOf, .ref m_tOf, .ref m_valueOf, .ref m_labelOf, .ref m_nameOf, .ref m_target, .ref m_place, .ref m_far, .int m_imageSize, .int m_farCount, .ref m_image, .int m_written, .ref m_out])) :: (m_forms, .inl (tp_ty E 0, 46, .inl f_forms)) :: fr) ∧ va_S A s.heap H locs) ?_ _ 0 ⟨⟨by decide, show (0 : Int32).toInt + ((33 : Nat) : Int) = 33 from by decide, fun i z => absurd z (by rw [Int32.toInt_zero]; omega)⟩, tp_lvI hl [0, 1, 2, 3, 4, 5] rfl, hP, hD, hS⟩
  intro j k ls H locs hI ih
  obtain ⟨⟨hk0, hj, hno⟩, hl, hP, hD, hS⟩ := hI
  refine lv_iload hx hb d_M_operationOf_22 (lv_at hl 0 rfl) ?_
  refine lv_bipush (v := 33) hx hb d_M_operationOf_24 (by decide) ?_
  by_cases h1 : 33 ≤ k
  · refine lv_icmp_ge (tgt := 202) hx hb d_M_operationOf_26 (by decide) (fun _ => ?_) (fun h => absurd h1 h)
    refine lv_iconst (v := (-1)) hx hb d_M_operationOf_202 (by decide) ?_
    exact W.iret (v := (-1)) hx hb hr (fun t ht hW => ⟨⟨_, (), rfl, Or.inl ⟨rfl, tp_allmm hno h1⟩, by rw [ht]; exact hP, hD⟩, hS.F ht⟩) hS.2.2 d_M_operationOf_203
  · refine lv_icmp_ge (tgt := 202) hx hb d_M_operationOf_26 (by decide) (fun h => absurd h h1) (fun _ => ?_)
    refine lv_aload_n hx hb d_M_operationOf_29 rfl (lv_at hl 4 rfl) ?_
    refine va_get (D := tp_D E) (ci := 4) (v := .ref m_forms) (C := qR_M) (T := qF_M) (N := 34) hx hb htg qi_M hown hK.1 hP 0 rfl rfl 2 (by decide) (htg _ kl_M_13) (fun _ h => h) rfl d_M_operationOf_30 ?_
    refine lv_iload hx hb d_M_operationOf_33 (lv_at hl 0 rfl) ?_
    refine va_iald (D := tp_D E) hx hb hK.1 hP 1 0 rfl rfl (tp_k33 hk0 h1) d_M_operationOf_35 ?_
    refine lv_ldcw (v := 100000) hx hb hown (htg _ kl_M_321) d_M_operationOf_36 ?_
    refine lv_idiv hx hb d_M_operationOf_39 (by decide) ?_
    refine lv_istore (lv' := [(6, .int ((f_forms k.toNatClampNeg) / 100000)), (5, .int k), (4, .int ((xw.toUInt32 >>> (Int32.toUInt32 25 &&& Int32.toUInt32 31)).toInt32)), (3, .int ((xw >>> (12 &&& 31 : Int32)) &&& 7)), (2, .int (xw &&& 127)), (0, .ref aM), (1, .int xw)]) hx hb d_M_operationOf_40 hl (by decide) rfl (fun ls hl => ?_)
    refine tp_join (pc' := 97) (fun ls H locs (is1 : Int32) => (((is1 = 1 ∧ tp_mA xw (f_forms k.toNatClampNeg)) ∨ (is1 = 0 ∧ ¬ tp_mA xw (f_forms k.toNatClampNeg)))) ∧ lv_has ls 9 [(7, .int is1), (6, .int ((f_forms k.toNatClampNeg) / 100000)), (5, .int k), (4, .int ((xw.toUInt32 >>> (Int32.toUInt32 25 &&& Int32.toUInt32 31)).toInt32)), (3, .int ((xw >>> (12 &&& 31 : Int32)) &&& 7)), (2, .int (xw &&& 127)), (0, .ref aM), (1, .int xw)] ∧ va_P (tp_D E) tp_cl ((aM, .inr (4, [.int m_thrown, .ref m_names, .ref m_forms, .int m_size, .ref m_text, .int m_bad, .int m_at, .int m_length, .ref m_word, .int m_form, .int m_code, .int m_d, .int m_s, .int m_t, .long m_value, .long m_label, .long m_name, .ref m_count, .ref m_formOf, .ref m_codeOf, .ref m_dOf, .ref m_sOf, .ref m_tOf, .ref m_valueOf, .ref m_labelOf, .ref m_nameOf, .ref m_target, .ref m_place, .ref m_far, .int m_imageSize, .int m_farCount, .ref m_image, .int m_written, .ref m_out])) :: (m_forms, .inl (tp_ty E 0, 46, .inl f_forms)) :: fr) H ∧ va_D A ((aM, .inr (4, [.int m_thrown, .ref m_names, .ref m_forms, .int m_size, .ref m_text, .int m_bad, .int m_at, .int m_length, .ref m_word, .int m_form, .int m_code, .int m_d, .int m_s, .int m_t, .long m_value, .long m_label, .long m_name, .ref m_count, .ref m_formOf, .ref m_codeOf, .ref m_dOf, .ref m_sOf, .ref m_tOf, .ref m_valueOf, .ref m_labelOf, .ref m_nameOf, .ref m_target, .ref m_place, .ref m_far, .int m_imageSize, .int m_farCount, .ref m_image, .int m_written, .ref m_out])) :: (m_forms, .inl (tp_ty E 0, 46, .inl f_forms)) :: fr) ∧ va_S A s.heap H locs) ?_ ?_
    · intro is1 ls H locs hI
      obtain ⟨hi1, hl, hP, hD, hS⟩ := hI
      refine tp_join (pc' := 118) (fun ls H locs (mk : Int32) => (((mk = 1 ∧ tp_mB (f_forms k.toNatClampNeg)) ∨ (mk = 0 ∧ ¬ tp_mB (f_forms k.toNatClampNeg)))) ∧ lv_has ls 9 [(8, .int mk), (7, .int is1), (6, .int ((f_forms k.toNatClampNeg) / 100000)), (5, .int k), (4, .int ((xw.toUInt32 >>> (Int32.toUInt32 25 &&& Int32.toUInt32 31)).toInt32)), (3, .int ((xw >>> (12 &&& 31 : Int32)) &&& 7)), (2, .int (xw &&& 127)), (0, .ref aM), (1, .int xw)] ∧ va_P (tp_D E) tp_cl ((aM, .inr (4, [.int m_thrown, .ref m_names, .ref m_forms, .int m_size, .ref m_text, .int m_bad, .int m_at, .int m_length, .ref m_word, .int m_form, .int m_code, .int m_d, .int m_s, .int m_t, .long m_value, .long m_label, .long m_name, .ref m_count, .ref m_formOf, .ref m_codeOf, .ref m_dOf, .ref m_sOf, .ref m_tOf, .ref m_valueOf, .ref m_labelOf, .ref m_nameOf, .ref m_target, .ref m_place, .ref m_far, .int m_imageSize, .int m_farCount, .ref m_image, .int m_written, .ref m_out])) :: (m_forms, .inl (tp_ty E 0, 46, .inl f_forms)) :: fr) H ∧ va_D A ((aM, .inr (4, [.int m_thrown, .ref m_names, .ref m_forms, .int m_size, .ref m_text, .int m_bad, .int m_at, .int m_length, .ref m_word, .int m_form, .int m_code, .int m_d, .int m_s, .int m_t, .long m_value, .long m_label, .long m_name, .ref m_count, .ref m_formOf, .ref m_codeOf, .ref m_dOf, .ref m_sOf, .ref m_tOf, .ref m_valueOf, .ref m_labelOf, .ref m_nameOf, .ref m_target, .ref m_place, .ref m_far, .int m_imageSize, .int m_farCount, .ref m_image, .int m_written, .ref m_out])) :: (m_forms, .inl (tp_ty E 0, 46, .inl f_forms)) :: fr) ∧ va_S A s.heap H locs) ?_ ?_
      · intro mk ls H locs hI
        obtain ⟨hmk, hl, hP, hD, hS⟩ := hI
        refine tp_join (pc' := 152) (fun ls H locs (is2 : Int32) => (((is2 = 1 ∧ (tp_mA xw (f_forms k.toNatClampNeg)) ∧ (tp_m1 xw (f_forms k.toNatClampNeg))) ∨ (is2 = 0 ∧ ¬ ((tp_mA xw (f_forms k.toNatClampNeg)) ∧ (tp_m1 xw (f_forms k.toNatClampNeg)))))) ∧ lv_has ls 9 [(7, .int is2), (8, .int mk), (6, .int ((f_forms k.toNatClampNeg) / 100000)), (5, .int k), (4, .int ((xw.toUInt32 >>> (Int32.toUInt32 25 &&& Int32.toUInt32 31)).toInt32)), (3, .int ((xw >>> (12 &&& 31 : Int32)) &&& 7)), (2, .int (xw &&& 127)), (0, .ref aM), (1, .int xw)] ∧ va_P (tp_D E) tp_cl ((aM, .inr (4, [.int m_thrown, .ref m_names, .ref m_forms, .int m_size, .ref m_text, .int m_bad, .int m_at, .int m_length, .ref m_word, .int m_form, .int m_code, .int m_d, .int m_s, .int m_t, .long m_value, .long m_label, .long m_name, .ref m_count, .ref m_formOf, .ref m_codeOf, .ref m_dOf, .ref m_sOf, .ref m_tOf, .ref m_valueOf, .ref m_labelOf, .ref m_nameOf, .ref m_target, .ref m_place, .ref m_far, .int m_imageSize, .int m_farCount, .ref m_image, .int m_written, .ref m_out])) :: (m_forms, .inl (tp_ty E 0, 46, .inl f_forms)) :: fr) H ∧ va_D A ((aM, .inr (4, [.int m_thrown, .ref m_names, .ref m_forms, .int m_size, .ref m_text, .int m_bad, .int m_at, .int m_length, .ref m_word, .int m_form, .int m_code, .int m_d, .int m_s, .int m_t, .long m_value, .long m_label, .long m_name, .ref m_count, .ref m_formOf, .ref m_codeOf, .ref m_dOf, .ref m_sOf, .ref m_tOf, .ref m_valueOf, .ref m_labelOf, .ref m_nameOf, .ref m_target, .ref m_place, .ref m_far, .int m_imageSize, .int m_farCount, .ref m_image, .int m_written, .ref m_out])) :: (m_forms, .inl (tp_ty E 0, 46, .inl f_forms)) :: fr) ∧ va_S A s.heap H locs) ?_ ?_
        · intro is2 ls H locs hI
          obtain ⟨hi2, hl, hP, hD, hS⟩ := hI
          refine tp_join (pc' := 188) (fun ls H locs (is3 : Int32) => (((is3 = 1 ∧ tp_mm xw (f_forms k.toNatClampNeg)) ∨ (is3 = 0 ∧ ¬ tp_mm xw (f_forms k.toNatClampNeg)))) ∧ lv_has ls 9 [(7, .int is3), (8, .int mk), (6, .int ((f_forms k.toNatClampNeg) / 100000)), (5, .int k), (4, .int ((xw.toUInt32 >>> (Int32.toUInt32 25 &&& Int32.toUInt32 31)).toInt32)), (3, .int ((xw >>> (12 &&& 31 : Int32)) &&& 7)), (2, .int (xw &&& 127)), (0, .ref aM), (1, .int xw)] ∧ va_P (tp_D E) tp_cl ((aM, .inr (4, [.int m_thrown, .ref m_names, .ref m_forms, .int m_size, .ref m_text, .int m_bad, .int m_at, .int m_length, .ref m_word, .int m_form, .int m_code, .int m_d, .int m_s, .int m_t, .long m_value, .long m_label, .long m_name, .ref m_count, .ref m_formOf, .ref m_codeOf, .ref m_dOf, .ref m_sOf, .ref m_tOf, .ref m_valueOf, .ref m_labelOf, .ref m_nameOf, .ref m_target, .ref m_place, .ref m_far, .int m_imageSize, .int m_farCount, .ref m_image, .int m_written, .ref m_out])) :: (m_forms, .inl (tp_ty E 0, 46, .inl f_forms)) :: fr) H ∧ va_D A ((aM, .inr (4, [.int m_thrown, .ref m_names, .ref m_forms, .int m_size, .ref m_text, .int m_bad, .int m_at, .int m_length, .ref m_word, .int m_form, .int m_code, .int m_d, .int m_s, .int m_t, .long m_value, .long m_label, .long m_name, .ref m_count, .ref m_formOf, .ref m_codeOf, .ref m_dOf, .ref m_sOf, .ref m_tOf, .ref m_valueOf, .ref m_labelOf, .ref m_nameOf, .ref m_target, .ref m_place, .ref m_far, .int m_imageSize, .int m_farCount, .ref m_image, .int m_written, .ref m_out])) :: (m_forms, .inl (tp_ty E 0, 46, .inl f_forms)) :: fr) ∧ va_S A s.heap H locs) ?_ ?_
          · intro is3 ls H locs hI
            obtain ⟨hi3, hl, hP, hD, hS⟩ := hI
            refine lv_iload hx hb d_M_operationOf_188 (lv_at hl 0 rfl) ?_
            by_cases h2 : is3 = 0
            · refine lv_if_eq (tgt := 196) hx hb d_M_operationOf_190 (by decide) (fun _ => ?_) (fun h => absurd h2 h)
              refine lv_iinc (k := 3) (v := (k + 1)) (lv' := [(5, .int (k + 1)), (7, .int is3), (8, .int mk), (6, .int ((f_forms k.toNatClampNeg) / 100000)), (4, .int ((xw.toUInt32 >>> (Int32.toUInt32 25 &&& Int32.toUInt32 31)).toInt32)), (3, .int ((xw >>> (12 &&& 31 : Int32)) &&& 7)), (2, .int (xw &&& 127)), (0, .ref aM), (1, .int xw)]) hx hb d_M_operationOf_196 hl rfl rfl (by decide) rfl (fun ls hl => ?_)
              refine lv_goto (tgt := 22) hx hb d_M_operationOf_199 (by decide) ?_
              have hkn := tp_l33 h1
              have hk1 : (k + 1).toInt = k.toInt + 1 := tp_inc (by omega)
              exact ih (j - 1) (k + 1) ls _ _ (by omega) ⟨⟨by omega, by omega, tp_nomm hno hk0 hk1 (tp_not3 hi3 h2)⟩, tp_lvI hl [0, 4, 5, 6, 7, 8] rfl, hP, hD, hS⟩
            · refine lv_if_eq (tgt := 196) hx hb d_M_operationOf_190 (by decide) (fun h => absurd h h2) (fun _ => ?_)
              refine lv_iload hx hb d_M_operationOf_193 (lv_at hl 3 rfl) ?_
              exact W.iret (v := k) hx hb hr (fun t ht hW => ⟨⟨_, (), rfl, Or.inr ⟨hk0, tp_l33 h1, tp_yes3 hi3 h2, hno⟩, by rw [ht]; exact hP, hD⟩, hS.F ht⟩) hS.2.2 d_M_operationOf_195
          · intro jn188
            refine lv_iload hx hb d_M_operationOf_152 (lv_at hl 2 rfl) ?_
            refine lv_iconst (v := 3) hx hb d_M_operationOf_154 (by decide) ?_
            by_cases h2 : ((f_forms k.toNatClampNeg) / 100000) = 3
            · refine lv_icmp_ne (tgt := 188) hx hb d_M_operationOf_155 (by decide) (fun h => absurd h2 h) (fun _ => ?_)
              refine lv_iload hx hb d_M_operationOf_158 (lv_at hl 0 rfl) ?_
              by_cases h3 : is2 = 0
              · refine lv_if_eq (tgt := 185) hx hb d_M_operationOf_160 (by decide) (fun _ => ?_) (fun h => absurd h3 h)
                refine lv_iconst (v := 0) hx hb d_M_operationOf_185 (by decide) ?_
                refine lv_istore (lv' := [(7, .int 0), (8, .int mk), (6, .int ((f_forms k.toNatClampNeg) / 100000)), (5, .int k), (4, .int ((xw.toUInt32 >>> (Int32.toUInt32 25 &&& Int32.toUInt32 31)).toInt32)), (3, .int ((xw >>> (12 &&& 31 : Int32)) &&& 7)), (2, .int (xw &&& 127)), (0, .ref aM), (1, .int xw)]) hx hb d_M_operationOf_186 hl (by decide) rfl (fun ls hl => ?_)
                exact jn188 0 ls _ _ ⟨tp_D2 hi2 hmk h2 h3, tp_lvI hl [0, 1, 2, 3, 4, 5, 6, 7, 8] rfl, hP, hD, hS⟩
              · refine lv_if_eq (tgt := 185) hx hb d_M_operationOf_160 (by decide) (fun h => absurd h h3) (fun _ => ?_)
                refine lv_iload_n hx hb d_M_operationOf_163 rfl (lv_at hl 8 rfl) ?_
                refine lv_bipush (v := 26) hx hb d_M_operationOf_164 (by decide) ?_
                refine lv_iushr (v := (xw.toUInt32 >>> (Int32.toUInt32 26 &&& Int32.toUInt32 31)).toInt32) hx hb d_M_operationOf_166 rfl ?_
                refine lv_iload hx hb d_M_operationOf_167 (lv_at hl 1 rfl) ?_
                by_cases h4 : mk = 0
                · refine lv_if_eq (tgt := 177) hx hb d_M_operationOf_169 (by decide) (fun _ => ?_) (fun h => absurd h4 h)
                  refine lv_iconst (v := 0) hx hb d_M_operationOf_177 (by decide) ?_
                  by_cases h5 : (xw.toUInt32 >>> (Int32.toUInt32 26 &&& Int32.toUInt32 31)).toInt32 = 0
                  · refine lv_icmp_ne (tgt := 185) hx hb d_M_operationOf_178 (by decide) (fun h => absurd h5 h) (fun _ => ?_)
                    refine lv_iconst (v := 1) hx hb d_M_operationOf_181 (by decide) ?_
                    refine lv_goto (tgt := 186) hx hb d_M_operationOf_182 (by decide) ?_
                    refine lv_istore (lv' := [(7, .int 1), (8, .int mk), (6, .int ((f_forms k.toNatClampNeg) / 100000)), (5, .int k), (4, .int ((xw.toUInt32 >>> (Int32.toUInt32 25 &&& Int32.toUInt32 31)).toInt32)), (3, .int ((xw >>> (12 &&& 31 : Int32)) &&& 7)), (2, .int (xw &&& 127)), (0, .ref aM), (1, .int xw)]) hx hb d_M_operationOf_186 hl (by decide) rfl (fun ls hl => ?_)
                    exact jn188 1 ls _ _ ⟨tp_D1 hi2 hmk h2 h3 h4 h5 (Or.inl ⟨rfl, rfl⟩), tp_lvI hl [0, 1, 2, 3, 4, 5, 6, 7, 8] rfl, hP, hD, hS⟩
                  · refine lv_icmp_ne (tgt := 185) hx hb d_M_operationOf_178 (by decide) (fun _ => ?_) (fun h => absurd h h5)
                    refine lv_iconst (v := 0) hx hb d_M_operationOf_185 (by decide) ?_
                    refine lv_istore (lv' := [(7, .int 0), (8, .int mk), (6, .int ((f_forms k.toNatClampNeg) / 100000)), (5, .int k), (4, .int ((xw.toUInt32 >>> (Int32.toUInt32 25 &&& Int32.toUInt32 31)).toInt32)), (3, .int ((xw >>> (12 &&& 31 : Int32)) &&& 7)), (2, .int (xw &&& 127)), (0, .ref aM), (1, .int xw)]) hx hb d_M_operationOf_186 hl (by decide) rfl (fun ls hl => ?_)
                    exact jn188 0 ls _ _ ⟨tp_D3 hi2 hmk h2 h3 h4 h5 (Or.inl ⟨rfl, rfl⟩), tp_lvI hl [0, 1, 2, 3, 4, 5, 6, 7, 8] rfl, hP, hD, hS⟩
                · refine lv_if_eq (tgt := 177) hx hb d_M_operationOf_169 (by decide) (fun h => absurd h h4) (fun _ => ?_)
                  refine lv_bipush (v := 16) hx hb d_M_operationOf_172 (by decide) ?_
                  refine lv_goto (tgt := 178) hx hb d_M_operationOf_174 (by decide) ?_
                  by_cases h5 : (xw.toUInt32 >>> (Int32.toUInt32 26 &&& Int32.toUInt32 31)).toInt32 = 16
                  · refine lv_icmp_ne (tgt := 185) hx hb d_M_operationOf_178 (by decide) (fun h => absurd h5 h) (fun _ => ?_)
                    refine lv_iconst (v := 1) hx hb d_M_operationOf_181 (by decide) ?_
                    refine lv_goto (tgt := 186) hx hb d_M_operationOf_182 (by decide) ?_
                    refine lv_istore (lv' := [(7, .int 1), (8, .int mk), (6, .int ((f_forms k.toNatClampNeg) / 100000)), (5, .int k), (4, .int ((xw.toUInt32 >>> (Int32.toUInt32 25 &&& Int32.toUInt32 31)).toInt32)), (3, .int ((xw >>> (12 &&& 31 : Int32)) &&& 7)), (2, .int (xw &&& 127)), (0, .ref aM), (1, .int xw)]) hx hb d_M_operationOf_186 hl (by decide) rfl (fun ls hl => ?_)
                    exact jn188 1 ls _ _ ⟨tp_D1 hi2 hmk h2 h3 h4 h5 (Or.inr ⟨rfl, rfl⟩), tp_lvI hl [0, 1, 2, 3, 4, 5, 6, 7, 8] rfl, hP, hD, hS⟩
                  · refine lv_icmp_ne (tgt := 185) hx hb d_M_operationOf_178 (by decide) (fun _ => ?_) (fun h => absurd h h5)
                    refine lv_iconst (v := 0) hx hb d_M_operationOf_185 (by decide) ?_
                    refine lv_istore (lv' := [(7, .int 0), (8, .int mk), (6, .int ((f_forms k.toNatClampNeg) / 100000)), (5, .int k), (4, .int ((xw.toUInt32 >>> (Int32.toUInt32 25 &&& Int32.toUInt32 31)).toInt32)), (3, .int ((xw >>> (12 &&& 31 : Int32)) &&& 7)), (2, .int (xw &&& 127)), (0, .ref aM), (1, .int xw)]) hx hb d_M_operationOf_186 hl (by decide) rfl (fun ls hl => ?_)
                    exact jn188 0 ls _ _ ⟨tp_D3 hi2 hmk h2 h3 h4 h5 (Or.inr ⟨rfl, rfl⟩), tp_lvI hl [0, 1, 2, 3, 4, 5, 6, 7, 8] rfl, hP, hD, hS⟩
            · refine lv_icmp_ne (tgt := 188) hx hb d_M_operationOf_155 (by decide) (fun _ => ?_) (fun h => absurd h h2)
              exact jn188 is2 ls _ _ ⟨tp_D0 hi2 h2, tp_lvI hl [0, 1, 2, 3, 4, 5, 6, 7, 8] rfl, hP, hD, hS⟩
        · intro jn152
          refine lv_iload hx hb d_M_operationOf_118 (lv_at hl 2 rfl) ?_
          refine lv_iconst (v := 1) hx hb d_M_operationOf_120 (by decide) ?_
          by_cases h2 : ((f_forms k.toNatClampNeg) / 100000) = 1
          · refine lv_icmp_ne (tgt := 152) hx hb d_M_operationOf_121 (by decide) (fun h => absurd h2 h) (fun _ => ?_)
            refine lv_iload hx hb d_M_operationOf_124 (lv_at hl 1 rfl) ?_
            by_cases h3 : is1 = 0
            · refine lv_if_eq (tgt := 149) hx hb d_M_operationOf_126 (by decide) (fun _ => ?_) (fun h => absurd h3 h)
              refine lv_iconst (v := 0) hx hb d_M_operationOf_149 (by decide) ?_
              refine lv_istore (lv' := [(7, .int 0), (8, .int mk), (6, .int ((f_forms k.toNatClampNeg) / 100000)), (5, .int k), (4, .int ((xw.toUInt32 >>> (Int32.toUInt32 25 &&& Int32.toUInt32 31)).toInt32)), (3, .int ((xw >>> (12 &&& 31 : Int32)) &&& 7)), (2, .int (xw &&& 127)), (0, .ref aM), (1, .int xw)]) hx hb d_M_operationOf_150 hl (by decide) rfl (fun ls hl => ?_)
              exact jn152 0 ls _ _ ⟨tp_C2 hi1 hmk h2 h3, tp_lvI hl [0, 1, 2, 3, 4, 5, 6, 7, 8] rfl, hP, hD, hS⟩
            · refine lv_if_eq (tgt := 149) hx hb d_M_operationOf_126 (by decide) (fun h => absurd h h3) (fun _ => ?_)
              refine lv_iload hx hb d_M_operationOf_129 (lv_at hl 4 rfl) ?_
              refine lv_iload hx hb d_M_operationOf_131 (lv_at hl 0 rfl) ?_
              by_cases h4 : mk = 0
              · refine lv_if_eq (tgt := 141) hx hb d_M_operationOf_133 (by decide) (fun _ => ?_) (fun h => absurd h4 h)
                refine lv_iconst (v := 0) hx hb d_M_operationOf_141 (by decide) ?_
                by_cases h5 : (xw.toUInt32 >>> (Int32.toUInt32 25 &&& Int32.toUInt32 31)).toInt32 = 0
                · refine lv_icmp_ne (tgt := 149) hx hb d_M_operationOf_142 (by decide) (fun h => absurd h5 h) (fun _ => ?_)
                  refine lv_iconst (v := 1) hx hb d_M_operationOf_145 (by decide) ?_
                  refine lv_goto (tgt := 150) hx hb d_M_operationOf_146 (by decide) ?_
                  refine lv_istore (lv' := [(7, .int 1), (8, .int mk), (6, .int ((f_forms k.toNatClampNeg) / 100000)), (5, .int k), (4, .int ((xw.toUInt32 >>> (Int32.toUInt32 25 &&& Int32.toUInt32 31)).toInt32)), (3, .int ((xw >>> (12 &&& 31 : Int32)) &&& 7)), (2, .int (xw &&& 127)), (0, .ref aM), (1, .int xw)]) hx hb d_M_operationOf_150 hl (by decide) rfl (fun ls hl => ?_)
                  exact jn152 1 ls _ _ ⟨tp_C1 hi1 hmk h2 h3 h4 h5 (Or.inl ⟨rfl, rfl⟩), tp_lvI hl [0, 1, 2, 3, 4, 5, 6, 7, 8] rfl, hP, hD, hS⟩
                · refine lv_icmp_ne (tgt := 149) hx hb d_M_operationOf_142 (by decide) (fun _ => ?_) (fun h => absurd h h5)
                  refine lv_iconst (v := 0) hx hb d_M_operationOf_149 (by decide) ?_
                  refine lv_istore (lv' := [(7, .int 0), (8, .int mk), (6, .int ((f_forms k.toNatClampNeg) / 100000)), (5, .int k), (4, .int ((xw.toUInt32 >>> (Int32.toUInt32 25 &&& Int32.toUInt32 31)).toInt32)), (3, .int ((xw >>> (12 &&& 31 : Int32)) &&& 7)), (2, .int (xw &&& 127)), (0, .ref aM), (1, .int xw)]) hx hb d_M_operationOf_150 hl (by decide) rfl (fun ls hl => ?_)
                  exact jn152 0 ls _ _ ⟨tp_C3 hi1 hmk h2 h3 h4 h5 (Or.inl ⟨rfl, rfl⟩), tp_lvI hl [0, 1, 2, 3, 4, 5, 6, 7, 8] rfl, hP, hD, hS⟩
              · refine lv_if_eq (tgt := 141) hx hb d_M_operationOf_133 (by decide) (fun h => absurd h h4) (fun _ => ?_)
                refine lv_bipush (v := 32) hx hb d_M_operationOf_136 (by decide) ?_
                refine lv_goto (tgt := 142) hx hb d_M_operationOf_138 (by decide) ?_
                by_cases h5 : (xw.toUInt32 >>> (Int32.toUInt32 25 &&& Int32.toUInt32 31)).toInt32 = 32
                · refine lv_icmp_ne (tgt := 149) hx hb d_M_operationOf_142 (by decide) (fun h => absurd h5 h) (fun _ => ?_)
                  refine lv_iconst (v := 1) hx hb d_M_operationOf_145 (by decide) ?_
                  refine lv_goto (tgt := 150) hx hb d_M_operationOf_146 (by decide) ?_
                  refine lv_istore (lv' := [(7, .int 1), (8, .int mk), (6, .int ((f_forms k.toNatClampNeg) / 100000)), (5, .int k), (4, .int ((xw.toUInt32 >>> (Int32.toUInt32 25 &&& Int32.toUInt32 31)).toInt32)), (3, .int ((xw >>> (12 &&& 31 : Int32)) &&& 7)), (2, .int (xw &&& 127)), (0, .ref aM), (1, .int xw)]) hx hb d_M_operationOf_150 hl (by decide) rfl (fun ls hl => ?_)
                  exact jn152 1 ls _ _ ⟨tp_C1 hi1 hmk h2 h3 h4 h5 (Or.inr ⟨rfl, rfl⟩), tp_lvI hl [0, 1, 2, 3, 4, 5, 6, 7, 8] rfl, hP, hD, hS⟩
                · refine lv_icmp_ne (tgt := 149) hx hb d_M_operationOf_142 (by decide) (fun _ => ?_) (fun h => absurd h h5)
                  refine lv_iconst (v := 0) hx hb d_M_operationOf_149 (by decide) ?_
                  refine lv_istore (lv' := [(7, .int 0), (8, .int mk), (6, .int ((f_forms k.toNatClampNeg) / 100000)), (5, .int k), (4, .int ((xw.toUInt32 >>> (Int32.toUInt32 25 &&& Int32.toUInt32 31)).toInt32)), (3, .int ((xw >>> (12 &&& 31 : Int32)) &&& 7)), (2, .int (xw &&& 127)), (0, .ref aM), (1, .int xw)]) hx hb d_M_operationOf_150 hl (by decide) rfl (fun ls hl => ?_)
                  exact jn152 0 ls _ _ ⟨tp_C3 hi1 hmk h2 h3 h4 h5 (Or.inr ⟨rfl, rfl⟩), tp_lvI hl [0, 1, 2, 3, 4, 5, 6, 7, 8] rfl, hP, hD, hS⟩
          · refine lv_icmp_ne (tgt := 152) hx hb d_M_operationOf_121 (by decide) (fun _ => ?_) (fun h => absurd h h2)
            exact jn152 is1 ls _ _ ⟨tp_C0 hi1 h2, tp_lvI hl [1, 0, 2, 3, 4, 5, 6, 7, 8] rfl, hP, hD, hS⟩
      · intro jn118
        refine lv_aload_n hx hb d_M_operationOf_97 rfl (lv_at hl 6 rfl) ?_
        refine va_get (D := tp_D E) (ci := 4) (v := .ref m_forms) (C := qR_M) (T := qF_M) (N := 34) hx hb htg qi_M hown hK.1 hP 0 rfl rfl 2 (by decide) (htg _ kl_M_13) (fun _ h => h) rfl d_M_operationOf_98 ?_
        refine lv_iload hx hb d_M_operationOf_101 (lv_at hl 2 rfl) ?_
        refine va_iald (D := tp_D E) hx hb hK.1 hP 1 0 rfl rfl (tp_k33 hk0 h1) d_M_operationOf_103 ?_
        refine lv_bipush (v := 10) hx hb d_M_operationOf_104 (by decide) ?_
        refine lv_irem hx hb d_M_operationOf_106 (by decide) ?_
        refine lv_iconst (v := 1) hx hb d_M_operationOf_107 (by decide) ?_
        by_cases h2 : ((f_forms k.toNatClampNeg) - (f_forms k.toNatClampNeg) / 10 * 10) = 1
        · refine lv_icmp_ne (tgt := 115) hx hb d_M_operationOf_108 (by decide) (fun h => absurd h2 h) (fun _ => ?_)
          refine lv_iconst (v := 1) hx hb d_M_operationOf_111 (by decide) ?_
          refine lv_goto (tgt := 116) hx hb d_M_operationOf_112 (by decide) ?_
          refine lv_istore (lv' := [(8, .int 1), (7, .int is1), (6, .int ((f_forms k.toNatClampNeg) / 100000)), (5, .int k), (4, .int ((xw.toUInt32 >>> (Int32.toUInt32 25 &&& Int32.toUInt32 31)).toInt32)), (3, .int ((xw >>> (12 &&& 31 : Int32)) &&& 7)), (2, .int (xw &&& 127)), (0, .ref aM), (1, .int xw)]) hx hb d_M_operationOf_116 hl (by decide) rfl (fun ls hl => ?_)
          exact jn118 1 ls _ _ ⟨Or.inl ⟨rfl, h2⟩, tp_lvI hl [0, 1, 2, 3, 4, 5, 6, 7, 8] rfl, hP, hD, hS⟩
        · refine lv_icmp_ne (tgt := 115) hx hb d_M_operationOf_108 (by decide) (fun _ => ?_) (fun h => absurd h h2)
          refine lv_iconst (v := 0) hx hb d_M_operationOf_115 (by decide) ?_
          refine lv_istore (lv' := [(8, .int 0), (7, .int is1), (6, .int ((f_forms k.toNatClampNeg) / 100000)), (5, .int k), (4, .int ((xw.toUInt32 >>> (Int32.toUInt32 25 &&& Int32.toUInt32 31)).toInt32)), (3, .int ((xw >>> (12 &&& 31 : Int32)) &&& 7)), (2, .int (xw &&& 127)), (0, .ref aM), (1, .int xw)]) hx hb d_M_operationOf_116 hl (by decide) rfl (fun ls hl => ?_)
          exact jn118 0 ls _ _ ⟨Or.inr ⟨rfl, h2⟩, tp_lvI hl [0, 1, 2, 3, 4, 5, 6, 7, 8] rfl, hP, hD, hS⟩
    · intro jn97
      refine lv_aload_n hx hb d_M_operationOf_42 rfl (lv_at hl 5 rfl) ?_
      refine va_get (D := tp_D E) (ci := 4) (v := .ref m_forms) (C := qR_M) (T := qF_M) (N := 34) hx hb htg qi_M hown hK.1 hP 0 rfl rfl 2 (by decide) (htg _ kl_M_13) (fun _ h => h) rfl d_M_operationOf_43 ?_
      refine lv_iload hx hb d_M_operationOf_46 (lv_at hl 1 rfl) ?_
      refine va_iald (D := tp_D E) hx hb hK.1 hP 1 0 rfl rfl (tp_k33 hk0 h1) d_M_operationOf_48 ?_
      refine lv_bipush (v := 100) hx hb d_M_operationOf_49 (by decide) ?_
      refine lv_idiv hx hb d_M_operationOf_51 (by decide) ?_
      refine lv_sipush (v := 1000) hx hb d_M_operationOf_52 (by decide) ?_
      refine lv_irem hx hb d_M_operationOf_55 (by decide) ?_
      refine lv_iload_n hx hb d_M_operationOf_56 rfl (lv_at hl 4 rfl) ?_
      by_cases h2 : (((f_forms k.toNatClampNeg) / 100) - ((f_forms k.toNatClampNeg) / 100) / 1000 * 1000) = (xw &&& 127)
      · refine lv_icmp_ne (tgt := 94) hx hb d_M_operationOf_57 (by decide) (fun h => absurd h2 h) (fun _ => ?_)
        refine lv_iload hx hb d_M_operationOf_60 (lv_at hl 0 rfl) ?_
        refine lv_iconst (v := 4) hx hb d_M_operationOf_62 (by decide) ?_
        by_cases h3 : ((f_forms k.toNatClampNeg) / 100000) = 4
        · refine lv_icmp_eq (tgt := 90) hx hb d_M_operationOf_63 (by decide) (fun _ => ?_) (fun h => absurd h3 h)
          refine lv_iconst (v := 1) hx hb d_M_operationOf_90 (by decide) ?_
          refine lv_goto (tgt := 95) hx hb d_M_operationOf_91 (by decide) ?_
          refine lv_istore (lv' := [(7, .int 1), (6, .int ((f_forms k.toNatClampNeg) / 100000)), (5, .int k), (4, .int ((xw.toUInt32 >>> (Int32.toUInt32 25 &&& Int32.toUInt32 31)).toInt32)), (3, .int ((xw >>> (12 &&& 31 : Int32)) &&& 7)), (2, .int (xw &&& 127)), (0, .ref aM), (1, .int xw)]) hx hb d_M_operationOf_95 hl (by decide) rfl (fun ls hl => ?_)
          exact jn97 1 ls _ _ ⟨Or.inl ⟨rfl, ⟨h2, Or.inl h3⟩⟩, tp_lvI hl [0, 1, 2, 3, 4, 5, 6, 7] rfl, hP, hD, hS⟩
        · refine lv_icmp_eq (tgt := 90) hx hb d_M_operationOf_63 (by decide) (fun h => absurd h h3) (fun _ => ?_)
          refine lv_iload hx hb d_M_operationOf_66 (lv_at hl 0 rfl) ?_
          refine lv_bipush (v := 8) hx hb d_M_operationOf_68 (by decide) ?_
          by_cases h4 : ((f_forms k.toNatClampNeg) / 100000) = 8
          · refine lv_icmp_eq (tgt := 90) hx hb d_M_operationOf_70 (by decide) (fun _ => ?_) (fun h => absurd h4 h)
            refine lv_iconst (v := 1) hx hb d_M_operationOf_90 (by decide) ?_
            refine lv_goto (tgt := 95) hx hb d_M_operationOf_91 (by decide) ?_
            refine lv_istore (lv' := [(7, .int 1), (6, .int ((f_forms k.toNatClampNeg) / 100000)), (5, .int k), (4, .int ((xw.toUInt32 >>> (Int32.toUInt32 25 &&& Int32.toUInt32 31)).toInt32)), (3, .int ((xw >>> (12 &&& 31 : Int32)) &&& 7)), (2, .int (xw &&& 127)), (0, .ref aM), (1, .int xw)]) hx hb d_M_operationOf_95 hl (by decide) rfl (fun ls hl => ?_)
            exact jn97 1 ls _ _ ⟨Or.inl ⟨rfl, ⟨h2, Or.inr (Or.inl h4)⟩⟩, tp_lvI hl [0, 1, 2, 3, 4, 5, 6, 7] rfl, hP, hD, hS⟩
          · refine lv_icmp_eq (tgt := 90) hx hb d_M_operationOf_70 (by decide) (fun h => absurd h h4) (fun _ => ?_)
            refine lv_aload_n hx hb d_M_operationOf_73 rfl (lv_at hl 5 rfl) ?_
            refine va_get (D := tp_D E) (ci := 4) (v := .ref m_forms) (C := qR_M) (T := qF_M) (N := 34) hx hb htg qi_M hown hK.1 hP 0 rfl rfl 2 (by decide) (htg _ kl_M_13) (fun _ h => h) rfl d_M_operationOf_74 ?_
            refine lv_iload hx hb d_M_operationOf_77 (lv_at hl 1 rfl) ?_
            refine va_iald (D := tp_D E) hx hb hK.1 hP 1 0 rfl rfl (tp_k33 hk0 h1) d_M_operationOf_79 ?_
            refine lv_bipush (v := 10) hx hb d_M_operationOf_80 (by decide) ?_
            refine lv_idiv hx hb d_M_operationOf_82 (by decide) ?_
            refine lv_bipush (v := 10) hx hb d_M_operationOf_83 (by decide) ?_
            refine lv_irem hx hb d_M_operationOf_85 (by decide) ?_
            refine lv_iload_n hx hb d_M_operationOf_86 rfl (lv_at hl 3 rfl) ?_
            by_cases h5 : (((f_forms k.toNatClampNeg) / 10) - ((f_forms k.toNatClampNeg) / 10) / 10 * 10) = ((xw >>> (12 &&& 31 : Int32)) &&& 7)
            · refine lv_icmp_ne (tgt := 94) hx hb d_M_operationOf_87 (by decide) (fun h => absurd h5 h) (fun _ => ?_)
              refine lv_iconst (v := 1) hx hb d_M_operationOf_90 (by decide) ?_
              refine lv_goto (tgt := 95) hx hb d_M_operationOf_91 (by decide) ?_
              refine lv_istore (lv' := [(7, .int 1), (6, .int ((f_forms k.toNatClampNeg) / 100000)), (5, .int k), (4, .int ((xw.toUInt32 >>> (Int32.toUInt32 25 &&& Int32.toUInt32 31)).toInt32)), (3, .int ((xw >>> (12 &&& 31 : Int32)) &&& 7)), (2, .int (xw &&& 127)), (0, .ref aM), (1, .int xw)]) hx hb d_M_operationOf_95 hl (by decide) rfl (fun ls hl => ?_)
              exact jn97 1 ls _ _ ⟨Or.inl ⟨rfl, ⟨h2, Or.inr (Or.inr h5)⟩⟩, tp_lvI hl [0, 1, 2, 3, 4, 5, 6, 7] rfl, hP, hD, hS⟩
            · refine lv_icmp_ne (tgt := 94) hx hb d_M_operationOf_87 (by decide) (fun _ => ?_) (fun h => absurd h h5)
              refine lv_iconst (v := 0) hx hb d_M_operationOf_94 (by decide) ?_
              refine lv_istore (lv' := [(7, .int 0), (6, .int ((f_forms k.toNatClampNeg) / 100000)), (5, .int k), (4, .int ((xw.toUInt32 >>> (Int32.toUInt32 25 &&& Int32.toUInt32 31)).toInt32)), (3, .int ((xw >>> (12 &&& 31 : Int32)) &&& 7)), (2, .int (xw &&& 127)), (0, .ref aM), (1, .int xw)]) hx hb d_M_operationOf_95 hl (by decide) rfl (fun ls hl => ?_)
              exact jn97 0 ls _ _ ⟨Or.inr ⟨rfl, fun z => (z.2.elim h3 (fun z => z.elim h4 h5))⟩, tp_lvI hl [0, 1, 2, 3, 4, 5, 6, 7] rfl, hP, hD, hS⟩
      · refine lv_icmp_ne (tgt := 94) hx hb d_M_operationOf_57 (by decide) (fun _ => ?_) (fun h => absurd h h2)
        refine lv_iconst (v := 0) hx hb d_M_operationOf_94 (by decide) ?_
        refine lv_istore (lv' := [(7, .int 0), (6, .int ((f_forms k.toNatClampNeg) / 100000)), (5, .int k), (4, .int ((xw.toUInt32 >>> (Int32.toUInt32 25 &&& Int32.toUInt32 31)).toInt32)), (3, .int ((xw >>> (12 &&& 31 : Int32)) &&& 7)), (2, .int (xw &&& 127)), (0, .ref aM), (1, .int xw)]) hx hb d_M_operationOf_95 hl (by decide) rfl (fun ls hl => ?_)
        exact jn97 0 ls _ _ ⟨Or.inr ⟨rfl, fun z => h2 z.1⟩, tp_lvI hl [0, 1, 2, 3, 4, 5, 6, 7] rfl, hP, hD, hS⟩
set_option maxHeartbeats 4000000 in
set_option maxRecDepth 100000 in
theorem s_M_show (l : Launch) (E : tp_Env) (fr : va_W) (sz : Nat) (aM m_names m_forms m_text m_word m_count m_formOf m_codeOf m_dOf m_sOf m_tOf m_valueOf m_labelOf m_nameOf m_target m_place m_far m_image m_out : Nat) (m_thrown m_size m_bad m_at m_length m_form m_code m_d m_s m_t m_imageSize m_farCount m_written : Int32) (m_value m_label m_name : Int64) (f_names : Nat → Int64) (f_forms : Nat → Int32) (f_out : Nat → Int32) (xw : Int32) (hF : ∀ i : Nat, i < 33 → f_forms i = tp_forms.getD i 0) : Met l y_M_show w_M_show ({ frames := 3, cells := 0, slots := 0, locals := 68 }) (va_Pc [.ref aM, .int xw] (tp_in E ((aM, .inr (4, [.int m_thrown, .ref m_names, .ref m_forms, .int m_size, .ref m_text, .int m_bad, .int m_at, .int m_length, .ref m_word, .int m_form, .int m_code, .int m_d, .int m_s, .int m_t, .long m_value, .long m_label, .long m_name, .ref m_count, .ref m_formOf, .ref m_codeOf, .ref m_dOf, .ref m_sOf, .ref m_tOf, .ref m_valueOf, .ref m_labelOf, .ref m_nameOf, .ref m_target, .ref m_place, .ref m_far, .int m_imageSize, .int m_farCount, .ref m_image, .int m_written, .ref m_out])) :: (m_names, .inl (tp_ty E 1, 46, .inr (.inl f_names))) :: (m_forms, .inl (tp_ty E 0, 46, .inl f_forms)) :: (m_out, .inl (tp_ty E 0, 40, .inl f_out)) :: fr) sz)) (va_Qi (fun r (u : Int32 × Int32 × (Nat → Int32)) => (u.1 = 1 ∧ tp_mhit xw f_forms (-1) ∧ u.2.1 = 0) ∨ (u.1 = 0 ∧ (∃ ko : Int32, tp_mhit xw f_forms ko ∧ 0 ≤ ko.toInt ∧ r.toInt = (tp_nr (f_names ko.toNatClampNeg) 8 : Nat) + (tp_lm ((f_forms ko.toNatClampNeg) / 100000) xw : Nat)) ∧ u.2.1 = r ∧ 0 ≤ r.toInt ∧ r.toInt ≤ 40)) (fun u t => tp_out E (va_A ((aM, .inr (4, [.int m_thrown, .ref m_names, .ref m_forms, .int m_size, .ref m_text, .int m_bad, .int m_at, .int m_length, .ref m_word, .int m_form, .int m_code, .int m_d, .int m_s, .int m_t, .long m_value, .long m_label, .long m_name, .ref m_count, .ref m_formOf, .ref m_codeOf, .ref m_dOf, .ref m_sOf, .ref m_tOf, .ref m_valueOf, .ref m_labelOf, .ref m_nameOf, .ref m_target, .ref m_place, .ref m_far, .int m_imageSize, .int m_farCount, .ref m_image, .int m_written, .ref m_out])) :: (m_names, .inl (tp_ty E 1, 46, .inr (.inl f_names))) :: (m_forms, .inl (tp_ty E 0, 46, .inl f_forms)) :: (m_out, .inl (tp_ty E 0, 40, .inl f_out)) :: fr) sz) ((aM, .inr (4, [.int u.1, .ref m_names, .ref m_forms, .int m_size, .ref m_text, .int m_bad, .int m_at, .int m_length, .ref m_word, .int m_form, .int m_code, .int m_d, .int m_s, .int m_t, .long m_value, .long m_label, .long m_name, .ref m_count, .ref m_formOf, .ref m_codeOf, .ref m_dOf, .ref m_sOf, .ref m_tOf, .ref m_valueOf, .ref m_labelOf, .ref m_nameOf, .ref m_target, .ref m_place, .ref m_far, .int m_imageSize, .int m_farCount, .ref m_image, .int u.2.1, .ref m_out])) :: (m_names, .inl (tp_ty E 1, 46, .inr (.inl f_names))) :: (m_forms, .inl (tp_ty E 0, 46, .inl f_forms)) :: (m_out, .inl (tp_ty E 0, 40, .inl u.2.2)) :: fr) t) (va_A ((aM, .inr (4, [.int m_thrown, .ref m_names, .ref m_forms, .int m_size, .ref m_text, .int m_bad, .int m_at, .int m_length, .ref m_word, .int m_form, .int m_code, .int m_d, .int m_s, .int m_t, .long m_value, .long m_label, .long m_name, .ref m_count, .ref m_formOf, .ref m_codeOf, .ref m_dOf, .ref m_sOf, .ref m_tOf, .ref m_valueOf, .ref m_labelOf, .ref m_nameOf, .ref m_target, .ref m_place, .ref m_far, .int m_imageSize, .int m_farCount, .ref m_image, .int m_written, .ref m_out])) :: (m_names, .inl (tp_ty E 1, 46, .inr (.inl f_names))) :: (m_forms, .inl (tp_ty E 0, 46, .inl f_forms)) :: (m_out, .inl (tp_ty E 0, 40, .inl f_out)) :: fr) sz)) 0 0 (va_A ((aM, .inr (4, [.int m_thrown, .ref m_names, .ref m_forms, .int m_size, .ref m_text, .int m_bad, .int m_at, .int m_length, .ref m_word, .int m_form, .int m_code, .int m_d, .int m_s, .int m_t, .long m_value, .long m_label, .long m_name, .ref m_count, .ref m_formOf, .ref m_codeOf, .ref m_dOf, .ref m_sOf, .ref m_tOf, .ref m_valueOf, .ref m_labelOf, .ref m_nameOf, .ref m_target, .ref m_place, .ref m_far, .int m_imageSize, .int m_farCount, .ref m_image, .int m_written, .ref m_out])) :: (m_names, .inl (tp_ty E 1, 46, .inr (.inl f_names))) :: (m_forms, .inl (tp_ty E 0, 46, .inl f_forms)) :: (m_out, .inl (tp_ty E 0, 40, .inl f_out)) :: fr) sz) := by
  refine Met.ofW (cc := b_M_show) (maxL := 9) (ret := (some .int)) (by decide) rfl ?_
  intro p e s m args below meth c s₁ B hml hv
  obtain ⟨rfl, hsz, hP, hK, hD0⟩ := hv
  have hx := B.exec
  have hb := B.bytes
  have hr := B.returns
  have htg : ∀ w ∈ tp_G, w.before ([.ref aM, .int xw] : List Value).toArray s = true := fun w h => atoms_spec (ws := w_M_show) B.pre w (List.mem_cons_of_mem _ h)
  have hown : s.vm.findClass "TwoPassModel" = some m.cls := findClass_of_methodNamed B.named
  have hlocks := B.notSynchronized
  subst hsz
  have hD := hD0.self (sz := s.heap.size)
  generalize hAe : va_A ((aM, .inr (4, [.int m_thrown, .ref m_names, .ref m_forms, .int m_size, .ref m_text, .int m_bad, .int m_at, .int m_length, .ref m_word, .int m_form, .int m_code, .int m_d, .int m_s, .int m_t, .long m_value, .long m_label, .long m_name, .ref m_count, .ref m_formOf, .ref m_codeOf, .ref m_dOf, .ref m_sOf, .ref m_tOf, .ref m_valueOf, .ref m_labelOf, .ref m_nameOf, .ref m_target, .ref m_place, .ref m_far, .int m_imageSize, .int m_farCount, .ref m_image, .int m_written, .ref m_out])) :: (m_names, .inl (tp_ty E 1, 46, .inr (.inl f_names))) :: (m_forms, .inl (tp_ty E 0, 46, .inl f_forms)) :: (m_out, .inl (tp_ty E 0, 40, .inl f_out)) :: fr) s.heap.size = A at hD hK ⊢
  have hA : ∀ q : Nat, s.heap.size ≤ q → A q := fun q h => by rw [← hAe]; exact Or.inr h
  have hS : va_S A s.heap s.heap [] := va_S.rf
  have hl := lv_entry ([.ref aM, .int xw]) (n := 9) (Nat.le_of_ble_eq_true rfl)
  rw [lg_entry_eq]
  generalize (lg_sl ([.ref aM, .int xw]) ++ List.replicate (9 - (lg_sl ([.ref aM, .int xw])).length) Slot.unset).toArray = ls at hl ⊢
  have hl : lv_has ls 9 [(0, .ref aM), (1, .int xw)] := hl
  refine lv_aload_n hx hb d_M_show_0 rfl (lv_at hl 0 rfl) ?_
  refine lv_iconst (v := 0) hx hb d_M_show_1 (by decide) ?_
  refine va_put (D := tp_D E) (ci := 4) (v := .int 0) (ty := .int) (C := qR_M) (T := qF_M) (N := 34) hx hb htg qi_M qt_M qt_M_ok qn_M hown hK.1 hP hD hS 0 rfl rfl 32 (by decide) (htg _ kl_M_411) (fun _ h => h) rfl (by decide +kernel) rfl rfl (Nat.le_of_ble_eq_true rfl) d_M_show_2 (fun H locs hP hD hS => ?_)
  have hP : va_P (tp_D E) tp_cl ((aM, .inr (4, [.int m_thrown, .ref m_names, .ref m_forms, .int m_size, .ref m_text, .int m_bad, .int m_at, .int m_length, .ref m_word, .int m_form, .int m_code, .int m_d, .int m_s, .int m_t, .long m_value, .long m_label, .long m_name, .ref m_count, .ref m_formOf, .ref m_codeOf, .ref m_dOf, .ref m_sOf, .ref m_tOf, .ref m_valueOf, .ref m_labelOf, .ref m_nameOf, .ref m_target, .ref m_place, .ref m_far, .int m_imageSize, .int m_farCount, .ref m_image, .int 0, .ref m_out])) :: (m_names, .inl (tp_ty E 1, 46, .inr (.inl f_names))) :: (m_forms, .inl (tp_ty E 0, 46, .inl f_forms)) :: (m_out, .inl (tp_ty E 0, 40, .inl f_out)) :: fr) H := hP
  have hD : va_D A ((aM, .inr (4, [.int m_thrown, .ref m_names, .ref m_forms, .int m_size, .ref m_text, .int m_bad, .int m_at, .int m_length, .ref m_word, .int m_form, .int m_code, .int m_d, .int m_s, .int m_t, .long m_value, .long m_label, .long m_name, .ref m_count, .ref m_formOf, .ref m_codeOf, .ref m_dOf, .ref m_sOf, .ref m_tOf, .ref m_valueOf, .ref m_labelOf, .ref m_nameOf, .ref m_target, .ref m_place, .ref m_far, .int m_imageSize, .int m_farCount, .ref m_image, .int 0, .ref m_out])) :: (m_names, .inl (tp_ty E 1, 46, .inr (.inl f_names))) :: (m_forms, .inl (tp_ty E 0, 46, .inl f_forms)) :: (m_out, .inl (tp_ty E 0, 40, .inl f_out)) :: fr) := hD
  refine lv_aload_n hx hb d_M_show_5 rfl (lv_at hl 0 rfl) ?_
  refine lv_iload_n hx hb d_M_show_6 rfl (lv_at hl 1 rfl) ?_
  have hP : va_P (tp_D E) tp_cl ((m_forms, .inl (tp_ty E 0, 46, .inl f_forms)) :: (aM, .inr (4, [.int m_thrown, .ref m_names, .ref m_forms, .int m_size, .ref m_text, .int m_bad, .int m_at, .int m_length, .ref m_word, .int m_form, .int m_code, .int m_d, .int m_s, .int m_t, .long m_value, .long m_label, .long m_name, .ref m_count, .ref m_formOf, .ref m_codeOf, .ref m_dOf, .ref m_sOf, .ref m_tOf, .ref m_valueOf, .ref m_labelOf, .ref m_nameOf, .ref m_target, .ref m_place, .ref m_far, .int m_imageSize, .int m_farCount, .ref m_image, .int 0, .ref m_out])) :: (m_names, .inl (tp_ty E 1, 46, .inr (.inl f_names))) :: (m_out, .inl (tp_ty E 0, 40, .inl f_out)) :: fr) _ := tp_mvP 2 rfl hP
  have hD : va_D A ((m_forms, .inl (tp_ty E 0, 46, .inl f_forms)) :: (aM, .inr (4, [.int m_thrown, .ref m_names, .ref m_forms, .int m_size, .ref m_text, .int m_bad, .int m_at, .int m_length, .ref m_word, .int m_form, .int m_code, .int m_d, .int m_s, .int m_t, .long m_value, .long m_label, .long m_name, .ref m_count, .ref m_formOf, .ref m_codeOf, .ref m_dOf, .ref m_sOf, .ref m_tOf, .ref m_valueOf, .ref m_labelOf, .ref m_nameOf, .ref m_target, .ref m_place, .ref m_far, .int m_imageSize, .int m_farCount, .ref m_image, .int 0, .ref m_out])) :: (m_names, .inl (tp_ty E 1, 46, .inr (.inl f_names))) :: (m_out, .inl (tp_ty E 0, 40, .inl f_out)) :: fr) := tp_mvD 2 rfl hD
  have hP : va_P (tp_D E) tp_cl ((aM, .inr (4, [.int m_thrown, .ref m_names, .ref m_forms, .int m_size, .ref m_text, .int m_bad, .int m_at, .int m_length, .ref m_word, .int m_form, .int m_code, .int m_d, .int m_s, .int m_t, .long m_value, .long m_label, .long m_name, .ref m_count, .ref m_formOf, .ref m_codeOf, .ref m_dOf, .ref m_sOf, .ref m_tOf, .ref m_valueOf, .ref m_labelOf, .ref m_nameOf, .ref m_target, .ref m_place, .ref m_far, .int m_imageSize, .int m_farCount, .ref m_image, .int 0, .ref m_out])) :: (m_forms, .inl (tp_ty E 0, 46, .inl f_forms)) :: (m_names, .inl (tp_ty E 1, 46, .inr (.inl f_names))) :: (m_out, .inl (tp_ty E 0, 40, .inl f_out)) :: fr) _ := tp_mvP 1 rfl hP
  have hD : va_D A ((aM, .inr (4, [.int m_thrown, .ref m_names, .ref m_forms, .int m_size, .ref m_text, .int m_bad, .int m_at, .int m_length, .ref m_word, .int m_form, .int m_code, .int m_d, .int m_s, .int m_t, .long m_value, .long m_label, .long m_name, .ref m_count, .ref m_formOf, .ref m_codeOf, .ref m_dOf, .ref m_sOf, .ref m_tOf, .ref m_valueOf, .ref m_labelOf, .ref m_nameOf, .ref m_target, .ref m_place, .ref m_far, .int m_imageSize, .int m_farCount, .ref m_image, .int 0, .ref m_out])) :: (m_forms, .inl (tp_ty E 0, 46, .inl f_forms)) :: (m_names, .inl (tp_ty E 1, 46, .inr (.inl f_names))) :: (m_out, .inl (tp_ty E 0, 40, .inl f_out)) :: fr) := tp_mvD 1 rfl hD
  refine tp_ci (tp_rV (As := [.int xw]) (rest := []) ⟨hx, hb, hml, hown, htg⟩ (a_M_operationOf l E ((m_names, .inl (tp_ty E 1, 46, .inr (.inl f_names))) :: (m_out, .inl (tp_ty E 0, 40, .inl f_out)) :: fr) _ aM m_names m_forms m_text m_word m_count m_formOf m_codeOf m_dOf m_sOf m_tOf m_valueOf m_labelOf m_nameOf m_target m_place m_far m_image m_out m_thrown m_size m_bad m_at m_length m_form m_code m_d m_s m_t m_imageSize m_farCount 0 m_value m_label m_name f_forms xw ) (⟨callB_of 1 htg (tp_good0 kc_M_operationOf) rfl rfl rfl (htg _ ki_M) (htg _ kl_M_422) ⟨by decide, by decide, by decide +kernel⟩ ⟨Nat.le_of_ble_eq_true rfl, Nat.le_of_ble_eq_true rfl⟩, htg _ km_M_operationOf, htg _ kp_M_operationOf⟩) (va_recv (ci := 4) (q0 := 0) hK.1 hP rfl rfl) hK hP hD hS hA rfl hl.1 rfl (Nat.le_of_ble_eq_true rfl) d_M_show_7 ⟨Nat.le_of_ble_eq_true rfl, Nat.le_of_ble_eq_true rfl⟩) hD hS hA (fun r u H locs hw hP hD hS => ?_)
  have hmh : tp_mhit xw f_forms r := hw
  generalize r = ko at hmh ⊢
  have hP : va_P (tp_D E) tp_cl ((aM, .inr (4, [.int m_thrown, .ref m_names, .ref m_forms, .int m_size, .ref m_text, .int m_bad, .int m_at, .int m_length, .ref m_word, .int m_form, .int m_code, .int m_d, .int m_s, .int m_t, .long m_value, .long m_label, .long m_name, .ref m_count, .ref m_formOf, .ref m_codeOf, .ref m_dOf, .ref m_sOf, .ref m_tOf, .ref m_valueOf, .ref m_labelOf, .ref m_nameOf, .ref m_target, .ref m_place, .ref m_far, .int m_imageSize, .int m_farCount, .ref m_image, .int 0, .ref m_out])) :: (m_forms, .inl (tp_ty E 0, 46, .inl f_forms)) :: (m_names, .inl (tp_ty E 1, 46, .inr (.inl f_names))) :: (m_out, .inl (tp_ty E 0, 40, .inl f_out)) :: fr) H := hP
  have hD : va_D A ((aM, .inr (4, [.int m_thrown, .ref m_names, .ref m_forms, .int m_size, .ref m_text, .int m_bad, .int m_at, .int m_length, .ref m_word, .int m_form, .int m_code, .int m_d, .int m_s, .int m_t, .long m_value, .long m_label, .long m_name, .ref m_count, .ref m_formOf, .ref m_codeOf, .ref m_dOf, .ref m_sOf, .ref m_tOf, .ref m_valueOf, .ref m_labelOf, .ref m_nameOf, .ref m_target, .ref m_place, .ref m_far, .int m_imageSize, .int m_farCount, .ref m_image, .int 0, .ref m_out])) :: (m_forms, .inl (tp_ty E 0, 46, .inl f_forms)) :: (m_names, .inl (tp_ty E 1, 46, .inr (.inl f_names))) :: (m_out, .inl (tp_ty E 0, 40, .inl f_out)) :: fr) := hD
  refine lv_istore_n (lv' := [(2, .int ko), (0, .ref aM), (1, .int xw)]) hx hb d_M_show_10 rfl hl (by decide) rfl (fun ls hl => ?_)
  refine lv_aload_n hx hb d_M_show_11 rfl (lv_at hl 1 rfl) ?_
  refine lv_iload_n hx hb d_M_show_12 rfl (lv_at hl 0 rfl) ?_
  by_cases h1 : 0 ≤ ko
  · refine lv_if_ge (tgt := 20) hx hb d_M_show_13 (by decide) (fun _ => ?_) (fun h => absurd h1 h)
    refine lv_iconst (v := 0) hx hb d_M_show_20 (by decide) ?_
    refine va_put (D := tp_D E) (ci := 4) (v := .int 0) (ty := .int) (C := qR_M) (T := qF_M) (N := 34) hx hb htg qi_M qt_M qt_M_ok qn_M hown hK.1 hP hD hS 0 rfl rfl 0 (by decide) (htg _ kl_M_208) (fun _ h => h) rfl (by decide +kernel) rfl rfl (Nat.le_of_ble_eq_true rfl) d_M_show_21 (fun H locs hP hD hS => ?_)
    have hP : va_P (tp_D E) tp_cl ((aM, .inr (4, [.int 0, .ref m_names, .ref m_forms, .int m_size, .ref m_text, .int m_bad, .int m_at, .int m_length, .ref m_word, .int m_form, .int m_code, .int m_d, .int m_s, .int m_t, .long m_value, .long m_label, .long m_name, .ref m_count, .ref m_formOf, .ref m_codeOf, .ref m_dOf, .ref m_sOf, .ref m_tOf, .ref m_valueOf, .ref m_labelOf, .ref m_nameOf, .ref m_target, .ref m_place, .ref m_far, .int m_imageSize, .int m_farCount, .ref m_image, .int 0, .ref m_out])) :: (m_forms, .inl (tp_ty E 0, 46, .inl f_forms)) :: (m_names, .inl (tp_ty E 1, 46, .inr (.inl f_names))) :: (m_out, .inl (tp_ty E 0, 40, .inl f_out)) :: fr) H := hP
    have hD : va_D A ((aM, .inr (4, [.int 0, .ref m_names, .ref m_forms, .int m_size, .ref m_text, .int m_bad, .int m_at, .int m_length, .ref m_word, .int m_form, .int m_code, .int m_d, .int m_s, .int m_t, .long m_value, .long m_label, .long m_name, .ref m_count, .ref m_formOf, .ref m_codeOf, .ref m_dOf, .ref m_sOf, .ref m_tOf, .ref m_valueOf, .ref m_labelOf, .ref m_nameOf, .ref m_target, .ref m_place, .ref m_far, .int m_imageSize, .int m_farCount, .ref m_image, .int 0, .ref m_out])) :: (m_forms, .inl (tp_ty E 0, 46, .inl f_forms)) :: (m_names, .inl (tp_ty E 1, 46, .inr (.inl f_names))) :: (m_out, .inl (tp_ty E 0, 40, .inl f_out)) :: fr) := hD
    refine lv_aload_n hx hb d_M_show_24 rfl (lv_at hl 1 rfl) ?_
    refine va_get (D := tp_D E) (ci := 4) (v := .int 0) (C := qR_M) (T := qF_M) (N := 34) hx hb htg qi_M hown hK.1 hP 0 rfl rfl 0 (by decide) (htg _ kl_M_208) (fun _ h => h) rfl d_M_show_25 ?_
    refine lv_if_le (tgt := 33) hx hb d_M_show_28 (by decide) (fun _ => ?_) (fun h => absurd (by decide) h)
    refine lv_bipush (v := 7) hx hb d_M_show_33 (by decide) ?_
    refine lv_istore_n (lv' := [(3, .int 7), (2, .int ko), (0, .ref aM), (1, .int xw)]) hx hb d_M_show_35 rfl hl (by decide) rfl (fun ls hl => ?_)
    refine tp_loop3 (fun j ls H locs (i3 : Int32) (wv : Int32) (fo : Nat → Int32) => ((-1 ≤ i3.toInt ∧ i3.toInt ≤ 7) ∧ (i3.toInt + 1 = (j : Int)) ∧ (wv.toInt + (tp_nr (f_names ko.toNatClampNeg) j : Nat) = (tp_nr (f_names ko.toNatClampNeg) 8 : Nat) ∧ 0 ≤ wv.toInt)) ∧ lv_has ls 9 [(3, .int i3), (2, .int ko), (0, .ref aM), (1, .int xw)] ∧ va_P (tp_D E) tp_cl ((aM, .inr (4, [.int 0, .ref m_names, .ref m_forms, .int m_size, .ref m_text, .int m_bad, .int m_at, .int m_length, .ref m_word, .int m_form, .int m_code, .int m_d, .int m_s, .int m_t, .long m_value, .long m_label, .long m_name, .ref m_count, .ref m_formOf, .ref m_codeOf, .ref m_dOf, .ref m_sOf, .ref m_tOf, .ref m_valueOf, .ref m_labelOf, .ref m_nameOf, .ref m_target, .ref m_place, .ref m_far, .int m_imageSize, .int m_farCount, .ref m_image, .int wv, .ref m_out])) :: (m_forms, .inl (tp_ty E 0, 46, .inl f_forms)) :: (m_names, .inl (tp_ty E 1, 46, .inr (.inl f_names))) :: (m_out, .inl (tp_ty E 0, 40, .inl fo)) :: fr) H ∧ va_D A ((aM, .inr (4, [.int 0, .ref m_names, .ref m_forms, .int m_size, .ref m_text, .int m_bad, .int m_at, .int m_length, .ref m_word, .int m_form, .int m_code, .int m_d, .int m_s, .int m_t, .long m_value, .long m_label, .long m_name, .ref m_count, .ref m_formOf, .ref m_codeOf, .ref m_dOf, .ref m_sOf, .ref m_tOf, .ref m_valueOf, .ref m_labelOf, .ref m_nameOf, .ref m_target, .ref m_place, .ref m_far, .int m_imageSize, .int m_farCount, .ref m_image, .int wv, .ref m_out])) :: (m_forms, .inl (tp_ty E 0, 46, .inl f_forms)) :: (m_names, .inl (tp_ty E 1, 46, .inr (.inl f_names))) :: (m_out, .inl (tp_ty E 0, 40, .inl fo)) :: fr) ∧ va_S A s.heap H locs) ?_ _ 7 0 f_out ⟨⟨by decide, show (7 : Int32).toInt + 1 = ((8 : Nat) : Int) from by decide, ⟨by rw [Int32.toInt_zero]; omega, by decide⟩⟩, tp_lvI hl [0, 1, 2, 3] rfl, hP, hD, hS⟩
    intro j i3 wv fo ls H locs hI ih
    obtain ⟨⟨hi3, hj, hwv⟩, hl, hP, hD, hS⟩ := hI
    have h8 := tp_nr8 (f_names ko.toNatClampNeg) 8
    refine lv_iload_n hx hb d_M_show_36 rfl (lv_at hl 0 rfl) ?_
    by_cases h2 : i3 < 0
    · refine lv_if_lt (tgt := 75) hx hb d_M_show_37 (by decide) (fun _ => ?_) (fun h => absurd h2 h)
      refine lv_aload_n hx hb d_M_show_75 rfl (lv_at hl 2 rfl) ?_
      refine va_get (D := tp_D E) (ci := 4) (v := .ref m_forms) (C := qR_M) (T := qF_M) (N := 34) hx hb htg qi_M hown hK.1 hP 0 rfl rfl 2 (by decide) (htg _ kl_M_13) (fun _ h => h) rfl d_M_show_76 ?_
      refine lv_iload_n hx hb d_M_show_79 rfl (lv_at hl 1 rfl) ?_
      refine va_iald (D := tp_D E) hx hb hK.1 hP 1 0 rfl rfl (tp_ko46 hmh h1) d_M_show_80 ?_
      refine lv_ldcw (v := 100000) hx hb hown (htg _ kl_M_321) d_M_show_81 ?_
      refine lv_idiv hx hb d_M_show_84 (by decide) ?_
      have hwn : wv.toInt = (tp_nr (f_names ko.toNatClampNeg) 8 : Nat) := tp_nrx hi3 hj hwv h2
      have dd := tp_dlr (xw >>> (7 &&& 31 : Int32))
      have ds := tp_dlr (xw >>> (15 &&& 31 : Int32))
      have dt := tp_dlr (xw >>> (20 &&& 31 : Int32))
      have hf8 := tp_f8 hF hmh h1
      obtain ⟨xf, hxf⟩ : ∃ xf : Int32, ((f_forms ko.toNatClampNeg) / 100000) = xf := ⟨_, rfl⟩
      rw [hxf] at hf8
      refine tp_topi hxf ?_
      rcases hf8 with rfl | rfl | rfl | rfl | rfl | rfl | rfl | rfl
      · refine lv_istore_n (lv' := [(3, .int 1), (2, .int ko), (0, .ref aM), (1, .int xw)]) hx hb d_M_show_85 rfl hl (by decide) rfl (fun ls hl => ?_)
        refine lv_iload_n hx hb d_M_show_86 rfl (lv_at hl 3 rfl) ?_
        refine lv_bipush (v := 7) hx hb d_M_show_87 (by decide) ?_
        refine lv_ishr hx hb d_M_show_89 ?_
        refine lv_bipush (v := 31) hx hb d_M_show_90 (by decide) ?_
        refine lv_iand hx hb d_M_show_92 ?_
        refine lv_istore (lv' := [(4, .int ((xw >>> (7 &&& 31 : Int32)) &&& 31)), (3, .int 1), (2, .int ko), (0, .ref aM), (1, .int xw)]) hx hb d_M_show_93 hl (by decide) rfl (fun ls hl => ?_)
        refine lv_iload_n hx hb d_M_show_95 rfl (lv_at hl 4 rfl) ?_
        refine lv_bipush (v := 15) hx hb d_M_show_96 (by decide) ?_
        refine lv_ishr hx hb d_M_show_98 ?_
        refine lv_bipush (v := 31) hx hb d_M_show_99 (by decide) ?_
        refine lv_iand hx hb d_M_show_101 ?_
        refine lv_istore (lv' := [(5, .int ((xw >>> (15 &&& 31 : Int32)) &&& 31)), (4, .int ((xw >>> (7 &&& 31 : Int32)) &&& 31)), (3, .int 1), (2, .int ko), (0, .ref aM), (1, .int xw)]) hx hb d_M_show_102 hl (by decide) rfl (fun ls hl => ?_)
        refine lv_iload_n hx hb d_M_show_104 rfl (lv_at hl 5 rfl) ?_
        refine lv_bipush (v := 20) hx hb d_M_show_105 (by decide) ?_
        refine lv_ishr hx hb d_M_show_107 ?_
        refine lv_bipush (v := 31) hx hb d_M_show_108 (by decide) ?_
        refine lv_iand hx hb d_M_show_110 ?_
        refine lv_istore (lv' := [(6, .int ((xw >>> (20 &&& 31 : Int32)) &&& 31)), (5, .int ((xw >>> (15 &&& 31 : Int32)) &&& 31)), (4, .int ((xw >>> (7 &&& 31 : Int32)) &&& 31)), (3, .int 1), (2, .int ko), (0, .ref aM), (1, .int xw)]) hx hb d_M_show_111 hl (by decide) rfl (fun ls hl => ?_)
        refine lv_iload_n hx hb d_M_show_113 rfl (lv_at hl 3 rfl) ?_
        refine lv_bipush (v := 6) hx hb d_M_show_114 (by decide) ?_
        refine lv_icmp_eq (tgt := 129) hx hb d_M_show_116 (by decide) (fun h => absurd h (by decide)) (fun _ => ?_)
        refine lv_iload_n hx hb d_M_show_119 rfl (lv_at hl 3 rfl) ?_
        refine lv_bipush (v := 7) hx hb d_M_show_120 (by decide) ?_
        refine lv_icmp_eq (tgt := 129) hx hb d_M_show_122 (by decide) (fun h => absurd h (by decide)) (fun _ => ?_)
        refine lv_iconst (v := 1) hx hb d_M_show_125 (by decide) ?_
        refine lv_goto (tgt := 130) hx hb d_M_show_126 (by decide) ?_
        refine lv_istore (lv' := [(7, .int 1), (6, .int ((xw >>> (20 &&& 31 : Int32)) &&& 31)), (5, .int ((xw >>> (15 &&& 31 : Int32)) &&& 31)), (4, .int ((xw >>> (7 &&& 31 : Int32)) &&& 31)), (3, .int 1), (2, .int ko), (0, .ref aM), (1, .int xw)]) hx hb d_M_show_130 hl (by decide) rfl (fun ls hl => ?_)
        refine lv_aload_n hx hb d_M_show_132 rfl (lv_at hl 6 rfl) ?_
        refine lv_bipush (v := 32) hx hb d_M_show_133 (by decide) ?_
        refine lv_iload hx hb d_M_show_135 (lv_at hl 0 rfl) ?_
        refine lv_if_eq (tgt := 145) hx hb d_M_show_137 (by decide) (fun h => absurd h (by decide)) (fun _ => ?_)
        refine lv_iload hx hb d_M_show_140 (lv_at hl 3 rfl) ?_
        refine lv_goto (tgt := 158) hx hb d_M_show_142 (by decide) ?_
        have hP : va_P (tp_D E) tp_cl ((m_out, .inl (tp_ty E 0, 40, .inl fo)) :: (aM, .inr (4, [.int 0, .ref m_names, .ref m_forms, .int m_size, .ref m_text, .int m_bad, .int m_at, .int m_length, .ref m_word, .int m_form, .int m_code, .int m_d, .int m_s, .int m_t, .long m_value, .long m_label, .long m_name, .ref m_count, .ref m_formOf, .ref m_codeOf, .ref m_dOf, .ref m_sOf, .ref m_tOf, .ref m_valueOf, .ref m_labelOf, .ref m_nameOf, .ref m_target, .ref m_place, .ref m_far, .int m_imageSize, .int m_farCount, .ref m_image, .int wv, .ref m_out])) :: (m_forms, .inl (tp_ty E 0, 46, .inl f_forms)) :: (m_names, .inl (tp_ty E 1, 46, .inr (.inl f_names))) :: fr) _ := tp_mvP 3 rfl hP
        have hD : va_D A ((m_out, .inl (tp_ty E 0, 40, .inl fo)) :: (aM, .inr (4, [.int 0, .ref m_names, .ref m_forms, .int m_size, .ref m_text, .int m_bad, .int m_at, .int m_length, .ref m_word, .int m_form, .int m_code, .int m_d, .int m_s, .int m_t, .long m_value, .long m_label, .long m_name, .ref m_count, .ref m_formOf, .ref m_codeOf, .ref m_dOf, .ref m_sOf, .ref m_tOf, .ref m_valueOf, .ref m_labelOf, .ref m_nameOf, .ref m_target, .ref m_place, .ref m_far, .int m_imageSize, .int m_farCount, .ref m_image, .int wv, .ref m_out])) :: (m_forms, .inl (tp_ty E 0, 46, .inl f_forms)) :: (m_names, .inl (tp_ty E 1, 46, .inr (.inl f_names))) :: fr) := tp_mvD 3 rfl hD
        have hP : va_P (tp_D E) tp_cl ((aM, .inr (4, [.int 0, .ref m_names, .ref m_forms, .int m_size, .ref m_text, .int m_bad, .int m_at, .int m_length, .ref m_word, .int m_form, .int m_code, .int m_d, .int m_s, .int m_t, .long m_value, .long m_label, .long m_name, .ref m_count, .ref m_formOf, .ref m_codeOf, .ref m_dOf, .ref m_sOf, .ref m_tOf, .ref m_valueOf, .ref m_labelOf, .ref m_nameOf, .ref m_target, .ref m_place, .ref m_far, .int m_imageSize, .int m_farCount, .ref m_image, .int wv, .ref m_out])) :: (m_out, .inl (tp_ty E 0, 40, .inl fo)) :: (m_forms, .inl (tp_ty E 0, 46, .inl f_forms)) :: (m_names, .inl (tp_ty E 1, 46, .inr (.inl f_names))) :: fr) _ := tp_mvP 1 rfl hP
        have hD : va_D A ((aM, .inr (4, [.int 0, .ref m_names, .ref m_forms, .int m_size, .ref m_text, .int m_bad, .int m_at, .int m_length, .ref m_word, .int m_form, .int m_code, .int m_d, .int m_s, .int m_t, .long m_value, .long m_label, .long m_name, .ref m_count, .ref m_formOf, .ref m_codeOf, .ref m_dOf, .ref m_sOf, .ref m_tOf, .ref m_valueOf, .ref m_labelOf, .ref m_nameOf, .ref m_target, .ref m_place, .ref m_far, .int m_imageSize, .int m_farCount, .ref m_image, .int wv, .ref m_out])) :: (m_out, .inl (tp_ty E 0, 40, .inl fo)) :: (m_forms, .inl (tp_ty E 0, 46, .inl f_forms)) :: (m_names, .inl (tp_ty E 1, 46, .inr (.inl f_names))) :: fr) := tp_mvD 1 rfl hD
        refine tp_cv (tp_rV (As := [.int 32, .int ((xw >>> (7 &&& 31 : Int32)) &&& 31)]) (rest := []) ⟨hx, hb, hml, hown, htg⟩ (a_M_writeRegister l E ((m_forms, .inl (tp_ty E 0, 46, .inl f_forms)) :: (m_names, .inl (tp_ty E 1, 46, .inr (.inl f_names))) :: fr) _ aM m_names m_forms m_text m_word m_count m_formOf m_codeOf m_dOf m_sOf m_tOf m_valueOf m_labelOf m_nameOf m_target m_place m_far m_image m_out 0 m_size m_bad m_at m_length m_form m_code m_d m_s m_t m_imageSize m_farCount wv m_value m_label m_name fo 32 ((xw >>> (7 &&& 31 : Int32)) &&& 31) (by omega)) (⟨callB_of 2 htg (tp_good0 kc_M_writeRegister) rfl rfl rfl (htg _ ki_M) (htg _ kl_M_425) ⟨by decide, by decide, by decide +kernel⟩ ⟨Nat.le_of_ble_eq_true rfl, Nat.le_of_ble_eq_true rfl⟩, htg _ km_M_writeRegister, htg _ kp_M_writeRegister⟩) (va_recv (ci := 4) (q0 := 0) hK.1 hP rfl rfl) hK hP hD hS hA rfl hl.1 rfl (Nat.le_of_ble_eq_true rfl) d_M_show_158 ⟨Nat.le_of_ble_eq_true rfl, Nat.le_of_ble_eq_true rfl⟩) hD hS hA (fun u H locs hw hP hD hS => ?_)
        obtain ⟨wq1, oq1⟩ := u
        have hwq1 : wq1.toInt = wv.toInt + 2 + (tp_dl ((xw >>> (7 &&& 31 : Int32)) &&& 31) : Int) := hw
        have hP : va_P (tp_D E) tp_cl ((aM, .inr (4, [.int 0, .ref m_names, .ref m_forms, .int m_size, .ref m_text, .int m_bad, .int m_at, .int m_length, .ref m_word, .int m_form, .int m_code, .int m_d, .int m_s, .int m_t, .long m_value, .long m_label, .long m_name, .ref m_count, .ref m_formOf, .ref m_codeOf, .ref m_dOf, .ref m_sOf, .ref m_tOf, .ref m_valueOf, .ref m_labelOf, .ref m_nameOf, .ref m_target, .ref m_place, .ref m_far, .int m_imageSize, .int m_farCount, .ref m_image, .int wq1, .ref m_out])) :: (m_out, .inl (tp_ty E 0, 40, .inl oq1)) :: (m_forms, .inl (tp_ty E 0, 46, .inl f_forms)) :: (m_names, .inl (tp_ty E 1, 46, .inr (.inl f_names))) :: fr) H := hP
        have hD : va_D A ((aM, .inr (4, [.int 0, .ref m_names, .ref m_forms, .int m_size, .ref m_text, .int m_bad, .int m_at, .int m_length, .ref m_word, .int m_form, .int m_code, .int m_d, .int m_s, .int m_t, .long m_value, .long m_label, .long m_name, .ref m_count, .ref m_formOf, .ref m_codeOf, .ref m_dOf, .ref m_sOf, .ref m_tOf, .ref m_valueOf, .ref m_labelOf, .ref m_nameOf, .ref m_target, .ref m_place, .ref m_far, .int m_imageSize, .int m_farCount, .ref m_image, .int wq1, .ref m_out])) :: (m_out, .inl (tp_ty E 0, 40, .inl oq1)) :: (m_forms, .inl (tp_ty E 0, 46, .inl f_forms)) :: (m_names, .inl (tp_ty E 1, 46, .inr (.inl f_names))) :: fr) := hD
        refine lv_iload_n hx hb d_M_show_161 rfl (lv_at hl 4 rfl) ?_
        refine lv_iconst (v := 4) hx hb d_M_show_162 (by decide) ?_
        refine lv_icmp_ge (tgt := 174) hx hb d_M_show_163 (by decide) (fun h => absurd h (by decide)) (fun _ => ?_)
        refine lv_aload_n hx hb d_M_show_166 rfl (lv_at hl 6 rfl) ?_
        refine lv_bipush (v := 44) hx hb d_M_show_167 (by decide) ?_
        refine lv_iload hx hb d_M_show_169 (lv_at hl 2 rfl) ?_
        refine tp_cv (tp_rV (As := [.int 44, .int ((xw >>> (15 &&& 31 : Int32)) &&& 31)]) (rest := []) ⟨hx, hb, hml, hown, htg⟩ (a_M_writeRegister l E ((m_forms, .inl (tp_ty E 0, 46, .inl f_forms)) :: (m_names, .inl (tp_ty E 1, 46, .inr (.inl f_names))) :: fr) _ aM m_names m_forms m_text m_word m_count m_formOf m_codeOf m_dOf m_sOf m_tOf m_valueOf m_labelOf m_nameOf m_target m_place m_far m_image m_out 0 m_size m_bad m_at m_length m_form m_code m_d m_s m_t m_imageSize m_farCount wq1 m_value m_label m_name oq1 44 ((xw >>> (15 &&& 31 : Int32)) &&& 31) (by omega)) (⟨callB_of 2 htg (tp_good0 kc_M_writeRegister) rfl rfl rfl (htg _ ki_M) (htg _ kl_M_425) ⟨by decide, by decide, by decide +kernel⟩ ⟨Nat.le_of_ble_eq_true rfl, Nat.le_of_ble_eq_true rfl⟩, htg _ km_M_writeRegister, htg _ kp_M_writeRegister⟩) (va_recv (ci := 4) (q0 := 0) hK.1 hP rfl rfl) hK hP hD hS hA rfl hl.1 rfl (Nat.le_of_ble_eq_true rfl) d_M_show_171 ⟨Nat.le_of_ble_eq_true rfl, Nat.le_of_ble_eq_true rfl⟩) hD hS hA (fun u H locs hw hP hD hS => ?_)
        obtain ⟨wq2, oq2⟩ := u
        have hwq2 : wq2.toInt = wq1.toInt + 2 + (tp_dl ((xw >>> (15 &&& 31 : Int32)) &&& 31) : Int) := hw
        have hP : va_P (tp_D E) tp_cl ((aM, .inr (4, [.int 0, .ref m_names, .ref m_forms, .int m_size, .ref m_text, .int m_bad, .int m_at, .int m_length, .ref m_word, .int m_form, .int m_code, .int m_d, .int m_s, .int m_t, .long m_value, .long m_label, .long m_name, .ref m_count, .ref m_formOf, .ref m_codeOf, .ref m_dOf, .ref m_sOf, .ref m_tOf, .ref m_valueOf, .ref m_labelOf, .ref m_nameOf, .ref m_target, .ref m_place, .ref m_far, .int m_imageSize, .int m_farCount, .ref m_image, .int wq2, .ref m_out])) :: (m_out, .inl (tp_ty E 0, 40, .inl oq2)) :: (m_forms, .inl (tp_ty E 0, 46, .inl f_forms)) :: (m_names, .inl (tp_ty E 1, 46, .inr (.inl f_names))) :: fr) H := hP
        have hD : va_D A ((aM, .inr (4, [.int 0, .ref m_names, .ref m_forms, .int m_size, .ref m_text, .int m_bad, .int m_at, .int m_length, .ref m_word, .int m_form, .int m_code, .int m_d, .int m_s, .int m_t, .long m_value, .long m_label, .long m_name, .ref m_count, .ref m_formOf, .ref m_codeOf, .ref m_dOf, .ref m_sOf, .ref m_tOf, .ref m_valueOf, .ref m_labelOf, .ref m_nameOf, .ref m_target, .ref m_place, .ref m_far, .int m_imageSize, .int m_farCount, .ref m_image, .int wq2, .ref m_out])) :: (m_out, .inl (tp_ty E 0, 40, .inl oq2)) :: (m_forms, .inl (tp_ty E 0, 46, .inl f_forms)) :: (m_names, .inl (tp_ty E 1, 46, .inr (.inl f_names))) :: fr) := hD
        refine lv_iload_n hx hb d_M_show_174 rfl (lv_at hl 4 rfl) ?_
        refine lv_bipush (v := 7) hx hb d_M_show_175 (by decide) ?_
        refine lv_icmp_ne (tgt := 188) hx hb d_M_show_177 (by decide) (fun _ => ?_) (fun h => absurd h (by decide))
        refine lv_iload_n hx hb d_M_show_188 rfl (lv_at hl 4 rfl) ?_
        refine lv_iconst (v := 1) hx hb d_M_show_189 (by decide) ?_
        refine lv_icmp_ne (tgt := 206) hx hb d_M_show_190 (by decide) (fun h => absurd (by decide) h) (fun _ => ?_)
        refine lv_aload_n hx hb d_M_show_193 rfl (lv_at hl 6 rfl) ?_
        refine lv_bipush (v := 44) hx hb d_M_show_194 (by decide) ?_
        refine lv_iload hx hb d_M_show_196 (lv_at hl 1 rfl) ?_
        refine tp_cv (tp_rV (As := [.int 44, .int ((xw >>> (20 &&& 31 : Int32)) &&& 31)]) (rest := []) ⟨hx, hb, hml, hown, htg⟩ (a_M_writeRegister l E ((m_forms, .inl (tp_ty E 0, 46, .inl f_forms)) :: (m_names, .inl (tp_ty E 1, 46, .inr (.inl f_names))) :: fr) _ aM m_names m_forms m_text m_word m_count m_formOf m_codeOf m_dOf m_sOf m_tOf m_valueOf m_labelOf m_nameOf m_target m_place m_far m_image m_out 0 m_size m_bad m_at m_length m_form m_code m_d m_s m_t m_imageSize m_farCount wq2 m_value m_label m_name oq2 44 ((xw >>> (20 &&& 31 : Int32)) &&& 31) (by omega)) (⟨callB_of 2 htg (tp_good0 kc_M_writeRegister) rfl rfl rfl (htg _ ki_M) (htg _ kl_M_425) ⟨by decide, by decide, by decide +kernel⟩ ⟨Nat.le_of_ble_eq_true rfl, Nat.le_of_ble_eq_true rfl⟩, htg _ km_M_writeRegister, htg _ kp_M_writeRegister⟩) (va_recv (ci := 4) (q0 := 0) hK.1 hP rfl rfl) hK hP hD hS hA rfl hl.1 rfl (Nat.le_of_ble_eq_true rfl) d_M_show_198 ⟨Nat.le_of_ble_eq_true rfl, Nat.le_of_ble_eq_true rfl⟩) hD hS hA (fun u H locs hw hP hD hS => ?_)
        obtain ⟨wq3, oq3⟩ := u
        have hwq3 : wq3.toInt = wq2.toInt + 2 + (tp_dl ((xw >>> (20 &&& 31 : Int32)) &&& 31) : Int) := hw
        have hP : va_P (tp_D E) tp_cl ((aM, .inr (4, [.int 0, .ref m_names, .ref m_forms, .int m_size, .ref m_text, .int m_bad, .int m_at, .int m_length, .ref m_word, .int m_form, .int m_code, .int m_d, .int m_s, .int m_t, .long m_value, .long m_label, .long m_name, .ref m_count, .ref m_formOf, .ref m_codeOf, .ref m_dOf, .ref m_sOf, .ref m_tOf, .ref m_valueOf, .ref m_labelOf, .ref m_nameOf, .ref m_target, .ref m_place, .ref m_far, .int m_imageSize, .int m_farCount, .ref m_image, .int wq3, .ref m_out])) :: (m_out, .inl (tp_ty E 0, 40, .inl oq3)) :: (m_forms, .inl (tp_ty E 0, 46, .inl f_forms)) :: (m_names, .inl (tp_ty E 1, 46, .inr (.inl f_names))) :: fr) H := hP
        have hD : va_D A ((aM, .inr (4, [.int 0, .ref m_names, .ref m_forms, .int m_size, .ref m_text, .int m_bad, .int m_at, .int m_length, .ref m_word, .int m_form, .int m_code, .int m_d, .int m_s, .int m_t, .long m_value, .long m_label, .long m_name, .ref m_count, .ref m_formOf, .ref m_codeOf, .ref m_dOf, .ref m_sOf, .ref m_tOf, .ref m_valueOf, .ref m_labelOf, .ref m_nameOf, .ref m_target, .ref m_place, .ref m_far, .int m_imageSize, .int m_farCount, .ref m_image, .int wq3, .ref m_out])) :: (m_out, .inl (tp_ty E 0, 40, .inl oq3)) :: (m_forms, .inl (tp_ty E 0, 46, .inl f_forms)) :: (m_names, .inl (tp_ty E 1, 46, .inr (.inl f_names))) :: fr) := hD
        refine lv_aload_n hx hb d_M_show_201 rfl (lv_at hl 6 rfl) ?_
        refine va_get (D := tp_D E) (ci := 4) (v := .int wq3) (C := qR_M) (T := qF_M) (N := 34) hx hb htg qi_M hown hK.1 hP 0 rfl rfl 32 (by decide) (htg _ kl_M_411) (fun _ h => h) rfl d_M_show_202 ?_
        have hP : va_P (tp_D E) tp_cl ((m_out, .inl (tp_ty E 0, 40, .inl oq3)) :: (aM, .inr (4, [.int 0, .ref m_names, .ref m_forms, .int m_size, .ref m_text, .int m_bad, .int m_at, .int m_length, .ref m_word, .int m_form, .int m_code, .int m_d, .int m_s, .int m_t, .long m_value, .long m_label, .long m_name, .ref m_count, .ref m_formOf, .ref m_codeOf, .ref m_dOf, .ref m_sOf, .ref m_tOf, .ref m_valueOf, .ref m_labelOf, .ref m_nameOf, .ref m_target, .ref m_place, .ref m_far, .int m_imageSize, .int m_farCount, .ref m_image, .int wq3, .ref m_out])) :: (m_forms, .inl (tp_ty E 0, 46, .inl f_forms)) :: (m_names, .inl (tp_ty E 1, 46, .inr (.inl f_names))) :: fr) _ := tp_mvP 1 rfl hP
        have hD : va_D A ((m_out, .inl (tp_ty E 0, 40, .inl oq3)) :: (aM, .inr (4, [.int 0, .ref m_names, .ref m_forms, .int m_size, .ref m_text, .int m_bad, .int m_at, .int m_length, .ref m_word, .int m_form, .int m_code, .int m_d, .int m_s, .int m_t, .long m_value, .long m_label, .long m_name, .ref m_count, .ref m_formOf, .ref m_codeOf, .ref m_dOf, .ref m_sOf, .ref m_tOf, .ref m_valueOf, .ref m_labelOf, .ref m_nameOf, .ref m_target, .ref m_place, .ref m_far, .int m_imageSize, .int m_farCount, .ref m_image, .int wq3, .ref m_out])) :: (m_forms, .inl (tp_ty E 0, 46, .inl f_forms)) :: (m_names, .inl (tp_ty E 1, 46, .inr (.inl f_names))) :: fr) := tp_mvD 1 rfl hD
        have hP : va_P (tp_D E) tp_cl ((m_forms, .inl (tp_ty E 0, 46, .inl f_forms)) :: (m_out, .inl (tp_ty E 0, 40, .inl oq3)) :: (aM, .inr (4, [.int 0, .ref m_names, .ref m_forms, .int m_size, .ref m_text, .int m_bad, .int m_at, .int m_length, .ref m_word, .int m_form, .int m_code, .int m_d, .int m_s, .int m_t, .long m_value, .long m_label, .long m_name, .ref m_count, .ref m_formOf, .ref m_codeOf, .ref m_dOf, .ref m_sOf, .ref m_tOf, .ref m_valueOf, .ref m_labelOf, .ref m_nameOf, .ref m_target, .ref m_place, .ref m_far, .int m_imageSize, .int m_farCount, .ref m_image, .int wq3, .ref m_out])) :: (m_names, .inl (tp_ty E 1, 46, .inr (.inl f_names))) :: fr) _ := tp_mvP 2 rfl hP
        have hD : va_D A ((m_forms, .inl (tp_ty E 0, 46, .inl f_forms)) :: (m_out, .inl (tp_ty E 0, 40, .inl oq3)) :: (aM, .inr (4, [.int 0, .ref m_names, .ref m_forms, .int m_size, .ref m_text, .int m_bad, .int m_at, .int m_length, .ref m_word, .int m_form, .int m_code, .int m_d, .int m_s, .int m_t, .long m_value, .long m_label, .long m_name, .ref m_count, .ref m_formOf, .ref m_codeOf, .ref m_dOf, .ref m_sOf, .ref m_tOf, .ref m_valueOf, .ref m_labelOf, .ref m_nameOf, .ref m_target, .ref m_place, .ref m_far, .int m_imageSize, .int m_farCount, .ref m_image, .int wq3, .ref m_out])) :: (m_names, .inl (tp_ty E 1, 46, .inr (.inl f_names))) :: fr) := tp_mvD 2 rfl hD
        have hP : va_P (tp_D E) tp_cl ((m_names, .inl (tp_ty E 1, 46, .inr (.inl f_names))) :: (m_forms, .inl (tp_ty E 0, 46, .inl f_forms)) :: (m_out, .inl (tp_ty E 0, 40, .inl oq3)) :: (aM, .inr (4, [.int 0, .ref m_names, .ref m_forms, .int m_size, .ref m_text, .int m_bad, .int m_at, .int m_length, .ref m_word, .int m_form, .int m_code, .int m_d, .int m_s, .int m_t, .long m_value, .long m_label, .long m_name, .ref m_count, .ref m_formOf, .ref m_codeOf, .ref m_dOf, .ref m_sOf, .ref m_tOf, .ref m_valueOf, .ref m_labelOf, .ref m_nameOf, .ref m_target, .ref m_place, .ref m_far, .int m_imageSize, .int m_farCount, .ref m_image, .int wq3, .ref m_out])) :: fr) _ := tp_mvP 3 rfl hP
        have hD : va_D A ((m_names, .inl (tp_ty E 1, 46, .inr (.inl f_names))) :: (m_forms, .inl (tp_ty E 0, 46, .inl f_forms)) :: (m_out, .inl (tp_ty E 0, 40, .inl oq3)) :: (aM, .inr (4, [.int 0, .ref m_names, .ref m_forms, .int m_size, .ref m_text, .int m_bad, .int m_at, .int m_length, .ref m_word, .int m_form, .int m_code, .int m_d, .int m_s, .int m_t, .long m_value, .long m_label, .long m_name, .ref m_count, .ref m_formOf, .ref m_codeOf, .ref m_dOf, .ref m_sOf, .ref m_tOf, .ref m_valueOf, .ref m_labelOf, .ref m_nameOf, .ref m_target, .ref m_place, .ref m_far, .int m_imageSize, .int m_farCount, .ref m_image, .int wq3, .ref m_out])) :: fr) := tp_mvD 3 rfl hD
        have hP : va_P (tp_D E) tp_cl ((aM, .inr (4, [.int 0, .ref m_names, .ref m_forms, .int m_size, .ref m_text, .int m_bad, .int m_at, .int m_length, .ref m_word, .int m_form, .int m_code, .int m_d, .int m_s, .int m_t, .long m_value, .long m_label, .long m_name, .ref m_count, .ref m_formOf, .ref m_codeOf, .ref m_dOf, .ref m_sOf, .ref m_tOf, .ref m_valueOf, .ref m_labelOf, .ref m_nameOf, .ref m_target, .ref m_place, .ref m_far, .int m_imageSize, .int m_farCount, .ref m_image, .int wq3, .ref m_out])) :: (m_names, .inl (tp_ty E 1, 46, .inr (.inl f_names))) :: (m_forms, .inl (tp_ty E 0, 46, .inl f_forms)) :: (m_out, .inl (tp_ty E 0, 40, .inl oq3)) :: fr) _ := tp_mvP 3 rfl hP
        have hD : va_D A ((aM, .inr (4, [.int 0, .ref m_names, .ref m_forms, .int m_size, .ref m_text, .int m_bad, .int m_at, .int m_length, .ref m_word, .int m_form, .int m_code, .int m_d, .int m_s, .int m_t, .long m_value, .long m_label, .long m_name, .ref m_count, .ref m_formOf, .ref m_codeOf, .ref m_dOf, .ref m_sOf, .ref m_tOf, .ref m_valueOf, .ref m_labelOf, .ref m_nameOf, .ref m_target, .ref m_place, .ref m_far, .int m_imageSize, .int m_farCount, .ref m_image, .int wq3, .ref m_out])) :: (m_names, .inl (tp_ty E 1, 46, .inr (.inl f_names))) :: (m_forms, .inl (tp_ty E 0, 46, .inl f_forms)) :: (m_out, .inl (tp_ty E 0, 40, .inl oq3)) :: fr) := tp_mvD 3 rfl hD
        have hb40 : 0 ≤ wq3.toInt ∧ wq3.toInt ≤ 40 := by omega
        exact W.iret (v := wq3) hx hb hr (fun t ht hW => ⟨⟨_, (0, wq3, oq3), rfl, Or.inr ⟨rfl, ⟨ko, hmh, Int32.le_iff_toInt_le.mp h1, (by rw [hxf]; show _ = _ + (((2 + tp_dl ((xw >>> (7 &&& 31 : Int32)) &&& 31)) + (2 + tp_dl ((xw >>> (15 &&& 31 : Int32)) &&& 31)) + (2 + tp_dl ((xw >>> (20 &&& 31 : Int32)) &&& 31)) : Nat) : Int); omega)⟩, rfl, hb40⟩, by rw [ht]; exact hP, hD⟩, hS.F ht⟩) hS.2.2 d_M_show_205
      · refine lv_istore_n (lv' := [(3, .int 2), (2, .int ko), (0, .ref aM), (1, .int xw)]) hx hb d_M_show_85 rfl hl (by decide) rfl (fun ls hl => ?_)
        refine lv_iload_n hx hb d_M_show_86 rfl (lv_at hl 3 rfl) ?_
        refine lv_bipush (v := 7) hx hb d_M_show_87 (by decide) ?_
        refine lv_ishr hx hb d_M_show_89 ?_
        refine lv_bipush (v := 31) hx hb d_M_show_90 (by decide) ?_
        refine lv_iand hx hb d_M_show_92 ?_
        refine lv_istore (lv' := [(4, .int ((xw >>> (7 &&& 31 : Int32)) &&& 31)), (3, .int 2), (2, .int ko), (0, .ref aM), (1, .int xw)]) hx hb d_M_show_93 hl (by decide) rfl (fun ls hl => ?_)
        refine lv_iload_n hx hb d_M_show_95 rfl (lv_at hl 4 rfl) ?_
        refine lv_bipush (v := 15) hx hb d_M_show_96 (by decide) ?_
        refine lv_ishr hx hb d_M_show_98 ?_
        refine lv_bipush (v := 31) hx hb d_M_show_99 (by decide) ?_
        refine lv_iand hx hb d_M_show_101 ?_
        refine lv_istore (lv' := [(5, .int ((xw >>> (15 &&& 31 : Int32)) &&& 31)), (4, .int ((xw >>> (7 &&& 31 : Int32)) &&& 31)), (3, .int 2), (2, .int ko), (0, .ref aM), (1, .int xw)]) hx hb d_M_show_102 hl (by decide) rfl (fun ls hl => ?_)
        refine lv_iload_n hx hb d_M_show_104 rfl (lv_at hl 5 rfl) ?_
        refine lv_bipush (v := 20) hx hb d_M_show_105 (by decide) ?_
        refine lv_ishr hx hb d_M_show_107 ?_
        refine lv_bipush (v := 31) hx hb d_M_show_108 (by decide) ?_
        refine lv_iand hx hb d_M_show_110 ?_
        refine lv_istore (lv' := [(6, .int ((xw >>> (20 &&& 31 : Int32)) &&& 31)), (5, .int ((xw >>> (15 &&& 31 : Int32)) &&& 31)), (4, .int ((xw >>> (7 &&& 31 : Int32)) &&& 31)), (3, .int 2), (2, .int ko), (0, .ref aM), (1, .int xw)]) hx hb d_M_show_111 hl (by decide) rfl (fun ls hl => ?_)
        refine lv_iload_n hx hb d_M_show_113 rfl (lv_at hl 3 rfl) ?_
        refine lv_bipush (v := 6) hx hb d_M_show_114 (by decide) ?_
        refine lv_icmp_eq (tgt := 129) hx hb d_M_show_116 (by decide) (fun h => absurd h (by decide)) (fun _ => ?_)
        refine lv_iload_n hx hb d_M_show_119 rfl (lv_at hl 3 rfl) ?_
        refine lv_bipush (v := 7) hx hb d_M_show_120 (by decide) ?_
        refine lv_icmp_eq (tgt := 129) hx hb d_M_show_122 (by decide) (fun h => absurd h (by decide)) (fun _ => ?_)
        refine lv_iconst (v := 1) hx hb d_M_show_125 (by decide) ?_
        refine lv_goto (tgt := 130) hx hb d_M_show_126 (by decide) ?_
        refine lv_istore (lv' := [(7, .int 1), (6, .int ((xw >>> (20 &&& 31 : Int32)) &&& 31)), (5, .int ((xw >>> (15 &&& 31 : Int32)) &&& 31)), (4, .int ((xw >>> (7 &&& 31 : Int32)) &&& 31)), (3, .int 2), (2, .int ko), (0, .ref aM), (1, .int xw)]) hx hb d_M_show_130 hl (by decide) rfl (fun ls hl => ?_)
        refine lv_aload_n hx hb d_M_show_132 rfl (lv_at hl 6 rfl) ?_
        refine lv_bipush (v := 32) hx hb d_M_show_133 (by decide) ?_
        refine lv_iload hx hb d_M_show_135 (lv_at hl 0 rfl) ?_
        refine lv_if_eq (tgt := 145) hx hb d_M_show_137 (by decide) (fun h => absurd h (by decide)) (fun _ => ?_)
        refine lv_iload hx hb d_M_show_140 (lv_at hl 3 rfl) ?_
        refine lv_goto (tgt := 158) hx hb d_M_show_142 (by decide) ?_
        have hP : va_P (tp_D E) tp_cl ((m_out, .inl (tp_ty E 0, 40, .inl fo)) :: (aM, .inr (4, [.int 0, .ref m_names, .ref m_forms, .int m_size, .ref m_text, .int m_bad, .int m_at, .int m_length, .ref m_word, .int m_form, .int m_code, .int m_d, .int m_s, .int m_t, .long m_value, .long m_label, .long m_name, .ref m_count, .ref m_formOf, .ref m_codeOf, .ref m_dOf, .ref m_sOf, .ref m_tOf, .ref m_valueOf, .ref m_labelOf, .ref m_nameOf, .ref m_target, .ref m_place, .ref m_far, .int m_imageSize, .int m_farCount, .ref m_image, .int wv, .ref m_out])) :: (m_forms, .inl (tp_ty E 0, 46, .inl f_forms)) :: (m_names, .inl (tp_ty E 1, 46, .inr (.inl f_names))) :: fr) _ := tp_mvP 3 rfl hP
        have hD : va_D A ((m_out, .inl (tp_ty E 0, 40, .inl fo)) :: (aM, .inr (4, [.int 0, .ref m_names, .ref m_forms, .int m_size, .ref m_text, .int m_bad, .int m_at, .int m_length, .ref m_word, .int m_form, .int m_code, .int m_d, .int m_s, .int m_t, .long m_value, .long m_label, .long m_name, .ref m_count, .ref m_formOf, .ref m_codeOf, .ref m_dOf, .ref m_sOf, .ref m_tOf, .ref m_valueOf, .ref m_labelOf, .ref m_nameOf, .ref m_target, .ref m_place, .ref m_far, .int m_imageSize, .int m_farCount, .ref m_image, .int wv, .ref m_out])) :: (m_forms, .inl (tp_ty E 0, 46, .inl f_forms)) :: (m_names, .inl (tp_ty E 1, 46, .inr (.inl f_names))) :: fr) := tp_mvD 3 rfl hD
        have hP : va_P (tp_D E) tp_cl ((aM, .inr (4, [.int 0, .ref m_names, .ref m_forms, .int m_size, .ref m_text, .int m_bad, .int m_at, .int m_length, .ref m_word, .int m_form, .int m_code, .int m_d, .int m_s, .int m_t, .long m_value, .long m_label, .long m_name, .ref m_count, .ref m_formOf, .ref m_codeOf, .ref m_dOf, .ref m_sOf, .ref m_tOf, .ref m_valueOf, .ref m_labelOf, .ref m_nameOf, .ref m_target, .ref m_place, .ref m_far, .int m_imageSize, .int m_farCount, .ref m_image, .int wv, .ref m_out])) :: (m_out, .inl (tp_ty E 0, 40, .inl fo)) :: (m_forms, .inl (tp_ty E 0, 46, .inl f_forms)) :: (m_names, .inl (tp_ty E 1, 46, .inr (.inl f_names))) :: fr) _ := tp_mvP 1 rfl hP
        have hD : va_D A ((aM, .inr (4, [.int 0, .ref m_names, .ref m_forms, .int m_size, .ref m_text, .int m_bad, .int m_at, .int m_length, .ref m_word, .int m_form, .int m_code, .int m_d, .int m_s, .int m_t, .long m_value, .long m_label, .long m_name, .ref m_count, .ref m_formOf, .ref m_codeOf, .ref m_dOf, .ref m_sOf, .ref m_tOf, .ref m_valueOf, .ref m_labelOf, .ref m_nameOf, .ref m_target, .ref m_place, .ref m_far, .int m_imageSize, .int m_farCount, .ref m_image, .int wv, .ref m_out])) :: (m_out, .inl (tp_ty E 0, 40, .inl fo)) :: (m_forms, .inl (tp_ty E 0, 46, .inl f_forms)) :: (m_names, .inl (tp_ty E 1, 46, .inr (.inl f_names))) :: fr) := tp_mvD 1 rfl hD
        refine tp_cv (tp_rV (As := [.int 32, .int ((xw >>> (7 &&& 31 : Int32)) &&& 31)]) (rest := []) ⟨hx, hb, hml, hown, htg⟩ (a_M_writeRegister l E ((m_forms, .inl (tp_ty E 0, 46, .inl f_forms)) :: (m_names, .inl (tp_ty E 1, 46, .inr (.inl f_names))) :: fr) _ aM m_names m_forms m_text m_word m_count m_formOf m_codeOf m_dOf m_sOf m_tOf m_valueOf m_labelOf m_nameOf m_target m_place m_far m_image m_out 0 m_size m_bad m_at m_length m_form m_code m_d m_s m_t m_imageSize m_farCount wv m_value m_label m_name fo 32 ((xw >>> (7 &&& 31 : Int32)) &&& 31) (by omega)) (⟨callB_of 2 htg (tp_good0 kc_M_writeRegister) rfl rfl rfl (htg _ ki_M) (htg _ kl_M_425) ⟨by decide, by decide, by decide +kernel⟩ ⟨Nat.le_of_ble_eq_true rfl, Nat.le_of_ble_eq_true rfl⟩, htg _ km_M_writeRegister, htg _ kp_M_writeRegister⟩) (va_recv (ci := 4) (q0 := 0) hK.1 hP rfl rfl) hK hP hD hS hA rfl hl.1 rfl (Nat.le_of_ble_eq_true rfl) d_M_show_158 ⟨Nat.le_of_ble_eq_true rfl, Nat.le_of_ble_eq_true rfl⟩) hD hS hA (fun u H locs hw hP hD hS => ?_)
        obtain ⟨wq1, oq1⟩ := u
        have hwq1 : wq1.toInt = wv.toInt + 2 + (tp_dl ((xw >>> (7 &&& 31 : Int32)) &&& 31) : Int) := hw
        have hP : va_P (tp_D E) tp_cl ((aM, .inr (4, [.int 0, .ref m_names, .ref m_forms, .int m_size, .ref m_text, .int m_bad, .int m_at, .int m_length, .ref m_word, .int m_form, .int m_code, .int m_d, .int m_s, .int m_t, .long m_value, .long m_label, .long m_name, .ref m_count, .ref m_formOf, .ref m_codeOf, .ref m_dOf, .ref m_sOf, .ref m_tOf, .ref m_valueOf, .ref m_labelOf, .ref m_nameOf, .ref m_target, .ref m_place, .ref m_far, .int m_imageSize, .int m_farCount, .ref m_image, .int wq1, .ref m_out])) :: (m_out, .inl (tp_ty E 0, 40, .inl oq1)) :: (m_forms, .inl (tp_ty E 0, 46, .inl f_forms)) :: (m_names, .inl (tp_ty E 1, 46, .inr (.inl f_names))) :: fr) H := hP
        have hD : va_D A ((aM, .inr (4, [.int 0, .ref m_names, .ref m_forms, .int m_size, .ref m_text, .int m_bad, .int m_at, .int m_length, .ref m_word, .int m_form, .int m_code, .int m_d, .int m_s, .int m_t, .long m_value, .long m_label, .long m_name, .ref m_count, .ref m_formOf, .ref m_codeOf, .ref m_dOf, .ref m_sOf, .ref m_tOf, .ref m_valueOf, .ref m_labelOf, .ref m_nameOf, .ref m_target, .ref m_place, .ref m_far, .int m_imageSize, .int m_farCount, .ref m_image, .int wq1, .ref m_out])) :: (m_out, .inl (tp_ty E 0, 40, .inl oq1)) :: (m_forms, .inl (tp_ty E 0, 46, .inl f_forms)) :: (m_names, .inl (tp_ty E 1, 46, .inr (.inl f_names))) :: fr) := hD
        refine lv_iload_n hx hb d_M_show_161 rfl (lv_at hl 4 rfl) ?_
        refine lv_iconst (v := 4) hx hb d_M_show_162 (by decide) ?_
        refine lv_icmp_ge (tgt := 174) hx hb d_M_show_163 (by decide) (fun h => absurd h (by decide)) (fun _ => ?_)
        refine lv_aload_n hx hb d_M_show_166 rfl (lv_at hl 6 rfl) ?_
        refine lv_bipush (v := 44) hx hb d_M_show_167 (by decide) ?_
        refine lv_iload hx hb d_M_show_169 (lv_at hl 2 rfl) ?_
        refine tp_cv (tp_rV (As := [.int 44, .int ((xw >>> (15 &&& 31 : Int32)) &&& 31)]) (rest := []) ⟨hx, hb, hml, hown, htg⟩ (a_M_writeRegister l E ((m_forms, .inl (tp_ty E 0, 46, .inl f_forms)) :: (m_names, .inl (tp_ty E 1, 46, .inr (.inl f_names))) :: fr) _ aM m_names m_forms m_text m_word m_count m_formOf m_codeOf m_dOf m_sOf m_tOf m_valueOf m_labelOf m_nameOf m_target m_place m_far m_image m_out 0 m_size m_bad m_at m_length m_form m_code m_d m_s m_t m_imageSize m_farCount wq1 m_value m_label m_name oq1 44 ((xw >>> (15 &&& 31 : Int32)) &&& 31) (by omega)) (⟨callB_of 2 htg (tp_good0 kc_M_writeRegister) rfl rfl rfl (htg _ ki_M) (htg _ kl_M_425) ⟨by decide, by decide, by decide +kernel⟩ ⟨Nat.le_of_ble_eq_true rfl, Nat.le_of_ble_eq_true rfl⟩, htg _ km_M_writeRegister, htg _ kp_M_writeRegister⟩) (va_recv (ci := 4) (q0 := 0) hK.1 hP rfl rfl) hK hP hD hS hA rfl hl.1 rfl (Nat.le_of_ble_eq_true rfl) d_M_show_171 ⟨Nat.le_of_ble_eq_true rfl, Nat.le_of_ble_eq_true rfl⟩) hD hS hA (fun u H locs hw hP hD hS => ?_)
        obtain ⟨wq2, oq2⟩ := u
        have hwq2 : wq2.toInt = wq1.toInt + 2 + (tp_dl ((xw >>> (15 &&& 31 : Int32)) &&& 31) : Int) := hw
        have hP : va_P (tp_D E) tp_cl ((aM, .inr (4, [.int 0, .ref m_names, .ref m_forms, .int m_size, .ref m_text, .int m_bad, .int m_at, .int m_length, .ref m_word, .int m_form, .int m_code, .int m_d, .int m_s, .int m_t, .long m_value, .long m_label, .long m_name, .ref m_count, .ref m_formOf, .ref m_codeOf, .ref m_dOf, .ref m_sOf, .ref m_tOf, .ref m_valueOf, .ref m_labelOf, .ref m_nameOf, .ref m_target, .ref m_place, .ref m_far, .int m_imageSize, .int m_farCount, .ref m_image, .int wq2, .ref m_out])) :: (m_out, .inl (tp_ty E 0, 40, .inl oq2)) :: (m_forms, .inl (tp_ty E 0, 46, .inl f_forms)) :: (m_names, .inl (tp_ty E 1, 46, .inr (.inl f_names))) :: fr) H := hP
        have hD : va_D A ((aM, .inr (4, [.int 0, .ref m_names, .ref m_forms, .int m_size, .ref m_text, .int m_bad, .int m_at, .int m_length, .ref m_word, .int m_form, .int m_code, .int m_d, .int m_s, .int m_t, .long m_value, .long m_label, .long m_name, .ref m_count, .ref m_formOf, .ref m_codeOf, .ref m_dOf, .ref m_sOf, .ref m_tOf, .ref m_valueOf, .ref m_labelOf, .ref m_nameOf, .ref m_target, .ref m_place, .ref m_far, .int m_imageSize, .int m_farCount, .ref m_image, .int wq2, .ref m_out])) :: (m_out, .inl (tp_ty E 0, 40, .inl oq2)) :: (m_forms, .inl (tp_ty E 0, 46, .inl f_forms)) :: (m_names, .inl (tp_ty E 1, 46, .inr (.inl f_names))) :: fr) := hD
        refine lv_iload_n hx hb d_M_show_174 rfl (lv_at hl 4 rfl) ?_
        refine lv_bipush (v := 7) hx hb d_M_show_175 (by decide) ?_
        refine lv_icmp_ne (tgt := 188) hx hb d_M_show_177 (by decide) (fun _ => ?_) (fun h => absurd h (by decide))
        refine lv_iload_n hx hb d_M_show_188 rfl (lv_at hl 4 rfl) ?_
        refine lv_iconst (v := 1) hx hb d_M_show_189 (by decide) ?_
        refine lv_icmp_ne (tgt := 206) hx hb d_M_show_190 (by decide) (fun _ => ?_) (fun h => absurd h (by decide))
        refine lv_aload_n hx hb d_M_show_206 rfl (lv_at hl 6 rfl) ?_
        refine lv_bipush (v := 44) hx hb d_M_show_207 (by decide) ?_
        refine tp_cv (tp_rV (As := [.int 44]) (rest := []) ⟨hx, hb, hml, hown, htg⟩ (a_M_write l E ((m_forms, .inl (tp_ty E 0, 46, .inl f_forms)) :: (m_names, .inl (tp_ty E 1, 46, .inr (.inl f_names))) :: fr) _ aM m_names m_forms m_text m_word m_count m_formOf m_codeOf m_dOf m_sOf m_tOf m_valueOf m_labelOf m_nameOf m_target m_place m_far m_image m_out 0 m_size m_bad m_at m_length m_form m_code m_d m_s m_t m_imageSize m_farCount wq2 m_value m_label m_name oq2 44 (by omega)) (⟨callB_of 1 htg (tp_good0 kc_M_write) rfl rfl rfl (htg _ ki_M) (htg _ kl_M_414) ⟨by decide, by decide, by decide +kernel⟩ ⟨Nat.le_of_ble_eq_true rfl, Nat.le_of_ble_eq_true rfl⟩, htg _ km_M_write, htg _ kp_M_write⟩) (va_recv (ci := 4) (q0 := 0) hK.1 hP rfl rfl) hK hP hD hS hA rfl hl.1 rfl (Nat.le_of_ble_eq_true rfl) d_M_show_209 ⟨Nat.le_of_ble_eq_true rfl, Nat.le_of_ble_eq_true rfl⟩) hD hS hA (fun u H locs hw hP hD hS => ?_)
        obtain ⟨wq3, oq3⟩ := u
        have hwq3 : wq3.toInt = wq2.toInt + 1 := hw
        have hP : va_P (tp_D E) tp_cl ((aM, .inr (4, [.int 0, .ref m_names, .ref m_forms, .int m_size, .ref m_text, .int m_bad, .int m_at, .int m_length, .ref m_word, .int m_form, .int m_code, .int m_d, .int m_s, .int m_t, .long m_value, .long m_label, .long m_name, .ref m_count, .ref m_formOf, .ref m_codeOf, .ref m_dOf, .ref m_sOf, .ref m_tOf, .ref m_valueOf, .ref m_labelOf, .ref m_nameOf, .ref m_target, .ref m_place, .ref m_far, .int m_imageSize, .int m_farCount, .ref m_image, .int wq3, .ref m_out])) :: (m_out, .inl (tp_ty E 0, 40, .inl oq3)) :: (m_forms, .inl (tp_ty E 0, 46, .inl f_forms)) :: (m_names, .inl (tp_ty E 1, 46, .inr (.inl f_names))) :: fr) H := hP
        have hD : va_D A ((aM, .inr (4, [.int 0, .ref m_names, .ref m_forms, .int m_size, .ref m_text, .int m_bad, .int m_at, .int m_length, .ref m_word, .int m_form, .int m_code, .int m_d, .int m_s, .int m_t, .long m_value, .long m_label, .long m_name, .ref m_count, .ref m_formOf, .ref m_codeOf, .ref m_dOf, .ref m_sOf, .ref m_tOf, .ref m_valueOf, .ref m_labelOf, .ref m_nameOf, .ref m_target, .ref m_place, .ref m_far, .int m_imageSize, .int m_farCount, .ref m_image, .int wq3, .ref m_out])) :: (m_out, .inl (tp_ty E 0, 40, .inl oq3)) :: (m_forms, .inl (tp_ty E 0, 46, .inl f_forms)) :: (m_names, .inl (tp_ty E 1, 46, .inr (.inl f_names))) :: fr) := hD
        refine lv_iload_n hx hb d_M_show_212 rfl (lv_at hl 7 rfl) ?_
        refine lv_bipush (v := 20) hx hb d_M_show_213 (by decide) ?_
        refine lv_iushr (v := (xw.toUInt32 >>> (Int32.toUInt32 20 &&& Int32.toUInt32 31)).toInt32) hx hb d_M_show_215 rfl ?_
        refine lv_bipush (v := 12) hx hb d_M_show_216 (by decide) ?_
        refine tp_ci (tp_rS (As := [.int ((xw.toUInt32 >>> (Int32.toUInt32 20 &&& Int32.toUInt32 31)).toInt32), .int 12]) (rest := []) ⟨hx, hb, hml, hown, htg⟩ (a_M_signed12 l E ((aM, .inr (4, [.int 0, .ref m_names, .ref m_forms, .int m_size, .ref m_text, .int m_bad, .int m_at, .int m_length, .ref m_word, .int m_form, .int m_code, .int m_d, .int m_s, .int m_t, .long m_value, .long m_label, .long m_name, .ref m_count, .ref m_formOf, .ref m_codeOf, .ref m_dOf, .ref m_sOf, .ref m_tOf, .ref m_valueOf, .ref m_labelOf, .ref m_nameOf, .ref m_target, .ref m_place, .ref m_far, .int m_imageSize, .int m_farCount, .ref m_image, .int wq3, .ref m_out])) :: (m_out, .inl (tp_ty E 0, 40, .inl oq3)) :: (m_forms, .inl (tp_ty E 0, 46, .inl f_forms)) :: (m_names, .inl (tp_ty E 1, 46, .inr (.inl f_names))) :: fr) _ ((xw.toUInt32 >>> (Int32.toUInt32 20 &&& Int32.toUInt32 31)).toInt32) ) (⟨callB_of 2 htg (tp_good0 kc_M_signed) rfl rfl rfl (htg _ ki_M) (htg _ kl_M_428) ⟨by decide, by decide, by decide +kernel⟩ ⟨Nat.le_of_ble_eq_true rfl, Nat.le_of_ble_eq_true rfl⟩, htg _ ks_M_signed⟩) hK hP hD hS hA rfl hl.1 rfl (Nat.le_of_ble_eq_true rfl) d_M_show_218 ⟨Nat.le_of_ble_eq_true rfl, Nat.le_of_ble_eq_true rfl⟩) hD hS hA (fun r u H locs hw hP hD hS => ?_)
        subst r
        have hP : va_P (tp_D E) tp_cl ((aM, .inr (4, [.int 0, .ref m_names, .ref m_forms, .int m_size, .ref m_text, .int m_bad, .int m_at, .int m_length, .ref m_word, .int m_form, .int m_code, .int m_d, .int m_s, .int m_t, .long m_value, .long m_label, .long m_name, .ref m_count, .ref m_formOf, .ref m_codeOf, .ref m_dOf, .ref m_sOf, .ref m_tOf, .ref m_valueOf, .ref m_labelOf, .ref m_nameOf, .ref m_target, .ref m_place, .ref m_far, .int m_imageSize, .int m_farCount, .ref m_image, .int wq3, .ref m_out])) :: (m_out, .inl (tp_ty E 0, 40, .inl oq3)) :: (m_forms, .inl (tp_ty E 0, 46, .inl f_forms)) :: (m_names, .inl (tp_ty E 1, 46, .inr (.inl f_names))) :: fr) H := hP
        have hD : va_D A ((aM, .inr (4, [.int 0, .ref m_names, .ref m_forms, .int m_size, .ref m_text, .int m_bad, .int m_at, .int m_length, .ref m_word, .int m_form, .int m_code, .int m_d, .int m_s, .int m_t, .long m_value, .long m_label, .long m_name, .ref m_count, .ref m_formOf, .ref m_codeOf, .ref m_dOf, .ref m_sOf, .ref m_tOf, .ref m_valueOf, .ref m_labelOf, .ref m_nameOf, .ref m_target, .ref m_place, .ref m_far, .int m_imageSize, .int m_farCount, .ref m_image, .int wq3, .ref m_out])) :: (m_out, .inl (tp_ty E 0, 40, .inl oq3)) :: (m_forms, .inl (tp_ty E 0, 46, .inl f_forms)) :: (m_names, .inl (tp_ty E 1, 46, .inr (.inl f_names))) :: fr) := hD
        refine lv_istore (lv' := [(8, .int (if (xw.toUInt32 >>> (Int32.toUInt32 20 &&& Int32.toUInt32 31)).toInt32 < 2048 then (xw.toUInt32 >>> (Int32.toUInt32 20 &&& Int32.toUInt32 31)).toInt32 else (xw.toUInt32 >>> (Int32.toUInt32 20 &&& Int32.toUInt32 31)).toInt32 - 4096)), (7, .int 1), (6, .int ((xw >>> (20 &&& 31 : Int32)) &&& 31)), (5, .int ((xw >>> (15 &&& 31 : Int32)) &&& 31)), (4, .int ((xw >>> (7 &&& 31 : Int32)) &&& 31)), (3, .int 2), (2, .int ko), (0, .ref aM), (1, .int xw)]) hx hb d_M_show_221 hl (by decide) rfl (fun ls hl => ?_)
        refine lv_iload_n hx hb d_M_show_223 rfl (lv_at hl 5 rfl) ?_
        refine lv_iconst (v := 3) hx hb d_M_show_224 (by decide) ?_
        refine lv_icmp_ne (tgt := 237) hx hb d_M_show_225 (by decide) (fun _ => ?_) (fun h => absurd h (by decide))
        refine lv_iload_n hx hb d_M_show_237 rfl (lv_at hl 5 rfl) ?_
        refine lv_iconst (v := 4) hx hb d_M_show_238 (by decide) ?_
        refine lv_icmp_ne (tgt := 248) hx hb d_M_show_239 (by decide) (fun _ => ?_) (fun h => absurd h (by decide))
        refine lv_iload_n hx hb d_M_show_248 rfl (lv_at hl 5 rfl) ?_
        refine lv_bipush (v := 6) hx hb d_M_show_249 (by decide) ?_
        refine lv_icmp_ne (tgt := 271) hx hb d_M_show_251 (by decide) (fun _ => ?_) (fun h => absurd h (by decide))
        refine lv_iload_n hx hb d_M_show_271 rfl (lv_at hl 5 rfl) ?_
        refine lv_bipush (v := 7) hx hb d_M_show_272 (by decide) ?_
        refine lv_icmp_ne (tgt := 324) hx hb d_M_show_274 (by decide) (fun _ => ?_) (fun h => absurd h (by decide))
        refine lv_iload_n hx hb d_M_show_324 rfl (lv_at hl 5 rfl) ?_
        refine lv_bipush (v := 8) hx hb d_M_show_325 (by decide) ?_
        refine lv_icmp_ne (tgt := 380) hx hb d_M_show_327 (by decide) (fun _ => ?_) (fun h => absurd h (by decide))
        refine lv_aload_n hx hb d_M_show_380 rfl (lv_at hl 7 rfl) ?_
        refine lv_iload hx hb d_M_show_381 (lv_at hl 0 rfl) ?_
        have gn := (tp_dl10 (xv := (if (xw.toUInt32 >>> (Int32.toUInt32 20 &&& Int32.toUInt32 31)).toInt32 < 2048 then (xw.toUInt32 >>> (Int32.toUInt32 20 &&& Int32.toUInt32 31)).toInt32 else (xw.toUInt32 >>> (Int32.toUInt32 20 &&& Int32.toUInt32 31)).toInt32 - 4096))).1
        refine tp_cv (tp_rV (As := [.int (if (xw.toUInt32 >>> (Int32.toUInt32 20 &&& Int32.toUInt32 31)).toInt32 < 2048 then (xw.toUInt32 >>> (Int32.toUInt32 20 &&& Int32.toUInt32 31)).toInt32 else (xw.toUInt32 >>> (Int32.toUInt32 20 &&& Int32.toUInt32 31)).toInt32 - 4096)]) (rest := []) ⟨hx, hb, hml, hown, htg⟩ (a_M_writeNumber l E ((m_forms, .inl (tp_ty E 0, 46, .inl f_forms)) :: (m_names, .inl (tp_ty E 1, 46, .inr (.inl f_names))) :: fr) _ aM m_names m_forms m_text m_word m_count m_formOf m_codeOf m_dOf m_sOf m_tOf m_valueOf m_labelOf m_nameOf m_target m_place m_far m_image m_out 0 m_size m_bad m_at m_length m_form m_code m_d m_s m_t m_imageSize m_farCount wq3 m_value m_label m_name oq3 (if (xw.toUInt32 >>> (Int32.toUInt32 20 &&& Int32.toUInt32 31)).toInt32 < 2048 then (xw.toUInt32 >>> (Int32.toUInt32 20 &&& Int32.toUInt32 31)).toInt32 else (xw.toUInt32 >>> (Int32.toUInt32 20 &&& Int32.toUInt32 31)).toInt32 - 4096) (by omega)) (⟨callB_of 1 htg (tp_good0 kc_M_writeNumber) rfl rfl rfl (htg _ ki_M) (htg _ kl_M_419) ⟨by decide, by decide, by decide +kernel⟩ ⟨Nat.le_of_ble_eq_true rfl, Nat.le_of_ble_eq_true rfl⟩, htg _ km_M_writeNumber, htg _ kp_M_writeNumber⟩) (va_recv (ci := 4) (q0 := 0) hK.1 hP rfl rfl) hK hP hD hS hA rfl hl.1 rfl (Nat.le_of_ble_eq_true rfl) d_M_show_383 ⟨Nat.le_of_ble_eq_true rfl, Nat.le_of_ble_eq_true rfl⟩) hD hS hA (fun u H locs hw hP hD hS => ?_)
        obtain ⟨wq4, oq4⟩ := u
        have hwq4 : wq4.toInt = wq3.toInt + (tp_dl (if (xw.toUInt32 >>> (Int32.toUInt32 20 &&& Int32.toUInt32 31)).toInt32 < 2048 then (xw.toUInt32 >>> (Int32.toUInt32 20 &&& Int32.toUInt32 31)).toInt32 else (xw.toUInt32 >>> (Int32.toUInt32 20 &&& Int32.toUInt32 31)).toInt32 - 4096) : Int) := hw
        have hP : va_P (tp_D E) tp_cl ((aM, .inr (4, [.int 0, .ref m_names, .ref m_forms, .int m_size, .ref m_text, .int m_bad, .int m_at, .int m_length, .ref m_word, .int m_form, .int m_code, .int m_d, .int m_s, .int m_t, .long m_value, .long m_label, .long m_name, .ref m_count, .ref m_formOf, .ref m_codeOf, .ref m_dOf, .ref m_sOf, .ref m_tOf, .ref m_valueOf, .ref m_labelOf, .ref m_nameOf, .ref m_target, .ref m_place, .ref m_far, .int m_imageSize, .int m_farCount, .ref m_image, .int wq4, .ref m_out])) :: (m_out, .inl (tp_ty E 0, 40, .inl oq4)) :: (m_forms, .inl (tp_ty E 0, 46, .inl f_forms)) :: (m_names, .inl (tp_ty E 1, 46, .inr (.inl f_names))) :: fr) H := hP
        have hD : va_D A ((aM, .inr (4, [.int 0, .ref m_names, .ref m_forms, .int m_size, .ref m_text, .int m_bad, .int m_at, .int m_length, .ref m_word, .int m_form, .int m_code, .int m_d, .int m_s, .int m_t, .long m_value, .long m_label, .long m_name, .ref m_count, .ref m_formOf, .ref m_codeOf, .ref m_dOf, .ref m_sOf, .ref m_tOf, .ref m_valueOf, .ref m_labelOf, .ref m_nameOf, .ref m_target, .ref m_place, .ref m_far, .int m_imageSize, .int m_farCount, .ref m_image, .int wq4, .ref m_out])) :: (m_out, .inl (tp_ty E 0, 40, .inl oq4)) :: (m_forms, .inl (tp_ty E 0, 46, .inl f_forms)) :: (m_names, .inl (tp_ty E 1, 46, .inr (.inl f_names))) :: fr) := hD
        refine lv_iload_n hx hb d_M_show_386 rfl (lv_at hl 5 rfl) ?_
        refine lv_iconst (v := 5) hx hb d_M_show_387 (by decide) ?_
        refine lv_icmp_eq (tgt := 397) hx hb d_M_show_388 (by decide) (fun h => absurd h (by decide)) (fun _ => ?_)
        refine lv_iload_n hx hb d_M_show_391 rfl (lv_at hl 5 rfl) ?_
        refine lv_bipush (v := 6) hx hb d_M_show_392 (by decide) ?_
        refine lv_icmp_ne (tgt := 411) hx hb d_M_show_394 (by decide) (fun _ => ?_) (fun h => absurd h (by decide))
        refine lv_aload_n hx hb d_M_show_411 rfl (lv_at hl 7 rfl) ?_
        refine va_get (D := tp_D E) (ci := 4) (v := .int wq4) (C := qR_M) (T := qF_M) (N := 34) hx hb htg qi_M hown hK.1 hP 0 rfl rfl 32 (by decide) (htg _ kl_M_411) (fun _ h => h) rfl d_M_show_412 ?_
        have hP : va_P (tp_D E) tp_cl ((m_out, .inl (tp_ty E 0, 40, .inl oq4)) :: (aM, .inr (4, [.int 0, .ref m_names, .ref m_forms, .int m_size, .ref m_text, .int m_bad, .int m_at, .int m_length, .ref m_word, .int m_form, .int m_code, .int m_d, .int m_s, .int m_t, .long m_value, .long m_label, .long m_name, .ref m_count, .ref m_formOf, .ref m_codeOf, .ref m_dOf, .ref m_sOf, .ref m_tOf, .ref m_valueOf, .ref m_labelOf, .ref m_nameOf, .ref m_target, .ref m_place, .ref m_far, .int m_imageSize, .int m_farCount, .ref m_image, .int wq4, .ref m_out])) :: (m_forms, .inl (tp_ty E 0, 46, .inl f_forms)) :: (m_names, .inl (tp_ty E 1, 46, .inr (.inl f_names))) :: fr) _ := tp_mvP 1 rfl hP
        have hD : va_D A ((m_out, .inl (tp_ty E 0, 40, .inl oq4)) :: (aM, .inr (4, [.int 0, .ref m_names, .ref m_forms, .int m_size, .ref m_text, .int m_bad, .int m_at, .int m_length, .ref m_word, .int m_form, .int m_code, .int m_d, .int m_s, .int m_t, .long m_value, .long m_label, .long m_name, .ref m_count, .ref m_formOf, .ref m_codeOf, .ref m_dOf, .ref m_sOf, .ref m_tOf, .ref m_valueOf, .ref m_labelOf, .ref m_nameOf, .ref m_target, .ref m_place, .ref m_far, .int m_imageSize, .int m_farCount, .ref m_image, .int wq4, .ref m_out])) :: (m_forms, .inl (tp_ty E 0, 46, .inl f_forms)) :: (m_names, .inl (tp_ty E 1, 46, .inr (.inl f_names))) :: fr) := tp_mvD 1 rfl hD
        have hP : va_P (tp_D E) tp_cl ((m_forms, .inl (tp_ty E 0, 46, .inl f_forms)) :: (m_out, .inl (tp_ty E 0, 40, .inl oq4)) :: (aM, .inr (4, [.int 0, .ref m_names, .ref m_forms, .int m_size, .ref m_text, .int m_bad, .int m_at, .int m_length, .ref m_word, .int m_form, .int m_code, .int m_d, .int m_s, .int m_t, .long m_value, .long m_label, .long m_name, .ref m_count, .ref m_formOf, .ref m_codeOf, .ref m_dOf, .ref m_sOf, .ref m_tOf, .ref m_valueOf, .ref m_labelOf, .ref m_nameOf, .ref m_target, .ref m_place, .ref m_far, .int m_imageSize, .int m_farCount, .ref m_image, .int wq4, .ref m_out])) :: (m_names, .inl (tp_ty E 1, 46, .inr (.inl f_names))) :: fr) _ := tp_mvP 2 rfl hP
        have hD : va_D A ((m_forms, .inl (tp_ty E 0, 46, .inl f_forms)) :: (m_out, .inl (tp_ty E 0, 40, .inl oq4)) :: (aM, .inr (4, [.int 0, .ref m_names, .ref m_forms, .int m_size, .ref m_text, .int m_bad, .int m_at, .int m_length, .ref m_word, .int m_form, .int m_code, .int m_d, .int m_s, .int m_t, .long m_value, .long m_label, .long m_name, .ref m_count, .ref m_formOf, .ref m_codeOf, .ref m_dOf, .ref m_sOf, .ref m_tOf, .ref m_valueOf, .ref m_labelOf, .ref m_nameOf, .ref m_target, .ref m_place, .ref m_far, .int m_imageSize, .int m_farCount, .ref m_image, .int wq4, .ref m_out])) :: (m_names, .inl (tp_ty E 1, 46, .inr (.inl f_names))) :: fr) := tp_mvD 2 rfl hD
        have hP : va_P (tp_D E) tp_cl ((m_names, .inl (tp_ty E 1, 46, .inr (.inl f_names))) :: (m_forms, .inl (tp_ty E 0, 46, .inl f_forms)) :: (m_out, .inl (tp_ty E 0, 40, .inl oq4)) :: (aM, .inr (4, [.int 0, .ref m_names, .ref m_forms, .int m_size, .ref m_text, .int m_bad, .int m_at, .int m_length, .ref m_word, .int m_form, .int m_code, .int m_d, .int m_s, .int m_t, .long m_value, .long m_label, .long m_name, .ref m_count, .ref m_formOf, .ref m_codeOf, .ref m_dOf, .ref m_sOf, .ref m_tOf, .ref m_valueOf, .ref m_labelOf, .ref m_nameOf, .ref m_target, .ref m_place, .ref m_far, .int m_imageSize, .int m_farCount, .ref m_image, .int wq4, .ref m_out])) :: fr) _ := tp_mvP 3 rfl hP
        have hD : va_D A ((m_names, .inl (tp_ty E 1, 46, .inr (.inl f_names))) :: (m_forms, .inl (tp_ty E 0, 46, .inl f_forms)) :: (m_out, .inl (tp_ty E 0, 40, .inl oq4)) :: (aM, .inr (4, [.int 0, .ref m_names, .ref m_forms, .int m_size, .ref m_text, .int m_bad, .int m_at, .int m_length, .ref m_word, .int m_form, .int m_code, .int m_d, .int m_s, .int m_t, .long m_value, .long m_label, .long m_name, .ref m_count, .ref m_formOf, .ref m_codeOf, .ref m_dOf, .ref m_sOf, .ref m_tOf, .ref m_valueOf, .ref m_labelOf, .ref m_nameOf, .ref m_target, .ref m_place, .ref m_far, .int m_imageSize, .int m_farCount, .ref m_image, .int wq4, .ref m_out])) :: fr) := tp_mvD 3 rfl hD
        have hP : va_P (tp_D E) tp_cl ((aM, .inr (4, [.int 0, .ref m_names, .ref m_forms, .int m_size, .ref m_text, .int m_bad, .int m_at, .int m_length, .ref m_word, .int m_form, .int m_code, .int m_d, .int m_s, .int m_t, .long m_value, .long m_label, .long m_name, .ref m_count, .ref m_formOf, .ref m_codeOf, .ref m_dOf, .ref m_sOf, .ref m_tOf, .ref m_valueOf, .ref m_labelOf, .ref m_nameOf, .ref m_target, .ref m_place, .ref m_far, .int m_imageSize, .int m_farCount, .ref m_image, .int wq4, .ref m_out])) :: (m_names, .inl (tp_ty E 1, 46, .inr (.inl f_names))) :: (m_forms, .inl (tp_ty E 0, 46, .inl f_forms)) :: (m_out, .inl (tp_ty E 0, 40, .inl oq4)) :: fr) _ := tp_mvP 3 rfl hP
        have hD : va_D A ((aM, .inr (4, [.int 0, .ref m_names, .ref m_forms, .int m_size, .ref m_text, .int m_bad, .int m_at, .int m_length, .ref m_word, .int m_form, .int m_code, .int m_d, .int m_s, .int m_t, .long m_value, .long m_label, .long m_name, .ref m_count, .ref m_formOf, .ref m_codeOf, .ref m_dOf, .ref m_sOf, .ref m_tOf, .ref m_valueOf, .ref m_labelOf, .ref m_nameOf, .ref m_target, .ref m_place, .ref m_far, .int m_imageSize, .int m_farCount, .ref m_image, .int wq4, .ref m_out])) :: (m_names, .inl (tp_ty E 1, 46, .inr (.inl f_names))) :: (m_forms, .inl (tp_ty E 0, 46, .inl f_forms)) :: (m_out, .inl (tp_ty E 0, 40, .inl oq4)) :: fr) := tp_mvD 3 rfl hD
        have hb40 : 0 ≤ wq4.toInt ∧ wq4.toInt ≤ 40 := by omega
        exact W.iret (v := wq4) hx hb hr (fun t ht hW => ⟨⟨_, (0, wq4, oq4), rfl, Or.inr ⟨rfl, ⟨ko, hmh, Int32.le_iff_toInt_le.mp h1, (by rw [hxf]; show _ = _ + (((2 + tp_dl ((xw >>> (7 &&& 31 : Int32)) &&& 31)) + (2 + tp_dl ((xw >>> (15 &&& 31 : Int32)) &&& 31)) + 1 + tp_dl (if (xw.toUInt32 >>> (Int32.toUInt32 20 &&& Int32.toUInt32 31)).toInt32 < 2048 then (xw.toUInt32 >>> (Int32.toUInt32 20 &&& Int32.toUInt32 31)).toInt32 else (xw.toUInt32 >>> (Int32.toUInt32 20 &&& Int32.toUInt32 31)).toInt32 - 4096) : Nat) : Int); omega)⟩, rfl, hb40⟩, by rw [ht]; exact hP, hD⟩, hS.F ht⟩) hS.2.2 d_M_show_415
      · refine lv_istore_n (lv' := [(3, .int 3), (2, .int ko), (0, .ref aM), (1, .int xw)]) hx hb d_M_show_85 rfl hl (by decide) rfl (fun ls hl => ?_)
        refine lv_iload_n hx hb d_M_show_86 rfl (lv_at hl 3 rfl) ?_
        refine lv_bipush (v := 7) hx hb d_M_show_87 (by decide) ?_
        refine lv_ishr hx hb d_M_show_89 ?_
        refine lv_bipush (v := 31) hx hb d_M_show_90 (by decide) ?_
        refine lv_iand hx hb d_M_show_92 ?_
        refine lv_istore (lv' := [(4, .int ((xw >>> (7 &&& 31 : Int32)) &&& 31)), (3, .int 3), (2, .int ko), (0, .ref aM), (1, .int xw)]) hx hb d_M_show_93 hl (by decide) rfl (fun ls hl => ?_)
        refine lv_iload_n hx hb d_M_show_95 rfl (lv_at hl 4 rfl) ?_
        refine lv_bipush (v := 15) hx hb d_M_show_96 (by decide) ?_
        refine lv_ishr hx hb d_M_show_98 ?_
        refine lv_bipush (v := 31) hx hb d_M_show_99 (by decide) ?_
        refine lv_iand hx hb d_M_show_101 ?_
        refine lv_istore (lv' := [(5, .int ((xw >>> (15 &&& 31 : Int32)) &&& 31)), (4, .int ((xw >>> (7 &&& 31 : Int32)) &&& 31)), (3, .int 3), (2, .int ko), (0, .ref aM), (1, .int xw)]) hx hb d_M_show_102 hl (by decide) rfl (fun ls hl => ?_)
        refine lv_iload_n hx hb d_M_show_104 rfl (lv_at hl 5 rfl) ?_
        refine lv_bipush (v := 20) hx hb d_M_show_105 (by decide) ?_
        refine lv_ishr hx hb d_M_show_107 ?_
        refine lv_bipush (v := 31) hx hb d_M_show_108 (by decide) ?_
        refine lv_iand hx hb d_M_show_110 ?_
        refine lv_istore (lv' := [(6, .int ((xw >>> (20 &&& 31 : Int32)) &&& 31)), (5, .int ((xw >>> (15 &&& 31 : Int32)) &&& 31)), (4, .int ((xw >>> (7 &&& 31 : Int32)) &&& 31)), (3, .int 3), (2, .int ko), (0, .ref aM), (1, .int xw)]) hx hb d_M_show_111 hl (by decide) rfl (fun ls hl => ?_)
        refine lv_iload_n hx hb d_M_show_113 rfl (lv_at hl 3 rfl) ?_
        refine lv_bipush (v := 6) hx hb d_M_show_114 (by decide) ?_
        refine lv_icmp_eq (tgt := 129) hx hb d_M_show_116 (by decide) (fun h => absurd h (by decide)) (fun _ => ?_)
        refine lv_iload_n hx hb d_M_show_119 rfl (lv_at hl 3 rfl) ?_
        refine lv_bipush (v := 7) hx hb d_M_show_120 (by decide) ?_
        refine lv_icmp_eq (tgt := 129) hx hb d_M_show_122 (by decide) (fun h => absurd h (by decide)) (fun _ => ?_)
        refine lv_iconst (v := 1) hx hb d_M_show_125 (by decide) ?_
        refine lv_goto (tgt := 130) hx hb d_M_show_126 (by decide) ?_
        refine lv_istore (lv' := [(7, .int 1), (6, .int ((xw >>> (20 &&& 31 : Int32)) &&& 31)), (5, .int ((xw >>> (15 &&& 31 : Int32)) &&& 31)), (4, .int ((xw >>> (7 &&& 31 : Int32)) &&& 31)), (3, .int 3), (2, .int ko), (0, .ref aM), (1, .int xw)]) hx hb d_M_show_130 hl (by decide) rfl (fun ls hl => ?_)
        refine lv_aload_n hx hb d_M_show_132 rfl (lv_at hl 6 rfl) ?_
        refine lv_bipush (v := 32) hx hb d_M_show_133 (by decide) ?_
        refine lv_iload hx hb d_M_show_135 (lv_at hl 0 rfl) ?_
        refine lv_if_eq (tgt := 145) hx hb d_M_show_137 (by decide) (fun h => absurd h (by decide)) (fun _ => ?_)
        refine lv_iload hx hb d_M_show_140 (lv_at hl 3 rfl) ?_
        refine lv_goto (tgt := 158) hx hb d_M_show_142 (by decide) ?_
        have hP : va_P (tp_D E) tp_cl ((m_out, .inl (tp_ty E 0, 40, .inl fo)) :: (aM, .inr (4, [.int 0, .ref m_names, .ref m_forms, .int m_size, .ref m_text, .int m_bad, .int m_at, .int m_length, .ref m_word, .int m_form, .int m_code, .int m_d, .int m_s, .int m_t, .long m_value, .long m_label, .long m_name, .ref m_count, .ref m_formOf, .ref m_codeOf, .ref m_dOf, .ref m_sOf, .ref m_tOf, .ref m_valueOf, .ref m_labelOf, .ref m_nameOf, .ref m_target, .ref m_place, .ref m_far, .int m_imageSize, .int m_farCount, .ref m_image, .int wv, .ref m_out])) :: (m_forms, .inl (tp_ty E 0, 46, .inl f_forms)) :: (m_names, .inl (tp_ty E 1, 46, .inr (.inl f_names))) :: fr) _ := tp_mvP 3 rfl hP
        have hD : va_D A ((m_out, .inl (tp_ty E 0, 40, .inl fo)) :: (aM, .inr (4, [.int 0, .ref m_names, .ref m_forms, .int m_size, .ref m_text, .int m_bad, .int m_at, .int m_length, .ref m_word, .int m_form, .int m_code, .int m_d, .int m_s, .int m_t, .long m_value, .long m_label, .long m_name, .ref m_count, .ref m_formOf, .ref m_codeOf, .ref m_dOf, .ref m_sOf, .ref m_tOf, .ref m_valueOf, .ref m_labelOf, .ref m_nameOf, .ref m_target, .ref m_place, .ref m_far, .int m_imageSize, .int m_farCount, .ref m_image, .int wv, .ref m_out])) :: (m_forms, .inl (tp_ty E 0, 46, .inl f_forms)) :: (m_names, .inl (tp_ty E 1, 46, .inr (.inl f_names))) :: fr) := tp_mvD 3 rfl hD
        have hP : va_P (tp_D E) tp_cl ((aM, .inr (4, [.int 0, .ref m_names, .ref m_forms, .int m_size, .ref m_text, .int m_bad, .int m_at, .int m_length, .ref m_word, .int m_form, .int m_code, .int m_d, .int m_s, .int m_t, .long m_value, .long m_label, .long m_name, .ref m_count, .ref m_formOf, .ref m_codeOf, .ref m_dOf, .ref m_sOf, .ref m_tOf, .ref m_valueOf, .ref m_labelOf, .ref m_nameOf, .ref m_target, .ref m_place, .ref m_far, .int m_imageSize, .int m_farCount, .ref m_image, .int wv, .ref m_out])) :: (m_out, .inl (tp_ty E 0, 40, .inl fo)) :: (m_forms, .inl (tp_ty E 0, 46, .inl f_forms)) :: (m_names, .inl (tp_ty E 1, 46, .inr (.inl f_names))) :: fr) _ := tp_mvP 1 rfl hP
        have hD : va_D A ((aM, .inr (4, [.int 0, .ref m_names, .ref m_forms, .int m_size, .ref m_text, .int m_bad, .int m_at, .int m_length, .ref m_word, .int m_form, .int m_code, .int m_d, .int m_s, .int m_t, .long m_value, .long m_label, .long m_name, .ref m_count, .ref m_formOf, .ref m_codeOf, .ref m_dOf, .ref m_sOf, .ref m_tOf, .ref m_valueOf, .ref m_labelOf, .ref m_nameOf, .ref m_target, .ref m_place, .ref m_far, .int m_imageSize, .int m_farCount, .ref m_image, .int wv, .ref m_out])) :: (m_out, .inl (tp_ty E 0, 40, .inl fo)) :: (m_forms, .inl (tp_ty E 0, 46, .inl f_forms)) :: (m_names, .inl (tp_ty E 1, 46, .inr (.inl f_names))) :: fr) := tp_mvD 1 rfl hD
        refine tp_cv (tp_rV (As := [.int 32, .int ((xw >>> (7 &&& 31 : Int32)) &&& 31)]) (rest := []) ⟨hx, hb, hml, hown, htg⟩ (a_M_writeRegister l E ((m_forms, .inl (tp_ty E 0, 46, .inl f_forms)) :: (m_names, .inl (tp_ty E 1, 46, .inr (.inl f_names))) :: fr) _ aM m_names m_forms m_text m_word m_count m_formOf m_codeOf m_dOf m_sOf m_tOf m_valueOf m_labelOf m_nameOf m_target m_place m_far m_image m_out 0 m_size m_bad m_at m_length m_form m_code m_d m_s m_t m_imageSize m_farCount wv m_value m_label m_name fo 32 ((xw >>> (7 &&& 31 : Int32)) &&& 31) (by omega)) (⟨callB_of 2 htg (tp_good0 kc_M_writeRegister) rfl rfl rfl (htg _ ki_M) (htg _ kl_M_425) ⟨by decide, by decide, by decide +kernel⟩ ⟨Nat.le_of_ble_eq_true rfl, Nat.le_of_ble_eq_true rfl⟩, htg _ km_M_writeRegister, htg _ kp_M_writeRegister⟩) (va_recv (ci := 4) (q0 := 0) hK.1 hP rfl rfl) hK hP hD hS hA rfl hl.1 rfl (Nat.le_of_ble_eq_true rfl) d_M_show_158 ⟨Nat.le_of_ble_eq_true rfl, Nat.le_of_ble_eq_true rfl⟩) hD hS hA (fun u H locs hw hP hD hS => ?_)
        obtain ⟨wq1, oq1⟩ := u
        have hwq1 : wq1.toInt = wv.toInt + 2 + (tp_dl ((xw >>> (7 &&& 31 : Int32)) &&& 31) : Int) := hw
        have hP : va_P (tp_D E) tp_cl ((aM, .inr (4, [.int 0, .ref m_names, .ref m_forms, .int m_size, .ref m_text, .int m_bad, .int m_at, .int m_length, .ref m_word, .int m_form, .int m_code, .int m_d, .int m_s, .int m_t, .long m_value, .long m_label, .long m_name, .ref m_count, .ref m_formOf, .ref m_codeOf, .ref m_dOf, .ref m_sOf, .ref m_tOf, .ref m_valueOf, .ref m_labelOf, .ref m_nameOf, .ref m_target, .ref m_place, .ref m_far, .int m_imageSize, .int m_farCount, .ref m_image, .int wq1, .ref m_out])) :: (m_out, .inl (tp_ty E 0, 40, .inl oq1)) :: (m_forms, .inl (tp_ty E 0, 46, .inl f_forms)) :: (m_names, .inl (tp_ty E 1, 46, .inr (.inl f_names))) :: fr) H := hP
        have hD : va_D A ((aM, .inr (4, [.int 0, .ref m_names, .ref m_forms, .int m_size, .ref m_text, .int m_bad, .int m_at, .int m_length, .ref m_word, .int m_form, .int m_code, .int m_d, .int m_s, .int m_t, .long m_value, .long m_label, .long m_name, .ref m_count, .ref m_formOf, .ref m_codeOf, .ref m_dOf, .ref m_sOf, .ref m_tOf, .ref m_valueOf, .ref m_labelOf, .ref m_nameOf, .ref m_target, .ref m_place, .ref m_far, .int m_imageSize, .int m_farCount, .ref m_image, .int wq1, .ref m_out])) :: (m_out, .inl (tp_ty E 0, 40, .inl oq1)) :: (m_forms, .inl (tp_ty E 0, 46, .inl f_forms)) :: (m_names, .inl (tp_ty E 1, 46, .inr (.inl f_names))) :: fr) := hD
        refine lv_iload_n hx hb d_M_show_161 rfl (lv_at hl 4 rfl) ?_
        refine lv_iconst (v := 4) hx hb d_M_show_162 (by decide) ?_
        refine lv_icmp_ge (tgt := 174) hx hb d_M_show_163 (by decide) (fun h => absurd h (by decide)) (fun _ => ?_)
        refine lv_aload_n hx hb d_M_show_166 rfl (lv_at hl 6 rfl) ?_
        refine lv_bipush (v := 44) hx hb d_M_show_167 (by decide) ?_
        refine lv_iload hx hb d_M_show_169 (lv_at hl 2 rfl) ?_
        refine tp_cv (tp_rV (As := [.int 44, .int ((xw >>> (15 &&& 31 : Int32)) &&& 31)]) (rest := []) ⟨hx, hb, hml, hown, htg⟩ (a_M_writeRegister l E ((m_forms, .inl (tp_ty E 0, 46, .inl f_forms)) :: (m_names, .inl (tp_ty E 1, 46, .inr (.inl f_names))) :: fr) _ aM m_names m_forms m_text m_word m_count m_formOf m_codeOf m_dOf m_sOf m_tOf m_valueOf m_labelOf m_nameOf m_target m_place m_far m_image m_out 0 m_size m_bad m_at m_length m_form m_code m_d m_s m_t m_imageSize m_farCount wq1 m_value m_label m_name oq1 44 ((xw >>> (15 &&& 31 : Int32)) &&& 31) (by omega)) (⟨callB_of 2 htg (tp_good0 kc_M_writeRegister) rfl rfl rfl (htg _ ki_M) (htg _ kl_M_425) ⟨by decide, by decide, by decide +kernel⟩ ⟨Nat.le_of_ble_eq_true rfl, Nat.le_of_ble_eq_true rfl⟩, htg _ km_M_writeRegister, htg _ kp_M_writeRegister⟩) (va_recv (ci := 4) (q0 := 0) hK.1 hP rfl rfl) hK hP hD hS hA rfl hl.1 rfl (Nat.le_of_ble_eq_true rfl) d_M_show_171 ⟨Nat.le_of_ble_eq_true rfl, Nat.le_of_ble_eq_true rfl⟩) hD hS hA (fun u H locs hw hP hD hS => ?_)
        obtain ⟨wq2, oq2⟩ := u
        have hwq2 : wq2.toInt = wq1.toInt + 2 + (tp_dl ((xw >>> (15 &&& 31 : Int32)) &&& 31) : Int) := hw
        have hP : va_P (tp_D E) tp_cl ((aM, .inr (4, [.int 0, .ref m_names, .ref m_forms, .int m_size, .ref m_text, .int m_bad, .int m_at, .int m_length, .ref m_word, .int m_form, .int m_code, .int m_d, .int m_s, .int m_t, .long m_value, .long m_label, .long m_name, .ref m_count, .ref m_formOf, .ref m_codeOf, .ref m_dOf, .ref m_sOf, .ref m_tOf, .ref m_valueOf, .ref m_labelOf, .ref m_nameOf, .ref m_target, .ref m_place, .ref m_far, .int m_imageSize, .int m_farCount, .ref m_image, .int wq2, .ref m_out])) :: (m_out, .inl (tp_ty E 0, 40, .inl oq2)) :: (m_forms, .inl (tp_ty E 0, 46, .inl f_forms)) :: (m_names, .inl (tp_ty E 1, 46, .inr (.inl f_names))) :: fr) H := hP
        have hD : va_D A ((aM, .inr (4, [.int 0, .ref m_names, .ref m_forms, .int m_size, .ref m_text, .int m_bad, .int m_at, .int m_length, .ref m_word, .int m_form, .int m_code, .int m_d, .int m_s, .int m_t, .long m_value, .long m_label, .long m_name, .ref m_count, .ref m_formOf, .ref m_codeOf, .ref m_dOf, .ref m_sOf, .ref m_tOf, .ref m_valueOf, .ref m_labelOf, .ref m_nameOf, .ref m_target, .ref m_place, .ref m_far, .int m_imageSize, .int m_farCount, .ref m_image, .int wq2, .ref m_out])) :: (m_out, .inl (tp_ty E 0, 40, .inl oq2)) :: (m_forms, .inl (tp_ty E 0, 46, .inl f_forms)) :: (m_names, .inl (tp_ty E 1, 46, .inr (.inl f_names))) :: fr) := hD
        refine lv_iload_n hx hb d_M_show_174 rfl (lv_at hl 4 rfl) ?_
        refine lv_bipush (v := 7) hx hb d_M_show_175 (by decide) ?_
        refine lv_icmp_ne (tgt := 188) hx hb d_M_show_177 (by decide) (fun _ => ?_) (fun h => absurd h (by decide))
        refine lv_iload_n hx hb d_M_show_188 rfl (lv_at hl 4 rfl) ?_
        refine lv_iconst (v := 1) hx hb d_M_show_189 (by decide) ?_
        refine lv_icmp_ne (tgt := 206) hx hb d_M_show_190 (by decide) (fun _ => ?_) (fun h => absurd h (by decide))
        refine lv_aload_n hx hb d_M_show_206 rfl (lv_at hl 6 rfl) ?_
        refine lv_bipush (v := 44) hx hb d_M_show_207 (by decide) ?_
        refine tp_cv (tp_rV (As := [.int 44]) (rest := []) ⟨hx, hb, hml, hown, htg⟩ (a_M_write l E ((m_forms, .inl (tp_ty E 0, 46, .inl f_forms)) :: (m_names, .inl (tp_ty E 1, 46, .inr (.inl f_names))) :: fr) _ aM m_names m_forms m_text m_word m_count m_formOf m_codeOf m_dOf m_sOf m_tOf m_valueOf m_labelOf m_nameOf m_target m_place m_far m_image m_out 0 m_size m_bad m_at m_length m_form m_code m_d m_s m_t m_imageSize m_farCount wq2 m_value m_label m_name oq2 44 (by omega)) (⟨callB_of 1 htg (tp_good0 kc_M_write) rfl rfl rfl (htg _ ki_M) (htg _ kl_M_414) ⟨by decide, by decide, by decide +kernel⟩ ⟨Nat.le_of_ble_eq_true rfl, Nat.le_of_ble_eq_true rfl⟩, htg _ km_M_write, htg _ kp_M_write⟩) (va_recv (ci := 4) (q0 := 0) hK.1 hP rfl rfl) hK hP hD hS hA rfl hl.1 rfl (Nat.le_of_ble_eq_true rfl) d_M_show_209 ⟨Nat.le_of_ble_eq_true rfl, Nat.le_of_ble_eq_true rfl⟩) hD hS hA (fun u H locs hw hP hD hS => ?_)
        obtain ⟨wq3, oq3⟩ := u
        have hwq3 : wq3.toInt = wq2.toInt + 1 := hw
        have hP : va_P (tp_D E) tp_cl ((aM, .inr (4, [.int 0, .ref m_names, .ref m_forms, .int m_size, .ref m_text, .int m_bad, .int m_at, .int m_length, .ref m_word, .int m_form, .int m_code, .int m_d, .int m_s, .int m_t, .long m_value, .long m_label, .long m_name, .ref m_count, .ref m_formOf, .ref m_codeOf, .ref m_dOf, .ref m_sOf, .ref m_tOf, .ref m_valueOf, .ref m_labelOf, .ref m_nameOf, .ref m_target, .ref m_place, .ref m_far, .int m_imageSize, .int m_farCount, .ref m_image, .int wq3, .ref m_out])) :: (m_out, .inl (tp_ty E 0, 40, .inl oq3)) :: (m_forms, .inl (tp_ty E 0, 46, .inl f_forms)) :: (m_names, .inl (tp_ty E 1, 46, .inr (.inl f_names))) :: fr) H := hP
        have hD : va_D A ((aM, .inr (4, [.int 0, .ref m_names, .ref m_forms, .int m_size, .ref m_text, .int m_bad, .int m_at, .int m_length, .ref m_word, .int m_form, .int m_code, .int m_d, .int m_s, .int m_t, .long m_value, .long m_label, .long m_name, .ref m_count, .ref m_formOf, .ref m_codeOf, .ref m_dOf, .ref m_sOf, .ref m_tOf, .ref m_valueOf, .ref m_labelOf, .ref m_nameOf, .ref m_target, .ref m_place, .ref m_far, .int m_imageSize, .int m_farCount, .ref m_image, .int wq3, .ref m_out])) :: (m_out, .inl (tp_ty E 0, 40, .inl oq3)) :: (m_forms, .inl (tp_ty E 0, 46, .inl f_forms)) :: (m_names, .inl (tp_ty E 1, 46, .inr (.inl f_names))) :: fr) := hD
        refine lv_iload_n hx hb d_M_show_212 rfl (lv_at hl 7 rfl) ?_
        refine lv_bipush (v := 20) hx hb d_M_show_213 (by decide) ?_
        refine lv_iushr (v := (xw.toUInt32 >>> (Int32.toUInt32 20 &&& Int32.toUInt32 31)).toInt32) hx hb d_M_show_215 rfl ?_
        refine lv_bipush (v := 12) hx hb d_M_show_216 (by decide) ?_
        refine tp_ci (tp_rS (As := [.int ((xw.toUInt32 >>> (Int32.toUInt32 20 &&& Int32.toUInt32 31)).toInt32), .int 12]) (rest := []) ⟨hx, hb, hml, hown, htg⟩ (a_M_signed12 l E ((aM, .inr (4, [.int 0, .ref m_names, .ref m_forms, .int m_size, .ref m_text, .int m_bad, .int m_at, .int m_length, .ref m_word, .int m_form, .int m_code, .int m_d, .int m_s, .int m_t, .long m_value, .long m_label, .long m_name, .ref m_count, .ref m_formOf, .ref m_codeOf, .ref m_dOf, .ref m_sOf, .ref m_tOf, .ref m_valueOf, .ref m_labelOf, .ref m_nameOf, .ref m_target, .ref m_place, .ref m_far, .int m_imageSize, .int m_farCount, .ref m_image, .int wq3, .ref m_out])) :: (m_out, .inl (tp_ty E 0, 40, .inl oq3)) :: (m_forms, .inl (tp_ty E 0, 46, .inl f_forms)) :: (m_names, .inl (tp_ty E 1, 46, .inr (.inl f_names))) :: fr) _ ((xw.toUInt32 >>> (Int32.toUInt32 20 &&& Int32.toUInt32 31)).toInt32) ) (⟨callB_of 2 htg (tp_good0 kc_M_signed) rfl rfl rfl (htg _ ki_M) (htg _ kl_M_428) ⟨by decide, by decide, by decide +kernel⟩ ⟨Nat.le_of_ble_eq_true rfl, Nat.le_of_ble_eq_true rfl⟩, htg _ ks_M_signed⟩) hK hP hD hS hA rfl hl.1 rfl (Nat.le_of_ble_eq_true rfl) d_M_show_218 ⟨Nat.le_of_ble_eq_true rfl, Nat.le_of_ble_eq_true rfl⟩) hD hS hA (fun r u H locs hw hP hD hS => ?_)
        subst r
        have hP : va_P (tp_D E) tp_cl ((aM, .inr (4, [.int 0, .ref m_names, .ref m_forms, .int m_size, .ref m_text, .int m_bad, .int m_at, .int m_length, .ref m_word, .int m_form, .int m_code, .int m_d, .int m_s, .int m_t, .long m_value, .long m_label, .long m_name, .ref m_count, .ref m_formOf, .ref m_codeOf, .ref m_dOf, .ref m_sOf, .ref m_tOf, .ref m_valueOf, .ref m_labelOf, .ref m_nameOf, .ref m_target, .ref m_place, .ref m_far, .int m_imageSize, .int m_farCount, .ref m_image, .int wq3, .ref m_out])) :: (m_out, .inl (tp_ty E 0, 40, .inl oq3)) :: (m_forms, .inl (tp_ty E 0, 46, .inl f_forms)) :: (m_names, .inl (tp_ty E 1, 46, .inr (.inl f_names))) :: fr) H := hP
        have hD : va_D A ((aM, .inr (4, [.int 0, .ref m_names, .ref m_forms, .int m_size, .ref m_text, .int m_bad, .int m_at, .int m_length, .ref m_word, .int m_form, .int m_code, .int m_d, .int m_s, .int m_t, .long m_value, .long m_label, .long m_name, .ref m_count, .ref m_formOf, .ref m_codeOf, .ref m_dOf, .ref m_sOf, .ref m_tOf, .ref m_valueOf, .ref m_labelOf, .ref m_nameOf, .ref m_target, .ref m_place, .ref m_far, .int m_imageSize, .int m_farCount, .ref m_image, .int wq3, .ref m_out])) :: (m_out, .inl (tp_ty E 0, 40, .inl oq3)) :: (m_forms, .inl (tp_ty E 0, 46, .inl f_forms)) :: (m_names, .inl (tp_ty E 1, 46, .inr (.inl f_names))) :: fr) := hD
        refine lv_istore (lv' := [(8, .int (if (xw.toUInt32 >>> (Int32.toUInt32 20 &&& Int32.toUInt32 31)).toInt32 < 2048 then (xw.toUInt32 >>> (Int32.toUInt32 20 &&& Int32.toUInt32 31)).toInt32 else (xw.toUInt32 >>> (Int32.toUInt32 20 &&& Int32.toUInt32 31)).toInt32 - 4096)), (7, .int 1), (6, .int ((xw >>> (20 &&& 31 : Int32)) &&& 31)), (5, .int ((xw >>> (15 &&& 31 : Int32)) &&& 31)), (4, .int ((xw >>> (7 &&& 31 : Int32)) &&& 31)), (3, .int 3), (2, .int ko), (0, .ref aM), (1, .int xw)]) hx hb d_M_show_221 hl (by decide) rfl (fun ls hl => ?_)
        refine lv_iload_n hx hb d_M_show_223 rfl (lv_at hl 5 rfl) ?_
        refine lv_iconst (v := 3) hx hb d_M_show_224 (by decide) ?_
        refine lv_icmp_ne (tgt := 237) hx hb d_M_show_225 (by decide) (fun h => absurd (by decide) h) (fun _ => ?_)
        refine lv_iload_n hx hb d_M_show_228 rfl (lv_at hl 8 rfl) ?_
        refine lv_bipush (v := 20) hx hb d_M_show_229 (by decide) ?_
        refine lv_ishr hx hb d_M_show_231 ?_
        refine lv_bipush (v := 63) hx hb d_M_show_232 (by decide) ?_
        refine lv_iand hx hb d_M_show_234 ?_
        refine lv_istore (lv' := [(8, .int ((xw >>> (20 &&& 31 : Int32)) &&& 63)), (7, .int 1), (6, .int ((xw >>> (20 &&& 31 : Int32)) &&& 31)), (5, .int ((xw >>> (15 &&& 31 : Int32)) &&& 31)), (4, .int ((xw >>> (7 &&& 31 : Int32)) &&& 31)), (3, .int 3), (2, .int ko), (0, .ref aM), (1, .int xw)]) hx hb d_M_show_235 hl (by decide) rfl (fun ls hl => ?_)
        refine lv_iload_n hx hb d_M_show_237 rfl (lv_at hl 5 rfl) ?_
        refine lv_iconst (v := 4) hx hb d_M_show_238 (by decide) ?_
        refine lv_icmp_ne (tgt := 248) hx hb d_M_show_239 (by decide) (fun _ => ?_) (fun h => absurd h (by decide))
        refine lv_iload_n hx hb d_M_show_248 rfl (lv_at hl 5 rfl) ?_
        refine lv_bipush (v := 6) hx hb d_M_show_249 (by decide) ?_
        refine lv_icmp_ne (tgt := 271) hx hb d_M_show_251 (by decide) (fun _ => ?_) (fun h => absurd h (by decide))
        refine lv_iload_n hx hb d_M_show_271 rfl (lv_at hl 5 rfl) ?_
        refine lv_bipush (v := 7) hx hb d_M_show_272 (by decide) ?_
        refine lv_icmp_ne (tgt := 324) hx hb d_M_show_274 (by decide) (fun _ => ?_) (fun h => absurd h (by decide))
        refine lv_iload_n hx hb d_M_show_324 rfl (lv_at hl 5 rfl) ?_
        refine lv_bipush (v := 8) hx hb d_M_show_325 (by decide) ?_
        refine lv_icmp_ne (tgt := 380) hx hb d_M_show_327 (by decide) (fun _ => ?_) (fun h => absurd h (by decide))
        refine lv_aload_n hx hb d_M_show_380 rfl (lv_at hl 7 rfl) ?_
        refine lv_iload hx hb d_M_show_381 (lv_at hl 0 rfl) ?_
        have gn := (tp_dl10 (xv := ((xw >>> (20 &&& 31 : Int32)) &&& 63))).1
        refine tp_cv (tp_rV (As := [.int ((xw >>> (20 &&& 31 : Int32)) &&& 63)]) (rest := []) ⟨hx, hb, hml, hown, htg⟩ (a_M_writeNumber l E ((m_forms, .inl (tp_ty E 0, 46, .inl f_forms)) :: (m_names, .inl (tp_ty E 1, 46, .inr (.inl f_names))) :: fr) _ aM m_names m_forms m_text m_word m_count m_formOf m_codeOf m_dOf m_sOf m_tOf m_valueOf m_labelOf m_nameOf m_target m_place m_far m_image m_out 0 m_size m_bad m_at m_length m_form m_code m_d m_s m_t m_imageSize m_farCount wq3 m_value m_label m_name oq3 ((xw >>> (20 &&& 31 : Int32)) &&& 63) (by omega)) (⟨callB_of 1 htg (tp_good0 kc_M_writeNumber) rfl rfl rfl (htg _ ki_M) (htg _ kl_M_419) ⟨by decide, by decide, by decide +kernel⟩ ⟨Nat.le_of_ble_eq_true rfl, Nat.le_of_ble_eq_true rfl⟩, htg _ km_M_writeNumber, htg _ kp_M_writeNumber⟩) (va_recv (ci := 4) (q0 := 0) hK.1 hP rfl rfl) hK hP hD hS hA rfl hl.1 rfl (Nat.le_of_ble_eq_true rfl) d_M_show_383 ⟨Nat.le_of_ble_eq_true rfl, Nat.le_of_ble_eq_true rfl⟩) hD hS hA (fun u H locs hw hP hD hS => ?_)
        obtain ⟨wq4, oq4⟩ := u
        have hwq4 : wq4.toInt = wq3.toInt + (tp_dl ((xw >>> (20 &&& 31 : Int32)) &&& 63) : Int) := hw
        have hP : va_P (tp_D E) tp_cl ((aM, .inr (4, [.int 0, .ref m_names, .ref m_forms, .int m_size, .ref m_text, .int m_bad, .int m_at, .int m_length, .ref m_word, .int m_form, .int m_code, .int m_d, .int m_s, .int m_t, .long m_value, .long m_label, .long m_name, .ref m_count, .ref m_formOf, .ref m_codeOf, .ref m_dOf, .ref m_sOf, .ref m_tOf, .ref m_valueOf, .ref m_labelOf, .ref m_nameOf, .ref m_target, .ref m_place, .ref m_far, .int m_imageSize, .int m_farCount, .ref m_image, .int wq4, .ref m_out])) :: (m_out, .inl (tp_ty E 0, 40, .inl oq4)) :: (m_forms, .inl (tp_ty E 0, 46, .inl f_forms)) :: (m_names, .inl (tp_ty E 1, 46, .inr (.inl f_names))) :: fr) H := hP
        have hD : va_D A ((aM, .inr (4, [.int 0, .ref m_names, .ref m_forms, .int m_size, .ref m_text, .int m_bad, .int m_at, .int m_length, .ref m_word, .int m_form, .int m_code, .int m_d, .int m_s, .int m_t, .long m_value, .long m_label, .long m_name, .ref m_count, .ref m_formOf, .ref m_codeOf, .ref m_dOf, .ref m_sOf, .ref m_tOf, .ref m_valueOf, .ref m_labelOf, .ref m_nameOf, .ref m_target, .ref m_place, .ref m_far, .int m_imageSize, .int m_farCount, .ref m_image, .int wq4, .ref m_out])) :: (m_out, .inl (tp_ty E 0, 40, .inl oq4)) :: (m_forms, .inl (tp_ty E 0, 46, .inl f_forms)) :: (m_names, .inl (tp_ty E 1, 46, .inr (.inl f_names))) :: fr) := hD
        refine lv_iload_n hx hb d_M_show_386 rfl (lv_at hl 5 rfl) ?_
        refine lv_iconst (v := 5) hx hb d_M_show_387 (by decide) ?_
        refine lv_icmp_eq (tgt := 397) hx hb d_M_show_388 (by decide) (fun h => absurd h (by decide)) (fun _ => ?_)
        refine lv_iload_n hx hb d_M_show_391 rfl (lv_at hl 5 rfl) ?_
        refine lv_bipush (v := 6) hx hb d_M_show_392 (by decide) ?_
        refine lv_icmp_ne (tgt := 411) hx hb d_M_show_394 (by decide) (fun _ => ?_) (fun h => absurd h (by decide))
        refine lv_aload_n hx hb d_M_show_411 rfl (lv_at hl 7 rfl) ?_
        refine va_get (D := tp_D E) (ci := 4) (v := .int wq4) (C := qR_M) (T := qF_M) (N := 34) hx hb htg qi_M hown hK.1 hP 0 rfl rfl 32 (by decide) (htg _ kl_M_411) (fun _ h => h) rfl d_M_show_412 ?_
        have hP : va_P (tp_D E) tp_cl ((m_out, .inl (tp_ty E 0, 40, .inl oq4)) :: (aM, .inr (4, [.int 0, .ref m_names, .ref m_forms, .int m_size, .ref m_text, .int m_bad, .int m_at, .int m_length, .ref m_word, .int m_form, .int m_code, .int m_d, .int m_s, .int m_t, .long m_value, .long m_label, .long m_name, .ref m_count, .ref m_formOf, .ref m_codeOf, .ref m_dOf, .ref m_sOf, .ref m_tOf, .ref m_valueOf, .ref m_labelOf, .ref m_nameOf, .ref m_target, .ref m_place, .ref m_far, .int m_imageSize, .int m_farCount, .ref m_image, .int wq4, .ref m_out])) :: (m_forms, .inl (tp_ty E 0, 46, .inl f_forms)) :: (m_names, .inl (tp_ty E 1, 46, .inr (.inl f_names))) :: fr) _ := tp_mvP 1 rfl hP
        have hD : va_D A ((m_out, .inl (tp_ty E 0, 40, .inl oq4)) :: (aM, .inr (4, [.int 0, .ref m_names, .ref m_forms, .int m_size, .ref m_text, .int m_bad, .int m_at, .int m_length, .ref m_word, .int m_form, .int m_code, .int m_d, .int m_s, .int m_t, .long m_value, .long m_label, .long m_name, .ref m_count, .ref m_formOf, .ref m_codeOf, .ref m_dOf, .ref m_sOf, .ref m_tOf, .ref m_valueOf, .ref m_labelOf, .ref m_nameOf, .ref m_target, .ref m_place, .ref m_far, .int m_imageSize, .int m_farCount, .ref m_image, .int wq4, .ref m_out])) :: (m_forms, .inl (tp_ty E 0, 46, .inl f_forms)) :: (m_names, .inl (tp_ty E 1, 46, .inr (.inl f_names))) :: fr) := tp_mvD 1 rfl hD
        have hP : va_P (tp_D E) tp_cl ((m_forms, .inl (tp_ty E 0, 46, .inl f_forms)) :: (m_out, .inl (tp_ty E 0, 40, .inl oq4)) :: (aM, .inr (4, [.int 0, .ref m_names, .ref m_forms, .int m_size, .ref m_text, .int m_bad, .int m_at, .int m_length, .ref m_word, .int m_form, .int m_code, .int m_d, .int m_s, .int m_t, .long m_value, .long m_label, .long m_name, .ref m_count, .ref m_formOf, .ref m_codeOf, .ref m_dOf, .ref m_sOf, .ref m_tOf, .ref m_valueOf, .ref m_labelOf, .ref m_nameOf, .ref m_target, .ref m_place, .ref m_far, .int m_imageSize, .int m_farCount, .ref m_image, .int wq4, .ref m_out])) :: (m_names, .inl (tp_ty E 1, 46, .inr (.inl f_names))) :: fr) _ := tp_mvP 2 rfl hP
        have hD : va_D A ((m_forms, .inl (tp_ty E 0, 46, .inl f_forms)) :: (m_out, .inl (tp_ty E 0, 40, .inl oq4)) :: (aM, .inr (4, [.int 0, .ref m_names, .ref m_forms, .int m_size, .ref m_text, .int m_bad, .int m_at, .int m_length, .ref m_word, .int m_form, .int m_code, .int m_d, .int m_s, .int m_t, .long m_value, .long m_label, .long m_name, .ref m_count, .ref m_formOf, .ref m_codeOf, .ref m_dOf, .ref m_sOf, .ref m_tOf, .ref m_valueOf, .ref m_labelOf, .ref m_nameOf, .ref m_target, .ref m_place, .ref m_far, .int m_imageSize, .int m_farCount, .ref m_image, .int wq4, .ref m_out])) :: (m_names, .inl (tp_ty E 1, 46, .inr (.inl f_names))) :: fr) := tp_mvD 2 rfl hD
        have hP : va_P (tp_D E) tp_cl ((m_names, .inl (tp_ty E 1, 46, .inr (.inl f_names))) :: (m_forms, .inl (tp_ty E 0, 46, .inl f_forms)) :: (m_out, .inl (tp_ty E 0, 40, .inl oq4)) :: (aM, .inr (4, [.int 0, .ref m_names, .ref m_forms, .int m_size, .ref m_text, .int m_bad, .int m_at, .int m_length, .ref m_word, .int m_form, .int m_code, .int m_d, .int m_s, .int m_t, .long m_value, .long m_label, .long m_name, .ref m_count, .ref m_formOf, .ref m_codeOf, .ref m_dOf, .ref m_sOf, .ref m_tOf, .ref m_valueOf, .ref m_labelOf, .ref m_nameOf, .ref m_target, .ref m_place, .ref m_far, .int m_imageSize, .int m_farCount, .ref m_image, .int wq4, .ref m_out])) :: fr) _ := tp_mvP 3 rfl hP
        have hD : va_D A ((m_names, .inl (tp_ty E 1, 46, .inr (.inl f_names))) :: (m_forms, .inl (tp_ty E 0, 46, .inl f_forms)) :: (m_out, .inl (tp_ty E 0, 40, .inl oq4)) :: (aM, .inr (4, [.int 0, .ref m_names, .ref m_forms, .int m_size, .ref m_text, .int m_bad, .int m_at, .int m_length, .ref m_word, .int m_form, .int m_code, .int m_d, .int m_s, .int m_t, .long m_value, .long m_label, .long m_name, .ref m_count, .ref m_formOf, .ref m_codeOf, .ref m_dOf, .ref m_sOf, .ref m_tOf, .ref m_valueOf, .ref m_labelOf, .ref m_nameOf, .ref m_target, .ref m_place, .ref m_far, .int m_imageSize, .int m_farCount, .ref m_image, .int wq4, .ref m_out])) :: fr) := tp_mvD 3 rfl hD
        have hP : va_P (tp_D E) tp_cl ((aM, .inr (4, [.int 0, .ref m_names, .ref m_forms, .int m_size, .ref m_text, .int m_bad, .int m_at, .int m_length, .ref m_word, .int m_form, .int m_code, .int m_d, .int m_s, .int m_t, .long m_value, .long m_label, .long m_name, .ref m_count, .ref m_formOf, .ref m_codeOf, .ref m_dOf, .ref m_sOf, .ref m_tOf, .ref m_valueOf, .ref m_labelOf, .ref m_nameOf, .ref m_target, .ref m_place, .ref m_far, .int m_imageSize, .int m_farCount, .ref m_image, .int wq4, .ref m_out])) :: (m_names, .inl (tp_ty E 1, 46, .inr (.inl f_names))) :: (m_forms, .inl (tp_ty E 0, 46, .inl f_forms)) :: (m_out, .inl (tp_ty E 0, 40, .inl oq4)) :: fr) _ := tp_mvP 3 rfl hP
        have hD : va_D A ((aM, .inr (4, [.int 0, .ref m_names, .ref m_forms, .int m_size, .ref m_text, .int m_bad, .int m_at, .int m_length, .ref m_word, .int m_form, .int m_code, .int m_d, .int m_s, .int m_t, .long m_value, .long m_label, .long m_name, .ref m_count, .ref m_formOf, .ref m_codeOf, .ref m_dOf, .ref m_sOf, .ref m_tOf, .ref m_valueOf, .ref m_labelOf, .ref m_nameOf, .ref m_target, .ref m_place, .ref m_far, .int m_imageSize, .int m_farCount, .ref m_image, .int wq4, .ref m_out])) :: (m_names, .inl (tp_ty E 1, 46, .inr (.inl f_names))) :: (m_forms, .inl (tp_ty E 0, 46, .inl f_forms)) :: (m_out, .inl (tp_ty E 0, 40, .inl oq4)) :: fr) := tp_mvD 3 rfl hD
        have hb40 : 0 ≤ wq4.toInt ∧ wq4.toInt ≤ 40 := by omega
        exact W.iret (v := wq4) hx hb hr (fun t ht hW => ⟨⟨_, (0, wq4, oq4), rfl, Or.inr ⟨rfl, ⟨ko, hmh, Int32.le_iff_toInt_le.mp h1, (by rw [hxf]; show _ = _ + (((2 + tp_dl ((xw >>> (7 &&& 31 : Int32)) &&& 31)) + (2 + tp_dl ((xw >>> (15 &&& 31 : Int32)) &&& 31)) + 1 + tp_dl ((xw >>> (20 &&& 31 : Int32)) &&& 63) : Nat) : Int); omega)⟩, rfl, hb40⟩, by rw [ht]; exact hP, hD⟩, hS.F ht⟩) hS.2.2 d_M_show_415
      · refine lv_istore_n (lv' := [(3, .int 4), (2, .int ko), (0, .ref aM), (1, .int xw)]) hx hb d_M_show_85 rfl hl (by decide) rfl (fun ls hl => ?_)
        refine lv_iload_n hx hb d_M_show_86 rfl (lv_at hl 3 rfl) ?_
        refine lv_bipush (v := 7) hx hb d_M_show_87 (by decide) ?_
        refine lv_ishr hx hb d_M_show_89 ?_
        refine lv_bipush (v := 31) hx hb d_M_show_90 (by decide) ?_
        refine lv_iand hx hb d_M_show_92 ?_
        refine lv_istore (lv' := [(4, .int ((xw >>> (7 &&& 31 : Int32)) &&& 31)), (3, .int 4), (2, .int ko), (0, .ref aM), (1, .int xw)]) hx hb d_M_show_93 hl (by decide) rfl (fun ls hl => ?_)
        refine lv_iload_n hx hb d_M_show_95 rfl (lv_at hl 4 rfl) ?_
        refine lv_bipush (v := 15) hx hb d_M_show_96 (by decide) ?_
        refine lv_ishr hx hb d_M_show_98 ?_
        refine lv_bipush (v := 31) hx hb d_M_show_99 (by decide) ?_
        refine lv_iand hx hb d_M_show_101 ?_
        refine lv_istore (lv' := [(5, .int ((xw >>> (15 &&& 31 : Int32)) &&& 31)), (4, .int ((xw >>> (7 &&& 31 : Int32)) &&& 31)), (3, .int 4), (2, .int ko), (0, .ref aM), (1, .int xw)]) hx hb d_M_show_102 hl (by decide) rfl (fun ls hl => ?_)
        refine lv_iload_n hx hb d_M_show_104 rfl (lv_at hl 5 rfl) ?_
        refine lv_bipush (v := 20) hx hb d_M_show_105 (by decide) ?_
        refine lv_ishr hx hb d_M_show_107 ?_
        refine lv_bipush (v := 31) hx hb d_M_show_108 (by decide) ?_
        refine lv_iand hx hb d_M_show_110 ?_
        refine lv_istore (lv' := [(6, .int ((xw >>> (20 &&& 31 : Int32)) &&& 31)), (5, .int ((xw >>> (15 &&& 31 : Int32)) &&& 31)), (4, .int ((xw >>> (7 &&& 31 : Int32)) &&& 31)), (3, .int 4), (2, .int ko), (0, .ref aM), (1, .int xw)]) hx hb d_M_show_111 hl (by decide) rfl (fun ls hl => ?_)
        refine lv_iload_n hx hb d_M_show_113 rfl (lv_at hl 3 rfl) ?_
        refine lv_bipush (v := 6) hx hb d_M_show_114 (by decide) ?_
        refine lv_icmp_eq (tgt := 129) hx hb d_M_show_116 (by decide) (fun h => absurd h (by decide)) (fun _ => ?_)
        refine lv_iload_n hx hb d_M_show_119 rfl (lv_at hl 3 rfl) ?_
        refine lv_bipush (v := 7) hx hb d_M_show_120 (by decide) ?_
        refine lv_icmp_eq (tgt := 129) hx hb d_M_show_122 (by decide) (fun h => absurd h (by decide)) (fun _ => ?_)
        refine lv_iconst (v := 1) hx hb d_M_show_125 (by decide) ?_
        refine lv_goto (tgt := 130) hx hb d_M_show_126 (by decide) ?_
        refine lv_istore (lv' := [(7, .int 1), (6, .int ((xw >>> (20 &&& 31 : Int32)) &&& 31)), (5, .int ((xw >>> (15 &&& 31 : Int32)) &&& 31)), (4, .int ((xw >>> (7 &&& 31 : Int32)) &&& 31)), (3, .int 4), (2, .int ko), (0, .ref aM), (1, .int xw)]) hx hb d_M_show_130 hl (by decide) rfl (fun ls hl => ?_)
        refine lv_aload_n hx hb d_M_show_132 rfl (lv_at hl 6 rfl) ?_
        refine lv_bipush (v := 32) hx hb d_M_show_133 (by decide) ?_
        refine lv_iload hx hb d_M_show_135 (lv_at hl 0 rfl) ?_
        refine lv_if_eq (tgt := 145) hx hb d_M_show_137 (by decide) (fun h => absurd h (by decide)) (fun _ => ?_)
        refine lv_iload hx hb d_M_show_140 (lv_at hl 3 rfl) ?_
        refine lv_goto (tgt := 158) hx hb d_M_show_142 (by decide) ?_
        have hP : va_P (tp_D E) tp_cl ((m_out, .inl (tp_ty E 0, 40, .inl fo)) :: (aM, .inr (4, [.int 0, .ref m_names, .ref m_forms, .int m_size, .ref m_text, .int m_bad, .int m_at, .int m_length, .ref m_word, .int m_form, .int m_code, .int m_d, .int m_s, .int m_t, .long m_value, .long m_label, .long m_name, .ref m_count, .ref m_formOf, .ref m_codeOf, .ref m_dOf, .ref m_sOf, .ref m_tOf, .ref m_valueOf, .ref m_labelOf, .ref m_nameOf, .ref m_target, .ref m_place, .ref m_far, .int m_imageSize, .int m_farCount, .ref m_image, .int wv, .ref m_out])) :: (m_forms, .inl (tp_ty E 0, 46, .inl f_forms)) :: (m_names, .inl (tp_ty E 1, 46, .inr (.inl f_names))) :: fr) _ := tp_mvP 3 rfl hP
        have hD : va_D A ((m_out, .inl (tp_ty E 0, 40, .inl fo)) :: (aM, .inr (4, [.int 0, .ref m_names, .ref m_forms, .int m_size, .ref m_text, .int m_bad, .int m_at, .int m_length, .ref m_word, .int m_form, .int m_code, .int m_d, .int m_s, .int m_t, .long m_value, .long m_label, .long m_name, .ref m_count, .ref m_formOf, .ref m_codeOf, .ref m_dOf, .ref m_sOf, .ref m_tOf, .ref m_valueOf, .ref m_labelOf, .ref m_nameOf, .ref m_target, .ref m_place, .ref m_far, .int m_imageSize, .int m_farCount, .ref m_image, .int wv, .ref m_out])) :: (m_forms, .inl (tp_ty E 0, 46, .inl f_forms)) :: (m_names, .inl (tp_ty E 1, 46, .inr (.inl f_names))) :: fr) := tp_mvD 3 rfl hD
        have hP : va_P (tp_D E) tp_cl ((aM, .inr (4, [.int 0, .ref m_names, .ref m_forms, .int m_size, .ref m_text, .int m_bad, .int m_at, .int m_length, .ref m_word, .int m_form, .int m_code, .int m_d, .int m_s, .int m_t, .long m_value, .long m_label, .long m_name, .ref m_count, .ref m_formOf, .ref m_codeOf, .ref m_dOf, .ref m_sOf, .ref m_tOf, .ref m_valueOf, .ref m_labelOf, .ref m_nameOf, .ref m_target, .ref m_place, .ref m_far, .int m_imageSize, .int m_farCount, .ref m_image, .int wv, .ref m_out])) :: (m_out, .inl (tp_ty E 0, 40, .inl fo)) :: (m_forms, .inl (tp_ty E 0, 46, .inl f_forms)) :: (m_names, .inl (tp_ty E 1, 46, .inr (.inl f_names))) :: fr) _ := tp_mvP 1 rfl hP
        have hD : va_D A ((aM, .inr (4, [.int 0, .ref m_names, .ref m_forms, .int m_size, .ref m_text, .int m_bad, .int m_at, .int m_length, .ref m_word, .int m_form, .int m_code, .int m_d, .int m_s, .int m_t, .long m_value, .long m_label, .long m_name, .ref m_count, .ref m_formOf, .ref m_codeOf, .ref m_dOf, .ref m_sOf, .ref m_tOf, .ref m_valueOf, .ref m_labelOf, .ref m_nameOf, .ref m_target, .ref m_place, .ref m_far, .int m_imageSize, .int m_farCount, .ref m_image, .int wv, .ref m_out])) :: (m_out, .inl (tp_ty E 0, 40, .inl fo)) :: (m_forms, .inl (tp_ty E 0, 46, .inl f_forms)) :: (m_names, .inl (tp_ty E 1, 46, .inr (.inl f_names))) :: fr) := tp_mvD 1 rfl hD
        refine tp_cv (tp_rV (As := [.int 32, .int ((xw >>> (7 &&& 31 : Int32)) &&& 31)]) (rest := []) ⟨hx, hb, hml, hown, htg⟩ (a_M_writeRegister l E ((m_forms, .inl (tp_ty E 0, 46, .inl f_forms)) :: (m_names, .inl (tp_ty E 1, 46, .inr (.inl f_names))) :: fr) _ aM m_names m_forms m_text m_word m_count m_formOf m_codeOf m_dOf m_sOf m_tOf m_valueOf m_labelOf m_nameOf m_target m_place m_far m_image m_out 0 m_size m_bad m_at m_length m_form m_code m_d m_s m_t m_imageSize m_farCount wv m_value m_label m_name fo 32 ((xw >>> (7 &&& 31 : Int32)) &&& 31) (by omega)) (⟨callB_of 2 htg (tp_good0 kc_M_writeRegister) rfl rfl rfl (htg _ ki_M) (htg _ kl_M_425) ⟨by decide, by decide, by decide +kernel⟩ ⟨Nat.le_of_ble_eq_true rfl, Nat.le_of_ble_eq_true rfl⟩, htg _ km_M_writeRegister, htg _ kp_M_writeRegister⟩) (va_recv (ci := 4) (q0 := 0) hK.1 hP rfl rfl) hK hP hD hS hA rfl hl.1 rfl (Nat.le_of_ble_eq_true rfl) d_M_show_158 ⟨Nat.le_of_ble_eq_true rfl, Nat.le_of_ble_eq_true rfl⟩) hD hS hA (fun u H locs hw hP hD hS => ?_)
        obtain ⟨wq1, oq1⟩ := u
        have hwq1 : wq1.toInt = wv.toInt + 2 + (tp_dl ((xw >>> (7 &&& 31 : Int32)) &&& 31) : Int) := hw
        have hP : va_P (tp_D E) tp_cl ((aM, .inr (4, [.int 0, .ref m_names, .ref m_forms, .int m_size, .ref m_text, .int m_bad, .int m_at, .int m_length, .ref m_word, .int m_form, .int m_code, .int m_d, .int m_s, .int m_t, .long m_value, .long m_label, .long m_name, .ref m_count, .ref m_formOf, .ref m_codeOf, .ref m_dOf, .ref m_sOf, .ref m_tOf, .ref m_valueOf, .ref m_labelOf, .ref m_nameOf, .ref m_target, .ref m_place, .ref m_far, .int m_imageSize, .int m_farCount, .ref m_image, .int wq1, .ref m_out])) :: (m_out, .inl (tp_ty E 0, 40, .inl oq1)) :: (m_forms, .inl (tp_ty E 0, 46, .inl f_forms)) :: (m_names, .inl (tp_ty E 1, 46, .inr (.inl f_names))) :: fr) H := hP
        have hD : va_D A ((aM, .inr (4, [.int 0, .ref m_names, .ref m_forms, .int m_size, .ref m_text, .int m_bad, .int m_at, .int m_length, .ref m_word, .int m_form, .int m_code, .int m_d, .int m_s, .int m_t, .long m_value, .long m_label, .long m_name, .ref m_count, .ref m_formOf, .ref m_codeOf, .ref m_dOf, .ref m_sOf, .ref m_tOf, .ref m_valueOf, .ref m_labelOf, .ref m_nameOf, .ref m_target, .ref m_place, .ref m_far, .int m_imageSize, .int m_farCount, .ref m_image, .int wq1, .ref m_out])) :: (m_out, .inl (tp_ty E 0, 40, .inl oq1)) :: (m_forms, .inl (tp_ty E 0, 46, .inl f_forms)) :: (m_names, .inl (tp_ty E 1, 46, .inr (.inl f_names))) :: fr) := hD
        refine lv_iload_n hx hb d_M_show_161 rfl (lv_at hl 4 rfl) ?_
        refine lv_iconst (v := 4) hx hb d_M_show_162 (by decide) ?_
        refine lv_icmp_ge (tgt := 174) hx hb d_M_show_163 (by decide) (fun _ => ?_) (fun h => absurd (by decide) h)
        refine lv_iload_n hx hb d_M_show_174 rfl (lv_at hl 4 rfl) ?_
        refine lv_bipush (v := 7) hx hb d_M_show_175 (by decide) ?_
        refine lv_icmp_ne (tgt := 188) hx hb d_M_show_177 (by decide) (fun _ => ?_) (fun h => absurd h (by decide))
        refine lv_iload_n hx hb d_M_show_188 rfl (lv_at hl 4 rfl) ?_
        refine lv_iconst (v := 1) hx hb d_M_show_189 (by decide) ?_
        refine lv_icmp_ne (tgt := 206) hx hb d_M_show_190 (by decide) (fun _ => ?_) (fun h => absurd h (by decide))
        refine lv_aload_n hx hb d_M_show_206 rfl (lv_at hl 6 rfl) ?_
        refine lv_bipush (v := 44) hx hb d_M_show_207 (by decide) ?_
        refine tp_cv (tp_rV (As := [.int 44]) (rest := []) ⟨hx, hb, hml, hown, htg⟩ (a_M_write l E ((m_forms, .inl (tp_ty E 0, 46, .inl f_forms)) :: (m_names, .inl (tp_ty E 1, 46, .inr (.inl f_names))) :: fr) _ aM m_names m_forms m_text m_word m_count m_formOf m_codeOf m_dOf m_sOf m_tOf m_valueOf m_labelOf m_nameOf m_target m_place m_far m_image m_out 0 m_size m_bad m_at m_length m_form m_code m_d m_s m_t m_imageSize m_farCount wq1 m_value m_label m_name oq1 44 (by omega)) (⟨callB_of 1 htg (tp_good0 kc_M_write) rfl rfl rfl (htg _ ki_M) (htg _ kl_M_414) ⟨by decide, by decide, by decide +kernel⟩ ⟨Nat.le_of_ble_eq_true rfl, Nat.le_of_ble_eq_true rfl⟩, htg _ km_M_write, htg _ kp_M_write⟩) (va_recv (ci := 4) (q0 := 0) hK.1 hP rfl rfl) hK hP hD hS hA rfl hl.1 rfl (Nat.le_of_ble_eq_true rfl) d_M_show_209 ⟨Nat.le_of_ble_eq_true rfl, Nat.le_of_ble_eq_true rfl⟩) hD hS hA (fun u H locs hw hP hD hS => ?_)
        obtain ⟨wq2, oq2⟩ := u
        have hwq2 : wq2.toInt = wq1.toInt + 1 := hw
        have hP : va_P (tp_D E) tp_cl ((aM, .inr (4, [.int 0, .ref m_names, .ref m_forms, .int m_size, .ref m_text, .int m_bad, .int m_at, .int m_length, .ref m_word, .int m_form, .int m_code, .int m_d, .int m_s, .int m_t, .long m_value, .long m_label, .long m_name, .ref m_count, .ref m_formOf, .ref m_codeOf, .ref m_dOf, .ref m_sOf, .ref m_tOf, .ref m_valueOf, .ref m_labelOf, .ref m_nameOf, .ref m_target, .ref m_place, .ref m_far, .int m_imageSize, .int m_farCount, .ref m_image, .int wq2, .ref m_out])) :: (m_out, .inl (tp_ty E 0, 40, .inl oq2)) :: (m_forms, .inl (tp_ty E 0, 46, .inl f_forms)) :: (m_names, .inl (tp_ty E 1, 46, .inr (.inl f_names))) :: fr) H := hP
        have hD : va_D A ((aM, .inr (4, [.int 0, .ref m_names, .ref m_forms, .int m_size, .ref m_text, .int m_bad, .int m_at, .int m_length, .ref m_word, .int m_form, .int m_code, .int m_d, .int m_s, .int m_t, .long m_value, .long m_label, .long m_name, .ref m_count, .ref m_formOf, .ref m_codeOf, .ref m_dOf, .ref m_sOf, .ref m_tOf, .ref m_valueOf, .ref m_labelOf, .ref m_nameOf, .ref m_target, .ref m_place, .ref m_far, .int m_imageSize, .int m_farCount, .ref m_image, .int wq2, .ref m_out])) :: (m_out, .inl (tp_ty E 0, 40, .inl oq2)) :: (m_forms, .inl (tp_ty E 0, 46, .inl f_forms)) :: (m_names, .inl (tp_ty E 1, 46, .inr (.inl f_names))) :: fr) := hD
        refine lv_iload_n hx hb d_M_show_212 rfl (lv_at hl 7 rfl) ?_
        refine lv_bipush (v := 20) hx hb d_M_show_213 (by decide) ?_
        refine lv_iushr (v := (xw.toUInt32 >>> (Int32.toUInt32 20 &&& Int32.toUInt32 31)).toInt32) hx hb d_M_show_215 rfl ?_
        refine lv_bipush (v := 12) hx hb d_M_show_216 (by decide) ?_
        refine tp_ci (tp_rS (As := [.int ((xw.toUInt32 >>> (Int32.toUInt32 20 &&& Int32.toUInt32 31)).toInt32), .int 12]) (rest := []) ⟨hx, hb, hml, hown, htg⟩ (a_M_signed12 l E ((aM, .inr (4, [.int 0, .ref m_names, .ref m_forms, .int m_size, .ref m_text, .int m_bad, .int m_at, .int m_length, .ref m_word, .int m_form, .int m_code, .int m_d, .int m_s, .int m_t, .long m_value, .long m_label, .long m_name, .ref m_count, .ref m_formOf, .ref m_codeOf, .ref m_dOf, .ref m_sOf, .ref m_tOf, .ref m_valueOf, .ref m_labelOf, .ref m_nameOf, .ref m_target, .ref m_place, .ref m_far, .int m_imageSize, .int m_farCount, .ref m_image, .int wq2, .ref m_out])) :: (m_out, .inl (tp_ty E 0, 40, .inl oq2)) :: (m_forms, .inl (tp_ty E 0, 46, .inl f_forms)) :: (m_names, .inl (tp_ty E 1, 46, .inr (.inl f_names))) :: fr) _ ((xw.toUInt32 >>> (Int32.toUInt32 20 &&& Int32.toUInt32 31)).toInt32) ) (⟨callB_of 2 htg (tp_good0 kc_M_signed) rfl rfl rfl (htg _ ki_M) (htg _ kl_M_428) ⟨by decide, by decide, by decide +kernel⟩ ⟨Nat.le_of_ble_eq_true rfl, Nat.le_of_ble_eq_true rfl⟩, htg _ ks_M_signed⟩) hK hP hD hS hA rfl hl.1 rfl (Nat.le_of_ble_eq_true rfl) d_M_show_218 ⟨Nat.le_of_ble_eq_true rfl, Nat.le_of_ble_eq_true rfl⟩) hD hS hA (fun r u H locs hw hP hD hS => ?_)
        subst r
        have hP : va_P (tp_D E) tp_cl ((aM, .inr (4, [.int 0, .ref m_names, .ref m_forms, .int m_size, .ref m_text, .int m_bad, .int m_at, .int m_length, .ref m_word, .int m_form, .int m_code, .int m_d, .int m_s, .int m_t, .long m_value, .long m_label, .long m_name, .ref m_count, .ref m_formOf, .ref m_codeOf, .ref m_dOf, .ref m_sOf, .ref m_tOf, .ref m_valueOf, .ref m_labelOf, .ref m_nameOf, .ref m_target, .ref m_place, .ref m_far, .int m_imageSize, .int m_farCount, .ref m_image, .int wq2, .ref m_out])) :: (m_out, .inl (tp_ty E 0, 40, .inl oq2)) :: (m_forms, .inl (tp_ty E 0, 46, .inl f_forms)) :: (m_names, .inl (tp_ty E 1, 46, .inr (.inl f_names))) :: fr) H := hP
        have hD : va_D A ((aM, .inr (4, [.int 0, .ref m_names, .ref m_forms, .int m_size, .ref m_text, .int m_bad, .int m_at, .int m_length, .ref m_word, .int m_form, .int m_code, .int m_d, .int m_s, .int m_t, .long m_value, .long m_label, .long m_name, .ref m_count, .ref m_formOf, .ref m_codeOf, .ref m_dOf, .ref m_sOf, .ref m_tOf, .ref m_valueOf, .ref m_labelOf, .ref m_nameOf, .ref m_target, .ref m_place, .ref m_far, .int m_imageSize, .int m_farCount, .ref m_image, .int wq2, .ref m_out])) :: (m_out, .inl (tp_ty E 0, 40, .inl oq2)) :: (m_forms, .inl (tp_ty E 0, 46, .inl f_forms)) :: (m_names, .inl (tp_ty E 1, 46, .inr (.inl f_names))) :: fr) := hD
        refine lv_istore (lv' := [(8, .int (if (xw.toUInt32 >>> (Int32.toUInt32 20 &&& Int32.toUInt32 31)).toInt32 < 2048 then (xw.toUInt32 >>> (Int32.toUInt32 20 &&& Int32.toUInt32 31)).toInt32 else (xw.toUInt32 >>> (Int32.toUInt32 20 &&& Int32.toUInt32 31)).toInt32 - 4096)), (7, .int 1), (6, .int ((xw >>> (20 &&& 31 : Int32)) &&& 31)), (5, .int ((xw >>> (15 &&& 31 : Int32)) &&& 31)), (4, .int ((xw >>> (7 &&& 31 : Int32)) &&& 31)), (3, .int 4), (2, .int ko), (0, .ref aM), (1, .int xw)]) hx hb d_M_show_221 hl (by decide) rfl (fun ls hl => ?_)
        refine lv_iload_n hx hb d_M_show_223 rfl (lv_at hl 5 rfl) ?_
        refine lv_iconst (v := 3) hx hb d_M_show_224 (by decide) ?_
        refine lv_icmp_ne (tgt := 237) hx hb d_M_show_225 (by decide) (fun _ => ?_) (fun h => absurd h (by decide))
        refine lv_iload_n hx hb d_M_show_237 rfl (lv_at hl 5 rfl) ?_
        refine lv_iconst (v := 4) hx hb d_M_show_238 (by decide) ?_
        refine lv_icmp_ne (tgt := 248) hx hb d_M_show_239 (by decide) (fun h => absurd (by decide) h) (fun _ => ?_)
        refine lv_iload_n hx hb d_M_show_242 rfl (lv_at hl 8 rfl) ?_
        refine lv_bipush (v := 12) hx hb d_M_show_243 (by decide) ?_
        refine lv_iushr (v := (xw.toUInt32 >>> (Int32.toUInt32 12 &&& Int32.toUInt32 31)).toInt32) hx hb d_M_show_245 rfl ?_
        refine lv_istore (lv' := [(8, .int ((xw.toUInt32 >>> (Int32.toUInt32 12 &&& Int32.toUInt32 31)).toInt32)), (7, .int 1), (6, .int ((xw >>> (20 &&& 31 : Int32)) &&& 31)), (5, .int ((xw >>> (15 &&& 31 : Int32)) &&& 31)), (4, .int ((xw >>> (7 &&& 31 : Int32)) &&& 31)), (3, .int 4), (2, .int ko), (0, .ref aM), (1, .int xw)]) hx hb d_M_show_246 hl (by decide) rfl (fun ls hl => ?_)
        refine lv_iload_n hx hb d_M_show_248 rfl (lv_at hl 5 rfl) ?_
        refine lv_bipush (v := 6) hx hb d_M_show_249 (by decide) ?_
        refine lv_icmp_ne (tgt := 271) hx hb d_M_show_251 (by decide) (fun _ => ?_) (fun h => absurd h (by decide))
        refine lv_iload_n hx hb d_M_show_271 rfl (lv_at hl 5 rfl) ?_
        refine lv_bipush (v := 7) hx hb d_M_show_272 (by decide) ?_
        refine lv_icmp_ne (tgt := 324) hx hb d_M_show_274 (by decide) (fun _ => ?_) (fun h => absurd h (by decide))
        refine lv_iload_n hx hb d_M_show_324 rfl (lv_at hl 5 rfl) ?_
        refine lv_bipush (v := 8) hx hb d_M_show_325 (by decide) ?_
        refine lv_icmp_ne (tgt := 380) hx hb d_M_show_327 (by decide) (fun _ => ?_) (fun h => absurd h (by decide))
        refine lv_aload_n hx hb d_M_show_380 rfl (lv_at hl 7 rfl) ?_
        refine lv_iload hx hb d_M_show_381 (lv_at hl 0 rfl) ?_
        have gn := (tp_dl10 (xv := (xw.toUInt32 >>> (Int32.toUInt32 12 &&& Int32.toUInt32 31)).toInt32)).1
        refine tp_cv (tp_rV (As := [.int ((xw.toUInt32 >>> (Int32.toUInt32 12 &&& Int32.toUInt32 31)).toInt32)]) (rest := []) ⟨hx, hb, hml, hown, htg⟩ (a_M_writeNumber l E ((m_forms, .inl (tp_ty E 0, 46, .inl f_forms)) :: (m_names, .inl (tp_ty E 1, 46, .inr (.inl f_names))) :: fr) _ aM m_names m_forms m_text m_word m_count m_formOf m_codeOf m_dOf m_sOf m_tOf m_valueOf m_labelOf m_nameOf m_target m_place m_far m_image m_out 0 m_size m_bad m_at m_length m_form m_code m_d m_s m_t m_imageSize m_farCount wq2 m_value m_label m_name oq2 ((xw.toUInt32 >>> (Int32.toUInt32 12 &&& Int32.toUInt32 31)).toInt32) (by omega)) (⟨callB_of 1 htg (tp_good0 kc_M_writeNumber) rfl rfl rfl (htg _ ki_M) (htg _ kl_M_419) ⟨by decide, by decide, by decide +kernel⟩ ⟨Nat.le_of_ble_eq_true rfl, Nat.le_of_ble_eq_true rfl⟩, htg _ km_M_writeNumber, htg _ kp_M_writeNumber⟩) (va_recv (ci := 4) (q0 := 0) hK.1 hP rfl rfl) hK hP hD hS hA rfl hl.1 rfl (Nat.le_of_ble_eq_true rfl) d_M_show_383 ⟨Nat.le_of_ble_eq_true rfl, Nat.le_of_ble_eq_true rfl⟩) hD hS hA (fun u H locs hw hP hD hS => ?_)
        obtain ⟨wq3, oq3⟩ := u
        have hwq3 : wq3.toInt = wq2.toInt + (tp_dl ((xw.toUInt32 >>> (Int32.toUInt32 12 &&& Int32.toUInt32 31)).toInt32) : Int) := hw
        have hP : va_P (tp_D E) tp_cl ((aM, .inr (4, [.int 0, .ref m_names, .ref m_forms, .int m_size, .ref m_text, .int m_bad, .int m_at, .int m_length, .ref m_word, .int m_form, .int m_code, .int m_d, .int m_s, .int m_t, .long m_value, .long m_label, .long m_name, .ref m_count, .ref m_formOf, .ref m_codeOf, .ref m_dOf, .ref m_sOf, .ref m_tOf, .ref m_valueOf, .ref m_labelOf, .ref m_nameOf, .ref m_target, .ref m_place, .ref m_far, .int m_imageSize, .int m_farCount, .ref m_image, .int wq3, .ref m_out])) :: (m_out, .inl (tp_ty E 0, 40, .inl oq3)) :: (m_forms, .inl (tp_ty E 0, 46, .inl f_forms)) :: (m_names, .inl (tp_ty E 1, 46, .inr (.inl f_names))) :: fr) H := hP
        have hD : va_D A ((aM, .inr (4, [.int 0, .ref m_names, .ref m_forms, .int m_size, .ref m_text, .int m_bad, .int m_at, .int m_length, .ref m_word, .int m_form, .int m_code, .int m_d, .int m_s, .int m_t, .long m_value, .long m_label, .long m_name, .ref m_count, .ref m_formOf, .ref m_codeOf, .ref m_dOf, .ref m_sOf, .ref m_tOf, .ref m_valueOf, .ref m_labelOf, .ref m_nameOf, .ref m_target, .ref m_place, .ref m_far, .int m_imageSize, .int m_farCount, .ref m_image, .int wq3, .ref m_out])) :: (m_out, .inl (tp_ty E 0, 40, .inl oq3)) :: (m_forms, .inl (tp_ty E 0, 46, .inl f_forms)) :: (m_names, .inl (tp_ty E 1, 46, .inr (.inl f_names))) :: fr) := hD
        refine lv_iload_n hx hb d_M_show_386 rfl (lv_at hl 5 rfl) ?_
        refine lv_iconst (v := 5) hx hb d_M_show_387 (by decide) ?_
        refine lv_icmp_eq (tgt := 397) hx hb d_M_show_388 (by decide) (fun h => absurd h (by decide)) (fun _ => ?_)
        refine lv_iload_n hx hb d_M_show_391 rfl (lv_at hl 5 rfl) ?_
        refine lv_bipush (v := 6) hx hb d_M_show_392 (by decide) ?_
        refine lv_icmp_ne (tgt := 411) hx hb d_M_show_394 (by decide) (fun _ => ?_) (fun h => absurd h (by decide))
        refine lv_aload_n hx hb d_M_show_411 rfl (lv_at hl 7 rfl) ?_
        refine va_get (D := tp_D E) (ci := 4) (v := .int wq3) (C := qR_M) (T := qF_M) (N := 34) hx hb htg qi_M hown hK.1 hP 0 rfl rfl 32 (by decide) (htg _ kl_M_411) (fun _ h => h) rfl d_M_show_412 ?_
        have hP : va_P (tp_D E) tp_cl ((m_out, .inl (tp_ty E 0, 40, .inl oq3)) :: (aM, .inr (4, [.int 0, .ref m_names, .ref m_forms, .int m_size, .ref m_text, .int m_bad, .int m_at, .int m_length, .ref m_word, .int m_form, .int m_code, .int m_d, .int m_s, .int m_t, .long m_value, .long m_label, .long m_name, .ref m_count, .ref m_formOf, .ref m_codeOf, .ref m_dOf, .ref m_sOf, .ref m_tOf, .ref m_valueOf, .ref m_labelOf, .ref m_nameOf, .ref m_target, .ref m_place, .ref m_far, .int m_imageSize, .int m_farCount, .ref m_image, .int wq3, .ref m_out])) :: (m_forms, .inl (tp_ty E 0, 46, .inl f_forms)) :: (m_names, .inl (tp_ty E 1, 46, .inr (.inl f_names))) :: fr) _ := tp_mvP 1 rfl hP
        have hD : va_D A ((m_out, .inl (tp_ty E 0, 40, .inl oq3)) :: (aM, .inr (4, [.int 0, .ref m_names, .ref m_forms, .int m_size, .ref m_text, .int m_bad, .int m_at, .int m_length, .ref m_word, .int m_form, .int m_code, .int m_d, .int m_s, .int m_t, .long m_value, .long m_label, .long m_name, .ref m_count, .ref m_formOf, .ref m_codeOf, .ref m_dOf, .ref m_sOf, .ref m_tOf, .ref m_valueOf, .ref m_labelOf, .ref m_nameOf, .ref m_target, .ref m_place, .ref m_far, .int m_imageSize, .int m_farCount, .ref m_image, .int wq3, .ref m_out])) :: (m_forms, .inl (tp_ty E 0, 46, .inl f_forms)) :: (m_names, .inl (tp_ty E 1, 46, .inr (.inl f_names))) :: fr) := tp_mvD 1 rfl hD
        have hP : va_P (tp_D E) tp_cl ((m_forms, .inl (tp_ty E 0, 46, .inl f_forms)) :: (m_out, .inl (tp_ty E 0, 40, .inl oq3)) :: (aM, .inr (4, [.int 0, .ref m_names, .ref m_forms, .int m_size, .ref m_text, .int m_bad, .int m_at, .int m_length, .ref m_word, .int m_form, .int m_code, .int m_d, .int m_s, .int m_t, .long m_value, .long m_label, .long m_name, .ref m_count, .ref m_formOf, .ref m_codeOf, .ref m_dOf, .ref m_sOf, .ref m_tOf, .ref m_valueOf, .ref m_labelOf, .ref m_nameOf, .ref m_target, .ref m_place, .ref m_far, .int m_imageSize, .int m_farCount, .ref m_image, .int wq3, .ref m_out])) :: (m_names, .inl (tp_ty E 1, 46, .inr (.inl f_names))) :: fr) _ := tp_mvP 2 rfl hP
        have hD : va_D A ((m_forms, .inl (tp_ty E 0, 46, .inl f_forms)) :: (m_out, .inl (tp_ty E 0, 40, .inl oq3)) :: (aM, .inr (4, [.int 0, .ref m_names, .ref m_forms, .int m_size, .ref m_text, .int m_bad, .int m_at, .int m_length, .ref m_word, .int m_form, .int m_code, .int m_d, .int m_s, .int m_t, .long m_value, .long m_label, .long m_name, .ref m_count, .ref m_formOf, .ref m_codeOf, .ref m_dOf, .ref m_sOf, .ref m_tOf, .ref m_valueOf, .ref m_labelOf, .ref m_nameOf, .ref m_target, .ref m_place, .ref m_far, .int m_imageSize, .int m_farCount, .ref m_image, .int wq3, .ref m_out])) :: (m_names, .inl (tp_ty E 1, 46, .inr (.inl f_names))) :: fr) := tp_mvD 2 rfl hD
        have hP : va_P (tp_D E) tp_cl ((m_names, .inl (tp_ty E 1, 46, .inr (.inl f_names))) :: (m_forms, .inl (tp_ty E 0, 46, .inl f_forms)) :: (m_out, .inl (tp_ty E 0, 40, .inl oq3)) :: (aM, .inr (4, [.int 0, .ref m_names, .ref m_forms, .int m_size, .ref m_text, .int m_bad, .int m_at, .int m_length, .ref m_word, .int m_form, .int m_code, .int m_d, .int m_s, .int m_t, .long m_value, .long m_label, .long m_name, .ref m_count, .ref m_formOf, .ref m_codeOf, .ref m_dOf, .ref m_sOf, .ref m_tOf, .ref m_valueOf, .ref m_labelOf, .ref m_nameOf, .ref m_target, .ref m_place, .ref m_far, .int m_imageSize, .int m_farCount, .ref m_image, .int wq3, .ref m_out])) :: fr) _ := tp_mvP 3 rfl hP
        have hD : va_D A ((m_names, .inl (tp_ty E 1, 46, .inr (.inl f_names))) :: (m_forms, .inl (tp_ty E 0, 46, .inl f_forms)) :: (m_out, .inl (tp_ty E 0, 40, .inl oq3)) :: (aM, .inr (4, [.int 0, .ref m_names, .ref m_forms, .int m_size, .ref m_text, .int m_bad, .int m_at, .int m_length, .ref m_word, .int m_form, .int m_code, .int m_d, .int m_s, .int m_t, .long m_value, .long m_label, .long m_name, .ref m_count, .ref m_formOf, .ref m_codeOf, .ref m_dOf, .ref m_sOf, .ref m_tOf, .ref m_valueOf, .ref m_labelOf, .ref m_nameOf, .ref m_target, .ref m_place, .ref m_far, .int m_imageSize, .int m_farCount, .ref m_image, .int wq3, .ref m_out])) :: fr) := tp_mvD 3 rfl hD
        have hP : va_P (tp_D E) tp_cl ((aM, .inr (4, [.int 0, .ref m_names, .ref m_forms, .int m_size, .ref m_text, .int m_bad, .int m_at, .int m_length, .ref m_word, .int m_form, .int m_code, .int m_d, .int m_s, .int m_t, .long m_value, .long m_label, .long m_name, .ref m_count, .ref m_formOf, .ref m_codeOf, .ref m_dOf, .ref m_sOf, .ref m_tOf, .ref m_valueOf, .ref m_labelOf, .ref m_nameOf, .ref m_target, .ref m_place, .ref m_far, .int m_imageSize, .int m_farCount, .ref m_image, .int wq3, .ref m_out])) :: (m_names, .inl (tp_ty E 1, 46, .inr (.inl f_names))) :: (m_forms, .inl (tp_ty E 0, 46, .inl f_forms)) :: (m_out, .inl (tp_ty E 0, 40, .inl oq3)) :: fr) _ := tp_mvP 3 rfl hP
        have hD : va_D A ((aM, .inr (4, [.int 0, .ref m_names, .ref m_forms, .int m_size, .ref m_text, .int m_bad, .int m_at, .int m_length, .ref m_word, .int m_form, .int m_code, .int m_d, .int m_s, .int m_t, .long m_value, .long m_label, .long m_name, .ref m_count, .ref m_formOf, .ref m_codeOf, .ref m_dOf, .ref m_sOf, .ref m_tOf, .ref m_valueOf, .ref m_labelOf, .ref m_nameOf, .ref m_target, .ref m_place, .ref m_far, .int m_imageSize, .int m_farCount, .ref m_image, .int wq3, .ref m_out])) :: (m_names, .inl (tp_ty E 1, 46, .inr (.inl f_names))) :: (m_forms, .inl (tp_ty E 0, 46, .inl f_forms)) :: (m_out, .inl (tp_ty E 0, 40, .inl oq3)) :: fr) := tp_mvD 3 rfl hD
        have hb40 : 0 ≤ wq3.toInt ∧ wq3.toInt ≤ 40 := by omega
        exact W.iret (v := wq3) hx hb hr (fun t ht hW => ⟨⟨_, (0, wq3, oq3), rfl, Or.inr ⟨rfl, ⟨ko, hmh, Int32.le_iff_toInt_le.mp h1, (by rw [hxf]; show _ = _ + (((2 + tp_dl ((xw >>> (7 &&& 31 : Int32)) &&& 31)) + 1 + tp_dl ((xw.toUInt32 >>> (Int32.toUInt32 12 &&& Int32.toUInt32 31)).toInt32) : Nat) : Int); omega)⟩, rfl, hb40⟩, by rw [ht]; exact hP, hD⟩, hS.F ht⟩) hS.2.2 d_M_show_415
      · refine lv_istore_n (lv' := [(3, .int 5), (2, .int ko), (0, .ref aM), (1, .int xw)]) hx hb d_M_show_85 rfl hl (by decide) rfl (fun ls hl => ?_)
        refine lv_iload_n hx hb d_M_show_86 rfl (lv_at hl 3 rfl) ?_
        refine lv_bipush (v := 7) hx hb d_M_show_87 (by decide) ?_
        refine lv_ishr hx hb d_M_show_89 ?_
        refine lv_bipush (v := 31) hx hb d_M_show_90 (by decide) ?_
        refine lv_iand hx hb d_M_show_92 ?_
        refine lv_istore (lv' := [(4, .int ((xw >>> (7 &&& 31 : Int32)) &&& 31)), (3, .int 5), (2, .int ko), (0, .ref aM), (1, .int xw)]) hx hb d_M_show_93 hl (by decide) rfl (fun ls hl => ?_)
        refine lv_iload_n hx hb d_M_show_95 rfl (lv_at hl 4 rfl) ?_
        refine lv_bipush (v := 15) hx hb d_M_show_96 (by decide) ?_
        refine lv_ishr hx hb d_M_show_98 ?_
        refine lv_bipush (v := 31) hx hb d_M_show_99 (by decide) ?_
        refine lv_iand hx hb d_M_show_101 ?_
        refine lv_istore (lv' := [(5, .int ((xw >>> (15 &&& 31 : Int32)) &&& 31)), (4, .int ((xw >>> (7 &&& 31 : Int32)) &&& 31)), (3, .int 5), (2, .int ko), (0, .ref aM), (1, .int xw)]) hx hb d_M_show_102 hl (by decide) rfl (fun ls hl => ?_)
        refine lv_iload_n hx hb d_M_show_104 rfl (lv_at hl 5 rfl) ?_
        refine lv_bipush (v := 20) hx hb d_M_show_105 (by decide) ?_
        refine lv_ishr hx hb d_M_show_107 ?_
        refine lv_bipush (v := 31) hx hb d_M_show_108 (by decide) ?_
        refine lv_iand hx hb d_M_show_110 ?_
        refine lv_istore (lv' := [(6, .int ((xw >>> (20 &&& 31 : Int32)) &&& 31)), (5, .int ((xw >>> (15 &&& 31 : Int32)) &&& 31)), (4, .int ((xw >>> (7 &&& 31 : Int32)) &&& 31)), (3, .int 5), (2, .int ko), (0, .ref aM), (1, .int xw)]) hx hb d_M_show_111 hl (by decide) rfl (fun ls hl => ?_)
        refine lv_iload_n hx hb d_M_show_113 rfl (lv_at hl 3 rfl) ?_
        refine lv_bipush (v := 6) hx hb d_M_show_114 (by decide) ?_
        refine lv_icmp_eq (tgt := 129) hx hb d_M_show_116 (by decide) (fun h => absurd h (by decide)) (fun _ => ?_)
        refine lv_iload_n hx hb d_M_show_119 rfl (lv_at hl 3 rfl) ?_
        refine lv_bipush (v := 7) hx hb d_M_show_120 (by decide) ?_
        refine lv_icmp_eq (tgt := 129) hx hb d_M_show_122 (by decide) (fun h => absurd h (by decide)) (fun _ => ?_)
        refine lv_iconst (v := 1) hx hb d_M_show_125 (by decide) ?_
        refine lv_goto (tgt := 130) hx hb d_M_show_126 (by decide) ?_
        refine lv_istore (lv' := [(7, .int 1), (6, .int ((xw >>> (20 &&& 31 : Int32)) &&& 31)), (5, .int ((xw >>> (15 &&& 31 : Int32)) &&& 31)), (4, .int ((xw >>> (7 &&& 31 : Int32)) &&& 31)), (3, .int 5), (2, .int ko), (0, .ref aM), (1, .int xw)]) hx hb d_M_show_130 hl (by decide) rfl (fun ls hl => ?_)
        refine lv_aload_n hx hb d_M_show_132 rfl (lv_at hl 6 rfl) ?_
        refine lv_bipush (v := 32) hx hb d_M_show_133 (by decide) ?_
        refine lv_iload hx hb d_M_show_135 (lv_at hl 0 rfl) ?_
        refine lv_if_eq (tgt := 145) hx hb d_M_show_137 (by decide) (fun h => absurd h (by decide)) (fun _ => ?_)
        refine lv_iload hx hb d_M_show_140 (lv_at hl 3 rfl) ?_
        refine lv_goto (tgt := 158) hx hb d_M_show_142 (by decide) ?_
        have hP : va_P (tp_D E) tp_cl ((m_out, .inl (tp_ty E 0, 40, .inl fo)) :: (aM, .inr (4, [.int 0, .ref m_names, .ref m_forms, .int m_size, .ref m_text, .int m_bad, .int m_at, .int m_length, .ref m_word, .int m_form, .int m_code, .int m_d, .int m_s, .int m_t, .long m_value, .long m_label, .long m_name, .ref m_count, .ref m_formOf, .ref m_codeOf, .ref m_dOf, .ref m_sOf, .ref m_tOf, .ref m_valueOf, .ref m_labelOf, .ref m_nameOf, .ref m_target, .ref m_place, .ref m_far, .int m_imageSize, .int m_farCount, .ref m_image, .int wv, .ref m_out])) :: (m_forms, .inl (tp_ty E 0, 46, .inl f_forms)) :: (m_names, .inl (tp_ty E 1, 46, .inr (.inl f_names))) :: fr) _ := tp_mvP 3 rfl hP
        have hD : va_D A ((m_out, .inl (tp_ty E 0, 40, .inl fo)) :: (aM, .inr (4, [.int 0, .ref m_names, .ref m_forms, .int m_size, .ref m_text, .int m_bad, .int m_at, .int m_length, .ref m_word, .int m_form, .int m_code, .int m_d, .int m_s, .int m_t, .long m_value, .long m_label, .long m_name, .ref m_count, .ref m_formOf, .ref m_codeOf, .ref m_dOf, .ref m_sOf, .ref m_tOf, .ref m_valueOf, .ref m_labelOf, .ref m_nameOf, .ref m_target, .ref m_place, .ref m_far, .int m_imageSize, .int m_farCount, .ref m_image, .int wv, .ref m_out])) :: (m_forms, .inl (tp_ty E 0, 46, .inl f_forms)) :: (m_names, .inl (tp_ty E 1, 46, .inr (.inl f_names))) :: fr) := tp_mvD 3 rfl hD
        have hP : va_P (tp_D E) tp_cl ((aM, .inr (4, [.int 0, .ref m_names, .ref m_forms, .int m_size, .ref m_text, .int m_bad, .int m_at, .int m_length, .ref m_word, .int m_form, .int m_code, .int m_d, .int m_s, .int m_t, .long m_value, .long m_label, .long m_name, .ref m_count, .ref m_formOf, .ref m_codeOf, .ref m_dOf, .ref m_sOf, .ref m_tOf, .ref m_valueOf, .ref m_labelOf, .ref m_nameOf, .ref m_target, .ref m_place, .ref m_far, .int m_imageSize, .int m_farCount, .ref m_image, .int wv, .ref m_out])) :: (m_out, .inl (tp_ty E 0, 40, .inl fo)) :: (m_forms, .inl (tp_ty E 0, 46, .inl f_forms)) :: (m_names, .inl (tp_ty E 1, 46, .inr (.inl f_names))) :: fr) _ := tp_mvP 1 rfl hP
        have hD : va_D A ((aM, .inr (4, [.int 0, .ref m_names, .ref m_forms, .int m_size, .ref m_text, .int m_bad, .int m_at, .int m_length, .ref m_word, .int m_form, .int m_code, .int m_d, .int m_s, .int m_t, .long m_value, .long m_label, .long m_name, .ref m_count, .ref m_formOf, .ref m_codeOf, .ref m_dOf, .ref m_sOf, .ref m_tOf, .ref m_valueOf, .ref m_labelOf, .ref m_nameOf, .ref m_target, .ref m_place, .ref m_far, .int m_imageSize, .int m_farCount, .ref m_image, .int wv, .ref m_out])) :: (m_out, .inl (tp_ty E 0, 40, .inl fo)) :: (m_forms, .inl (tp_ty E 0, 46, .inl f_forms)) :: (m_names, .inl (tp_ty E 1, 46, .inr (.inl f_names))) :: fr) := tp_mvD 1 rfl hD
        refine tp_cv (tp_rV (As := [.int 32, .int ((xw >>> (7 &&& 31 : Int32)) &&& 31)]) (rest := []) ⟨hx, hb, hml, hown, htg⟩ (a_M_writeRegister l E ((m_forms, .inl (tp_ty E 0, 46, .inl f_forms)) :: (m_names, .inl (tp_ty E 1, 46, .inr (.inl f_names))) :: fr) _ aM m_names m_forms m_text m_word m_count m_formOf m_codeOf m_dOf m_sOf m_tOf m_valueOf m_labelOf m_nameOf m_target m_place m_far m_image m_out 0 m_size m_bad m_at m_length m_form m_code m_d m_s m_t m_imageSize m_farCount wv m_value m_label m_name fo 32 ((xw >>> (7 &&& 31 : Int32)) &&& 31) (by omega)) (⟨callB_of 2 htg (tp_good0 kc_M_writeRegister) rfl rfl rfl (htg _ ki_M) (htg _ kl_M_425) ⟨by decide, by decide, by decide +kernel⟩ ⟨Nat.le_of_ble_eq_true rfl, Nat.le_of_ble_eq_true rfl⟩, htg _ km_M_writeRegister, htg _ kp_M_writeRegister⟩) (va_recv (ci := 4) (q0 := 0) hK.1 hP rfl rfl) hK hP hD hS hA rfl hl.1 rfl (Nat.le_of_ble_eq_true rfl) d_M_show_158 ⟨Nat.le_of_ble_eq_true rfl, Nat.le_of_ble_eq_true rfl⟩) hD hS hA (fun u H locs hw hP hD hS => ?_)
        obtain ⟨wq1, oq1⟩ := u
        have hwq1 : wq1.toInt = wv.toInt + 2 + (tp_dl ((xw >>> (7 &&& 31 : Int32)) &&& 31) : Int) := hw
        have hP : va_P (tp_D E) tp_cl ((aM, .inr (4, [.int 0, .ref m_names, .ref m_forms, .int m_size, .ref m_text, .int m_bad, .int m_at, .int m_length, .ref m_word, .int m_form, .int m_code, .int m_d, .int m_s, .int m_t, .long m_value, .long m_label, .long m_name, .ref m_count, .ref m_formOf, .ref m_codeOf, .ref m_dOf, .ref m_sOf, .ref m_tOf, .ref m_valueOf, .ref m_labelOf, .ref m_nameOf, .ref m_target, .ref m_place, .ref m_far, .int m_imageSize, .int m_farCount, .ref m_image, .int wq1, .ref m_out])) :: (m_out, .inl (tp_ty E 0, 40, .inl oq1)) :: (m_forms, .inl (tp_ty E 0, 46, .inl f_forms)) :: (m_names, .inl (tp_ty E 1, 46, .inr (.inl f_names))) :: fr) H := hP
        have hD : va_D A ((aM, .inr (4, [.int 0, .ref m_names, .ref m_forms, .int m_size, .ref m_text, .int m_bad, .int m_at, .int m_length, .ref m_word, .int m_form, .int m_code, .int m_d, .int m_s, .int m_t, .long m_value, .long m_label, .long m_name, .ref m_count, .ref m_formOf, .ref m_codeOf, .ref m_dOf, .ref m_sOf, .ref m_tOf, .ref m_valueOf, .ref m_labelOf, .ref m_nameOf, .ref m_target, .ref m_place, .ref m_far, .int m_imageSize, .int m_farCount, .ref m_image, .int wq1, .ref m_out])) :: (m_out, .inl (tp_ty E 0, 40, .inl oq1)) :: (m_forms, .inl (tp_ty E 0, 46, .inl f_forms)) :: (m_names, .inl (tp_ty E 1, 46, .inr (.inl f_names))) :: fr) := hD
        refine lv_iload_n hx hb d_M_show_161 rfl (lv_at hl 4 rfl) ?_
        refine lv_iconst (v := 4) hx hb d_M_show_162 (by decide) ?_
        refine lv_icmp_ge (tgt := 174) hx hb d_M_show_163 (by decide) (fun _ => ?_) (fun h => absurd (by decide) h)
        refine lv_iload_n hx hb d_M_show_174 rfl (lv_at hl 4 rfl) ?_
        refine lv_bipush (v := 7) hx hb d_M_show_175 (by decide) ?_
        refine lv_icmp_ne (tgt := 188) hx hb d_M_show_177 (by decide) (fun _ => ?_) (fun h => absurd h (by decide))
        refine lv_iload_n hx hb d_M_show_188 rfl (lv_at hl 4 rfl) ?_
        refine lv_iconst (v := 1) hx hb d_M_show_189 (by decide) ?_
        refine lv_icmp_ne (tgt := 206) hx hb d_M_show_190 (by decide) (fun _ => ?_) (fun h => absurd h (by decide))
        refine lv_aload_n hx hb d_M_show_206 rfl (lv_at hl 6 rfl) ?_
        refine lv_bipush (v := 44) hx hb d_M_show_207 (by decide) ?_
        refine tp_cv (tp_rV (As := [.int 44]) (rest := []) ⟨hx, hb, hml, hown, htg⟩ (a_M_write l E ((m_forms, .inl (tp_ty E 0, 46, .inl f_forms)) :: (m_names, .inl (tp_ty E 1, 46, .inr (.inl f_names))) :: fr) _ aM m_names m_forms m_text m_word m_count m_formOf m_codeOf m_dOf m_sOf m_tOf m_valueOf m_labelOf m_nameOf m_target m_place m_far m_image m_out 0 m_size m_bad m_at m_length m_form m_code m_d m_s m_t m_imageSize m_farCount wq1 m_value m_label m_name oq1 44 (by omega)) (⟨callB_of 1 htg (tp_good0 kc_M_write) rfl rfl rfl (htg _ ki_M) (htg _ kl_M_414) ⟨by decide, by decide, by decide +kernel⟩ ⟨Nat.le_of_ble_eq_true rfl, Nat.le_of_ble_eq_true rfl⟩, htg _ km_M_write, htg _ kp_M_write⟩) (va_recv (ci := 4) (q0 := 0) hK.1 hP rfl rfl) hK hP hD hS hA rfl hl.1 rfl (Nat.le_of_ble_eq_true rfl) d_M_show_209 ⟨Nat.le_of_ble_eq_true rfl, Nat.le_of_ble_eq_true rfl⟩) hD hS hA (fun u H locs hw hP hD hS => ?_)
        obtain ⟨wq2, oq2⟩ := u
        have hwq2 : wq2.toInt = wq1.toInt + 1 := hw
        have hP : va_P (tp_D E) tp_cl ((aM, .inr (4, [.int 0, .ref m_names, .ref m_forms, .int m_size, .ref m_text, .int m_bad, .int m_at, .int m_length, .ref m_word, .int m_form, .int m_code, .int m_d, .int m_s, .int m_t, .long m_value, .long m_label, .long m_name, .ref m_count, .ref m_formOf, .ref m_codeOf, .ref m_dOf, .ref m_sOf, .ref m_tOf, .ref m_valueOf, .ref m_labelOf, .ref m_nameOf, .ref m_target, .ref m_place, .ref m_far, .int m_imageSize, .int m_farCount, .ref m_image, .int wq2, .ref m_out])) :: (m_out, .inl (tp_ty E 0, 40, .inl oq2)) :: (m_forms, .inl (tp_ty E 0, 46, .inl f_forms)) :: (m_names, .inl (tp_ty E 1, 46, .inr (.inl f_names))) :: fr) H := hP
        have hD : va_D A ((aM, .inr (4, [.int 0, .ref m_names, .ref m_forms, .int m_size, .ref m_text, .int m_bad, .int m_at, .int m_length, .ref m_word, .int m_form, .int m_code, .int m_d, .int m_s, .int m_t, .long m_value, .long m_label, .long m_name, .ref m_count, .ref m_formOf, .ref m_codeOf, .ref m_dOf, .ref m_sOf, .ref m_tOf, .ref m_valueOf, .ref m_labelOf, .ref m_nameOf, .ref m_target, .ref m_place, .ref m_far, .int m_imageSize, .int m_farCount, .ref m_image, .int wq2, .ref m_out])) :: (m_out, .inl (tp_ty E 0, 40, .inl oq2)) :: (m_forms, .inl (tp_ty E 0, 46, .inl f_forms)) :: (m_names, .inl (tp_ty E 1, 46, .inr (.inl f_names))) :: fr) := hD
        refine lv_iload_n hx hb d_M_show_212 rfl (lv_at hl 7 rfl) ?_
        refine lv_bipush (v := 20) hx hb d_M_show_213 (by decide) ?_
        refine lv_iushr (v := (xw.toUInt32 >>> (Int32.toUInt32 20 &&& Int32.toUInt32 31)).toInt32) hx hb d_M_show_215 rfl ?_
        refine lv_bipush (v := 12) hx hb d_M_show_216 (by decide) ?_
        refine tp_ci (tp_rS (As := [.int ((xw.toUInt32 >>> (Int32.toUInt32 20 &&& Int32.toUInt32 31)).toInt32), .int 12]) (rest := []) ⟨hx, hb, hml, hown, htg⟩ (a_M_signed12 l E ((aM, .inr (4, [.int 0, .ref m_names, .ref m_forms, .int m_size, .ref m_text, .int m_bad, .int m_at, .int m_length, .ref m_word, .int m_form, .int m_code, .int m_d, .int m_s, .int m_t, .long m_value, .long m_label, .long m_name, .ref m_count, .ref m_formOf, .ref m_codeOf, .ref m_dOf, .ref m_sOf, .ref m_tOf, .ref m_valueOf, .ref m_labelOf, .ref m_nameOf, .ref m_target, .ref m_place, .ref m_far, .int m_imageSize, .int m_farCount, .ref m_image, .int wq2, .ref m_out])) :: (m_out, .inl (tp_ty E 0, 40, .inl oq2)) :: (m_forms, .inl (tp_ty E 0, 46, .inl f_forms)) :: (m_names, .inl (tp_ty E 1, 46, .inr (.inl f_names))) :: fr) _ ((xw.toUInt32 >>> (Int32.toUInt32 20 &&& Int32.toUInt32 31)).toInt32) ) (⟨callB_of 2 htg (tp_good0 kc_M_signed) rfl rfl rfl (htg _ ki_M) (htg _ kl_M_428) ⟨by decide, by decide, by decide +kernel⟩ ⟨Nat.le_of_ble_eq_true rfl, Nat.le_of_ble_eq_true rfl⟩, htg _ ks_M_signed⟩) hK hP hD hS hA rfl hl.1 rfl (Nat.le_of_ble_eq_true rfl) d_M_show_218 ⟨Nat.le_of_ble_eq_true rfl, Nat.le_of_ble_eq_true rfl⟩) hD hS hA (fun r u H locs hw hP hD hS => ?_)
        subst r
        have hP : va_P (tp_D E) tp_cl ((aM, .inr (4, [.int 0, .ref m_names, .ref m_forms, .int m_size, .ref m_text, .int m_bad, .int m_at, .int m_length, .ref m_word, .int m_form, .int m_code, .int m_d, .int m_s, .int m_t, .long m_value, .long m_label, .long m_name, .ref m_count, .ref m_formOf, .ref m_codeOf, .ref m_dOf, .ref m_sOf, .ref m_tOf, .ref m_valueOf, .ref m_labelOf, .ref m_nameOf, .ref m_target, .ref m_place, .ref m_far, .int m_imageSize, .int m_farCount, .ref m_image, .int wq2, .ref m_out])) :: (m_out, .inl (tp_ty E 0, 40, .inl oq2)) :: (m_forms, .inl (tp_ty E 0, 46, .inl f_forms)) :: (m_names, .inl (tp_ty E 1, 46, .inr (.inl f_names))) :: fr) H := hP
        have hD : va_D A ((aM, .inr (4, [.int 0, .ref m_names, .ref m_forms, .int m_size, .ref m_text, .int m_bad, .int m_at, .int m_length, .ref m_word, .int m_form, .int m_code, .int m_d, .int m_s, .int m_t, .long m_value, .long m_label, .long m_name, .ref m_count, .ref m_formOf, .ref m_codeOf, .ref m_dOf, .ref m_sOf, .ref m_tOf, .ref m_valueOf, .ref m_labelOf, .ref m_nameOf, .ref m_target, .ref m_place, .ref m_far, .int m_imageSize, .int m_farCount, .ref m_image, .int wq2, .ref m_out])) :: (m_out, .inl (tp_ty E 0, 40, .inl oq2)) :: (m_forms, .inl (tp_ty E 0, 46, .inl f_forms)) :: (m_names, .inl (tp_ty E 1, 46, .inr (.inl f_names))) :: fr) := hD
        refine lv_istore (lv' := [(8, .int (if (xw.toUInt32 >>> (Int32.toUInt32 20 &&& Int32.toUInt32 31)).toInt32 < 2048 then (xw.toUInt32 >>> (Int32.toUInt32 20 &&& Int32.toUInt32 31)).toInt32 else (xw.toUInt32 >>> (Int32.toUInt32 20 &&& Int32.toUInt32 31)).toInt32 - 4096)), (7, .int 1), (6, .int ((xw >>> (20 &&& 31 : Int32)) &&& 31)), (5, .int ((xw >>> (15 &&& 31 : Int32)) &&& 31)), (4, .int ((xw >>> (7 &&& 31 : Int32)) &&& 31)), (3, .int 5), (2, .int ko), (0, .ref aM), (1, .int xw)]) hx hb d_M_show_221 hl (by decide) rfl (fun ls hl => ?_)
        refine lv_iload_n hx hb d_M_show_223 rfl (lv_at hl 5 rfl) ?_
        refine lv_iconst (v := 3) hx hb d_M_show_224 (by decide) ?_
        refine lv_icmp_ne (tgt := 237) hx hb d_M_show_225 (by decide) (fun _ => ?_) (fun h => absurd h (by decide))
        refine lv_iload_n hx hb d_M_show_237 rfl (lv_at hl 5 rfl) ?_
        refine lv_iconst (v := 4) hx hb d_M_show_238 (by decide) ?_
        refine lv_icmp_ne (tgt := 248) hx hb d_M_show_239 (by decide) (fun _ => ?_) (fun h => absurd h (by decide))
        refine lv_iload_n hx hb d_M_show_248 rfl (lv_at hl 5 rfl) ?_
        refine lv_bipush (v := 6) hx hb d_M_show_249 (by decide) ?_
        refine lv_icmp_ne (tgt := 271) hx hb d_M_show_251 (by decide) (fun _ => ?_) (fun h => absurd h (by decide))
        refine lv_iload_n hx hb d_M_show_271 rfl (lv_at hl 5 rfl) ?_
        refine lv_bipush (v := 7) hx hb d_M_show_272 (by decide) ?_
        refine lv_icmp_ne (tgt := 324) hx hb d_M_show_274 (by decide) (fun _ => ?_) (fun h => absurd h (by decide))
        refine lv_iload_n hx hb d_M_show_324 rfl (lv_at hl 5 rfl) ?_
        refine lv_bipush (v := 8) hx hb d_M_show_325 (by decide) ?_
        refine lv_icmp_ne (tgt := 380) hx hb d_M_show_327 (by decide) (fun _ => ?_) (fun h => absurd h (by decide))
        refine lv_aload_n hx hb d_M_show_380 rfl (lv_at hl 7 rfl) ?_
        refine lv_iload hx hb d_M_show_381 (lv_at hl 0 rfl) ?_
        have gn := (tp_dl10 (xv := (if (xw.toUInt32 >>> (Int32.toUInt32 20 &&& Int32.toUInt32 31)).toInt32 < 2048 then (xw.toUInt32 >>> (Int32.toUInt32 20 &&& Int32.toUInt32 31)).toInt32 else (xw.toUInt32 >>> (Int32.toUInt32 20 &&& Int32.toUInt32 31)).toInt32 - 4096))).1
        refine tp_cv (tp_rV (As := [.int (if (xw.toUInt32 >>> (Int32.toUInt32 20 &&& Int32.toUInt32 31)).toInt32 < 2048 then (xw.toUInt32 >>> (Int32.toUInt32 20 &&& Int32.toUInt32 31)).toInt32 else (xw.toUInt32 >>> (Int32.toUInt32 20 &&& Int32.toUInt32 31)).toInt32 - 4096)]) (rest := []) ⟨hx, hb, hml, hown, htg⟩ (a_M_writeNumber l E ((m_forms, .inl (tp_ty E 0, 46, .inl f_forms)) :: (m_names, .inl (tp_ty E 1, 46, .inr (.inl f_names))) :: fr) _ aM m_names m_forms m_text m_word m_count m_formOf m_codeOf m_dOf m_sOf m_tOf m_valueOf m_labelOf m_nameOf m_target m_place m_far m_image m_out 0 m_size m_bad m_at m_length m_form m_code m_d m_s m_t m_imageSize m_farCount wq2 m_value m_label m_name oq2 (if (xw.toUInt32 >>> (Int32.toUInt32 20 &&& Int32.toUInt32 31)).toInt32 < 2048 then (xw.toUInt32 >>> (Int32.toUInt32 20 &&& Int32.toUInt32 31)).toInt32 else (xw.toUInt32 >>> (Int32.toUInt32 20 &&& Int32.toUInt32 31)).toInt32 - 4096) (by omega)) (⟨callB_of 1 htg (tp_good0 kc_M_writeNumber) rfl rfl rfl (htg _ ki_M) (htg _ kl_M_419) ⟨by decide, by decide, by decide +kernel⟩ ⟨Nat.le_of_ble_eq_true rfl, Nat.le_of_ble_eq_true rfl⟩, htg _ km_M_writeNumber, htg _ kp_M_writeNumber⟩) (va_recv (ci := 4) (q0 := 0) hK.1 hP rfl rfl) hK hP hD hS hA rfl hl.1 rfl (Nat.le_of_ble_eq_true rfl) d_M_show_383 ⟨Nat.le_of_ble_eq_true rfl, Nat.le_of_ble_eq_true rfl⟩) hD hS hA (fun u H locs hw hP hD hS => ?_)
        obtain ⟨wq3, oq3⟩ := u
        have hwq3 : wq3.toInt = wq2.toInt + (tp_dl (if (xw.toUInt32 >>> (Int32.toUInt32 20 &&& Int32.toUInt32 31)).toInt32 < 2048 then (xw.toUInt32 >>> (Int32.toUInt32 20 &&& Int32.toUInt32 31)).toInt32 else (xw.toUInt32 >>> (Int32.toUInt32 20 &&& Int32.toUInt32 31)).toInt32 - 4096) : Int) := hw
        have hP : va_P (tp_D E) tp_cl ((aM, .inr (4, [.int 0, .ref m_names, .ref m_forms, .int m_size, .ref m_text, .int m_bad, .int m_at, .int m_length, .ref m_word, .int m_form, .int m_code, .int m_d, .int m_s, .int m_t, .long m_value, .long m_label, .long m_name, .ref m_count, .ref m_formOf, .ref m_codeOf, .ref m_dOf, .ref m_sOf, .ref m_tOf, .ref m_valueOf, .ref m_labelOf, .ref m_nameOf, .ref m_target, .ref m_place, .ref m_far, .int m_imageSize, .int m_farCount, .ref m_image, .int wq3, .ref m_out])) :: (m_out, .inl (tp_ty E 0, 40, .inl oq3)) :: (m_forms, .inl (tp_ty E 0, 46, .inl f_forms)) :: (m_names, .inl (tp_ty E 1, 46, .inr (.inl f_names))) :: fr) H := hP
        have hD : va_D A ((aM, .inr (4, [.int 0, .ref m_names, .ref m_forms, .int m_size, .ref m_text, .int m_bad, .int m_at, .int m_length, .ref m_word, .int m_form, .int m_code, .int m_d, .int m_s, .int m_t, .long m_value, .long m_label, .long m_name, .ref m_count, .ref m_formOf, .ref m_codeOf, .ref m_dOf, .ref m_sOf, .ref m_tOf, .ref m_valueOf, .ref m_labelOf, .ref m_nameOf, .ref m_target, .ref m_place, .ref m_far, .int m_imageSize, .int m_farCount, .ref m_image, .int wq3, .ref m_out])) :: (m_out, .inl (tp_ty E 0, 40, .inl oq3)) :: (m_forms, .inl (tp_ty E 0, 46, .inl f_forms)) :: (m_names, .inl (tp_ty E 1, 46, .inr (.inl f_names))) :: fr) := hD
        refine lv_iload_n hx hb d_M_show_386 rfl (lv_at hl 5 rfl) ?_
        refine lv_iconst (v := 5) hx hb d_M_show_387 (by decide) ?_
        refine lv_icmp_eq (tgt := 397) hx hb d_M_show_388 (by decide) (fun _ => ?_) (fun h => absurd (by decide) h)
        refine lv_aload_n hx hb d_M_show_397 rfl (lv_at hl 7 rfl) ?_
        refine lv_bipush (v := 40) hx hb d_M_show_398 (by decide) ?_
        refine lv_iload hx hb d_M_show_400 (lv_at hl 3 rfl) ?_
        refine tp_cv (tp_rV (As := [.int 40, .int ((xw >>> (15 &&& 31 : Int32)) &&& 31)]) (rest := []) ⟨hx, hb, hml, hown, htg⟩ (a_M_writeRegister l E ((m_forms, .inl (tp_ty E 0, 46, .inl f_forms)) :: (m_names, .inl (tp_ty E 1, 46, .inr (.inl f_names))) :: fr) _ aM m_names m_forms m_text m_word m_count m_formOf m_codeOf m_dOf m_sOf m_tOf m_valueOf m_labelOf m_nameOf m_target m_place m_far m_image m_out 0 m_size m_bad m_at m_length m_form m_code m_d m_s m_t m_imageSize m_farCount wq3 m_value m_label m_name oq3 40 ((xw >>> (15 &&& 31 : Int32)) &&& 31) (by omega)) (⟨callB_of 2 htg (tp_good0 kc_M_writeRegister) rfl rfl rfl (htg _ ki_M) (htg _ kl_M_425) ⟨by decide, by decide, by decide +kernel⟩ ⟨Nat.le_of_ble_eq_true rfl, Nat.le_of_ble_eq_true rfl⟩, htg _ km_M_writeRegister, htg _ kp_M_writeRegister⟩) (va_recv (ci := 4) (q0 := 0) hK.1 hP rfl rfl) hK hP hD hS hA rfl hl.1 rfl (Nat.le_of_ble_eq_true rfl) d_M_show_402 ⟨Nat.le_of_ble_eq_true rfl, Nat.le_of_ble_eq_true rfl⟩) hD hS hA (fun u H locs hw hP hD hS => ?_)
        obtain ⟨wq4, oq4⟩ := u
        have hwq4 : wq4.toInt = wq3.toInt + 2 + (tp_dl ((xw >>> (15 &&& 31 : Int32)) &&& 31) : Int) := hw
        have hP : va_P (tp_D E) tp_cl ((aM, .inr (4, [.int 0, .ref m_names, .ref m_forms, .int m_size, .ref m_text, .int m_bad, .int m_at, .int m_length, .ref m_word, .int m_form, .int m_code, .int m_d, .int m_s, .int m_t, .long m_value, .long m_label, .long m_name, .ref m_count, .ref m_formOf, .ref m_codeOf, .ref m_dOf, .ref m_sOf, .ref m_tOf, .ref m_valueOf, .ref m_labelOf, .ref m_nameOf, .ref m_target, .ref m_place, .ref m_far, .int m_imageSize, .int m_farCount, .ref m_image, .int wq4, .ref m_out])) :: (m_out, .inl (tp_ty E 0, 40, .inl oq4)) :: (m_forms, .inl (tp_ty E 0, 46, .inl f_forms)) :: (m_names, .inl (tp_ty E 1, 46, .inr (.inl f_names))) :: fr) H := hP
        have hD : va_D A ((aM, .inr (4, [.int 0, .ref m_names, .ref m_forms, .int m_size, .ref m_text, .int m_bad, .int m_at, .int m_length, .ref m_word, .int m_form, .int m_code, .int m_d, .int m_s, .int m_t, .long m_value, .long m_label, .long m_name, .ref m_count, .ref m_formOf, .ref m_codeOf, .ref m_dOf, .ref m_sOf, .ref m_tOf, .ref m_valueOf, .ref m_labelOf, .ref m_nameOf, .ref m_target, .ref m_place, .ref m_far, .int m_imageSize, .int m_farCount, .ref m_image, .int wq4, .ref m_out])) :: (m_out, .inl (tp_ty E 0, 40, .inl oq4)) :: (m_forms, .inl (tp_ty E 0, 46, .inl f_forms)) :: (m_names, .inl (tp_ty E 1, 46, .inr (.inl f_names))) :: fr) := hD
        refine lv_aload_n hx hb d_M_show_405 rfl (lv_at hl 7 rfl) ?_
        refine lv_bipush (v := 41) hx hb d_M_show_406 (by decide) ?_
        refine tp_cv (tp_rV (As := [.int 41]) (rest := []) ⟨hx, hb, hml, hown, htg⟩ (a_M_write l E ((m_forms, .inl (tp_ty E 0, 46, .inl f_forms)) :: (m_names, .inl (tp_ty E 1, 46, .inr (.inl f_names))) :: fr) _ aM m_names m_forms m_text m_word m_count m_formOf m_codeOf m_dOf m_sOf m_tOf m_valueOf m_labelOf m_nameOf m_target m_place m_far m_image m_out 0 m_size m_bad m_at m_length m_form m_code m_d m_s m_t m_imageSize m_farCount wq4 m_value m_label m_name oq4 41 (by omega)) (⟨callB_of 1 htg (tp_good0 kc_M_write) rfl rfl rfl (htg _ ki_M) (htg _ kl_M_414) ⟨by decide, by decide, by decide +kernel⟩ ⟨Nat.le_of_ble_eq_true rfl, Nat.le_of_ble_eq_true rfl⟩, htg _ km_M_write, htg _ kp_M_write⟩) (va_recv (ci := 4) (q0 := 0) hK.1 hP rfl rfl) hK hP hD hS hA rfl hl.1 rfl (Nat.le_of_ble_eq_true rfl) d_M_show_408 ⟨Nat.le_of_ble_eq_true rfl, Nat.le_of_ble_eq_true rfl⟩) hD hS hA (fun u H locs hw hP hD hS => ?_)
        obtain ⟨wq5, oq5⟩ := u
        have hwq5 : wq5.toInt = wq4.toInt + 1 := hw
        have hP : va_P (tp_D E) tp_cl ((aM, .inr (4, [.int 0, .ref m_names, .ref m_forms, .int m_size, .ref m_text, .int m_bad, .int m_at, .int m_length, .ref m_word, .int m_form, .int m_code, .int m_d, .int m_s, .int m_t, .long m_value, .long m_label, .long m_name, .ref m_count, .ref m_formOf, .ref m_codeOf, .ref m_dOf, .ref m_sOf, .ref m_tOf, .ref m_valueOf, .ref m_labelOf, .ref m_nameOf, .ref m_target, .ref m_place, .ref m_far, .int m_imageSize, .int m_farCount, .ref m_image, .int wq5, .ref m_out])) :: (m_out, .inl (tp_ty E 0, 40, .inl oq5)) :: (m_forms, .inl (tp_ty E 0, 46, .inl f_forms)) :: (m_names, .inl (tp_ty E 1, 46, .inr (.inl f_names))) :: fr) H := hP
        have hD : va_D A ((aM, .inr (4, [.int 0, .ref m_names, .ref m_forms, .int m_size, .ref m_text, .int m_bad, .int m_at, .int m_length, .ref m_word, .int m_form, .int m_code, .int m_d, .int m_s, .int m_t, .long m_value, .long m_label, .long m_name, .ref m_count, .ref m_formOf, .ref m_codeOf, .ref m_dOf, .ref m_sOf, .ref m_tOf, .ref m_valueOf, .ref m_labelOf, .ref m_nameOf, .ref m_target, .ref m_place, .ref m_far, .int m_imageSize, .int m_farCount, .ref m_image, .int wq5, .ref m_out])) :: (m_out, .inl (tp_ty E 0, 40, .inl oq5)) :: (m_forms, .inl (tp_ty E 0, 46, .inl f_forms)) :: (m_names, .inl (tp_ty E 1, 46, .inr (.inl f_names))) :: fr) := hD
        refine lv_aload_n hx hb d_M_show_411 rfl (lv_at hl 7 rfl) ?_
        refine va_get (D := tp_D E) (ci := 4) (v := .int wq5) (C := qR_M) (T := qF_M) (N := 34) hx hb htg qi_M hown hK.1 hP 0 rfl rfl 32 (by decide) (htg _ kl_M_411) (fun _ h => h) rfl d_M_show_412 ?_
        have hP : va_P (tp_D E) tp_cl ((m_out, .inl (tp_ty E 0, 40, .inl oq5)) :: (aM, .inr (4, [.int 0, .ref m_names, .ref m_forms, .int m_size, .ref m_text, .int m_bad, .int m_at, .int m_length, .ref m_word, .int m_form, .int m_code, .int m_d, .int m_s, .int m_t, .long m_value, .long m_label, .long m_name, .ref m_count, .ref m_formOf, .ref m_codeOf, .ref m_dOf, .ref m_sOf, .ref m_tOf, .ref m_valueOf, .ref m_labelOf, .ref m_nameOf, .ref m_target, .ref m_place, .ref m_far, .int m_imageSize, .int m_farCount, .ref m_image, .int wq5, .ref m_out])) :: (m_forms, .inl (tp_ty E 0, 46, .inl f_forms)) :: (m_names, .inl (tp_ty E 1, 46, .inr (.inl f_names))) :: fr) _ := tp_mvP 1 rfl hP
        have hD : va_D A ((m_out, .inl (tp_ty E 0, 40, .inl oq5)) :: (aM, .inr (4, [.int 0, .ref m_names, .ref m_forms, .int m_size, .ref m_text, .int m_bad, .int m_at, .int m_length, .ref m_word, .int m_form, .int m_code, .int m_d, .int m_s, .int m_t, .long m_value, .long m_label, .long m_name, .ref m_count, .ref m_formOf, .ref m_codeOf, .ref m_dOf, .ref m_sOf, .ref m_tOf, .ref m_valueOf, .ref m_labelOf, .ref m_nameOf, .ref m_target, .ref m_place, .ref m_far, .int m_imageSize, .int m_farCount, .ref m_image, .int wq5, .ref m_out])) :: (m_forms, .inl (tp_ty E 0, 46, .inl f_forms)) :: (m_names, .inl (tp_ty E 1, 46, .inr (.inl f_names))) :: fr) := tp_mvD 1 rfl hD
        have hP : va_P (tp_D E) tp_cl ((m_forms, .inl (tp_ty E 0, 46, .inl f_forms)) :: (m_out, .inl (tp_ty E 0, 40, .inl oq5)) :: (aM, .inr (4, [.int 0, .ref m_names, .ref m_forms, .int m_size, .ref m_text, .int m_bad, .int m_at, .int m_length, .ref m_word, .int m_form, .int m_code, .int m_d, .int m_s, .int m_t, .long m_value, .long m_label, .long m_name, .ref m_count, .ref m_formOf, .ref m_codeOf, .ref m_dOf, .ref m_sOf, .ref m_tOf, .ref m_valueOf, .ref m_labelOf, .ref m_nameOf, .ref m_target, .ref m_place, .ref m_far, .int m_imageSize, .int m_farCount, .ref m_image, .int wq5, .ref m_out])) :: (m_names, .inl (tp_ty E 1, 46, .inr (.inl f_names))) :: fr) _ := tp_mvP 2 rfl hP
        have hD : va_D A ((m_forms, .inl (tp_ty E 0, 46, .inl f_forms)) :: (m_out, .inl (tp_ty E 0, 40, .inl oq5)) :: (aM, .inr (4, [.int 0, .ref m_names, .ref m_forms, .int m_size, .ref m_text, .int m_bad, .int m_at, .int m_length, .ref m_word, .int m_form, .int m_code, .int m_d, .int m_s, .int m_t, .long m_value, .long m_label, .long m_name, .ref m_count, .ref m_formOf, .ref m_codeOf, .ref m_dOf, .ref m_sOf, .ref m_tOf, .ref m_valueOf, .ref m_labelOf, .ref m_nameOf, .ref m_target, .ref m_place, .ref m_far, .int m_imageSize, .int m_farCount, .ref m_image, .int wq5, .ref m_out])) :: (m_names, .inl (tp_ty E 1, 46, .inr (.inl f_names))) :: fr) := tp_mvD 2 rfl hD
        have hP : va_P (tp_D E) tp_cl ((m_names, .inl (tp_ty E 1, 46, .inr (.inl f_names))) :: (m_forms, .inl (tp_ty E 0, 46, .inl f_forms)) :: (m_out, .inl (tp_ty E 0, 40, .inl oq5)) :: (aM, .inr (4, [.int 0, .ref m_names, .ref m_forms, .int m_size, .ref m_text, .int m_bad, .int m_at, .int m_length, .ref m_word, .int m_form, .int m_code, .int m_d, .int m_s, .int m_t, .long m_value, .long m_label, .long m_name, .ref m_count, .ref m_formOf, .ref m_codeOf, .ref m_dOf, .ref m_sOf, .ref m_tOf, .ref m_valueOf, .ref m_labelOf, .ref m_nameOf, .ref m_target, .ref m_place, .ref m_far, .int m_imageSize, .int m_farCount, .ref m_image, .int wq5, .ref m_out])) :: fr) _ := tp_mvP 3 rfl hP
        have hD : va_D A ((m_names, .inl (tp_ty E 1, 46, .inr (.inl f_names))) :: (m_forms, .inl (tp_ty E 0, 46, .inl f_forms)) :: (m_out, .inl (tp_ty E 0, 40, .inl oq5)) :: (aM, .inr (4, [.int 0, .ref m_names, .ref m_forms, .int m_size, .ref m_text, .int m_bad, .int m_at, .int m_length, .ref m_word, .int m_form, .int m_code, .int m_d, .int m_s, .int m_t, .long m_value, .long m_label, .long m_name, .ref m_count, .ref m_formOf, .ref m_codeOf, .ref m_dOf, .ref m_sOf, .ref m_tOf, .ref m_valueOf, .ref m_labelOf, .ref m_nameOf, .ref m_target, .ref m_place, .ref m_far, .int m_imageSize, .int m_farCount, .ref m_image, .int wq5, .ref m_out])) :: fr) := tp_mvD 3 rfl hD
        have hP : va_P (tp_D E) tp_cl ((aM, .inr (4, [.int 0, .ref m_names, .ref m_forms, .int m_size, .ref m_text, .int m_bad, .int m_at, .int m_length, .ref m_word, .int m_form, .int m_code, .int m_d, .int m_s, .int m_t, .long m_value, .long m_label, .long m_name, .ref m_count, .ref m_formOf, .ref m_codeOf, .ref m_dOf, .ref m_sOf, .ref m_tOf, .ref m_valueOf, .ref m_labelOf, .ref m_nameOf, .ref m_target, .ref m_place, .ref m_far, .int m_imageSize, .int m_farCount, .ref m_image, .int wq5, .ref m_out])) :: (m_names, .inl (tp_ty E 1, 46, .inr (.inl f_names))) :: (m_forms, .inl (tp_ty E 0, 46, .inl f_forms)) :: (m_out, .inl (tp_ty E 0, 40, .inl oq5)) :: fr) _ := tp_mvP 3 rfl hP
        have hD : va_D A ((aM, .inr (4, [.int 0, .ref m_names, .ref m_forms, .int m_size, .ref m_text, .int m_bad, .int m_at, .int m_length, .ref m_word, .int m_form, .int m_code, .int m_d, .int m_s, .int m_t, .long m_value, .long m_label, .long m_name, .ref m_count, .ref m_formOf, .ref m_codeOf, .ref m_dOf, .ref m_sOf, .ref m_tOf, .ref m_valueOf, .ref m_labelOf, .ref m_nameOf, .ref m_target, .ref m_place, .ref m_far, .int m_imageSize, .int m_farCount, .ref m_image, .int wq5, .ref m_out])) :: (m_names, .inl (tp_ty E 1, 46, .inr (.inl f_names))) :: (m_forms, .inl (tp_ty E 0, 46, .inl f_forms)) :: (m_out, .inl (tp_ty E 0, 40, .inl oq5)) :: fr) := tp_mvD 3 rfl hD
        have hb40 : 0 ≤ wq5.toInt ∧ wq5.toInt ≤ 40 := by omega
        exact W.iret (v := wq5) hx hb hr (fun t ht hW => ⟨⟨_, (0, wq5, oq5), rfl, Or.inr ⟨rfl, ⟨ko, hmh, Int32.le_iff_toInt_le.mp h1, (by rw [hxf]; show _ = _ + (((2 + tp_dl ((xw >>> (7 &&& 31 : Int32)) &&& 31)) + 1 + tp_dl (if (xw.toUInt32 >>> (Int32.toUInt32 20 &&& Int32.toUInt32 31)).toInt32 < 2048 then (xw.toUInt32 >>> (Int32.toUInt32 20 &&& Int32.toUInt32 31)).toInt32 else (xw.toUInt32 >>> (Int32.toUInt32 20 &&& Int32.toUInt32 31)).toInt32 - 4096) + (2 + tp_dl ((xw >>> (15 &&& 31 : Int32)) &&& 31)) + 1 : Nat) : Int); omega)⟩, rfl, hb40⟩, by rw [ht]; exact hP, hD⟩, hS.F ht⟩) hS.2.2 d_M_show_415
      · refine lv_istore_n (lv' := [(3, .int 6), (2, .int ko), (0, .ref aM), (1, .int xw)]) hx hb d_M_show_85 rfl hl (by decide) rfl (fun ls hl => ?_)
        refine lv_iload_n hx hb d_M_show_86 rfl (lv_at hl 3 rfl) ?_
        refine lv_bipush (v := 7) hx hb d_M_show_87 (by decide) ?_
        refine lv_ishr hx hb d_M_show_89 ?_
        refine lv_bipush (v := 31) hx hb d_M_show_90 (by decide) ?_
        refine lv_iand hx hb d_M_show_92 ?_
        refine lv_istore (lv' := [(4, .int ((xw >>> (7 &&& 31 : Int32)) &&& 31)), (3, .int 6), (2, .int ko), (0, .ref aM), (1, .int xw)]) hx hb d_M_show_93 hl (by decide) rfl (fun ls hl => ?_)
        refine lv_iload_n hx hb d_M_show_95 rfl (lv_at hl 4 rfl) ?_
        refine lv_bipush (v := 15) hx hb d_M_show_96 (by decide) ?_
        refine lv_ishr hx hb d_M_show_98 ?_
        refine lv_bipush (v := 31) hx hb d_M_show_99 (by decide) ?_
        refine lv_iand hx hb d_M_show_101 ?_
        refine lv_istore (lv' := [(5, .int ((xw >>> (15 &&& 31 : Int32)) &&& 31)), (4, .int ((xw >>> (7 &&& 31 : Int32)) &&& 31)), (3, .int 6), (2, .int ko), (0, .ref aM), (1, .int xw)]) hx hb d_M_show_102 hl (by decide) rfl (fun ls hl => ?_)
        refine lv_iload_n hx hb d_M_show_104 rfl (lv_at hl 5 rfl) ?_
        refine lv_bipush (v := 20) hx hb d_M_show_105 (by decide) ?_
        refine lv_ishr hx hb d_M_show_107 ?_
        refine lv_bipush (v := 31) hx hb d_M_show_108 (by decide) ?_
        refine lv_iand hx hb d_M_show_110 ?_
        refine lv_istore (lv' := [(6, .int ((xw >>> (20 &&& 31 : Int32)) &&& 31)), (5, .int ((xw >>> (15 &&& 31 : Int32)) &&& 31)), (4, .int ((xw >>> (7 &&& 31 : Int32)) &&& 31)), (3, .int 6), (2, .int ko), (0, .ref aM), (1, .int xw)]) hx hb d_M_show_111 hl (by decide) rfl (fun ls hl => ?_)
        refine lv_iload_n hx hb d_M_show_113 rfl (lv_at hl 3 rfl) ?_
        refine lv_bipush (v := 6) hx hb d_M_show_114 (by decide) ?_
        refine lv_icmp_eq (tgt := 129) hx hb d_M_show_116 (by decide) (fun _ => ?_) (fun h => absurd (by decide) h)
        refine lv_iconst (v := 0) hx hb d_M_show_129 (by decide) ?_
        refine lv_istore (lv' := [(7, .int 0), (6, .int ((xw >>> (20 &&& 31 : Int32)) &&& 31)), (5, .int ((xw >>> (15 &&& 31 : Int32)) &&& 31)), (4, .int ((xw >>> (7 &&& 31 : Int32)) &&& 31)), (3, .int 6), (2, .int ko), (0, .ref aM), (1, .int xw)]) hx hb d_M_show_130 hl (by decide) rfl (fun ls hl => ?_)
        refine lv_aload_n hx hb d_M_show_132 rfl (lv_at hl 6 rfl) ?_
        refine lv_bipush (v := 32) hx hb d_M_show_133 (by decide) ?_
        refine lv_iload hx hb d_M_show_135 (lv_at hl 0 rfl) ?_
        refine lv_if_eq (tgt := 145) hx hb d_M_show_137 (by decide) (fun _ => ?_) (fun h => absurd (by decide) h)
        refine lv_iload_n hx hb d_M_show_145 rfl (lv_at hl 4 rfl) ?_
        refine lv_bipush (v := 6) hx hb d_M_show_146 (by decide) ?_
        refine lv_icmp_ne (tgt := 156) hx hb d_M_show_148 (by decide) (fun h => absurd (by decide) h) (fun _ => ?_)
        refine lv_iload hx hb d_M_show_151 (lv_at hl 1 rfl) ?_
        refine lv_goto (tgt := 158) hx hb d_M_show_153 (by decide) ?_
        have hP : va_P (tp_D E) tp_cl ((m_out, .inl (tp_ty E 0, 40, .inl fo)) :: (aM, .inr (4, [.int 0, .ref m_names, .ref m_forms, .int m_size, .ref m_text, .int m_bad, .int m_at, .int m_length, .ref m_word, .int m_form, .int m_code, .int m_d, .int m_s, .int m_t, .long m_value, .long m_label, .long m_name, .ref m_count, .ref m_formOf, .ref m_codeOf, .ref m_dOf, .ref m_sOf, .ref m_tOf, .ref m_valueOf, .ref m_labelOf, .ref m_nameOf, .ref m_target, .ref m_place, .ref m_far, .int m_imageSize, .int m_farCount, .ref m_image, .int wv, .ref m_out])) :: (m_forms, .inl (tp_ty E 0, 46, .inl f_forms)) :: (m_names, .inl (tp_ty E 1, 46, .inr (.inl f_names))) :: fr) _ := tp_mvP 3 rfl hP
        have hD : va_D A ((m_out, .inl (tp_ty E 0, 40, .inl fo)) :: (aM, .inr (4, [.int 0, .ref m_names, .ref m_forms, .int m_size, .ref m_text, .int m_bad, .int m_at, .int m_length, .ref m_word, .int m_form, .int m_code, .int m_d, .int m_s, .int m_t, .long m_value, .long m_label, .long m_name, .ref m_count, .ref m_formOf, .ref m_codeOf, .ref m_dOf, .ref m_sOf, .ref m_tOf, .ref m_valueOf, .ref m_labelOf, .ref m_nameOf, .ref m_target, .ref m_place, .ref m_far, .int m_imageSize, .int m_farCount, .ref m_image, .int wv, .ref m_out])) :: (m_forms, .inl (tp_ty E 0, 46, .inl f_forms)) :: (m_names, .inl (tp_ty E 1, 46, .inr (.inl f_names))) :: fr) := tp_mvD 3 rfl hD
        have hP : va_P (tp_D E) tp_cl ((aM, .inr (4, [.int 0, .ref m_names, .ref m_forms, .int m_size, .ref m_text, .int m_bad, .int m_at, .int m_length, .ref m_word, .int m_form, .int m_code, .int m_d, .int m_s, .int m_t, .long m_value, .long m_label, .long m_name, .ref m_count, .ref m_formOf, .ref m_codeOf, .ref m_dOf, .ref m_sOf, .ref m_tOf, .ref m_valueOf, .ref m_labelOf, .ref m_nameOf, .ref m_target, .ref m_place, .ref m_far, .int m_imageSize, .int m_farCount, .ref m_image, .int wv, .ref m_out])) :: (m_out, .inl (tp_ty E 0, 40, .inl fo)) :: (m_forms, .inl (tp_ty E 0, 46, .inl f_forms)) :: (m_names, .inl (tp_ty E 1, 46, .inr (.inl f_names))) :: fr) _ := tp_mvP 1 rfl hP
        have hD : va_D A ((aM, .inr (4, [.int 0, .ref m_names, .ref m_forms, .int m_size, .ref m_text, .int m_bad, .int m_at, .int m_length, .ref m_word, .int m_form, .int m_code, .int m_d, .int m_s, .int m_t, .long m_value, .long m_label, .long m_name, .ref m_count, .ref m_formOf, .ref m_codeOf, .ref m_dOf, .ref m_sOf, .ref m_tOf, .ref m_valueOf, .ref m_labelOf, .ref m_nameOf, .ref m_target, .ref m_place, .ref m_far, .int m_imageSize, .int m_farCount, .ref m_image, .int wv, .ref m_out])) :: (m_out, .inl (tp_ty E 0, 40, .inl fo)) :: (m_forms, .inl (tp_ty E 0, 46, .inl f_forms)) :: (m_names, .inl (tp_ty E 1, 46, .inr (.inl f_names))) :: fr) := tp_mvD 1 rfl hD
        refine tp_cv (tp_rV (As := [.int 32, .int ((xw >>> (20 &&& 31 : Int32)) &&& 31)]) (rest := []) ⟨hx, hb, hml, hown, htg⟩ (a_M_writeRegister l E ((m_forms, .inl (tp_ty E 0, 46, .inl f_forms)) :: (m_names, .inl (tp_ty E 1, 46, .inr (.inl f_names))) :: fr) _ aM m_names m_forms m_text m_word m_count m_formOf m_codeOf m_dOf m_sOf m_tOf m_valueOf m_labelOf m_nameOf m_target m_place m_far m_image m_out 0 m_size m_bad m_at m_length m_form m_code m_d m_s m_t m_imageSize m_farCount wv m_value m_label m_name fo 32 ((xw >>> (20 &&& 31 : Int32)) &&& 31) (by omega)) (⟨callB_of 2 htg (tp_good0 kc_M_writeRegister) rfl rfl rfl (htg _ ki_M) (htg _ kl_M_425) ⟨by decide, by decide, by decide +kernel⟩ ⟨Nat.le_of_ble_eq_true rfl, Nat.le_of_ble_eq_true rfl⟩, htg _ km_M_writeRegister, htg _ kp_M_writeRegister⟩) (va_recv (ci := 4) (q0 := 0) hK.1 hP rfl rfl) hK hP hD hS hA rfl hl.1 rfl (Nat.le_of_ble_eq_true rfl) d_M_show_158 ⟨Nat.le_of_ble_eq_true rfl, Nat.le_of_ble_eq_true rfl⟩) hD hS hA (fun u H locs hw hP hD hS => ?_)
        obtain ⟨wq1, oq1⟩ := u
        have hwq1 : wq1.toInt = wv.toInt + 2 + (tp_dl ((xw >>> (20 &&& 31 : Int32)) &&& 31) : Int) := hw
        have hP : va_P (tp_D E) tp_cl ((aM, .inr (4, [.int 0, .ref m_names, .ref m_forms, .int m_size, .ref m_text, .int m_bad, .int m_at, .int m_length, .ref m_word, .int m_form, .int m_code, .int m_d, .int m_s, .int m_t, .long m_value, .long m_label, .long m_name, .ref m_count, .ref m_formOf, .ref m_codeOf, .ref m_dOf, .ref m_sOf, .ref m_tOf, .ref m_valueOf, .ref m_labelOf, .ref m_nameOf, .ref m_target, .ref m_place, .ref m_far, .int m_imageSize, .int m_farCount, .ref m_image, .int wq1, .ref m_out])) :: (m_out, .inl (tp_ty E 0, 40, .inl oq1)) :: (m_forms, .inl (tp_ty E 0, 46, .inl f_forms)) :: (m_names, .inl (tp_ty E 1, 46, .inr (.inl f_names))) :: fr) H := hP
        have hD : va_D A ((aM, .inr (4, [.int 0, .ref m_names, .ref m_forms, .int m_size, .ref m_text, .int m_bad, .int m_at, .int m_length, .ref m_word, .int m_form, .int m_code, .int m_d, .int m_s, .int m_t, .long m_value, .long m_label, .long m_name, .ref m_count, .ref m_formOf, .ref m_codeOf, .ref m_dOf, .ref m_sOf, .ref m_tOf, .ref m_valueOf, .ref m_labelOf, .ref m_nameOf, .ref m_target, .ref m_place, .ref m_far, .int m_imageSize, .int m_farCount, .ref m_image, .int wq1, .ref m_out])) :: (m_out, .inl (tp_ty E 0, 40, .inl oq1)) :: (m_forms, .inl (tp_ty E 0, 46, .inl f_forms)) :: (m_names, .inl (tp_ty E 1, 46, .inr (.inl f_names))) :: fr) := hD
        refine lv_iload_n hx hb d_M_show_161 rfl (lv_at hl 4 rfl) ?_
        refine lv_iconst (v := 4) hx hb d_M_show_162 (by decide) ?_
        refine lv_icmp_ge (tgt := 174) hx hb d_M_show_163 (by decide) (fun _ => ?_) (fun h => absurd (by decide) h)
        refine lv_iload_n hx hb d_M_show_174 rfl (lv_at hl 4 rfl) ?_
        refine lv_bipush (v := 7) hx hb d_M_show_175 (by decide) ?_
        refine lv_icmp_ne (tgt := 188) hx hb d_M_show_177 (by decide) (fun _ => ?_) (fun h => absurd h (by decide))
        refine lv_iload_n hx hb d_M_show_188 rfl (lv_at hl 4 rfl) ?_
        refine lv_iconst (v := 1) hx hb d_M_show_189 (by decide) ?_
        refine lv_icmp_ne (tgt := 206) hx hb d_M_show_190 (by decide) (fun _ => ?_) (fun h => absurd h (by decide))
        refine lv_aload_n hx hb d_M_show_206 rfl (lv_at hl 6 rfl) ?_
        refine lv_bipush (v := 44) hx hb d_M_show_207 (by decide) ?_
        refine tp_cv (tp_rV (As := [.int 44]) (rest := []) ⟨hx, hb, hml, hown, htg⟩ (a_M_write l E ((m_forms, .inl (tp_ty E 0, 46, .inl f_forms)) :: (m_names, .inl (tp_ty E 1, 46, .inr (.inl f_names))) :: fr) _ aM m_names m_forms m_text m_word m_count m_formOf m_codeOf m_dOf m_sOf m_tOf m_valueOf m_labelOf m_nameOf m_target m_place m_far m_image m_out 0 m_size m_bad m_at m_length m_form m_code m_d m_s m_t m_imageSize m_farCount wq1 m_value m_label m_name oq1 44 (by omega)) (⟨callB_of 1 htg (tp_good0 kc_M_write) rfl rfl rfl (htg _ ki_M) (htg _ kl_M_414) ⟨by decide, by decide, by decide +kernel⟩ ⟨Nat.le_of_ble_eq_true rfl, Nat.le_of_ble_eq_true rfl⟩, htg _ km_M_write, htg _ kp_M_write⟩) (va_recv (ci := 4) (q0 := 0) hK.1 hP rfl rfl) hK hP hD hS hA rfl hl.1 rfl (Nat.le_of_ble_eq_true rfl) d_M_show_209 ⟨Nat.le_of_ble_eq_true rfl, Nat.le_of_ble_eq_true rfl⟩) hD hS hA (fun u H locs hw hP hD hS => ?_)
        obtain ⟨wq2, oq2⟩ := u
        have hwq2 : wq2.toInt = wq1.toInt + 1 := hw
        have hP : va_P (tp_D E) tp_cl ((aM, .inr (4, [.int 0, .ref m_names, .ref m_forms, .int m_size, .ref m_text, .int m_bad, .int m_at, .int m_length, .ref m_word, .int m_form, .int m_code, .int m_d, .int m_s, .int m_t, .long m_value, .long m_label, .long m_name, .ref m_count, .ref m_formOf, .ref m_codeOf, .ref m_dOf, .ref m_sOf, .ref m_tOf, .ref m_valueOf, .ref m_labelOf, .ref m_nameOf, .ref m_target, .ref m_place, .ref m_far, .int m_imageSize, .int m_farCount, .ref m_image, .int wq2, .ref m_out])) :: (m_out, .inl (tp_ty E 0, 40, .inl oq2)) :: (m_forms, .inl (tp_ty E 0, 46, .inl f_forms)) :: (m_names, .inl (tp_ty E 1, 46, .inr (.inl f_names))) :: fr) H := hP
        have hD : va_D A ((aM, .inr (4, [.int 0, .ref m_names, .ref m_forms, .int m_size, .ref m_text, .int m_bad, .int m_at, .int m_length, .ref m_word, .int m_form, .int m_code, .int m_d, .int m_s, .int m_t, .long m_value, .long m_label, .long m_name, .ref m_count, .ref m_formOf, .ref m_codeOf, .ref m_dOf, .ref m_sOf, .ref m_tOf, .ref m_valueOf, .ref m_labelOf, .ref m_nameOf, .ref m_target, .ref m_place, .ref m_far, .int m_imageSize, .int m_farCount, .ref m_image, .int wq2, .ref m_out])) :: (m_out, .inl (tp_ty E 0, 40, .inl oq2)) :: (m_forms, .inl (tp_ty E 0, 46, .inl f_forms)) :: (m_names, .inl (tp_ty E 1, 46, .inr (.inl f_names))) :: fr) := hD
        refine lv_iload_n hx hb d_M_show_212 rfl (lv_at hl 7 rfl) ?_
        refine lv_bipush (v := 20) hx hb d_M_show_213 (by decide) ?_
        refine lv_iushr (v := (xw.toUInt32 >>> (Int32.toUInt32 20 &&& Int32.toUInt32 31)).toInt32) hx hb d_M_show_215 rfl ?_
        refine lv_bipush (v := 12) hx hb d_M_show_216 (by decide) ?_
        refine tp_ci (tp_rS (As := [.int ((xw.toUInt32 >>> (Int32.toUInt32 20 &&& Int32.toUInt32 31)).toInt32), .int 12]) (rest := []) ⟨hx, hb, hml, hown, htg⟩ (a_M_signed12 l E ((aM, .inr (4, [.int 0, .ref m_names, .ref m_forms, .int m_size, .ref m_text, .int m_bad, .int m_at, .int m_length, .ref m_word, .int m_form, .int m_code, .int m_d, .int m_s, .int m_t, .long m_value, .long m_label, .long m_name, .ref m_count, .ref m_formOf, .ref m_codeOf, .ref m_dOf, .ref m_sOf, .ref m_tOf, .ref m_valueOf, .ref m_labelOf, .ref m_nameOf, .ref m_target, .ref m_place, .ref m_far, .int m_imageSize, .int m_farCount, .ref m_image, .int wq2, .ref m_out])) :: (m_out, .inl (tp_ty E 0, 40, .inl oq2)) :: (m_forms, .inl (tp_ty E 0, 46, .inl f_forms)) :: (m_names, .inl (tp_ty E 1, 46, .inr (.inl f_names))) :: fr) _ ((xw.toUInt32 >>> (Int32.toUInt32 20 &&& Int32.toUInt32 31)).toInt32) ) (⟨callB_of 2 htg (tp_good0 kc_M_signed) rfl rfl rfl (htg _ ki_M) (htg _ kl_M_428) ⟨by decide, by decide, by decide +kernel⟩ ⟨Nat.le_of_ble_eq_true rfl, Nat.le_of_ble_eq_true rfl⟩, htg _ ks_M_signed⟩) hK hP hD hS hA rfl hl.1 rfl (Nat.le_of_ble_eq_true rfl) d_M_show_218 ⟨Nat.le_of_ble_eq_true rfl, Nat.le_of_ble_eq_true rfl⟩) hD hS hA (fun r u H locs hw hP hD hS => ?_)
        subst r
        have hP : va_P (tp_D E) tp_cl ((aM, .inr (4, [.int 0, .ref m_names, .ref m_forms, .int m_size, .ref m_text, .int m_bad, .int m_at, .int m_length, .ref m_word, .int m_form, .int m_code, .int m_d, .int m_s, .int m_t, .long m_value, .long m_label, .long m_name, .ref m_count, .ref m_formOf, .ref m_codeOf, .ref m_dOf, .ref m_sOf, .ref m_tOf, .ref m_valueOf, .ref m_labelOf, .ref m_nameOf, .ref m_target, .ref m_place, .ref m_far, .int m_imageSize, .int m_farCount, .ref m_image, .int wq2, .ref m_out])) :: (m_out, .inl (tp_ty E 0, 40, .inl oq2)) :: (m_forms, .inl (tp_ty E 0, 46, .inl f_forms)) :: (m_names, .inl (tp_ty E 1, 46, .inr (.inl f_names))) :: fr) H := hP
        have hD : va_D A ((aM, .inr (4, [.int 0, .ref m_names, .ref m_forms, .int m_size, .ref m_text, .int m_bad, .int m_at, .int m_length, .ref m_word, .int m_form, .int m_code, .int m_d, .int m_s, .int m_t, .long m_value, .long m_label, .long m_name, .ref m_count, .ref m_formOf, .ref m_codeOf, .ref m_dOf, .ref m_sOf, .ref m_tOf, .ref m_valueOf, .ref m_labelOf, .ref m_nameOf, .ref m_target, .ref m_place, .ref m_far, .int m_imageSize, .int m_farCount, .ref m_image, .int wq2, .ref m_out])) :: (m_out, .inl (tp_ty E 0, 40, .inl oq2)) :: (m_forms, .inl (tp_ty E 0, 46, .inl f_forms)) :: (m_names, .inl (tp_ty E 1, 46, .inr (.inl f_names))) :: fr) := hD
        refine lv_istore (lv' := [(8, .int (if (xw.toUInt32 >>> (Int32.toUInt32 20 &&& Int32.toUInt32 31)).toInt32 < 2048 then (xw.toUInt32 >>> (Int32.toUInt32 20 &&& Int32.toUInt32 31)).toInt32 else (xw.toUInt32 >>> (Int32.toUInt32 20 &&& Int32.toUInt32 31)).toInt32 - 4096)), (7, .int 0), (6, .int ((xw >>> (20 &&& 31 : Int32)) &&& 31)), (5, .int ((xw >>> (15 &&& 31 : Int32)) &&& 31)), (4, .int ((xw >>> (7 &&& 31 : Int32)) &&& 31)), (3, .int 6), (2, .int ko), (0, .ref aM), (1, .int xw)]) hx hb d_M_show_221 hl (by decide) rfl (fun ls hl => ?_)
        refine lv_iload_n hx hb d_M_show_223 rfl (lv_at hl 5 rfl) ?_
        refine lv_iconst (v := 3) hx hb d_M_show_224 (by decide) ?_
        refine lv_icmp_ne (tgt := 237) hx hb d_M_show_225 (by decide) (fun _ => ?_) (fun h => absurd h (by decide))
        refine lv_iload_n hx hb d_M_show_237 rfl (lv_at hl 5 rfl) ?_
        refine lv_iconst (v := 4) hx hb d_M_show_238 (by decide) ?_
        refine lv_icmp_ne (tgt := 248) hx hb d_M_show_239 (by decide) (fun _ => ?_) (fun h => absurd h (by decide))
        refine lv_iload_n hx hb d_M_show_248 rfl (lv_at hl 5 rfl) ?_
        refine lv_bipush (v := 6) hx hb d_M_show_249 (by decide) ?_
        refine lv_icmp_ne (tgt := 271) hx hb d_M_show_251 (by decide) (fun h => absurd (by decide) h) (fun _ => ?_)
        refine lv_iload_n hx hb d_M_show_254 rfl (lv_at hl 8 rfl) ?_
        refine lv_bipush (v := 25) hx hb d_M_show_255 (by decide) ?_
        refine lv_iushr (v := (xw.toUInt32 >>> (Int32.toUInt32 25 &&& Int32.toUInt32 31)).toInt32) hx hb d_M_show_257 rfl ?_
        refine lv_bipush (v := 32) hx hb d_M_show_258 (by decide) ?_
        refine lv_imul hx hb d_M_show_260 ?_
        refine lv_iload hx hb d_M_show_261 (lv_at hl 4 rfl) ?_
        refine lv_iadd hx hb d_M_show_263 ?_
        refine lv_bipush (v := 12) hx hb d_M_show_264 (by decide) ?_
        refine tp_ci (tp_rS (As := [.int (((xw.toUInt32 >>> (Int32.toUInt32 25 &&& Int32.toUInt32 31)).toInt32 * 32) + ((xw >>> (7 &&& 31 : Int32)) &&& 31)), .int 12]) (rest := []) ⟨hx, hb, hml, hown, htg⟩ (a_M_signed12 l E ((aM, .inr (4, [.int 0, .ref m_names, .ref m_forms, .int m_size, .ref m_text, .int m_bad, .int m_at, .int m_length, .ref m_word, .int m_form, .int m_code, .int m_d, .int m_s, .int m_t, .long m_value, .long m_label, .long m_name, .ref m_count, .ref m_formOf, .ref m_codeOf, .ref m_dOf, .ref m_sOf, .ref m_tOf, .ref m_valueOf, .ref m_labelOf, .ref m_nameOf, .ref m_target, .ref m_place, .ref m_far, .int m_imageSize, .int m_farCount, .ref m_image, .int wq2, .ref m_out])) :: (m_out, .inl (tp_ty E 0, 40, .inl oq2)) :: (m_forms, .inl (tp_ty E 0, 46, .inl f_forms)) :: (m_names, .inl (tp_ty E 1, 46, .inr (.inl f_names))) :: fr) _ (((xw.toUInt32 >>> (Int32.toUInt32 25 &&& Int32.toUInt32 31)).toInt32 * 32) + ((xw >>> (7 &&& 31 : Int32)) &&& 31)) ) (⟨callB_of 2 htg (tp_good0 kc_M_signed) rfl rfl rfl (htg _ ki_M) (htg _ kl_M_428) ⟨by decide, by decide, by decide +kernel⟩ ⟨Nat.le_of_ble_eq_true rfl, Nat.le_of_ble_eq_true rfl⟩, htg _ ks_M_signed⟩) hK hP hD hS hA rfl hl.1 rfl (Nat.le_of_ble_eq_true rfl) d_M_show_266 ⟨Nat.le_of_ble_eq_true rfl, Nat.le_of_ble_eq_true rfl⟩) hD hS hA (fun r u H locs hw hP hD hS => ?_)
        subst r
        have hP : va_P (tp_D E) tp_cl ((aM, .inr (4, [.int 0, .ref m_names, .ref m_forms, .int m_size, .ref m_text, .int m_bad, .int m_at, .int m_length, .ref m_word, .int m_form, .int m_code, .int m_d, .int m_s, .int m_t, .long m_value, .long m_label, .long m_name, .ref m_count, .ref m_formOf, .ref m_codeOf, .ref m_dOf, .ref m_sOf, .ref m_tOf, .ref m_valueOf, .ref m_labelOf, .ref m_nameOf, .ref m_target, .ref m_place, .ref m_far, .int m_imageSize, .int m_farCount, .ref m_image, .int wq2, .ref m_out])) :: (m_out, .inl (tp_ty E 0, 40, .inl oq2)) :: (m_forms, .inl (tp_ty E 0, 46, .inl f_forms)) :: (m_names, .inl (tp_ty E 1, 46, .inr (.inl f_names))) :: fr) H := hP
        have hD : va_D A ((aM, .inr (4, [.int 0, .ref m_names, .ref m_forms, .int m_size, .ref m_text, .int m_bad, .int m_at, .int m_length, .ref m_word, .int m_form, .int m_code, .int m_d, .int m_s, .int m_t, .long m_value, .long m_label, .long m_name, .ref m_count, .ref m_formOf, .ref m_codeOf, .ref m_dOf, .ref m_sOf, .ref m_tOf, .ref m_valueOf, .ref m_labelOf, .ref m_nameOf, .ref m_target, .ref m_place, .ref m_far, .int m_imageSize, .int m_farCount, .ref m_image, .int wq2, .ref m_out])) :: (m_out, .inl (tp_ty E 0, 40, .inl oq2)) :: (m_forms, .inl (tp_ty E 0, 46, .inl f_forms)) :: (m_names, .inl (tp_ty E 1, 46, .inr (.inl f_names))) :: fr) := hD
        refine lv_istore (lv' := [(8, .int (if (((xw.toUInt32 >>> (Int32.toUInt32 25 &&& Int32.toUInt32 31)).toInt32 * 32) + ((xw >>> (7 &&& 31 : Int32)) &&& 31)) < 2048 then (((xw.toUInt32 >>> (Int32.toUInt32 25 &&& Int32.toUInt32 31)).toInt32 * 32) + ((xw >>> (7 &&& 31 : Int32)) &&& 31)) else (((xw.toUInt32 >>> (Int32.toUInt32 25 &&& Int32.toUInt32 31)).toInt32 * 32) + ((xw >>> (7 &&& 31 : Int32)) &&& 31)) - 4096)), (7, .int 0), (6, .int ((xw >>> (20 &&& 31 : Int32)) &&& 31)), (5, .int ((xw >>> (15 &&& 31 : Int32)) &&& 31)), (4, .int ((xw >>> (7 &&& 31 : Int32)) &&& 31)), (3, .int 6), (2, .int ko), (0, .ref aM), (1, .int xw)]) hx hb d_M_show_269 hl (by decide) rfl (fun ls hl => ?_)
        refine lv_iload_n hx hb d_M_show_271 rfl (lv_at hl 5 rfl) ?_
        refine lv_bipush (v := 7) hx hb d_M_show_272 (by decide) ?_
        refine lv_icmp_ne (tgt := 324) hx hb d_M_show_274 (by decide) (fun _ => ?_) (fun h => absurd h (by decide))
        refine lv_iload_n hx hb d_M_show_324 rfl (lv_at hl 5 rfl) ?_
        refine lv_bipush (v := 8) hx hb d_M_show_325 (by decide) ?_
        refine lv_icmp_ne (tgt := 380) hx hb d_M_show_327 (by decide) (fun _ => ?_) (fun h => absurd h (by decide))
        refine lv_aload_n hx hb d_M_show_380 rfl (lv_at hl 7 rfl) ?_
        refine lv_iload hx hb d_M_show_381 (lv_at hl 0 rfl) ?_
        have gn := (tp_dl10 (xv := (if (((xw.toUInt32 >>> (Int32.toUInt32 25 &&& Int32.toUInt32 31)).toInt32 * 32) + ((xw >>> (7 &&& 31 : Int32)) &&& 31)) < 2048 then (((xw.toUInt32 >>> (Int32.toUInt32 25 &&& Int32.toUInt32 31)).toInt32 * 32) + ((xw >>> (7 &&& 31 : Int32)) &&& 31)) else (((xw.toUInt32 >>> (Int32.toUInt32 25 &&& Int32.toUInt32 31)).toInt32 * 32) + ((xw >>> (7 &&& 31 : Int32)) &&& 31)) - 4096))).1
        refine tp_cv (tp_rV (As := [.int (if (((xw.toUInt32 >>> (Int32.toUInt32 25 &&& Int32.toUInt32 31)).toInt32 * 32) + ((xw >>> (7 &&& 31 : Int32)) &&& 31)) < 2048 then (((xw.toUInt32 >>> (Int32.toUInt32 25 &&& Int32.toUInt32 31)).toInt32 * 32) + ((xw >>> (7 &&& 31 : Int32)) &&& 31)) else (((xw.toUInt32 >>> (Int32.toUInt32 25 &&& Int32.toUInt32 31)).toInt32 * 32) + ((xw >>> (7 &&& 31 : Int32)) &&& 31)) - 4096)]) (rest := []) ⟨hx, hb, hml, hown, htg⟩ (a_M_writeNumber l E ((m_forms, .inl (tp_ty E 0, 46, .inl f_forms)) :: (m_names, .inl (tp_ty E 1, 46, .inr (.inl f_names))) :: fr) _ aM m_names m_forms m_text m_word m_count m_formOf m_codeOf m_dOf m_sOf m_tOf m_valueOf m_labelOf m_nameOf m_target m_place m_far m_image m_out 0 m_size m_bad m_at m_length m_form m_code m_d m_s m_t m_imageSize m_farCount wq2 m_value m_label m_name oq2 (if (((xw.toUInt32 >>> (Int32.toUInt32 25 &&& Int32.toUInt32 31)).toInt32 * 32) + ((xw >>> (7 &&& 31 : Int32)) &&& 31)) < 2048 then (((xw.toUInt32 >>> (Int32.toUInt32 25 &&& Int32.toUInt32 31)).toInt32 * 32) + ((xw >>> (7 &&& 31 : Int32)) &&& 31)) else (((xw.toUInt32 >>> (Int32.toUInt32 25 &&& Int32.toUInt32 31)).toInt32 * 32) + ((xw >>> (7 &&& 31 : Int32)) &&& 31)) - 4096) (by omega)) (⟨callB_of 1 htg (tp_good0 kc_M_writeNumber) rfl rfl rfl (htg _ ki_M) (htg _ kl_M_419) ⟨by decide, by decide, by decide +kernel⟩ ⟨Nat.le_of_ble_eq_true rfl, Nat.le_of_ble_eq_true rfl⟩, htg _ km_M_writeNumber, htg _ kp_M_writeNumber⟩) (va_recv (ci := 4) (q0 := 0) hK.1 hP rfl rfl) hK hP hD hS hA rfl hl.1 rfl (Nat.le_of_ble_eq_true rfl) d_M_show_383 ⟨Nat.le_of_ble_eq_true rfl, Nat.le_of_ble_eq_true rfl⟩) hD hS hA (fun u H locs hw hP hD hS => ?_)
        obtain ⟨wq3, oq3⟩ := u
        have hwq3 : wq3.toInt = wq2.toInt + (tp_dl (if (((xw.toUInt32 >>> (Int32.toUInt32 25 &&& Int32.toUInt32 31)).toInt32 * 32) + ((xw >>> (7 &&& 31 : Int32)) &&& 31)) < 2048 then (((xw.toUInt32 >>> (Int32.toUInt32 25 &&& Int32.toUInt32 31)).toInt32 * 32) + ((xw >>> (7 &&& 31 : Int32)) &&& 31)) else (((xw.toUInt32 >>> (Int32.toUInt32 25 &&& Int32.toUInt32 31)).toInt32 * 32) + ((xw >>> (7 &&& 31 : Int32)) &&& 31)) - 4096) : Int) := hw
        have hP : va_P (tp_D E) tp_cl ((aM, .inr (4, [.int 0, .ref m_names, .ref m_forms, .int m_size, .ref m_text, .int m_bad, .int m_at, .int m_length, .ref m_word, .int m_form, .int m_code, .int m_d, .int m_s, .int m_t, .long m_value, .long m_label, .long m_name, .ref m_count, .ref m_formOf, .ref m_codeOf, .ref m_dOf, .ref m_sOf, .ref m_tOf, .ref m_valueOf, .ref m_labelOf, .ref m_nameOf, .ref m_target, .ref m_place, .ref m_far, .int m_imageSize, .int m_farCount, .ref m_image, .int wq3, .ref m_out])) :: (m_out, .inl (tp_ty E 0, 40, .inl oq3)) :: (m_forms, .inl (tp_ty E 0, 46, .inl f_forms)) :: (m_names, .inl (tp_ty E 1, 46, .inr (.inl f_names))) :: fr) H := hP
        have hD : va_D A ((aM, .inr (4, [.int 0, .ref m_names, .ref m_forms, .int m_size, .ref m_text, .int m_bad, .int m_at, .int m_length, .ref m_word, .int m_form, .int m_code, .int m_d, .int m_s, .int m_t, .long m_value, .long m_label, .long m_name, .ref m_count, .ref m_formOf, .ref m_codeOf, .ref m_dOf, .ref m_sOf, .ref m_tOf, .ref m_valueOf, .ref m_labelOf, .ref m_nameOf, .ref m_target, .ref m_place, .ref m_far, .int m_imageSize, .int m_farCount, .ref m_image, .int wq3, .ref m_out])) :: (m_out, .inl (tp_ty E 0, 40, .inl oq3)) :: (m_forms, .inl (tp_ty E 0, 46, .inl f_forms)) :: (m_names, .inl (tp_ty E 1, 46, .inr (.inl f_names))) :: fr) := hD
        refine lv_iload_n hx hb d_M_show_386 rfl (lv_at hl 5 rfl) ?_
        refine lv_iconst (v := 5) hx hb d_M_show_387 (by decide) ?_
        refine lv_icmp_eq (tgt := 397) hx hb d_M_show_388 (by decide) (fun h => absurd h (by decide)) (fun _ => ?_)
        refine lv_iload_n hx hb d_M_show_391 rfl (lv_at hl 5 rfl) ?_
        refine lv_bipush (v := 6) hx hb d_M_show_392 (by decide) ?_
        refine lv_icmp_ne (tgt := 411) hx hb d_M_show_394 (by decide) (fun h => absurd (by decide) h) (fun _ => ?_)
        refine lv_aload_n hx hb d_M_show_397 rfl (lv_at hl 7 rfl) ?_
        refine lv_bipush (v := 40) hx hb d_M_show_398 (by decide) ?_
        refine lv_iload hx hb d_M_show_400 (lv_at hl 3 rfl) ?_
        refine tp_cv (tp_rV (As := [.int 40, .int ((xw >>> (15 &&& 31 : Int32)) &&& 31)]) (rest := []) ⟨hx, hb, hml, hown, htg⟩ (a_M_writeRegister l E ((m_forms, .inl (tp_ty E 0, 46, .inl f_forms)) :: (m_names, .inl (tp_ty E 1, 46, .inr (.inl f_names))) :: fr) _ aM m_names m_forms m_text m_word m_count m_formOf m_codeOf m_dOf m_sOf m_tOf m_valueOf m_labelOf m_nameOf m_target m_place m_far m_image m_out 0 m_size m_bad m_at m_length m_form m_code m_d m_s m_t m_imageSize m_farCount wq3 m_value m_label m_name oq3 40 ((xw >>> (15 &&& 31 : Int32)) &&& 31) (by omega)) (⟨callB_of 2 htg (tp_good0 kc_M_writeRegister) rfl rfl rfl (htg _ ki_M) (htg _ kl_M_425) ⟨by decide, by decide, by decide +kernel⟩ ⟨Nat.le_of_ble_eq_true rfl, Nat.le_of_ble_eq_true rfl⟩, htg _ km_M_writeRegister, htg _ kp_M_writeRegister⟩) (va_recv (ci := 4) (q0 := 0) hK.1 hP rfl rfl) hK hP hD hS hA rfl hl.1 rfl (Nat.le_of_ble_eq_true rfl) d_M_show_402 ⟨Nat.le_of_ble_eq_true rfl, Nat.le_of_ble_eq_true rfl⟩) hD hS hA (fun u H locs hw hP hD hS => ?_)
        obtain ⟨wq4, oq4⟩ := u
        have hwq4 : wq4.toInt = wq3.toInt + 2 + (tp_dl ((xw >>> (15 &&& 31 : Int32)) &&& 31) : Int) := hw
        have hP : va_P (tp_D E) tp_cl ((aM, .inr (4, [.int 0, .ref m_names, .ref m_forms, .int m_size, .ref m_text, .int m_bad, .int m_at, .int m_length, .ref m_word, .int m_form, .int m_code, .int m_d, .int m_s, .int m_t, .long m_value, .long m_label, .long m_name, .ref m_count, .ref m_formOf, .ref m_codeOf, .ref m_dOf, .ref m_sOf, .ref m_tOf, .ref m_valueOf, .ref m_labelOf, .ref m_nameOf, .ref m_target, .ref m_place, .ref m_far, .int m_imageSize, .int m_farCount, .ref m_image, .int wq4, .ref m_out])) :: (m_out, .inl (tp_ty E 0, 40, .inl oq4)) :: (m_forms, .inl (tp_ty E 0, 46, .inl f_forms)) :: (m_names, .inl (tp_ty E 1, 46, .inr (.inl f_names))) :: fr) H := hP
        have hD : va_D A ((aM, .inr (4, [.int 0, .ref m_names, .ref m_forms, .int m_size, .ref m_text, .int m_bad, .int m_at, .int m_length, .ref m_word, .int m_form, .int m_code, .int m_d, .int m_s, .int m_t, .long m_value, .long m_label, .long m_name, .ref m_count, .ref m_formOf, .ref m_codeOf, .ref m_dOf, .ref m_sOf, .ref m_tOf, .ref m_valueOf, .ref m_labelOf, .ref m_nameOf, .ref m_target, .ref m_place, .ref m_far, .int m_imageSize, .int m_farCount, .ref m_image, .int wq4, .ref m_out])) :: (m_out, .inl (tp_ty E 0, 40, .inl oq4)) :: (m_forms, .inl (tp_ty E 0, 46, .inl f_forms)) :: (m_names, .inl (tp_ty E 1, 46, .inr (.inl f_names))) :: fr) := hD
        refine lv_aload_n hx hb d_M_show_405 rfl (lv_at hl 7 rfl) ?_
        refine lv_bipush (v := 41) hx hb d_M_show_406 (by decide) ?_
        refine tp_cv (tp_rV (As := [.int 41]) (rest := []) ⟨hx, hb, hml, hown, htg⟩ (a_M_write l E ((m_forms, .inl (tp_ty E 0, 46, .inl f_forms)) :: (m_names, .inl (tp_ty E 1, 46, .inr (.inl f_names))) :: fr) _ aM m_names m_forms m_text m_word m_count m_formOf m_codeOf m_dOf m_sOf m_tOf m_valueOf m_labelOf m_nameOf m_target m_place m_far m_image m_out 0 m_size m_bad m_at m_length m_form m_code m_d m_s m_t m_imageSize m_farCount wq4 m_value m_label m_name oq4 41 (by omega)) (⟨callB_of 1 htg (tp_good0 kc_M_write) rfl rfl rfl (htg _ ki_M) (htg _ kl_M_414) ⟨by decide, by decide, by decide +kernel⟩ ⟨Nat.le_of_ble_eq_true rfl, Nat.le_of_ble_eq_true rfl⟩, htg _ km_M_write, htg _ kp_M_write⟩) (va_recv (ci := 4) (q0 := 0) hK.1 hP rfl rfl) hK hP hD hS hA rfl hl.1 rfl (Nat.le_of_ble_eq_true rfl) d_M_show_408 ⟨Nat.le_of_ble_eq_true rfl, Nat.le_of_ble_eq_true rfl⟩) hD hS hA (fun u H locs hw hP hD hS => ?_)
        obtain ⟨wq5, oq5⟩ := u
        have hwq5 : wq5.toInt = wq4.toInt + 1 := hw
        have hP : va_P (tp_D E) tp_cl ((aM, .inr (4, [.int 0, .ref m_names, .ref m_forms, .int m_size, .ref m_text, .int m_bad, .int m_at, .int m_length, .ref m_word, .int m_form, .int m_code, .int m_d, .int m_s, .int m_t, .long m_value, .long m_label, .long m_name, .ref m_count, .ref m_formOf, .ref m_codeOf, .ref m_dOf, .ref m_sOf, .ref m_tOf, .ref m_valueOf, .ref m_labelOf, .ref m_nameOf, .ref m_target, .ref m_place, .ref m_far, .int m_imageSize, .int m_farCount, .ref m_image, .int wq5, .ref m_out])) :: (m_out, .inl (tp_ty E 0, 40, .inl oq5)) :: (m_forms, .inl (tp_ty E 0, 46, .inl f_forms)) :: (m_names, .inl (tp_ty E 1, 46, .inr (.inl f_names))) :: fr) H := hP
        have hD : va_D A ((aM, .inr (4, [.int 0, .ref m_names, .ref m_forms, .int m_size, .ref m_text, .int m_bad, .int m_at, .int m_length, .ref m_word, .int m_form, .int m_code, .int m_d, .int m_s, .int m_t, .long m_value, .long m_label, .long m_name, .ref m_count, .ref m_formOf, .ref m_codeOf, .ref m_dOf, .ref m_sOf, .ref m_tOf, .ref m_valueOf, .ref m_labelOf, .ref m_nameOf, .ref m_target, .ref m_place, .ref m_far, .int m_imageSize, .int m_farCount, .ref m_image, .int wq5, .ref m_out])) :: (m_out, .inl (tp_ty E 0, 40, .inl oq5)) :: (m_forms, .inl (tp_ty E 0, 46, .inl f_forms)) :: (m_names, .inl (tp_ty E 1, 46, .inr (.inl f_names))) :: fr) := hD
        refine lv_aload_n hx hb d_M_show_411 rfl (lv_at hl 7 rfl) ?_
        refine va_get (D := tp_D E) (ci := 4) (v := .int wq5) (C := qR_M) (T := qF_M) (N := 34) hx hb htg qi_M hown hK.1 hP 0 rfl rfl 32 (by decide) (htg _ kl_M_411) (fun _ h => h) rfl d_M_show_412 ?_
        have hP : va_P (tp_D E) tp_cl ((m_out, .inl (tp_ty E 0, 40, .inl oq5)) :: (aM, .inr (4, [.int 0, .ref m_names, .ref m_forms, .int m_size, .ref m_text, .int m_bad, .int m_at, .int m_length, .ref m_word, .int m_form, .int m_code, .int m_d, .int m_s, .int m_t, .long m_value, .long m_label, .long m_name, .ref m_count, .ref m_formOf, .ref m_codeOf, .ref m_dOf, .ref m_sOf, .ref m_tOf, .ref m_valueOf, .ref m_labelOf, .ref m_nameOf, .ref m_target, .ref m_place, .ref m_far, .int m_imageSize, .int m_farCount, .ref m_image, .int wq5, .ref m_out])) :: (m_forms, .inl (tp_ty E 0, 46, .inl f_forms)) :: (m_names, .inl (tp_ty E 1, 46, .inr (.inl f_names))) :: fr) _ := tp_mvP 1 rfl hP
        have hD : va_D A ((m_out, .inl (tp_ty E 0, 40, .inl oq5)) :: (aM, .inr (4, [.int 0, .ref m_names, .ref m_forms, .int m_size, .ref m_text, .int m_bad, .int m_at, .int m_length, .ref m_word, .int m_form, .int m_code, .int m_d, .int m_s, .int m_t, .long m_value, .long m_label, .long m_name, .ref m_count, .ref m_formOf, .ref m_codeOf, .ref m_dOf, .ref m_sOf, .ref m_tOf, .ref m_valueOf, .ref m_labelOf, .ref m_nameOf, .ref m_target, .ref m_place, .ref m_far, .int m_imageSize, .int m_farCount, .ref m_image, .int wq5, .ref m_out])) :: (m_forms, .inl (tp_ty E 0, 46, .inl f_forms)) :: (m_names, .inl (tp_ty E 1, 46, .inr (.inl f_names))) :: fr) := tp_mvD 1 rfl hD
        have hP : va_P (tp_D E) tp_cl ((m_forms, .inl (tp_ty E 0, 46, .inl f_forms)) :: (m_out, .inl (tp_ty E 0, 40, .inl oq5)) :: (aM, .inr (4, [.int 0, .ref m_names, .ref m_forms, .int m_size, .ref m_text, .int m_bad, .int m_at, .int m_length, .ref m_word, .int m_form, .int m_code, .int m_d, .int m_s, .int m_t, .long m_value, .long m_label, .long m_name, .ref m_count, .ref m_formOf, .ref m_codeOf, .ref m_dOf, .ref m_sOf, .ref m_tOf, .ref m_valueOf, .ref m_labelOf, .ref m_nameOf, .ref m_target, .ref m_place, .ref m_far, .int m_imageSize, .int m_farCount, .ref m_image, .int wq5, .ref m_out])) :: (m_names, .inl (tp_ty E 1, 46, .inr (.inl f_names))) :: fr) _ := tp_mvP 2 rfl hP
        have hD : va_D A ((m_forms, .inl (tp_ty E 0, 46, .inl f_forms)) :: (m_out, .inl (tp_ty E 0, 40, .inl oq5)) :: (aM, .inr (4, [.int 0, .ref m_names, .ref m_forms, .int m_size, .ref m_text, .int m_bad, .int m_at, .int m_length, .ref m_word, .int m_form, .int m_code, .int m_d, .int m_s, .int m_t, .long m_value, .long m_label, .long m_name, .ref m_count, .ref m_formOf, .ref m_codeOf, .ref m_dOf, .ref m_sOf, .ref m_tOf, .ref m_valueOf, .ref m_labelOf, .ref m_nameOf, .ref m_target, .ref m_place, .ref m_far, .int m_imageSize, .int m_farCount, .ref m_image, .int wq5, .ref m_out])) :: (m_names, .inl (tp_ty E 1, 46, .inr (.inl f_names))) :: fr) := tp_mvD 2 rfl hD
        have hP : va_P (tp_D E) tp_cl ((m_names, .inl (tp_ty E 1, 46, .inr (.inl f_names))) :: (m_forms, .inl (tp_ty E 0, 46, .inl f_forms)) :: (m_out, .inl (tp_ty E 0, 40, .inl oq5)) :: (aM, .inr (4, [.int 0, .ref m_names, .ref m_forms, .int m_size, .ref m_text, .int m_bad, .int m_at, .int m_length, .ref m_word, .int m_form, .int m_code, .int m_d, .int m_s, .int m_t, .long m_value, .long m_label, .long m_name, .ref m_count, .ref m_formOf, .ref m_codeOf, .ref m_dOf, .ref m_sOf, .ref m_tOf, .ref m_valueOf, .ref m_labelOf, .ref m_nameOf, .ref m_target, .ref m_place, .ref m_far, .int m_imageSize, .int m_farCount, .ref m_image, .int wq5, .ref m_out])) :: fr) _ := tp_mvP 3 rfl hP
        have hD : va_D A ((m_names, .inl (tp_ty E 1, 46, .inr (.inl f_names))) :: (m_forms, .inl (tp_ty E 0, 46, .inl f_forms)) :: (m_out, .inl (tp_ty E 0, 40, .inl oq5)) :: (aM, .inr (4, [.int 0, .ref m_names, .ref m_forms, .int m_size, .ref m_text, .int m_bad, .int m_at, .int m_length, .ref m_word, .int m_form, .int m_code, .int m_d, .int m_s, .int m_t, .long m_value, .long m_label, .long m_name, .ref m_count, .ref m_formOf, .ref m_codeOf, .ref m_dOf, .ref m_sOf, .ref m_tOf, .ref m_valueOf, .ref m_labelOf, .ref m_nameOf, .ref m_target, .ref m_place, .ref m_far, .int m_imageSize, .int m_farCount, .ref m_image, .int wq5, .ref m_out])) :: fr) := tp_mvD 3 rfl hD
        have hP : va_P (tp_D E) tp_cl ((aM, .inr (4, [.int 0, .ref m_names, .ref m_forms, .int m_size, .ref m_text, .int m_bad, .int m_at, .int m_length, .ref m_word, .int m_form, .int m_code, .int m_d, .int m_s, .int m_t, .long m_value, .long m_label, .long m_name, .ref m_count, .ref m_formOf, .ref m_codeOf, .ref m_dOf, .ref m_sOf, .ref m_tOf, .ref m_valueOf, .ref m_labelOf, .ref m_nameOf, .ref m_target, .ref m_place, .ref m_far, .int m_imageSize, .int m_farCount, .ref m_image, .int wq5, .ref m_out])) :: (m_names, .inl (tp_ty E 1, 46, .inr (.inl f_names))) :: (m_forms, .inl (tp_ty E 0, 46, .inl f_forms)) :: (m_out, .inl (tp_ty E 0, 40, .inl oq5)) :: fr) _ := tp_mvP 3 rfl hP
        have hD : va_D A ((aM, .inr (4, [.int 0, .ref m_names, .ref m_forms, .int m_size, .ref m_text, .int m_bad, .int m_at, .int m_length, .ref m_word, .int m_form, .int m_code, .int m_d, .int m_s, .int m_t, .long m_value, .long m_label, .long m_name, .ref m_count, .ref m_formOf, .ref m_codeOf, .ref m_dOf, .ref m_sOf, .ref m_tOf, .ref m_valueOf, .ref m_labelOf, .ref m_nameOf, .ref m_target, .ref m_place, .ref m_far, .int m_imageSize, .int m_farCount, .ref m_image, .int wq5, .ref m_out])) :: (m_names, .inl (tp_ty E 1, 46, .inr (.inl f_names))) :: (m_forms, .inl (tp_ty E 0, 46, .inl f_forms)) :: (m_out, .inl (tp_ty E 0, 40, .inl oq5)) :: fr) := tp_mvD 3 rfl hD
        have hb40 : 0 ≤ wq5.toInt ∧ wq5.toInt ≤ 40 := by omega
        exact W.iret (v := wq5) hx hb hr (fun t ht hW => ⟨⟨_, (0, wq5, oq5), rfl, Or.inr ⟨rfl, ⟨ko, hmh, Int32.le_iff_toInt_le.mp h1, (by rw [hxf]; show _ = _ + (((2 + tp_dl ((xw >>> (20 &&& 31 : Int32)) &&& 31)) + 1 + tp_dl (if (((xw.toUInt32 >>> (Int32.toUInt32 25 &&& Int32.toUInt32 31)).toInt32 * 32) + ((xw >>> (7 &&& 31 : Int32)) &&& 31)) < 2048 then (((xw.toUInt32 >>> (Int32.toUInt32 25 &&& Int32.toUInt32 31)).toInt32 * 32) + ((xw >>> (7 &&& 31 : Int32)) &&& 31)) else (((xw.toUInt32 >>> (Int32.toUInt32 25 &&& Int32.toUInt32 31)).toInt32 * 32) + ((xw >>> (7 &&& 31 : Int32)) &&& 31)) - 4096) + (2 + tp_dl ((xw >>> (15 &&& 31 : Int32)) &&& 31)) + 1 : Nat) : Int); omega)⟩, rfl, hb40⟩, by rw [ht]; exact hP, hD⟩, hS.F ht⟩) hS.2.2 d_M_show_415
      · refine lv_istore_n (lv' := [(3, .int 7), (2, .int ko), (0, .ref aM), (1, .int xw)]) hx hb d_M_show_85 rfl hl (by decide) rfl (fun ls hl => ?_)
        refine lv_iload_n hx hb d_M_show_86 rfl (lv_at hl 3 rfl) ?_
        refine lv_bipush (v := 7) hx hb d_M_show_87 (by decide) ?_
        refine lv_ishr hx hb d_M_show_89 ?_
        refine lv_bipush (v := 31) hx hb d_M_show_90 (by decide) ?_
        refine lv_iand hx hb d_M_show_92 ?_
        refine lv_istore (lv' := [(4, .int ((xw >>> (7 &&& 31 : Int32)) &&& 31)), (3, .int 7), (2, .int ko), (0, .ref aM), (1, .int xw)]) hx hb d_M_show_93 hl (by decide) rfl (fun ls hl => ?_)
        refine lv_iload_n hx hb d_M_show_95 rfl (lv_at hl 4 rfl) ?_
        refine lv_bipush (v := 15) hx hb d_M_show_96 (by decide) ?_
        refine lv_ishr hx hb d_M_show_98 ?_
        refine lv_bipush (v := 31) hx hb d_M_show_99 (by decide) ?_
        refine lv_iand hx hb d_M_show_101 ?_
        refine lv_istore (lv' := [(5, .int ((xw >>> (15 &&& 31 : Int32)) &&& 31)), (4, .int ((xw >>> (7 &&& 31 : Int32)) &&& 31)), (3, .int 7), (2, .int ko), (0, .ref aM), (1, .int xw)]) hx hb d_M_show_102 hl (by decide) rfl (fun ls hl => ?_)
        refine lv_iload_n hx hb d_M_show_104 rfl (lv_at hl 5 rfl) ?_
        refine lv_bipush (v := 20) hx hb d_M_show_105 (by decide) ?_
        refine lv_ishr hx hb d_M_show_107 ?_
        refine lv_bipush (v := 31) hx hb d_M_show_108 (by decide) ?_
        refine lv_iand hx hb d_M_show_110 ?_
        refine lv_istore (lv' := [(6, .int ((xw >>> (20 &&& 31 : Int32)) &&& 31)), (5, .int ((xw >>> (15 &&& 31 : Int32)) &&& 31)), (4, .int ((xw >>> (7 &&& 31 : Int32)) &&& 31)), (3, .int 7), (2, .int ko), (0, .ref aM), (1, .int xw)]) hx hb d_M_show_111 hl (by decide) rfl (fun ls hl => ?_)
        refine lv_iload_n hx hb d_M_show_113 rfl (lv_at hl 3 rfl) ?_
        refine lv_bipush (v := 6) hx hb d_M_show_114 (by decide) ?_
        refine lv_icmp_eq (tgt := 129) hx hb d_M_show_116 (by decide) (fun h => absurd h (by decide)) (fun _ => ?_)
        refine lv_iload_n hx hb d_M_show_119 rfl (lv_at hl 3 rfl) ?_
        refine lv_bipush (v := 7) hx hb d_M_show_120 (by decide) ?_
        refine lv_icmp_eq (tgt := 129) hx hb d_M_show_122 (by decide) (fun _ => ?_) (fun h => absurd (by decide) h)
        refine lv_iconst (v := 0) hx hb d_M_show_129 (by decide) ?_
        refine lv_istore (lv' := [(7, .int 0), (6, .int ((xw >>> (20 &&& 31 : Int32)) &&& 31)), (5, .int ((xw >>> (15 &&& 31 : Int32)) &&& 31)), (4, .int ((xw >>> (7 &&& 31 : Int32)) &&& 31)), (3, .int 7), (2, .int ko), (0, .ref aM), (1, .int xw)]) hx hb d_M_show_130 hl (by decide) rfl (fun ls hl => ?_)
        refine lv_aload_n hx hb d_M_show_132 rfl (lv_at hl 6 rfl) ?_
        refine lv_bipush (v := 32) hx hb d_M_show_133 (by decide) ?_
        refine lv_iload hx hb d_M_show_135 (lv_at hl 0 rfl) ?_
        refine lv_if_eq (tgt := 145) hx hb d_M_show_137 (by decide) (fun _ => ?_) (fun h => absurd (by decide) h)
        refine lv_iload_n hx hb d_M_show_145 rfl (lv_at hl 4 rfl) ?_
        refine lv_bipush (v := 6) hx hb d_M_show_146 (by decide) ?_
        refine lv_icmp_ne (tgt := 156) hx hb d_M_show_148 (by decide) (fun _ => ?_) (fun h => absurd h (by decide))
        refine lv_iload hx hb d_M_show_156 (lv_at hl 2 rfl) ?_
        have hP : va_P (tp_D E) tp_cl ((m_out, .inl (tp_ty E 0, 40, .inl fo)) :: (aM, .inr (4, [.int 0, .ref m_names, .ref m_forms, .int m_size, .ref m_text, .int m_bad, .int m_at, .int m_length, .ref m_word, .int m_form, .int m_code, .int m_d, .int m_s, .int m_t, .long m_value, .long m_label, .long m_name, .ref m_count, .ref m_formOf, .ref m_codeOf, .ref m_dOf, .ref m_sOf, .ref m_tOf, .ref m_valueOf, .ref m_labelOf, .ref m_nameOf, .ref m_target, .ref m_place, .ref m_far, .int m_imageSize, .int m_farCount, .ref m_image, .int wv, .ref m_out])) :: (m_forms, .inl (tp_ty E 0, 46, .inl f_forms)) :: (m_names, .inl (tp_ty E 1, 46, .inr (.inl f_names))) :: fr) _ := tp_mvP 3 rfl hP
        have hD : va_D A ((m_out, .inl (tp_ty E 0, 40, .inl fo)) :: (aM, .inr (4, [.int 0, .ref m_names, .ref m_forms, .int m_size, .ref m_text, .int m_bad, .int m_at, .int m_length, .ref m_word, .int m_form, .int m_code, .int m_d, .int m_s, .int m_t, .long m_value, .long m_label, .long m_name, .ref m_count, .ref m_formOf, .ref m_codeOf, .ref m_dOf, .ref m_sOf, .ref m_tOf, .ref m_valueOf, .ref m_labelOf, .ref m_nameOf, .ref m_target, .ref m_place, .ref m_far, .int m_imageSize, .int m_farCount, .ref m_image, .int wv, .ref m_out])) :: (m_forms, .inl (tp_ty E 0, 46, .inl f_forms)) :: (m_names, .inl (tp_ty E 1, 46, .inr (.inl f_names))) :: fr) := tp_mvD 3 rfl hD
        have hP : va_P (tp_D E) tp_cl ((aM, .inr (4, [.int 0, .ref m_names, .ref m_forms, .int m_size, .ref m_text, .int m_bad, .int m_at, .int m_length, .ref m_word, .int m_form, .int m_code, .int m_d, .int m_s, .int m_t, .long m_value, .long m_label, .long m_name, .ref m_count, .ref m_formOf, .ref m_codeOf, .ref m_dOf, .ref m_sOf, .ref m_tOf, .ref m_valueOf, .ref m_labelOf, .ref m_nameOf, .ref m_target, .ref m_place, .ref m_far, .int m_imageSize, .int m_farCount, .ref m_image, .int wv, .ref m_out])) :: (m_out, .inl (tp_ty E 0, 40, .inl fo)) :: (m_forms, .inl (tp_ty E 0, 46, .inl f_forms)) :: (m_names, .inl (tp_ty E 1, 46, .inr (.inl f_names))) :: fr) _ := tp_mvP 1 rfl hP
        have hD : va_D A ((aM, .inr (4, [.int 0, .ref m_names, .ref m_forms, .int m_size, .ref m_text, .int m_bad, .int m_at, .int m_length, .ref m_word, .int m_form, .int m_code, .int m_d, .int m_s, .int m_t, .long m_value, .long m_label, .long m_name, .ref m_count, .ref m_formOf, .ref m_codeOf, .ref m_dOf, .ref m_sOf, .ref m_tOf, .ref m_valueOf, .ref m_labelOf, .ref m_nameOf, .ref m_target, .ref m_place, .ref m_far, .int m_imageSize, .int m_farCount, .ref m_image, .int wv, .ref m_out])) :: (m_out, .inl (tp_ty E 0, 40, .inl fo)) :: (m_forms, .inl (tp_ty E 0, 46, .inl f_forms)) :: (m_names, .inl (tp_ty E 1, 46, .inr (.inl f_names))) :: fr) := tp_mvD 1 rfl hD
        refine tp_cv (tp_rV (As := [.int 32, .int ((xw >>> (15 &&& 31 : Int32)) &&& 31)]) (rest := []) ⟨hx, hb, hml, hown, htg⟩ (a_M_writeRegister l E ((m_forms, .inl (tp_ty E 0, 46, .inl f_forms)) :: (m_names, .inl (tp_ty E 1, 46, .inr (.inl f_names))) :: fr) _ aM m_names m_forms m_text m_word m_count m_formOf m_codeOf m_dOf m_sOf m_tOf m_valueOf m_labelOf m_nameOf m_target m_place m_far m_image m_out 0 m_size m_bad m_at m_length m_form m_code m_d m_s m_t m_imageSize m_farCount wv m_value m_label m_name fo 32 ((xw >>> (15 &&& 31 : Int32)) &&& 31) (by omega)) (⟨callB_of 2 htg (tp_good0 kc_M_writeRegister) rfl rfl rfl (htg _ ki_M) (htg _ kl_M_425) ⟨by decide, by decide, by decide +kernel⟩ ⟨Nat.le_of_ble_eq_true rfl, Nat.le_of_ble_eq_true rfl⟩, htg _ km_M_writeRegister, htg _ kp_M_writeRegister⟩) (va_recv (ci := 4) (q0 := 0) hK.1 hP rfl rfl) hK hP hD hS hA rfl hl.1 rfl (Nat.le_of_ble_eq_true rfl) d_M_show_158 ⟨Nat.le_of_ble_eq_true rfl, Nat.le_of_ble_eq_true rfl⟩) hD hS hA (fun u H locs hw hP hD hS => ?_)
        obtain ⟨wq1, oq1⟩ := u
        have hwq1 : wq1.toInt = wv.toInt + 2 + (tp_dl ((xw >>> (15 &&& 31 : Int32)) &&& 31) : Int) := hw
        have hP : va_P (tp_D E) tp_cl ((aM, .inr (4, [.int 0, .ref m_names, .ref m_forms, .int m_size, .ref m_text, .int m_bad, .int m_at, .int m_length, .ref m_word, .int m_form, .int m_code, .int m_d, .int m_s, .int m_t, .long m_value, .long m_label, .long m_name, .ref m_count, .ref m_formOf, .ref m_codeOf, .ref m_dOf, .ref m_sOf, .ref m_tOf, .ref m_valueOf, .ref m_labelOf, .ref m_nameOf, .ref m_target, .ref m_place, .ref m_far, .int m_imageSize, .int m_farCount, .ref m_image, .int wq1, .ref m_out])) :: (m_out, .inl (tp_ty E 0, 40, .inl oq1)) :: (m_forms, .inl (tp_ty E 0, 46, .inl f_forms)) :: (m_names, .inl (tp_ty E 1, 46, .inr (.inl f_names))) :: fr) H := hP
        have hD : va_D A ((aM, .inr (4, [.int 0, .ref m_names, .ref m_forms, .int m_size, .ref m_text, .int m_bad, .int m_at, .int m_length, .ref m_word, .int m_form, .int m_code, .int m_d, .int m_s, .int m_t, .long m_value, .long m_label, .long m_name, .ref m_count, .ref m_formOf, .ref m_codeOf, .ref m_dOf, .ref m_sOf, .ref m_tOf, .ref m_valueOf, .ref m_labelOf, .ref m_nameOf, .ref m_target, .ref m_place, .ref m_far, .int m_imageSize, .int m_farCount, .ref m_image, .int wq1, .ref m_out])) :: (m_out, .inl (tp_ty E 0, 40, .inl oq1)) :: (m_forms, .inl (tp_ty E 0, 46, .inl f_forms)) :: (m_names, .inl (tp_ty E 1, 46, .inr (.inl f_names))) :: fr) := hD
        refine lv_iload_n hx hb d_M_show_161 rfl (lv_at hl 4 rfl) ?_
        refine lv_iconst (v := 4) hx hb d_M_show_162 (by decide) ?_
        refine lv_icmp_ge (tgt := 174) hx hb d_M_show_163 (by decide) (fun _ => ?_) (fun h => absurd (by decide) h)
        refine lv_iload_n hx hb d_M_show_174 rfl (lv_at hl 4 rfl) ?_
        refine lv_bipush (v := 7) hx hb d_M_show_175 (by decide) ?_
        refine lv_icmp_ne (tgt := 188) hx hb d_M_show_177 (by decide) (fun h => absurd (by decide) h) (fun _ => ?_)
        refine lv_aload_n hx hb d_M_show_180 rfl (lv_at hl 6 rfl) ?_
        refine lv_bipush (v := 44) hx hb d_M_show_181 (by decide) ?_
        refine lv_iload hx hb d_M_show_183 (lv_at hl 1 rfl) ?_
        refine tp_cv (tp_rV (As := [.int 44, .int ((xw >>> (20 &&& 31 : Int32)) &&& 31)]) (rest := []) ⟨hx, hb, hml, hown, htg⟩ (a_M_writeRegister l E ((m_forms, .inl (tp_ty E 0, 46, .inl f_forms)) :: (m_names, .inl (tp_ty E 1, 46, .inr (.inl f_names))) :: fr) _ aM m_names m_forms m_text m_word m_count m_formOf m_codeOf m_dOf m_sOf m_tOf m_valueOf m_labelOf m_nameOf m_target m_place m_far m_image m_out 0 m_size m_bad m_at m_length m_form m_code m_d m_s m_t m_imageSize m_farCount wq1 m_value m_label m_name oq1 44 ((xw >>> (20 &&& 31 : Int32)) &&& 31) (by omega)) (⟨callB_of 2 htg (tp_good0 kc_M_writeRegister) rfl rfl rfl (htg _ ki_M) (htg _ kl_M_425) ⟨by decide, by decide, by decide +kernel⟩ ⟨Nat.le_of_ble_eq_true rfl, Nat.le_of_ble_eq_true rfl⟩, htg _ km_M_writeRegister, htg _ kp_M_writeRegister⟩) (va_recv (ci := 4) (q0 := 0) hK.1 hP rfl rfl) hK hP hD hS hA rfl hl.1 rfl (Nat.le_of_ble_eq_true rfl) d_M_show_185 ⟨Nat.le_of_ble_eq_true rfl, Nat.le_of_ble_eq_true rfl⟩) hD hS hA (fun u H locs hw hP hD hS => ?_)
        obtain ⟨wq2, oq2⟩ := u
        have hwq2 : wq2.toInt = wq1.toInt + 2 + (tp_dl ((xw >>> (20 &&& 31 : Int32)) &&& 31) : Int) := hw
        have hP : va_P (tp_D E) tp_cl ((aM, .inr (4, [.int 0, .ref m_names, .ref m_forms, .int m_size, .ref m_text, .int m_bad, .int m_at, .int m_length, .ref m_word, .int m_form, .int m_code, .int m_d, .int m_s, .int m_t, .long m_value, .long m_label, .long m_name, .ref m_count, .ref m_formOf, .ref m_codeOf, .ref m_dOf, .ref m_sOf, .ref m_tOf, .ref m_valueOf, .ref m_labelOf, .ref m_nameOf, .ref m_target, .ref m_place, .ref m_far, .int m_imageSize, .int m_farCount, .ref m_image, .int wq2, .ref m_out])) :: (m_out, .inl (tp_ty E 0, 40, .inl oq2)) :: (m_forms, .inl (tp_ty E 0, 46, .inl f_forms)) :: (m_names, .inl (tp_ty E 1, 46, .inr (.inl f_names))) :: fr) H := hP
        have hD : va_D A ((aM, .inr (4, [.int 0, .ref m_names, .ref m_forms, .int m_size, .ref m_text, .int m_bad, .int m_at, .int m_length, .ref m_word, .int m_form, .int m_code, .int m_d, .int m_s, .int m_t, .long m_value, .long m_label, .long m_name, .ref m_count, .ref m_formOf, .ref m_codeOf, .ref m_dOf, .ref m_sOf, .ref m_tOf, .ref m_valueOf, .ref m_labelOf, .ref m_nameOf, .ref m_target, .ref m_place, .ref m_far, .int m_imageSize, .int m_farCount, .ref m_image, .int wq2, .ref m_out])) :: (m_out, .inl (tp_ty E 0, 40, .inl oq2)) :: (m_forms, .inl (tp_ty E 0, 46, .inl f_forms)) :: (m_names, .inl (tp_ty E 1, 46, .inr (.inl f_names))) :: fr) := hD
        refine lv_iload_n hx hb d_M_show_188 rfl (lv_at hl 4 rfl) ?_
        refine lv_iconst (v := 1) hx hb d_M_show_189 (by decide) ?_
        refine lv_icmp_ne (tgt := 206) hx hb d_M_show_190 (by decide) (fun _ => ?_) (fun h => absurd h (by decide))
        refine lv_aload_n hx hb d_M_show_206 rfl (lv_at hl 6 rfl) ?_
        refine lv_bipush (v := 44) hx hb d_M_show_207 (by decide) ?_
        refine tp_cv (tp_rV (As := [.int 44]) (rest := []) ⟨hx, hb, hml, hown, htg⟩ (a_M_write l E ((m_forms, .inl (tp_ty E 0, 46, .inl f_forms)) :: (m_names, .inl (tp_ty E 1, 46, .inr (.inl f_names))) :: fr) _ aM m_names m_forms m_text m_word m_count m_formOf m_codeOf m_dOf m_sOf m_tOf m_valueOf m_labelOf m_nameOf m_target m_place m_far m_image m_out 0 m_size m_bad m_at m_length m_form m_code m_d m_s m_t m_imageSize m_farCount wq2 m_value m_label m_name oq2 44 (by omega)) (⟨callB_of 1 htg (tp_good0 kc_M_write) rfl rfl rfl (htg _ ki_M) (htg _ kl_M_414) ⟨by decide, by decide, by decide +kernel⟩ ⟨Nat.le_of_ble_eq_true rfl, Nat.le_of_ble_eq_true rfl⟩, htg _ km_M_write, htg _ kp_M_write⟩) (va_recv (ci := 4) (q0 := 0) hK.1 hP rfl rfl) hK hP hD hS hA rfl hl.1 rfl (Nat.le_of_ble_eq_true rfl) d_M_show_209 ⟨Nat.le_of_ble_eq_true rfl, Nat.le_of_ble_eq_true rfl⟩) hD hS hA (fun u H locs hw hP hD hS => ?_)
        obtain ⟨wq3, oq3⟩ := u
        have hwq3 : wq3.toInt = wq2.toInt + 1 := hw
        have hP : va_P (tp_D E) tp_cl ((aM, .inr (4, [.int 0, .ref m_names, .ref m_forms, .int m_size, .ref m_text, .int m_bad, .int m_at, .int m_length, .ref m_word, .int m_form, .int m_code, .int m_d, .int m_s, .int m_t, .long m_value, .long m_label, .long m_name, .ref m_count, .ref m_formOf, .ref m_codeOf, .ref m_dOf, .ref m_sOf, .ref m_tOf, .ref m_valueOf, .ref m_labelOf, .ref m_nameOf, .ref m_target, .ref m_place, .ref m_far, .int m_imageSize, .int m_farCount, .ref m_image, .int wq3, .ref m_out])) :: (m_out, .inl (tp_ty E 0, 40, .inl oq3)) :: (m_forms, .inl (tp_ty E 0, 46, .inl f_forms)) :: (m_names, .inl (tp_ty E 1, 46, .inr (.inl f_names))) :: fr) H := hP
        have hD : va_D A ((aM, .inr (4, [.int 0, .ref m_names, .ref m_forms, .int m_size, .ref m_text, .int m_bad, .int m_at, .int m_length, .ref m_word, .int m_form, .int m_code, .int m_d, .int m_s, .int m_t, .long m_value, .long m_label, .long m_name, .ref m_count, .ref m_formOf, .ref m_codeOf, .ref m_dOf, .ref m_sOf, .ref m_tOf, .ref m_valueOf, .ref m_labelOf, .ref m_nameOf, .ref m_target, .ref m_place, .ref m_far, .int m_imageSize, .int m_farCount, .ref m_image, .int wq3, .ref m_out])) :: (m_out, .inl (tp_ty E 0, 40, .inl oq3)) :: (m_forms, .inl (tp_ty E 0, 46, .inl f_forms)) :: (m_names, .inl (tp_ty E 1, 46, .inr (.inl f_names))) :: fr) := hD
        refine lv_iload_n hx hb d_M_show_212 rfl (lv_at hl 7 rfl) ?_
        refine lv_bipush (v := 20) hx hb d_M_show_213 (by decide) ?_
        refine lv_iushr (v := (xw.toUInt32 >>> (Int32.toUInt32 20 &&& Int32.toUInt32 31)).toInt32) hx hb d_M_show_215 rfl ?_
        refine lv_bipush (v := 12) hx hb d_M_show_216 (by decide) ?_
        refine tp_ci (tp_rS (As := [.int ((xw.toUInt32 >>> (Int32.toUInt32 20 &&& Int32.toUInt32 31)).toInt32), .int 12]) (rest := []) ⟨hx, hb, hml, hown, htg⟩ (a_M_signed12 l E ((aM, .inr (4, [.int 0, .ref m_names, .ref m_forms, .int m_size, .ref m_text, .int m_bad, .int m_at, .int m_length, .ref m_word, .int m_form, .int m_code, .int m_d, .int m_s, .int m_t, .long m_value, .long m_label, .long m_name, .ref m_count, .ref m_formOf, .ref m_codeOf, .ref m_dOf, .ref m_sOf, .ref m_tOf, .ref m_valueOf, .ref m_labelOf, .ref m_nameOf, .ref m_target, .ref m_place, .ref m_far, .int m_imageSize, .int m_farCount, .ref m_image, .int wq3, .ref m_out])) :: (m_out, .inl (tp_ty E 0, 40, .inl oq3)) :: (m_forms, .inl (tp_ty E 0, 46, .inl f_forms)) :: (m_names, .inl (tp_ty E 1, 46, .inr (.inl f_names))) :: fr) _ ((xw.toUInt32 >>> (Int32.toUInt32 20 &&& Int32.toUInt32 31)).toInt32) ) (⟨callB_of 2 htg (tp_good0 kc_M_signed) rfl rfl rfl (htg _ ki_M) (htg _ kl_M_428) ⟨by decide, by decide, by decide +kernel⟩ ⟨Nat.le_of_ble_eq_true rfl, Nat.le_of_ble_eq_true rfl⟩, htg _ ks_M_signed⟩) hK hP hD hS hA rfl hl.1 rfl (Nat.le_of_ble_eq_true rfl) d_M_show_218 ⟨Nat.le_of_ble_eq_true rfl, Nat.le_of_ble_eq_true rfl⟩) hD hS hA (fun r u H locs hw hP hD hS => ?_)
        subst r
        have hP : va_P (tp_D E) tp_cl ((aM, .inr (4, [.int 0, .ref m_names, .ref m_forms, .int m_size, .ref m_text, .int m_bad, .int m_at, .int m_length, .ref m_word, .int m_form, .int m_code, .int m_d, .int m_s, .int m_t, .long m_value, .long m_label, .long m_name, .ref m_count, .ref m_formOf, .ref m_codeOf, .ref m_dOf, .ref m_sOf, .ref m_tOf, .ref m_valueOf, .ref m_labelOf, .ref m_nameOf, .ref m_target, .ref m_place, .ref m_far, .int m_imageSize, .int m_farCount, .ref m_image, .int wq3, .ref m_out])) :: (m_out, .inl (tp_ty E 0, 40, .inl oq3)) :: (m_forms, .inl (tp_ty E 0, 46, .inl f_forms)) :: (m_names, .inl (tp_ty E 1, 46, .inr (.inl f_names))) :: fr) H := hP
        have hD : va_D A ((aM, .inr (4, [.int 0, .ref m_names, .ref m_forms, .int m_size, .ref m_text, .int m_bad, .int m_at, .int m_length, .ref m_word, .int m_form, .int m_code, .int m_d, .int m_s, .int m_t, .long m_value, .long m_label, .long m_name, .ref m_count, .ref m_formOf, .ref m_codeOf, .ref m_dOf, .ref m_sOf, .ref m_tOf, .ref m_valueOf, .ref m_labelOf, .ref m_nameOf, .ref m_target, .ref m_place, .ref m_far, .int m_imageSize, .int m_farCount, .ref m_image, .int wq3, .ref m_out])) :: (m_out, .inl (tp_ty E 0, 40, .inl oq3)) :: (m_forms, .inl (tp_ty E 0, 46, .inl f_forms)) :: (m_names, .inl (tp_ty E 1, 46, .inr (.inl f_names))) :: fr) := hD
        refine lv_istore (lv' := [(8, .int (if (xw.toUInt32 >>> (Int32.toUInt32 20 &&& Int32.toUInt32 31)).toInt32 < 2048 then (xw.toUInt32 >>> (Int32.toUInt32 20 &&& Int32.toUInt32 31)).toInt32 else (xw.toUInt32 >>> (Int32.toUInt32 20 &&& Int32.toUInt32 31)).toInt32 - 4096)), (7, .int 0), (6, .int ((xw >>> (20 &&& 31 : Int32)) &&& 31)), (5, .int ((xw >>> (15 &&& 31 : Int32)) &&& 31)), (4, .int ((xw >>> (7 &&& 31 : Int32)) &&& 31)), (3, .int 7), (2, .int ko), (0, .ref aM), (1, .int xw)]) hx hb d_M_show_221 hl (by decide) rfl (fun ls hl => ?_)
        refine lv_iload_n hx hb d_M_show_223 rfl (lv_at hl 5 rfl) ?_
        refine lv_iconst (v := 3) hx hb d_M_show_224 (by decide) ?_
        refine lv_icmp_ne (tgt := 237) hx hb d_M_show_225 (by decide) (fun _ => ?_) (fun h => absurd h (by decide))
        refine lv_iload_n hx hb d_M_show_237 rfl (lv_at hl 5 rfl) ?_
        refine lv_iconst (v := 4) hx hb d_M_show_238 (by decide) ?_
        refine lv_icmp_ne (tgt := 248) hx hb d_M_show_239 (by decide) (fun _ => ?_) (fun h => absurd h (by decide))
        refine lv_iload_n hx hb d_M_show_248 rfl (lv_at hl 5 rfl) ?_
        refine lv_bipush (v := 6) hx hb d_M_show_249 (by decide) ?_
        refine lv_icmp_ne (tgt := 271) hx hb d_M_show_251 (by decide) (fun _ => ?_) (fun h => absurd h (by decide))
        refine lv_iload_n hx hb d_M_show_271 rfl (lv_at hl 5 rfl) ?_
        refine lv_bipush (v := 7) hx hb d_M_show_272 (by decide) ?_
        refine lv_icmp_ne (tgt := 324) hx hb d_M_show_274 (by decide) (fun h => absurd (by decide) h) (fun _ => ?_)
        refine lv_iload_n hx hb d_M_show_277 rfl (lv_at hl 8 rfl) ?_
        refine lv_bipush (v := 31) hx hb d_M_show_278 (by decide) ?_
        refine lv_iushr (v := (xw.toUInt32 >>> (Int32.toUInt32 31 &&& Int32.toUInt32 31)).toInt32) hx hb d_M_show_280 rfl ?_
        refine lv_sipush (v := 4096) hx hb d_M_show_281 (by decide) ?_
        refine lv_imul hx hb d_M_show_284 ?_
        refine lv_iload_n hx hb d_M_show_285 rfl (lv_at hl 8 rfl) ?_
        refine lv_bipush (v := 7) hx hb d_M_show_286 (by decide) ?_
        refine lv_ishr hx hb d_M_show_288 ?_
        refine lv_iconst (v := 1) hx hb d_M_show_289 (by decide) ?_
        refine lv_iand hx hb d_M_show_290 ?_
        refine lv_sipush (v := 2048) hx hb d_M_show_291 (by decide) ?_
        refine lv_imul hx hb d_M_show_294 ?_
        refine lv_iadd hx hb d_M_show_295 ?_
        refine lv_iload_n hx hb d_M_show_296 rfl (lv_at hl 8 rfl) ?_
        refine lv_bipush (v := 25) hx hb d_M_show_297 (by decide) ?_
        refine lv_ishr hx hb d_M_show_299 ?_
        refine lv_bipush (v := 63) hx hb d_M_show_300 (by decide) ?_
        refine lv_iand hx hb d_M_show_302 ?_
        refine lv_bipush (v := 32) hx hb d_M_show_303 (by decide) ?_
        refine lv_imul hx hb d_M_show_305 ?_
        refine lv_iadd hx hb d_M_show_306 ?_
        refine lv_iload_n hx hb d_M_show_307 rfl (lv_at hl 8 rfl) ?_
        refine lv_bipush (v := 8) hx hb d_M_show_308 (by decide) ?_
        refine lv_ishr hx hb d_M_show_310 ?_
        refine lv_bipush (v := 15) hx hb d_M_show_311 (by decide) ?_
        refine lv_iand hx hb d_M_show_313 ?_
        refine lv_iconst (v := 2) hx hb d_M_show_314 (by decide) ?_
        refine lv_imul hx hb d_M_show_315 ?_
        refine lv_iadd hx hb d_M_show_316 ?_
        refine lv_bipush (v := 13) hx hb d_M_show_317 (by decide) ?_
        refine tp_ci (tp_rS (As := [.int (((((xw.toUInt32 >>> (Int32.toUInt32 31 &&& Int32.toUInt32 31)).toInt32 * 4096) + (((xw >>> (7 &&& 31 : Int32)) &&& 1) * 2048)) + (((xw >>> (25 &&& 31 : Int32)) &&& 63) * 32)) + (((xw >>> (8 &&& 31 : Int32)) &&& 15) * 2)), .int 13]) (rest := []) ⟨hx, hb, hml, hown, htg⟩ (a_M_signed13 l E ((aM, .inr (4, [.int 0, .ref m_names, .ref m_forms, .int m_size, .ref m_text, .int m_bad, .int m_at, .int m_length, .ref m_word, .int m_form, .int m_code, .int m_d, .int m_s, .int m_t, .long m_value, .long m_label, .long m_name, .ref m_count, .ref m_formOf, .ref m_codeOf, .ref m_dOf, .ref m_sOf, .ref m_tOf, .ref m_valueOf, .ref m_labelOf, .ref m_nameOf, .ref m_target, .ref m_place, .ref m_far, .int m_imageSize, .int m_farCount, .ref m_image, .int wq3, .ref m_out])) :: (m_out, .inl (tp_ty E 0, 40, .inl oq3)) :: (m_forms, .inl (tp_ty E 0, 46, .inl f_forms)) :: (m_names, .inl (tp_ty E 1, 46, .inr (.inl f_names))) :: fr) _ (((((xw.toUInt32 >>> (Int32.toUInt32 31 &&& Int32.toUInt32 31)).toInt32 * 4096) + (((xw >>> (7 &&& 31 : Int32)) &&& 1) * 2048)) + (((xw >>> (25 &&& 31 : Int32)) &&& 63) * 32)) + (((xw >>> (8 &&& 31 : Int32)) &&& 15) * 2)) ) (⟨callB_of 2 htg (tp_good0 kc_M_signed) rfl rfl rfl (htg _ ki_M) (htg _ kl_M_428) ⟨by decide, by decide, by decide +kernel⟩ ⟨Nat.le_of_ble_eq_true rfl, Nat.le_of_ble_eq_true rfl⟩, htg _ ks_M_signed⟩) hK hP hD hS hA rfl hl.1 rfl (Nat.le_of_ble_eq_true rfl) d_M_show_319 ⟨Nat.le_of_ble_eq_true rfl, Nat.le_of_ble_eq_true rfl⟩) hD hS hA (fun r u H locs hw hP hD hS => ?_)
        subst r
        have hP : va_P (tp_D E) tp_cl ((aM, .inr (4, [.int 0, .ref m_names, .ref m_forms, .int m_size, .ref m_text, .int m_bad, .int m_at, .int m_length, .ref m_word, .int m_form, .int m_code, .int m_d, .int m_s, .int m_t, .long m_value, .long m_label, .long m_name, .ref m_count, .ref m_formOf, .ref m_codeOf, .ref m_dOf, .ref m_sOf, .ref m_tOf, .ref m_valueOf, .ref m_labelOf, .ref m_nameOf, .ref m_target, .ref m_place, .ref m_far, .int m_imageSize, .int m_farCount, .ref m_image, .int wq3, .ref m_out])) :: (m_out, .inl (tp_ty E 0, 40, .inl oq3)) :: (m_forms, .inl (tp_ty E 0, 46, .inl f_forms)) :: (m_names, .inl (tp_ty E 1, 46, .inr (.inl f_names))) :: fr) H := hP
        have hD : va_D A ((aM, .inr (4, [.int 0, .ref m_names, .ref m_forms, .int m_size, .ref m_text, .int m_bad, .int m_at, .int m_length, .ref m_word, .int m_form, .int m_code, .int m_d, .int m_s, .int m_t, .long m_value, .long m_label, .long m_name, .ref m_count, .ref m_formOf, .ref m_codeOf, .ref m_dOf, .ref m_sOf, .ref m_tOf, .ref m_valueOf, .ref m_labelOf, .ref m_nameOf, .ref m_target, .ref m_place, .ref m_far, .int m_imageSize, .int m_farCount, .ref m_image, .int wq3, .ref m_out])) :: (m_out, .inl (tp_ty E 0, 40, .inl oq3)) :: (m_forms, .inl (tp_ty E 0, 46, .inl f_forms)) :: (m_names, .inl (tp_ty E 1, 46, .inr (.inl f_names))) :: fr) := hD
        refine lv_istore (lv' := [(8, .int (if (((((xw.toUInt32 >>> (Int32.toUInt32 31 &&& Int32.toUInt32 31)).toInt32 * 4096) + (((xw >>> (7 &&& 31 : Int32)) &&& 1) * 2048)) + (((xw >>> (25 &&& 31 : Int32)) &&& 63) * 32)) + (((xw >>> (8 &&& 31 : Int32)) &&& 15) * 2)) < 4096 then (((((xw.toUInt32 >>> (Int32.toUInt32 31 &&& Int32.toUInt32 31)).toInt32 * 4096) + (((xw >>> (7 &&& 31 : Int32)) &&& 1) * 2048)) + (((xw >>> (25 &&& 31 : Int32)) &&& 63) * 32)) + (((xw >>> (8 &&& 31 : Int32)) &&& 15) * 2)) else (((((xw.toUInt32 >>> (Int32.toUInt32 31 &&& Int32.toUInt32 31)).toInt32 * 4096) + (((xw >>> (7 &&& 31 : Int32)) &&& 1) * 2048)) + (((xw >>> (25 &&& 31 : Int32)) &&& 63) * 32)) + (((xw >>> (8 &&& 31 : Int32)) &&& 15) * 2)) - 8192)), (7, .int 0), (6, .int ((xw >>> (20 &&& 31 : Int32)) &&& 31)), (5, .int ((xw >>> (15 &&& 31 : Int32)) &&& 31)), (4, .int ((xw >>> (7 &&& 31 : Int32)) &&& 31)), (3, .int 7), (2, .int ko), (0, .ref aM), (1, .int xw)]) hx hb d_M_show_322 hl (by decide) rfl (fun ls hl => ?_)
        refine lv_iload_n hx hb d_M_show_324 rfl (lv_at hl 5 rfl) ?_
        refine lv_bipush (v := 8) hx hb d_M_show_325 (by decide) ?_
        refine lv_icmp_ne (tgt := 380) hx hb d_M_show_327 (by decide) (fun _ => ?_) (fun h => absurd h (by decide))
        refine lv_aload_n hx hb d_M_show_380 rfl (lv_at hl 7 rfl) ?_
        refine lv_iload hx hb d_M_show_381 (lv_at hl 0 rfl) ?_
        have gn := (tp_dl10 (xv := (if (((((xw.toUInt32 >>> (Int32.toUInt32 31 &&& Int32.toUInt32 31)).toInt32 * 4096) + (((xw >>> (7 &&& 31 : Int32)) &&& 1) * 2048)) + (((xw >>> (25 &&& 31 : Int32)) &&& 63) * 32)) + (((xw >>> (8 &&& 31 : Int32)) &&& 15) * 2)) < 4096 then (((((xw.toUInt32 >>> (Int32.toUInt32 31 &&& Int32.toUInt32 31)).toInt32 * 4096) + (((xw >>> (7 &&& 31 : Int32)) &&& 1) * 2048)) + (((xw >>> (25 &&& 31 : Int32)) &&& 63) * 32)) + (((xw >>> (8 &&& 31 : Int32)) &&& 15) * 2)) else (((((xw.toUInt32 >>> (Int32.toUInt32 31 &&& Int32.toUInt32 31)).toInt32 * 4096) + (((xw >>> (7 &&& 31 : Int32)) &&& 1) * 2048)) + (((xw >>> (25 &&& 31 : Int32)) &&& 63) * 32)) + (((xw >>> (8 &&& 31 : Int32)) &&& 15) * 2)) - 8192))).1
        refine tp_cv (tp_rV (As := [.int (if (((((xw.toUInt32 >>> (Int32.toUInt32 31 &&& Int32.toUInt32 31)).toInt32 * 4096) + (((xw >>> (7 &&& 31 : Int32)) &&& 1) * 2048)) + (((xw >>> (25 &&& 31 : Int32)) &&& 63) * 32)) + (((xw >>> (8 &&& 31 : Int32)) &&& 15) * 2)) < 4096 then (((((xw.toUInt32 >>> (Int32.toUInt32 31 &&& Int32.toUInt32 31)).toInt32 * 4096) + (((xw >>> (7 &&& 31 : Int32)) &&& 1) * 2048)) + (((xw >>> (25 &&& 31 : Int32)) &&& 63) * 32)) + (((xw >>> (8 &&& 31 : Int32)) &&& 15) * 2)) else (((((xw.toUInt32 >>> (Int32.toUInt32 31 &&& Int32.toUInt32 31)).toInt32 * 4096) + (((xw >>> (7 &&& 31 : Int32)) &&& 1) * 2048)) + (((xw >>> (25 &&& 31 : Int32)) &&& 63) * 32)) + (((xw >>> (8 &&& 31 : Int32)) &&& 15) * 2)) - 8192)]) (rest := []) ⟨hx, hb, hml, hown, htg⟩ (a_M_writeNumber l E ((m_forms, .inl (tp_ty E 0, 46, .inl f_forms)) :: (m_names, .inl (tp_ty E 1, 46, .inr (.inl f_names))) :: fr) _ aM m_names m_forms m_text m_word m_count m_formOf m_codeOf m_dOf m_sOf m_tOf m_valueOf m_labelOf m_nameOf m_target m_place m_far m_image m_out 0 m_size m_bad m_at m_length m_form m_code m_d m_s m_t m_imageSize m_farCount wq3 m_value m_label m_name oq3 (if (((((xw.toUInt32 >>> (Int32.toUInt32 31 &&& Int32.toUInt32 31)).toInt32 * 4096) + (((xw >>> (7 &&& 31 : Int32)) &&& 1) * 2048)) + (((xw >>> (25 &&& 31 : Int32)) &&& 63) * 32)) + (((xw >>> (8 &&& 31 : Int32)) &&& 15) * 2)) < 4096 then (((((xw.toUInt32 >>> (Int32.toUInt32 31 &&& Int32.toUInt32 31)).toInt32 * 4096) + (((xw >>> (7 &&& 31 : Int32)) &&& 1) * 2048)) + (((xw >>> (25 &&& 31 : Int32)) &&& 63) * 32)) + (((xw >>> (8 &&& 31 : Int32)) &&& 15) * 2)) else (((((xw.toUInt32 >>> (Int32.toUInt32 31 &&& Int32.toUInt32 31)).toInt32 * 4096) + (((xw >>> (7 &&& 31 : Int32)) &&& 1) * 2048)) + (((xw >>> (25 &&& 31 : Int32)) &&& 63) * 32)) + (((xw >>> (8 &&& 31 : Int32)) &&& 15) * 2)) - 8192) (by omega)) (⟨callB_of 1 htg (tp_good0 kc_M_writeNumber) rfl rfl rfl (htg _ ki_M) (htg _ kl_M_419) ⟨by decide, by decide, by decide +kernel⟩ ⟨Nat.le_of_ble_eq_true rfl, Nat.le_of_ble_eq_true rfl⟩, htg _ km_M_writeNumber, htg _ kp_M_writeNumber⟩) (va_recv (ci := 4) (q0 := 0) hK.1 hP rfl rfl) hK hP hD hS hA rfl hl.1 rfl (Nat.le_of_ble_eq_true rfl) d_M_show_383 ⟨Nat.le_of_ble_eq_true rfl, Nat.le_of_ble_eq_true rfl⟩) hD hS hA (fun u H locs hw hP hD hS => ?_)
        obtain ⟨wq4, oq4⟩ := u
        have hwq4 : wq4.toInt = wq3.toInt + (tp_dl (if (((((xw.toUInt32 >>> (Int32.toUInt32 31 &&& Int32.toUInt32 31)).toInt32 * 4096) + (((xw >>> (7 &&& 31 : Int32)) &&& 1) * 2048)) + (((xw >>> (25 &&& 31 : Int32)) &&& 63) * 32)) + (((xw >>> (8 &&& 31 : Int32)) &&& 15) * 2)) < 4096 then (((((xw.toUInt32 >>> (Int32.toUInt32 31 &&& Int32.toUInt32 31)).toInt32 * 4096) + (((xw >>> (7 &&& 31 : Int32)) &&& 1) * 2048)) + (((xw >>> (25 &&& 31 : Int32)) &&& 63) * 32)) + (((xw >>> (8 &&& 31 : Int32)) &&& 15) * 2)) else (((((xw.toUInt32 >>> (Int32.toUInt32 31 &&& Int32.toUInt32 31)).toInt32 * 4096) + (((xw >>> (7 &&& 31 : Int32)) &&& 1) * 2048)) + (((xw >>> (25 &&& 31 : Int32)) &&& 63) * 32)) + (((xw >>> (8 &&& 31 : Int32)) &&& 15) * 2)) - 8192) : Int) := hw
        have hP : va_P (tp_D E) tp_cl ((aM, .inr (4, [.int 0, .ref m_names, .ref m_forms, .int m_size, .ref m_text, .int m_bad, .int m_at, .int m_length, .ref m_word, .int m_form, .int m_code, .int m_d, .int m_s, .int m_t, .long m_value, .long m_label, .long m_name, .ref m_count, .ref m_formOf, .ref m_codeOf, .ref m_dOf, .ref m_sOf, .ref m_tOf, .ref m_valueOf, .ref m_labelOf, .ref m_nameOf, .ref m_target, .ref m_place, .ref m_far, .int m_imageSize, .int m_farCount, .ref m_image, .int wq4, .ref m_out])) :: (m_out, .inl (tp_ty E 0, 40, .inl oq4)) :: (m_forms, .inl (tp_ty E 0, 46, .inl f_forms)) :: (m_names, .inl (tp_ty E 1, 46, .inr (.inl f_names))) :: fr) H := hP
        have hD : va_D A ((aM, .inr (4, [.int 0, .ref m_names, .ref m_forms, .int m_size, .ref m_text, .int m_bad, .int m_at, .int m_length, .ref m_word, .int m_form, .int m_code, .int m_d, .int m_s, .int m_t, .long m_value, .long m_label, .long m_name, .ref m_count, .ref m_formOf, .ref m_codeOf, .ref m_dOf, .ref m_sOf, .ref m_tOf, .ref m_valueOf, .ref m_labelOf, .ref m_nameOf, .ref m_target, .ref m_place, .ref m_far, .int m_imageSize, .int m_farCount, .ref m_image, .int wq4, .ref m_out])) :: (m_out, .inl (tp_ty E 0, 40, .inl oq4)) :: (m_forms, .inl (tp_ty E 0, 46, .inl f_forms)) :: (m_names, .inl (tp_ty E 1, 46, .inr (.inl f_names))) :: fr) := hD
        refine lv_iload_n hx hb d_M_show_386 rfl (lv_at hl 5 rfl) ?_
        refine lv_iconst (v := 5) hx hb d_M_show_387 (by decide) ?_
        refine lv_icmp_eq (tgt := 397) hx hb d_M_show_388 (by decide) (fun h => absurd h (by decide)) (fun _ => ?_)
        refine lv_iload_n hx hb d_M_show_391 rfl (lv_at hl 5 rfl) ?_
        refine lv_bipush (v := 6) hx hb d_M_show_392 (by decide) ?_
        refine lv_icmp_ne (tgt := 411) hx hb d_M_show_394 (by decide) (fun _ => ?_) (fun h => absurd h (by decide))
        refine lv_aload_n hx hb d_M_show_411 rfl (lv_at hl 7 rfl) ?_
        refine va_get (D := tp_D E) (ci := 4) (v := .int wq4) (C := qR_M) (T := qF_M) (N := 34) hx hb htg qi_M hown hK.1 hP 0 rfl rfl 32 (by decide) (htg _ kl_M_411) (fun _ h => h) rfl d_M_show_412 ?_
        have hP : va_P (tp_D E) tp_cl ((m_out, .inl (tp_ty E 0, 40, .inl oq4)) :: (aM, .inr (4, [.int 0, .ref m_names, .ref m_forms, .int m_size, .ref m_text, .int m_bad, .int m_at, .int m_length, .ref m_word, .int m_form, .int m_code, .int m_d, .int m_s, .int m_t, .long m_value, .long m_label, .long m_name, .ref m_count, .ref m_formOf, .ref m_codeOf, .ref m_dOf, .ref m_sOf, .ref m_tOf, .ref m_valueOf, .ref m_labelOf, .ref m_nameOf, .ref m_target, .ref m_place, .ref m_far, .int m_imageSize, .int m_farCount, .ref m_image, .int wq4, .ref m_out])) :: (m_forms, .inl (tp_ty E 0, 46, .inl f_forms)) :: (m_names, .inl (tp_ty E 1, 46, .inr (.inl f_names))) :: fr) _ := tp_mvP 1 rfl hP
        have hD : va_D A ((m_out, .inl (tp_ty E 0, 40, .inl oq4)) :: (aM, .inr (4, [.int 0, .ref m_names, .ref m_forms, .int m_size, .ref m_text, .int m_bad, .int m_at, .int m_length, .ref m_word, .int m_form, .int m_code, .int m_d, .int m_s, .int m_t, .long m_value, .long m_label, .long m_name, .ref m_count, .ref m_formOf, .ref m_codeOf, .ref m_dOf, .ref m_sOf, .ref m_tOf, .ref m_valueOf, .ref m_labelOf, .ref m_nameOf, .ref m_target, .ref m_place, .ref m_far, .int m_imageSize, .int m_farCount, .ref m_image, .int wq4, .ref m_out])) :: (m_forms, .inl (tp_ty E 0, 46, .inl f_forms)) :: (m_names, .inl (tp_ty E 1, 46, .inr (.inl f_names))) :: fr) := tp_mvD 1 rfl hD
        have hP : va_P (tp_D E) tp_cl ((m_forms, .inl (tp_ty E 0, 46, .inl f_forms)) :: (m_out, .inl (tp_ty E 0, 40, .inl oq4)) :: (aM, .inr (4, [.int 0, .ref m_names, .ref m_forms, .int m_size, .ref m_text, .int m_bad, .int m_at, .int m_length, .ref m_word, .int m_form, .int m_code, .int m_d, .int m_s, .int m_t, .long m_value, .long m_label, .long m_name, .ref m_count, .ref m_formOf, .ref m_codeOf, .ref m_dOf, .ref m_sOf, .ref m_tOf, .ref m_valueOf, .ref m_labelOf, .ref m_nameOf, .ref m_target, .ref m_place, .ref m_far, .int m_imageSize, .int m_farCount, .ref m_image, .int wq4, .ref m_out])) :: (m_names, .inl (tp_ty E 1, 46, .inr (.inl f_names))) :: fr) _ := tp_mvP 2 rfl hP
        have hD : va_D A ((m_forms, .inl (tp_ty E 0, 46, .inl f_forms)) :: (m_out, .inl (tp_ty E 0, 40, .inl oq4)) :: (aM, .inr (4, [.int 0, .ref m_names, .ref m_forms, .int m_size, .ref m_text, .int m_bad, .int m_at, .int m_length, .ref m_word, .int m_form, .int m_code, .int m_d, .int m_s, .int m_t, .long m_value, .long m_label, .long m_name, .ref m_count, .ref m_formOf, .ref m_codeOf, .ref m_dOf, .ref m_sOf, .ref m_tOf, .ref m_valueOf, .ref m_labelOf, .ref m_nameOf, .ref m_target, .ref m_place, .ref m_far, .int m_imageSize, .int m_farCount, .ref m_image, .int wq4, .ref m_out])) :: (m_names, .inl (tp_ty E 1, 46, .inr (.inl f_names))) :: fr) := tp_mvD 2 rfl hD
        have hP : va_P (tp_D E) tp_cl ((m_names, .inl (tp_ty E 1, 46, .inr (.inl f_names))) :: (m_forms, .inl (tp_ty E 0, 46, .inl f_forms)) :: (m_out, .inl (tp_ty E 0, 40, .inl oq4)) :: (aM, .inr (4, [.int 0, .ref m_names, .ref m_forms, .int m_size, .ref m_text, .int m_bad, .int m_at, .int m_length, .ref m_word, .int m_form, .int m_code, .int m_d, .int m_s, .int m_t, .long m_value, .long m_label, .long m_name, .ref m_count, .ref m_formOf, .ref m_codeOf, .ref m_dOf, .ref m_sOf, .ref m_tOf, .ref m_valueOf, .ref m_labelOf, .ref m_nameOf, .ref m_target, .ref m_place, .ref m_far, .int m_imageSize, .int m_farCount, .ref m_image, .int wq4, .ref m_out])) :: fr) _ := tp_mvP 3 rfl hP
        have hD : va_D A ((m_names, .inl (tp_ty E 1, 46, .inr (.inl f_names))) :: (m_forms, .inl (tp_ty E 0, 46, .inl f_forms)) :: (m_out, .inl (tp_ty E 0, 40, .inl oq4)) :: (aM, .inr (4, [.int 0, .ref m_names, .ref m_forms, .int m_size, .ref m_text, .int m_bad, .int m_at, .int m_length, .ref m_word, .int m_form, .int m_code, .int m_d, .int m_s, .int m_t, .long m_value, .long m_label, .long m_name, .ref m_count, .ref m_formOf, .ref m_codeOf, .ref m_dOf, .ref m_sOf, .ref m_tOf, .ref m_valueOf, .ref m_labelOf, .ref m_nameOf, .ref m_target, .ref m_place, .ref m_far, .int m_imageSize, .int m_farCount, .ref m_image, .int wq4, .ref m_out])) :: fr) := tp_mvD 3 rfl hD
        have hP : va_P (tp_D E) tp_cl ((aM, .inr (4, [.int 0, .ref m_names, .ref m_forms, .int m_size, .ref m_text, .int m_bad, .int m_at, .int m_length, .ref m_word, .int m_form, .int m_code, .int m_d, .int m_s, .int m_t, .long m_value, .long m_label, .long m_name, .ref m_count, .ref m_formOf, .ref m_codeOf, .ref m_dOf, .ref m_sOf, .ref m_tOf, .ref m_valueOf, .ref m_labelOf, .ref m_nameOf, .ref m_target, .ref m_place, .ref m_far, .int m_imageSize, .int m_farCount, .ref m_image, .int wq4, .ref m_out])) :: (m_names, .inl (tp_ty E 1, 46, .inr (.inl f_names))) :: (m_forms, .inl (tp_ty E 0, 46, .inl f_forms)) :: (m_out, .inl (tp_ty E 0, 40, .inl oq4)) :: fr) _ := tp_mvP 3 rfl hP
        have hD : va_D A ((aM, .inr (4, [.int 0, .ref m_names, .ref m_forms, .int m_size, .ref m_text, .int m_bad, .int m_at, .int m_length, .ref m_word, .int m_form, .int m_code, .int m_d, .int m_s, .int m_t, .long m_value, .long m_label, .long m_name, .ref m_count, .ref m_formOf, .ref m_codeOf, .ref m_dOf, .ref m_sOf, .ref m_tOf, .ref m_valueOf, .ref m_labelOf, .ref m_nameOf, .ref m_target, .ref m_place, .ref m_far, .int m_imageSize, .int m_farCount, .ref m_image, .int wq4, .ref m_out])) :: (m_names, .inl (tp_ty E 1, 46, .inr (.inl f_names))) :: (m_forms, .inl (tp_ty E 0, 46, .inl f_forms)) :: (m_out, .inl (tp_ty E 0, 40, .inl oq4)) :: fr) := tp_mvD 3 rfl hD
        have hb40 : 0 ≤ wq4.toInt ∧ wq4.toInt ≤ 40 := by omega
        exact W.iret (v := wq4) hx hb hr (fun t ht hW => ⟨⟨_, (0, wq4, oq4), rfl, Or.inr ⟨rfl, ⟨ko, hmh, Int32.le_iff_toInt_le.mp h1, (by rw [hxf]; show _ = _ + (((2 + tp_dl ((xw >>> (15 &&& 31 : Int32)) &&& 31)) + (2 + tp_dl ((xw >>> (20 &&& 31 : Int32)) &&& 31)) + 1 + tp_dl (if (((((xw.toUInt32 >>> (Int32.toUInt32 31 &&& Int32.toUInt32 31)).toInt32 * 4096) + (((xw >>> (7 &&& 31 : Int32)) &&& 1) * 2048)) + (((xw >>> (25 &&& 31 : Int32)) &&& 63) * 32)) + (((xw >>> (8 &&& 31 : Int32)) &&& 15) * 2)) < 4096 then (((((xw.toUInt32 >>> (Int32.toUInt32 31 &&& Int32.toUInt32 31)).toInt32 * 4096) + (((xw >>> (7 &&& 31 : Int32)) &&& 1) * 2048)) + (((xw >>> (25 &&& 31 : Int32)) &&& 63) * 32)) + (((xw >>> (8 &&& 31 : Int32)) &&& 15) * 2)) else (((((xw.toUInt32 >>> (Int32.toUInt32 31 &&& Int32.toUInt32 31)).toInt32 * 4096) + (((xw >>> (7 &&& 31 : Int32)) &&& 1) * 2048)) + (((xw >>> (25 &&& 31 : Int32)) &&& 63) * 32)) + (((xw >>> (8 &&& 31 : Int32)) &&& 15) * 2)) - 8192) : Nat) : Int); omega)⟩, rfl, hb40⟩, by rw [ht]; exact hP, hD⟩, hS.F ht⟩) hS.2.2 d_M_show_415
      · refine lv_istore_n (lv' := [(3, .int 8), (2, .int ko), (0, .ref aM), (1, .int xw)]) hx hb d_M_show_85 rfl hl (by decide) rfl (fun ls hl => ?_)
        refine lv_iload_n hx hb d_M_show_86 rfl (lv_at hl 3 rfl) ?_
        refine lv_bipush (v := 7) hx hb d_M_show_87 (by decide) ?_
        refine lv_ishr hx hb d_M_show_89 ?_
        refine lv_bipush (v := 31) hx hb d_M_show_90 (by decide) ?_
        refine lv_iand hx hb d_M_show_92 ?_
        refine lv_istore (lv' := [(4, .int ((xw >>> (7 &&& 31 : Int32)) &&& 31)), (3, .int 8), (2, .int ko), (0, .ref aM), (1, .int xw)]) hx hb d_M_show_93 hl (by decide) rfl (fun ls hl => ?_)
        refine lv_iload_n hx hb d_M_show_95 rfl (lv_at hl 4 rfl) ?_
        refine lv_bipush (v := 15) hx hb d_M_show_96 (by decide) ?_
        refine lv_ishr hx hb d_M_show_98 ?_
        refine lv_bipush (v := 31) hx hb d_M_show_99 (by decide) ?_
        refine lv_iand hx hb d_M_show_101 ?_
        refine lv_istore (lv' := [(5, .int ((xw >>> (15 &&& 31 : Int32)) &&& 31)), (4, .int ((xw >>> (7 &&& 31 : Int32)) &&& 31)), (3, .int 8), (2, .int ko), (0, .ref aM), (1, .int xw)]) hx hb d_M_show_102 hl (by decide) rfl (fun ls hl => ?_)
        refine lv_iload_n hx hb d_M_show_104 rfl (lv_at hl 5 rfl) ?_
        refine lv_bipush (v := 20) hx hb d_M_show_105 (by decide) ?_
        refine lv_ishr hx hb d_M_show_107 ?_
        refine lv_bipush (v := 31) hx hb d_M_show_108 (by decide) ?_
        refine lv_iand hx hb d_M_show_110 ?_
        refine lv_istore (lv' := [(6, .int ((xw >>> (20 &&& 31 : Int32)) &&& 31)), (5, .int ((xw >>> (15 &&& 31 : Int32)) &&& 31)), (4, .int ((xw >>> (7 &&& 31 : Int32)) &&& 31)), (3, .int 8), (2, .int ko), (0, .ref aM), (1, .int xw)]) hx hb d_M_show_111 hl (by decide) rfl (fun ls hl => ?_)
        refine lv_iload_n hx hb d_M_show_113 rfl (lv_at hl 3 rfl) ?_
        refine lv_bipush (v := 6) hx hb d_M_show_114 (by decide) ?_
        refine lv_icmp_eq (tgt := 129) hx hb d_M_show_116 (by decide) (fun h => absurd h (by decide)) (fun _ => ?_)
        refine lv_iload_n hx hb d_M_show_119 rfl (lv_at hl 3 rfl) ?_
        refine lv_bipush (v := 7) hx hb d_M_show_120 (by decide) ?_
        refine lv_icmp_eq (tgt := 129) hx hb d_M_show_122 (by decide) (fun h => absurd h (by decide)) (fun _ => ?_)
        refine lv_iconst (v := 1) hx hb d_M_show_125 (by decide) ?_
        refine lv_goto (tgt := 130) hx hb d_M_show_126 (by decide) ?_
        refine lv_istore (lv' := [(7, .int 1), (6, .int ((xw >>> (20 &&& 31 : Int32)) &&& 31)), (5, .int ((xw >>> (15 &&& 31 : Int32)) &&& 31)), (4, .int ((xw >>> (7 &&& 31 : Int32)) &&& 31)), (3, .int 8), (2, .int ko), (0, .ref aM), (1, .int xw)]) hx hb d_M_show_130 hl (by decide) rfl (fun ls hl => ?_)
        refine lv_aload_n hx hb d_M_show_132 rfl (lv_at hl 6 rfl) ?_
        refine lv_bipush (v := 32) hx hb d_M_show_133 (by decide) ?_
        refine lv_iload hx hb d_M_show_135 (lv_at hl 0 rfl) ?_
        refine lv_if_eq (tgt := 145) hx hb d_M_show_137 (by decide) (fun h => absurd h (by decide)) (fun _ => ?_)
        refine lv_iload hx hb d_M_show_140 (lv_at hl 3 rfl) ?_
        refine lv_goto (tgt := 158) hx hb d_M_show_142 (by decide) ?_
        have hP : va_P (tp_D E) tp_cl ((m_out, .inl (tp_ty E 0, 40, .inl fo)) :: (aM, .inr (4, [.int 0, .ref m_names, .ref m_forms, .int m_size, .ref m_text, .int m_bad, .int m_at, .int m_length, .ref m_word, .int m_form, .int m_code, .int m_d, .int m_s, .int m_t, .long m_value, .long m_label, .long m_name, .ref m_count, .ref m_formOf, .ref m_codeOf, .ref m_dOf, .ref m_sOf, .ref m_tOf, .ref m_valueOf, .ref m_labelOf, .ref m_nameOf, .ref m_target, .ref m_place, .ref m_far, .int m_imageSize, .int m_farCount, .ref m_image, .int wv, .ref m_out])) :: (m_forms, .inl (tp_ty E 0, 46, .inl f_forms)) :: (m_names, .inl (tp_ty E 1, 46, .inr (.inl f_names))) :: fr) _ := tp_mvP 3 rfl hP
        have hD : va_D A ((m_out, .inl (tp_ty E 0, 40, .inl fo)) :: (aM, .inr (4, [.int 0, .ref m_names, .ref m_forms, .int m_size, .ref m_text, .int m_bad, .int m_at, .int m_length, .ref m_word, .int m_form, .int m_code, .int m_d, .int m_s, .int m_t, .long m_value, .long m_label, .long m_name, .ref m_count, .ref m_formOf, .ref m_codeOf, .ref m_dOf, .ref m_sOf, .ref m_tOf, .ref m_valueOf, .ref m_labelOf, .ref m_nameOf, .ref m_target, .ref m_place, .ref m_far, .int m_imageSize, .int m_farCount, .ref m_image, .int wv, .ref m_out])) :: (m_forms, .inl (tp_ty E 0, 46, .inl f_forms)) :: (m_names, .inl (tp_ty E 1, 46, .inr (.inl f_names))) :: fr) := tp_mvD 3 rfl hD
        have hP : va_P (tp_D E) tp_cl ((aM, .inr (4, [.int 0, .ref m_names, .ref m_forms, .int m_size, .ref m_text, .int m_bad, .int m_at, .int m_length, .ref m_word, .int m_form, .int m_code, .int m_d, .int m_s, .int m_t, .long m_value, .long m_label, .long m_name, .ref m_count, .ref m_formOf, .ref m_codeOf, .ref m_dOf, .ref m_sOf, .ref m_tOf, .ref m_valueOf, .ref m_labelOf, .ref m_nameOf, .ref m_target, .ref m_place, .ref m_far, .int m_imageSize, .int m_farCount, .ref m_image, .int wv, .ref m_out])) :: (m_out, .inl (tp_ty E 0, 40, .inl fo)) :: (m_forms, .inl (tp_ty E 0, 46, .inl f_forms)) :: (m_names, .inl (tp_ty E 1, 46, .inr (.inl f_names))) :: fr) _ := tp_mvP 1 rfl hP
        have hD : va_D A ((aM, .inr (4, [.int 0, .ref m_names, .ref m_forms, .int m_size, .ref m_text, .int m_bad, .int m_at, .int m_length, .ref m_word, .int m_form, .int m_code, .int m_d, .int m_s, .int m_t, .long m_value, .long m_label, .long m_name, .ref m_count, .ref m_formOf, .ref m_codeOf, .ref m_dOf, .ref m_sOf, .ref m_tOf, .ref m_valueOf, .ref m_labelOf, .ref m_nameOf, .ref m_target, .ref m_place, .ref m_far, .int m_imageSize, .int m_farCount, .ref m_image, .int wv, .ref m_out])) :: (m_out, .inl (tp_ty E 0, 40, .inl fo)) :: (m_forms, .inl (tp_ty E 0, 46, .inl f_forms)) :: (m_names, .inl (tp_ty E 1, 46, .inr (.inl f_names))) :: fr) := tp_mvD 1 rfl hD
        refine tp_cv (tp_rV (As := [.int 32, .int ((xw >>> (7 &&& 31 : Int32)) &&& 31)]) (rest := []) ⟨hx, hb, hml, hown, htg⟩ (a_M_writeRegister l E ((m_forms, .inl (tp_ty E 0, 46, .inl f_forms)) :: (m_names, .inl (tp_ty E 1, 46, .inr (.inl f_names))) :: fr) _ aM m_names m_forms m_text m_word m_count m_formOf m_codeOf m_dOf m_sOf m_tOf m_valueOf m_labelOf m_nameOf m_target m_place m_far m_image m_out 0 m_size m_bad m_at m_length m_form m_code m_d m_s m_t m_imageSize m_farCount wv m_value m_label m_name fo 32 ((xw >>> (7 &&& 31 : Int32)) &&& 31) (by omega)) (⟨callB_of 2 htg (tp_good0 kc_M_writeRegister) rfl rfl rfl (htg _ ki_M) (htg _ kl_M_425) ⟨by decide, by decide, by decide +kernel⟩ ⟨Nat.le_of_ble_eq_true rfl, Nat.le_of_ble_eq_true rfl⟩, htg _ km_M_writeRegister, htg _ kp_M_writeRegister⟩) (va_recv (ci := 4) (q0 := 0) hK.1 hP rfl rfl) hK hP hD hS hA rfl hl.1 rfl (Nat.le_of_ble_eq_true rfl) d_M_show_158 ⟨Nat.le_of_ble_eq_true rfl, Nat.le_of_ble_eq_true rfl⟩) hD hS hA (fun u H locs hw hP hD hS => ?_)
        obtain ⟨wq1, oq1⟩ := u
        have hwq1 : wq1.toInt = wv.toInt + 2 + (tp_dl ((xw >>> (7 &&& 31 : Int32)) &&& 31) : Int) := hw
        have hP : va_P (tp_D E) tp_cl ((aM, .inr (4, [.int 0, .ref m_names, .ref m_forms, .int m_size, .ref m_text, .int m_bad, .int m_at, .int m_length, .ref m_word, .int m_form, .int m_code, .int m_d, .int m_s, .int m_t, .long m_value, .long m_label, .long m_name, .ref m_count, .ref m_formOf, .ref m_codeOf, .ref m_dOf, .ref m_sOf, .ref m_tOf, .ref m_valueOf, .ref m_labelOf, .ref m_nameOf, .ref m_target, .ref m_place, .ref m_far, .int m_imageSize, .int m_farCount, .ref m_image, .int wq1, .ref m_out])) :: (m_out, .inl (tp_ty E 0, 40, .inl oq1)) :: (m_forms, .inl (tp_ty E 0, 46, .inl f_forms)) :: (m_names, .inl (tp_ty E 1, 46, .inr (.inl f_names))) :: fr) H := hP
        have hD : va_D A ((aM, .inr (4, [.int 0, .ref m_names, .ref m_forms, .int m_size, .ref m_text, .int m_bad, .int m_at, .int m_length, .ref m_word, .int m_form, .int m_code, .int m_d, .int m_s, .int m_t, .long m_value, .long m_label, .long m_name, .ref m_count, .ref m_formOf, .ref m_codeOf, .ref m_dOf, .ref m_sOf, .ref m_tOf, .ref m_valueOf, .ref m_labelOf, .ref m_nameOf, .ref m_target, .ref m_place, .ref m_far, .int m_imageSize, .int m_farCount, .ref m_image, .int wq1, .ref m_out])) :: (m_out, .inl (tp_ty E 0, 40, .inl oq1)) :: (m_forms, .inl (tp_ty E 0, 46, .inl f_forms)) :: (m_names, .inl (tp_ty E 1, 46, .inr (.inl f_names))) :: fr) := hD
        refine lv_iload_n hx hb d_M_show_161 rfl (lv_at hl 4 rfl) ?_
        refine lv_iconst (v := 4) hx hb d_M_show_162 (by decide) ?_
        refine lv_icmp_ge (tgt := 174) hx hb d_M_show_163 (by decide) (fun _ => ?_) (fun h => absurd (by decide) h)
        refine lv_iload_n hx hb d_M_show_174 rfl (lv_at hl 4 rfl) ?_
        refine lv_bipush (v := 7) hx hb d_M_show_175 (by decide) ?_
        refine lv_icmp_ne (tgt := 188) hx hb d_M_show_177 (by decide) (fun _ => ?_) (fun h => absurd h (by decide))
        refine lv_iload_n hx hb d_M_show_188 rfl (lv_at hl 4 rfl) ?_
        refine lv_iconst (v := 1) hx hb d_M_show_189 (by decide) ?_
        refine lv_icmp_ne (tgt := 206) hx hb d_M_show_190 (by decide) (fun _ => ?_) (fun h => absurd h (by decide))
        refine lv_aload_n hx hb d_M_show_206 rfl (lv_at hl 6 rfl) ?_
        refine lv_bipush (v := 44) hx hb d_M_show_207 (by decide) ?_
        refine tp_cv (tp_rV (As := [.int 44]) (rest := []) ⟨hx, hb, hml, hown, htg⟩ (a_M_write l E ((m_forms, .inl (tp_ty E 0, 46, .inl f_forms)) :: (m_names, .inl (tp_ty E 1, 46, .inr (.inl f_names))) :: fr) _ aM m_names m_forms m_text m_word m_count m_formOf m_codeOf m_dOf m_sOf m_tOf m_valueOf m_labelOf m_nameOf m_target m_place m_far m_image m_out 0 m_size m_bad m_at m_length m_form m_code m_d m_s m_t m_imageSize m_farCount wq1 m_value m_label m_name oq1 44 (by omega)) (⟨callB_of 1 htg (tp_good0 kc_M_write) rfl rfl rfl (htg _ ki_M) (htg _ kl_M_414) ⟨by decide, by decide, by decide +kernel⟩ ⟨Nat.le_of_ble_eq_true rfl, Nat.le_of_ble_eq_true rfl⟩, htg _ km_M_write, htg _ kp_M_write⟩) (va_recv (ci := 4) (q0 := 0) hK.1 hP rfl rfl) hK hP hD hS hA rfl hl.1 rfl (Nat.le_of_ble_eq_true rfl) d_M_show_209 ⟨Nat.le_of_ble_eq_true rfl, Nat.le_of_ble_eq_true rfl⟩) hD hS hA (fun u H locs hw hP hD hS => ?_)
        obtain ⟨wq2, oq2⟩ := u
        have hwq2 : wq2.toInt = wq1.toInt + 1 := hw
        have hP : va_P (tp_D E) tp_cl ((aM, .inr (4, [.int 0, .ref m_names, .ref m_forms, .int m_size, .ref m_text, .int m_bad, .int m_at, .int m_length, .ref m_word, .int m_form, .int m_code, .int m_d, .int m_s, .int m_t, .long m_value, .long m_label, .long m_name, .ref m_count, .ref m_formOf, .ref m_codeOf, .ref m_dOf, .ref m_sOf, .ref m_tOf, .ref m_valueOf, .ref m_labelOf, .ref m_nameOf, .ref m_target, .ref m_place, .ref m_far, .int m_imageSize, .int m_farCount, .ref m_image, .int wq2, .ref m_out])) :: (m_out, .inl (tp_ty E 0, 40, .inl oq2)) :: (m_forms, .inl (tp_ty E 0, 46, .inl f_forms)) :: (m_names, .inl (tp_ty E 1, 46, .inr (.inl f_names))) :: fr) H := hP
        have hD : va_D A ((aM, .inr (4, [.int 0, .ref m_names, .ref m_forms, .int m_size, .ref m_text, .int m_bad, .int m_at, .int m_length, .ref m_word, .int m_form, .int m_code, .int m_d, .int m_s, .int m_t, .long m_value, .long m_label, .long m_name, .ref m_count, .ref m_formOf, .ref m_codeOf, .ref m_dOf, .ref m_sOf, .ref m_tOf, .ref m_valueOf, .ref m_labelOf, .ref m_nameOf, .ref m_target, .ref m_place, .ref m_far, .int m_imageSize, .int m_farCount, .ref m_image, .int wq2, .ref m_out])) :: (m_out, .inl (tp_ty E 0, 40, .inl oq2)) :: (m_forms, .inl (tp_ty E 0, 46, .inl f_forms)) :: (m_names, .inl (tp_ty E 1, 46, .inr (.inl f_names))) :: fr) := hD
        refine lv_iload_n hx hb d_M_show_212 rfl (lv_at hl 7 rfl) ?_
        refine lv_bipush (v := 20) hx hb d_M_show_213 (by decide) ?_
        refine lv_iushr (v := (xw.toUInt32 >>> (Int32.toUInt32 20 &&& Int32.toUInt32 31)).toInt32) hx hb d_M_show_215 rfl ?_
        refine lv_bipush (v := 12) hx hb d_M_show_216 (by decide) ?_
        refine tp_ci (tp_rS (As := [.int ((xw.toUInt32 >>> (Int32.toUInt32 20 &&& Int32.toUInt32 31)).toInt32), .int 12]) (rest := []) ⟨hx, hb, hml, hown, htg⟩ (a_M_signed12 l E ((aM, .inr (4, [.int 0, .ref m_names, .ref m_forms, .int m_size, .ref m_text, .int m_bad, .int m_at, .int m_length, .ref m_word, .int m_form, .int m_code, .int m_d, .int m_s, .int m_t, .long m_value, .long m_label, .long m_name, .ref m_count, .ref m_formOf, .ref m_codeOf, .ref m_dOf, .ref m_sOf, .ref m_tOf, .ref m_valueOf, .ref m_labelOf, .ref m_nameOf, .ref m_target, .ref m_place, .ref m_far, .int m_imageSize, .int m_farCount, .ref m_image, .int wq2, .ref m_out])) :: (m_out, .inl (tp_ty E 0, 40, .inl oq2)) :: (m_forms, .inl (tp_ty E 0, 46, .inl f_forms)) :: (m_names, .inl (tp_ty E 1, 46, .inr (.inl f_names))) :: fr) _ ((xw.toUInt32 >>> (Int32.toUInt32 20 &&& Int32.toUInt32 31)).toInt32) ) (⟨callB_of 2 htg (tp_good0 kc_M_signed) rfl rfl rfl (htg _ ki_M) (htg _ kl_M_428) ⟨by decide, by decide, by decide +kernel⟩ ⟨Nat.le_of_ble_eq_true rfl, Nat.le_of_ble_eq_true rfl⟩, htg _ ks_M_signed⟩) hK hP hD hS hA rfl hl.1 rfl (Nat.le_of_ble_eq_true rfl) d_M_show_218 ⟨Nat.le_of_ble_eq_true rfl, Nat.le_of_ble_eq_true rfl⟩) hD hS hA (fun r u H locs hw hP hD hS => ?_)
        subst r
        have hP : va_P (tp_D E) tp_cl ((aM, .inr (4, [.int 0, .ref m_names, .ref m_forms, .int m_size, .ref m_text, .int m_bad, .int m_at, .int m_length, .ref m_word, .int m_form, .int m_code, .int m_d, .int m_s, .int m_t, .long m_value, .long m_label, .long m_name, .ref m_count, .ref m_formOf, .ref m_codeOf, .ref m_dOf, .ref m_sOf, .ref m_tOf, .ref m_valueOf, .ref m_labelOf, .ref m_nameOf, .ref m_target, .ref m_place, .ref m_far, .int m_imageSize, .int m_farCount, .ref m_image, .int wq2, .ref m_out])) :: (m_out, .inl (tp_ty E 0, 40, .inl oq2)) :: (m_forms, .inl (tp_ty E 0, 46, .inl f_forms)) :: (m_names, .inl (tp_ty E 1, 46, .inr (.inl f_names))) :: fr) H := hP
        have hD : va_D A ((aM, .inr (4, [.int 0, .ref m_names, .ref m_forms, .int m_size, .ref m_text, .int m_bad, .int m_at, .int m_length, .ref m_word, .int m_form, .int m_code, .int m_d, .int m_s, .int m_t, .long m_value, .long m_label, .long m_name, .ref m_count, .ref m_formOf, .ref m_codeOf, .ref m_dOf, .ref m_sOf, .ref m_tOf, .ref m_valueOf, .ref m_labelOf, .ref m_nameOf, .ref m_target, .ref m_place, .ref m_far, .int m_imageSize, .int m_farCount, .ref m_image, .int wq2, .ref m_out])) :: (m_out, .inl (tp_ty E 0, 40, .inl oq2)) :: (m_forms, .inl (tp_ty E 0, 46, .inl f_forms)) :: (m_names, .inl (tp_ty E 1, 46, .inr (.inl f_names))) :: fr) := hD
        refine lv_istore (lv' := [(8, .int (if (xw.toUInt32 >>> (Int32.toUInt32 20 &&& Int32.toUInt32 31)).toInt32 < 2048 then (xw.toUInt32 >>> (Int32.toUInt32 20 &&& Int32.toUInt32 31)).toInt32 else (xw.toUInt32 >>> (Int32.toUInt32 20 &&& Int32.toUInt32 31)).toInt32 - 4096)), (7, .int 1), (6, .int ((xw >>> (20 &&& 31 : Int32)) &&& 31)), (5, .int ((xw >>> (15 &&& 31 : Int32)) &&& 31)), (4, .int ((xw >>> (7 &&& 31 : Int32)) &&& 31)), (3, .int 8), (2, .int ko), (0, .ref aM), (1, .int xw)]) hx hb d_M_show_221 hl (by decide) rfl (fun ls hl => ?_)
        refine lv_iload_n hx hb d_M_show_223 rfl (lv_at hl 5 rfl) ?_
        refine lv_iconst (v := 3) hx hb d_M_show_224 (by decide) ?_
        refine lv_icmp_ne (tgt := 237) hx hb d_M_show_225 (by decide) (fun _ => ?_) (fun h => absurd h (by decide))
        refine lv_iload_n hx hb d_M_show_237 rfl (lv_at hl 5 rfl) ?_
        refine lv_iconst (v := 4) hx hb d_M_show_238 (by decide) ?_
        refine lv_icmp_ne (tgt := 248) hx hb d_M_show_239 (by decide) (fun _ => ?_) (fun h => absurd h (by decide))
        refine lv_iload_n hx hb d_M_show_248 rfl (lv_at hl 5 rfl) ?_
        refine lv_bipush (v := 6) hx hb d_M_show_249 (by decide) ?_
        refine lv_icmp_ne (tgt := 271) hx hb d_M_show_251 (by decide) (fun _ => ?_) (fun h => absurd h (by decide))
        refine lv_iload_n hx hb d_M_show_271 rfl (lv_at hl 5 rfl) ?_
        refine lv_bipush (v := 7) hx hb d_M_show_272 (by decide) ?_
        refine lv_icmp_ne (tgt := 324) hx hb d_M_show_274 (by decide) (fun _ => ?_) (fun h => absurd h (by decide))
        refine lv_iload_n hx hb d_M_show_324 rfl (lv_at hl 5 rfl) ?_
        refine lv_bipush (v := 8) hx hb d_M_show_325 (by decide) ?_
        refine lv_icmp_ne (tgt := 380) hx hb d_M_show_327 (by decide) (fun h => absurd (by decide) h) (fun _ => ?_)
        refine lv_iload_n hx hb d_M_show_330 rfl (lv_at hl 8 rfl) ?_
        refine lv_bipush (v := 31) hx hb d_M_show_331 (by decide) ?_
        refine lv_iushr (v := (xw.toUInt32 >>> (Int32.toUInt32 31 &&& Int32.toUInt32 31)).toInt32) hx hb d_M_show_333 rfl ?_
        refine lv_ldcw (v := 1048576) hx hb hown (htg _ kl_M_431) d_M_show_334 ?_
        refine lv_imul hx hb d_M_show_337 ?_
        refine lv_iload_n hx hb d_M_show_338 rfl (lv_at hl 8 rfl) ?_
        refine lv_bipush (v := 12) hx hb d_M_show_339 (by decide) ?_
        refine lv_ishr hx hb d_M_show_341 ?_
        refine lv_sipush (v := 255) hx hb d_M_show_342 (by decide) ?_
        refine lv_iand hx hb d_M_show_345 ?_
        refine lv_sipush (v := 4096) hx hb d_M_show_346 (by decide) ?_
        refine lv_imul hx hb d_M_show_349 ?_
        refine lv_iadd hx hb d_M_show_350 ?_
        refine lv_iload_n hx hb d_M_show_351 rfl (lv_at hl 8 rfl) ?_
        refine lv_bipush (v := 20) hx hb d_M_show_352 (by decide) ?_
        refine lv_ishr hx hb d_M_show_354 ?_
        refine lv_iconst (v := 1) hx hb d_M_show_355 (by decide) ?_
        refine lv_iand hx hb d_M_show_356 ?_
        refine lv_sipush (v := 2048) hx hb d_M_show_357 (by decide) ?_
        refine lv_imul hx hb d_M_show_360 ?_
        refine lv_iadd hx hb d_M_show_361 ?_
        refine lv_iload_n hx hb d_M_show_362 rfl (lv_at hl 8 rfl) ?_
        refine lv_bipush (v := 21) hx hb d_M_show_363 (by decide) ?_
        refine lv_ishr hx hb d_M_show_365 ?_
        refine lv_sipush (v := 1023) hx hb d_M_show_366 (by decide) ?_
        refine lv_iand hx hb d_M_show_369 ?_
        refine lv_iconst (v := 2) hx hb d_M_show_370 (by decide) ?_
        refine lv_imul hx hb d_M_show_371 ?_
        refine lv_iadd hx hb d_M_show_372 ?_
        refine lv_bipush (v := 21) hx hb d_M_show_373 (by decide) ?_
        refine tp_ci (tp_rS (As := [.int (((((xw.toUInt32 >>> (Int32.toUInt32 31 &&& Int32.toUInt32 31)).toInt32 * 1048576) + (((xw >>> (12 &&& 31 : Int32)) &&& 255) * 4096)) + (((xw >>> (20 &&& 31 : Int32)) &&& 1) * 2048)) + (((xw >>> (21 &&& 31 : Int32)) &&& 1023) * 2)), .int 21]) (rest := []) ⟨hx, hb, hml, hown, htg⟩ (a_M_signed21 l E ((aM, .inr (4, [.int 0, .ref m_names, .ref m_forms, .int m_size, .ref m_text, .int m_bad, .int m_at, .int m_length, .ref m_word, .int m_form, .int m_code, .int m_d, .int m_s, .int m_t, .long m_value, .long m_label, .long m_name, .ref m_count, .ref m_formOf, .ref m_codeOf, .ref m_dOf, .ref m_sOf, .ref m_tOf, .ref m_valueOf, .ref m_labelOf, .ref m_nameOf, .ref m_target, .ref m_place, .ref m_far, .int m_imageSize, .int m_farCount, .ref m_image, .int wq2, .ref m_out])) :: (m_out, .inl (tp_ty E 0, 40, .inl oq2)) :: (m_forms, .inl (tp_ty E 0, 46, .inl f_forms)) :: (m_names, .inl (tp_ty E 1, 46, .inr (.inl f_names))) :: fr) _ (((((xw.toUInt32 >>> (Int32.toUInt32 31 &&& Int32.toUInt32 31)).toInt32 * 1048576) + (((xw >>> (12 &&& 31 : Int32)) &&& 255) * 4096)) + (((xw >>> (20 &&& 31 : Int32)) &&& 1) * 2048)) + (((xw >>> (21 &&& 31 : Int32)) &&& 1023) * 2)) ) (⟨callB_of 2 htg (tp_good0 kc_M_signed) rfl rfl rfl (htg _ ki_M) (htg _ kl_M_428) ⟨by decide, by decide, by decide +kernel⟩ ⟨Nat.le_of_ble_eq_true rfl, Nat.le_of_ble_eq_true rfl⟩, htg _ ks_M_signed⟩) hK hP hD hS hA rfl hl.1 rfl (Nat.le_of_ble_eq_true rfl) d_M_show_375 ⟨Nat.le_of_ble_eq_true rfl, Nat.le_of_ble_eq_true rfl⟩) hD hS hA (fun r u H locs hw hP hD hS => ?_)
        subst r
        have hP : va_P (tp_D E) tp_cl ((aM, .inr (4, [.int 0, .ref m_names, .ref m_forms, .int m_size, .ref m_text, .int m_bad, .int m_at, .int m_length, .ref m_word, .int m_form, .int m_code, .int m_d, .int m_s, .int m_t, .long m_value, .long m_label, .long m_name, .ref m_count, .ref m_formOf, .ref m_codeOf, .ref m_dOf, .ref m_sOf, .ref m_tOf, .ref m_valueOf, .ref m_labelOf, .ref m_nameOf, .ref m_target, .ref m_place, .ref m_far, .int m_imageSize, .int m_farCount, .ref m_image, .int wq2, .ref m_out])) :: (m_out, .inl (tp_ty E 0, 40, .inl oq2)) :: (m_forms, .inl (tp_ty E 0, 46, .inl f_forms)) :: (m_names, .inl (tp_ty E 1, 46, .inr (.inl f_names))) :: fr) H := hP
        have hD : va_D A ((aM, .inr (4, [.int 0, .ref m_names, .ref m_forms, .int m_size, .ref m_text, .int m_bad, .int m_at, .int m_length, .ref m_word, .int m_form, .int m_code, .int m_d, .int m_s, .int m_t, .long m_value, .long m_label, .long m_name, .ref m_count, .ref m_formOf, .ref m_codeOf, .ref m_dOf, .ref m_sOf, .ref m_tOf, .ref m_valueOf, .ref m_labelOf, .ref m_nameOf, .ref m_target, .ref m_place, .ref m_far, .int m_imageSize, .int m_farCount, .ref m_image, .int wq2, .ref m_out])) :: (m_out, .inl (tp_ty E 0, 40, .inl oq2)) :: (m_forms, .inl (tp_ty E 0, 46, .inl f_forms)) :: (m_names, .inl (tp_ty E 1, 46, .inr (.inl f_names))) :: fr) := hD
        refine lv_istore (lv' := [(8, .int (if (((((xw.toUInt32 >>> (Int32.toUInt32 31 &&& Int32.toUInt32 31)).toInt32 * 1048576) + (((xw >>> (12 &&& 31 : Int32)) &&& 255) * 4096)) + (((xw >>> (20 &&& 31 : Int32)) &&& 1) * 2048)) + (((xw >>> (21 &&& 31 : Int32)) &&& 1023) * 2)) < 1048576 then (((((xw.toUInt32 >>> (Int32.toUInt32 31 &&& Int32.toUInt32 31)).toInt32 * 1048576) + (((xw >>> (12 &&& 31 : Int32)) &&& 255) * 4096)) + (((xw >>> (20 &&& 31 : Int32)) &&& 1) * 2048)) + (((xw >>> (21 &&& 31 : Int32)) &&& 1023) * 2)) else (((((xw.toUInt32 >>> (Int32.toUInt32 31 &&& Int32.toUInt32 31)).toInt32 * 1048576) + (((xw >>> (12 &&& 31 : Int32)) &&& 255) * 4096)) + (((xw >>> (20 &&& 31 : Int32)) &&& 1) * 2048)) + (((xw >>> (21 &&& 31 : Int32)) &&& 1023) * 2)) - 2097152)), (7, .int 1), (6, .int ((xw >>> (20 &&& 31 : Int32)) &&& 31)), (5, .int ((xw >>> (15 &&& 31 : Int32)) &&& 31)), (4, .int ((xw >>> (7 &&& 31 : Int32)) &&& 31)), (3, .int 8), (2, .int ko), (0, .ref aM), (1, .int xw)]) hx hb d_M_show_378 hl (by decide) rfl (fun ls hl => ?_)
        refine lv_aload_n hx hb d_M_show_380 rfl (lv_at hl 7 rfl) ?_
        refine lv_iload hx hb d_M_show_381 (lv_at hl 0 rfl) ?_
        have gn := (tp_dl10 (xv := (if (((((xw.toUInt32 >>> (Int32.toUInt32 31 &&& Int32.toUInt32 31)).toInt32 * 1048576) + (((xw >>> (12 &&& 31 : Int32)) &&& 255) * 4096)) + (((xw >>> (20 &&& 31 : Int32)) &&& 1) * 2048)) + (((xw >>> (21 &&& 31 : Int32)) &&& 1023) * 2)) < 1048576 then (((((xw.toUInt32 >>> (Int32.toUInt32 31 &&& Int32.toUInt32 31)).toInt32 * 1048576) + (((xw >>> (12 &&& 31 : Int32)) &&& 255) * 4096)) + (((xw >>> (20 &&& 31 : Int32)) &&& 1) * 2048)) + (((xw >>> (21 &&& 31 : Int32)) &&& 1023) * 2)) else (((((xw.toUInt32 >>> (Int32.toUInt32 31 &&& Int32.toUInt32 31)).toInt32 * 1048576) + (((xw >>> (12 &&& 31 : Int32)) &&& 255) * 4096)) + (((xw >>> (20 &&& 31 : Int32)) &&& 1) * 2048)) + (((xw >>> (21 &&& 31 : Int32)) &&& 1023) * 2)) - 2097152))).1
        refine tp_cv (tp_rV (As := [.int (if (((((xw.toUInt32 >>> (Int32.toUInt32 31 &&& Int32.toUInt32 31)).toInt32 * 1048576) + (((xw >>> (12 &&& 31 : Int32)) &&& 255) * 4096)) + (((xw >>> (20 &&& 31 : Int32)) &&& 1) * 2048)) + (((xw >>> (21 &&& 31 : Int32)) &&& 1023) * 2)) < 1048576 then (((((xw.toUInt32 >>> (Int32.toUInt32 31 &&& Int32.toUInt32 31)).toInt32 * 1048576) + (((xw >>> (12 &&& 31 : Int32)) &&& 255) * 4096)) + (((xw >>> (20 &&& 31 : Int32)) &&& 1) * 2048)) + (((xw >>> (21 &&& 31 : Int32)) &&& 1023) * 2)) else (((((xw.toUInt32 >>> (Int32.toUInt32 31 &&& Int32.toUInt32 31)).toInt32 * 1048576) + (((xw >>> (12 &&& 31 : Int32)) &&& 255) * 4096)) + (((xw >>> (20 &&& 31 : Int32)) &&& 1) * 2048)) + (((xw >>> (21 &&& 31 : Int32)) &&& 1023) * 2)) - 2097152)]) (rest := []) ⟨hx, hb, hml, hown, htg⟩ (a_M_writeNumber l E ((m_forms, .inl (tp_ty E 0, 46, .inl f_forms)) :: (m_names, .inl (tp_ty E 1, 46, .inr (.inl f_names))) :: fr) _ aM m_names m_forms m_text m_word m_count m_formOf m_codeOf m_dOf m_sOf m_tOf m_valueOf m_labelOf m_nameOf m_target m_place m_far m_image m_out 0 m_size m_bad m_at m_length m_form m_code m_d m_s m_t m_imageSize m_farCount wq2 m_value m_label m_name oq2 (if (((((xw.toUInt32 >>> (Int32.toUInt32 31 &&& Int32.toUInt32 31)).toInt32 * 1048576) + (((xw >>> (12 &&& 31 : Int32)) &&& 255) * 4096)) + (((xw >>> (20 &&& 31 : Int32)) &&& 1) * 2048)) + (((xw >>> (21 &&& 31 : Int32)) &&& 1023) * 2)) < 1048576 then (((((xw.toUInt32 >>> (Int32.toUInt32 31 &&& Int32.toUInt32 31)).toInt32 * 1048576) + (((xw >>> (12 &&& 31 : Int32)) &&& 255) * 4096)) + (((xw >>> (20 &&& 31 : Int32)) &&& 1) * 2048)) + (((xw >>> (21 &&& 31 : Int32)) &&& 1023) * 2)) else (((((xw.toUInt32 >>> (Int32.toUInt32 31 &&& Int32.toUInt32 31)).toInt32 * 1048576) + (((xw >>> (12 &&& 31 : Int32)) &&& 255) * 4096)) + (((xw >>> (20 &&& 31 : Int32)) &&& 1) * 2048)) + (((xw >>> (21 &&& 31 : Int32)) &&& 1023) * 2)) - 2097152) (by omega)) (⟨callB_of 1 htg (tp_good0 kc_M_writeNumber) rfl rfl rfl (htg _ ki_M) (htg _ kl_M_419) ⟨by decide, by decide, by decide +kernel⟩ ⟨Nat.le_of_ble_eq_true rfl, Nat.le_of_ble_eq_true rfl⟩, htg _ km_M_writeNumber, htg _ kp_M_writeNumber⟩) (va_recv (ci := 4) (q0 := 0) hK.1 hP rfl rfl) hK hP hD hS hA rfl hl.1 rfl (Nat.le_of_ble_eq_true rfl) d_M_show_383 ⟨Nat.le_of_ble_eq_true rfl, Nat.le_of_ble_eq_true rfl⟩) hD hS hA (fun u H locs hw hP hD hS => ?_)
        obtain ⟨wq3, oq3⟩ := u
        have hwq3 : wq3.toInt = wq2.toInt + (tp_dl (if (((((xw.toUInt32 >>> (Int32.toUInt32 31 &&& Int32.toUInt32 31)).toInt32 * 1048576) + (((xw >>> (12 &&& 31 : Int32)) &&& 255) * 4096)) + (((xw >>> (20 &&& 31 : Int32)) &&& 1) * 2048)) + (((xw >>> (21 &&& 31 : Int32)) &&& 1023) * 2)) < 1048576 then (((((xw.toUInt32 >>> (Int32.toUInt32 31 &&& Int32.toUInt32 31)).toInt32 * 1048576) + (((xw >>> (12 &&& 31 : Int32)) &&& 255) * 4096)) + (((xw >>> (20 &&& 31 : Int32)) &&& 1) * 2048)) + (((xw >>> (21 &&& 31 : Int32)) &&& 1023) * 2)) else (((((xw.toUInt32 >>> (Int32.toUInt32 31 &&& Int32.toUInt32 31)).toInt32 * 1048576) + (((xw >>> (12 &&& 31 : Int32)) &&& 255) * 4096)) + (((xw >>> (20 &&& 31 : Int32)) &&& 1) * 2048)) + (((xw >>> (21 &&& 31 : Int32)) &&& 1023) * 2)) - 2097152) : Int) := hw
        have hP : va_P (tp_D E) tp_cl ((aM, .inr (4, [.int 0, .ref m_names, .ref m_forms, .int m_size, .ref m_text, .int m_bad, .int m_at, .int m_length, .ref m_word, .int m_form, .int m_code, .int m_d, .int m_s, .int m_t, .long m_value, .long m_label, .long m_name, .ref m_count, .ref m_formOf, .ref m_codeOf, .ref m_dOf, .ref m_sOf, .ref m_tOf, .ref m_valueOf, .ref m_labelOf, .ref m_nameOf, .ref m_target, .ref m_place, .ref m_far, .int m_imageSize, .int m_farCount, .ref m_image, .int wq3, .ref m_out])) :: (m_out, .inl (tp_ty E 0, 40, .inl oq3)) :: (m_forms, .inl (tp_ty E 0, 46, .inl f_forms)) :: (m_names, .inl (tp_ty E 1, 46, .inr (.inl f_names))) :: fr) H := hP
        have hD : va_D A ((aM, .inr (4, [.int 0, .ref m_names, .ref m_forms, .int m_size, .ref m_text, .int m_bad, .int m_at, .int m_length, .ref m_word, .int m_form, .int m_code, .int m_d, .int m_s, .int m_t, .long m_value, .long m_label, .long m_name, .ref m_count, .ref m_formOf, .ref m_codeOf, .ref m_dOf, .ref m_sOf, .ref m_tOf, .ref m_valueOf, .ref m_labelOf, .ref m_nameOf, .ref m_target, .ref m_place, .ref m_far, .int m_imageSize, .int m_farCount, .ref m_image, .int wq3, .ref m_out])) :: (m_out, .inl (tp_ty E 0, 40, .inl oq3)) :: (m_forms, .inl (tp_ty E 0, 46, .inl f_forms)) :: (m_names, .inl (tp_ty E 1, 46, .inr (.inl f_names))) :: fr) := hD
        refine lv_iload_n hx hb d_M_show_386 rfl (lv_at hl 5 rfl) ?_
        refine lv_iconst (v := 5) hx hb d_M_show_387 (by decide) ?_
        refine lv_icmp_eq (tgt := 397) hx hb d_M_show_388 (by decide) (fun h => absurd h (by decide)) (fun _ => ?_)
        refine lv_iload_n hx hb d_M_show_391 rfl (lv_at hl 5 rfl) ?_
        refine lv_bipush (v := 6) hx hb d_M_show_392 (by decide) ?_
        refine lv_icmp_ne (tgt := 411) hx hb d_M_show_394 (by decide) (fun _ => ?_) (fun h => absurd h (by decide))
        refine lv_aload_n hx hb d_M_show_411 rfl (lv_at hl 7 rfl) ?_
        refine va_get (D := tp_D E) (ci := 4) (v := .int wq3) (C := qR_M) (T := qF_M) (N := 34) hx hb htg qi_M hown hK.1 hP 0 rfl rfl 32 (by decide) (htg _ kl_M_411) (fun _ h => h) rfl d_M_show_412 ?_
        have hP : va_P (tp_D E) tp_cl ((m_out, .inl (tp_ty E 0, 40, .inl oq3)) :: (aM, .inr (4, [.int 0, .ref m_names, .ref m_forms, .int m_size, .ref m_text, .int m_bad, .int m_at, .int m_length, .ref m_word, .int m_form, .int m_code, .int m_d, .int m_s, .int m_t, .long m_value, .long m_label, .long m_name, .ref m_count, .ref m_formOf, .ref m_codeOf, .ref m_dOf, .ref m_sOf, .ref m_tOf, .ref m_valueOf, .ref m_labelOf, .ref m_nameOf, .ref m_target, .ref m_place, .ref m_far, .int m_imageSize, .int m_farCount, .ref m_image, .int wq3, .ref m_out])) :: (m_forms, .inl (tp_ty E 0, 46, .inl f_forms)) :: (m_names, .inl (tp_ty E 1, 46, .inr (.inl f_names))) :: fr) _ := tp_mvP 1 rfl hP
        have hD : va_D A ((m_out, .inl (tp_ty E 0, 40, .inl oq3)) :: (aM, .inr (4, [.int 0, .ref m_names, .ref m_forms, .int m_size, .ref m_text, .int m_bad, .int m_at, .int m_length, .ref m_word, .int m_form, .int m_code, .int m_d, .int m_s, .int m_t, .long m_value, .long m_label, .long m_name, .ref m_count, .ref m_formOf, .ref m_codeOf, .ref m_dOf, .ref m_sOf, .ref m_tOf, .ref m_valueOf, .ref m_labelOf, .ref m_nameOf, .ref m_target, .ref m_place, .ref m_far, .int m_imageSize, .int m_farCount, .ref m_image, .int wq3, .ref m_out])) :: (m_forms, .inl (tp_ty E 0, 46, .inl f_forms)) :: (m_names, .inl (tp_ty E 1, 46, .inr (.inl f_names))) :: fr) := tp_mvD 1 rfl hD
        have hP : va_P (tp_D E) tp_cl ((m_forms, .inl (tp_ty E 0, 46, .inl f_forms)) :: (m_out, .inl (tp_ty E 0, 40, .inl oq3)) :: (aM, .inr (4, [.int 0, .ref m_names, .ref m_forms, .int m_size, .ref m_text, .int m_bad, .int m_at, .int m_length, .ref m_word, .int m_form, .int m_code, .int m_d, .int m_s, .int m_t, .long m_value, .long m_label, .long m_name, .ref m_count, .ref m_formOf, .ref m_codeOf, .ref m_dOf, .ref m_sOf, .ref m_tOf, .ref m_valueOf, .ref m_labelOf, .ref m_nameOf, .ref m_target, .ref m_place, .ref m_far, .int m_imageSize, .int m_farCount, .ref m_image, .int wq3, .ref m_out])) :: (m_names, .inl (tp_ty E 1, 46, .inr (.inl f_names))) :: fr) _ := tp_mvP 2 rfl hP
        have hD : va_D A ((m_forms, .inl (tp_ty E 0, 46, .inl f_forms)) :: (m_out, .inl (tp_ty E 0, 40, .inl oq3)) :: (aM, .inr (4, [.int 0, .ref m_names, .ref m_forms, .int m_size, .ref m_text, .int m_bad, .int m_at, .int m_length, .ref m_word, .int m_form, .int m_code, .int m_d, .int m_s, .int m_t, .long m_value, .long m_label, .long m_name, .ref m_count, .ref m_formOf, .ref m_codeOf, .ref m_dOf, .ref m_sOf, .ref m_tOf, .ref m_valueOf, .ref m_labelOf, .ref m_nameOf, .ref m_target, .ref m_place, .ref m_far, .int m_imageSize, .int m_farCount, .ref m_image, .int wq3, .ref m_out])) :: (m_names, .inl (tp_ty E 1, 46, .inr (.inl f_names))) :: fr) := tp_mvD 2 rfl hD
        have hP : va_P (tp_D E) tp_cl ((m_names, .inl (tp_ty E 1, 46, .inr (.inl f_names))) :: (m_forms, .inl (tp_ty E 0, 46, .inl f_forms)) :: (m_out, .inl (tp_ty E 0, 40, .inl oq3)) :: (aM, .inr (4, [.int 0, .ref m_names, .ref m_forms, .int m_size, .ref m_text, .int m_bad, .int m_at, .int m_length, .ref m_word, .int m_form, .int m_code, .int m_d, .int m_s, .int m_t, .long m_value, .long m_label, .long m_name, .ref m_count, .ref m_formOf, .ref m_codeOf, .ref m_dOf, .ref m_sOf, .ref m_tOf, .ref m_valueOf, .ref m_labelOf, .ref m_nameOf, .ref m_target, .ref m_place, .ref m_far, .int m_imageSize, .int m_farCount, .ref m_image, .int wq3, .ref m_out])) :: fr) _ := tp_mvP 3 rfl hP
        have hD : va_D A ((m_names, .inl (tp_ty E 1, 46, .inr (.inl f_names))) :: (m_forms, .inl (tp_ty E 0, 46, .inl f_forms)) :: (m_out, .inl (tp_ty E 0, 40, .inl oq3)) :: (aM, .inr (4, [.int 0, .ref m_names, .ref m_forms, .int m_size, .ref m_text, .int m_bad, .int m_at, .int m_length, .ref m_word, .int m_form, .int m_code, .int m_d, .int m_s, .int m_t, .long m_value, .long m_label, .long m_name, .ref m_count, .ref m_formOf, .ref m_codeOf, .ref m_dOf, .ref m_sOf, .ref m_tOf, .ref m_valueOf, .ref m_labelOf, .ref m_nameOf, .ref m_target, .ref m_place, .ref m_far, .int m_imageSize, .int m_farCount, .ref m_image, .int wq3, .ref m_out])) :: fr) := tp_mvD 3 rfl hD
        have hP : va_P (tp_D E) tp_cl ((aM, .inr (4, [.int 0, .ref m_names, .ref m_forms, .int m_size, .ref m_text, .int m_bad, .int m_at, .int m_length, .ref m_word, .int m_form, .int m_code, .int m_d, .int m_s, .int m_t, .long m_value, .long m_label, .long m_name, .ref m_count, .ref m_formOf, .ref m_codeOf, .ref m_dOf, .ref m_sOf, .ref m_tOf, .ref m_valueOf, .ref m_labelOf, .ref m_nameOf, .ref m_target, .ref m_place, .ref m_far, .int m_imageSize, .int m_farCount, .ref m_image, .int wq3, .ref m_out])) :: (m_names, .inl (tp_ty E 1, 46, .inr (.inl f_names))) :: (m_forms, .inl (tp_ty E 0, 46, .inl f_forms)) :: (m_out, .inl (tp_ty E 0, 40, .inl oq3)) :: fr) _ := tp_mvP 3 rfl hP
        have hD : va_D A ((aM, .inr (4, [.int 0, .ref m_names, .ref m_forms, .int m_size, .ref m_text, .int m_bad, .int m_at, .int m_length, .ref m_word, .int m_form, .int m_code, .int m_d, .int m_s, .int m_t, .long m_value, .long m_label, .long m_name, .ref m_count, .ref m_formOf, .ref m_codeOf, .ref m_dOf, .ref m_sOf, .ref m_tOf, .ref m_valueOf, .ref m_labelOf, .ref m_nameOf, .ref m_target, .ref m_place, .ref m_far, .int m_imageSize, .int m_farCount, .ref m_image, .int wq3, .ref m_out])) :: (m_names, .inl (tp_ty E 1, 46, .inr (.inl f_names))) :: (m_forms, .inl (tp_ty E 0, 46, .inl f_forms)) :: (m_out, .inl (tp_ty E 0, 40, .inl oq3)) :: fr) := tp_mvD 3 rfl hD
        have hb40 : 0 ≤ wq3.toInt ∧ wq3.toInt ≤ 40 := by omega
        exact W.iret (v := wq3) hx hb hr (fun t ht hW => ⟨⟨_, (0, wq3, oq3), rfl, Or.inr ⟨rfl, ⟨ko, hmh, Int32.le_iff_toInt_le.mp h1, (by rw [hxf]; show _ = _ + (((2 + tp_dl ((xw >>> (7 &&& 31 : Int32)) &&& 31)) + 1 + tp_dl (if (((((xw.toUInt32 >>> (Int32.toUInt32 31 &&& Int32.toUInt32 31)).toInt32 * 1048576) + (((xw >>> (12 &&& 31 : Int32)) &&& 255) * 4096)) + (((xw >>> (20 &&& 31 : Int32)) &&& 1) * 2048)) + (((xw >>> (21 &&& 31 : Int32)) &&& 1023) * 2)) < 1048576 then (((((xw.toUInt32 >>> (Int32.toUInt32 31 &&& Int32.toUInt32 31)).toInt32 * 1048576) + (((xw >>> (12 &&& 31 : Int32)) &&& 255) * 4096)) + (((xw >>> (20 &&& 31 : Int32)) &&& 1) * 2048)) + (((xw >>> (21 &&& 31 : Int32)) &&& 1023) * 2)) else (((((xw.toUInt32 >>> (Int32.toUInt32 31 &&& Int32.toUInt32 31)).toInt32 * 1048576) + (((xw >>> (12 &&& 31 : Int32)) &&& 255) * 4096)) + (((xw >>> (20 &&& 31 : Int32)) &&& 1) * 2048)) + (((xw >>> (21 &&& 31 : Int32)) &&& 1023) * 2)) - 2097152) : Nat) : Int); omega)⟩, rfl, hb40⟩, by rw [ht]; exact hP, hD⟩, hS.F ht⟩) hS.2.2 d_M_show_415
    · refine lv_if_lt (tgt := 75) hx hb d_M_show_37 (by decide) (fun h => absurd h h2) (fun _ => ?_)
      refine lv_aload_n hx hb d_M_show_40 rfl (lv_at hl 2 rfl) ?_
      refine va_get (D := tp_D E) (ci := 4) (v := .ref m_names) (C := qR_M) (T := qF_M) (N := 34) hx hb htg qi_M hown hK.1 hP 0 rfl rfl 1 (by decide) (htg _ kl_M_7) (fun _ h => h) rfl d_M_show_41 ?_
      refine lv_iload_n hx hb d_M_show_44 rfl (lv_at hl 1 rfl) ?_
      refine va_lald (D := tp_D E) hx hb hK.1 hP 2 1 rfl rfl (tp_ko46 hmh h1) d_M_show_45 ?_
      refine lv_bipush (v := 8) hx hb d_M_show_46 (by decide) ?_
      refine lv_iload_n hx hb d_M_show_48 rfl (lv_at hl 0 rfl) ?_
      refine lv_imul hx hb d_M_show_49 ?_
      refine lv_lshr (v := ((f_names ko.toNatClampNeg) >>> (Int32.toInt64 (8 * i3) &&& 63))) hx hb d_M_show_50 rfl ?_
      refine lv_ldc2 (v := 255) hx hb hown (htg _ kl_M_314) d_M_show_51 ?_
      refine lv_land hx hb d_M_show_54 ?_
      refine lv_l2i (v := (((f_names ko.toNatClampNeg) >>> (Int32.toInt64 (8 * i3) &&& 63)) &&& 255).toInt32) hx hb d_M_show_55 rfl ?_
      refine lv_istore (lv' := [(4, .int ((((f_names ko.toNatClampNeg) >>> (Int32.toInt64 (8 * i3) &&& 63)) &&& 255).toInt32)), (3, .int i3), (2, .int ko), (0, .ref aM), (1, .int xw)]) hx hb d_M_show_56 hl (by decide) rfl (fun ls hl => ?_)
      refine lv_iload hx hb d_M_show_58 (lv_at hl 0 rfl) ?_
      by_cases h3 : (((f_names ko.toNatClampNeg) >>> (Int32.toInt64 (8 * i3) &&& 63)) &&& 255).toInt32 ≤ 0
      · refine lv_if_le (tgt := 69) hx hb d_M_show_60 (by decide) (fun _ => ?_) (fun h => absurd h3 h)
        refine lv_iinc (k := 1) (v := (i3 + (-1))) (lv' := [(3, .int (i3 + (-1))), (4, .int ((((f_names ko.toNatClampNeg) >>> (Int32.toInt64 (8 * i3) &&& 63)) &&& 255).toInt32)), (2, .int ko), (0, .ref aM), (1, .int xw)]) hx hb d_M_show_69 hl rfl rfl (by decide) rfl (fun ls hl => ?_)
        refine lv_goto (tgt := 36) hx hb d_M_show_72 (by decide) ?_
        have hge := tp_ge0 h2
        have hk1 : (i3 + (-1)).toInt = i3.toInt - 1 := tp_decI (by omega)
        have hst := tp_nr0 (v := (f_names ko.toNatClampNeg)) hge hj h3
        exact ih (j - 1) (i3 + (-1)) wv fo ls _ _ (by omega) ⟨⟨by omega, by omega, ⟨by omega, hwv.2⟩⟩, tp_lvI hl [0, 2, 3, 4] rfl, hP, hD, hS⟩
      · refine lv_if_le (tgt := 69) hx hb d_M_show_60 (by decide) (fun h => absurd h h3) (fun _ => ?_)
        refine lv_aload_n hx hb d_M_show_63 rfl (lv_at hl 3 rfl) ?_
        refine lv_iload hx hb d_M_show_64 (lv_at hl 0 rfl) ?_
        have hP : va_P (tp_D E) tp_cl ((m_out, .inl (tp_ty E 0, 40, .inl fo)) :: (aM, .inr (4, [.int 0, .ref m_names, .ref m_forms, .int m_size, .ref m_text, .int m_bad, .int m_at, .int m_length, .ref m_word, .int m_form, .int m_code, .int m_d, .int m_s, .int m_t, .long m_value, .long m_label, .long m_name, .ref m_count, .ref m_formOf, .ref m_codeOf, .ref m_dOf, .ref m_sOf, .ref m_tOf, .ref m_valueOf, .ref m_labelOf, .ref m_nameOf, .ref m_target, .ref m_place, .ref m_far, .int m_imageSize, .int m_farCount, .ref m_image, .int wv, .ref m_out])) :: (m_forms, .inl (tp_ty E 0, 46, .inl f_forms)) :: (m_names, .inl (tp_ty E 1, 46, .inr (.inl f_names))) :: fr) _ := tp_mvP 3 rfl hP
        have hD : va_D A ((m_out, .inl (tp_ty E 0, 40, .inl fo)) :: (aM, .inr (4, [.int 0, .ref m_names, .ref m_forms, .int m_size, .ref m_text, .int m_bad, .int m_at, .int m_length, .ref m_word, .int m_form, .int m_code, .int m_d, .int m_s, .int m_t, .long m_value, .long m_label, .long m_name, .ref m_count, .ref m_formOf, .ref m_codeOf, .ref m_dOf, .ref m_sOf, .ref m_tOf, .ref m_valueOf, .ref m_labelOf, .ref m_nameOf, .ref m_target, .ref m_place, .ref m_far, .int m_imageSize, .int m_farCount, .ref m_image, .int wv, .ref m_out])) :: (m_forms, .inl (tp_ty E 0, 46, .inl f_forms)) :: (m_names, .inl (tp_ty E 1, 46, .inr (.inl f_names))) :: fr) := tp_mvD 3 rfl hD
        have hP : va_P (tp_D E) tp_cl ((aM, .inr (4, [.int 0, .ref m_names, .ref m_forms, .int m_size, .ref m_text, .int m_bad, .int m_at, .int m_length, .ref m_word, .int m_form, .int m_code, .int m_d, .int m_s, .int m_t, .long m_value, .long m_label, .long m_name, .ref m_count, .ref m_formOf, .ref m_codeOf, .ref m_dOf, .ref m_sOf, .ref m_tOf, .ref m_valueOf, .ref m_labelOf, .ref m_nameOf, .ref m_target, .ref m_place, .ref m_far, .int m_imageSize, .int m_farCount, .ref m_image, .int wv, .ref m_out])) :: (m_out, .inl (tp_ty E 0, 40, .inl fo)) :: (m_forms, .inl (tp_ty E 0, 46, .inl f_forms)) :: (m_names, .inl (tp_ty E 1, 46, .inr (.inl f_names))) :: fr) _ := tp_mvP 1 rfl hP
        have hD : va_D A ((aM, .inr (4, [.int 0, .ref m_names, .ref m_forms, .int m_size, .ref m_text, .int m_bad, .int m_at, .int m_length, .ref m_word, .int m_form, .int m_code, .int m_d, .int m_s, .int m_t, .long m_value, .long m_label, .long m_name, .ref m_count, .ref m_formOf, .ref m_codeOf, .ref m_dOf, .ref m_sOf, .ref m_tOf, .ref m_valueOf, .ref m_labelOf, .ref m_nameOf, .ref m_target, .ref m_place, .ref m_far, .int m_imageSize, .int m_farCount, .ref m_image, .int wv, .ref m_out])) :: (m_out, .inl (tp_ty E 0, 40, .inl fo)) :: (m_forms, .inl (tp_ty E 0, 46, .inl f_forms)) :: (m_names, .inl (tp_ty E 1, 46, .inr (.inl f_names))) :: fr) := tp_mvD 1 rfl hD
        refine tp_cv (tp_rV (As := [.int ((((f_names ko.toNatClampNeg) >>> (Int32.toInt64 (8 * i3) &&& 63)) &&& 255).toInt32)]) (rest := []) ⟨hx, hb, hml, hown, htg⟩ (a_M_write l E ((m_forms, .inl (tp_ty E 0, 46, .inl f_forms)) :: (m_names, .inl (tp_ty E 1, 46, .inr (.inl f_names))) :: fr) _ aM m_names m_forms m_text m_word m_count m_formOf m_codeOf m_dOf m_sOf m_tOf m_valueOf m_labelOf m_nameOf m_target m_place m_far m_image m_out 0 m_size m_bad m_at m_length m_form m_code m_d m_s m_t m_imageSize m_farCount wv m_value m_label m_name fo ((((f_names ko.toNatClampNeg) >>> (Int32.toInt64 (8 * i3) &&& 63)) &&& 255).toInt32) (by omega)) (⟨callB_of 1 htg (tp_good0 kc_M_write) rfl rfl rfl (htg _ ki_M) (htg _ kl_M_414) ⟨by decide, by decide, by decide +kernel⟩ ⟨Nat.le_of_ble_eq_true rfl, Nat.le_of_ble_eq_true rfl⟩, htg _ km_M_write, htg _ kp_M_write⟩) (va_recv (ci := 4) (q0 := 0) hK.1 hP rfl rfl) hK hP hD hS hA rfl hl.1 rfl (Nat.le_of_ble_eq_true rfl) d_M_show_66 ⟨Nat.le_of_ble_eq_true rfl, Nat.le_of_ble_eq_true rfl⟩) hD hS hA (fun u H locs hw hP hD hS => ?_)
        obtain ⟨wq1, oq1⟩ := u
        have hwq1 : wq1.toInt = wv.toInt + 1 := hw
        have hP : va_P (tp_D E) tp_cl ((aM, .inr (4, [.int 0, .ref m_names, .ref m_forms, .int m_size, .ref m_text, .int m_bad, .int m_at, .int m_length, .ref m_word, .int m_form, .int m_code, .int m_d, .int m_s, .int m_t, .long m_value, .long m_label, .long m_name, .ref m_count, .ref m_formOf, .ref m_codeOf, .ref m_dOf, .ref m_sOf, .ref m_tOf, .ref m_valueOf, .ref m_labelOf, .ref m_nameOf, .ref m_target, .ref m_place, .ref m_far, .int m_imageSize, .int m_farCount, .ref m_image, .int wq1, .ref m_out])) :: (m_out, .inl (tp_ty E 0, 40, .inl oq1)) :: (m_forms, .inl (tp_ty E 0, 46, .inl f_forms)) :: (m_names, .inl (tp_ty E 1, 46, .inr (.inl f_names))) :: fr) H := hP
        have hD : va_D A ((aM, .inr (4, [.int 0, .ref m_names, .ref m_forms, .int m_size, .ref m_text, .int m_bad, .int m_at, .int m_length, .ref m_word, .int m_form, .int m_code, .int m_d, .int m_s, .int m_t, .long m_value, .long m_label, .long m_name, .ref m_count, .ref m_formOf, .ref m_codeOf, .ref m_dOf, .ref m_sOf, .ref m_tOf, .ref m_valueOf, .ref m_labelOf, .ref m_nameOf, .ref m_target, .ref m_place, .ref m_far, .int m_imageSize, .int m_farCount, .ref m_image, .int wq1, .ref m_out])) :: (m_out, .inl (tp_ty E 0, 40, .inl oq1)) :: (m_forms, .inl (tp_ty E 0, 46, .inl f_forms)) :: (m_names, .inl (tp_ty E 1, 46, .inr (.inl f_names))) :: fr) := hD
        refine lv_iinc (k := 1) (v := (i3 + (-1))) (lv' := [(3, .int (i3 + (-1))), (4, .int ((((f_names ko.toNatClampNeg) >>> (Int32.toInt64 (8 * i3) &&& 63)) &&& 255).toInt32)), (2, .int ko), (0, .ref aM), (1, .int xw)]) hx hb d_M_show_69 hl rfl rfl (by decide) rfl (fun ls hl => ?_)
        refine lv_goto (tgt := 36) hx hb d_M_show_72 (by decide) ?_
        have hP : va_P (tp_D E) tp_cl ((m_out, .inl (tp_ty E 0, 40, .inl oq1)) :: (aM, .inr (4, [.int 0, .ref m_names, .ref m_forms, .int m_size, .ref m_text, .int m_bad, .int m_at, .int m_length, .ref m_word, .int m_form, .int m_code, .int m_d, .int m_s, .int m_t, .long m_value, .long m_label, .long m_name, .ref m_count, .ref m_formOf, .ref m_codeOf, .ref m_dOf, .ref m_sOf, .ref m_tOf, .ref m_valueOf, .ref m_labelOf, .ref m_nameOf, .ref m_target, .ref m_place, .ref m_far, .int m_imageSize, .int m_farCount, .ref m_image, .int wq1, .ref m_out])) :: (m_forms, .inl (tp_ty E 0, 46, .inl f_forms)) :: (m_names, .inl (tp_ty E 1, 46, .inr (.inl f_names))) :: fr) _ := tp_mvP 1 rfl hP
        have hD : va_D A ((m_out, .inl (tp_ty E 0, 40, .inl oq1)) :: (aM, .inr (4, [.int 0, .ref m_names, .ref m_forms, .int m_size, .ref m_text, .int m_bad, .int m_at, .int m_length, .ref m_word, .int m_form, .int m_code, .int m_d, .int m_s, .int m_t, .long m_value, .long m_label, .long m_name, .ref m_count, .ref m_formOf, .ref m_codeOf, .ref m_dOf, .ref m_sOf, .ref m_tOf, .ref m_valueOf, .ref m_labelOf, .ref m_nameOf, .ref m_target, .ref m_place, .ref m_far, .int m_imageSize, .int m_farCount, .ref m_image, .int wq1, .ref m_out])) :: (m_forms, .inl (tp_ty E 0, 46, .inl f_forms)) :: (m_names, .inl (tp_ty E 1, 46, .inr (.inl f_names))) :: fr) := tp_mvD 1 rfl hD
        have hP : va_P (tp_D E) tp_cl ((m_names, .inl (tp_ty E 1, 46, .inr (.inl f_names))) :: (m_out, .inl (tp_ty E 0, 40, .inl oq1)) :: (aM, .inr (4, [.int 0, .ref m_names, .ref m_forms, .int m_size, .ref m_text, .int m_bad, .int m_at, .int m_length, .ref m_word, .int m_form, .int m_code, .int m_d, .int m_s, .int m_t, .long m_value, .long m_label, .long m_name, .ref m_count, .ref m_formOf, .ref m_codeOf, .ref m_dOf, .ref m_sOf, .ref m_tOf, .ref m_valueOf, .ref m_labelOf, .ref m_nameOf, .ref m_target, .ref m_place, .ref m_far, .int m_imageSize, .int m_farCount, .ref m_image, .int wq1, .ref m_out])) :: (m_forms, .inl (tp_ty E 0, 46, .inl f_forms)) :: fr) _ := tp_mvP 3 rfl hP
        have hD : va_D A ((m_names, .inl (tp_ty E 1, 46, .inr (.inl f_names))) :: (m_out, .inl (tp_ty E 0, 40, .inl oq1)) :: (aM, .inr (4, [.int 0, .ref m_names, .ref m_forms, .int m_size, .ref m_text, .int m_bad, .int m_at, .int m_length, .ref m_word, .int m_form, .int m_code, .int m_d, .int m_s, .int m_t, .long m_value, .long m_label, .long m_name, .ref m_count, .ref m_formOf, .ref m_codeOf, .ref m_dOf, .ref m_sOf, .ref m_tOf, .ref m_valueOf, .ref m_labelOf, .ref m_nameOf, .ref m_target, .ref m_place, .ref m_far, .int m_imageSize, .int m_farCount, .ref m_image, .int wq1, .ref m_out])) :: (m_forms, .inl (tp_ty E 0, 46, .inl f_forms)) :: fr) := tp_mvD 3 rfl hD
        have hP : va_P (tp_D E) tp_cl ((m_forms, .inl (tp_ty E 0, 46, .inl f_forms)) :: (m_names, .inl (tp_ty E 1, 46, .inr (.inl f_names))) :: (m_out, .inl (tp_ty E 0, 40, .inl oq1)) :: (aM, .inr (4, [.int 0, .ref m_names, .ref m_forms, .int m_size, .ref m_text, .int m_bad, .int m_at, .int m_length, .ref m_word, .int m_form, .int m_code, .int m_d, .int m_s, .int m_t, .long m_value, .long m_label, .long m_name, .ref m_count, .ref m_formOf, .ref m_codeOf, .ref m_dOf, .ref m_sOf, .ref m_tOf, .ref m_valueOf, .ref m_labelOf, .ref m_nameOf, .ref m_target, .ref m_place, .ref m_far, .int m_imageSize, .int m_farCount, .ref m_image, .int wq1, .ref m_out])) :: fr) _ := tp_mvP 3 rfl hP
        have hD : va_D A ((m_forms, .inl (tp_ty E 0, 46, .inl f_forms)) :: (m_names, .inl (tp_ty E 1, 46, .inr (.inl f_names))) :: (m_out, .inl (tp_ty E 0, 40, .inl oq1)) :: (aM, .inr (4, [.int 0, .ref m_names, .ref m_forms, .int m_size, .ref m_text, .int m_bad, .int m_at, .int m_length, .ref m_word, .int m_form, .int m_code, .int m_d, .int m_s, .int m_t, .long m_value, .long m_label, .long m_name, .ref m_count, .ref m_formOf, .ref m_codeOf, .ref m_dOf, .ref m_sOf, .ref m_tOf, .ref m_valueOf, .ref m_labelOf, .ref m_nameOf, .ref m_target, .ref m_place, .ref m_far, .int m_imageSize, .int m_farCount, .ref m_image, .int wq1, .ref m_out])) :: fr) := tp_mvD 3 rfl hD
        have hP : va_P (tp_D E) tp_cl ((aM, .inr (4, [.int 0, .ref m_names, .ref m_forms, .int m_size, .ref m_text, .int m_bad, .int m_at, .int m_length, .ref m_word, .int m_form, .int m_code, .int m_d, .int m_s, .int m_t, .long m_value, .long m_label, .long m_name, .ref m_count, .ref m_formOf, .ref m_codeOf, .ref m_dOf, .ref m_sOf, .ref m_tOf, .ref m_valueOf, .ref m_labelOf, .ref m_nameOf, .ref m_target, .ref m_place, .ref m_far, .int m_imageSize, .int m_farCount, .ref m_image, .int wq1, .ref m_out])) :: (m_forms, .inl (tp_ty E 0, 46, .inl f_forms)) :: (m_names, .inl (tp_ty E 1, 46, .inr (.inl f_names))) :: (m_out, .inl (tp_ty E 0, 40, .inl oq1)) :: fr) _ := tp_mvP 3 rfl hP
        have hD : va_D A ((aM, .inr (4, [.int 0, .ref m_names, .ref m_forms, .int m_size, .ref m_text, .int m_bad, .int m_at, .int m_length, .ref m_word, .int m_form, .int m_code, .int m_d, .int m_s, .int m_t, .long m_value, .long m_label, .long m_name, .ref m_count, .ref m_formOf, .ref m_codeOf, .ref m_dOf, .ref m_sOf, .ref m_tOf, .ref m_valueOf, .ref m_labelOf, .ref m_nameOf, .ref m_target, .ref m_place, .ref m_far, .int m_imageSize, .int m_farCount, .ref m_image, .int wq1, .ref m_out])) :: (m_forms, .inl (tp_ty E 0, 46, .inl f_forms)) :: (m_names, .inl (tp_ty E 1, 46, .inr (.inl f_names))) :: (m_out, .inl (tp_ty E 0, 40, .inl oq1)) :: fr) := tp_mvD 3 rfl hD
        have hge := tp_ge0 h2
        have hk1 : (i3 + (-1)).toInt = i3.toInt - 1 := tp_decI (by omega)
        have hst := tp_nr1 (v := (f_names ko.toNatClampNeg)) hge hj h3
        exact ih (j - 1) (i3 + (-1)) wq1 oq1 ls _ _ (by omega) ⟨⟨by omega, by omega, ⟨by omega, by omega⟩⟩, tp_lvI hl [0, 2, 3, 4] rfl, hP, hD, hS⟩
  · refine lv_if_ge (tgt := 20) hx hb d_M_show_13 (by decide) (fun h => absurd h h1) (fun _ => ?_)
    refine lv_iconst (v := 1) hx hb d_M_show_16 (by decide) ?_
    refine lv_goto (tgt := 21) hx hb d_M_show_17 (by decide) ?_
    refine va_put (D := tp_D E) (ci := 4) (v := .int 1) (ty := .int) (C := qR_M) (T := qF_M) (N := 34) hx hb htg qi_M qt_M qt_M_ok qn_M hown hK.1 hP hD hS 0 rfl rfl 0 (by decide) (htg _ kl_M_208) (fun _ h => h) rfl (by decide +kernel) rfl rfl (Nat.le_of_ble_eq_true rfl) d_M_show_21 (fun H locs hP hD hS => ?_)
    have hP : va_P (tp_D E) tp_cl ((aM, .inr (4, [.int 1, .ref m_names, .ref m_forms, .int m_size, .ref m_text, .int m_bad, .int m_at, .int m_length, .ref m_word, .int m_form, .int m_code, .int m_d, .int m_s, .int m_t, .long m_value, .long m_label, .long m_name, .ref m_count, .ref m_formOf, .ref m_codeOf, .ref m_dOf, .ref m_sOf, .ref m_tOf, .ref m_valueOf, .ref m_labelOf, .ref m_nameOf, .ref m_target, .ref m_place, .ref m_far, .int m_imageSize, .int m_farCount, .ref m_image, .int 0, .ref m_out])) :: (m_forms, .inl (tp_ty E 0, 46, .inl f_forms)) :: (m_names, .inl (tp_ty E 1, 46, .inr (.inl f_names))) :: (m_out, .inl (tp_ty E 0, 40, .inl f_out)) :: fr) H := hP
    have hD : va_D A ((aM, .inr (4, [.int 1, .ref m_names, .ref m_forms, .int m_size, .ref m_text, .int m_bad, .int m_at, .int m_length, .ref m_word, .int m_form, .int m_code, .int m_d, .int m_s, .int m_t, .long m_value, .long m_label, .long m_name, .ref m_count, .ref m_formOf, .ref m_codeOf, .ref m_dOf, .ref m_sOf, .ref m_tOf, .ref m_valueOf, .ref m_labelOf, .ref m_nameOf, .ref m_target, .ref m_place, .ref m_far, .int m_imageSize, .int m_farCount, .ref m_image, .int 0, .ref m_out])) :: (m_forms, .inl (tp_ty E 0, 46, .inl f_forms)) :: (m_names, .inl (tp_ty E 1, 46, .inr (.inl f_names))) :: (m_out, .inl (tp_ty E 0, 40, .inl f_out)) :: fr) := hD
    refine lv_aload_n hx hb d_M_show_24 rfl (lv_at hl 1 rfl) ?_
    refine va_get (D := tp_D E) (ci := 4) (v := .int 1) (C := qR_M) (T := qF_M) (N := 34) hx hb htg qi_M hown hK.1 hP 0 rfl rfl 0 (by decide) (htg _ kl_M_208) (fun _ h => h) rfl d_M_show_25 ?_
    refine lv_if_le (tgt := 33) hx hb d_M_show_28 (by decide) (fun h => absurd h (by decide)) (fun _ => ?_)
    refine lv_iconst (v := 0) hx hb d_M_show_31 (by decide) ?_
    have hP : va_P (tp_D E) tp_cl ((m_forms, .inl (tp_ty E 0, 46, .inl f_forms)) :: (aM, .inr (4, [.int 1, .ref m_names, .ref m_forms, .int m_size, .ref m_text, .int m_bad, .int m_at, .int m_length, .ref m_word, .int m_form, .int m_code, .int m_d, .int m_s, .int m_t, .long m_value, .long m_label, .long m_name, .ref m_count, .ref m_formOf, .ref m_codeOf, .ref m_dOf, .ref m_sOf, .ref m_tOf, .ref m_valueOf, .ref m_labelOf, .ref m_nameOf, .ref m_target, .ref m_place, .ref m_far, .int m_imageSize, .int m_farCount, .ref m_image, .int 0, .ref m_out])) :: (m_names, .inl (tp_ty E 1, 46, .inr (.inl f_names))) :: (m_out, .inl (tp_ty E 0, 40, .inl f_out)) :: fr) _ := tp_mvP 1 rfl hP
    have hD : va_D A ((m_forms, .inl (tp_ty E 0, 46, .inl f_forms)) :: (aM, .inr (4, [.int 1, .ref m_names, .ref m_forms, .int m_size, .ref m_text, .int m_bad, .int m_at, .int m_length, .ref m_word, .int m_form, .int m_code, .int m_d, .int m_s, .int m_t, .long m_value, .long m_label, .long m_name, .ref m_count, .ref m_formOf, .ref m_codeOf, .ref m_dOf, .ref m_sOf, .ref m_tOf, .ref m_valueOf, .ref m_labelOf, .ref m_nameOf, .ref m_target, .ref m_place, .ref m_far, .int m_imageSize, .int m_farCount, .ref m_image, .int 0, .ref m_out])) :: (m_names, .inl (tp_ty E 1, 46, .inr (.inl f_names))) :: (m_out, .inl (tp_ty E 0, 40, .inl f_out)) :: fr) := tp_mvD 1 rfl hD
    have hP : va_P (tp_D E) tp_cl ((m_names, .inl (tp_ty E 1, 46, .inr (.inl f_names))) :: (m_forms, .inl (tp_ty E 0, 46, .inl f_forms)) :: (aM, .inr (4, [.int 1, .ref m_names, .ref m_forms, .int m_size, .ref m_text, .int m_bad, .int m_at, .int m_length, .ref m_word, .int m_form, .int m_code, .int m_d, .int m_s, .int m_t, .long m_value, .long m_label, .long m_name, .ref m_count, .ref m_formOf, .ref m_codeOf, .ref m_dOf, .ref m_sOf, .ref m_tOf, .ref m_valueOf, .ref m_labelOf, .ref m_nameOf, .ref m_target, .ref m_place, .ref m_far, .int m_imageSize, .int m_farCount, .ref m_image, .int 0, .ref m_out])) :: (m_out, .inl (tp_ty E 0, 40, .inl f_out)) :: fr) _ := tp_mvP 2 rfl hP
    have hD : va_D A ((m_names, .inl (tp_ty E 1, 46, .inr (.inl f_names))) :: (m_forms, .inl (tp_ty E 0, 46, .inl f_forms)) :: (aM, .inr (4, [.int 1, .ref m_names, .ref m_forms, .int m_size, .ref m_text, .int m_bad, .int m_at, .int m_length, .ref m_word, .int m_form, .int m_code, .int m_d, .int m_s, .int m_t, .long m_value, .long m_label, .long m_name, .ref m_count, .ref m_formOf, .ref m_codeOf, .ref m_dOf, .ref m_sOf, .ref m_tOf, .ref m_valueOf, .ref m_labelOf, .ref m_nameOf, .ref m_target, .ref m_place, .ref m_far, .int m_imageSize, .int m_farCount, .ref m_image, .int 0, .ref m_out])) :: (m_out, .inl (tp_ty E 0, 40, .inl f_out)) :: fr) := tp_mvD 2 rfl hD
    have hP : va_P (tp_D E) tp_cl ((aM, .inr (4, [.int 1, .ref m_names, .ref m_forms, .int m_size, .ref m_text, .int m_bad, .int m_at, .int m_length, .ref m_word, .int m_form, .int m_code, .int m_d, .int m_s, .int m_t, .long m_value, .long m_label, .long m_name, .ref m_count, .ref m_formOf, .ref m_codeOf, .ref m_dOf, .ref m_sOf, .ref m_tOf, .ref m_valueOf, .ref m_labelOf, .ref m_nameOf, .ref m_target, .ref m_place, .ref m_far, .int m_imageSize, .int m_farCount, .ref m_image, .int 0, .ref m_out])) :: (m_names, .inl (tp_ty E 1, 46, .inr (.inl f_names))) :: (m_forms, .inl (tp_ty E 0, 46, .inl f_forms)) :: (m_out, .inl (tp_ty E 0, 40, .inl f_out)) :: fr) _ := tp_mvP 2 rfl hP
    have hD : va_D A ((aM, .inr (4, [.int 1, .ref m_names, .ref m_forms, .int m_size, .ref m_text, .int m_bad, .int m_at, .int m_length, .ref m_word, .int m_form, .int m_code, .int m_d, .int m_s, .int m_t, .long m_value, .long m_label, .long m_name, .ref m_count, .ref m_formOf, .ref m_codeOf, .ref m_dOf, .ref m_sOf, .ref m_tOf, .ref m_valueOf, .ref m_labelOf, .ref m_nameOf, .ref m_target, .ref m_place, .ref m_far, .int m_imageSize, .int m_farCount, .ref m_image, .int 0, .ref m_out])) :: (m_names, .inl (tp_ty E 1, 46, .inr (.inl f_names))) :: (m_forms, .inl (tp_ty E 0, 46, .inl f_forms)) :: (m_out, .inl (tp_ty E 0, 40, .inl f_out)) :: fr) := tp_mvD 2 rfl hD
    exact W.iret (v := 0) hx hb hr (fun t ht hW => ⟨⟨_, (1, 0, f_out), rfl, Or.inl ⟨rfl, tp_mhn hmh h1, rfl⟩, by rw [ht]; exact hP, hD⟩, hS.F ht⟩) hS.2.2 d_M_show_32
