set_option maxHeartbeats 4000000 in
set_option maxRecDepth 100000 in
theorem s_M_out (l : Launch) (E : tp_Env) (fr : va_W) (sz : Nat)  (xk : Int32) (xl : Int32)  : Met l y_M_out w_M_out ({ frames := 0, cells := 0, slots := 0, locals := 0 }) (va_Pc [.int xk, .int xl] (tp_in E fr sz)) (va_Qi (fun r (_ : Unit) => ((r = 0 ∧ ¬ xk < 0 ∧ ¬ xl ≤ xk) ∨ (r = 1 ∧ (xk < 0 ∨ xl ≤ xk)))) (fun _ t => tp_out E (va_A fr sz) (fr) t) (va_A fr sz)) 0 0 (va_A fr sz) := by
  refine Met.ofW (cc := b_M_out) (maxL := 2) (ret := (some .boolean)) (by decide) rfl ?_
  intro p e s m args below meth c s₁ B hml hv
  obtain ⟨rfl, hsz, hP, hK, hD0⟩ := hv
  have hx := B.exec
  have hb := B.bytes
  have hr := B.returns
  have htg : ∀ w ∈ tp_G, w.before ([.int xk, .int xl] : List Value).toArray s = true := fun w h => atoms_spec (ws := w_M_out) B.pre w (List.mem_cons_of_mem _ h)
  have hown : s.vm.findClass "TwoPassModel" = some m.cls := findClass_of_methodNamed B.named
  have hlocks := B.notSynchronized
  subst hsz
  have hD := hD0.self (sz := s.heap.size)
  generalize hAe : va_A fr s.heap.size = A at hD hK ⊢
  have hA : ∀ q : Nat, s.heap.size ≤ q → A q := fun q h => by rw [← hAe]; exact Or.inr h
  have hS : va_S A s.heap s.heap [] := va_S.rf
  have hl := lv_entry ([.int xk, .int xl]) (n := 2) (Nat.le_of_ble_eq_true rfl)
  rw [lg_entry_eq]
  generalize (lg_sl ([.int xk, .int xl]) ++ List.replicate (2 - (lg_sl ([.int xk, .int xl])).length) Slot.unset).toArray = ls at hl ⊢
  have hl : lv_has ls 2 [(0, .int xk), (1, .int xl)] := hl
  refine lv_iload_n hx hb d_M_out_0 rfl (lv_at hl 0 rfl) ?_
  by_cases h1 : xk < 0
  · refine lv_if_lt (tgt := 9) hx hb d_M_out_1 (by decide) (fun _ => ?_) (fun h => absurd h1 h)
    refine lv_iconst (v := 1) hx hb d_M_out_9 (by decide) ?_
    refine lv_goto (tgt := 14) hx hb d_M_out_10 (by decide) ?_
    exact W.zret (v := 1) hx hb hr rfl (fun t ht hW => ⟨⟨_, (), rfl, Or.inr ⟨rfl, Or.inl h1⟩, by rw [ht]; exact hP, hD⟩, hS.F ht⟩) hS.2.2 d_M_out_14
  · refine lv_if_lt (tgt := 9) hx hb d_M_out_1 (by decide) (fun h => absurd h h1) (fun _ => ?_)
    refine lv_iload_n hx hb d_M_out_4 rfl (lv_at hl 0 rfl) ?_
    refine lv_iload_n hx hb d_M_out_5 rfl (lv_at hl 1 rfl) ?_
    by_cases h2 : xk < xl
    · refine lv_icmp_lt (tgt := 13) hx hb d_M_out_6 (by decide) (fun _ => ?_) (fun h => absurd h2 h)
      refine lv_iconst (v := 0) hx hb d_M_out_13 (by decide) ?_
      exact W.zret (v := 0) hx hb hr rfl (fun t ht hW => ⟨⟨_, (), rfl, Or.inl ⟨rfl, h1, sf_nle h2⟩, by rw [ht]; exact hP, hD⟩, hS.F ht⟩) hS.2.2 d_M_out_14
    · refine lv_icmp_lt (tgt := 13) hx hb d_M_out_6 (by decide) (fun h => absurd h h2) (fun _ => ?_)
      refine lv_iconst (v := 1) hx hb d_M_out_9 (by decide) ?_
      refine lv_goto (tgt := 14) hx hb d_M_out_10 (by decide) ?_
      exact W.zret (v := 1) hx hb hr rfl (fun t ht hW => ⟨⟨_, (), rfl, Or.inr ⟨rfl, Or.inr (Int32.not_lt.mp h2)⟩, by rw [ht]; exact hP, hD⟩, hS.F ht⟩) hS.2.2 d_M_out_14
set_option maxHeartbeats 4000000 in
set_option maxRecDepth 100000 in
theorem s_AS_setLength (l : Launch) (E : tp_Env) (fr : va_W) (sz : Nat) (aB ab : Nat) (xm xc : Int32) (nb : Nat) (fb : Nat → Int32) (hn : nb = 16 ∨ nb = 34) (hf : tp_fit fb) (hc : 0 ≤ xc.toInt) : Met l y_AS_setLength w_AS_setLength ({ frames := 4, cells := 1, slots := 34, locals := 144 }) (va_Pc [.ref aB, .int 0] (tp_in E ((aB, .inr (6, [.ref ab, .int 0, .int xm, .int xc])) :: (ab, .inl (tp_ty E 3, nb, .inl fb)) :: fr) sz)) (va_Qv (fun (u : Nat × Nat × (Nat → Int32) × Int32) => (u.2.1 = 16 ∨ u.2.1 = 34) ∧ tp_fit u.2.2.1) (fun u t => tp_out E (va_A ((aB, .inr (6, [.ref ab, .int 0, .int xm, .int xc])) :: (ab, .inl (tp_ty E 3, nb, .inl fb)) :: fr) sz) ((aB, .inr (6, [.ref u.1, .int 0, .int u.2.2.2, .int 0])) :: (u.1, .inl (tp_ty E 3, u.2.1, .inl u.2.2.1)) :: fr) t) (va_A ((aB, .inr (6, [.ref ab, .int 0, .int xm, .int xc])) :: (ab, .inl (tp_ty E 3, nb, .inl fb)) :: fr) sz)) 1 34 (va_A ((aB, .inr (6, [.ref ab, .int 0, .int xm, .int xc])) :: (ab, .inl (tp_ty E 3, nb, .inl fb)) :: fr) sz) := by
  refine Met.ofW (cc := b_AS_setLength) (maxL := 2) (ret := none) (by decide) rfl ?_
  intro p e s m args below meth c s₁ B hml hv
  obtain ⟨rfl, hsz, hP, hK, hD0⟩ := hv
  have hx := B.exec
  have hb := B.bytes
  have hr := B.returns
  have htg : ∀ w ∈ tp_G, w.before ([.ref aB, .int 0] : List Value).toArray s = true := fun w h => atoms_spec (ws := w_AS_setLength) B.pre w (List.mem_cons_of_mem _ h)
  have hown : s.vm.findClass "java/lang/AbstractStringBuilder" = some m.cls := findClass_of_methodNamed B.named
  have hlocks := B.notSynchronized
  subst hsz
  have hD := hD0.self (sz := s.heap.size)
  generalize hAe : va_A ((aB, .inr (6, [.ref ab, .int 0, .int xm, .int xc])) :: (ab, .inl (tp_ty E 3, nb, .inl fb)) :: fr) s.heap.size = A at hD hK ⊢
  have hA : ∀ q : Nat, s.heap.size ≤ q → A q := fun q h => by rw [← hAe]; exact Or.inr h
  have hS : va_S A s.heap s.heap [] := va_S.rf
  have hl := lv_entry ([.ref aB, .int 0]) (n := 2) (Nat.le_of_ble_eq_true rfl)
  rw [lg_entry_eq]
  generalize (lg_sl ([.ref aB, .int 0]) ++ List.replicate (2 - (lg_sl ([.ref aB, .int 0])).length) Slot.unset).toArray = ls at hl ⊢
  have hl : lv_has ls 2 [(0, .ref aB), (1, .int 0)] := hl
  refine lv_iload_n hx hb d_AS_setLength_0 rfl (lv_at hl 1 rfl) ?_
  refine lv_if_ge (tgt := 13) hx hb d_AS_setLength_1 (by decide) (fun _ => ?_) (fun h => absurd (by decide) h)
  refine lv_aload_n hx hb d_AS_setLength_13 rfl (lv_at hl 0 rfl) ?_
  refine lv_iload_n hx hb d_AS_setLength_14 rfl (lv_at hl 1 rfl) ?_
  refine tp_cv (tp_rV (As := [.int 0]) (rest := []) ⟨hx, hb, hml, hown, htg⟩ (a_AS_ensure l E fr _ aB ab xm xc 0 nb fb hn (by decide) hf) (⟨callB_of 1 htg (tp_good0 kc_AS_ensureCapacityInternal) rfl rfl rfl (htg _ ki_AS) (htg _ kl_AS_100) ⟨by decide, by decide, by decide +kernel⟩ ⟨Nat.le_of_ble_eq_true rfl, Nat.le_of_ble_eq_true rfl⟩, htg _ km_AS_ensureCapacityInternal, htg _ kv_SB_AS_ensureCapacityInternal⟩) (va_recv (ci := 6) (q0 := 0) hK.1 hP rfl rfl) hK hP hD hS hA rfl hl.1 rfl (Nat.le_of_ble_eq_true rfl) d_AS_setLength_15 ⟨Nat.le_of_ble_eq_true rfl, Nat.le_of_ble_eq_true rfl⟩) hD hS hA (fun u H locs hw hP hD hS => ?_)
  obtain ⟨eq1, nq1, fq1⟩ := u
  obtain ⟨hnq1, hmq1, hfq1⟩ : (nq1 = 16 ∨ nq1 = 34) ∧ (0 : Int32).toInt ≤ (nq1 : Int) ∧ tp_fit fq1 := hw
  have hP : va_P (tp_D E) tp_cl ((aB, .inr (6, [.ref eq1, .int 0, .int xm, .int xc])) :: (eq1, .inl (tp_ty E 3, nq1, .inl fq1)) :: fr) H := hP
  have hD : va_D A ((aB, .inr (6, [.ref eq1, .int 0, .int xm, .int xc])) :: (eq1, .inl (tp_ty E 3, nq1, .inl fq1)) :: fr) := hD
  refine lv_aload_n hx hb d_AS_setLength_18 rfl (lv_at hl 0 rfl) ?_
  refine va_get (D := tp_D E) (ci := 6) (v := .int xc) (C := qR_SB) (T := qF_SB) (N := 4) hx hb htg qi_SB hown hK.1 hP 0 rfl rfl 3 (by decide) (htg _ kl_AS_79) (fun _ h => h) rfl d_AS_setLength_19 ?_
  refine lv_iload_n hx hb d_AS_setLength_22 rfl (lv_at hl 1 rfl) ?_
  refine lv_icmp_ge (tgt := 63) hx hb d_AS_setLength_23 (by decide) (fun _ => ?_) (fun h => absurd (sf_0le hc) h)
  refine lv_aload_n hx hb d_AS_setLength_63 rfl (lv_at hl 0 rfl) ?_
  refine va_get (D := tp_D E) (ci := 6) (v := .int xc) (C := qR_SB) (T := qF_SB) (N := 4) hx hb htg qi_SB hown hK.1 hP 0 rfl rfl 3 (by decide) (htg _ kl_AS_79) (fun _ h => h) rfl d_AS_setLength_64 ?_
  refine lv_iload_n hx hb d_AS_setLength_67 rfl (lv_at hl 1 rfl) ?_
  by_cases h1 : xc ≤ 0
  · refine lv_icmp_le (tgt := 76) hx hb d_AS_setLength_68 (by decide) (fun _ => ?_) (fun h => absurd h1 h)
    refine lv_aload_n hx hb d_AS_setLength_76 rfl (lv_at hl 0 rfl) ?_
    refine lv_iload_n hx hb d_AS_setLength_77 rfl (lv_at hl 1 rfl) ?_
    refine va_put (D := tp_D E) (ci := 6) (v := .int 0) (ty := .int) (C := qR_SB) (T := qF_SB) (N := 4) hx hb htg qi_SB qt_SB qt_SB_ok qn_SB hown hK.1 hP hD hS 0 rfl rfl 3 (by decide) (htg _ kl_AS_79) (fun _ h => h) rfl (by decide +kernel) rfl rfl (Nat.le_of_ble_eq_true rfl) d_AS_setLength_78 (fun H locs hP hD hS => ?_)
    have hP : va_P (tp_D E) tp_cl ((aB, .inr (6, [.ref eq1, .int 0, .int xm, .int 0])) :: (eq1, .inl (tp_ty E 3, nq1, .inl fq1)) :: fr) H := hP
    have hD : va_D A ((aB, .inr (6, [.ref eq1, .int 0, .int xm, .int 0])) :: (eq1, .inl (tp_ty E 3, nq1, .inl fq1)) :: fr) := hD
    exact W.vret hx hb hr (fun t ht hW => ⟨⟨(eq1, nq1, fq1, xm), rfl, ⟨hnq1, hfq1⟩, by rw [ht]; exact hP, hD⟩, hS.F ht⟩) hS.2.2 d_AS_setLength_81
  · refine lv_icmp_le (tgt := 76) hx hb d_AS_setLength_68 (by decide) (fun h => absurd h h1) (fun _ => ?_)
    refine lv_aload_n hx hb d_AS_setLength_71 rfl (lv_at hl 0 rfl) ?_
    refine lv_iconst (v := 1) hx hb d_AS_setLength_72 (by decide) ?_
    refine va_put (D := tp_D E) (ci := 6) (v := .int 1) (ty := .boolean) (C := qR_SB) (T := qF_SB) (N := 4) hx hb htg qi_SB qt_SB qt_SB_ok qn_SB hown hK.1 hP hD hS 0 rfl rfl 2 (by decide) (htg _ kl_AS_73) (fun _ h => h) rfl (by decide +kernel) rfl rfl (Nat.le_of_ble_eq_true rfl) d_AS_setLength_73 (fun H locs hP hD hS => ?_)
    have hP : va_P (tp_D E) tp_cl ((aB, .inr (6, [.ref eq1, .int 0, .int 1, .int xc])) :: (eq1, .inl (tp_ty E 3, nq1, .inl fq1)) :: fr) H := hP
    have hD : va_D A ((aB, .inr (6, [.ref eq1, .int 0, .int 1, .int xc])) :: (eq1, .inl (tp_ty E 3, nq1, .inl fq1)) :: fr) := hD
    refine lv_aload_n hx hb d_AS_setLength_76 rfl (lv_at hl 0 rfl) ?_
    refine lv_iload_n hx hb d_AS_setLength_77 rfl (lv_at hl 1 rfl) ?_
    refine va_put (D := tp_D E) (ci := 6) (v := .int 0) (ty := .int) (C := qR_SB) (T := qF_SB) (N := 4) hx hb htg qi_SB qt_SB qt_SB_ok qn_SB hown hK.1 hP hD hS 0 rfl rfl 3 (by decide) (htg _ kl_AS_79) (fun _ h => h) rfl (by decide +kernel) rfl rfl (Nat.le_of_ble_eq_true rfl) d_AS_setLength_78 (fun H locs hP hD hS => ?_)
    have hP : va_P (tp_D E) tp_cl ((aB, .inr (6, [.ref eq1, .int 0, .int 1, .int 0])) :: (eq1, .inl (tp_ty E 3, nq1, .inl fq1)) :: fr) H := hP
    have hD : va_D A ((aB, .inr (6, [.ref eq1, .int 0, .int 1, .int 0])) :: (eq1, .inl (tp_ty E 3, nq1, .inl fq1)) :: fr) := hD
    exact W.vret hx hb hr (fun t ht hW => ⟨⟨(eq1, nq1, fq1, 1), rfl, ⟨hnq1, hfq1⟩, by rw [ht]; exact hP, hD⟩, hS.F ht⟩) hS.2.2 d_AS_setLength_81
set_option maxHeartbeats 4000000 in
set_option maxRecDepth 100000 in
theorem s_SB_setLength (l : Launch) (E : tp_Env) (fr : va_W) (sz : Nat) (aB ab : Nat) (xm xc : Int32) (nb : Nat) (fb : Nat → Int32) (hn : nb = 16 ∨ nb = 34) (hf : tp_fit fb) (hc : 0 ≤ xc.toInt) : Met l y_SB_setLength w_SB_setLength ({ frames := 5, cells := 1, slots := 34, locals := 165 }) (va_Pc [.ref aB, .int 0] (tp_in E ((aB, .inr (6, [.ref ab, .int 0, .int xm, .int xc])) :: (ab, .inl (tp_ty E 3, nb, .inl fb)) :: fr) sz)) (va_Qv (fun (u : Nat × Nat × (Nat → Int32) × Int32) => (u.2.1 = 16 ∨ u.2.1 = 34) ∧ tp_fit u.2.2.1) (fun u t => tp_out E (va_A ((aB, .inr (6, [.ref ab, .int 0, .int xm, .int xc])) :: (ab, .inl (tp_ty E 3, nb, .inl fb)) :: fr) sz) ((aB, .inr (6, [.ref u.1, .int 0, .int u.2.2.2, .int 0])) :: (u.1, .inl (tp_ty E 3, u.2.1, .inl u.2.2.1)) :: fr) t) (va_A ((aB, .inr (6, [.ref ab, .int 0, .int xm, .int xc])) :: (ab, .inl (tp_ty E 3, nb, .inl fb)) :: fr) sz)) 1 34 (va_A ((aB, .inr (6, [.ref ab, .int 0, .int xm, .int xc])) :: (ab, .inl (tp_ty E 3, nb, .inl fb)) :: fr) sz) := by
  refine Met.ofW (cc := b_SB_setLength) (maxL := 2) (ret := none) (by decide) rfl ?_
  intro p e s m args below meth c s₁ B hml hv
  obtain ⟨rfl, hsz, hP, hK, hD0⟩ := hv
  have hx := B.exec
  have hb := B.bytes
  have hr := B.returns
  have htg : ∀ w ∈ tp_G, w.before ([.ref aB, .int 0] : List Value).toArray s = true := fun w h => atoms_spec (ws := w_SB_setLength) B.pre w (List.mem_cons_of_mem _ h)
  have hown : s.vm.findClass "java/lang/StringBuilder" = some m.cls := findClass_of_methodNamed B.named
  have hlocks := B.notSynchronized
  subst hsz
  have hD := hD0.self (sz := s.heap.size)
  generalize hAe : va_A ((aB, .inr (6, [.ref ab, .int 0, .int xm, .int xc])) :: (ab, .inl (tp_ty E 3, nb, .inl fb)) :: fr) s.heap.size = A at hD hK ⊢
  have hA : ∀ q : Nat, s.heap.size ≤ q → A q := fun q h => by rw [← hAe]; exact Or.inr h
  have hS : va_S A s.heap s.heap [] := va_S.rf
  have hl := lv_entry ([.ref aB, .int 0]) (n := 2) (Nat.le_of_ble_eq_true rfl)
  rw [lg_entry_eq]
  generalize (lg_sl ([.ref aB, .int 0]) ++ List.replicate (2 - (lg_sl ([.ref aB, .int 0])).length) Slot.unset).toArray = ls at hl ⊢
  have hl : lv_has ls 2 [(0, .ref aB), (1, .int 0)] := hl
  refine lv_aload_n hx hb d_SB_setLength_0 rfl (lv_at hl 0 rfl) ?_
  refine lv_iload_n hx hb d_SB_setLength_1 rfl (lv_at hl 1 rfl) ?_
  refine tp_cv (tp_rU (As := [.int 0]) (rest := []) ⟨hx, hb, hml, hown, htg⟩ (s_AS_setLength l E fr _ aB ab xm xc nb fb hn hf hc) (tp_cwU 1 htg kc_AS_setLength (htg _ kl_SB_333) (htg _ kq_AS_setLength) (htg _ kz_SB) (htg _ km_AS_setLength) (htg _ ki_AS) ⟨by decide, by decide +kernel⟩ ⟨Nat.le_of_ble_eq_true rfl, Nat.le_of_ble_eq_true rfl⟩) (va_recv (ci := 6) (q0 := 0) hK.1 hP rfl rfl) (hK.1.1 6 _ rfl).2 hK hP hD hS hA rfl hl.1 rfl (Nat.le_of_ble_eq_true rfl) d_SB_setLength_2 ⟨Nat.le_of_ble_eq_true rfl, Nat.le_of_ble_eq_true rfl⟩) hD hS hA (fun u H locs hw hP hD hS => ?_)
  obtain ⟨qs485, ns485, fs485, xs485⟩ := u
  obtain ⟨hn485, hf485⟩ : (ns485 = 16 ∨ ns485 = 34) ∧ tp_fit fs485 := hw
  have hP : va_P (tp_D E) tp_cl ((aB, .inr (6, [.ref qs485, .int 0, .int xs485, .int 0])) :: (qs485, .inl (tp_ty E 3, ns485, .inl fs485)) :: fr) H := hP
  have hD : va_D A ((aB, .inr (6, [.ref qs485, .int 0, .int xs485, .int 0])) :: (qs485, .inl (tp_ty E 3, ns485, .inl fs485)) :: fr) := hD
  exact W.vret hx hb hr (fun t ht hW => ⟨⟨(qs485, ns485, fs485, xs485), rfl, ⟨hn485, hf485⟩, by rw [ht]; exact hP, hD⟩, hS.F ht⟩) hS.2.2 d_SB_setLength_5
set_option maxHeartbeats 400000 in
set_option maxRecDepth 100000 in
theorem cs_AS_isLatin1_1 (l : Launch) (E : tp_Env) (fr : va_W) (sz : Nat) (a1 : Nat) (a2 : Nat) (x3 : Int32) (x4 : Int32) (x5 : Int32) (h1 : x3 = 0) : Met l y_AS_isLatin1 w_AS_isLatin1 ({ frames := 0, cells := 0, slots := 0, locals := 0 }) (va_Pc [.ref a1] (tp_in E ((a1, .inr (6, [.ref a2, .int x3, .int x4, .int x5])) :: fr) sz)) (va_Qi (fun r (_ : Unit) => r = 1) (fun _ t => tp_out E (va_A ((a1, .inr (6, [.ref a2, .int x3, .int x4, .int x5])) :: fr) sz) ((a1, .inr (6, [.ref a2, .int x3, .int x4, .int x5])) :: fr) t) (va_A ((a1, .inr (6, [.ref a2, .int x3, .int x4, .int x5])) :: fr) sz)) 0 0 (va_A ((a1, .inr (6, [.ref a2, .int x3, .int x4, .int x5])) :: fr) sz) := by
  refine Met.ofW (cc := b_AS_isLatin1) (maxL := 1) (ret := (some .boolean)) (by decide) rfl ?_
  intro p e s m args below meth c s₁ B hml hv
  obtain ⟨rfl, hsz, hP, hK, hD0⟩ := hv
  have hx := B.exec
  have hb := B.bytes
  have hr := B.returns
  have htg : ∀ w ∈ tp_G, w.before ([.ref a1] : List Value).toArray s = true := fun w h => atoms_spec (ws := w_AS_isLatin1) B.pre w (List.mem_cons_of_mem _ h)
  have hown : s.vm.findClass "java/lang/AbstractStringBuilder" = some m.cls := findClass_of_methodNamed B.named
  have hlocks := B.notSynchronized
  subst hsz
  have hD := hD0.self (sz := s.heap.size)
  generalize hAe : va_A ((a1, .inr (6, [.ref a2, .int x3, .int x4, .int x5])) :: fr) s.heap.size = A at hD hK ⊢
  have hA : ∀ q : Nat, s.heap.size ≤ q → A q := fun q h => by rw [← hAe]; exact Or.inr h
  have hS : va_S A s.heap s.heap [] := va_S.rf
  have hl := lv_entry ([.ref a1]) (n := 1) (Nat.le_of_ble_eq_true rfl)
  rw [lg_entry_eq]
  generalize (lg_sl ([.ref a1]) ++ List.replicate (1 - (lg_sl ([.ref a1])).length) Slot.unset).toArray = ls at hl ⊢
  have hl : lv_has ls 1 [(0, .ref a1)] := hl
  refine va_gets (v := .int 1) hx hb hK.C.1 hS hown (htg _ kl_AS_18) (fun _ h => h) d_AS_isLatin1_0 ?_
  refine lv_if_eq (tgt := 17) hx hb d_AS_isLatin1_3 (by decide) (fun h => absurd h (by decide)) (fun _ => ?_)
  refine lv_aload_n hx hb d_AS_isLatin1_6 rfl (lv_at hl 0 rfl) ?_
  refine va_get (D := tp_D E) (ci := 6) (v := .int x3) (C := qR_SB) (T := qF_SB) (N := 4) hx hb htg qi_SB hown hK.1 hP 0 rfl rfl 1 (by decide) (htg _ kl_AS_22) (fun _ h => h) rfl d_AS_isLatin1_7 ?_
  refine lv_if_ne (tgt := 17) hx hb d_AS_isLatin1_10 (by decide) (fun h => absurd h1 h) (fun _ => ?_)
  refine lv_iconst (v := 1) hx hb d_AS_isLatin1_13 (by decide) ?_
  refine lv_goto (tgt := 18) hx hb d_AS_isLatin1_14 (by decide) ?_
  exact W.zret (v := 1) hx hb hr rfl (fun t ht hW => ⟨⟨_, (), rfl, rfl, by rw [ht]; exact hP, hD⟩, hS.F ht⟩) hS.2.2 d_AS_isLatin1_18
set_option maxHeartbeats 400000 in
set_option maxRecDepth 100000 in
theorem cs_SL_canEncode_1 (l : Launch) (E : tp_Env) (fr : va_W) (sz : Nat) (x1 : Int32) (h1 : ¬ 255 < x1) : Met l y_SL_canEncode w_SL_canEncode ({ frames := 0, cells := 0, slots := 0, locals := 0 }) (va_Pc [.int x1] (tp_in E fr sz)) (va_Qi (fun r (_ : Unit) => r = 1) (fun _ t => tp_out E (va_A fr sz) fr t) (va_A fr sz)) 0 0 (va_A fr sz) := by
  refine Met.ofW (cc := b_SL_canEncode) (maxL := 1) (ret := (some .boolean)) (by decide) rfl ?_
  intro p e s m args below meth c s₁ B hml hv
  obtain ⟨rfl, hsz, hP, hK, hD0⟩ := hv
  have hx := B.exec
  have hb := B.bytes
  have hr := B.returns
  have htg : ∀ w ∈ tp_G, w.before ([.int x1] : List Value).toArray s = true := fun w h => atoms_spec (ws := w_SL_canEncode) B.pre w (List.mem_cons_of_mem _ h)
  have hown : s.vm.findClass "java/lang/StringLatin1" = some m.cls := findClass_of_methodNamed B.named
  have hlocks := B.notSynchronized
  subst hsz
  have hD := hD0.self (sz := s.heap.size)
  generalize hAe : va_A fr s.heap.size = A at hD hK ⊢
  have hA : ∀ q : Nat, s.heap.size ≤ q → A q := fun q h => by rw [← hAe]; exact Or.inr h
  have hS : va_S A s.heap s.heap [] := va_S.rf
  have hl := lv_entry ([.int x1]) (n := 1) (Nat.le_of_ble_eq_true rfl)
  rw [lg_entry_eq]
  generalize (lg_sl ([.int x1]) ++ List.replicate (1 - (lg_sl ([.int x1])).length) Slot.unset).toArray = ls at hl ⊢
  have hl : lv_has ls 1 [(0, .int x1)] := hl
  refine lv_iload_n hx hb d_SL_canEncode_0 rfl (lv_at hl 0 rfl) ?_
  refine lv_sipush (v := 255) hx hb d_SL_canEncode_1 (by decide) ?_
  refine lv_icmp_gt (tgt := 11) hx hb d_SL_canEncode_4 (by decide) (fun h => absurd h h1) (fun _ => ?_)
  refine lv_iconst (v := 1) hx hb d_SL_canEncode_7 (by decide) ?_
  refine lv_goto (tgt := 12) hx hb d_SL_canEncode_8 (by decide) ?_
  exact W.zret (v := 1) hx hb hr rfl (fun t ht hW => ⟨⟨_, (), rfl, rfl, by rw [ht]; exact hP, hD⟩, hS.F ht⟩) hS.2.2 d_SL_canEncode_12
set_option maxHeartbeats 4000000 in
set_option maxRecDepth 100000 in
theorem s_AS_appC (l : Launch) (E : tp_Env) (fr : va_W) (sz : Nat) (aB ab : Nat) (xm xc : Int32) (nb : Nat) (fb : Nat → Int32) (xk : Int32) (hn : nb = 16 ∨ nb = 34) (hf : tp_fit fb) (hc : 0 ≤ xc.toInt ∧ xc.toInt < 34) (h1 : ¬ 255 < xk) : Met l y_AS_append_0 w_AS_append_0 ({ frames := 4, cells := 1, slots := 34, locals := 144 }) (va_Pc [.ref aB, .int xk] (tp_in E ((aB, .inr (6, [.ref ab, .int 0, .int xm, .int xc])) :: (ab, .inl (tp_ty E 3, nb, .inl fb)) :: fr) sz)) (va_Qr (fun (u : Nat × Nat × (Nat → Int32)) => (u.2.1 = 16 ∨ u.2.1 = 34) ∧ tp_fit u.2.2 ∧ (xc + 1).toInt ≤ (u.2.1 : Int)) (fun u q t => q = (fun (_ : Nat × Nat × (Nat → Int32)) => aB) u ∧ tp_out E (va_A ((aB, .inr (6, [.ref ab, .int 0, .int xm, .int xc])) :: (ab, .inl (tp_ty E 3, nb, .inl fb)) :: fr) sz) ((aB, .inr (6, [.ref u.1, .int 0, .int xm, .int (xc + 1)])) :: (u.1, .inl (tp_ty E 3, u.2.1, .inl u.2.2)) :: fr) t) (va_A ((aB, .inr (6, [.ref ab, .int 0, .int xm, .int xc])) :: (ab, .inl (tp_ty E 3, nb, .inl fb)) :: fr) sz)) 1 34 (va_A ((aB, .inr (6, [.ref ab, .int 0, .int xm, .int xc])) :: (ab, .inl (tp_ty E 3, nb, .inl fb)) :: fr) sz) := by
  refine Met.ofW (cc := b_AS_append_0) (maxL := 2) (ret := (some (.object "java/lang/AbstractStringBuilder"))) (by decide) rfl ?_
  intro p e s m args below meth c s₁ B hml hv
  obtain ⟨rfl, hsz, hP, hK, hD0⟩ := hv
  have hx := B.exec
  have hb := B.bytes
  have hr := B.returns
  have htg : ∀ w ∈ tp_G, w.before ([.ref aB, .int xk] : List Value).toArray s = true := fun w h => atoms_spec (ws := w_AS_append_0) B.pre w (List.mem_cons_of_mem _ h)
  have hown : s.vm.findClass "java/lang/AbstractStringBuilder" = some m.cls := findClass_of_methodNamed B.named
  have hlocks := B.notSynchronized
  subst hsz
  have hD := hD0.self (sz := s.heap.size)
  generalize hAe : va_A ((aB, .inr (6, [.ref ab, .int 0, .int xm, .int xc])) :: (ab, .inl (tp_ty E 3, nb, .inl fb)) :: fr) s.heap.size = A at hD hK ⊢
  have hA : ∀ q : Nat, s.heap.size ≤ q → A q := fun q h => by rw [← hAe]; exact Or.inr h
  have hS : va_S A s.heap s.heap [] := va_S.rf
  have hl := lv_entry ([.ref aB, .int xk]) (n := 2) (Nat.le_of_ble_eq_true rfl)
  rw [lg_entry_eq]
  generalize (lg_sl ([.ref aB, .int xk]) ++ List.replicate (2 - (lg_sl ([.ref aB, .int xk])).length) Slot.unset).toArray = ls at hl ⊢
  have hl : lv_has ls 2 [(0, .ref aB), (1, .int xk)] := hl
  refine lv_aload_n hx hb d_AS_append_0_0 rfl (lv_at hl 0 rfl) ?_
  refine lv_aload_n hx hb d_AS_append_0_1 rfl (lv_at hl 0 rfl) ?_
  refine va_get (D := tp_D E) (ci := 6) (v := .int xc) (C := qR_SB) (T := qF_SB) (N := 4) hx hb htg qi_SB hown hK.1 hP 0 rfl rfl 3 (by decide) (htg _ kl_AS_79) (fun _ h => h) rfl d_AS_append_0_2 ?_
  refine lv_iconst (v := 1) hx hb d_AS_append_0_5 (by decide) ?_
  refine lv_iadd hx hb d_AS_append_0_6 ?_
  refine tp_cv (tp_rV (As := [.int (xc + 1)]) (rest := []) ⟨hx, hb, hml, hown, htg⟩ (a_AS_ensure l E fr _ aB ab xm xc (xc + 1) nb fb hn (tp_c1 hc) hf) (⟨callB_of 1 htg (tp_good0 kc_AS_ensureCapacityInternal) rfl rfl rfl (htg _ ki_AS) (htg _ kl_AS_100) ⟨by decide, by decide, by decide +kernel⟩ ⟨Nat.le_of_ble_eq_true rfl, Nat.le_of_ble_eq_true rfl⟩, htg _ km_AS_ensureCapacityInternal, htg _ kv_SB_AS_ensureCapacityInternal⟩) (va_recv (ci := 6) (q0 := 0) hK.1 hP rfl rfl) hK hP hD hS hA rfl hl.1 rfl (Nat.le_of_ble_eq_true rfl) d_AS_append_0_7 ⟨Nat.le_of_ble_eq_true rfl, Nat.le_of_ble_eq_true rfl⟩) hD hS hA (fun u H locs hw hP hD hS => ?_)
  obtain ⟨eq1, nq1, fq1⟩ := u
  obtain ⟨hnq1, hmq1, hfq1⟩ : (nq1 = 16 ∨ nq1 = 34) ∧ (xc + 1).toInt ≤ (nq1 : Int) ∧ tp_fit fq1 := hw
  have hP : va_P (tp_D E) tp_cl ((aB, .inr (6, [.ref eq1, .int 0, .int xm, .int xc])) :: (eq1, .inl (tp_ty E 3, nq1, .inl fq1)) :: fr) H := hP
  have hD : va_D A ((aB, .inr (6, [.ref eq1, .int 0, .int xm, .int xc])) :: (eq1, .inl (tp_ty E 3, nq1, .inl fq1)) :: fr) := hD
  refine lv_aload_n hx hb d_AS_append_0_10 rfl (lv_at hl 0 rfl) ?_
  refine tp_ci (tp_rV (As := []) (rest := []) ⟨hx, hb, hml, hown, htg⟩ (cs_AS_isLatin1_1 l E ((eq1, .inl (tp_ty E 3, nq1, .inl fq1)) :: fr) _ aB eq1 0 xm xc (by decide)) (⟨callB_of 0 htg (tp_good0 kc_AS_isLatin1) rfl rfl rfl (htg _ ki_AS) (htg _ kl_AS_83) ⟨by decide, by decide, by decide +kernel⟩ ⟨Nat.le_of_ble_eq_true rfl, Nat.le_of_ble_eq_true rfl⟩, htg _ km_AS_isLatin1, htg _ kv_SB_AS_isLatin1⟩) (va_recv (ci := 6) (q0 := 0) hK.1 hP rfl rfl) hK hP hD hS hA rfl hl.1 rfl (Nat.le_of_ble_eq_true rfl) d_AS_append_0_11 ⟨Nat.le_of_ble_eq_true rfl, Nat.le_of_ble_eq_true rfl⟩) hD hS hA (fun r u H locs hw hP hD hS => ?_)
  subst r
  have hP : va_P (tp_D E) tp_cl ((aB, .inr (6, [.ref eq1, .int 0, .int xm, .int xc])) :: (eq1, .inl (tp_ty E 3, nq1, .inl fq1)) :: fr) H := hP
  have hD : va_D A ((aB, .inr (6, [.ref eq1, .int 0, .int xm, .int xc])) :: (eq1, .inl (tp_ty E 3, nq1, .inl fq1)) :: fr) := hD
  refine lv_if_eq (tgt := 45) hx hb d_AS_append_0_14 (by decide) (fun h => absurd h (by decide)) (fun _ => ?_)
  refine lv_iload_n hx hb d_AS_append_0_17 rfl (lv_at hl 1 rfl) ?_
  refine tp_ci (tp_rS (As := [.int xk]) (rest := []) ⟨hx, hb, hml, hown, htg⟩ (cs_SL_canEncode_1 l E ((aB, .inr (6, [.ref eq1, .int 0, .int xm, .int xc])) :: (eq1, .inl (tp_ty E 3, nq1, .inl fq1)) :: fr) _ xk h1) (⟨callB_of 1 htg (tp_good0 kc_SL_canEncode) rfl rfl rfl (htg _ ki_SL) (htg _ kl_AS_191) ⟨by decide, by decide, by decide +kernel⟩ ⟨Nat.le_of_ble_eq_true rfl, Nat.le_of_ble_eq_true rfl⟩, htg _ ks_SL_canEncode⟩) hK hP hD hS hA rfl hl.1 rfl (Nat.le_of_ble_eq_true rfl) d_AS_append_0_18 ⟨Nat.le_of_ble_eq_true rfl, Nat.le_of_ble_eq_true rfl⟩) hD hS hA (fun r u H locs hw hP hD hS => ?_)
  subst r
  have hP : va_P (tp_D E) tp_cl ((aB, .inr (6, [.ref eq1, .int 0, .int xm, .int xc])) :: (eq1, .inl (tp_ty E 3, nq1, .inl fq1)) :: fr) H := hP
  have hD : va_D A ((aB, .inr (6, [.ref eq1, .int 0, .int xm, .int xc])) :: (eq1, .inl (tp_ty E 3, nq1, .inl fq1)) :: fr) := hD
  refine lv_if_eq (tgt := 45) hx hb d_AS_append_0_21 (by decide) (fun h => absurd h (by decide)) (fun _ => ?_)
  refine lv_aload_n hx hb d_AS_append_0_24 rfl (lv_at hl 0 rfl) ?_
  refine va_get (D := tp_D E) (ci := 6) (v := .ref eq1) (C := qR_SB) (T := qF_SB) (N := 4) hx hb htg qi_SB hown hK.1 hP 0 rfl rfl 0 (by decide) (htg _ kl_AS_15) (fun _ h => h) rfl d_AS_append_0_25 ?_
  refine lv_aload_n hx hb d_AS_append_0_28 rfl (lv_at hl 0 rfl) ?_
  refine lv_dup hx hb d_AS_append_0_29 rfl ?_
  refine va_get (D := tp_D E) (ci := 6) (v := .int xc) (C := qR_SB) (T := qF_SB) (N := 4) hx hb htg qi_SB hown hK.1 hP 0 rfl rfl 3 (by decide) (htg _ kl_AS_79) (fun _ h => h) rfl d_AS_append_0_30 ?_
  refine lv_dup_x1 hx hb d_AS_append_0_33 rfl rfl ?_
  refine lv_iconst (v := 1) hx hb d_AS_append_0_34 (by decide) ?_
  refine lv_iadd hx hb d_AS_append_0_35 ?_
  refine va_put (D := tp_D E) (ci := 6) (v := .int (xc + 1)) (ty := .int) (C := qR_SB) (T := qF_SB) (N := 4) hx hb htg qi_SB qt_SB qt_SB_ok qn_SB hown hK.1 hP hD hS 0 rfl rfl 3 (by decide) (htg _ kl_AS_79) (fun _ h => h) rfl (by decide +kernel) rfl rfl (Nat.le_of_ble_eq_true rfl) d_AS_append_0_36 (fun H locs hP hD hS => ?_)
  have hP : va_P (tp_D E) tp_cl ((aB, .inr (6, [.ref eq1, .int 0, .int xm, .int (xc + 1)])) :: (eq1, .inl (tp_ty E 3, nq1, .inl fq1)) :: fr) H := hP
  have hD : va_D A ((aB, .inr (6, [.ref eq1, .int 0, .int xm, .int (xc + 1)])) :: (eq1, .inl (tp_ty E 3, nq1, .inl fq1)) :: fr) := hD
  refine lv_iload_n hx hb d_AS_append_0_39 rfl (lv_at hl 1 rfl) ?_
  refine lv_i2b (v := xk.toInt8.toInt32) hx hb d_AS_append_0_40 rfl ?_
  refine va_bast (D := tp_D E) hx hb hK.1 hP hD hS 1 3 rfl rfl (tp_vc hc hmq1) d_AS_append_0_41 (fun H locs hP hD hS => ?_)
  have hP : va_P (tp_D E) tp_cl ((aB, .inr (6, [.ref eq1, .int 0, .int xm, .int (xc + 1)])) :: (eq1, .inl (tp_ty E 3, nq1, .inl (upd fq1 xc.toNatClampNeg (vp_nar .byte xk.toInt8.toInt32)))) :: fr) H := hP
  have hD : va_D A ((aB, .inr (6, [.ref eq1, .int 0, .int xm, .int (xc + 1)])) :: (eq1, .inl (tp_ty E 3, nq1, .inl (upd fq1 xc.toNatClampNeg (vp_nar .byte xk.toInt8.toInt32)))) :: fr) := hD
  refine lv_goto (tgt := 75) hx hb d_AS_append_0_42 (by decide) ?_
  refine lv_aload_n hx hb d_AS_append_0_75 rfl (lv_at hl 0 rfl) ?_
  exact W.aret (v := .ref aB) hx hb hr (Or.inl ⟨_, rfl⟩) (Or.inr ⟨_, rfl⟩) (fun t ht hW => ⟨⟨(eq1, nq1, (upd fq1 xc.toNatClampNeg (vp_nar .byte xk.toInt8.toInt32))), _, rfl, ⟨hnq1, tp_fitst hfq1, hmq1⟩, rfl, by rw [ht]; exact hP, hD⟩, hS.F ht⟩) hS.2.2 d_AS_append_0_76
set_option maxHeartbeats 4000000 in
set_option maxRecDepth 100000 in
theorem s_SB_appC (l : Launch) (E : tp_Env) (fr : va_W) (sz : Nat) (aB ab : Nat) (xm xc : Int32) (nb : Nat) (fb : Nat → Int32) (xk : Int32) (hn : nb = 16 ∨ nb = 34) (hf : tp_fit fb) (hc : 0 ≤ xc.toInt ∧ xc.toInt < 34) (h1 : ¬ 255 < xk) : Met l y_SB_append_0 w_SB_append_0 ({ frames := 5, cells := 1, slots := 34, locals := 165 }) (va_Pc [.ref aB, .int xk] (tp_in E ((aB, .inr (6, [.ref ab, .int 0, .int xm, .int xc])) :: (ab, .inl (tp_ty E 3, nb, .inl fb)) :: fr) sz)) (va_Qr (fun (u : Nat × Nat × (Nat → Int32)) => (u.2.1 = 16 ∨ u.2.1 = 34) ∧ tp_fit u.2.2 ∧ (xc + 1).toInt ≤ (u.2.1 : Int)) (fun u q t => q = (fun (_ : Nat × Nat × (Nat → Int32)) => aB) u ∧ tp_out E (va_A ((aB, .inr (6, [.ref ab, .int 0, .int xm, .int xc])) :: (ab, .inl (tp_ty E 3, nb, .inl fb)) :: fr) sz) ((aB, .inr (6, [.ref u.1, .int 0, .int xm, .int (xc + 1)])) :: (u.1, .inl (tp_ty E 3, u.2.1, .inl u.2.2)) :: fr) t) (va_A ((aB, .inr (6, [.ref ab, .int 0, .int xm, .int xc])) :: (ab, .inl (tp_ty E 3, nb, .inl fb)) :: fr) sz)) 1 34 (va_A ((aB, .inr (6, [.ref ab, .int 0, .int xm, .int xc])) :: (ab, .inl (tp_ty E 3, nb, .inl fb)) :: fr) sz) := by
  refine Met.ofW (cc := b_SB_append_0) (maxL := 2) (ret := (some (.object "java/lang/StringBuilder"))) (by decide) rfl ?_
  intro p e s m args below meth c s₁ B hml hv
  obtain ⟨rfl, hsz, hP, hK, hD0⟩ := hv
  have hx := B.exec
  have hb := B.bytes
  have hr := B.returns
  have htg : ∀ w ∈ tp_G, w.before ([.ref aB, .int xk] : List Value).toArray s = true := fun w h => atoms_spec (ws := w_SB_append_0) B.pre w (List.mem_cons_of_mem _ h)
  have hown : s.vm.findClass "java/lang/StringBuilder" = some m.cls := findClass_of_methodNamed B.named
  have hlocks := B.notSynchronized
  subst hsz
  have hD := hD0.self (sz := s.heap.size)
  generalize hAe : va_A ((aB, .inr (6, [.ref ab, .int 0, .int xm, .int xc])) :: (ab, .inl (tp_ty E 3, nb, .inl fb)) :: fr) s.heap.size = A at hD hK ⊢
  have hA : ∀ q : Nat, s.heap.size ≤ q → A q := fun q h => by rw [← hAe]; exact Or.inr h
  have hS : va_S A s.heap s.heap [] := va_S.rf
  have hl := lv_entry ([.ref aB, .int xk]) (n := 2) (Nat.le_of_ble_eq_true rfl)
  rw [lg_entry_eq]
  generalize (lg_sl ([.ref aB, .int xk]) ++ List.replicate (2 - (lg_sl ([.ref aB, .int xk])).length) Slot.unset).toArray = ls at hl ⊢
  have hl : lv_has ls 2 [(0, .ref aB), (1, .int xk)] := hl
  refine lv_aload_n hx hb d_SB_append_0_0 rfl (lv_at hl 0 rfl) ?_
  refine lv_iload_n hx hb d_SB_append_0_1 rfl (lv_at hl 1 rfl) ?_
  refine tp_cr (tp_rU (As := [.int xk]) (rest := []) ⟨hx, hb, hml, hown, htg⟩ (s_AS_appC l E fr _ aB ab xm xc nb fb xk hn hf hc h1) (tp_cwU 1 htg kc_AS_append_0 (htg _ kl_SB_50) (htg _ kq_AS_append_0) (htg _ kz_SB) (htg _ km_AS_append_0) (htg _ ki_AS) ⟨by decide, by decide +kernel⟩ ⟨Nat.le_of_ble_eq_true rfl, Nat.le_of_ble_eq_true rfl⟩) (va_recv (ci := 6) (q0 := 0) hK.1 hP rfl rfl) (hK.1.1 6 _ rfl).2 hK hP hD hS hA rfl hl.1 rfl (Nat.le_of_ble_eq_true rfl) d_SB_append_0_2 ⟨Nat.le_of_ble_eq_true rfl, Nat.le_of_ble_eq_true rfl⟩) hD hS hA (fun u H locs hw hP hD hS => ?_)
  obtain ⟨eq1, nq1, fq1⟩ := u
  obtain ⟨hnq1, hfq1, hqq1⟩ : (nq1 = 16 ∨ nq1 = 34) ∧ tp_fit fq1 ∧ (xc + 1).toInt ≤ (nq1 : Int) := hw
  have hP : va_P (tp_D E) tp_cl ((aB, .inr (6, [.ref eq1, .int 0, .int xm, .int (xc + 1)])) :: (eq1, .inl (tp_ty E 3, nq1, .inl fq1)) :: fr) H := hP
  have hD : va_D A ((aB, .inr (6, [.ref eq1, .int 0, .int xm, .int (xc + 1)])) :: (eq1, .inl (tp_ty E 3, nq1, .inl fq1)) :: fr) := hD
  refine lv_pop hx hb d_SB_append_0_5 rfl ?_
  refine lv_aload_n hx hb d_SB_append_0_6 rfl (lv_at hl 0 rfl) ?_
  exact W.aret (v := .ref aB) hx hb hr (Or.inl ⟨_, rfl⟩) (Or.inr ⟨_, rfl⟩) (fun t ht hW => ⟨⟨(eq1, nq1, fq1), _, rfl, ⟨hnq1, hfq1, hqq1⟩, rfl, by rw [ht]; exact hP, hD⟩, hS.F ht⟩) hS.2.2 d_SB_append_0_7
set_option maxHeartbeats 4000000 in
set_option maxRecDepth 100000 in
theorem a_IN_stringSize (l : Launch) (E : tp_Env) (fr : va_W) (sz : Nat) (xv : Int32)  : Met l y_IN_stringSize w_IN_stringSize ({ frames := 0, cells := 0, slots := 0, locals := 0 }) (va_Pc [.int xv] (tp_in E fr sz)) (va_Qi (fun r (_ : Unit) => r.toInt = (tp_dl xv : Int)) (fun _ t => tp_out E (va_A fr sz) fr t) (va_A fr sz)) 0 0 (va_A fr sz) := by
  refine Met.ofW (cc := b_IN_stringSize) (maxL := 4) (ret := (some .int)) (by decide) rfl ?_
  intro p e s m args below meth c s₁ B hml hv
  obtain ⟨rfl, hsz, hP, hK, hD0⟩ := hv
  have hx := B.exec
  have hb := B.bytes
  have hr := B.returns
  have htg : ∀ w ∈ tp_G, w.before ([.int xv] : List Value).toArray s = true := fun w h => atoms_spec (ws := w_IN_stringSize) B.pre w (List.mem_cons_of_mem _ h)
  have hown : s.vm.findClass "java/lang/Integer" = some m.cls := findClass_of_methodNamed B.named
  have hlocks := B.notSynchronized
  subst hsz
  have hD := hD0.self (sz := s.heap.size)
  generalize hAe : va_A fr s.heap.size = A at hD hK ⊢
  have hA : ∀ q : Nat, s.heap.size ≤ q → A q := fun q h => by rw [← hAe]; exact Or.inr h
  have hS : va_S A s.heap s.heap [] := va_S.rf
  have hl := lv_entry ([.int xv]) (n := 4) (Nat.le_of_ble_eq_true rfl)
  rw [lg_entry_eq]
  generalize (lg_sl ([.int xv]) ++ List.replicate (4 - (lg_sl ([.int xv])).length) Slot.unset).toArray = ls at hl ⊢
  have hl : lv_has ls 4 [(0, .int xv)] := hl
  refine tp_join2 (pc' := 11) (fun ls H locs (xd : Int32) (xx : Int32) => ((xx.toInt = -(xv.toInt.natAbs : Int)) ∧ ((tp_dl xv : Int) = (tp_dg xv.toInt.natAbs : Int) + xd.toInt ∧ 0 ≤ xd.toInt ∧ xd.toInt ≤ 1)) ∧ lv_has ls 4 [(1, .int xd), (0, .int xx)] ∧ va_P (tp_D E) tp_cl fr H ∧ va_D A fr ∧ va_S A s.heap H locs) ?_ ?_
  · intro xd xx ls H locs hI
    obtain ⟨⟨hx0, hd⟩, hl, hP, hD, hS⟩ := hI
    refine lv_bipush (v := (-10)) hx hb d_IN_stringSize_11 (by decide) ?_
    refine lv_istore_n (lv' := [(2, .int (-10)), (1, .int xd), (0, .int xx)]) hx hb d_IN_stringSize_13 rfl hl (by decide) rfl (fun ls hl => ?_)
    refine lv_iconst (v := 1) hx hb d_IN_stringSize_14 (by decide) ?_
    refine lv_istore_n (lv' := [(3, .int 1), (2, .int (-10)), (1, .int xd), (0, .int xx)]) hx hb d_IN_stringSize_15 rfl hl (by decide) rfl (fun ls hl => ?_)
    refine lv_iload_n hx hb d_IN_stringSize_16 rfl (lv_at hl 0 rfl) ?_
    refine lv_bipush (v := 10) hx hb d_IN_stringSize_17 (by decide) ?_
    refine lv_icmp_ge (tgt := 42) hx hb d_IN_stringSize_19 (by decide) (fun h => absurd h (by decide)) (fun _ => ?_)
    refine lv_iload_n hx hb d_IN_stringSize_22 rfl (lv_at hl 3 rfl) ?_
    refine lv_iload_n hx hb d_IN_stringSize_23 rfl (lv_at hl 1 rfl) ?_
    by_cases h1 : xx ≤ (-10)
    · refine lv_icmp_le (tgt := 31) hx hb d_IN_stringSize_24 (by decide) (fun _ => ?_) (fun h => absurd h1 h)
      refine lv_bipush (v := 10) hx hb d_IN_stringSize_31 (by decide) ?_
      refine lv_iload_n hx hb d_IN_stringSize_33 rfl (lv_at hl 1 rfl) ?_
      refine lv_imul hx hb d_IN_stringSize_34 ?_
      refine tp_topi (v := (-100)) (by decide) ?_
      refine lv_istore_n (lv' := [(2, .int (-100)), (3, .int 1), (1, .int xd), (0, .int xx)]) hx hb d_IN_stringSize_35 rfl hl (by decide) rfl (fun ls hl => ?_)
      refine lv_iinc (k := 1) (v := 2) (lv' := [(3, .int 2), (2, .int (-100)), (1, .int xd), (0, .int xx)]) hx hb d_IN_stringSize_36 hl rfl (by decide) (by decide) rfl (fun ls hl => ?_)
      refine lv_goto (tgt := 16) hx hb d_IN_stringSize_39 (by decide) ?_
      refine lv_iload_n hx hb d_IN_stringSize_16 rfl (lv_at hl 0 rfl) ?_
      refine lv_bipush (v := 10) hx hb d_IN_stringSize_17 (by decide) ?_
      refine lv_icmp_ge (tgt := 42) hx hb d_IN_stringSize_19 (by decide) (fun h => absurd h (by decide)) (fun _ => ?_)
      refine lv_iload_n hx hb d_IN_stringSize_22 rfl (lv_at hl 3 rfl) ?_
      refine lv_iload_n hx hb d_IN_stringSize_23 rfl (lv_at hl 1 rfl) ?_
      by_cases h2 : xx ≤ (-100)
      · refine lv_icmp_le (tgt := 31) hx hb d_IN_stringSize_24 (by decide) (fun _ => ?_) (fun h => absurd h2 h)
        refine lv_bipush (v := 10) hx hb d_IN_stringSize_31 (by decide) ?_
        refine lv_iload_n hx hb d_IN_stringSize_33 rfl (lv_at hl 1 rfl) ?_
        refine lv_imul hx hb d_IN_stringSize_34 ?_
        refine tp_topi (v := (-1000)) (by decide) ?_
        refine lv_istore_n (lv' := [(2, .int (-1000)), (3, .int 2), (1, .int xd), (0, .int xx)]) hx hb d_IN_stringSize_35 rfl hl (by decide) rfl (fun ls hl => ?_)
        refine lv_iinc (k := 1) (v := 3) (lv' := [(3, .int 3), (2, .int (-1000)), (1, .int xd), (0, .int xx)]) hx hb d_IN_stringSize_36 hl rfl (by decide) (by decide) rfl (fun ls hl => ?_)
        refine lv_goto (tgt := 16) hx hb d_IN_stringSize_39 (by decide) ?_
        refine lv_iload_n hx hb d_IN_stringSize_16 rfl (lv_at hl 0 rfl) ?_
        refine lv_bipush (v := 10) hx hb d_IN_stringSize_17 (by decide) ?_
        refine lv_icmp_ge (tgt := 42) hx hb d_IN_stringSize_19 (by decide) (fun h => absurd h (by decide)) (fun _ => ?_)
        refine lv_iload_n hx hb d_IN_stringSize_22 rfl (lv_at hl 3 rfl) ?_
        refine lv_iload_n hx hb d_IN_stringSize_23 rfl (lv_at hl 1 rfl) ?_
        by_cases h3 : xx ≤ (-1000)
        · refine lv_icmp_le (tgt := 31) hx hb d_IN_stringSize_24 (by decide) (fun _ => ?_) (fun h => absurd h3 h)
          refine lv_bipush (v := 10) hx hb d_IN_stringSize_31 (by decide) ?_
          refine lv_iload_n hx hb d_IN_stringSize_33 rfl (lv_at hl 1 rfl) ?_
          refine lv_imul hx hb d_IN_stringSize_34 ?_
          refine tp_topi (v := (-10000)) (by decide) ?_
          refine lv_istore_n (lv' := [(2, .int (-10000)), (3, .int 3), (1, .int xd), (0, .int xx)]) hx hb d_IN_stringSize_35 rfl hl (by decide) rfl (fun ls hl => ?_)
          refine lv_iinc (k := 1) (v := 4) (lv' := [(3, .int 4), (2, .int (-10000)), (1, .int xd), (0, .int xx)]) hx hb d_IN_stringSize_36 hl rfl (by decide) (by decide) rfl (fun ls hl => ?_)
          refine lv_goto (tgt := 16) hx hb d_IN_stringSize_39 (by decide) ?_
          refine lv_iload_n hx hb d_IN_stringSize_16 rfl (lv_at hl 0 rfl) ?_
          refine lv_bipush (v := 10) hx hb d_IN_stringSize_17 (by decide) ?_
          refine lv_icmp_ge (tgt := 42) hx hb d_IN_stringSize_19 (by decide) (fun h => absurd h (by decide)) (fun _ => ?_)
          refine lv_iload_n hx hb d_IN_stringSize_22 rfl (lv_at hl 3 rfl) ?_
          refine lv_iload_n hx hb d_IN_stringSize_23 rfl (lv_at hl 1 rfl) ?_
          by_cases h4 : xx ≤ (-10000)
          · refine lv_icmp_le (tgt := 31) hx hb d_IN_stringSize_24 (by decide) (fun _ => ?_) (fun h => absurd h4 h)
            refine lv_bipush (v := 10) hx hb d_IN_stringSize_31 (by decide) ?_
            refine lv_iload_n hx hb d_IN_stringSize_33 rfl (lv_at hl 1 rfl) ?_
            refine lv_imul hx hb d_IN_stringSize_34 ?_
            refine tp_topi (v := (-100000)) (by decide) ?_
            refine lv_istore_n (lv' := [(2, .int (-100000)), (3, .int 4), (1, .int xd), (0, .int xx)]) hx hb d_IN_stringSize_35 rfl hl (by decide) rfl (fun ls hl => ?_)
            refine lv_iinc (k := 1) (v := 5) (lv' := [(3, .int 5), (2, .int (-100000)), (1, .int xd), (0, .int xx)]) hx hb d_IN_stringSize_36 hl rfl (by decide) (by decide) rfl (fun ls hl => ?_)
            refine lv_goto (tgt := 16) hx hb d_IN_stringSize_39 (by decide) ?_
            refine lv_iload_n hx hb d_IN_stringSize_16 rfl (lv_at hl 0 rfl) ?_
            refine lv_bipush (v := 10) hx hb d_IN_stringSize_17 (by decide) ?_
            refine lv_icmp_ge (tgt := 42) hx hb d_IN_stringSize_19 (by decide) (fun h => absurd h (by decide)) (fun _ => ?_)
            refine lv_iload_n hx hb d_IN_stringSize_22 rfl (lv_at hl 3 rfl) ?_
            refine lv_iload_n hx hb d_IN_stringSize_23 rfl (lv_at hl 1 rfl) ?_
            by_cases h5 : xx ≤ (-100000)
            · refine lv_icmp_le (tgt := 31) hx hb d_IN_stringSize_24 (by decide) (fun _ => ?_) (fun h => absurd h5 h)
              refine lv_bipush (v := 10) hx hb d_IN_stringSize_31 (by decide) ?_
              refine lv_iload_n hx hb d_IN_stringSize_33 rfl (lv_at hl 1 rfl) ?_
              refine lv_imul hx hb d_IN_stringSize_34 ?_
              refine tp_topi (v := (-1000000)) (by decide) ?_
              refine lv_istore_n (lv' := [(2, .int (-1000000)), (3, .int 5), (1, .int xd), (0, .int xx)]) hx hb d_IN_stringSize_35 rfl hl (by decide) rfl (fun ls hl => ?_)
              refine lv_iinc (k := 1) (v := 6) (lv' := [(3, .int 6), (2, .int (-1000000)), (1, .int xd), (0, .int xx)]) hx hb d_IN_stringSize_36 hl rfl (by decide) (by decide) rfl (fun ls hl => ?_)
              refine lv_goto (tgt := 16) hx hb d_IN_stringSize_39 (by decide) ?_
              refine lv_iload_n hx hb d_IN_stringSize_16 rfl (lv_at hl 0 rfl) ?_
              refine lv_bipush (v := 10) hx hb d_IN_stringSize_17 (by decide) ?_
              refine lv_icmp_ge (tgt := 42) hx hb d_IN_stringSize_19 (by decide) (fun h => absurd h (by decide)) (fun _ => ?_)
              refine lv_iload_n hx hb d_IN_stringSize_22 rfl (lv_at hl 3 rfl) ?_
              refine lv_iload_n hx hb d_IN_stringSize_23 rfl (lv_at hl 1 rfl) ?_
              by_cases h6 : xx ≤ (-1000000)
              · refine lv_icmp_le (tgt := 31) hx hb d_IN_stringSize_24 (by decide) (fun _ => ?_) (fun h => absurd h6 h)
                refine lv_bipush (v := 10) hx hb d_IN_stringSize_31 (by decide) ?_
                refine lv_iload_n hx hb d_IN_stringSize_33 rfl (lv_at hl 1 rfl) ?_
                refine lv_imul hx hb d_IN_stringSize_34 ?_
                refine tp_topi (v := (-10000000)) (by decide) ?_
                refine lv_istore_n (lv' := [(2, .int (-10000000)), (3, .int 6), (1, .int xd), (0, .int xx)]) hx hb d_IN_stringSize_35 rfl hl (by decide) rfl (fun ls hl => ?_)
                refine lv_iinc (k := 1) (v := 7) (lv' := [(3, .int 7), (2, .int (-10000000)), (1, .int xd), (0, .int xx)]) hx hb d_IN_stringSize_36 hl rfl (by decide) (by decide) rfl (fun ls hl => ?_)
                refine lv_goto (tgt := 16) hx hb d_IN_stringSize_39 (by decide) ?_
                refine lv_iload_n hx hb d_IN_stringSize_16 rfl (lv_at hl 0 rfl) ?_
                refine lv_bipush (v := 10) hx hb d_IN_stringSize_17 (by decide) ?_
                refine lv_icmp_ge (tgt := 42) hx hb d_IN_stringSize_19 (by decide) (fun h => absurd h (by decide)) (fun _ => ?_)
                refine lv_iload_n hx hb d_IN_stringSize_22 rfl (lv_at hl 3 rfl) ?_
                refine lv_iload_n hx hb d_IN_stringSize_23 rfl (lv_at hl 1 rfl) ?_
                by_cases h7 : xx ≤ (-10000000)
                · refine lv_icmp_le (tgt := 31) hx hb d_IN_stringSize_24 (by decide) (fun _ => ?_) (fun h => absurd h7 h)
                  refine lv_bipush (v := 10) hx hb d_IN_stringSize_31 (by decide) ?_
                  refine lv_iload_n hx hb d_IN_stringSize_33 rfl (lv_at hl 1 rfl) ?_
                  refine lv_imul hx hb d_IN_stringSize_34 ?_
                  refine tp_topi (v := (-100000000)) (by decide) ?_
                  refine lv_istore_n (lv' := [(2, .int (-100000000)), (3, .int 7), (1, .int xd), (0, .int xx)]) hx hb d_IN_stringSize_35 rfl hl (by decide) rfl (fun ls hl => ?_)
                  refine lv_iinc (k := 1) (v := 8) (lv' := [(3, .int 8), (2, .int (-100000000)), (1, .int xd), (0, .int xx)]) hx hb d_IN_stringSize_36 hl rfl (by decide) (by decide) rfl (fun ls hl => ?_)
                  refine lv_goto (tgt := 16) hx hb d_IN_stringSize_39 (by decide) ?_
                  refine lv_iload_n hx hb d_IN_stringSize_16 rfl (lv_at hl 0 rfl) ?_
                  refine lv_bipush (v := 10) hx hb d_IN_stringSize_17 (by decide) ?_
                  refine lv_icmp_ge (tgt := 42) hx hb d_IN_stringSize_19 (by decide) (fun h => absurd h (by decide)) (fun _ => ?_)
                  refine lv_iload_n hx hb d_IN_stringSize_22 rfl (lv_at hl 3 rfl) ?_
                  refine lv_iload_n hx hb d_IN_stringSize_23 rfl (lv_at hl 1 rfl) ?_
                  by_cases h8 : xx ≤ (-100000000)
                  · refine lv_icmp_le (tgt := 31) hx hb d_IN_stringSize_24 (by decide) (fun _ => ?_) (fun h => absurd h8 h)
                    refine lv_bipush (v := 10) hx hb d_IN_stringSize_31 (by decide) ?_
                    refine lv_iload_n hx hb d_IN_stringSize_33 rfl (lv_at hl 1 rfl) ?_
                    refine lv_imul hx hb d_IN_stringSize_34 ?_
                    refine tp_topi (v := (-1000000000)) (by decide) ?_
                    refine lv_istore_n (lv' := [(2, .int (-1000000000)), (3, .int 8), (1, .int xd), (0, .int xx)]) hx hb d_IN_stringSize_35 rfl hl (by decide) rfl (fun ls hl => ?_)
                    refine lv_iinc (k := 1) (v := 9) (lv' := [(3, .int 9), (2, .int (-1000000000)), (1, .int xd), (0, .int xx)]) hx hb d_IN_stringSize_36 hl rfl (by decide) (by decide) rfl (fun ls hl => ?_)
                    refine lv_goto (tgt := 16) hx hb d_IN_stringSize_39 (by decide) ?_
                    refine lv_iload_n hx hb d_IN_stringSize_16 rfl (lv_at hl 0 rfl) ?_
                    refine lv_bipush (v := 10) hx hb d_IN_stringSize_17 (by decide) ?_
                    refine lv_icmp_ge (tgt := 42) hx hb d_IN_stringSize_19 (by decide) (fun h => absurd h (by decide)) (fun _ => ?_)
                    refine lv_iload_n hx hb d_IN_stringSize_22 rfl (lv_at hl 3 rfl) ?_
                    refine lv_iload_n hx hb d_IN_stringSize_23 rfl (lv_at hl 1 rfl) ?_
                    by_cases h9 : xx ≤ (-1000000000)
                    · refine lv_icmp_le (tgt := 31) hx hb d_IN_stringSize_24 (by decide) (fun _ => ?_) (fun h => absurd h9 h)
                      refine lv_bipush (v := 10) hx hb d_IN_stringSize_31 (by decide) ?_
                      refine lv_iload_n hx hb d_IN_stringSize_33 rfl (lv_at hl 1 rfl) ?_
                      refine lv_imul hx hb d_IN_stringSize_34 ?_
                      refine tp_topi (v := (-1410065408)) (by decide) ?_
                      refine lv_istore_n (lv' := [(2, .int (-1410065408)), (3, .int 9), (1, .int xd), (0, .int xx)]) hx hb d_IN_stringSize_35 rfl hl (by decide) rfl (fun ls hl => ?_)
                      refine lv_iinc (k := 1) (v := 10) (lv' := [(3, .int 10), (2, .int (-1410065408)), (1, .int xd), (0, .int xx)]) hx hb d_IN_stringSize_36 hl rfl (by decide) (by decide) rfl (fun ls hl => ?_)
                      refine lv_goto (tgt := 16) hx hb d_IN_stringSize_39 (by decide) ?_
                      refine lv_iload_n hx hb d_IN_stringSize_16 rfl (lv_at hl 0 rfl) ?_
                      refine lv_bipush (v := 10) hx hb d_IN_stringSize_17 (by decide) ?_
                      refine lv_icmp_ge (tgt := 42) hx hb d_IN_stringSize_19 (by decide) (fun _ => ?_) (fun h => absurd (by decide) h)
                      refine lv_bipush (v := 10) hx hb d_IN_stringSize_42 (by decide) ?_
                      refine lv_iload_n hx hb d_IN_stringSize_44 rfl (lv_at hl 2 rfl) ?_
                      refine lv_iadd hx hb d_IN_stringSize_45 ?_
                      exact W.iret (v := (10 + xd)) hx hb hr (fun t ht hW => ⟨⟨_, (), rfl, tp_sz10 hx0 hd h8 h9, by rw [ht]; exact hP, hD⟩, hS.F ht⟩) hS.2.2 d_IN_stringSize_46
                    · refine lv_icmp_le (tgt := 31) hx hb d_IN_stringSize_24 (by decide) (fun h => absurd h h9) (fun _ => ?_)
                      refine lv_iload_n hx hb d_IN_stringSize_27 rfl (lv_at hl 0 rfl) ?_
                      refine lv_iload_n hx hb d_IN_stringSize_28 rfl (lv_at hl 2 rfl) ?_
                      refine lv_iadd hx hb d_IN_stringSize_29 ?_
                      exact W.iret (v := (9 + xd)) hx hb hr (fun t ht hW => ⟨⟨_, (), rfl, tp_sz9 hx0 hd h8 h9, by rw [ht]; exact hP, hD⟩, hS.F ht⟩) hS.2.2 d_IN_stringSize_30
                  · refine lv_icmp_le (tgt := 31) hx hb d_IN_stringSize_24 (by decide) (fun h => absurd h h8) (fun _ => ?_)
                    refine lv_iload_n hx hb d_IN_stringSize_27 rfl (lv_at hl 0 rfl) ?_
                    refine lv_iload_n hx hb d_IN_stringSize_28 rfl (lv_at hl 2 rfl) ?_
                    refine lv_iadd hx hb d_IN_stringSize_29 ?_
                    exact W.iret (v := (8 + xd)) hx hb hr (fun t ht hW => ⟨⟨_, (), rfl, tp_sz8 hx0 hd h7 h8, by rw [ht]; exact hP, hD⟩, hS.F ht⟩) hS.2.2 d_IN_stringSize_30
                · refine lv_icmp_le (tgt := 31) hx hb d_IN_stringSize_24 (by decide) (fun h => absurd h h7) (fun _ => ?_)
                  refine lv_iload_n hx hb d_IN_stringSize_27 rfl (lv_at hl 0 rfl) ?_
                  refine lv_iload_n hx hb d_IN_stringSize_28 rfl (lv_at hl 2 rfl) ?_
                  refine lv_iadd hx hb d_IN_stringSize_29 ?_
                  exact W.iret (v := (7 + xd)) hx hb hr (fun t ht hW => ⟨⟨_, (), rfl, tp_sz7 hx0 hd h6 h7, by rw [ht]; exact hP, hD⟩, hS.F ht⟩) hS.2.2 d_IN_stringSize_30
              · refine lv_icmp_le (tgt := 31) hx hb d_IN_stringSize_24 (by decide) (fun h => absurd h h6) (fun _ => ?_)
                refine lv_iload_n hx hb d_IN_stringSize_27 rfl (lv_at hl 0 rfl) ?_
                refine lv_iload_n hx hb d_IN_stringSize_28 rfl (lv_at hl 2 rfl) ?_
                refine lv_iadd hx hb d_IN_stringSize_29 ?_
                exact W.iret (v := (6 + xd)) hx hb hr (fun t ht hW => ⟨⟨_, (), rfl, tp_sz6 hx0 hd h5 h6, by rw [ht]; exact hP, hD⟩, hS.F ht⟩) hS.2.2 d_IN_stringSize_30
            · refine lv_icmp_le (tgt := 31) hx hb d_IN_stringSize_24 (by decide) (fun h => absurd h h5) (fun _ => ?_)
              refine lv_iload_n hx hb d_IN_stringSize_27 rfl (lv_at hl 0 rfl) ?_
              refine lv_iload_n hx hb d_IN_stringSize_28 rfl (lv_at hl 2 rfl) ?_
              refine lv_iadd hx hb d_IN_stringSize_29 ?_
              exact W.iret (v := (5 + xd)) hx hb hr (fun t ht hW => ⟨⟨_, (), rfl, tp_sz5 hx0 hd h4 h5, by rw [ht]; exact hP, hD⟩, hS.F ht⟩) hS.2.2 d_IN_stringSize_30
          · refine lv_icmp_le (tgt := 31) hx hb d_IN_stringSize_24 (by decide) (fun h => absurd h h4) (fun _ => ?_)
            refine lv_iload_n hx hb d_IN_stringSize_27 rfl (lv_at hl 0 rfl) ?_
            refine lv_iload_n hx hb d_IN_stringSize_28 rfl (lv_at hl 2 rfl) ?_
            refine lv_iadd hx hb d_IN_stringSize_29 ?_
            exact W.iret (v := (4 + xd)) hx hb hr (fun t ht hW => ⟨⟨_, (), rfl, tp_sz4 hx0 hd h3 h4, by rw [ht]; exact hP, hD⟩, hS.F ht⟩) hS.2.2 d_IN_stringSize_30
        · refine lv_icmp_le (tgt := 31) hx hb d_IN_stringSize_24 (by decide) (fun h => absurd h h3) (fun _ => ?_)
          refine lv_iload_n hx hb d_IN_stringSize_27 rfl (lv_at hl 0 rfl) ?_
          refine lv_iload_n hx hb d_IN_stringSize_28 rfl (lv_at hl 2 rfl) ?_
          refine lv_iadd hx hb d_IN_stringSize_29 ?_
          exact W.iret (v := (3 + xd)) hx hb hr (fun t ht hW => ⟨⟨_, (), rfl, tp_sz3 hx0 hd h2 h3, by rw [ht]; exact hP, hD⟩, hS.F ht⟩) hS.2.2 d_IN_stringSize_30
      · refine lv_icmp_le (tgt := 31) hx hb d_IN_stringSize_24 (by decide) (fun h => absurd h h2) (fun _ => ?_)
        refine lv_iload_n hx hb d_IN_stringSize_27 rfl (lv_at hl 0 rfl) ?_
        refine lv_iload_n hx hb d_IN_stringSize_28 rfl (lv_at hl 2 rfl) ?_
        refine lv_iadd hx hb d_IN_stringSize_29 ?_
        exact W.iret (v := (2 + xd)) hx hb hr (fun t ht hW => ⟨⟨_, (), rfl, tp_sz2 hx0 hd h1 h2, by rw [ht]; exact hP, hD⟩, hS.F ht⟩) hS.2.2 d_IN_stringSize_30
    · refine lv_icmp_le (tgt := 31) hx hb d_IN_stringSize_24 (by decide) (fun h => absurd h h1) (fun _ => ?_)
      refine lv_iload_n hx hb d_IN_stringSize_27 rfl (lv_at hl 0 rfl) ?_
      refine lv_iload_n hx hb d_IN_stringSize_28 rfl (lv_at hl 2 rfl) ?_
      refine lv_iadd hx hb d_IN_stringSize_29 ?_
      exact W.iret (v := (1 + xd)) hx hb hr (fun t ht hW => ⟨⟨_, (), rfl, tp_sz1 hx0 hd h1, by rw [ht]; exact hP, hD⟩, hS.F ht⟩) hS.2.2 d_IN_stringSize_30
  · intro jn11
    refine lv_iconst (v := 1) hx hb d_IN_stringSize_0 (by decide) ?_
    refine lv_istore_n (lv' := [(1, .int 1), (0, .int xv)]) hx hb d_IN_stringSize_1 rfl hl (by decide) rfl (fun ls hl => ?_)
    refine lv_iload_n hx hb d_IN_stringSize_2 rfl (lv_at hl 1 rfl) ?_
    by_cases h1 : xv < 0
    · refine lv_if_lt (tgt := 11) hx hb d_IN_stringSize_3 (by decide) (fun _ => ?_) (fun h => absurd h1 h)
      exact jn11 1 xv ls _ _ ⟨⟨tp_ssn h1, tp_sdn h1⟩, tp_lvI hl [0, 1] rfl, hP, hD, hS⟩
    · refine lv_if_lt (tgt := 11) hx hb d_IN_stringSize_3 (by decide) (fun h => absurd h h1) (fun _ => ?_)
      refine lv_iconst (v := 0) hx hb d_IN_stringSize_6 (by decide) ?_
      refine lv_istore_n (lv' := [(1, .int 0), (0, .int xv)]) hx hb d_IN_stringSize_7 rfl hl (by decide) rfl (fun ls hl => ?_)
      refine lv_iload_n hx hb d_IN_stringSize_8 rfl (lv_at hl 1 rfl) ?_
      refine lv_ineg hx hb d_IN_stringSize_9 ?_
      refine lv_istore_n (lv' := [(0, .int (-xv)), (1, .int 0)]) hx hb d_IN_stringSize_10 rfl hl (by decide) rfl (fun ls hl => ?_)
      exact jn11 0 (-xv) ls _ _ ⟨⟨tp_ssp h1, tp_sdp h1⟩, tp_lvI hl [1, 0] rfl, hP, hD, hS⟩
set_option maxHeartbeats 4000000 in
set_option maxRecDepth 100000 in
theorem a_IN_getChars (l : Launch) (E : tp_Env) (fr : va_W) (sz : Nat) (ab nb : Nat) (xv xi : Int32) (fb : Nat → Int32) (hd : (tp_dl xv : Int) ≤ xi.toInt) (hin9 : xi.toInt ≤ (nb : Int)) (hf : tp_fit fb) : Met l y_IN_getChars w_IN_getChars ({ frames := 0, cells := 0, slots := 0, locals := 0 }) (va_Pc [.int xv, .int xi, .ref ab] (tp_in E ((ab, .inl (tp_ty E 3, nb, .inl fb)) :: fr) sz)) (va_Qi (fun _ (u : Nat → Int32) => tp_fit u) (fun u t => tp_out E (va_A ((ab, .inl (tp_ty E 3, nb, .inl fb)) :: fr) sz) ((ab, .inl (tp_ty E 3, nb, .inl u)) :: fr) t) (va_A ((ab, .inl (tp_ty E 3, nb, .inl fb)) :: fr) sz)) 0 0 (va_A ((ab, .inl (tp_ty E 3, nb, .inl fb)) :: fr) sz) := by
  refine Met.ofW (cc := b_IN_getChars) (maxL := 7) (ret := (some .int)) (by decide) rfl ?_
  intro p e s m args below meth c s₁ B hml hv
  obtain ⟨rfl, hsz, hP, hK, hD0⟩ := hv
  have hx := B.exec
  have hb := B.bytes
  have hr := B.returns
  have htg : ∀ w ∈ tp_G, w.before ([.int xv, .int xi, .ref ab] : List Value).toArray s = true := fun w h => atoms_spec (ws := w_IN_getChars) B.pre w (List.mem_cons_of_mem _ h)
  have hown : s.vm.findClass "java/lang/Integer" = some m.cls := findClass_of_methodNamed B.named
  have hlocks := B.notSynchronized
  subst hsz
  have hD := hD0.self (sz := s.heap.size)
  generalize hAe : va_A ((ab, .inl (tp_ty E 3, nb, .inl fb)) :: fr) s.heap.size = A at hD hK ⊢
  have hA : ∀ q : Nat, s.heap.size ≤ q → A q := fun q h => by rw [← hAe]; exact Or.inr h
  have hS : va_S A s.heap s.heap [] := va_S.rf
  have hl := lv_entry ([.int xv, .int xi, .ref ab]) (n := 7) (Nat.le_of_ble_eq_true rfl)
  rw [lg_entry_eq]
  generalize (lg_sl ([.int xv, .int xi, .ref ab]) ++ List.replicate (7 - (lg_sl ([.int xv, .int xi, .ref ab])).length) Slot.unset).toArray = ls at hl ⊢
  have hl : lv_has ls 7 [(0, .int xv), (1, .int xi), (2, .ref ab)] := hl
  refine lv_iload_n hx hb d_IN_getChars_0 rfl (lv_at hl 1 rfl) ?_
  refine lv_istore (lv' := [(5, .int xi), (0, .int xv), (1, .int xi), (2, .ref ab)]) hx hb d_IN_getChars_1 hl (by decide) rfl (fun ls hl => ?_)
  refine lv_iload_n hx hb d_IN_getChars_3 rfl (lv_at hl 1 rfl) ?_
  by_cases h1 : 0 ≤ xv
  · refine lv_if_ge (tgt := 11) hx hb d_IN_getChars_4 (by decide) (fun _ => ?_) (fun h => absurd h1 h)
    refine lv_iconst (v := 0) hx hb d_IN_getChars_11 (by decide) ?_
    refine lv_istore (lv' := [(6, .int 0), (5, .int xi), (0, .int xv), (1, .int xi), (2, .ref ab)]) hx hb d_IN_getChars_12 hl (by decide) rfl (fun ls hl => ?_)
    refine lv_iload hx hb d_IN_getChars_14 (lv_at hl 0 rfl) ?_
    refine lv_if_ne (tgt := 22) hx hb d_IN_getChars_16 (by decide) (fun h => absurd (by decide) h) (fun _ => ?_)
    refine lv_iload_n hx hb d_IN_getChars_19 rfl (lv_at hl 2 rfl) ?_
    refine lv_ineg hx hb d_IN_getChars_20 ?_
    refine lv_istore_n (lv' := [(0, .int (-xv)), (6, .int 0), (5, .int xi), (1, .int xi), (2, .ref ab)]) hx hb d_IN_getChars_21 rfl hl (by decide) rfl (fun ls hl => ?_)
    refine tp_loop3 (fun j ls H locs (x : Int32) (cp : Int32) (f : Nat → Int32) => ((x.toInt ≤ 0) ∧ (x.toInt.natAbs = j) ∧ ((tp_dg x.toInt.natAbs : Int) + 0 ≤ cp.toInt) ∧ (cp.toInt ≤ (nb : Int)) ∧ (tp_fit f)) ∧ lv_has ls 7 [(0, .int x), (5, .int cp), (6, .int 0), (1, .int xi), (2, .ref ab)] ∧ va_P (tp_D E) tp_cl ((ab, .inl (tp_ty E 3, nb, .inl f)) :: fr) H ∧ va_D A ((ab, .inl (tp_ty E 3, nb, .inl f)) :: fr) ∧ va_S A s.heap H locs) ?_ _ (-xv) xi fb ⟨⟨tp_x0p h1, rfl, tp_dlp hd h1, hin9, hf⟩, tp_lvI hl [0, 2, 1, 3, 4] rfl, hP, hD, hS⟩
    intro j x cp f ls H locs hI ih
    obtain ⟨⟨hx0, hj, hd, hcn, hf⟩, hl, hP, hD, hS⟩ := hI
    refine lv_iload_n hx hb d_IN_getChars_22 rfl (lv_at hl 0 rfl) ?_
    refine lv_bipush (v := (-100)) hx hb d_IN_getChars_23 (by decide) ?_
    by_cases h2 : (-100) < x
    · refine lv_icmp_gt (tgt := 72) hx hb d_IN_getChars_25 (by decide) (fun _ => ?_) (fun h => absurd h2 h)
      refine lv_aload_n hx hb d_IN_getChars_72 rfl (lv_at hl 4 rfl) ?_
      refine lv_iinc (k := 1) (v := (cp + (-1))) (lv' := [(5, .int (cp + (-1))), (0, .int x), (6, .int 0), (1, .int xi), (2, .ref ab)]) hx hb d_IN_getChars_73 hl rfl rfl (by decide) rfl (fun ls hl => ?_)
      refine lv_iload hx hb d_IN_getChars_76 (lv_at hl 0 rfl) ?_
      refine va_gets (v := .ref (tp_ad E 102)) hx hb hK.onesZ hS hown (htg _ kl_IN_83) (fun _ h => h) d_IN_getChars_78 ?_
      refine lv_iload_n hx hb d_IN_getChars_81 rfl (lv_at hl 1 rfl) ?_
      refine lv_ineg hx hb d_IN_getChars_82 ?_
      refine va_tb (v := .int (tp_ones.getD (-x).toNatClampNeg 0)) hx hb hK.onesT hS (tp_vng hx0 h2) rfl d_IN_getChars_83 ?_
      refine va_bast (D := tp_D E) hx hb hK.1 hP hD hS 0 3 rfl rfl (tp_vD1 (by have g1 := @tp_dg1 x.toInt.natAbs; omega) hcn) d_IN_getChars_84 (fun H locs hP hD hS => ?_)
      have hP : va_P (tp_D E) tp_cl ((ab, .inl (tp_ty E 3, nb, .inl (upd f (cp + (-1)).toNatClampNeg (vp_nar .byte (tp_ones.getD (-x).toNatClampNeg 0))))) :: fr) H := hP
      have hD : va_D A ((ab, .inl (tp_ty E 3, nb, .inl (upd f (cp + (-1)).toNatClampNeg (vp_nar .byte (tp_ones.getD (-x).toNatClampNeg 0))))) :: fr) := hD
      refine lv_iload_n hx hb d_IN_getChars_85 rfl (lv_at hl 1 rfl) ?_
      refine lv_bipush (v := (-9)) hx hb d_IN_getChars_86 (by decide) ?_
      by_cases h3 : (-9) ≤ x
      · refine lv_icmp_ge (tgt := 104) hx hb d_IN_getChars_88 (by decide) (fun _ => ?_) (fun h => absurd h3 h)
        refine lv_iload hx hb d_IN_getChars_104 (lv_at hl 2 rfl) ?_
        refine lv_if_eq (tgt := 118) hx hb d_IN_getChars_106 (by decide) (fun _ => ?_) (fun h => absurd (by decide) h)
        refine lv_iload hx hb d_IN_getChars_118 (lv_at hl 0 rfl) ?_
        exact W.iret (v := (cp + (-1))) hx hb hr (fun t ht hW => ⟨⟨_, (upd f (cp + (-1)).toNatClampNeg (vp_nar .byte (tp_ones.getD (-x).toNatClampNeg 0))), rfl, (tp_fitst hf), by rw [ht]; exact hP, hD⟩, hS.F ht⟩) hS.2.2 d_IN_getChars_120
      · refine lv_icmp_ge (tgt := 104) hx hb d_IN_getChars_88 (by decide) (fun h => absurd h h3) (fun _ => ?_)
        refine lv_aload_n hx hb d_IN_getChars_91 rfl (lv_at hl 4 rfl) ?_
        refine lv_iinc (k := 0) (v := ((cp + (-1)) + (-1))) (lv' := [(5, .int ((cp + (-1)) + (-1))), (0, .int x), (6, .int 0), (1, .int xi), (2, .ref ab)]) hx hb d_IN_getChars_92 hl rfl rfl (by decide) rfl (fun ls hl => ?_)
        refine lv_iload hx hb d_IN_getChars_95 (lv_at hl 0 rfl) ?_
        refine va_gets (v := .ref (tp_ad E 103)) hx hb hK.tensZ hS hown (htg _ kl_IN_87) (fun _ h => h) d_IN_getChars_97 ?_
        refine lv_iload_n hx hb d_IN_getChars_100 rfl (lv_at hl 1 rfl) ?_
        refine lv_ineg hx hb d_IN_getChars_101 ?_
        refine va_tb (v := .int (tp_tens.getD (-x).toNatClampNeg 0)) hx hb hK.tensT hS (tp_vng hx0 h2) rfl d_IN_getChars_102 ?_
        refine va_bast (D := tp_D E) hx hb hK.1 hP hD hS 0 3 rfl rfl (tp_vD2 (by have g1 := @tp_dg1 x.toInt.natAbs; have g2 := tp_dg2 (tp_na10 h3); omega) hcn) d_IN_getChars_103 (fun H locs hP hD hS => ?_)
        have hP : va_P (tp_D E) tp_cl ((ab, .inl (tp_ty E 3, nb, .inl (upd (upd f (cp + (-1)).toNatClampNeg (vp_nar .byte (tp_ones.getD (-x).toNatClampNeg 0))) ((cp + (-1)) + (-1)).toNatClampNeg (vp_nar .byte (tp_tens.getD (-x).toNatClampNeg 0))))) :: fr) H := hP
        have hD : va_D A ((ab, .inl (tp_ty E 3, nb, .inl (upd (upd f (cp + (-1)).toNatClampNeg (vp_nar .byte (tp_ones.getD (-x).toNatClampNeg 0))) ((cp + (-1)) + (-1)).toNatClampNeg (vp_nar .byte (tp_tens.getD (-x).toNatClampNeg 0))))) :: fr) := hD
        refine lv_iload hx hb d_IN_getChars_104 (lv_at hl 2 rfl) ?_
        refine lv_if_eq (tgt := 118) hx hb d_IN_getChars_106 (by decide) (fun _ => ?_) (fun h => absurd (by decide) h)
        refine lv_iload hx hb d_IN_getChars_118 (lv_at hl 0 rfl) ?_
        exact W.iret (v := ((cp + (-1)) + (-1))) hx hb hr (fun t ht hW => ⟨⟨_, (upd (upd f (cp + (-1)).toNatClampNeg (vp_nar .byte (tp_ones.getD (-x).toNatClampNeg 0))) ((cp + (-1)) + (-1)).toNatClampNeg (vp_nar .byte (tp_tens.getD (-x).toNatClampNeg 0))), rfl, (tp_fitst (tp_fitst hf)), by rw [ht]; exact hP, hD⟩, hS.F ht⟩) hS.2.2 d_IN_getChars_120
    · refine lv_icmp_gt (tgt := 72) hx hb d_IN_getChars_25 (by decide) (fun h => absurd h h2) (fun _ => ?_)
      refine lv_iload_n hx hb d_IN_getChars_28 rfl (lv_at hl 0 rfl) ?_
      refine lv_bipush (v := 100) hx hb d_IN_getChars_29 (by decide) ?_
      refine lv_idiv hx hb d_IN_getChars_31 (by decide) ?_
      refine lv_istore_n (lv' := [(3, .int (x / 100)), (0, .int x), (5, .int cp), (6, .int 0), (1, .int xi), (2, .ref ab)]) hx hb d_IN_getChars_32 rfl hl (by decide) rfl (fun ls hl => ?_)
      refine lv_iload_n hx hb d_IN_getChars_33 rfl (lv_at hl 0 rfl) ?_
      refine lv_bipush (v := 100) hx hb d_IN_getChars_34 (by decide) ?_
      refine lv_imul hx hb d_IN_getChars_36 ?_
      refine lv_iload_n hx hb d_IN_getChars_37 rfl (lv_at hl 1 rfl) ?_
      refine lv_isub hx hb d_IN_getChars_38 ?_
      refine lv_istore (lv' := [(4, .int (((x / 100) * 100) - x)), (3, .int (x / 100)), (0, .int x), (5, .int cp), (6, .int 0), (1, .int xi), (2, .ref ab)]) hx hb d_IN_getChars_39 hl (by decide) rfl (fun ls hl => ?_)
      refine lv_iload_n hx hb d_IN_getChars_41 rfl (lv_at hl 1 rfl) ?_
      refine lv_istore_n (lv' := [(0, .int (x / 100)), (4, .int (((x / 100) * 100) - x)), (3, .int (x / 100)), (5, .int cp), (6, .int 0), (1, .int xi), (2, .ref ab)]) hx hb d_IN_getChars_42 rfl hl (by decide) rfl (fun ls hl => ?_)
      refine lv_aload_n hx hb d_IN_getChars_43 rfl (lv_at hl 6 rfl) ?_
      refine lv_iinc (k := 3) (v := (cp + (-1))) (lv' := [(5, .int (cp + (-1))), (0, .int (x / 100)), (4, .int (((x / 100) * 100) - x)), (3, .int (x / 100)), (6, .int 0), (1, .int xi), (2, .ref ab)]) hx hb d_IN_getChars_44 hl rfl rfl (by decide) rfl (fun ls hl => ?_)
      refine lv_iload hx hb d_IN_getChars_47 (lv_at hl 0 rfl) ?_
      refine va_gets (v := .ref (tp_ad E 102)) hx hb hK.onesZ hS hown (htg _ kl_IN_83) (fun _ h => h) d_IN_getChars_49 ?_
      refine lv_iload hx hb d_IN_getChars_52 (lv_at hl 2 rfl) ?_
      refine va_tb (v := .int (tp_ones.getD (((x / 100) * 100) - x).toNatClampNeg 0)) hx hb hK.onesT hS (tp_vr hx0) rfl d_IN_getChars_54 ?_
      refine va_bast (D := tp_D E) hx hb hK.1 hP hD hS 0 3 rfl rfl (tp_vD1 (by have g1 := @tp_dg1 x.toInt.natAbs; have g3 := tp_dg3 (tp_na100 h2); omega) hcn) d_IN_getChars_55 (fun H locs hP hD hS => ?_)
      have hP : va_P (tp_D E) tp_cl ((ab, .inl (tp_ty E 3, nb, .inl (upd f (cp + (-1)).toNatClampNeg (vp_nar .byte (tp_ones.getD (((x / 100) * 100) - x).toNatClampNeg 0))))) :: fr) H := hP
      have hD : va_D A ((ab, .inl (tp_ty E 3, nb, .inl (upd f (cp + (-1)).toNatClampNeg (vp_nar .byte (tp_ones.getD (((x / 100) * 100) - x).toNatClampNeg 0))))) :: fr) := hD
      refine lv_aload_n hx hb d_IN_getChars_56 rfl (lv_at hl 6 rfl) ?_
      refine lv_iinc (k := 0) (v := ((cp + (-1)) + (-1))) (lv' := [(5, .int ((cp + (-1)) + (-1))), (0, .int (x / 100)), (4, .int (((x / 100) * 100) - x)), (3, .int (x / 100)), (6, .int 0), (1, .int xi), (2, .ref ab)]) hx hb d_IN_getChars_57 hl rfl rfl (by decide) rfl (fun ls hl => ?_)
      refine lv_iload hx hb d_IN_getChars_60 (lv_at hl 0 rfl) ?_
      refine va_gets (v := .ref (tp_ad E 103)) hx hb hK.tensZ hS hown (htg _ kl_IN_87) (fun _ h => h) d_IN_getChars_62 ?_
      refine lv_iload hx hb d_IN_getChars_65 (lv_at hl 2 rfl) ?_
      refine va_tb (v := .int (tp_tens.getD (((x / 100) * 100) - x).toNatClampNeg 0)) hx hb hK.tensT hS (tp_vr hx0) rfl d_IN_getChars_67 ?_
      refine va_bast (D := tp_D E) hx hb hK.1 hP hD hS 0 3 rfl rfl (tp_vD2 (by have g1 := @tp_dg1 x.toInt.natAbs; have g3 := tp_dg3 (tp_na100 h2); omega) hcn) d_IN_getChars_68 (fun H locs hP hD hS => ?_)
      have hP : va_P (tp_D E) tp_cl ((ab, .inl (tp_ty E 3, nb, .inl (upd (upd f (cp + (-1)).toNatClampNeg (vp_nar .byte (tp_ones.getD (((x / 100) * 100) - x).toNatClampNeg 0))) ((cp + (-1)) + (-1)).toNatClampNeg (vp_nar .byte (tp_tens.getD (((x / 100) * 100) - x).toNatClampNeg 0))))) :: fr) H := hP
      have hD : va_D A ((ab, .inl (tp_ty E 3, nb, .inl (upd (upd f (cp + (-1)).toNatClampNeg (vp_nar .byte (tp_ones.getD (((x / 100) * 100) - x).toNatClampNeg 0))) ((cp + (-1)) + (-1)).toNatClampNeg (vp_nar .byte (tp_tens.getD (((x / 100) * 100) - x).toNatClampNeg 0))))) :: fr) := hD
      refine lv_goto (tgt := 22) hx hb d_IN_getChars_69 (by decide) ?_
      have hq := tp_q100 hx0 h2
      have e1 : ((cp + (-1)) + (-1)).toInt = cp.toInt - 2 := tp_m2 (by have g1 := @tp_dg1 x.toInt.natAbs; omega)
      exact ih ((x / 100).toInt.natAbs) (x / 100) ((cp + (-1)) + (-1)) (upd (upd f (cp + (-1)).toNatClampNeg (vp_nar .byte (tp_ones.getD (((x / 100) * 100) - x).toNatClampNeg 0))) ((cp + (-1)) + (-1)).toNatClampNeg (vp_nar .byte (tp_tens.getD (((x / 100) * 100) - x).toNatClampNeg 0))) ls _ _ (by rw [← hj]; exact hq.2.1) ⟨⟨hq.1, rfl, tp_gc1 hd hq.2.2 e1, tp_gc2 hcn e1, tp_fitst (tp_fitst hf)⟩, tp_lvI hl [1, 0, 4, 5, 6] rfl, hP, hD, hS⟩
  · refine lv_if_ge (tgt := 11) hx hb d_IN_getChars_4 (by decide) (fun h => absurd h h1) (fun _ => ?_)
    refine lv_iconst (v := 1) hx hb d_IN_getChars_7 (by decide) ?_
    refine lv_goto (tgt := 12) hx hb d_IN_getChars_8 (by decide) ?_
    refine lv_istore (lv' := [(6, .int 1), (5, .int xi), (0, .int xv), (1, .int xi), (2, .ref ab)]) hx hb d_IN_getChars_12 hl (by decide) rfl (fun ls hl => ?_)
    refine lv_iload hx hb d_IN_getChars_14 (lv_at hl 0 rfl) ?_
    refine lv_if_ne (tgt := 22) hx hb d_IN_getChars_16 (by decide) (fun _ => ?_) (fun h => absurd h (by decide))
    refine tp_loop3 (fun j ls H locs (x : Int32) (cp : Int32) (f : Nat → Int32) => ((x.toInt ≤ 0) ∧ (x.toInt.natAbs = j) ∧ ((tp_dg x.toInt.natAbs : Int) + 1 ≤ cp.toInt) ∧ (cp.toInt ≤ (nb : Int)) ∧ (tp_fit f)) ∧ lv_has ls 7 [(0, .int x), (5, .int cp), (6, .int 1), (1, .int xi), (2, .ref ab)] ∧ va_P (tp_D E) tp_cl ((ab, .inl (tp_ty E 3, nb, .inl f)) :: fr) H ∧ va_D A ((ab, .inl (tp_ty E 3, nb, .inl f)) :: fr) ∧ va_S A s.heap H locs) ?_ _ xv xi fb ⟨⟨tp_x0n h1, rfl, tp_dln hd h1, hin9, hf⟩, tp_lvI hl [2, 1, 0, 3, 4] rfl, hP, hD, hS⟩
    intro j x cp f ls H locs hI ih
    obtain ⟨⟨hx0, hj, hd, hcn, hf⟩, hl, hP, hD, hS⟩ := hI
    refine lv_iload_n hx hb d_IN_getChars_22 rfl (lv_at hl 0 rfl) ?_
    refine lv_bipush (v := (-100)) hx hb d_IN_getChars_23 (by decide) ?_
    by_cases h2 : (-100) < x
    · refine lv_icmp_gt (tgt := 72) hx hb d_IN_getChars_25 (by decide) (fun _ => ?_) (fun h => absurd h2 h)
      refine lv_aload_n hx hb d_IN_getChars_72 rfl (lv_at hl 4 rfl) ?_
      refine lv_iinc (k := 1) (v := (cp + (-1))) (lv' := [(5, .int (cp + (-1))), (0, .int x), (6, .int 1), (1, .int xi), (2, .ref ab)]) hx hb d_IN_getChars_73 hl rfl rfl (by decide) rfl (fun ls hl => ?_)
      refine lv_iload hx hb d_IN_getChars_76 (lv_at hl 0 rfl) ?_
      refine va_gets (v := .ref (tp_ad E 102)) hx hb hK.onesZ hS hown (htg _ kl_IN_83) (fun _ h => h) d_IN_getChars_78 ?_
      refine lv_iload_n hx hb d_IN_getChars_81 rfl (lv_at hl 1 rfl) ?_
      refine lv_ineg hx hb d_IN_getChars_82 ?_
      refine va_tb (v := .int (tp_ones.getD (-x).toNatClampNeg 0)) hx hb hK.onesT hS (tp_vng hx0 h2) rfl d_IN_getChars_83 ?_
      refine va_bast (D := tp_D E) hx hb hK.1 hP hD hS 0 3 rfl rfl (tp_vD1 (by have g1 := @tp_dg1 x.toInt.natAbs; omega) hcn) d_IN_getChars_84 (fun H locs hP hD hS => ?_)
      have hP : va_P (tp_D E) tp_cl ((ab, .inl (tp_ty E 3, nb, .inl (upd f (cp + (-1)).toNatClampNeg (vp_nar .byte (tp_ones.getD (-x).toNatClampNeg 0))))) :: fr) H := hP
      have hD : va_D A ((ab, .inl (tp_ty E 3, nb, .inl (upd f (cp + (-1)).toNatClampNeg (vp_nar .byte (tp_ones.getD (-x).toNatClampNeg 0))))) :: fr) := hD
      refine lv_iload_n hx hb d_IN_getChars_85 rfl (lv_at hl 1 rfl) ?_
      refine lv_bipush (v := (-9)) hx hb d_IN_getChars_86 (by decide) ?_
      by_cases h3 : (-9) ≤ x
      · refine lv_icmp_ge (tgt := 104) hx hb d_IN_getChars_88 (by decide) (fun _ => ?_) (fun h => absurd h3 h)
        refine lv_iload hx hb d_IN_getChars_104 (lv_at hl 2 rfl) ?_
        refine lv_if_eq (tgt := 118) hx hb d_IN_getChars_106 (by decide) (fun h => absurd h (by decide)) (fun _ => ?_)
        refine lv_aload_n hx hb d_IN_getChars_109 rfl (lv_at hl 4 rfl) ?_
        refine lv_iinc (k := 0) (v := ((cp + (-1)) + (-1))) (lv' := [(5, .int ((cp + (-1)) + (-1))), (0, .int x), (6, .int 1), (1, .int xi), (2, .ref ab)]) hx hb d_IN_getChars_110 hl rfl rfl (by decide) rfl (fun ls hl => ?_)
        refine lv_iload hx hb d_IN_getChars_113 (lv_at hl 0 rfl) ?_
        refine lv_bipush (v := 45) hx hb d_IN_getChars_115 (by decide) ?_
        refine va_bast (D := tp_D E) hx hb hK.1 hP hD hS 0 3 rfl rfl (tp_vD2 (by have g1 := @tp_dg1 x.toInt.natAbs; omega) hcn) d_IN_getChars_117 (fun H locs hP hD hS => ?_)
        have hP : va_P (tp_D E) tp_cl ((ab, .inl (tp_ty E 3, nb, .inl (upd (upd f (cp + (-1)).toNatClampNeg (vp_nar .byte (tp_ones.getD (-x).toNatClampNeg 0))) ((cp + (-1)) + (-1)).toNatClampNeg 45))) :: fr) H := hP
        have hD : va_D A ((ab, .inl (tp_ty E 3, nb, .inl (upd (upd f (cp + (-1)).toNatClampNeg (vp_nar .byte (tp_ones.getD (-x).toNatClampNeg 0))) ((cp + (-1)) + (-1)).toNatClampNeg 45))) :: fr) := hD
        refine lv_iload hx hb d_IN_getChars_118 (lv_at hl 0 rfl) ?_
        exact W.iret (v := ((cp + (-1)) + (-1))) hx hb hr (fun t ht hW => ⟨⟨_, (upd (upd f (cp + (-1)).toNatClampNeg (vp_nar .byte (tp_ones.getD (-x).toNatClampNeg 0))) ((cp + (-1)) + (-1)).toNatClampNeg 45), rfl, (tp_fit45 (tp_fitst hf)), by rw [ht]; exact hP, hD⟩, hS.F ht⟩) hS.2.2 d_IN_getChars_120
      · refine lv_icmp_ge (tgt := 104) hx hb d_IN_getChars_88 (by decide) (fun h => absurd h h3) (fun _ => ?_)
        refine lv_aload_n hx hb d_IN_getChars_91 rfl (lv_at hl 4 rfl) ?_
        refine lv_iinc (k := 0) (v := ((cp + (-1)) + (-1))) (lv' := [(5, .int ((cp + (-1)) + (-1))), (0, .int x), (6, .int 1), (1, .int xi), (2, .ref ab)]) hx hb d_IN_getChars_92 hl rfl rfl (by decide) rfl (fun ls hl => ?_)
        refine lv_iload hx hb d_IN_getChars_95 (lv_at hl 0 rfl) ?_
        refine va_gets (v := .ref (tp_ad E 103)) hx hb hK.tensZ hS hown (htg _ kl_IN_87) (fun _ h => h) d_IN_getChars_97 ?_
        refine lv_iload_n hx hb d_IN_getChars_100 rfl (lv_at hl 1 rfl) ?_
        refine lv_ineg hx hb d_IN_getChars_101 ?_
        refine va_tb (v := .int (tp_tens.getD (-x).toNatClampNeg 0)) hx hb hK.tensT hS (tp_vng hx0 h2) rfl d_IN_getChars_102 ?_
        refine va_bast (D := tp_D E) hx hb hK.1 hP hD hS 0 3 rfl rfl (tp_vD2 (by have g1 := @tp_dg1 x.toInt.natAbs; have g2 := tp_dg2 (tp_na10 h3); omega) hcn) d_IN_getChars_103 (fun H locs hP hD hS => ?_)
        have hP : va_P (tp_D E) tp_cl ((ab, .inl (tp_ty E 3, nb, .inl (upd (upd f (cp + (-1)).toNatClampNeg (vp_nar .byte (tp_ones.getD (-x).toNatClampNeg 0))) ((cp + (-1)) + (-1)).toNatClampNeg (vp_nar .byte (tp_tens.getD (-x).toNatClampNeg 0))))) :: fr) H := hP
        have hD : va_D A ((ab, .inl (tp_ty E 3, nb, .inl (upd (upd f (cp + (-1)).toNatClampNeg (vp_nar .byte (tp_ones.getD (-x).toNatClampNeg 0))) ((cp + (-1)) + (-1)).toNatClampNeg (vp_nar .byte (tp_tens.getD (-x).toNatClampNeg 0))))) :: fr) := hD
        refine lv_iload hx hb d_IN_getChars_104 (lv_at hl 2 rfl) ?_
        refine lv_if_eq (tgt := 118) hx hb d_IN_getChars_106 (by decide) (fun h => absurd h (by decide)) (fun _ => ?_)
        refine lv_aload_n hx hb d_IN_getChars_109 rfl (lv_at hl 4 rfl) ?_
        refine lv_iinc (k := 0) (v := (((cp + (-1)) + (-1)) + (-1))) (lv' := [(5, .int (((cp + (-1)) + (-1)) + (-1))), (0, .int x), (6, .int 1), (1, .int xi), (2, .ref ab)]) hx hb d_IN_getChars_110 hl rfl rfl (by decide) rfl (fun ls hl => ?_)
        refine lv_iload hx hb d_IN_getChars_113 (lv_at hl 0 rfl) ?_
        refine lv_bipush (v := 45) hx hb d_IN_getChars_115 (by decide) ?_
        refine va_bast (D := tp_D E) hx hb hK.1 hP hD hS 0 3 rfl rfl (tp_vD3 (by have g1 := @tp_dg1 x.toInt.natAbs; have g2 := tp_dg2 (tp_na10 h3); omega) hcn) d_IN_getChars_117 (fun H locs hP hD hS => ?_)
        have hP : va_P (tp_D E) tp_cl ((ab, .inl (tp_ty E 3, nb, .inl (upd (upd (upd f (cp + (-1)).toNatClampNeg (vp_nar .byte (tp_ones.getD (-x).toNatClampNeg 0))) ((cp + (-1)) + (-1)).toNatClampNeg (vp_nar .byte (tp_tens.getD (-x).toNatClampNeg 0))) (((cp + (-1)) + (-1)) + (-1)).toNatClampNeg 45))) :: fr) H := hP
        have hD : va_D A ((ab, .inl (tp_ty E 3, nb, .inl (upd (upd (upd f (cp + (-1)).toNatClampNeg (vp_nar .byte (tp_ones.getD (-x).toNatClampNeg 0))) ((cp + (-1)) + (-1)).toNatClampNeg (vp_nar .byte (tp_tens.getD (-x).toNatClampNeg 0))) (((cp + (-1)) + (-1)) + (-1)).toNatClampNeg 45))) :: fr) := hD
        refine lv_iload hx hb d_IN_getChars_118 (lv_at hl 0 rfl) ?_
        exact W.iret (v := (((cp + (-1)) + (-1)) + (-1))) hx hb hr (fun t ht hW => ⟨⟨_, (upd (upd (upd f (cp + (-1)).toNatClampNeg (vp_nar .byte (tp_ones.getD (-x).toNatClampNeg 0))) ((cp + (-1)) + (-1)).toNatClampNeg (vp_nar .byte (tp_tens.getD (-x).toNatClampNeg 0))) (((cp + (-1)) + (-1)) + (-1)).toNatClampNeg 45), rfl, (tp_fit45 (tp_fitst (tp_fitst hf))), by rw [ht]; exact hP, hD⟩, hS.F ht⟩) hS.2.2 d_IN_getChars_120
    · refine lv_icmp_gt (tgt := 72) hx hb d_IN_getChars_25 (by decide) (fun h => absurd h h2) (fun _ => ?_)
      refine lv_iload_n hx hb d_IN_getChars_28 rfl (lv_at hl 0 rfl) ?_
      refine lv_bipush (v := 100) hx hb d_IN_getChars_29 (by decide) ?_
      refine lv_idiv hx hb d_IN_getChars_31 (by decide) ?_
      refine lv_istore_n (lv' := [(3, .int (x / 100)), (0, .int x), (5, .int cp), (6, .int 1), (1, .int xi), (2, .ref ab)]) hx hb d_IN_getChars_32 rfl hl (by decide) rfl (fun ls hl => ?_)
      refine lv_iload_n hx hb d_IN_getChars_33 rfl (lv_at hl 0 rfl) ?_
      refine lv_bipush (v := 100) hx hb d_IN_getChars_34 (by decide) ?_
      refine lv_imul hx hb d_IN_getChars_36 ?_
      refine lv_iload_n hx hb d_IN_getChars_37 rfl (lv_at hl 1 rfl) ?_
      refine lv_isub hx hb d_IN_getChars_38 ?_
      refine lv_istore (lv' := [(4, .int (((x / 100) * 100) - x)), (3, .int (x / 100)), (0, .int x), (5, .int cp), (6, .int 1), (1, .int xi), (2, .ref ab)]) hx hb d_IN_getChars_39 hl (by decide) rfl (fun ls hl => ?_)
      refine lv_iload_n hx hb d_IN_getChars_41 rfl (lv_at hl 1 rfl) ?_
      refine lv_istore_n (lv' := [(0, .int (x / 100)), (4, .int (((x / 100) * 100) - x)), (3, .int (x / 100)), (5, .int cp), (6, .int 1), (1, .int xi), (2, .ref ab)]) hx hb d_IN_getChars_42 rfl hl (by decide) rfl (fun ls hl => ?_)
      refine lv_aload_n hx hb d_IN_getChars_43 rfl (lv_at hl 6 rfl) ?_
      refine lv_iinc (k := 3) (v := (cp + (-1))) (lv' := [(5, .int (cp + (-1))), (0, .int (x / 100)), (4, .int (((x / 100) * 100) - x)), (3, .int (x / 100)), (6, .int 1), (1, .int xi), (2, .ref ab)]) hx hb d_IN_getChars_44 hl rfl rfl (by decide) rfl (fun ls hl => ?_)
      refine lv_iload hx hb d_IN_getChars_47 (lv_at hl 0 rfl) ?_
      refine va_gets (v := .ref (tp_ad E 102)) hx hb hK.onesZ hS hown (htg _ kl_IN_83) (fun _ h => h) d_IN_getChars_49 ?_
      refine lv_iload hx hb d_IN_getChars_52 (lv_at hl 2 rfl) ?_
      refine va_tb (v := .int (tp_ones.getD (((x / 100) * 100) - x).toNatClampNeg 0)) hx hb hK.onesT hS (tp_vr hx0) rfl d_IN_getChars_54 ?_
      refine va_bast (D := tp_D E) hx hb hK.1 hP hD hS 0 3 rfl rfl (tp_vD1 (by have g1 := @tp_dg1 x.toInt.natAbs; have g3 := tp_dg3 (tp_na100 h2); omega) hcn) d_IN_getChars_55 (fun H locs hP hD hS => ?_)
      have hP : va_P (tp_D E) tp_cl ((ab, .inl (tp_ty E 3, nb, .inl (upd f (cp + (-1)).toNatClampNeg (vp_nar .byte (tp_ones.getD (((x / 100) * 100) - x).toNatClampNeg 0))))) :: fr) H := hP
      have hD : va_D A ((ab, .inl (tp_ty E 3, nb, .inl (upd f (cp + (-1)).toNatClampNeg (vp_nar .byte (tp_ones.getD (((x / 100) * 100) - x).toNatClampNeg 0))))) :: fr) := hD
      refine lv_aload_n hx hb d_IN_getChars_56 rfl (lv_at hl 6 rfl) ?_
      refine lv_iinc (k := 0) (v := ((cp + (-1)) + (-1))) (lv' := [(5, .int ((cp + (-1)) + (-1))), (0, .int (x / 100)), (4, .int (((x / 100) * 100) - x)), (3, .int (x / 100)), (6, .int 1), (1, .int xi), (2, .ref ab)]) hx hb d_IN_getChars_57 hl rfl rfl (by decide) rfl (fun ls hl => ?_)
      refine lv_iload hx hb d_IN_getChars_60 (lv_at hl 0 rfl) ?_
      refine va_gets (v := .ref (tp_ad E 103)) hx hb hK.tensZ hS hown (htg _ kl_IN_87) (fun _ h => h) d_IN_getChars_62 ?_
      refine lv_iload hx hb d_IN_getChars_65 (lv_at hl 2 rfl) ?_
      refine va_tb (v := .int (tp_tens.getD (((x / 100) * 100) - x).toNatClampNeg 0)) hx hb hK.tensT hS (tp_vr hx0) rfl d_IN_getChars_67 ?_
      refine va_bast (D := tp_D E) hx hb hK.1 hP hD hS 0 3 rfl rfl (tp_vD2 (by have g1 := @tp_dg1 x.toInt.natAbs; have g3 := tp_dg3 (tp_na100 h2); omega) hcn) d_IN_getChars_68 (fun H locs hP hD hS => ?_)
      have hP : va_P (tp_D E) tp_cl ((ab, .inl (tp_ty E 3, nb, .inl (upd (upd f (cp + (-1)).toNatClampNeg (vp_nar .byte (tp_ones.getD (((x / 100) * 100) - x).toNatClampNeg 0))) ((cp + (-1)) + (-1)).toNatClampNeg (vp_nar .byte (tp_tens.getD (((x / 100) * 100) - x).toNatClampNeg 0))))) :: fr) H := hP
      have hD : va_D A ((ab, .inl (tp_ty E 3, nb, .inl (upd (upd f (cp + (-1)).toNatClampNeg (vp_nar .byte (tp_ones.getD (((x / 100) * 100) - x).toNatClampNeg 0))) ((cp + (-1)) + (-1)).toNatClampNeg (vp_nar .byte (tp_tens.getD (((x / 100) * 100) - x).toNatClampNeg 0))))) :: fr) := hD
      refine lv_goto (tgt := 22) hx hb d_IN_getChars_69 (by decide) ?_
      have hq := tp_q100 hx0 h2
      have e1 : ((cp + (-1)) + (-1)).toInt = cp.toInt - 2 := tp_m2 (by have g1 := @tp_dg1 x.toInt.natAbs; omega)
      exact ih ((x / 100).toInt.natAbs) (x / 100) ((cp + (-1)) + (-1)) (upd (upd f (cp + (-1)).toNatClampNeg (vp_nar .byte (tp_ones.getD (((x / 100) * 100) - x).toNatClampNeg 0))) ((cp + (-1)) + (-1)).toNatClampNeg (vp_nar .byte (tp_tens.getD (((x / 100) * 100) - x).toNatClampNeg 0))) ls _ _ (by rw [← hj]; exact hq.2.1) ⟨⟨hq.1, rfl, tp_gc1 hd hq.2.2 e1, tp_gc2 hcn e1, tp_fitst (tp_fitst hf)⟩, tp_lvI hl [1, 0, 4, 5, 6] rfl, hP, hD, hS⟩
set_option maxHeartbeats 4000000 in
set_option maxRecDepth 100000 in
theorem a_AS_appI (l : Launch) (E : tp_Env) (fr : va_W) (sz : Nat) (aB ab : Nat) (xm xc : Int32) (nb : Nat) (fb : Nat → Int32) (xv : Int32) (hn : nb = 16 ∨ nb = 34) (hf : tp_fit fb) (hc : 0 ≤ xc.toInt ∧ xc.toInt + (tp_dl xv : Int) ≤ 34) : Met l y_AS_append_1 w_AS_append_1 ({ frames := 4, cells := 1, slots := 34, locals := 144 }) (va_Pc [.ref aB, .int xv] (tp_in E ((aB, .inr (6, [.ref ab, .int 0, .int xm, .int xc])) :: (ab, .inl (tp_ty E 3, nb, .inl fb)) :: fr) sz)) (va_Qr (fun (u : Nat × Nat × (Nat → Int32) × Int32) => (u.2.1 = 16 ∨ u.2.1 = 34) ∧ tp_fit u.2.2.1 ∧ u.2.2.2.toInt = xc.toInt + (tp_dl xv : Int) ∧ u.2.2.2.toInt ≤ (u.2.1 : Int)) (fun u q t => q = (fun (_ : Nat × Nat × (Nat → Int32) × Int32) => aB) u ∧ tp_out E (va_A ((aB, .inr (6, [.ref ab, .int 0, .int xm, .int xc])) :: (ab, .inl (tp_ty E 3, nb, .inl fb)) :: fr) sz) ((aB, .inr (6, [.ref u.1, .int 0, .int xm, .int u.2.2.2])) :: (u.1, .inl (tp_ty E 3, u.2.1, .inl u.2.2.1)) :: fr) t) (va_A ((aB, .inr (6, [.ref ab, .int 0, .int xm, .int xc])) :: (ab, .inl (tp_ty E 3, nb, .inl fb)) :: fr) sz)) 1 34 (va_A ((aB, .inr (6, [.ref ab, .int 0, .int xm, .int xc])) :: (ab, .inl (tp_ty E 3, nb, .inl fb)) :: fr) sz) := by
  refine Met.ofW (cc := b_AS_append_1) (maxL := 4) (ret := (some (.object "java/lang/AbstractStringBuilder"))) (by decide) rfl ?_
  intro p e s m args below meth c s₁ B hml hv
  obtain ⟨rfl, hsz, hP, hK, hD0⟩ := hv
  have hx := B.exec
  have hb := B.bytes
  have hr := B.returns
  have htg : ∀ w ∈ tp_G, w.before ([.ref aB, .int xv] : List Value).toArray s = true := fun w h => atoms_spec (ws := w_AS_append_1) B.pre w (List.mem_cons_of_mem _ h)
  have hown : s.vm.findClass "java/lang/AbstractStringBuilder" = some m.cls := findClass_of_methodNamed B.named
  have hlocks := B.notSynchronized
  subst hsz
  have hD := hD0.self (sz := s.heap.size)
  generalize hAe : va_A ((aB, .inr (6, [.ref ab, .int 0, .int xm, .int xc])) :: (ab, .inl (tp_ty E 3, nb, .inl fb)) :: fr) s.heap.size = A at hD hK ⊢
  have hA : ∀ q : Nat, s.heap.size ≤ q → A q := fun q h => by rw [← hAe]; exact Or.inr h
  have hS : va_S A s.heap s.heap [] := va_S.rf
  have hl := lv_entry ([.ref aB, .int xv]) (n := 4) (Nat.le_of_ble_eq_true rfl)
  rw [lg_entry_eq]
  generalize (lg_sl ([.ref aB, .int xv]) ++ List.replicate (4 - (lg_sl ([.ref aB, .int xv])).length) Slot.unset).toArray = ls at hl ⊢
  have hl : lv_has ls 4 [(0, .ref aB), (1, .int xv)] := hl
  refine lv_aload_n hx hb d_AS_append_1_0 rfl (lv_at hl 0 rfl) ?_
  refine va_get (D := tp_D E) (ci := 6) (v := .int xc) (C := qR_SB) (T := qF_SB) (N := 4) hx hb htg qi_SB hown hK.1 hP 0 rfl rfl 3 (by decide) (htg _ kl_AS_79) (fun _ h => h) rfl d_AS_append_1_1 ?_
  refine lv_istore_n (lv' := [(2, .int xc), (0, .ref aB), (1, .int xv)]) hx hb d_AS_append_1_4 rfl hl (by decide) rfl (fun ls hl => ?_)
  refine lv_iload_n hx hb d_AS_append_1_5 rfl (lv_at hl 0 rfl) ?_
  refine lv_iload_n hx hb d_AS_append_1_6 rfl (lv_at hl 2 rfl) ?_
  refine tp_ci (tp_rS (As := [.int xv]) (rest := [.int xc]) ⟨hx, hb, hml, hown, htg⟩ (a_IN_stringSize l E ((aB, .inr (6, [.ref ab, .int 0, .int xm, .int xc])) :: (ab, .inl (tp_ty E 3, nb, .inl fb)) :: fr) _ xv ) (⟨callB_of 1 htg (tp_good0 kc_IN_stringSize) rfl rfl rfl (htg _ ki_IN) (htg _ kl_AS_245) ⟨by decide, by decide, by decide +kernel⟩ ⟨Nat.le_of_ble_eq_true rfl, Nat.le_of_ble_eq_true rfl⟩, htg _ ks_IN_stringSize⟩) hK hP hD hS hA rfl hl.1 rfl (Nat.le_of_ble_eq_true rfl) d_AS_append_1_7 ⟨Nat.le_of_ble_eq_true rfl, Nat.le_of_ble_eq_true rfl⟩) hD hS hA (fun r u H locs hw hP hD hS => ?_)
  have hszq1 : r.toInt = (tp_dl xv : Int) := hw
  generalize r = szq1 at hszq1 ⊢
  have hP : va_P (tp_D E) tp_cl ((aB, .inr (6, [.ref ab, .int 0, .int xm, .int xc])) :: (ab, .inl (tp_ty E 3, nb, .inl fb)) :: fr) H := hP
  have hD : va_D A ((aB, .inr (6, [.ref ab, .int 0, .int xm, .int xc])) :: (ab, .inl (tp_ty E 3, nb, .inl fb)) :: fr) := hD
  refine lv_iadd hx hb d_AS_append_1_10 ?_
  refine lv_istore_n (lv' := [(3, .int (xc + szq1)), (2, .int xc), (0, .ref aB), (1, .int xv)]) hx hb d_AS_append_1_11 rfl hl (by decide) rfl (fun ls hl => ?_)
  refine lv_aload_n hx hb d_AS_append_1_12 rfl (lv_at hl 2 rfl) ?_
  refine lv_iload_n hx hb d_AS_append_1_13 rfl (lv_at hl 0 rfl) ?_
  refine tp_cv (tp_rV (As := [.int (xc + szq1)]) (rest := []) ⟨hx, hb, hml, hown, htg⟩ (a_AS_ensure l E fr _ aB ab xm xc (xc + szq1) nb fb hn (tp_ci1 hc hszq1) hf) (⟨callB_of 1 htg (tp_good0 kc_AS_ensureCapacityInternal) rfl rfl rfl (htg _ ki_AS) (htg _ kl_AS_100) ⟨by decide, by decide, by decide +kernel⟩ ⟨Nat.le_of_ble_eq_true rfl, Nat.le_of_ble_eq_true rfl⟩, htg _ km_AS_ensureCapacityInternal, htg _ kv_SB_AS_ensureCapacityInternal⟩) (va_recv (ci := 6) (q0 := 0) hK.1 hP rfl rfl) hK hP hD hS hA rfl hl.1 rfl (Nat.le_of_ble_eq_true rfl) d_AS_append_1_14 ⟨Nat.le_of_ble_eq_true rfl, Nat.le_of_ble_eq_true rfl⟩) hD hS hA (fun u H locs hw hP hD hS => ?_)
  obtain ⟨eq2, nq2, fq2⟩ := u
  obtain ⟨hnq2, hmq2, hfq2⟩ : (nq2 = 16 ∨ nq2 = 34) ∧ (xc + szq1).toInt ≤ (nq2 : Int) ∧ tp_fit fq2 := hw
  have hP : va_P (tp_D E) tp_cl ((aB, .inr (6, [.ref eq2, .int 0, .int xm, .int xc])) :: (eq2, .inl (tp_ty E 3, nq2, .inl fq2)) :: fr) H := hP
  have hD : va_D A ((aB, .inr (6, [.ref eq2, .int 0, .int xm, .int xc])) :: (eq2, .inl (tp_ty E 3, nq2, .inl fq2)) :: fr) := hD
  refine lv_aload_n hx hb d_AS_append_1_17 rfl (lv_at hl 2 rfl) ?_
  refine tp_ci (tp_rV (As := []) (rest := []) ⟨hx, hb, hml, hown, htg⟩ (cs_AS_isLatin1_1 l E ((eq2, .inl (tp_ty E 3, nq2, .inl fq2)) :: fr) _ aB eq2 0 xm xc (by decide)) (⟨callB_of 0 htg (tp_good0 kc_AS_isLatin1) rfl rfl rfl (htg _ ki_AS) (htg _ kl_AS_83) ⟨by decide, by decide, by decide +kernel⟩ ⟨Nat.le_of_ble_eq_true rfl, Nat.le_of_ble_eq_true rfl⟩, htg _ km_AS_isLatin1, htg _ kv_SB_AS_isLatin1⟩) (va_recv (ci := 6) (q0 := 0) hK.1 hP rfl rfl) hK hP hD hS hA rfl hl.1 rfl (Nat.le_of_ble_eq_true rfl) d_AS_append_1_18 ⟨Nat.le_of_ble_eq_true rfl, Nat.le_of_ble_eq_true rfl⟩) hD hS hA (fun r u H locs hw hP hD hS => ?_)
  subst r
  have hP : va_P (tp_D E) tp_cl ((aB, .inr (6, [.ref eq2, .int 0, .int xm, .int xc])) :: (eq2, .inl (tp_ty E 3, nq2, .inl fq2)) :: fr) H := hP
  have hD : va_D A ((aB, .inr (6, [.ref eq2, .int 0, .int xm, .int xc])) :: (eq2, .inl (tp_ty E 3, nq2, .inl fq2)) :: fr) := hD
  refine lv_if_eq (tgt := 37) hx hb d_AS_append_1_21 (by decide) (fun h => absurd h (by decide)) (fun _ => ?_)
  refine lv_iload_n hx hb d_AS_append_1_24 rfl (lv_at hl 3 rfl) ?_
  refine lv_iload_n hx hb d_AS_append_1_25 rfl (lv_at hl 0 rfl) ?_
  refine lv_aload_n hx hb d_AS_append_1_26 rfl (lv_at hl 2 rfl) ?_
  refine va_get (D := tp_D E) (ci := 6) (v := .ref eq2) (C := qR_SB) (T := qF_SB) (N := 4) hx hb htg qi_SB hown hK.1 hP 0 rfl rfl 0 (by decide) (htg _ kl_AS_15) (fun _ h => h) rfl d_AS_append_1_27 ?_
  have hP : va_P (tp_D E) tp_cl ((eq2, .inl (tp_ty E 3, nq2, .inl fq2)) :: (aB, .inr (6, [.ref eq2, .int 0, .int xm, .int xc])) :: fr) _ := tp_mvP 1 rfl hP
  have hD : va_D A ((eq2, .inl (tp_ty E 3, nq2, .inl fq2)) :: (aB, .inr (6, [.ref eq2, .int 0, .int xm, .int xc])) :: fr) := tp_mvD 1 rfl hD
  refine tp_ci (tp_rS (As := [.int xv, .int (xc + szq1), .ref eq2]) (rest := []) ⟨hx, hb, hml, hown, htg⟩ (a_IN_getChars l E ((aB, .inr (6, [.ref eq2, .int 0, .int xm, .int xc])) :: fr) _ eq2 nq2 xv (xc + szq1) fq2 (tp_ci2 hc hszq1) hmq2 hfq2) (⟨callB_of 3 htg (tp_good0 kc_IN_getChars) rfl rfl rfl (htg _ ki_IN) (htg _ kl_AS_248) ⟨by decide, by decide, by decide +kernel⟩ ⟨Nat.le_of_ble_eq_true rfl, Nat.le_of_ble_eq_true rfl⟩, htg _ ks_IN_getChars⟩) hK hP hD hS hA rfl hl.1 rfl (Nat.le_of_ble_eq_true rfl) d_AS_append_1_30 ⟨Nat.le_of_ble_eq_true rfl, Nat.le_of_ble_eq_true rfl⟩) hD hS hA (fun r u H locs hw hP hD hS => ?_)
  have hfq3 : tp_fit u := hw
  generalize u = cq3 at hP hD hfq3
  have hP : va_P (tp_D E) tp_cl ((eq2, .inl (tp_ty E 3, nq2, .inl cq3)) :: (aB, .inr (6, [.ref eq2, .int 0, .int xm, .int xc])) :: fr) H := hP
  have hD : va_D A ((eq2, .inl (tp_ty E 3, nq2, .inl cq3)) :: (aB, .inr (6, [.ref eq2, .int 0, .int xm, .int xc])) :: fr) := hD
  refine lv_pop hx hb d_AS_append_1_33 rfl ?_
  refine lv_goto (tgt := 48) hx hb d_AS_append_1_34 (by decide) ?_
  refine lv_aload_n hx hb d_AS_append_1_48 rfl (lv_at hl 2 rfl) ?_
  refine lv_iload_n hx hb d_AS_append_1_49 rfl (lv_at hl 0 rfl) ?_
  refine va_put (D := tp_D E) (ci := 6) (v := .int (xc + szq1)) (ty := .int) (C := qR_SB) (T := qF_SB) (N := 4) hx hb htg qi_SB qt_SB qt_SB_ok qn_SB hown hK.1 hP hD hS 1 rfl rfl 3 (by decide) (htg _ kl_AS_79) (fun _ h => h) rfl (by decide +kernel) rfl rfl (Nat.le_of_ble_eq_true rfl) d_AS_append_1_50 (fun H locs hP hD hS => ?_)
  have hP : va_P (tp_D E) tp_cl ((eq2, .inl (tp_ty E 3, nq2, .inl cq3)) :: (aB, .inr (6, [.ref eq2, .int 0, .int xm, .int (xc + szq1)])) :: fr) H := hP
  have hD : va_D A ((eq2, .inl (tp_ty E 3, nq2, .inl cq3)) :: (aB, .inr (6, [.ref eq2, .int 0, .int xm, .int (xc + szq1)])) :: fr) := hD
  refine lv_aload_n hx hb d_AS_append_1_53 rfl (lv_at hl 2 rfl) ?_
  have hP : va_P (tp_D E) tp_cl ((eq2, .inl (tp_ty E 3, nq2, .inl cq3)) :: (aB, .inr (6, [.ref eq2, .int 0, .int xm, .int (xc + szq1)])) :: fr) _ := tp_mvP 0 rfl hP
  have hD : va_D A ((eq2, .inl (tp_ty E 3, nq2, .inl cq3)) :: (aB, .inr (6, [.ref eq2, .int 0, .int xm, .int (xc + szq1)])) :: fr) := tp_mvD 0 rfl hD
  have hP : va_P (tp_D E) tp_cl ((aB, .inr (6, [.ref eq2, .int 0, .int xm, .int (xc + szq1)])) :: (eq2, .inl (tp_ty E 3, nq2, .inl cq3)) :: fr) _ := tp_mvP 1 rfl hP
  have hD : va_D A ((aB, .inr (6, [.ref eq2, .int 0, .int xm, .int (xc + szq1)])) :: (eq2, .inl (tp_ty E 3, nq2, .inl cq3)) :: fr) := tp_mvD 1 rfl hD
  exact W.aret (v := .ref aB) hx hb hr (Or.inl ⟨_, rfl⟩) (Or.inr ⟨_, rfl⟩) (fun t ht hW => ⟨⟨(eq2, nq2, cq3, (xc + szq1)), _, rfl, ⟨hnq2, hfq3, tp_ci3 hc hszq1, hmq2⟩, rfl, by rw [ht]; exact hP, hD⟩, hS.F ht⟩) hS.2.2 d_AS_append_1_54
set_option maxHeartbeats 4000000 in
set_option maxRecDepth 100000 in
theorem a_SB_appI (l : Launch) (E : tp_Env) (fr : va_W) (sz : Nat) (aB ab : Nat) (xm xc : Int32) (nb : Nat) (fb : Nat → Int32) (xv : Int32) (hn : nb = 16 ∨ nb = 34) (hf : tp_fit fb) (hc : 0 ≤ xc.toInt ∧ xc.toInt + (tp_dl xv : Int) ≤ 34) : Met l y_SB_append_1 w_SB_append_1 ({ frames := 5, cells := 1, slots := 34, locals := 167 }) (va_Pc [.ref aB, .int xv] (tp_in E ((aB, .inr (6, [.ref ab, .int 0, .int xm, .int xc])) :: (ab, .inl (tp_ty E 3, nb, .inl fb)) :: fr) sz)) (va_Qr (fun (u : Nat × Nat × (Nat → Int32) × Int32) => (u.2.1 = 16 ∨ u.2.1 = 34) ∧ tp_fit u.2.2.1 ∧ u.2.2.2.toInt = xc.toInt + (tp_dl xv : Int) ∧ u.2.2.2.toInt ≤ (u.2.1 : Int)) (fun u q t => q = (fun (_ : Nat × Nat × (Nat → Int32) × Int32) => aB) u ∧ tp_out E (va_A ((aB, .inr (6, [.ref ab, .int 0, .int xm, .int xc])) :: (ab, .inl (tp_ty E 3, nb, .inl fb)) :: fr) sz) ((aB, .inr (6, [.ref u.1, .int 0, .int xm, .int u.2.2.2])) :: (u.1, .inl (tp_ty E 3, u.2.1, .inl u.2.2.1)) :: fr) t) (va_A ((aB, .inr (6, [.ref ab, .int 0, .int xm, .int xc])) :: (ab, .inl (tp_ty E 3, nb, .inl fb)) :: fr) sz)) 1 34 (va_A ((aB, .inr (6, [.ref ab, .int 0, .int xm, .int xc])) :: (ab, .inl (tp_ty E 3, nb, .inl fb)) :: fr) sz) := by
  refine Met.ofW (cc := b_SB_append_1) (maxL := 2) (ret := (some (.object "java/lang/StringBuilder"))) (by decide) rfl ?_
  intro p e s m args below meth c s₁ B hml hv
  obtain ⟨rfl, hsz, hP, hK, hD0⟩ := hv
  have hx := B.exec
  have hb := B.bytes
  have hr := B.returns
  have htg : ∀ w ∈ tp_G, w.before ([.ref aB, .int xv] : List Value).toArray s = true := fun w h => atoms_spec (ws := w_SB_append_1) B.pre w (List.mem_cons_of_mem _ h)
  have hown : s.vm.findClass "java/lang/StringBuilder" = some m.cls := findClass_of_methodNamed B.named
  have hlocks := B.notSynchronized
  subst hsz
  have hD := hD0.self (sz := s.heap.size)
  generalize hAe : va_A ((aB, .inr (6, [.ref ab, .int 0, .int xm, .int xc])) :: (ab, .inl (tp_ty E 3, nb, .inl fb)) :: fr) s.heap.size = A at hD hK ⊢
  have hA : ∀ q : Nat, s.heap.size ≤ q → A q := fun q h => by rw [← hAe]; exact Or.inr h
  have hS : va_S A s.heap s.heap [] := va_S.rf
  have hl := lv_entry ([.ref aB, .int xv]) (n := 2) (Nat.le_of_ble_eq_true rfl)
  rw [lg_entry_eq]
  generalize (lg_sl ([.ref aB, .int xv]) ++ List.replicate (2 - (lg_sl ([.ref aB, .int xv])).length) Slot.unset).toArray = ls at hl ⊢
  have hl : lv_has ls 2 [(0, .ref aB), (1, .int xv)] := hl
  refine lv_aload_n hx hb d_SB_append_1_0 rfl (lv_at hl 0 rfl) ?_
  refine lv_iload_n hx hb d_SB_append_1_1 rfl (lv_at hl 1 rfl) ?_
  refine tp_cr (tp_rU (As := [.int xv]) (rest := []) ⟨hx, hb, hml, hown, htg⟩ (a_AS_appI l E fr _ aB ab xm xc nb fb xv hn hf hc) (tp_cwU 1 htg kc_AS_append_1 (htg _ kl_SB_53) (htg _ kq_AS_append_1) (htg _ kz_SB) (htg _ km_AS_append_1) (htg _ ki_AS) ⟨by decide, by decide +kernel⟩ ⟨Nat.le_of_ble_eq_true rfl, Nat.le_of_ble_eq_true rfl⟩) (va_recv (ci := 6) (q0 := 0) hK.1 hP rfl rfl) (hK.1.1 6 _ rfl).2 hK hP hD hS hA rfl hl.1 rfl (Nat.le_of_ble_eq_true rfl) d_SB_append_1_2 ⟨Nat.le_of_ble_eq_true rfl, Nat.le_of_ble_eq_true rfl⟩) hD hS hA (fun u H locs hw hP hD hS => ?_)
  obtain ⟨eq1, nq1, fq1, cq1⟩ := u
  obtain ⟨hnq1, hfq1, hcq1, hqq1⟩ : (nq1 = 16 ∨ nq1 = 34) ∧ tp_fit fq1 ∧ cq1.toInt = xc.toInt + (tp_dl xv : Int) ∧ cq1.toInt ≤ (nq1 : Int) := hw
  have hP : va_P (tp_D E) tp_cl ((aB, .inr (6, [.ref eq1, .int 0, .int xm, .int cq1])) :: (eq1, .inl (tp_ty E 3, nq1, .inl fq1)) :: fr) H := hP
  have hD : va_D A ((aB, .inr (6, [.ref eq1, .int 0, .int xm, .int cq1])) :: (eq1, .inl (tp_ty E 3, nq1, .inl fq1)) :: fr) := hD
  refine lv_pop hx hb d_SB_append_1_5 rfl ?_
  refine lv_aload_n hx hb d_SB_append_1_6 rfl (lv_at hl 0 rfl) ?_
  exact W.aret (v := .ref aB) hx hb hr (Or.inl ⟨_, rfl⟩) (Or.inr ⟨_, rfl⟩) (fun t ht hW => ⟨⟨(eq1, nq1, fq1, cq1), _, rfl, ⟨hnq1, hfq1, hcq1, hqq1⟩, rfl, by rw [ht]; exact hP, hD⟩, hS.F ht⟩) hS.2.2 d_SB_append_1_7
set_option maxHeartbeats 4000000 in
set_option maxRecDepth 100000 in
theorem a_AS_inflate (l : Launch) (E : tp_Env) (fr : va_W) (sz : Nat) (aB ab : Nat) (xm xc : Int32) (nb : Nat) (fb : Nat → Int32) (i : Nat) (hi : i < 97)  : Met l y_AS_inflateIfNeededFor w_AS_inflateIfNeededFor ({ frames := 1, cells := 0, slots := 0, locals := 20 }) (va_Pc [.ref aB, .ref (tp_ad E (200 + i))] (tp_in E ((aB, .inr (6, [.ref ab, .int 0, .int xm, .int xc])) :: (ab, .inl (tp_ty E 3, nb, .inl fb)) :: fr) sz)) (va_Qv (fun (_ : Unit) => True) (fun _ t => tp_out E (va_A ((aB, .inr (6, [.ref ab, .int 0, .int xm, .int xc])) :: (ab, .inl (tp_ty E 3, nb, .inl fb)) :: fr) sz) ((aB, .inr (6, [.ref ab, .int 0, .int xm, .int xc])) :: (ab, .inl (tp_ty E 3, nb, .inl fb)) :: fr) t) (va_A ((aB, .inr (6, [.ref ab, .int 0, .int xm, .int xc])) :: (ab, .inl (tp_ty E 3, nb, .inl fb)) :: fr) sz)) 0 0 (va_A ((aB, .inr (6, [.ref ab, .int 0, .int xm, .int xc])) :: (ab, .inl (tp_ty E 3, nb, .inl fb)) :: fr) sz) := by
  refine Met.ofW (cc := b_AS_inflateIfNeededFor) (maxL := 2) (ret := none) (by decide) rfl ?_
  intro p e s m args below meth c s₁ B hml hv
  obtain ⟨rfl, hsz, hP, hK, hD0⟩ := hv
  have hx := B.exec
  have hb := B.bytes
  have hr := B.returns
  have htg : ∀ w ∈ tp_G, w.before ([.ref aB, .ref (tp_ad E (200 + i))] : List Value).toArray s = true := fun w h => atoms_spec (ws := w_AS_inflateIfNeededFor) B.pre w (List.mem_cons_of_mem _ h)
  have hown : s.vm.findClass "java/lang/AbstractStringBuilder" = some m.cls := findClass_of_methodNamed B.named
  have hlocks := B.notSynchronized
  subst hsz
  have hD := hD0.self (sz := s.heap.size)
  generalize hAe : va_A ((aB, .inr (6, [.ref ab, .int 0, .int xm, .int xc])) :: (ab, .inl (tp_ty E 3, nb, .inl fb)) :: fr) s.heap.size = A at hD hK ⊢
  have hA : ∀ q : Nat, s.heap.size ≤ q → A q := fun q h => by rw [← hAe]; exact Or.inr h
  have hS : va_S A s.heap s.heap [] := va_S.rf
  have hl := lv_entry ([.ref aB, .ref (tp_ad E (200 + i))]) (n := 2) (Nat.le_of_ble_eq_true rfl)
  rw [lg_entry_eq]
  generalize (lg_sl ([.ref aB, .ref (tp_ad E (200 + i))]) ++ List.replicate (2 - (lg_sl ([.ref aB, .ref (tp_ad E (200 + i))])).length) Slot.unset).toArray = ls at hl ⊢
  have hl : lv_has ls 2 [(0, .ref aB), (1, .ref (tp_ad E (200 + i)))] := hl
  refine va_gets (v := .int 1) hx hb hK.C.1 hS hown (htg _ kl_AS_18) (fun _ h => h) d_AS_inflateIfNeededFor_0 ?_
  refine lv_if_eq (tgt := 21) hx hb d_AS_inflateIfNeededFor_3 (by decide) (fun h => absurd h (by decide)) (fun _ => ?_)
  refine lv_aload_n hx hb d_AS_inflateIfNeededFor_6 rfl (lv_at hl 0 rfl) ?_
  refine va_get (D := tp_D E) (ci := 6) (v := .int 0) (C := qR_SB) (T := qF_SB) (N := 4) hx hb htg qi_SB hown hK.1 hP 0 rfl rfl 1 (by decide) (htg _ kl_AS_22) (fun _ h => h) rfl d_AS_inflateIfNeededFor_7 ?_
  refine lv_aload_n hx hb d_AS_inflateIfNeededFor_10 rfl (lv_at hl 1 rfl) ?_
  refine tp_ci (tp_rV (As := []) (rest := [.int 0]) ⟨hx, hb, hml, hown, htg⟩ (a_ST_coder l E ((aB, .inr (6, [.ref ab, .int 0, .int xm, .int xc])) :: (ab, .inl (tp_ty E 3, nb, .inl fb)) :: fr) _ i hi ) (⟨callB_of 0 htg (tp_good0 kc_ST_coder) rfl rfl rfl (htg _ ki_ST) (htg _ kl_AS_40) ⟨by decide, by decide, by decide +kernel⟩ ⟨Nat.le_of_ble_eq_true rfl, Nat.le_of_ble_eq_true rfl⟩, htg _ km_ST_coder, htg _ kv_ST_ST_coder⟩) (hK.strO (i := i) hi hS) hK hP hD hS hA rfl hl.1 rfl (Nat.le_of_ble_eq_true rfl) d_AS_inflateIfNeededFor_11 ⟨Nat.le_of_ble_eq_true rfl, Nat.le_of_ble_eq_true rfl⟩) hD hS hA (fun r u H locs hw hP hD hS => ?_)
  subst r
  have hP : va_P (tp_D E) tp_cl ((aB, .inr (6, [.ref ab, .int 0, .int xm, .int xc])) :: (ab, .inl (tp_ty E 3, nb, .inl fb)) :: fr) H := hP
  have hD : va_D A ((aB, .inr (6, [.ref ab, .int 0, .int xm, .int xc])) :: (ab, .inl (tp_ty E 3, nb, .inl fb)) :: fr) := hD
  refine lv_icmp_eq (tgt := 21) hx hb d_AS_inflateIfNeededFor_14 (by decide) (fun _ => ?_) (fun h => absurd (by decide) h)
  exact W.vret hx hb hr (fun t ht hW => ⟨⟨(), rfl, trivial, by rw [ht]; exact hP, hD⟩, hS.F ht⟩) hS.2.2 d_AS_inflateIfNeededFor_21
set_option maxHeartbeats 4000000 in
set_option maxRecDepth 100000 in
theorem a_ST_getBytes (l : Launch) (E : tp_Env) (fr : va_W) (sz : Nat) (i : Nat) (hi : i < 97) (ab nb : Nat) (fb : Nat → Int32) (hn : nb = 16 ∨ nb = 34) (hf : tp_fit fb) : Met l y_ST_getBytes w_ST_getBytes ({ frames := 1, cells := 0, slots := 0, locals := 100 }) (va_Pc [.ref (tp_ad E (200 + i)), .ref ab, .int 0, .int 0] (tp_in E ((ab, .inl (tp_ty E 3, nb, .inl fb)) :: fr) sz)) (va_Qv (fun (u : Nat → Int32) => tp_fit u) (fun u t => tp_out E (va_A ((ab, .inl (tp_ty E 3, nb, .inl fb)) :: fr) sz) ((ab, .inl (tp_ty E 3, nb, .inl u)) :: fr) t) (va_A ((ab, .inl (tp_ty E 3, nb, .inl fb)) :: fr) sz)) 0 0 (va_A ((ab, .inl (tp_ty E 3, nb, .inl fb)) :: fr) sz) := by
  refine Met.ofW (cc := b_ST_getBytes) (maxL := 4) (ret := none) (by decide) rfl ?_
  intro p e s m args below meth c s₁ B hml hv
  obtain ⟨rfl, hsz, hP, hK, hD0⟩ := hv
  have hx := B.exec
  have hb := B.bytes
  have hr := B.returns
  have htg : ∀ w ∈ tp_G, w.before ([.ref (tp_ad E (200 + i)), .ref ab, .int 0, .int 0] : List Value).toArray s = true := fun w h => atoms_spec (ws := w_ST_getBytes) B.pre w (List.mem_cons_of_mem _ h)
  have hown : s.vm.findClass "java/lang/String" = some m.cls := findClass_of_methodNamed B.named
  have hlocks := B.notSynchronized
  subst hsz
  have hD := hD0.self (sz := s.heap.size)
  generalize hAe : va_A ((ab, .inl (tp_ty E 3, nb, .inl fb)) :: fr) s.heap.size = A at hD hK ⊢
  have hA : ∀ q : Nat, s.heap.size ≤ q → A q := fun q h => by rw [← hAe]; exact Or.inr h
  have hS : va_S A s.heap s.heap [] := va_S.rf
  have hl := lv_entry ([.ref (tp_ad E (200 + i)), .ref ab, .int 0, .int 0]) (n := 4) (Nat.le_of_ble_eq_true rfl)
  rw [lg_entry_eq]
  generalize (lg_sl ([.ref (tp_ad E (200 + i)), .ref ab, .int 0, .int 0]) ++ List.replicate (4 - (lg_sl ([.ref (tp_ad E (200 + i)), .ref ab, .int 0, .int 0])).length) Slot.unset).toArray = ls at hl ⊢
  have hl : lv_has ls 4 [(0, .ref (tp_ad E (200 + i))), (1, .ref ab), (2, .int 0), (3, .int 0)] := hl
  refine lv_aload_n hx hb d_ST_getBytes_0 rfl (lv_at hl 0 rfl) ?_
  refine tp_ci (tp_rV (As := []) (rest := []) ⟨hx, hb, hml, hown, htg⟩ (a_ST_coder l E ((ab, .inl (tp_ty E 3, nb, .inl fb)) :: fr) _ i hi ) (⟨callB_of 0 htg (tp_good0 kc_ST_coder) rfl rfl rfl (htg _ ki_ST) (htg _ kl_ST_335) ⟨by decide, by decide, by decide +kernel⟩ ⟨Nat.le_of_ble_eq_true rfl, Nat.le_of_ble_eq_true rfl⟩, htg _ km_ST_coder, htg _ kv_ST_ST_coder⟩) (hK.strO (i := i) hi hS) hK hP hD hS hA rfl hl.1 rfl (Nat.le_of_ble_eq_true rfl) d_ST_getBytes_1 ⟨Nat.le_of_ble_eq_true rfl, Nat.le_of_ble_eq_true rfl⟩) hD hS hA (fun r u H locs hw hP hD hS => ?_)
  subst r
  have hP : va_P (tp_D E) tp_cl ((ab, .inl (tp_ty E 3, nb, .inl fb)) :: fr) H := hP
  have hD : va_D A ((ab, .inl (tp_ty E 3, nb, .inl fb)) :: fr) := hD
  refine lv_iload_n hx hb d_ST_getBytes_4 rfl (lv_at hl 3 rfl) ?_
  refine lv_icmp_ne (tgt := 28) hx hb d_ST_getBytes_5 (by decide) (fun h => absurd (by decide) h) (fun _ => ?_)
  refine lv_aload_n hx hb d_ST_getBytes_8 rfl (lv_at hl 0 rfl) ?_
  refine vk_getf (v := .ref (tp_ad E (400 + i))) hx hb (hK.strV (i := i) hi) hS hown (htg _ kl_ST_9) (fun _ h => h) d_ST_getBytes_9 ?_
  refine lv_iconst (v := 0) hx hb d_ST_getBytes_12 (by decide) ?_
  refine lv_aload_n hx hb d_ST_getBytes_13 rfl (lv_at hl 1 rfl) ?_
  refine lv_iload_n hx hb d_ST_getBytes_14 rfl (lv_at hl 2 rfl) ?_
  refine lv_iload_n hx hb d_ST_getBytes_15 rfl (lv_at hl 3 rfl) ?_
  refine lv_ishl hx hb d_ST_getBytes_16 ?_
  refine tp_topi (v := 0) (by decide) ?_
  refine lv_aload_n hx hb d_ST_getBytes_17 rfl (lv_at hl 0 rfl) ?_
  refine vk_getf (v := .ref (tp_ad E (400 + i))) hx hb (hK.strV (i := i) hi) hS hown (htg _ kl_ST_9) (fun _ h => h) d_ST_getBytes_18 ?_
  refine va_tlen (v := (Int32.ofNat (tp_len.getD i 0))) hx hb (hK.strT (i := i) hi) hS rfl d_ST_getBytes_21 ?_
  refine vk_copyt (f := (fun j => (tp_byt.getD i []).getD j 0)) hx hb (by rw [hml]; exact hl.1.symm) hown (htg _ kl_ST_212) (htg _ kny_copy) (htg _ kns_copy) (htg _ ki_SY) hK.1 hP hD hS (hK.strT (i := i) hi) 0 3 rfl rfl (by decide) (by decide) (tp_lnn hi) (tp_l0 hi) (tp_lnb hi hn) (tp_lfit hi) (Nat.le_of_ble_eq_true rfl) (Nat.le_of_ble_eq_true rfl) d_ST_getBytes_22 (fun H locs hP hD hS => ?_)
  have hP : va_P (tp_D E) tp_cl ((ab, .inl (tp_ty E 3, nb, .inl (va_cpy (fun j => (tp_byt.getD i []).getD j 0) fb 0 0 (Int32.ofNat (tp_len.getD i 0)).toNatClampNeg))) :: fr) H := hP
  have hD : va_D A ((ab, .inl (tp_ty E 3, nb, .inl (va_cpy (fun j => (tp_byt.getD i []).getD j 0) fb 0 0 (Int32.ofNat (tp_len.getD i 0)).toNatClampNeg))) :: fr) := hD
  refine lv_goto (tgt := 43) hx hb d_ST_getBytes_25 (by decide) ?_
  exact W.vret hx hb hr (fun t ht hW => ⟨⟨(va_cpy (fun j => (tp_byt.getD i []).getD j 0) fb 0 0 (Int32.ofNat (tp_len.getD i 0)).toNatClampNeg), rfl, tp_fitcps hi hf, by rw [ht]; exact hP, hD⟩, hS.F ht⟩) hS.2.2 d_ST_getBytes_43
set_option maxHeartbeats 4000000 in
set_option maxRecDepth 100000 in
theorem a_AS_putStringAt (l : Launch) (E : tp_Env) (fr : va_W) (sz : Nat) (aB ab : Nat) (xm xc : Int32) (nb : Nat) (fb : Nat → Int32) (i : Nat) (hi : i < 97) (hn : nb = 16 ∨ nb = 34) (hf : tp_fit fb) : Met l y_AS_putStringAt w_AS_putStringAt ({ frames := 2, cells := 0, slots := 0, locals := 123 }) (va_Pc [.ref aB, .int 0, .ref (tp_ad E (200 + i))] (tp_in E ((aB, .inr (6, [.ref ab, .int 0, .int xm, .int xc])) :: (ab, .inl (tp_ty E 3, nb, .inl fb)) :: fr) sz)) (va_Qv (fun (u : Nat → Int32) => tp_fit u) (fun u t => tp_out E (va_A ((aB, .inr (6, [.ref ab, .int 0, .int xm, .int xc])) :: (ab, .inl (tp_ty E 3, nb, .inl fb)) :: fr) sz) ((aB, .inr (6, [.ref ab, .int 0, .int xm, .int xc])) :: (ab, .inl (tp_ty E 3, nb, .inl u)) :: fr) t) (va_A ((aB, .inr (6, [.ref ab, .int 0, .int xm, .int xc])) :: (ab, .inl (tp_ty E 3, nb, .inl fb)) :: fr) sz)) 0 0 (va_A ((aB, .inr (6, [.ref ab, .int 0, .int xm, .int xc])) :: (ab, .inl (tp_ty E 3, nb, .inl fb)) :: fr) sz) := by
  refine Met.ofW (cc := b_AS_putStringAt) (maxL := 3) (ret := none) (by decide) rfl ?_
  intro p e s m args below meth c s₁ B hml hv
  obtain ⟨rfl, hsz, hP, hK, hD0⟩ := hv
  have hx := B.exec
  have hb := B.bytes
  have hr := B.returns
  have htg : ∀ w ∈ tp_G, w.before ([.ref aB, .int 0, .ref (tp_ad E (200 + i))] : List Value).toArray s = true := fun w h => atoms_spec (ws := w_AS_putStringAt) B.pre w (List.mem_cons_of_mem _ h)
  have hown : s.vm.findClass "java/lang/AbstractStringBuilder" = some m.cls := findClass_of_methodNamed B.named
  have hlocks := B.notSynchronized
  subst hsz
  have hD := hD0.self (sz := s.heap.size)
  generalize hAe : va_A ((aB, .inr (6, [.ref ab, .int 0, .int xm, .int xc])) :: (ab, .inl (tp_ty E 3, nb, .inl fb)) :: fr) s.heap.size = A at hD hK ⊢
  have hA : ∀ q : Nat, s.heap.size ≤ q → A q := fun q h => by rw [← hAe]; exact Or.inr h
  have hS : va_S A s.heap s.heap [] := va_S.rf
  have hl := lv_entry ([.ref aB, .int 0, .ref (tp_ad E (200 + i))]) (n := 3) (Nat.le_of_ble_eq_true rfl)
  rw [lg_entry_eq]
  generalize (lg_sl ([.ref aB, .int 0, .ref (tp_ad E (200 + i))]) ++ List.replicate (3 - (lg_sl ([.ref aB, .int 0, .ref (tp_ad E (200 + i))])).length) Slot.unset).toArray = ls at hl ⊢
  have hl : lv_has ls 3 [(0, .ref aB), (1, .int 0), (2, .ref (tp_ad E (200 + i)))] := hl
  refine lv_aload_n hx hb d_AS_putStringAt_0 rfl (lv_at hl 0 rfl) ?_
  refine lv_aload_n hx hb d_AS_putStringAt_1 rfl (lv_at hl 2 rfl) ?_
  refine tp_cv (tp_rV (As := [.ref (tp_ad E (200 + i))]) (rest := []) ⟨hx, hb, hml, hown, htg⟩ (a_AS_inflate l E fr _ aB ab xm xc nb fb i hi ) (⟨callB_of 1 htg (tp_good0 kc_AS_inflateIfNeededFor) rfl rfl rfl (htg _ ki_AS) (htg _ kl_AS_397) ⟨by decide, by decide, by decide +kernel⟩ ⟨Nat.le_of_ble_eq_true rfl, Nat.le_of_ble_eq_true rfl⟩, htg _ km_AS_inflateIfNeededFor, htg _ kv_SB_AS_inflateIfNeededFor⟩) (va_recv (ci := 6) (q0 := 0) hK.1 hP rfl rfl) hK hP hD hS hA rfl hl.1 rfl (Nat.le_of_ble_eq_true rfl) d_AS_putStringAt_2 ⟨Nat.le_of_ble_eq_true rfl, Nat.le_of_ble_eq_true rfl⟩) hD hS hA (fun u H locs hw hP hD hS => ?_)
  have hP : va_P (tp_D E) tp_cl ((aB, .inr (6, [.ref ab, .int 0, .int xm, .int xc])) :: (ab, .inl (tp_ty E 3, nb, .inl fb)) :: fr) H := hP
  have hD : va_D A ((aB, .inr (6, [.ref ab, .int 0, .int xm, .int xc])) :: (ab, .inl (tp_ty E 3, nb, .inl fb)) :: fr) := hD
  refine lv_aload_n hx hb d_AS_putStringAt_5 rfl (lv_at hl 2 rfl) ?_
  refine lv_aload_n hx hb d_AS_putStringAt_6 rfl (lv_at hl 0 rfl) ?_
  refine va_get (D := tp_D E) (ci := 6) (v := .ref ab) (C := qR_SB) (T := qF_SB) (N := 4) hx hb htg qi_SB hown hK.1 hP 0 rfl rfl 0 (by decide) (htg _ kl_AS_15) (fun _ h => h) rfl d_AS_putStringAt_7 ?_
  refine lv_iload_n hx hb d_AS_putStringAt_10 rfl (lv_at hl 1 rfl) ?_
  refine lv_aload_n hx hb d_AS_putStringAt_11 rfl (lv_at hl 0 rfl) ?_
  refine va_get (D := tp_D E) (ci := 6) (v := .int 0) (C := qR_SB) (T := qF_SB) (N := 4) hx hb htg qi_SB hown hK.1 hP 0 rfl rfl 1 (by decide) (htg _ kl_AS_22) (fun _ h => h) rfl d_AS_putStringAt_12 ?_
  have hP : va_P (tp_D E) tp_cl ((ab, .inl (tp_ty E 3, nb, .inl fb)) :: (aB, .inr (6, [.ref ab, .int 0, .int xm, .int xc])) :: fr) _ := tp_mvP 1 rfl hP
  have hD : va_D A ((ab, .inl (tp_ty E 3, nb, .inl fb)) :: (aB, .inr (6, [.ref ab, .int 0, .int xm, .int xc])) :: fr) := tp_mvD 1 rfl hD
  refine tp_cv (tp_rV (As := [.ref ab, .int 0, .int 0]) (rest := []) ⟨hx, hb, hml, hown, htg⟩ (a_ST_getBytes l E ((aB, .inr (6, [.ref ab, .int 0, .int xm, .int xc])) :: fr) _ i hi ab nb fb hn hf) (⟨callB_of 3 htg (tp_good0 kc_ST_getBytes) rfl rfl rfl (htg _ ki_ST) (htg _ kl_AS_399) ⟨by decide, by decide, by decide +kernel⟩ ⟨Nat.le_of_ble_eq_true rfl, Nat.le_of_ble_eq_true rfl⟩, htg _ km_ST_getBytes, htg _ kv_ST_ST_getBytes⟩) (hK.strO (i := i) hi hS) hK hP hD hS hA rfl hl.1 rfl (Nat.le_of_ble_eq_true rfl) d_AS_putStringAt_15 ⟨Nat.le_of_ble_eq_true rfl, Nat.le_of_ble_eq_true rfl⟩) hD hS hA (fun u H locs hw hP hD hS => ?_)
  have hfq1 : tp_fit u := hw
  generalize u = sq1 at hP hD hfq1
  have hP : va_P (tp_D E) tp_cl ((ab, .inl (tp_ty E 3, nb, .inl sq1)) :: (aB, .inr (6, [.ref ab, .int 0, .int xm, .int xc])) :: fr) H := hP
  have hD : va_D A ((ab, .inl (tp_ty E 3, nb, .inl sq1)) :: (aB, .inr (6, [.ref ab, .int 0, .int xm, .int xc])) :: fr) := hD
  have hP : va_P (tp_D E) tp_cl ((ab, .inl (tp_ty E 3, nb, .inl sq1)) :: (aB, .inr (6, [.ref ab, .int 0, .int xm, .int xc])) :: fr) _ := tp_mvP 0 rfl hP
  have hD : va_D A ((ab, .inl (tp_ty E 3, nb, .inl sq1)) :: (aB, .inr (6, [.ref ab, .int 0, .int xm, .int xc])) :: fr) := tp_mvD 0 rfl hD
  have hP : va_P (tp_D E) tp_cl ((aB, .inr (6, [.ref ab, .int 0, .int xm, .int xc])) :: (ab, .inl (tp_ty E 3, nb, .inl sq1)) :: fr) _ := tp_mvP 1 rfl hP
  have hD : va_D A ((aB, .inr (6, [.ref ab, .int 0, .int xm, .int xc])) :: (ab, .inl (tp_ty E 3, nb, .inl sq1)) :: fr) := tp_mvD 1 rfl hD
  exact W.vret hx hb hr (fun t ht hW => ⟨⟨sq1, rfl, hfq1, by rw [ht]; exact hP, hD⟩, hS.F ht⟩) hS.2.2 d_AS_putStringAt_18
set_option maxHeartbeats 4000000 in
set_option maxRecDepth 100000 in
theorem a_AS_appS (l : Launch) (E : tp_Env) (fr : va_W) (sz : Nat) (aB ab : Nat) (xm : Int32) (nb : Nat) (fb : Nat → Int32) (i : Nat) (hi : i < 97) (hn : nb = 16 ∨ nb = 34) (hf : tp_fit fb) : Met l y_AS_append_2 w_AS_append_2 ({ frames := 4, cells := 1, slots := 34, locals := 145 }) (va_Pc [.ref aB, .ref (tp_ad E (200 + i))] (tp_in E ((aB, .inr (6, [.ref ab, .int 0, .int xm, .int 0])) :: (ab, .inl (tp_ty E 3, nb, .inl fb)) :: fr) sz)) (va_Qr (fun (u : Nat × Nat × (Nat → Int32) × Int32) => (u.2.1 = 16 ∨ u.2.1 = 34) ∧ tp_fit u.2.2.1 ∧ u.2.2.2.toInt = ((tp_len.getD i 0 : Nat) : Int) ∧ u.2.2.2.toInt ≤ (u.2.1 : Int)) (fun u q t => q = (fun (_ : Nat × Nat × (Nat → Int32) × Int32) => aB) u ∧ tp_out E (va_A ((aB, .inr (6, [.ref ab, .int 0, .int xm, .int 0])) :: (ab, .inl (tp_ty E 3, nb, .inl fb)) :: fr) sz) ((aB, .inr (6, [.ref u.1, .int 0, .int xm, .int u.2.2.2])) :: (u.1, .inl (tp_ty E 3, u.2.1, .inl u.2.2.1)) :: fr) t) (va_A ((aB, .inr (6, [.ref ab, .int 0, .int xm, .int 0])) :: (ab, .inl (tp_ty E 3, nb, .inl fb)) :: fr) sz)) 1 34 (va_A ((aB, .inr (6, [.ref ab, .int 0, .int xm, .int 0])) :: (ab, .inl (tp_ty E 3, nb, .inl fb)) :: fr) sz) := by
  refine Met.ofW (cc := b_AS_append_2) (maxL := 3) (ret := (some (.object "java/lang/AbstractStringBuilder"))) (by decide) rfl ?_
  intro p e s m args below meth c s₁ B hml hv
  obtain ⟨rfl, hsz, hP, hK, hD0⟩ := hv
  have hx := B.exec
  have hb := B.bytes
  have hr := B.returns
  have htg : ∀ w ∈ tp_G, w.before ([.ref aB, .ref (tp_ad E (200 + i))] : List Value).toArray s = true := fun w h => atoms_spec (ws := w_AS_append_2) B.pre w (List.mem_cons_of_mem _ h)
  have hown : s.vm.findClass "java/lang/AbstractStringBuilder" = some m.cls := findClass_of_methodNamed B.named
  have hlocks := B.notSynchronized
  subst hsz
  have hD := hD0.self (sz := s.heap.size)
  generalize hAe : va_A ((aB, .inr (6, [.ref ab, .int 0, .int xm, .int 0])) :: (ab, .inl (tp_ty E 3, nb, .inl fb)) :: fr) s.heap.size = A at hD hK ⊢
  have hA : ∀ q : Nat, s.heap.size ≤ q → A q := fun q h => by rw [← hAe]; exact Or.inr h
  have hS : va_S A s.heap s.heap [] := va_S.rf
  have hl := lv_entry ([.ref aB, .ref (tp_ad E (200 + i))]) (n := 3) (Nat.le_of_ble_eq_true rfl)
  rw [lg_entry_eq]
  generalize (lg_sl ([.ref aB, .ref (tp_ad E (200 + i))]) ++ List.replicate (3 - (lg_sl ([.ref aB, .ref (tp_ad E (200 + i))])).length) Slot.unset).toArray = ls at hl ⊢
  have hl : lv_has ls 3 [(0, .ref aB), (1, .ref (tp_ad E (200 + i)))] := hl
  refine lv_aload_n hx hb d_AS_append_2_0 rfl (lv_at hl 1 rfl) ?_
  refine lv_ifnonnull (tgt := 9) hx hb d_AS_append_2_1 (by decide) ?_
  refine lv_aload_n hx hb d_AS_append_2_9 rfl (lv_at hl 1 rfl) ?_
  refine tp_ci (tp_rV (As := []) (rest := []) ⟨hx, hb, hml, hown, htg⟩ (a_ST_length l E ((aB, .inr (6, [.ref ab, .int 0, .int xm, .int 0])) :: (ab, .inl (tp_ty E 3, nb, .inl fb)) :: fr) _ i hi ) (⟨callB_of 0 htg (tp_good0 kc_ST_length) rfl rfl rfl (htg _ ki_ST) (htg _ kl_AS_32) ⟨by decide, by decide, by decide +kernel⟩ ⟨Nat.le_of_ble_eq_true rfl, Nat.le_of_ble_eq_true rfl⟩, htg _ km_ST_length, htg _ kv_ST_ST_length⟩) (hK.strO (i := i) hi hS) hK hP hD hS hA rfl hl.1 rfl (Nat.le_of_ble_eq_true rfl) d_AS_append_2_10 ⟨Nat.le_of_ble_eq_true rfl, Nat.le_of_ble_eq_true rfl⟩) hD hS hA (fun r u H locs hw hP hD hS => ?_)
  subst r
  have hP : va_P (tp_D E) tp_cl ((aB, .inr (6, [.ref ab, .int 0, .int xm, .int 0])) :: (ab, .inl (tp_ty E 3, nb, .inl fb)) :: fr) H := hP
  have hD : va_D A ((aB, .inr (6, [.ref ab, .int 0, .int xm, .int 0])) :: (ab, .inl (tp_ty E 3, nb, .inl fb)) :: fr) := hD
  refine lv_istore_n (lv' := [(2, .int (Int32.ofNat (tp_len.getD i 0))), (0, .ref aB), (1, .ref (tp_ad E (200 + i)))]) hx hb d_AS_append_2_13 rfl hl (by decide) rfl (fun ls hl => ?_)
  refine lv_aload_n hx hb d_AS_append_2_14 rfl (lv_at hl 1 rfl) ?_
  refine lv_aload_n hx hb d_AS_append_2_15 rfl (lv_at hl 1 rfl) ?_
  refine va_get (D := tp_D E) (ci := 6) (v := .int 0) (C := qR_SB) (T := qF_SB) (N := 4) hx hb htg qi_SB hown hK.1 hP 0 rfl rfl 3 (by decide) (htg _ kl_AS_79) (fun _ h => h) rfl d_AS_append_2_16 ?_
  refine lv_iload_n hx hb d_AS_append_2_19 rfl (lv_at hl 0 rfl) ?_
  refine lv_iadd hx hb d_AS_append_2_20 ?_
  refine tp_cv (tp_rV (As := [.int (0 + (Int32.ofNat (tp_len.getD i 0)))]) (rest := []) ⟨hx, hb, hml, hown, htg⟩ (a_AS_ensure l E fr _ aB ab xm 0 (0 + (Int32.ofNat (tp_len.getD i 0))) nb fb hn (tp_l34 hi) hf) (⟨callB_of 1 htg (tp_good0 kc_AS_ensureCapacityInternal) rfl rfl rfl (htg _ ki_AS) (htg _ kl_AS_100) ⟨by decide, by decide, by decide +kernel⟩ ⟨Nat.le_of_ble_eq_true rfl, Nat.le_of_ble_eq_true rfl⟩, htg _ km_AS_ensureCapacityInternal, htg _ kv_SB_AS_ensureCapacityInternal⟩) (va_recv (ci := 6) (q0 := 0) hK.1 hP rfl rfl) hK hP hD hS hA rfl hl.1 rfl (Nat.le_of_ble_eq_true rfl) d_AS_append_2_21 ⟨Nat.le_of_ble_eq_true rfl, Nat.le_of_ble_eq_true rfl⟩) hD hS hA (fun u H locs hw hP hD hS => ?_)
  obtain ⟨eq1, nq1, fq1⟩ := u
  obtain ⟨hnq1, hmq1, hfq1⟩ : (nq1 = 16 ∨ nq1 = 34) ∧ (0 + (Int32.ofNat (tp_len.getD i 0))).toInt ≤ (nq1 : Int) ∧ tp_fit fq1 := hw
  have hP : va_P (tp_D E) tp_cl ((aB, .inr (6, [.ref eq1, .int 0, .int xm, .int 0])) :: (eq1, .inl (tp_ty E 3, nq1, .inl fq1)) :: fr) H := hP
  have hD : va_D A ((aB, .inr (6, [.ref eq1, .int 0, .int xm, .int 0])) :: (eq1, .inl (tp_ty E 3, nq1, .inl fq1)) :: fr) := hD
  refine lv_aload_n hx hb d_AS_append_2_24 rfl (lv_at hl 1 rfl) ?_
  refine lv_aload_n hx hb d_AS_append_2_25 rfl (lv_at hl 1 rfl) ?_
  refine va_get (D := tp_D E) (ci := 6) (v := .int 0) (C := qR_SB) (T := qF_SB) (N := 4) hx hb htg qi_SB hown hK.1 hP 0 rfl rfl 3 (by decide) (htg _ kl_AS_79) (fun _ h => h) rfl d_AS_append_2_26 ?_
  refine lv_aload_n hx hb d_AS_append_2_29 rfl (lv_at hl 2 rfl) ?_
  refine tp_cv (tp_rV (As := [.int 0, .ref (tp_ad E (200 + i))]) (rest := []) ⟨hx, hb, hml, hown, htg⟩ (a_AS_putStringAt l E fr _ aB eq1 xm 0 nq1 fq1 i hi hnq1 hfq1) (⟨callB_of 2 htg (tp_good0 kc_AS_putStringAt) rfl rfl rfl (htg _ ki_AS) (htg _ kl_AS_208) ⟨by decide, by decide, by decide +kernel⟩ ⟨Nat.le_of_ble_eq_true rfl, Nat.le_of_ble_eq_true rfl⟩, htg _ km_AS_putStringAt, htg _ kv_SB_AS_putStringAt⟩) (va_recv (ci := 6) (q0 := 0) hK.1 hP rfl rfl) hK hP hD hS hA rfl hl.1 rfl (Nat.le_of_ble_eq_true rfl) d_AS_append_2_30 ⟨Nat.le_of_ble_eq_true rfl, Nat.le_of_ble_eq_true rfl⟩) hD hS hA (fun u H locs hw hP hD hS => ?_)
  have hfq2 : tp_fit u := hw
  generalize u = sq2 at hP hD hfq2
  have hP : va_P (tp_D E) tp_cl ((aB, .inr (6, [.ref eq1, .int 0, .int xm, .int 0])) :: (eq1, .inl (tp_ty E 3, nq1, .inl sq2)) :: fr) H := hP
  have hD : va_D A ((aB, .inr (6, [.ref eq1, .int 0, .int xm, .int 0])) :: (eq1, .inl (tp_ty E 3, nq1, .inl sq2)) :: fr) := hD
  refine lv_aload_n hx hb d_AS_append_2_33 rfl (lv_at hl 1 rfl) ?_
  refine lv_dup hx hb d_AS_append_2_34 rfl ?_
  refine va_get (D := tp_D E) (ci := 6) (v := .int 0) (C := qR_SB) (T := qF_SB) (N := 4) hx hb htg qi_SB hown hK.1 hP 0 rfl rfl 3 (by decide) (htg _ kl_AS_79) (fun _ h => h) rfl d_AS_append_2_35 ?_
  refine lv_iload_n hx hb d_AS_append_2_38 rfl (lv_at hl 0 rfl) ?_
  refine lv_iadd hx hb d_AS_append_2_39 ?_
  refine va_put (D := tp_D E) (ci := 6) (v := .int (0 + (Int32.ofNat (tp_len.getD i 0)))) (ty := .int) (C := qR_SB) (T := qF_SB) (N := 4) hx hb htg qi_SB qt_SB qt_SB_ok qn_SB hown hK.1 hP hD hS 0 rfl rfl 3 (by decide) (htg _ kl_AS_79) (fun _ h => h) rfl (by decide +kernel) rfl rfl (Nat.le_of_ble_eq_true rfl) d_AS_append_2_40 (fun H locs hP hD hS => ?_)
  have hP : va_P (tp_D E) tp_cl ((aB, .inr (6, [.ref eq1, .int 0, .int xm, .int (0 + (Int32.ofNat (tp_len.getD i 0)))])) :: (eq1, .inl (tp_ty E 3, nq1, .inl sq2)) :: fr) H := hP
  have hD : va_D A ((aB, .inr (6, [.ref eq1, .int 0, .int xm, .int (0 + (Int32.ofNat (tp_len.getD i 0)))])) :: (eq1, .inl (tp_ty E 3, nq1, .inl sq2)) :: fr) := hD
  refine lv_aload_n hx hb d_AS_append_2_43 rfl (lv_at hl 1 rfl) ?_
  exact W.aret (v := .ref aB) hx hb hr (Or.inl ⟨_, rfl⟩) (Or.inr ⟨_, rfl⟩) (fun t ht hW => ⟨⟨(eq1, nq1, sq2, (0 + (Int32.ofNat (tp_len.getD i 0)))), _, rfl, ⟨hnq1, hfq2, tp_l0i hi, hmq1⟩, rfl, by rw [ht]; exact hP, hD⟩, hS.F ht⟩) hS.2.2 d_AS_append_2_44
set_option maxHeartbeats 4000000 in
set_option maxRecDepth 100000 in
theorem a_SB_appS (l : Launch) (E : tp_Env) (fr : va_W) (sz : Nat) (aB ab : Nat) (xm : Int32) (nb : Nat) (fb : Nat → Int32) (i : Nat) (hi : i < 97) (hn : nb = 16 ∨ nb = 34) (hf : tp_fit fb)  : Met l y_SB_append_2 w_SB_append_2 ({ frames := 5, cells := 1, slots := 34, locals := 167 }) (va_Pc [.ref aB, .ref (tp_ad E (200 + i))] (tp_in E ((aB, .inr (6, [.ref ab, .int 0, .int xm, .int 0])) :: (ab, .inl (tp_ty E 3, nb, .inl fb)) :: fr) sz)) (va_Qr (fun (u : Nat × Nat × (Nat → Int32) × Int32) => (u.2.1 = 16 ∨ u.2.1 = 34) ∧ tp_fit u.2.2.1 ∧ u.2.2.2.toInt = ((tp_len.getD i 0 : Nat) : Int) ∧ u.2.2.2.toInt ≤ (u.2.1 : Int)) (fun u q t => q = (fun (_ : Nat × Nat × (Nat → Int32) × Int32) => aB) u ∧ tp_out E (va_A ((aB, .inr (6, [.ref ab, .int 0, .int xm, .int 0])) :: (ab, .inl (tp_ty E 3, nb, .inl fb)) :: fr) sz) ((aB, .inr (6, [.ref u.1, .int 0, .int xm, .int u.2.2.2])) :: (u.1, .inl (tp_ty E 3, u.2.1, .inl u.2.2.1)) :: fr) t) (va_A ((aB, .inr (6, [.ref ab, .int 0, .int xm, .int 0])) :: (ab, .inl (tp_ty E 3, nb, .inl fb)) :: fr) sz)) 1 34 (va_A ((aB, .inr (6, [.ref ab, .int 0, .int xm, .int 0])) :: (ab, .inl (tp_ty E 3, nb, .inl fb)) :: fr) sz) := by
  refine Met.ofW (cc := b_SB_append_2) (maxL := 2) (ret := (some (.object "java/lang/StringBuilder"))) (by decide) rfl ?_
  intro p e s m args below meth c s₁ B hml hv
  obtain ⟨rfl, hsz, hP, hK, hD0⟩ := hv
  have hx := B.exec
  have hb := B.bytes
  have hr := B.returns
  have htg : ∀ w ∈ tp_G, w.before ([.ref aB, .ref (tp_ad E (200 + i))] : List Value).toArray s = true := fun w h => atoms_spec (ws := w_SB_append_2) B.pre w (List.mem_cons_of_mem _ h)
  have hown : s.vm.findClass "java/lang/StringBuilder" = some m.cls := findClass_of_methodNamed B.named
  have hlocks := B.notSynchronized
  subst hsz
  have hD := hD0.self (sz := s.heap.size)
  generalize hAe : va_A ((aB, .inr (6, [.ref ab, .int 0, .int xm, .int 0])) :: (ab, .inl (tp_ty E 3, nb, .inl fb)) :: fr) s.heap.size = A at hD hK ⊢
  have hA : ∀ q : Nat, s.heap.size ≤ q → A q := fun q h => by rw [← hAe]; exact Or.inr h
  have hS : va_S A s.heap s.heap [] := va_S.rf
  have hl := lv_entry ([.ref aB, .ref (tp_ad E (200 + i))]) (n := 2) (Nat.le_of_ble_eq_true rfl)
  rw [lg_entry_eq]
  generalize (lg_sl ([.ref aB, .ref (tp_ad E (200 + i))]) ++ List.replicate (2 - (lg_sl ([.ref aB, .ref (tp_ad E (200 + i))])).length) Slot.unset).toArray = ls at hl ⊢
  have hl : lv_has ls 2 [(0, .ref aB), (1, .ref (tp_ad E (200 + i)))] := hl
  refine lv_aload_n hx hb d_SB_append_2_0 rfl (lv_at hl 0 rfl) ?_
  refine lv_aload_n hx hb d_SB_append_2_1 rfl (lv_at hl 1 rfl) ?_
  refine tp_cr (tp_rU (As := [.ref (tp_ad E (200 + i))]) (rest := []) ⟨hx, hb, hml, hown, htg⟩ (a_AS_appS l E fr _ aB ab xm nb fb i hi hn hf) (tp_cwU 1 htg kc_AS_append_2 (htg _ kl_SB_29) (htg _ kq_AS_append_2) (htg _ kz_SB) (htg _ km_AS_append_2) (htg _ ki_AS) ⟨by decide, by decide +kernel⟩ ⟨Nat.le_of_ble_eq_true rfl, Nat.le_of_ble_eq_true rfl⟩) (va_recv (ci := 6) (q0 := 0) hK.1 hP rfl rfl) (hK.1.1 6 _ rfl).2 hK hP hD hS hA rfl hl.1 rfl (Nat.le_of_ble_eq_true rfl) d_SB_append_2_2 ⟨Nat.le_of_ble_eq_true rfl, Nat.le_of_ble_eq_true rfl⟩) hD hS hA (fun u H locs hw hP hD hS => ?_)
  obtain ⟨eq1, nq1, fq1, cq1⟩ := u
  obtain ⟨hnq1, hfq1, hcq1, hqq1⟩ : (nq1 = 16 ∨ nq1 = 34) ∧ tp_fit fq1 ∧ cq1.toInt = ((tp_len.getD i 0 : Nat) : Int) ∧ cq1.toInt ≤ (nq1 : Int) := hw
  have hP : va_P (tp_D E) tp_cl ((aB, .inr (6, [.ref eq1, .int 0, .int xm, .int cq1])) :: (eq1, .inl (tp_ty E 3, nq1, .inl fq1)) :: fr) H := hP
  have hD : va_D A ((aB, .inr (6, [.ref eq1, .int 0, .int xm, .int cq1])) :: (eq1, .inl (tp_ty E 3, nq1, .inl fq1)) :: fr) := hD
  refine lv_pop hx hb d_SB_append_2_5 rfl ?_
  refine lv_aload_n hx hb d_SB_append_2_6 rfl (lv_at hl 0 rfl) ?_
  exact W.aret (v := .ref aB) hx hb hr (Or.inl ⟨_, rfl⟩) (Or.inr ⟨_, rfl⟩) (fun t ht hW => ⟨⟨(eq1, nq1, fq1, cq1), _, rfl, ⟨hnq1, hfq1, hcq1, hqq1⟩, rfl, by rw [ht]; exact hP, hD⟩, hS.F ht⟩) hS.2.2 d_SB_append_2_7
set_option maxHeartbeats 4000000 in
set_option maxRecDepth 100000 in
theorem a_C_fixedBits (l : Launch) (E : tp_Env) (fr : va_W) (sz : Nat) (xl : Int32)  : Met l y_C_fixedBits w_C_fixedBits ({ frames := 0, cells := 0, slots := 0, locals := 0 }) (va_Pc [.int xl] (tp_in E fr sz)) (va_Qi (fun r (_ : Unit) => r = tp_fix xl) (fun _ t => tp_out E (va_A fr sz) fr t) (va_A fr sz)) 0 0 (va_A fr sz) := by
  refine Met.ofW (cc := b_C_fixedBits) (maxL := 1) (ret := (some .int)) (by decide) rfl ?_
  intro p e s m args below meth c s₁ B hml hv
  obtain ⟨rfl, hsz, hP, hK, hD0⟩ := hv
  have hx := B.exec
  have hb := B.bytes
  have hr := B.returns
  have htg : ∀ w ∈ tp_G, w.before ([.int xl] : List Value).toArray s = true := fun w h => atoms_spec (ws := w_C_fixedBits) B.pre w (List.mem_cons_of_mem _ h)
  have hown : s.vm.findClass "TwoPass$Code" = some m.cls := findClass_of_methodNamed B.named
  have hlocks := B.notSynchronized
  subst hsz
  have hD := hD0.self (sz := s.heap.size)
  generalize hAe : va_A fr s.heap.size = A at hD hK ⊢
  have hA : ∀ q : Nat, s.heap.size ≤ q → A q := fun q h => by rw [← hAe]; exact Or.inr h
  have hS : va_S A s.heap s.heap [] := va_S.rf
  have hl := lv_entry ([.int xl]) (n := 1) (Nat.le_of_ble_eq_true rfl)
  rw [lg_entry_eq]
  generalize (lg_sl ([.int xl]) ++ List.replicate (1 - (lg_sl ([.int xl])).length) Slot.unset).toArray = ls at hl ⊢
  have hl : lv_has ls 1 [(0, .int xl)] := hl
  refine lv_iload_n hx hb d_C_fixedBits_0 rfl (lv_at hl 0 rfl) ?_
  by_cases h1 : xl = 1
  · refine lv_tableIn (off := 43) (tgt := 44) hx hb d_C_fixedBits_1 (by rw [h1]; decide) (by rw [h1]; decide) (by rw [h1]; decide) (by decide) ?_
    refine lv_ldc (v := (-33525633)) hx hb hown (htg _ kl_C_40) d_C_fixedBits_44 ?_
    exact W.iret (v := (-33525633)) hx hb hr (fun t ht hW => ⟨⟨_, (), rfl, (by unfold tp_fix; rw [if_pos h1]), by rw [ht]; exact hP, hD⟩, hS.F ht⟩) hS.2.2 d_C_fixedBits_46
  · by_cases h2 : xl = 2
    · refine lv_tableIn (off := 49) (tgt := 50) hx hb d_C_fixedBits_1 (by rw [h2]; decide) (by rw [h2]; decide) (by rw [h2]; decide) (by decide) ?_
      refine lv_sipush (v := 28799) hx hb d_C_fixedBits_50 (by decide) ?_
      exact W.iret (v := 28799) hx hb hr (fun t ht hW => ⟨⟨_, (), rfl, (by unfold tp_fix; rw [if_neg h1, if_pos h2]), by rw [ht]; exact hP, hD⟩, hS.F ht⟩) hS.2.2 d_C_fixedBits_53
    · by_cases h3 : xl = 3
      · refine lv_tableIn (off := 46) (tgt := 47) hx hb d_C_fixedBits_1 (by rw [h3]; decide) (by rw [h3]; decide) (by rw [h3]; decide) (by decide) ?_
        refine lv_ldc (v := (-67080065)) hx hb hown (htg _ kl_C_41) d_C_fixedBits_47 ?_
        exact W.iret (v := (-67080065)) hx hb hr (fun t ht hW => ⟨⟨_, (), rfl, (by unfold tp_fix; rw [if_neg h1, if_neg h2, if_pos h3]), by rw [ht]; exact hP, hD⟩, hS.F ht⟩) hS.2.2 d_C_fixedBits_49
      · by_cases h4 : xl = 4
        · refine lv_tableIn (off := 53) (tgt := 54) hx hb d_C_fixedBits_1 (by rw [h4]; decide) (by rw [h4]; decide) (by rw [h4]; decide) (by decide) ?_
          refine lv_bipush (v := 127) hx hb d_C_fixedBits_54 (by decide) ?_
          exact W.iret (v := 127) hx hb hr (fun t ht hW => ⟨⟨_, (), rfl, (by unfold tp_fix; rw [if_neg h1, if_neg h2, if_neg h3, if_pos h4]), by rw [ht]; exact hP, hD⟩, hS.F ht⟩) hS.2.2 d_C_fixedBits_56
        · by_cases h5 : xl = 5
          · refine lv_tableIn (off := 49) (tgt := 50) hx hb d_C_fixedBits_1 (by rw [h5]; decide) (by rw [h5]; decide) (by rw [h5]; decide) (by decide) ?_
            refine lv_sipush (v := 28799) hx hb d_C_fixedBits_50 (by decide) ?_
            exact W.iret (v := 28799) hx hb hr (fun t ht hW => ⟨⟨_, (), rfl, (by unfold tp_fix; rw [if_neg h1, if_neg h2, if_neg h3, if_neg h4, if_pos h5]), by rw [ht]; exact hP, hD⟩, hS.F ht⟩) hS.2.2 d_C_fixedBits_53
          · by_cases h6 : xl = 6
            · refine lv_tableIn (off := 49) (tgt := 50) hx hb d_C_fixedBits_1 (by rw [h6]; decide) (by rw [h6]; decide) (by rw [h6]; decide) (by decide) ?_
              refine lv_sipush (v := 28799) hx hb d_C_fixedBits_50 (by decide) ?_
              exact W.iret (v := 28799) hx hb hr (fun t ht hW => ⟨⟨_, (), rfl, (by unfold tp_fix; rw [if_neg h1, if_neg h2, if_neg h3, if_neg h4, if_neg h5, if_pos h6]), by rw [ht]; exact hP, hD⟩, hS.F ht⟩) hS.2.2 d_C_fixedBits_53
            · by_cases h7 : xl = 7
              · refine lv_tableIn (off := 53) (tgt := 54) hx hb d_C_fixedBits_1 (by rw [h7]; decide) (by rw [h7]; decide) (by rw [h7]; decide) (by decide) ?_
                refine lv_bipush (v := 127) hx hb d_C_fixedBits_54 (by decide) ?_
                exact W.iret (v := 127) hx hb hr (fun t ht hW => ⟨⟨_, (), rfl, (by unfold tp_fix; rw [if_neg h1, if_neg h2, if_neg h3, if_neg h4, if_neg h5, if_neg h6, if_pos h7]), by rw [ht]; exact hP, hD⟩, hS.F ht⟩) hS.2.2 d_C_fixedBits_56
              · refine lv_tableOut (tgt := 57) hx hb d_C_fixedBits_1 (by have g11 := tp_neI (v := 1) (n := 1) rfl h1; have g12 := tp_neI (v := 2) (n := 2) rfl h2; have g13 := tp_neI (v := 3) (n := 3) rfl h3; have g14 := tp_neI (v := 4) (n := 4) rfl h4; have g15 := tp_neI (v := 5) (n := 5) rfl h5; have g16 := tp_neI (v := 6) (n := 6) rfl h6; have g17 := tp_neI (v := 7) (n := 7) rfl h7; omega) (by decide) ?_
                refine lv_iconst (v := 0) hx hb d_C_fixedBits_57 (by decide) ?_
                exact W.iret (v := 0) hx hb hr (fun t ht hW => ⟨⟨_, (), rfl, (by unfold tp_fix; rw [if_neg h1, if_neg h2, if_neg h3, if_neg h4, if_neg h5, if_neg h6, if_neg h7]), by rw [ht]; exact hP, hD⟩, hS.F ht⟩) hS.2.2 d_C_fixedBits_58
set_option maxHeartbeats 400000 in
set_option maxRecDepth 100000 in
theorem cs_C_bits_1 (l : Launch) (E : tp_Env) (fr : va_W) (sz : Nat) (x1 : Int32)  : Met l y_C_bits w_C_bits ({ frames := 0, cells := 0, slots := 0, locals := 0 }) (va_Pc [.int x1, .int 20, .int 6] (tp_in E fr sz)) (va_Qi (fun r (_ : Unit) => r = ((x1.toUInt32 >>> (Int32.toUInt32 20 &&& Int32.toUInt32 31)).toInt32 &&& 63)) (fun _ t => tp_out E (va_A fr sz) fr t) (va_A fr sz)) 0 0 (va_A fr sz) := by
  refine Met.ofW (cc := b_C_bits) (maxL := 3) (ret := (some .int)) (by decide) rfl ?_
  intro p e s m args below meth c s₁ B hml hv
  obtain ⟨rfl, hsz, hP, hK, hD0⟩ := hv
  have hx := B.exec
  have hb := B.bytes
  have hr := B.returns
  have htg : ∀ w ∈ tp_G, w.before ([.int x1, .int 20, .int 6] : List Value).toArray s = true := fun w h => atoms_spec (ws := w_C_bits) B.pre w (List.mem_cons_of_mem _ h)
  have hown : s.vm.findClass "TwoPass$Code" = some m.cls := findClass_of_methodNamed B.named
  have hlocks := B.notSynchronized
  subst hsz
  have hD := hD0.self (sz := s.heap.size)
  generalize hAe : va_A fr s.heap.size = A at hD hK ⊢
  have hA : ∀ q : Nat, s.heap.size ≤ q → A q := fun q h => by rw [← hAe]; exact Or.inr h
  have hS : va_S A s.heap s.heap [] := va_S.rf
  have hl := lv_entry ([.int x1, .int 20, .int 6]) (n := 3) (Nat.le_of_ble_eq_true rfl)
  rw [lg_entry_eq]
  generalize (lg_sl ([.int x1, .int 20, .int 6]) ++ List.replicate (3 - (lg_sl ([.int x1, .int 20, .int 6])).length) Slot.unset).toArray = ls at hl ⊢
  have hl : lv_has ls 3 [(0, .int x1), (1, .int 20), (2, .int 6)] := hl
  refine lv_iload_n hx hb d_C_bits_0 rfl (lv_at hl 0 rfl) ?_
  refine lv_iload_n hx hb d_C_bits_1 rfl (lv_at hl 1 rfl) ?_
  refine lv_iushr (v := (x1.toUInt32 >>> (Int32.toUInt32 20 &&& Int32.toUInt32 31)).toInt32) hx hb d_C_bits_2 rfl ?_
  refine lv_iconst (v := 1) hx hb d_C_bits_3 (by decide) ?_
  refine lv_iload_n hx hb d_C_bits_4 rfl (lv_at hl 2 rfl) ?_
  refine lv_ishl hx hb d_C_bits_5 ?_
  refine tp_topi (v := 64) (by decide) ?_
  refine lv_iconst (v := 1) hx hb d_C_bits_6 (by decide) ?_
  refine lv_isub hx hb d_C_bits_7 ?_
  refine tp_topi (v := 63) (by decide) ?_
  refine lv_iand hx hb d_C_bits_8 ?_
  exact W.iret (v := ((x1.toUInt32 >>> (Int32.toUInt32 20 &&& Int32.toUInt32 31)).toInt32 &&& 63)) hx hb hr (fun t ht hW => ⟨⟨_, (), rfl, rfl, by rw [ht]; exact hP, hD⟩, hS.F ht⟩) hS.2.2 d_C_bits_9
set_option maxHeartbeats 400000 in
set_option maxRecDepth 100000 in
theorem cs_C_bits_2 (l : Launch) (E : tp_Env) (fr : va_W) (sz : Nat) (x1 : Int32)  : Met l y_C_bits w_C_bits ({ frames := 0, cells := 0, slots := 0, locals := 0 }) (va_Pc [.int x1, .int 7, .int 5] (tp_in E fr sz)) (va_Qi (fun r (_ : Unit) => r = ((x1.toUInt32 >>> (Int32.toUInt32 7 &&& Int32.toUInt32 31)).toInt32 &&& 31)) (fun _ t => tp_out E (va_A fr sz) fr t) (va_A fr sz)) 0 0 (va_A fr sz) := by
  refine Met.ofW (cc := b_C_bits) (maxL := 3) (ret := (some .int)) (by decide) rfl ?_
  intro p e s m args below meth c s₁ B hml hv
  obtain ⟨rfl, hsz, hP, hK, hD0⟩ := hv
  have hx := B.exec
  have hb := B.bytes
  have hr := B.returns
  have htg : ∀ w ∈ tp_G, w.before ([.int x1, .int 7, .int 5] : List Value).toArray s = true := fun w h => atoms_spec (ws := w_C_bits) B.pre w (List.mem_cons_of_mem _ h)
  have hown : s.vm.findClass "TwoPass$Code" = some m.cls := findClass_of_methodNamed B.named
  have hlocks := B.notSynchronized
  subst hsz
  have hD := hD0.self (sz := s.heap.size)
  generalize hAe : va_A fr s.heap.size = A at hD hK ⊢
  have hA : ∀ q : Nat, s.heap.size ≤ q → A q := fun q h => by rw [← hAe]; exact Or.inr h
  have hS : va_S A s.heap s.heap [] := va_S.rf
  have hl := lv_entry ([.int x1, .int 7, .int 5]) (n := 3) (Nat.le_of_ble_eq_true rfl)
  rw [lg_entry_eq]
  generalize (lg_sl ([.int x1, .int 7, .int 5]) ++ List.replicate (3 - (lg_sl ([.int x1, .int 7, .int 5])).length) Slot.unset).toArray = ls at hl ⊢
  have hl : lv_has ls 3 [(0, .int x1), (1, .int 7), (2, .int 5)] := hl
  refine lv_iload_n hx hb d_C_bits_0 rfl (lv_at hl 0 rfl) ?_
  refine lv_iload_n hx hb d_C_bits_1 rfl (lv_at hl 1 rfl) ?_
  refine lv_iushr (v := (x1.toUInt32 >>> (Int32.toUInt32 7 &&& Int32.toUInt32 31)).toInt32) hx hb d_C_bits_2 rfl ?_
  refine lv_iconst (v := 1) hx hb d_C_bits_3 (by decide) ?_
  refine lv_iload_n hx hb d_C_bits_4 rfl (lv_at hl 2 rfl) ?_
  refine lv_ishl hx hb d_C_bits_5 ?_
  refine tp_topi (v := 32) (by decide) ?_
  refine lv_iconst (v := 1) hx hb d_C_bits_6 (by decide) ?_
  refine lv_isub hx hb d_C_bits_7 ?_
  refine tp_topi (v := 31) (by decide) ?_
  refine lv_iand hx hb d_C_bits_8 ?_
  exact W.iret (v := ((x1.toUInt32 >>> (Int32.toUInt32 7 &&& Int32.toUInt32 31)).toInt32 &&& 31)) hx hb hr (fun t ht hW => ⟨⟨_, (), rfl, rfl, by rw [ht]; exact hP, hD⟩, hS.F ht⟩) hS.2.2 d_C_bits_9
set_option maxHeartbeats 400000 in
set_option maxRecDepth 100000 in
theorem cs_C_bits_3 (l : Launch) (E : tp_Env) (fr : va_W) (sz : Nat) (x1 : Int32)  : Met l y_C_bits w_C_bits ({ frames := 0, cells := 0, slots := 0, locals := 0 }) (va_Pc [.int x1, .int 8, .int 4] (tp_in E fr sz)) (va_Qi (fun r (_ : Unit) => r = ((x1.toUInt32 >>> (Int32.toUInt32 8 &&& Int32.toUInt32 31)).toInt32 &&& 15)) (fun _ t => tp_out E (va_A fr sz) fr t) (va_A fr sz)) 0 0 (va_A fr sz) := by
  refine Met.ofW (cc := b_C_bits) (maxL := 3) (ret := (some .int)) (by decide) rfl ?_
  intro p e s m args below meth c s₁ B hml hv
  obtain ⟨rfl, hsz, hP, hK, hD0⟩ := hv
  have hx := B.exec
  have hb := B.bytes
  have hr := B.returns
  have htg : ∀ w ∈ tp_G, w.before ([.int x1, .int 8, .int 4] : List Value).toArray s = true := fun w h => atoms_spec (ws := w_C_bits) B.pre w (List.mem_cons_of_mem _ h)
  have hown : s.vm.findClass "TwoPass$Code" = some m.cls := findClass_of_methodNamed B.named
  have hlocks := B.notSynchronized
  subst hsz
  have hD := hD0.self (sz := s.heap.size)
  generalize hAe : va_A fr s.heap.size = A at hD hK ⊢
  have hA : ∀ q : Nat, s.heap.size ≤ q → A q := fun q h => by rw [← hAe]; exact Or.inr h
  have hS : va_S A s.heap s.heap [] := va_S.rf
  have hl := lv_entry ([.int x1, .int 8, .int 4]) (n := 3) (Nat.le_of_ble_eq_true rfl)
  rw [lg_entry_eq]
  generalize (lg_sl ([.int x1, .int 8, .int 4]) ++ List.replicate (3 - (lg_sl ([.int x1, .int 8, .int 4])).length) Slot.unset).toArray = ls at hl ⊢
  have hl : lv_has ls 3 [(0, .int x1), (1, .int 8), (2, .int 4)] := hl
  refine lv_iload_n hx hb d_C_bits_0 rfl (lv_at hl 0 rfl) ?_
  refine lv_iload_n hx hb d_C_bits_1 rfl (lv_at hl 1 rfl) ?_
  refine lv_iushr (v := (x1.toUInt32 >>> (Int32.toUInt32 8 &&& Int32.toUInt32 31)).toInt32) hx hb d_C_bits_2 rfl ?_
  refine lv_iconst (v := 1) hx hb d_C_bits_3 (by decide) ?_
  refine lv_iload_n hx hb d_C_bits_4 rfl (lv_at hl 2 rfl) ?_
  refine lv_ishl hx hb d_C_bits_5 ?_
  refine tp_topi (v := 16) (by decide) ?_
  refine lv_iconst (v := 1) hx hb d_C_bits_6 (by decide) ?_
  refine lv_isub hx hb d_C_bits_7 ?_
  refine tp_topi (v := 15) (by decide) ?_
  refine lv_iand hx hb d_C_bits_8 ?_
  exact W.iret (v := ((x1.toUInt32 >>> (Int32.toUInt32 8 &&& Int32.toUInt32 31)).toInt32 &&& 15)) hx hb hr (fun t ht hW => ⟨⟨_, (), rfl, rfl, by rw [ht]; exact hP, hD⟩, hS.F ht⟩) hS.2.2 d_C_bits_9
set_option maxHeartbeats 400000 in
set_option maxRecDepth 100000 in
theorem cs_C_bits_4 (l : Launch) (E : tp_Env) (fr : va_W) (sz : Nat) (x1 : Int32)  : Met l y_C_bits w_C_bits ({ frames := 0, cells := 0, slots := 0, locals := 0 }) (va_Pc [.int x1, .int 25, .int 6] (tp_in E fr sz)) (va_Qi (fun r (_ : Unit) => r = ((x1.toUInt32 >>> (Int32.toUInt32 25 &&& Int32.toUInt32 31)).toInt32 &&& 63)) (fun _ t => tp_out E (va_A fr sz) fr t) (va_A fr sz)) 0 0 (va_A fr sz) := by
  refine Met.ofW (cc := b_C_bits) (maxL := 3) (ret := (some .int)) (by decide) rfl ?_
  intro p e s m args below meth c s₁ B hml hv
  obtain ⟨rfl, hsz, hP, hK, hD0⟩ := hv
  have hx := B.exec
  have hb := B.bytes
  have hr := B.returns
  have htg : ∀ w ∈ tp_G, w.before ([.int x1, .int 25, .int 6] : List Value).toArray s = true := fun w h => atoms_spec (ws := w_C_bits) B.pre w (List.mem_cons_of_mem _ h)
  have hown : s.vm.findClass "TwoPass$Code" = some m.cls := findClass_of_methodNamed B.named
  have hlocks := B.notSynchronized
  subst hsz
  have hD := hD0.self (sz := s.heap.size)
  generalize hAe : va_A fr s.heap.size = A at hD hK ⊢
  have hA : ∀ q : Nat, s.heap.size ≤ q → A q := fun q h => by rw [← hAe]; exact Or.inr h
  have hS : va_S A s.heap s.heap [] := va_S.rf
  have hl := lv_entry ([.int x1, .int 25, .int 6]) (n := 3) (Nat.le_of_ble_eq_true rfl)
  rw [lg_entry_eq]
  generalize (lg_sl ([.int x1, .int 25, .int 6]) ++ List.replicate (3 - (lg_sl ([.int x1, .int 25, .int 6])).length) Slot.unset).toArray = ls at hl ⊢
  have hl : lv_has ls 3 [(0, .int x1), (1, .int 25), (2, .int 6)] := hl
  refine lv_iload_n hx hb d_C_bits_0 rfl (lv_at hl 0 rfl) ?_
  refine lv_iload_n hx hb d_C_bits_1 rfl (lv_at hl 1 rfl) ?_
  refine lv_iushr (v := (x1.toUInt32 >>> (Int32.toUInt32 25 &&& Int32.toUInt32 31)).toInt32) hx hb d_C_bits_2 rfl ?_
  refine lv_iconst (v := 1) hx hb d_C_bits_3 (by decide) ?_
  refine lv_iload_n hx hb d_C_bits_4 rfl (lv_at hl 2 rfl) ?_
  refine lv_ishl hx hb d_C_bits_5 ?_
  refine tp_topi (v := 64) (by decide) ?_
  refine lv_iconst (v := 1) hx hb d_C_bits_6 (by decide) ?_
  refine lv_isub hx hb d_C_bits_7 ?_
  refine tp_topi (v := 63) (by decide) ?_
  refine lv_iand hx hb d_C_bits_8 ?_
  exact W.iret (v := ((x1.toUInt32 >>> (Int32.toUInt32 25 &&& Int32.toUInt32 31)).toInt32 &&& 63)) hx hb hr (fun t ht hW => ⟨⟨_, (), rfl, rfl, by rw [ht]; exact hP, hD⟩, hS.F ht⟩) hS.2.2 d_C_bits_9
set_option maxHeartbeats 400000 in
set_option maxRecDepth 100000 in
theorem cs_C_bits_5 (l : Launch) (E : tp_Env) (fr : va_W) (sz : Nat) (x1 : Int32)  : Met l y_C_bits w_C_bits ({ frames := 0, cells := 0, slots := 0, locals := 0 }) (va_Pc [.int x1, .int 7, .int 1] (tp_in E fr sz)) (va_Qi (fun r (_ : Unit) => r = ((x1.toUInt32 >>> (Int32.toUInt32 7 &&& Int32.toUInt32 31)).toInt32 &&& 1)) (fun _ t => tp_out E (va_A fr sz) fr t) (va_A fr sz)) 0 0 (va_A fr sz) := by
  refine Met.ofW (cc := b_C_bits) (maxL := 3) (ret := (some .int)) (by decide) rfl ?_
  intro p e s m args below meth c s₁ B hml hv
  obtain ⟨rfl, hsz, hP, hK, hD0⟩ := hv
  have hx := B.exec
  have hb := B.bytes
  have hr := B.returns
  have htg : ∀ w ∈ tp_G, w.before ([.int x1, .int 7, .int 1] : List Value).toArray s = true := fun w h => atoms_spec (ws := w_C_bits) B.pre w (List.mem_cons_of_mem _ h)
  have hown : s.vm.findClass "TwoPass$Code" = some m.cls := findClass_of_methodNamed B.named
  have hlocks := B.notSynchronized
  subst hsz
  have hD := hD0.self (sz := s.heap.size)
  generalize hAe : va_A fr s.heap.size = A at hD hK ⊢
  have hA : ∀ q : Nat, s.heap.size ≤ q → A q := fun q h => by rw [← hAe]; exact Or.inr h
  have hS : va_S A s.heap s.heap [] := va_S.rf
  have hl := lv_entry ([.int x1, .int 7, .int 1]) (n := 3) (Nat.le_of_ble_eq_true rfl)
  rw [lg_entry_eq]
  generalize (lg_sl ([.int x1, .int 7, .int 1]) ++ List.replicate (3 - (lg_sl ([.int x1, .int 7, .int 1])).length) Slot.unset).toArray = ls at hl ⊢
  have hl : lv_has ls 3 [(0, .int x1), (1, .int 7), (2, .int 1)] := hl
  refine lv_iload_n hx hb d_C_bits_0 rfl (lv_at hl 0 rfl) ?_
  refine lv_iload_n hx hb d_C_bits_1 rfl (lv_at hl 1 rfl) ?_
  refine lv_iushr (v := (x1.toUInt32 >>> (Int32.toUInt32 7 &&& Int32.toUInt32 31)).toInt32) hx hb d_C_bits_2 rfl ?_
  refine lv_iconst (v := 1) hx hb d_C_bits_3 (by decide) ?_
  refine lv_iload_n hx hb d_C_bits_4 rfl (lv_at hl 2 rfl) ?_
  refine lv_ishl hx hb d_C_bits_5 ?_
  refine tp_topi (v := 2) (by decide) ?_
  refine lv_iconst (v := 1) hx hb d_C_bits_6 (by decide) ?_
  refine lv_isub hx hb d_C_bits_7 ?_
  refine tp_topi (v := 1) (by decide) ?_
  refine lv_iand hx hb d_C_bits_8 ?_
  exact W.iret (v := ((x1.toUInt32 >>> (Int32.toUInt32 7 &&& Int32.toUInt32 31)).toInt32 &&& 1)) hx hb hr (fun t ht hW => ⟨⟨_, (), rfl, rfl, by rw [ht]; exact hP, hD⟩, hS.F ht⟩) hS.2.2 d_C_bits_9
set_option maxHeartbeats 400000 in
set_option maxRecDepth 100000 in
theorem cs_C_bits_6 (l : Launch) (E : tp_Env) (fr : va_W) (sz : Nat) (x1 : Int32)  : Met l y_C_bits w_C_bits ({ frames := 0, cells := 0, slots := 0, locals := 0 }) (va_Pc [.int x1, .int 21, .int 10] (tp_in E fr sz)) (va_Qi (fun r (_ : Unit) => r = ((x1.toUInt32 >>> (Int32.toUInt32 21 &&& Int32.toUInt32 31)).toInt32 &&& 1023)) (fun _ t => tp_out E (va_A fr sz) fr t) (va_A fr sz)) 0 0 (va_A fr sz) := by
  refine Met.ofW (cc := b_C_bits) (maxL := 3) (ret := (some .int)) (by decide) rfl ?_
  intro p e s m args below meth c s₁ B hml hv
  obtain ⟨rfl, hsz, hP, hK, hD0⟩ := hv
  have hx := B.exec
  have hb := B.bytes
  have hr := B.returns
  have htg : ∀ w ∈ tp_G, w.before ([.int x1, .int 21, .int 10] : List Value).toArray s = true := fun w h => atoms_spec (ws := w_C_bits) B.pre w (List.mem_cons_of_mem _ h)
  have hown : s.vm.findClass "TwoPass$Code" = some m.cls := findClass_of_methodNamed B.named
  have hlocks := B.notSynchronized
  subst hsz
  have hD := hD0.self (sz := s.heap.size)
  generalize hAe : va_A fr s.heap.size = A at hD hK ⊢
  have hA : ∀ q : Nat, s.heap.size ≤ q → A q := fun q h => by rw [← hAe]; exact Or.inr h
  have hS : va_S A s.heap s.heap [] := va_S.rf
  have hl := lv_entry ([.int x1, .int 21, .int 10]) (n := 3) (Nat.le_of_ble_eq_true rfl)
  rw [lg_entry_eq]
  generalize (lg_sl ([.int x1, .int 21, .int 10]) ++ List.replicate (3 - (lg_sl ([.int x1, .int 21, .int 10])).length) Slot.unset).toArray = ls at hl ⊢
  have hl : lv_has ls 3 [(0, .int x1), (1, .int 21), (2, .int 10)] := hl
  refine lv_iload_n hx hb d_C_bits_0 rfl (lv_at hl 0 rfl) ?_
  refine lv_iload_n hx hb d_C_bits_1 rfl (lv_at hl 1 rfl) ?_
  refine lv_iushr (v := (x1.toUInt32 >>> (Int32.toUInt32 21 &&& Int32.toUInt32 31)).toInt32) hx hb d_C_bits_2 rfl ?_
  refine lv_iconst (v := 1) hx hb d_C_bits_3 (by decide) ?_
  refine lv_iload_n hx hb d_C_bits_4 rfl (lv_at hl 2 rfl) ?_
  refine lv_ishl hx hb d_C_bits_5 ?_
  refine tp_topi (v := 1024) (by decide) ?_
  refine lv_iconst (v := 1) hx hb d_C_bits_6 (by decide) ?_
  refine lv_isub hx hb d_C_bits_7 ?_
  refine tp_topi (v := 1023) (by decide) ?_
  refine lv_iand hx hb d_C_bits_8 ?_
  exact W.iret (v := ((x1.toUInt32 >>> (Int32.toUInt32 21 &&& Int32.toUInt32 31)).toInt32 &&& 1023)) hx hb hr (fun t ht hW => ⟨⟨_, (), rfl, rfl, by rw [ht]; exact hP, hD⟩, hS.F ht⟩) hS.2.2 d_C_bits_9
set_option maxHeartbeats 400000 in
set_option maxRecDepth 100000 in
theorem cs_C_bits_7 (l : Launch) (E : tp_Env) (fr : va_W) (sz : Nat) (x1 : Int32)  : Met l y_C_bits w_C_bits ({ frames := 0, cells := 0, slots := 0, locals := 0 }) (va_Pc [.int x1, .int 20, .int 1] (tp_in E fr sz)) (va_Qi (fun r (_ : Unit) => r = ((x1.toUInt32 >>> (Int32.toUInt32 20 &&& Int32.toUInt32 31)).toInt32 &&& 1)) (fun _ t => tp_out E (va_A fr sz) fr t) (va_A fr sz)) 0 0 (va_A fr sz) := by
  refine Met.ofW (cc := b_C_bits) (maxL := 3) (ret := (some .int)) (by decide) rfl ?_
  intro p e s m args below meth c s₁ B hml hv
  obtain ⟨rfl, hsz, hP, hK, hD0⟩ := hv
  have hx := B.exec
  have hb := B.bytes
  have hr := B.returns
  have htg : ∀ w ∈ tp_G, w.before ([.int x1, .int 20, .int 1] : List Value).toArray s = true := fun w h => atoms_spec (ws := w_C_bits) B.pre w (List.mem_cons_of_mem _ h)
  have hown : s.vm.findClass "TwoPass$Code" = some m.cls := findClass_of_methodNamed B.named
  have hlocks := B.notSynchronized
  subst hsz
  have hD := hD0.self (sz := s.heap.size)
  generalize hAe : va_A fr s.heap.size = A at hD hK ⊢
  have hA : ∀ q : Nat, s.heap.size ≤ q → A q := fun q h => by rw [← hAe]; exact Or.inr h
  have hS : va_S A s.heap s.heap [] := va_S.rf
  have hl := lv_entry ([.int x1, .int 20, .int 1]) (n := 3) (Nat.le_of_ble_eq_true rfl)
  rw [lg_entry_eq]
  generalize (lg_sl ([.int x1, .int 20, .int 1]) ++ List.replicate (3 - (lg_sl ([.int x1, .int 20, .int 1])).length) Slot.unset).toArray = ls at hl ⊢
  have hl : lv_has ls 3 [(0, .int x1), (1, .int 20), (2, .int 1)] := hl
  refine lv_iload_n hx hb d_C_bits_0 rfl (lv_at hl 0 rfl) ?_
  refine lv_iload_n hx hb d_C_bits_1 rfl (lv_at hl 1 rfl) ?_
  refine lv_iushr (v := (x1.toUInt32 >>> (Int32.toUInt32 20 &&& Int32.toUInt32 31)).toInt32) hx hb d_C_bits_2 rfl ?_
  refine lv_iconst (v := 1) hx hb d_C_bits_3 (by decide) ?_
  refine lv_iload_n hx hb d_C_bits_4 rfl (lv_at hl 2 rfl) ?_
  refine lv_ishl hx hb d_C_bits_5 ?_
  refine tp_topi (v := 2) (by decide) ?_
  refine lv_iconst (v := 1) hx hb d_C_bits_6 (by decide) ?_
  refine lv_isub hx hb d_C_bits_7 ?_
  refine tp_topi (v := 1) (by decide) ?_
  refine lv_iand hx hb d_C_bits_8 ?_
  exact W.iret (v := ((x1.toUInt32 >>> (Int32.toUInt32 20 &&& Int32.toUInt32 31)).toInt32 &&& 1)) hx hb hr (fun t ht hW => ⟨⟨_, (), rfl, rfl, by rw [ht]; exact hP, hD⟩, hS.F ht⟩) hS.2.2 d_C_bits_9
set_option maxHeartbeats 400000 in
set_option maxRecDepth 100000 in
theorem cs_C_bits_8 (l : Launch) (E : tp_Env) (fr : va_W) (sz : Nat) (x1 : Int32)  : Met l y_C_bits w_C_bits ({ frames := 0, cells := 0, slots := 0, locals := 0 }) (va_Pc [.int x1, .int 12, .int 8] (tp_in E fr sz)) (va_Qi (fun r (_ : Unit) => r = ((x1.toUInt32 >>> (Int32.toUInt32 12 &&& Int32.toUInt32 31)).toInt32 &&& 255)) (fun _ t => tp_out E (va_A fr sz) fr t) (va_A fr sz)) 0 0 (va_A fr sz) := by
  refine Met.ofW (cc := b_C_bits) (maxL := 3) (ret := (some .int)) (by decide) rfl ?_
  intro p e s m args below meth c s₁ B hml hv
  obtain ⟨rfl, hsz, hP, hK, hD0⟩ := hv
  have hx := B.exec
  have hb := B.bytes
  have hr := B.returns
  have htg : ∀ w ∈ tp_G, w.before ([.int x1, .int 12, .int 8] : List Value).toArray s = true := fun w h => atoms_spec (ws := w_C_bits) B.pre w (List.mem_cons_of_mem _ h)
  have hown : s.vm.findClass "TwoPass$Code" = some m.cls := findClass_of_methodNamed B.named
  have hlocks := B.notSynchronized
  subst hsz
  have hD := hD0.self (sz := s.heap.size)
  generalize hAe : va_A fr s.heap.size = A at hD hK ⊢
  have hA : ∀ q : Nat, s.heap.size ≤ q → A q := fun q h => by rw [← hAe]; exact Or.inr h
  have hS : va_S A s.heap s.heap [] := va_S.rf
  have hl := lv_entry ([.int x1, .int 12, .int 8]) (n := 3) (Nat.le_of_ble_eq_true rfl)
  rw [lg_entry_eq]
  generalize (lg_sl ([.int x1, .int 12, .int 8]) ++ List.replicate (3 - (lg_sl ([.int x1, .int 12, .int 8])).length) Slot.unset).toArray = ls at hl ⊢
  have hl : lv_has ls 3 [(0, .int x1), (1, .int 12), (2, .int 8)] := hl
  refine lv_iload_n hx hb d_C_bits_0 rfl (lv_at hl 0 rfl) ?_
  refine lv_iload_n hx hb d_C_bits_1 rfl (lv_at hl 1 rfl) ?_
  refine lv_iushr (v := (x1.toUInt32 >>> (Int32.toUInt32 12 &&& Int32.toUInt32 31)).toInt32) hx hb d_C_bits_2 rfl ?_
  refine lv_iconst (v := 1) hx hb d_C_bits_3 (by decide) ?_
  refine lv_iload_n hx hb d_C_bits_4 rfl (lv_at hl 2 rfl) ?_
  refine lv_ishl hx hb d_C_bits_5 ?_
  refine tp_topi (v := 256) (by decide) ?_
  refine lv_iconst (v := 1) hx hb d_C_bits_6 (by decide) ?_
  refine lv_isub hx hb d_C_bits_7 ?_
  refine tp_topi (v := 255) (by decide) ?_
  refine lv_iand hx hb d_C_bits_8 ?_
  exact W.iret (v := ((x1.toUInt32 >>> (Int32.toUInt32 12 &&& Int32.toUInt32 31)).toInt32 &&& 255)) hx hb hr (fun t ht hW => ⟨⟨_, (), rfl, rfl, by rw [ht]; exact hP, hD⟩, hS.F ht⟩) hS.2.2 d_C_bits_9
set_option maxHeartbeats 4000000 in
set_option maxRecDepth 100000 in
theorem a_C_numberOf (l : Launch) (E : tp_Env) (fr : va_W) (sz : Nat) (xl xw : Int32)  : Met l y_C_numberOf w_C_numberOf ({ frames := 1, cells := 0, slots := 0, locals := 22 }) (va_Pc [.int xl, .int xw] (tp_in E fr sz)) (va_Qi (fun r (_ : Unit) => r = tp_num xl xw) (fun _ t => tp_out E (va_A fr sz) fr t) (va_A fr sz)) 0 0 (va_A fr sz) := by
  refine Met.ofW (cc := b_C_numberOf) (maxL := 2) (ret := (some .int)) (by decide) rfl ?_
  intro p e s m args below meth c s₁ B hml hv
  obtain ⟨rfl, hsz, hP, hK, hD0⟩ := hv
  have hx := B.exec
  have hb := B.bytes
  have hr := B.returns
  have htg : ∀ w ∈ tp_G, w.before ([.int xl, .int xw] : List Value).toArray s = true := fun w h => atoms_spec (ws := w_C_numberOf) B.pre w (List.mem_cons_of_mem _ h)
  have hown : s.vm.findClass "TwoPass$Code" = some m.cls := findClass_of_methodNamed B.named
  have hlocks := B.notSynchronized
  subst hsz
  have hD := hD0.self (sz := s.heap.size)
  generalize hAe : va_A fr s.heap.size = A at hD hK ⊢
  have hA : ∀ q : Nat, s.heap.size ≤ q → A q := fun q h => by rw [← hAe]; exact Or.inr h
  have hS : va_S A s.heap s.heap [] := va_S.rf
  have hl := lv_entry ([.int xl, .int xw]) (n := 2) (Nat.le_of_ble_eq_true rfl)
  rw [lg_entry_eq]
  generalize (lg_sl ([.int xl, .int xw]) ++ List.replicate (2 - (lg_sl ([.int xl, .int xw])).length) Slot.unset).toArray = ls at hl ⊢
  have hl : lv_has ls 2 [(0, .int xl), (1, .int xw)] := hl
  refine lv_iload_n hx hb d_C_numberOf_0 rfl (lv_at hl 0 rfl) ?_
  by_cases h1 : xl = 2
  · refine lv_tableIn (off := 39) (tgt := 40) hx hb d_C_numberOf_1 (by rw [h1]; decide) (by rw [h1]; decide) (by rw [h1]; decide) (by decide) ?_
    refine lv_iload_n hx hb d_C_numberOf_40 rfl (lv_at hl 1 rfl) ?_
    refine lv_bipush (v := 20) hx hb d_C_numberOf_41 (by decide) ?_
    refine lv_ishr hx hb d_C_numberOf_43 ?_
    exact W.iret (v := (xw >>> (20 &&& 31 : Int32))) hx hb hr (fun t ht hW => ⟨⟨_, (), rfl, (by unfold tp_num; rw [if_pos h1]), by rw [ht]; exact hP, hD⟩, hS.F ht⟩) hS.2.2 d_C_numberOf_44
  · by_cases h2 : xl = 3
    · refine lv_tableIn (off := 44) (tgt := 45) hx hb d_C_numberOf_1 (by rw [h2]; decide) (by rw [h2]; decide) (by rw [h2]; decide) (by decide) ?_
      refine lv_iload_n hx hb d_C_numberOf_45 rfl (lv_at hl 1 rfl) ?_
      refine lv_bipush (v := 20) hx hb d_C_numberOf_46 (by decide) ?_
      refine lv_bipush (v := 6) hx hb d_C_numberOf_48 (by decide) ?_
      refine tp_ci (tp_rS (As := [.int xw, .int 20, .int 6]) (rest := []) ⟨hx, hb, hml, hown, htg⟩ (cs_C_bits_1 l E fr _ xw ) (⟨callB_of 3 htg (tp_good0 kc_C_bits) rfl rfl rfl (htg _ ki_C) (htg _ kl_C_24) ⟨by decide, by decide, by decide +kernel⟩ ⟨Nat.le_of_ble_eq_true rfl, Nat.le_of_ble_eq_true rfl⟩, htg _ ks_C_bits⟩) hK hP hD hS hA rfl hl.1 rfl (Nat.le_of_ble_eq_true rfl) d_C_numberOf_50 ⟨Nat.le_of_ble_eq_true rfl, Nat.le_of_ble_eq_true rfl⟩) hD hS hA (fun r u H locs hw hP hD hS => ?_)
      subst r
      have hP : va_P (tp_D E) tp_cl (fr) H := hP
      have hD : va_D A (fr) := hD
      exact W.iret (v := ((xw.toUInt32 >>> (Int32.toUInt32 20 &&& Int32.toUInt32 31)).toInt32 &&& 63)) hx hb hr (fun t ht hW => ⟨⟨_, (), rfl, (by unfold tp_num; rw [if_neg h1, if_pos h2]), by rw [ht]; exact hP, hD⟩, hS.F ht⟩) hS.2.2 d_C_numberOf_53
    · by_cases h3 : xl = 4
      · refine lv_tableIn (off := 53) (tgt := 54) hx hb d_C_numberOf_1 (by rw [h3]; decide) (by rw [h3]; decide) (by rw [h3]; decide) (by decide) ?_
        refine lv_iload_n hx hb d_C_numberOf_54 rfl (lv_at hl 1 rfl) ?_
        refine lv_bipush (v := 12) hx hb d_C_numberOf_55 (by decide) ?_
        refine lv_iushr (v := (xw.toUInt32 >>> (Int32.toUInt32 12 &&& Int32.toUInt32 31)).toInt32) hx hb d_C_numberOf_57 rfl ?_
        exact W.iret (v := (xw.toUInt32 >>> (Int32.toUInt32 12 &&& Int32.toUInt32 31)).toInt32) hx hb hr (fun t ht hW => ⟨⟨_, (), rfl, (by unfold tp_num; rw [if_neg h1, if_neg h2, if_pos h3]), by rw [ht]; exact hP, hD⟩, hS.F ht⟩) hS.2.2 d_C_numberOf_58
      · by_cases h4 : xl = 5
        · refine lv_tableIn (off := 58) (tgt := 59) hx hb d_C_numberOf_1 (by rw [h4]; decide) (by rw [h4]; decide) (by rw [h4]; decide) (by decide) ?_
          refine lv_iload_n hx hb d_C_numberOf_59 rfl (lv_at hl 1 rfl) ?_
          refine lv_bipush (v := 7) hx hb d_C_numberOf_60 (by decide) ?_
          refine lv_iconst (v := 5) hx hb d_C_numberOf_62 (by decide) ?_
          refine tp_ci (tp_rS (As := [.int xw, .int 7, .int 5]) (rest := []) ⟨hx, hb, hml, hown, htg⟩ (cs_C_bits_2 l E fr _ xw ) (⟨callB_of 3 htg (tp_good0 kc_C_bits) rfl rfl rfl (htg _ ki_C) (htg _ kl_C_24) ⟨by decide, by decide, by decide +kernel⟩ ⟨Nat.le_of_ble_eq_true rfl, Nat.le_of_ble_eq_true rfl⟩, htg _ ks_C_bits⟩) hK hP hD hS hA rfl hl.1 rfl (Nat.le_of_ble_eq_true rfl) d_C_numberOf_63 ⟨Nat.le_of_ble_eq_true rfl, Nat.le_of_ble_eq_true rfl⟩) hD hS hA (fun r u H locs hw hP hD hS => ?_)
          subst r
          have hP : va_P (tp_D E) tp_cl (fr) H := hP
          have hD : va_D A (fr) := hD
          refine lv_iload_n hx hb d_C_numberOf_66 rfl (lv_at hl 1 rfl) ?_
          refine lv_bipush (v := 25) hx hb d_C_numberOf_67 (by decide) ?_
          refine lv_ishr hx hb d_C_numberOf_69 ?_
          refine lv_iconst (v := 5) hx hb d_C_numberOf_70 (by decide) ?_
          refine lv_ishl hx hb d_C_numberOf_71 ?_
          refine lv_ior hx hb d_C_numberOf_72 ?_
          exact W.iret (v := (((xw.toUInt32 >>> (Int32.toUInt32 7 &&& Int32.toUInt32 31)).toInt32 &&& 31) ||| ((xw >>> (25 &&& 31 : Int32)) <<< (5 &&& 31 : Int32)))) hx hb hr (fun t ht hW => ⟨⟨_, (), rfl, (by unfold tp_num; rw [if_neg h1, if_neg h2, if_neg h3, if_pos h4]), by rw [ht]; exact hP, hD⟩, hS.F ht⟩) hS.2.2 d_C_numberOf_73
        · by_cases h5 : xl = 6
          · refine lv_tableIn (off := 73) (tgt := 74) hx hb d_C_numberOf_1 (by rw [h5]; decide) (by rw [h5]; decide) (by rw [h5]; decide) (by decide) ?_
            refine lv_iload_n hx hb d_C_numberOf_74 rfl (lv_at hl 1 rfl) ?_
            refine lv_bipush (v := 8) hx hb d_C_numberOf_75 (by decide) ?_
            refine lv_iconst (v := 4) hx hb d_C_numberOf_77 (by decide) ?_
            refine tp_ci (tp_rS (As := [.int xw, .int 8, .int 4]) (rest := []) ⟨hx, hb, hml, hown, htg⟩ (cs_C_bits_3 l E fr _ xw ) (⟨callB_of 3 htg (tp_good0 kc_C_bits) rfl rfl rfl (htg _ ki_C) (htg _ kl_C_24) ⟨by decide, by decide, by decide +kernel⟩ ⟨Nat.le_of_ble_eq_true rfl, Nat.le_of_ble_eq_true rfl⟩, htg _ ks_C_bits⟩) hK hP hD hS hA rfl hl.1 rfl (Nat.le_of_ble_eq_true rfl) d_C_numberOf_78 ⟨Nat.le_of_ble_eq_true rfl, Nat.le_of_ble_eq_true rfl⟩) hD hS hA (fun r u H locs hw hP hD hS => ?_)
            subst r
            have hP : va_P (tp_D E) tp_cl (fr) H := hP
            have hD : va_D A (fr) := hD
            refine lv_iconst (v := 1) hx hb d_C_numberOf_81 (by decide) ?_
            refine lv_ishl hx hb d_C_numberOf_82 ?_
            refine lv_iload_n hx hb d_C_numberOf_83 rfl (lv_at hl 1 rfl) ?_
            refine lv_bipush (v := 25) hx hb d_C_numberOf_84 (by decide) ?_
            refine lv_bipush (v := 6) hx hb d_C_numberOf_86 (by decide) ?_
            refine tp_ci (tp_rS (As := [.int xw, .int 25, .int 6]) (rest := [.int (((xw.toUInt32 >>> (Int32.toUInt32 8 &&& Int32.toUInt32 31)).toInt32 &&& 15) <<< (1 &&& 31 : Int32))]) ⟨hx, hb, hml, hown, htg⟩ (cs_C_bits_4 l E fr _ xw ) (⟨callB_of 3 htg (tp_good0 kc_C_bits) rfl rfl rfl (htg _ ki_C) (htg _ kl_C_24) ⟨by decide, by decide, by decide +kernel⟩ ⟨Nat.le_of_ble_eq_true rfl, Nat.le_of_ble_eq_true rfl⟩, htg _ ks_C_bits⟩) hK hP hD hS hA rfl hl.1 rfl (Nat.le_of_ble_eq_true rfl) d_C_numberOf_88 ⟨Nat.le_of_ble_eq_true rfl, Nat.le_of_ble_eq_true rfl⟩) hD hS hA (fun r u H locs hw hP hD hS => ?_)
            subst r
            have hP : va_P (tp_D E) tp_cl (fr) H := hP
            have hD : va_D A (fr) := hD
            refine lv_iconst (v := 5) hx hb d_C_numberOf_91 (by decide) ?_
            refine lv_ishl hx hb d_C_numberOf_92 ?_
            refine lv_ior hx hb d_C_numberOf_93 ?_
            refine lv_iload_n hx hb d_C_numberOf_94 rfl (lv_at hl 1 rfl) ?_
            refine lv_bipush (v := 7) hx hb d_C_numberOf_95 (by decide) ?_
            refine lv_iconst (v := 1) hx hb d_C_numberOf_97 (by decide) ?_
            refine tp_ci (tp_rS (As := [.int xw, .int 7, .int 1]) (rest := [.int ((((xw.toUInt32 >>> (Int32.toUInt32 8 &&& Int32.toUInt32 31)).toInt32 &&& 15) <<< (1 &&& 31 : Int32)) ||| (((xw.toUInt32 >>> (Int32.toUInt32 25 &&& Int32.toUInt32 31)).toInt32 &&& 63) <<< (5 &&& 31 : Int32)))]) ⟨hx, hb, hml, hown, htg⟩ (cs_C_bits_5 l E fr _ xw ) (⟨callB_of 3 htg (tp_good0 kc_C_bits) rfl rfl rfl (htg _ ki_C) (htg _ kl_C_24) ⟨by decide, by decide, by decide +kernel⟩ ⟨Nat.le_of_ble_eq_true rfl, Nat.le_of_ble_eq_true rfl⟩, htg _ ks_C_bits⟩) hK hP hD hS hA rfl hl.1 rfl (Nat.le_of_ble_eq_true rfl) d_C_numberOf_98 ⟨Nat.le_of_ble_eq_true rfl, Nat.le_of_ble_eq_true rfl⟩) hD hS hA (fun r u H locs hw hP hD hS => ?_)
            subst r
            have hP : va_P (tp_D E) tp_cl (fr) H := hP
            have hD : va_D A (fr) := hD
            refine lv_bipush (v := 11) hx hb d_C_numberOf_101 (by decide) ?_
            refine lv_ishl hx hb d_C_numberOf_103 ?_
            refine lv_ior hx hb d_C_numberOf_104 ?_
            refine lv_iload_n hx hb d_C_numberOf_105 rfl (lv_at hl 1 rfl) ?_
            refine lv_bipush (v := 31) hx hb d_C_numberOf_106 (by decide) ?_
            refine lv_ishr hx hb d_C_numberOf_108 ?_
            refine lv_bipush (v := 12) hx hb d_C_numberOf_109 (by decide) ?_
            refine lv_ishl hx hb d_C_numberOf_111 ?_
            refine lv_ior hx hb d_C_numberOf_112 ?_
            exact W.iret (v := ((((((xw.toUInt32 >>> (Int32.toUInt32 8 &&& Int32.toUInt32 31)).toInt32 &&& 15) <<< (1 &&& 31 : Int32)) ||| (((xw.toUInt32 >>> (Int32.toUInt32 25 &&& Int32.toUInt32 31)).toInt32 &&& 63) <<< (5 &&& 31 : Int32))) ||| (((xw.toUInt32 >>> (Int32.toUInt32 7 &&& Int32.toUInt32 31)).toInt32 &&& 1) <<< (11 &&& 31 : Int32))) ||| ((xw >>> (31 &&& 31 : Int32)) <<< (12 &&& 31 : Int32)))) hx hb hr (fun t ht hW => ⟨⟨_, (), rfl, (by unfold tp_num; rw [if_neg h1, if_neg h2, if_neg h3, if_neg h4, if_pos h5]), by rw [ht]; exact hP, hD⟩, hS.F ht⟩) hS.2.2 d_C_numberOf_113
          · by_cases h6 : xl = 7
            · refine lv_tableIn (off := 113) (tgt := 114) hx hb d_C_numberOf_1 (by rw [h6]; decide) (by rw [h6]; decide) (by rw [h6]; decide) (by decide) ?_
              refine lv_iload_n hx hb d_C_numberOf_114 rfl (lv_at hl 1 rfl) ?_
              refine lv_bipush (v := 21) hx hb d_C_numberOf_115 (by decide) ?_
              refine lv_bipush (v := 10) hx hb d_C_numberOf_117 (by decide) ?_
              refine tp_ci (tp_rS (As := [.int xw, .int 21, .int 10]) (rest := []) ⟨hx, hb, hml, hown, htg⟩ (cs_C_bits_6 l E fr _ xw ) (⟨callB_of 3 htg (tp_good0 kc_C_bits) rfl rfl rfl (htg _ ki_C) (htg _ kl_C_24) ⟨by decide, by decide, by decide +kernel⟩ ⟨Nat.le_of_ble_eq_true rfl, Nat.le_of_ble_eq_true rfl⟩, htg _ ks_C_bits⟩) hK hP hD hS hA rfl hl.1 rfl (Nat.le_of_ble_eq_true rfl) d_C_numberOf_119 ⟨Nat.le_of_ble_eq_true rfl, Nat.le_of_ble_eq_true rfl⟩) hD hS hA (fun r u H locs hw hP hD hS => ?_)
              subst r
              have hP : va_P (tp_D E) tp_cl (fr) H := hP
              have hD : va_D A (fr) := hD
              refine lv_iconst (v := 1) hx hb d_C_numberOf_122 (by decide) ?_
              refine lv_ishl hx hb d_C_numberOf_123 ?_
              refine lv_iload_n hx hb d_C_numberOf_124 rfl (lv_at hl 1 rfl) ?_
              refine lv_bipush (v := 20) hx hb d_C_numberOf_125 (by decide) ?_
              refine lv_iconst (v := 1) hx hb d_C_numberOf_127 (by decide) ?_
              refine tp_ci (tp_rS (As := [.int xw, .int 20, .int 1]) (rest := [.int (((xw.toUInt32 >>> (Int32.toUInt32 21 &&& Int32.toUInt32 31)).toInt32 &&& 1023) <<< (1 &&& 31 : Int32))]) ⟨hx, hb, hml, hown, htg⟩ (cs_C_bits_7 l E fr _ xw ) (⟨callB_of 3 htg (tp_good0 kc_C_bits) rfl rfl rfl (htg _ ki_C) (htg _ kl_C_24) ⟨by decide, by decide, by decide +kernel⟩ ⟨Nat.le_of_ble_eq_true rfl, Nat.le_of_ble_eq_true rfl⟩, htg _ ks_C_bits⟩) hK hP hD hS hA rfl hl.1 rfl (Nat.le_of_ble_eq_true rfl) d_C_numberOf_128 ⟨Nat.le_of_ble_eq_true rfl, Nat.le_of_ble_eq_true rfl⟩) hD hS hA (fun r u H locs hw hP hD hS => ?_)
              subst r
              have hP : va_P (tp_D E) tp_cl (fr) H := hP
              have hD : va_D A (fr) := hD
              refine lv_bipush (v := 11) hx hb d_C_numberOf_131 (by decide) ?_
              refine lv_ishl hx hb d_C_numberOf_133 ?_
              refine lv_ior hx hb d_C_numberOf_134 ?_
              refine lv_iload_n hx hb d_C_numberOf_135 rfl (lv_at hl 1 rfl) ?_
              refine lv_bipush (v := 12) hx hb d_C_numberOf_136 (by decide) ?_
              refine lv_bipush (v := 8) hx hb d_C_numberOf_138 (by decide) ?_
              refine tp_ci (tp_rS (As := [.int xw, .int 12, .int 8]) (rest := [.int ((((xw.toUInt32 >>> (Int32.toUInt32 21 &&& Int32.toUInt32 31)).toInt32 &&& 1023) <<< (1 &&& 31 : Int32)) ||| (((xw.toUInt32 >>> (Int32.toUInt32 20 &&& Int32.toUInt32 31)).toInt32 &&& 1) <<< (11 &&& 31 : Int32)))]) ⟨hx, hb, hml, hown, htg⟩ (cs_C_bits_8 l E fr _ xw ) (⟨callB_of 3 htg (tp_good0 kc_C_bits) rfl rfl rfl (htg _ ki_C) (htg _ kl_C_24) ⟨by decide, by decide, by decide +kernel⟩ ⟨Nat.le_of_ble_eq_true rfl, Nat.le_of_ble_eq_true rfl⟩, htg _ ks_C_bits⟩) hK hP hD hS hA rfl hl.1 rfl (Nat.le_of_ble_eq_true rfl) d_C_numberOf_140 ⟨Nat.le_of_ble_eq_true rfl, Nat.le_of_ble_eq_true rfl⟩) hD hS hA (fun r u H locs hw hP hD hS => ?_)
              subst r
              have hP : va_P (tp_D E) tp_cl (fr) H := hP
              have hD : va_D A (fr) := hD
              refine lv_bipush (v := 12) hx hb d_C_numberOf_143 (by decide) ?_
              refine lv_ishl hx hb d_C_numberOf_145 ?_
              refine lv_ior hx hb d_C_numberOf_146 ?_
              refine lv_iload_n hx hb d_C_numberOf_147 rfl (lv_at hl 1 rfl) ?_
              refine lv_bipush (v := 31) hx hb d_C_numberOf_148 (by decide) ?_
              refine lv_ishr hx hb d_C_numberOf_150 ?_
              refine lv_bipush (v := 20) hx hb d_C_numberOf_151 (by decide) ?_
              refine lv_ishl hx hb d_C_numberOf_153 ?_
              refine lv_ior hx hb d_C_numberOf_154 ?_
              exact W.iret (v := ((((((xw.toUInt32 >>> (Int32.toUInt32 21 &&& Int32.toUInt32 31)).toInt32 &&& 1023) <<< (1 &&& 31 : Int32)) ||| (((xw.toUInt32 >>> (Int32.toUInt32 20 &&& Int32.toUInt32 31)).toInt32 &&& 1) <<< (11 &&& 31 : Int32))) ||| (((xw.toUInt32 >>> (Int32.toUInt32 12 &&& Int32.toUInt32 31)).toInt32 &&& 255) <<< (12 &&& 31 : Int32))) ||| ((xw >>> (31 &&& 31 : Int32)) <<< (20 &&& 31 : Int32)))) hx hb hr (fun t ht hW => ⟨⟨_, (), rfl, (by unfold tp_num; rw [if_neg h1, if_neg h2, if_neg h3, if_neg h4, if_neg h5, if_pos h6]), by rw [ht]; exact hP, hD⟩, hS.F ht⟩) hS.2.2 d_C_numberOf_155
            · refine lv_tableOut (tgt := 156) hx hb d_C_numberOf_1 (by have g12 := tp_neI (v := 2) (n := 2) rfl h1; have g13 := tp_neI (v := 3) (n := 3) rfl h2; have g14 := tp_neI (v := 4) (n := 4) rfl h3; have g15 := tp_neI (v := 5) (n := 5) rfl h4; have g16 := tp_neI (v := 6) (n := 6) rfl h5; have g17 := tp_neI (v := 7) (n := 7) rfl h6; omega) (by decide) ?_
              refine lv_iconst (v := 0) hx hb d_C_numberOf_156 (by decide) ?_
              exact W.iret (v := 0) hx hb hr (fun t ht hW => ⟨⟨_, (), rfl, (by unfold tp_num; rw [if_neg h1, if_neg h2, if_neg h3, if_neg h4, if_neg h5, if_neg h6]), by rw [ht]; exact hP, hD⟩, hS.F ht⟩) hS.2.2 d_C_numberOf_157
set_option maxHeartbeats 4000000 in
set_option maxRecDepth 100000 in
theorem a_C_operationOf (l : Launch) (E : tp_Env) (fr : va_W) (sz : Nat) (xw : Int32)  : Met l y_C_operationOf w_C_operationOf ({ frames := 1, cells := 0, slots := 0, locals := 20 }) (va_Pc [.int xw] (tp_in E fr sz)) (va_Qr (fun (u : Nat) => tp_hit xw u) (fun u q t => q = (fun (u : Nat) => tp_ad E u) u ∧ tp_out E (va_A fr sz) fr t) (va_A fr sz)) 0 0 (va_A fr sz) := by
  refine Met.ofW (cc := b_C_operationOf) (maxL := 3) (ret := (some (.object "TwoPass$Operation"))) (by decide) rfl ?_
  intro p e s m args below meth c s₁ B hml hv
  obtain ⟨rfl, hsz, hP, hK, hD0⟩ := hv
  have hx := B.exec
  have hb := B.bytes
  have hr := B.returns
  have htg : ∀ w ∈ tp_G, w.before ([.int xw] : List Value).toArray s = true := fun w h => atoms_spec (ws := w_C_operationOf) B.pre w (List.mem_cons_of_mem _ h)
  have hown : s.vm.findClass "TwoPass$Code" = some m.cls := findClass_of_methodNamed B.named
  have hlocks := B.notSynchronized
  subst hsz
  have hD := hD0.self (sz := s.heap.size)
  generalize hAe : va_A fr s.heap.size = A at hD hK ⊢
  have hA : ∀ q : Nat, s.heap.size ≤ q → A q := fun q h => by rw [← hAe]; exact Or.inr h
  have hS : va_S A s.heap s.heap [] := va_S.rf
  have hl := lv_entry ([.int xw]) (n := 3) (Nat.le_of_ble_eq_true rfl)
  rw [lg_entry_eq]
  generalize (lg_sl ([.int xw]) ++ List.replicate (3 - (lg_sl ([.int xw])).length) Slot.unset).toArray = ls at hl ⊢
  have hl : lv_has ls 3 [(0, .int xw)] := hl
  refine lv_iconst (v := 0) hx hb d_C_operationOf_0 (by decide) ?_
  refine lv_istore_n (lv' := [(1, .int 0), (0, .int xw)]) hx hb d_C_operationOf_1 rfl hl (by decide) rfl (fun ls hl => ?_)
  refine tp_loop (fun j ls H locs (k : Int32) => ((0 ≤ k.toInt) ∧ (k.toInt + (j : Int) = 47) ∧ (∀ i : Nat, i < k.toInt.toNat → ¬ tp_mt xw i)) ∧ lv_has ls 3 [(1, .int k), (0, .int xw)] ∧ va_P (tp_D E) tp_cl fr H ∧ va_D A fr ∧ va_S A s.heap H locs) ?_ _ 0 ⟨⟨by decide, show (0 : Int32).toInt + ((47 : Nat) : Int) = 47 from by decide, fun i z => absurd z (by rw [Int32.toInt_zero]; omega)⟩, tp_lvI hl [0, 1] rfl, hP, hD, hS⟩
  intro j k ls H locs hI ih
  obtain ⟨⟨hk0, hj, hno⟩, hl, hP, hD, hS⟩ := hI
  refine lv_iload_n hx hb d_C_operationOf_2 rfl (lv_at hl 0 rfl) ?_
  refine va_getsN (v := .ref (tp_ad E 101)) hx hb hK.opsZ hS hown (hK.2.2.2.1.use kf_C_28) (fun _ h => h) d_C_operationOf_3 ?_
  refine va_tlen (v := 47) hx hb hK.opsT hS (by decide) d_C_operationOf_6 ?_
  by_cases h1 : 47 ≤ k
  · refine lv_icmp_ge (tgt := 52) hx hb d_C_operationOf_7 (by decide) (fun _ => ?_) (fun h => absurd h1 h)
    refine va_gets (v := .ref (tp_ad E 0)) hx hb (hK.opZ (i := 0) (by decide)) hS hown (htg _ kl_C_36) (fun _ h => h) d_C_operationOf_52 ?_
    exact W.aret (v := .ref (tp_ad E 0)) hx hb hr (Or.inl ⟨_, rfl⟩) (Or.inr ⟨_, rfl⟩) (fun t ht hW => ⟨⟨0, _, rfl, Or.inl ⟨rfl, tp_allmt hno h1⟩, rfl, by rw [ht]; exact hP, hD⟩, hS.F ht⟩) hS.2.2 d_C_operationOf_55
  · refine lv_icmp_ge (tgt := 52) hx hb d_C_operationOf_7 (by decide) (fun h => absurd h h1) (fun _ => ?_)
    refine va_getsN (v := .ref (tp_ad E 101)) hx hb hK.opsZ hS hown (hK.2.2.2.1.use kf_C_28) (fun _ h => h) d_C_operationOf_10 ?_
    refine lv_iload_n hx hb d_C_operationOf_13 rfl (lv_at hl 0 rfl) ?_
    refine vb_tq (v := .ref (tp_ad E k.toNatClampNeg)) hx hb hK.opsT hS (tp_k47 hk0 h1) rfl d_C_operationOf_14 ?_
    refine vk_getf (v := .int (tp_lay.getD k.toNatClampNeg 0)) hx hb (hK.lay (i := k.toNatClampNeg) (tp_n47 hk0 h1)) hS hown (htg _ kl_C_15) (fun _ h => h) d_C_operationOf_15 ?_
    refine tp_ci (tp_rS (As := [.int (tp_lay.getD k.toNatClampNeg 0)]) (rest := []) ⟨hx, hb, hml, hown, htg⟩ (a_C_fixedBits l E fr _ (tp_lay.getD k.toNatClampNeg 0) ) (⟨callB_of 1 htg (tp_good0 kc_C_fixedBits) rfl rfl rfl (htg _ ki_C) (htg _ kl_C_32) ⟨by decide, by decide, by decide +kernel⟩ ⟨Nat.le_of_ble_eq_true rfl, Nat.le_of_ble_eq_true rfl⟩, htg _ ks_C_fixedBits⟩) hK hP hD hS hA rfl hl.1 rfl (Nat.le_of_ble_eq_true rfl) d_C_operationOf_18 ⟨Nat.le_of_ble_eq_true rfl, Nat.le_of_ble_eq_true rfl⟩) hD hS hA (fun r u H locs hw hP hD hS => ?_)
    subst r
    have hP : va_P (tp_D E) tp_cl (fr) H := hP
    have hD : va_D A (fr) := hD
    refine lv_istore_n (lv' := [(2, .int (tp_fix (tp_lay.getD k.toNatClampNeg 0))), (1, .int k), (0, .int xw)]) hx hb d_C_operationOf_21 rfl hl (by decide) rfl (fun ls hl => ?_)
    refine lv_iload_n hx hb d_C_operationOf_22 rfl (lv_at hl 0 rfl) ?_
    by_cases h2 : (tp_fix (tp_lay.getD k.toNatClampNeg 0)) = 0
    · refine lv_if_eq (tgt := 46) hx hb d_C_operationOf_23 (by decide) (fun _ => ?_) (fun h => absurd h2 h)
      refine lv_iinc (k := 1) (v := (k + 1)) (lv' := [(1, .int (k + 1)), (2, .int (tp_fix (tp_lay.getD k.toNatClampNeg 0))), (0, .int xw)]) hx hb d_C_operationOf_46 hl rfl rfl (by decide) rfl (fun ls hl => ?_)
      refine lv_goto (tgt := 2) hx hb d_C_operationOf_49 (by decide) ?_
      have hkn := tp_l47 hk0 h1
      have hk1 : (k + 1).toInt = k.toInt + 1 := tp_inc (by omega)
      exact ih (j - 1) (k + 1) ls _ _ (by omega) ⟨⟨by omega, by omega, tp_nomt hno hk0 hk1 (fun z => z.1 h2)⟩, tp_lvI hl [0, 2] rfl, hP, hD, hS⟩
    · refine lv_if_eq (tgt := 46) hx hb d_C_operationOf_23 (by decide) (fun h => absurd h h2) (fun _ => ?_)
      refine lv_iload_n hx hb d_C_operationOf_26 rfl (lv_at hl 2 rfl) ?_
      refine lv_iload_n hx hb d_C_operationOf_27 rfl (lv_at hl 0 rfl) ?_
      refine lv_iand hx hb d_C_operationOf_28 ?_
      refine va_getsN (v := .ref (tp_ad E 101)) hx hb hK.opsZ hS hown (hK.2.2.2.1.use kf_C_28) (fun _ h => h) d_C_operationOf_29 ?_
      refine lv_iload_n hx hb d_C_operationOf_32 rfl (lv_at hl 1 rfl) ?_
      refine vb_tq (v := .ref (tp_ad E k.toNatClampNeg)) hx hb hK.opsT hS (tp_k47 hk0 h1) rfl d_C_operationOf_33 ?_
      refine vk_getf (v := .int (tp_cod.getD k.toNatClampNeg 0)) hx hb (hK.cod (i := k.toNatClampNeg) (tp_n47 hk0 h1)) hS hown (htg _ kl_C_9) (fun _ h => h) d_C_operationOf_34 ?_
      by_cases h3 : (xw &&& (tp_fix (tp_lay.getD k.toNatClampNeg 0))) = (tp_cod.getD k.toNatClampNeg 0)
      · refine lv_icmp_ne (tgt := 46) hx hb d_C_operationOf_37 (by decide) (fun h => absurd h3 h) (fun _ => ?_)
        refine va_getsN (v := .ref (tp_ad E 101)) hx hb hK.opsZ hS hown (hK.2.2.2.1.use kf_C_28) (fun _ h => h) d_C_operationOf_40 ?_
        refine lv_iload_n hx hb d_C_operationOf_43 rfl (lv_at hl 1 rfl) ?_
        refine vb_tq (v := .ref (tp_ad E k.toNatClampNeg)) hx hb hK.opsT hS (tp_k47 hk0 h1) rfl d_C_operationOf_44 ?_
        exact W.aret (v := .ref (tp_ad E k.toNatClampNeg)) hx hb hr (Or.inl ⟨_, rfl⟩) (Or.inr ⟨_, rfl⟩) (fun t ht hW => ⟨⟨k.toNatClampNeg, _, rfl, Or.inr ⟨tp_n47 hk0 h1, ⟨h2, h3⟩, hno⟩, rfl, by rw [ht]; exact hP, hD⟩, hS.F ht⟩) hS.2.2 d_C_operationOf_45
      · refine lv_icmp_ne (tgt := 46) hx hb d_C_operationOf_37 (by decide) (fun _ => ?_) (fun h => absurd h h3)
        refine lv_iinc (k := 1) (v := (k + 1)) (lv' := [(1, .int (k + 1)), (2, .int (tp_fix (tp_lay.getD k.toNatClampNeg 0))), (0, .int xw)]) hx hb d_C_operationOf_46 hl rfl rfl (by decide) rfl (fun ls hl => ?_)
        refine lv_goto (tgt := 2) hx hb d_C_operationOf_49 (by decide) ?_
        have hkn := tp_l47 hk0 h1
        have hk1 : (k + 1).toInt = k.toInt + 1 := tp_inc (by omega)
        exact ih (j - 1) (k + 1) ls _ _ (by omega) ⟨⟨by omega, by omega, tp_nomt hno hk0 hk1 (fun z => h3 z.2)⟩, tp_lvI hl [0, 2] rfl, hP, hD, hS⟩
set_option maxHeartbeats 4000000 in
set_option maxRecDepth 100000 in
theorem a_T_writeRegister (l : Launch) (E : tp_Env) (fr : va_W) (sz : Nat) (aT aY aS : Nat) (xl xg : Int32) (aB ab : Nat) (xm xc : Int32) (nb : Nat) (fb : Nat → Int32) (xr : Int32) (hn : nb = 16 ∨ nb = 34) (hf : tp_fit fb) (hc : 0 ≤ xc.toInt ∧ xc.toInt + 1 + (tp_dl xr : Int) ≤ 34) : Met l y_T_writeRegister w_T_writeRegister ({ frames := 6, cells := 2, slots := 68, locals := 188 }) (va_Pc [.ref aT, .int xr] (tp_in E ((aT, .inr (0, [.ref aY, .ref aS, .ref aB, .int xl, .int xg])) :: (aB, .inr (6, [.ref ab, .int 0, .int xm, .int xc])) :: (ab, .inl (tp_ty E 3, nb, .inl fb)) :: fr) sz)) (va_Qv (fun (u : Nat × Nat × (Nat → Int32) × Int32) => (u.2.1 = 16 ∨ u.2.1 = 34) ∧ tp_fit u.2.2.1 ∧ u.2.2.2.toInt = xc.toInt + 1 + (tp_dl xr : Int) ∧ u.2.2.2.toInt ≤ (u.2.1 : Int)) (fun u t => tp_out E (va_A ((aT, .inr (0, [.ref aY, .ref aS, .ref aB, .int xl, .int xg])) :: (aB, .inr (6, [.ref ab, .int 0, .int xm, .int xc])) :: (ab, .inl (tp_ty E 3, nb, .inl fb)) :: fr) sz) ((aT, .inr (0, [.ref aY, .ref aS, .ref aB, .int xl, .int xg])) :: (aB, .inr (6, [.ref u.1, .int 0, .int xm, .int u.2.2.2])) :: (u.1, .inl (tp_ty E 3, u.2.1, .inl u.2.2.1)) :: fr) t) (va_A ((aT, .inr (0, [.ref aY, .ref aS, .ref aB, .int xl, .int xg])) :: (aB, .inr (6, [.ref ab, .int 0, .int xm, .int xc])) :: (ab, .inl (tp_ty E 3, nb, .inl fb)) :: fr) sz)) 2 68 (va_A ((aT, .inr (0, [.ref aY, .ref aS, .ref aB, .int xl, .int xg])) :: (aB, .inr (6, [.ref ab, .int 0, .int xm, .int xc])) :: (ab, .inl (tp_ty E 3, nb, .inl fb)) :: fr) sz) := by
  refine Met.ofW (cc := b_T_writeRegister) (maxL := 2) (ret := none) (by decide) rfl ?_
  intro p e s m args below meth c s₁ B hml hv
  obtain ⟨rfl, hsz, hP, hK, hD0⟩ := hv
  have hx := B.exec
  have hb := B.bytes
  have hr := B.returns
  have htg : ∀ w ∈ tp_G, w.before ([.ref aT, .int xr] : List Value).toArray s = true := fun w h => atoms_spec (ws := w_T_writeRegister) B.pre w (List.mem_cons_of_mem _ h)
  have hown : s.vm.findClass "TwoPass" = some m.cls := findClass_of_methodNamed B.named
  have hlocks := B.notSynchronized
  subst hsz
  have hD := hD0.self (sz := s.heap.size)
  generalize hAe : va_A ((aT, .inr (0, [.ref aY, .ref aS, .ref aB, .int xl, .int xg])) :: (aB, .inr (6, [.ref ab, .int 0, .int xm, .int xc])) :: (ab, .inl (tp_ty E 3, nb, .inl fb)) :: fr) s.heap.size = A at hD hK ⊢
  have hA : ∀ q : Nat, s.heap.size ≤ q → A q := fun q h => by rw [← hAe]; exact Or.inr h
  have hS : va_S A s.heap s.heap [] := va_S.rf
  have hl := lv_entry ([.ref aT, .int xr]) (n := 2) (Nat.le_of_ble_eq_true rfl)
  rw [lg_entry_eq]
  generalize (lg_sl ([.ref aT, .int xr]) ++ List.replicate (2 - (lg_sl ([.ref aT, .int xr])).length) Slot.unset).toArray = ls at hl ⊢
  have hl : lv_has ls 2 [(0, .ref aT), (1, .int xr)] := hl
  refine lv_aload_n hx hb d_T_writeRegister_0 rfl (lv_at hl 0 rfl) ?_
  refine va_get (D := tp_D E) (ci := 0) (v := .ref aB) (C := qR_T) (T := qF_T) (N := 5) hx hb htg qi_T hown hK.1 hP 0 rfl rfl 2 (by decide) (htg _ kl_T_26) (fun _ h => h) rfl d_T_writeRegister_1 ?_
  refine lv_bipush (v := 120) hx hb d_T_writeRegister_4 (by decide) ?_
  have hP : va_P (tp_D E) tp_cl ((ab, .inl (tp_ty E 3, nb, .inl fb)) :: (aT, .inr (0, [.ref aY, .ref aS, .ref aB, .int xl, .int xg])) :: (aB, .inr (6, [.ref ab, .int 0, .int xm, .int xc])) :: fr) _ := tp_mvP 2 rfl hP
  have hD : va_D A ((ab, .inl (tp_ty E 3, nb, .inl fb)) :: (aT, .inr (0, [.ref aY, .ref aS, .ref aB, .int xl, .int xg])) :: (aB, .inr (6, [.ref ab, .int 0, .int xm, .int xc])) :: fr) := tp_mvD 2 rfl hD
  have hP : va_P (tp_D E) tp_cl ((aB, .inr (6, [.ref ab, .int 0, .int xm, .int xc])) :: (ab, .inl (tp_ty E 3, nb, .inl fb)) :: (aT, .inr (0, [.ref aY, .ref aS, .ref aB, .int xl, .int xg])) :: fr) _ := tp_mvP 2 rfl hP
  have hD : va_D A ((aB, .inr (6, [.ref ab, .int 0, .int xm, .int xc])) :: (ab, .inl (tp_ty E 3, nb, .inl fb)) :: (aT, .inr (0, [.ref aY, .ref aS, .ref aB, .int xl, .int xg])) :: fr) := tp_mvD 2 rfl hD
  refine tp_cr (tp_rV (As := [.int 120]) (rest := []) ⟨hx, hb, hml, hown, htg⟩ (s_SB_appC l E ((aT, .inr (0, [.ref aY, .ref aS, .ref aB, .int xl, .int xg])) :: fr) _ aB ab xm xc nb fb 120 hn hf (tp_wr1 hc) (by decide)) (⟨callB_of 1 htg (tp_good0 kc_SB_append_0) rfl rfl rfl (htg _ ki_SB) (htg _ kl_T_154) ⟨by decide, by decide, by decide +kernel⟩ ⟨Nat.le_of_ble_eq_true rfl, Nat.le_of_ble_eq_true rfl⟩, htg _ km_SB_append_0, htg _ kv_SB_SB_append_0⟩) (va_recv (ci := 6) (q0 := 0) hK.1 hP rfl rfl) hK hP hD hS hA rfl hl.1 rfl (Nat.le_of_ble_eq_true rfl) d_T_writeRegister_6 ⟨Nat.le_of_ble_eq_true rfl, Nat.le_of_ble_eq_true rfl⟩) hD hS hA (fun u H locs hw hP hD hS => ?_)
  obtain ⟨eq1, nq1, fq1⟩ := u
  obtain ⟨hnq1, hfq1, hqq1⟩ : (nq1 = 16 ∨ nq1 = 34) ∧ tp_fit fq1 ∧ (xc + 1).toInt ≤ (nq1 : Int) := hw
  have hP : va_P (tp_D E) tp_cl ((aB, .inr (6, [.ref eq1, .int 0, .int xm, .int (xc + 1)])) :: (eq1, .inl (tp_ty E 3, nq1, .inl fq1)) :: (aT, .inr (0, [.ref aY, .ref aS, .ref aB, .int xl, .int xg])) :: fr) H := hP
  have hD : va_D A ((aB, .inr (6, [.ref eq1, .int 0, .int xm, .int (xc + 1)])) :: (eq1, .inl (tp_ty E 3, nq1, .inl fq1)) :: (aT, .inr (0, [.ref aY, .ref aS, .ref aB, .int xl, .int xg])) :: fr) := hD
  refine lv_pop hx hb d_T_writeRegister_9 rfl ?_
  refine lv_aload_n hx hb d_T_writeRegister_10 rfl (lv_at hl 0 rfl) ?_
  refine va_get (D := tp_D E) (ci := 0) (v := .ref aB) (C := qR_T) (T := qF_T) (N := 5) hx hb htg qi_T hown hK.1 hP 2 rfl rfl 2 (by decide) (htg _ kl_T_26) (fun _ h => h) rfl d_T_writeRegister_11 ?_
  refine lv_iload_n hx hb d_T_writeRegister_14 rfl (lv_at hl 1 rfl) ?_
  refine tp_cr (tp_rV (As := [.int xr]) (rest := []) ⟨hx, hb, hml, hown, htg⟩ (a_SB_appI l E ((aT, .inr (0, [.ref aY, .ref aS, .ref aB, .int xl, .int xg])) :: fr) _ aB eq1 xm (xc + 1) nq1 fq1 xr hnq1 hfq1 (tp_wr2 hc)) (⟨callB_of 1 htg (tp_good0 kc_SB_append_1) rfl rfl rfl (htg _ ki_SB) (htg _ kl_T_238) ⟨by decide, by decide, by decide +kernel⟩ ⟨Nat.le_of_ble_eq_true rfl, Nat.le_of_ble_eq_true rfl⟩, htg _ km_SB_append_1, htg _ kv_SB_SB_append_1⟩) (va_recv (ci := 6) (q0 := 0) hK.1 hP rfl rfl) hK hP hD hS hA rfl hl.1 rfl (Nat.le_of_ble_eq_true rfl) d_T_writeRegister_15 ⟨Nat.le_of_ble_eq_true rfl, Nat.le_of_ble_eq_true rfl⟩) hD hS hA (fun u H locs hw hP hD hS => ?_)
  obtain ⟨eq2, nq2, fq2, cq2⟩ := u
  obtain ⟨hnq2, hfq2, hcq2, hqq2⟩ : (nq2 = 16 ∨ nq2 = 34) ∧ tp_fit fq2 ∧ cq2.toInt = (xc + 1).toInt + (tp_dl xr : Int) ∧ cq2.toInt ≤ (nq2 : Int) := hw
  have hP : va_P (tp_D E) tp_cl ((aB, .inr (6, [.ref eq2, .int 0, .int xm, .int cq2])) :: (eq2, .inl (tp_ty E 3, nq2, .inl fq2)) :: (aT, .inr (0, [.ref aY, .ref aS, .ref aB, .int xl, .int xg])) :: fr) H := hP
  have hD : va_D A ((aB, .inr (6, [.ref eq2, .int 0, .int xm, .int cq2])) :: (eq2, .inl (tp_ty E 3, nq2, .inl fq2)) :: (aT, .inr (0, [.ref aY, .ref aS, .ref aB, .int xl, .int xg])) :: fr) := hD
  refine lv_pop hx hb d_T_writeRegister_18 rfl ?_
  have hP : va_P (tp_D E) tp_cl ((eq2, .inl (tp_ty E 3, nq2, .inl fq2)) :: (aB, .inr (6, [.ref eq2, .int 0, .int xm, .int cq2])) :: (aT, .inr (0, [.ref aY, .ref aS, .ref aB, .int xl, .int xg])) :: fr) _ := tp_mvP 1 rfl hP
  have hD : va_D A ((eq2, .inl (tp_ty E 3, nq2, .inl fq2)) :: (aB, .inr (6, [.ref eq2, .int 0, .int xm, .int cq2])) :: (aT, .inr (0, [.ref aY, .ref aS, .ref aB, .int xl, .int xg])) :: fr) := tp_mvD 1 rfl hD
  have hP : va_P (tp_D E) tp_cl ((aB, .inr (6, [.ref eq2, .int 0, .int xm, .int cq2])) :: (eq2, .inl (tp_ty E 3, nq2, .inl fq2)) :: (aT, .inr (0, [.ref aY, .ref aS, .ref aB, .int xl, .int xg])) :: fr) _ := tp_mvP 1 rfl hP
  have hD : va_D A ((aB, .inr (6, [.ref eq2, .int 0, .int xm, .int cq2])) :: (eq2, .inl (tp_ty E 3, nq2, .inl fq2)) :: (aT, .inr (0, [.ref aY, .ref aS, .ref aB, .int xl, .int xg])) :: fr) := tp_mvD 1 rfl hD
  have hP : va_P (tp_D E) tp_cl ((aT, .inr (0, [.ref aY, .ref aS, .ref aB, .int xl, .int xg])) :: (aB, .inr (6, [.ref eq2, .int 0, .int xm, .int cq2])) :: (eq2, .inl (tp_ty E 3, nq2, .inl fq2)) :: fr) _ := tp_mvP 2 rfl hP
  have hD : va_D A ((aT, .inr (0, [.ref aY, .ref aS, .ref aB, .int xl, .int xg])) :: (aB, .inr (6, [.ref eq2, .int 0, .int xm, .int cq2])) :: (eq2, .inl (tp_ty E 3, nq2, .inl fq2)) :: fr) := tp_mvD 2 rfl hD
  exact W.vret hx hb hr (fun t ht hW => ⟨⟨(eq2, nq2, fq2, cq2), rfl, ⟨hnq2, hfq2, hcq2.trans (tp_wr3 hc), hqq2⟩, by rw [ht]; exact hP, hD⟩, hS.F ht⟩) hS.2.2 d_T_writeRegister_19
set_option maxHeartbeats 400000 in
set_option maxRecDepth 100000 in
theorem cs_C_registerAt_1 (l : Launch) (E : tp_Env) (fr : va_W) (sz : Nat) (x1 : Int32)  : Met l y_C_registerAt w_C_registerAt ({ frames := 1, cells := 0, slots := 0, locals := 22 }) (va_Pc [.int x1, .int 7] (tp_in E fr sz)) (va_Qi (fun r (_ : Unit) => r = ((x1.toUInt32 >>> (Int32.toUInt32 7 &&& Int32.toUInt32 31)).toInt32 &&& 31)) (fun _ t => tp_out E (va_A fr sz) fr t) (va_A fr sz)) 0 0 (va_A fr sz) := by
  refine Met.ofW (cc := b_C_registerAt) (maxL := 2) (ret := (some .int)) (by decide) rfl ?_
  intro p e s m args below meth c s₁ B hml hv
  obtain ⟨rfl, hsz, hP, hK, hD0⟩ := hv
  have hx := B.exec
  have hb := B.bytes
  have hr := B.returns
  have htg : ∀ w ∈ tp_G, w.before ([.int x1, .int 7] : List Value).toArray s = true := fun w h => atoms_spec (ws := w_C_registerAt) B.pre w (List.mem_cons_of_mem _ h)
  have hown : s.vm.findClass "TwoPass$Code" = some m.cls := findClass_of_methodNamed B.named
  have hlocks := B.notSynchronized
  subst hsz
  have hD := hD0.self (sz := s.heap.size)
  generalize hAe : va_A fr s.heap.size = A at hD hK ⊢
  have hA : ∀ q : Nat, s.heap.size ≤ q → A q := fun q h => by rw [← hAe]; exact Or.inr h
  have hS : va_S A s.heap s.heap [] := va_S.rf
  have hl := lv_entry ([.int x1, .int 7]) (n := 2) (Nat.le_of_ble_eq_true rfl)
  rw [lg_entry_eq]
  generalize (lg_sl ([.int x1, .int 7]) ++ List.replicate (2 - (lg_sl ([.int x1, .int 7])).length) Slot.unset).toArray = ls at hl ⊢
  have hl : lv_has ls 2 [(0, .int x1), (1, .int 7)] := hl
  refine lv_iload_n hx hb d_C_registerAt_0 rfl (lv_at hl 0 rfl) ?_
  refine lv_iload_n hx hb d_C_registerAt_1 rfl (lv_at hl 1 rfl) ?_
  refine lv_iconst (v := 5) hx hb d_C_registerAt_2 (by decide) ?_
  refine tp_ci (tp_rS (As := [.int x1, .int 7, .int 5]) (rest := []) ⟨hx, hb, hml, hown, htg⟩ (cs_C_bits_2 l E fr _ x1 ) (⟨callB_of 3 htg (tp_good0 kc_C_bits) rfl rfl rfl (htg _ ki_C) (htg _ kl_C_24) ⟨by decide, by decide, by decide +kernel⟩ ⟨Nat.le_of_ble_eq_true rfl, Nat.le_of_ble_eq_true rfl⟩, htg _ ks_C_bits⟩) hK hP hD hS hA rfl hl.1 rfl (Nat.le_of_ble_eq_true rfl) d_C_registerAt_3 ⟨Nat.le_of_ble_eq_true rfl, Nat.le_of_ble_eq_true rfl⟩) hD hS hA (fun r u H locs hw hP hD hS => ?_)
  subst r
  have hP : va_P (tp_D E) tp_cl (fr) H := hP
  have hD : va_D A (fr) := hD
  exact W.iret (v := ((x1.toUInt32 >>> (Int32.toUInt32 7 &&& Int32.toUInt32 31)).toInt32 &&& 31)) hx hb hr (fun t ht hW => ⟨⟨_, (), rfl, rfl, by rw [ht]; exact hP, hD⟩, hS.F ht⟩) hS.2.2 d_C_registerAt_6
set_option maxHeartbeats 400000 in
set_option maxRecDepth 100000 in
theorem cs_C_bits_9 (l : Launch) (E : tp_Env) (fr : va_W) (sz : Nat) (x1 : Int32)  : Met l y_C_bits w_C_bits ({ frames := 0, cells := 0, slots := 0, locals := 0 }) (va_Pc [.int x1, .int 15, .int 5] (tp_in E fr sz)) (va_Qi (fun r (_ : Unit) => r = ((x1.toUInt32 >>> (Int32.toUInt32 15 &&& Int32.toUInt32 31)).toInt32 &&& 31)) (fun _ t => tp_out E (va_A fr sz) fr t) (va_A fr sz)) 0 0 (va_A fr sz) := by
  refine Met.ofW (cc := b_C_bits) (maxL := 3) (ret := (some .int)) (by decide) rfl ?_
  intro p e s m args below meth c s₁ B hml hv
  obtain ⟨rfl, hsz, hP, hK, hD0⟩ := hv
  have hx := B.exec
  have hb := B.bytes
  have hr := B.returns
  have htg : ∀ w ∈ tp_G, w.before ([.int x1, .int 15, .int 5] : List Value).toArray s = true := fun w h => atoms_spec (ws := w_C_bits) B.pre w (List.mem_cons_of_mem _ h)
  have hown : s.vm.findClass "TwoPass$Code" = some m.cls := findClass_of_methodNamed B.named
  have hlocks := B.notSynchronized
  subst hsz
  have hD := hD0.self (sz := s.heap.size)
  generalize hAe : va_A fr s.heap.size = A at hD hK ⊢
  have hA : ∀ q : Nat, s.heap.size ≤ q → A q := fun q h => by rw [← hAe]; exact Or.inr h
  have hS : va_S A s.heap s.heap [] := va_S.rf
  have hl := lv_entry ([.int x1, .int 15, .int 5]) (n := 3) (Nat.le_of_ble_eq_true rfl)
  rw [lg_entry_eq]
  generalize (lg_sl ([.int x1, .int 15, .int 5]) ++ List.replicate (3 - (lg_sl ([.int x1, .int 15, .int 5])).length) Slot.unset).toArray = ls at hl ⊢
  have hl : lv_has ls 3 [(0, .int x1), (1, .int 15), (2, .int 5)] := hl
  refine lv_iload_n hx hb d_C_bits_0 rfl (lv_at hl 0 rfl) ?_
  refine lv_iload_n hx hb d_C_bits_1 rfl (lv_at hl 1 rfl) ?_
  refine lv_iushr (v := (x1.toUInt32 >>> (Int32.toUInt32 15 &&& Int32.toUInt32 31)).toInt32) hx hb d_C_bits_2 rfl ?_
  refine lv_iconst (v := 1) hx hb d_C_bits_3 (by decide) ?_
  refine lv_iload_n hx hb d_C_bits_4 rfl (lv_at hl 2 rfl) ?_
  refine lv_ishl hx hb d_C_bits_5 ?_
  refine tp_topi (v := 32) (by decide) ?_
  refine lv_iconst (v := 1) hx hb d_C_bits_6 (by decide) ?_
  refine lv_isub hx hb d_C_bits_7 ?_
  refine tp_topi (v := 31) (by decide) ?_
  refine lv_iand hx hb d_C_bits_8 ?_
  exact W.iret (v := ((x1.toUInt32 >>> (Int32.toUInt32 15 &&& Int32.toUInt32 31)).toInt32 &&& 31)) hx hb hr (fun t ht hW => ⟨⟨_, (), rfl, rfl, by rw [ht]; exact hP, hD⟩, hS.F ht⟩) hS.2.2 d_C_bits_9
set_option maxHeartbeats 400000 in
set_option maxRecDepth 100000 in
theorem cs_C_registerAt_2 (l : Launch) (E : tp_Env) (fr : va_W) (sz : Nat) (x1 : Int32)  : Met l y_C_registerAt w_C_registerAt ({ frames := 1, cells := 0, slots := 0, locals := 22 }) (va_Pc [.int x1, .int 15] (tp_in E fr sz)) (va_Qi (fun r (_ : Unit) => r = ((x1.toUInt32 >>> (Int32.toUInt32 15 &&& Int32.toUInt32 31)).toInt32 &&& 31)) (fun _ t => tp_out E (va_A fr sz) fr t) (va_A fr sz)) 0 0 (va_A fr sz) := by
  refine Met.ofW (cc := b_C_registerAt) (maxL := 2) (ret := (some .int)) (by decide) rfl ?_
  intro p e s m args below meth c s₁ B hml hv
  obtain ⟨rfl, hsz, hP, hK, hD0⟩ := hv
  have hx := B.exec
  have hb := B.bytes
  have hr := B.returns
  have htg : ∀ w ∈ tp_G, w.before ([.int x1, .int 15] : List Value).toArray s = true := fun w h => atoms_spec (ws := w_C_registerAt) B.pre w (List.mem_cons_of_mem _ h)
  have hown : s.vm.findClass "TwoPass$Code" = some m.cls := findClass_of_methodNamed B.named
  have hlocks := B.notSynchronized
  subst hsz
  have hD := hD0.self (sz := s.heap.size)
  generalize hAe : va_A fr s.heap.size = A at hD hK ⊢
  have hA : ∀ q : Nat, s.heap.size ≤ q → A q := fun q h => by rw [← hAe]; exact Or.inr h
  have hS : va_S A s.heap s.heap [] := va_S.rf
  have hl := lv_entry ([.int x1, .int 15]) (n := 2) (Nat.le_of_ble_eq_true rfl)
  rw [lg_entry_eq]
  generalize (lg_sl ([.int x1, .int 15]) ++ List.replicate (2 - (lg_sl ([.int x1, .int 15])).length) Slot.unset).toArray = ls at hl ⊢
  have hl : lv_has ls 2 [(0, .int x1), (1, .int 15)] := hl
  refine lv_iload_n hx hb d_C_registerAt_0 rfl (lv_at hl 0 rfl) ?_
  refine lv_iload_n hx hb d_C_registerAt_1 rfl (lv_at hl 1 rfl) ?_
  refine lv_iconst (v := 5) hx hb d_C_registerAt_2 (by decide) ?_
  refine tp_ci (tp_rS (As := [.int x1, .int 15, .int 5]) (rest := []) ⟨hx, hb, hml, hown, htg⟩ (cs_C_bits_9 l E fr _ x1 ) (⟨callB_of 3 htg (tp_good0 kc_C_bits) rfl rfl rfl (htg _ ki_C) (htg _ kl_C_24) ⟨by decide, by decide, by decide +kernel⟩ ⟨Nat.le_of_ble_eq_true rfl, Nat.le_of_ble_eq_true rfl⟩, htg _ ks_C_bits⟩) hK hP hD hS hA rfl hl.1 rfl (Nat.le_of_ble_eq_true rfl) d_C_registerAt_3 ⟨Nat.le_of_ble_eq_true rfl, Nat.le_of_ble_eq_true rfl⟩) hD hS hA (fun r u H locs hw hP hD hS => ?_)
  subst r
  have hP : va_P (tp_D E) tp_cl (fr) H := hP
  have hD : va_D A (fr) := hD
  exact W.iret (v := ((x1.toUInt32 >>> (Int32.toUInt32 15 &&& Int32.toUInt32 31)).toInt32 &&& 31)) hx hb hr (fun t ht hW => ⟨⟨_, (), rfl, rfl, by rw [ht]; exact hP, hD⟩, hS.F ht⟩) hS.2.2 d_C_registerAt_6
set_option maxHeartbeats 400000 in
set_option maxRecDepth 100000 in
theorem cs_C_bits_10 (l : Launch) (E : tp_Env) (fr : va_W) (sz : Nat) (x1 : Int32)  : Met l y_C_bits w_C_bits ({ frames := 0, cells := 0, slots := 0, locals := 0 }) (va_Pc [.int x1, .int 20, .int 5] (tp_in E fr sz)) (va_Qi (fun r (_ : Unit) => r = ((x1.toUInt32 >>> (Int32.toUInt32 20 &&& Int32.toUInt32 31)).toInt32 &&& 31)) (fun _ t => tp_out E (va_A fr sz) fr t) (va_A fr sz)) 0 0 (va_A fr sz) := by
  refine Met.ofW (cc := b_C_bits) (maxL := 3) (ret := (some .int)) (by decide) rfl ?_
  intro p e s m args below meth c s₁ B hml hv
  obtain ⟨rfl, hsz, hP, hK, hD0⟩ := hv
  have hx := B.exec
  have hb := B.bytes
  have hr := B.returns
  have htg : ∀ w ∈ tp_G, w.before ([.int x1, .int 20, .int 5] : List Value).toArray s = true := fun w h => atoms_spec (ws := w_C_bits) B.pre w (List.mem_cons_of_mem _ h)
  have hown : s.vm.findClass "TwoPass$Code" = some m.cls := findClass_of_methodNamed B.named
  have hlocks := B.notSynchronized
  subst hsz
  have hD := hD0.self (sz := s.heap.size)
  generalize hAe : va_A fr s.heap.size = A at hD hK ⊢
  have hA : ∀ q : Nat, s.heap.size ≤ q → A q := fun q h => by rw [← hAe]; exact Or.inr h
  have hS : va_S A s.heap s.heap [] := va_S.rf
  have hl := lv_entry ([.int x1, .int 20, .int 5]) (n := 3) (Nat.le_of_ble_eq_true rfl)
  rw [lg_entry_eq]
  generalize (lg_sl ([.int x1, .int 20, .int 5]) ++ List.replicate (3 - (lg_sl ([.int x1, .int 20, .int 5])).length) Slot.unset).toArray = ls at hl ⊢
  have hl : lv_has ls 3 [(0, .int x1), (1, .int 20), (2, .int 5)] := hl
  refine lv_iload_n hx hb d_C_bits_0 rfl (lv_at hl 0 rfl) ?_
  refine lv_iload_n hx hb d_C_bits_1 rfl (lv_at hl 1 rfl) ?_
  refine lv_iushr (v := (x1.toUInt32 >>> (Int32.toUInt32 20 &&& Int32.toUInt32 31)).toInt32) hx hb d_C_bits_2 rfl ?_
  refine lv_iconst (v := 1) hx hb d_C_bits_3 (by decide) ?_
  refine lv_iload_n hx hb d_C_bits_4 rfl (lv_at hl 2 rfl) ?_
  refine lv_ishl hx hb d_C_bits_5 ?_
  refine tp_topi (v := 32) (by decide) ?_
  refine lv_iconst (v := 1) hx hb d_C_bits_6 (by decide) ?_
  refine lv_isub hx hb d_C_bits_7 ?_
  refine tp_topi (v := 31) (by decide) ?_
  refine lv_iand hx hb d_C_bits_8 ?_
  exact W.iret (v := ((x1.toUInt32 >>> (Int32.toUInt32 20 &&& Int32.toUInt32 31)).toInt32 &&& 31)) hx hb hr (fun t ht hW => ⟨⟨_, (), rfl, rfl, by rw [ht]; exact hP, hD⟩, hS.F ht⟩) hS.2.2 d_C_bits_9
set_option maxHeartbeats 400000 in
set_option maxRecDepth 100000 in
theorem cs_C_registerAt_3 (l : Launch) (E : tp_Env) (fr : va_W) (sz : Nat) (x1 : Int32)  : Met l y_C_registerAt w_C_registerAt ({ frames := 1, cells := 0, slots := 0, locals := 22 }) (va_Pc [.int x1, .int 20] (tp_in E fr sz)) (va_Qi (fun r (_ : Unit) => r = ((x1.toUInt32 >>> (Int32.toUInt32 20 &&& Int32.toUInt32 31)).toInt32 &&& 31)) (fun _ t => tp_out E (va_A fr sz) fr t) (va_A fr sz)) 0 0 (va_A fr sz) := by
  refine Met.ofW (cc := b_C_registerAt) (maxL := 2) (ret := (some .int)) (by decide) rfl ?_
  intro p e s m args below meth c s₁ B hml hv
  obtain ⟨rfl, hsz, hP, hK, hD0⟩ := hv
  have hx := B.exec
  have hb := B.bytes
  have hr := B.returns
  have htg : ∀ w ∈ tp_G, w.before ([.int x1, .int 20] : List Value).toArray s = true := fun w h => atoms_spec (ws := w_C_registerAt) B.pre w (List.mem_cons_of_mem _ h)
  have hown : s.vm.findClass "TwoPass$Code" = some m.cls := findClass_of_methodNamed B.named
  have hlocks := B.notSynchronized
  subst hsz
  have hD := hD0.self (sz := s.heap.size)
  generalize hAe : va_A fr s.heap.size = A at hD hK ⊢
  have hA : ∀ q : Nat, s.heap.size ≤ q → A q := fun q h => by rw [← hAe]; exact Or.inr h
  have hS : va_S A s.heap s.heap [] := va_S.rf
  have hl := lv_entry ([.int x1, .int 20]) (n := 2) (Nat.le_of_ble_eq_true rfl)
  rw [lg_entry_eq]
  generalize (lg_sl ([.int x1, .int 20]) ++ List.replicate (2 - (lg_sl ([.int x1, .int 20])).length) Slot.unset).toArray = ls at hl ⊢
  have hl : lv_has ls 2 [(0, .int x1), (1, .int 20)] := hl
  refine lv_iload_n hx hb d_C_registerAt_0 rfl (lv_at hl 0 rfl) ?_
  refine lv_iload_n hx hb d_C_registerAt_1 rfl (lv_at hl 1 rfl) ?_
  refine lv_iconst (v := 5) hx hb d_C_registerAt_2 (by decide) ?_
  refine tp_ci (tp_rS (As := [.int x1, .int 20, .int 5]) (rest := []) ⟨hx, hb, hml, hown, htg⟩ (cs_C_bits_10 l E fr _ x1 ) (⟨callB_of 3 htg (tp_good0 kc_C_bits) rfl rfl rfl (htg _ ki_C) (htg _ kl_C_24) ⟨by decide, by decide, by decide +kernel⟩ ⟨Nat.le_of_ble_eq_true rfl, Nat.le_of_ble_eq_true rfl⟩, htg _ ks_C_bits⟩) hK hP hD hS hA rfl hl.1 rfl (Nat.le_of_ble_eq_true rfl) d_C_registerAt_3 ⟨Nat.le_of_ble_eq_true rfl, Nat.le_of_ble_eq_true rfl⟩) hD hS hA (fun r u H locs hw hP hD hS => ?_)
  subst r
  have hP : va_P (tp_D E) tp_cl (fr) H := hP
  have hD : va_D A (fr) := hD
  exact W.iret (v := ((x1.toUInt32 >>> (Int32.toUInt32 20 &&& Int32.toUInt32 31)).toInt32 &&& 31)) hx hb hr (fun t ht hW => ⟨⟨_, (), rfl, rfl, by rw [ht]; exact hP, hD⟩, hS.F ht⟩) hS.2.2 d_C_registerAt_6
set_option maxHeartbeats 4000000 in
set_option maxRecDepth 100000 in
theorem a_T_writeOperand (l : Launch) (E : tp_Env) (fr : va_W) (sz : Nat) (aT aY aS : Nat) (xl xg : Int32) (aB ab : Nat) (xm xc : Int32) (nb : Nat) (fb : Nat → Int32) (ou : Nat) (hou : ou < 47) (xk xw : Int32) (hn : nb = 16 ∨ nb = 34) (hf : tp_fit fb) (hc : 0 ≤ xc.toInt ∧ xc.toInt + (tp_ol ou xk xw : Int) ≤ 34) (hk : ¬ 255 < xk) : Met l y_T_writeOperand w_T_writeOperand ({ frames := 7, cells := 2, slots := 68, locals := 209 }) (va_Pc [.ref aT, .ref (tp_ad E ou), .int xk, .int xw] (tp_in E ((aT, .inr (0, [.ref aY, .ref aS, .ref aB, .int xl, .int xg])) :: (aB, .inr (6, [.ref ab, .int 0, .int xm, .int xc])) :: (ab, .inl (tp_ty E 3, nb, .inl fb)) :: fr) sz)) (va_Qv (fun (u : Nat × Nat × (Nat → Int32) × Int32) => (u.2.1 = 16 ∨ u.2.1 = 34) ∧ tp_fit u.2.2.1 ∧ u.2.2.2.toInt = xc.toInt + (tp_ol ou xk xw : Int) ∧ u.2.2.2.toInt ≤ (u.2.1 : Int)) (fun u t => tp_out E (va_A ((aT, .inr (0, [.ref aY, .ref aS, .ref aB, .int xl, .int xg])) :: (aB, .inr (6, [.ref ab, .int 0, .int xm, .int xc])) :: (ab, .inl (tp_ty E 3, nb, .inl fb)) :: fr) sz) ((aT, .inr (0, [.ref aY, .ref aS, .ref aB, .int xl, .int xg])) :: (aB, .inr (6, [.ref u.1, .int 0, .int xm, .int u.2.2.2])) :: (u.1, .inl (tp_ty E 3, u.2.1, .inl u.2.2.1)) :: fr) t) (va_A ((aT, .inr (0, [.ref aY, .ref aS, .ref aB, .int xl, .int xg])) :: (aB, .inr (6, [.ref ab, .int 0, .int xm, .int xc])) :: (ab, .inl (tp_ty E 3, nb, .inl fb)) :: fr) sz)) 2 68 (va_A ((aT, .inr (0, [.ref aY, .ref aS, .ref aB, .int xl, .int xg])) :: (aB, .inr (6, [.ref ab, .int 0, .int xm, .int xc])) :: (ab, .inl (tp_ty E 3, nb, .inl fb)) :: fr) sz) := by
  refine Met.ofW (cc := b_T_writeOperand) (maxL := 4) (ret := none) (by decide) rfl ?_
  intro p e s m args below meth c s₁ B hml hv
  obtain ⟨rfl, hsz, hP, hK, hD0⟩ := hv
  have hx := B.exec
  have hb := B.bytes
  have hr := B.returns
  have htg : ∀ w ∈ tp_G, w.before ([.ref aT, .ref (tp_ad E ou), .int xk, .int xw] : List Value).toArray s = true := fun w h => atoms_spec (ws := w_T_writeOperand) B.pre w (List.mem_cons_of_mem _ h)
  have hown : s.vm.findClass "TwoPass" = some m.cls := findClass_of_methodNamed B.named
  have hlocks := B.notSynchronized
  subst hsz
  have hD := hD0.self (sz := s.heap.size)
  generalize hAe : va_A ((aT, .inr (0, [.ref aY, .ref aS, .ref aB, .int xl, .int xg])) :: (aB, .inr (6, [.ref ab, .int 0, .int xm, .int xc])) :: (ab, .inl (tp_ty E 3, nb, .inl fb)) :: fr) s.heap.size = A at hD hK ⊢
  have hA : ∀ q : Nat, s.heap.size ≤ q → A q := fun q h => by rw [← hAe]; exact Or.inr h
  have hS : va_S A s.heap s.heap [] := va_S.rf
  have hl := lv_entry ([.ref aT, .ref (tp_ad E ou), .int xk, .int xw]) (n := 4) (Nat.le_of_ble_eq_true rfl)
  rw [lg_entry_eq]
  generalize (lg_sl ([.ref aT, .ref (tp_ad E ou), .int xk, .int xw]) ++ List.replicate (4 - (lg_sl ([.ref aT, .ref (tp_ad E ou), .int xk, .int xw])).length) Slot.unset).toArray = ls at hl ⊢
  have hl : lv_has ls 4 [(0, .ref aT), (1, .ref (tp_ad E ou)), (2, .int xk), (3, .int xw)] := hl
  refine lv_iload_n hx hb d_T_writeOperand_0 rfl (lv_at hl 2 rfl) ?_
  by_cases h1 : xk = 100
  · refine lv_lookup (off := 51) (tgt := 52) hx hb d_T_writeOperand_1 (by decide) (by rw [h1]; decide) (by decide) ?_
    refine lv_aload_n hx hb d_T_writeOperand_52 rfl (lv_at hl 0 rfl) ?_
    refine lv_iload_n hx hb d_T_writeOperand_53 rfl (lv_at hl 3 rfl) ?_
    refine lv_bipush (v := 7) hx hb d_T_writeOperand_54 (by decide) ?_
    refine tp_ci (tp_rS (As := [.int xw, .int 7]) (rest := [.ref aT]) ⟨hx, hb, hml, hown, htg⟩ (cs_C_registerAt_1 l E ((aT, .inr (0, [.ref aY, .ref aS, .ref aB, .int xl, .int xg])) :: (aB, .inr (6, [.ref ab, .int 0, .int xm, .int xc])) :: (ab, .inl (tp_ty E 3, nb, .inl fb)) :: fr) _ xw ) (⟨callB_of 2 htg (tp_good0 kc_C_registerAt) rfl rfl rfl (htg _ ki_C) (htg _ kl_T_229) ⟨by decide, by decide, by decide +kernel⟩ ⟨Nat.le_of_ble_eq_true rfl, Nat.le_of_ble_eq_true rfl⟩, htg _ ks_C_registerAt⟩) hK hP hD hS hA rfl hl.1 rfl (Nat.le_of_ble_eq_true rfl) d_T_writeOperand_56 ⟨Nat.le_of_ble_eq_true rfl, Nat.le_of_ble_eq_true rfl⟩) hD hS hA (fun r u H locs hw hP hD hS => ?_)
    subst r
    have hP : va_P (tp_D E) tp_cl ((aT, .inr (0, [.ref aY, .ref aS, .ref aB, .int xl, .int xg])) :: (aB, .inr (6, [.ref ab, .int 0, .int xm, .int xc])) :: (ab, .inl (tp_ty E 3, nb, .inl fb)) :: fr) H := hP
    have hD : va_D A ((aT, .inr (0, [.ref aY, .ref aS, .ref aB, .int xl, .int xg])) :: (aB, .inr (6, [.ref ab, .int 0, .int xm, .int xc])) :: (ab, .inl (tp_ty E 3, nb, .inl fb)) :: fr) := hD
    refine tp_cv (tp_rV (As := [.int ((xw.toUInt32 >>> (Int32.toUInt32 7 &&& Int32.toUInt32 31)).toInt32 &&& 31)]) (rest := []) ⟨hx, hb, hml, hown, htg⟩ (a_T_writeRegister l E fr _ aT aY aS xl xg aB ab xm xc nb fb ((xw.toUInt32 >>> (Int32.toUInt32 7 &&& Int32.toUInt32 31)).toInt32 &&& 31) hn hf (tp_wo1 hc (by unfold tp_ol; rw [if_pos h1]))) (⟨callB_of 1 htg (tp_good0 kc_T_writeRegister) rfl rfl rfl (htg _ ki_T) (htg _ kl_T_232) ⟨by decide, by decide, by decide +kernel⟩ ⟨Nat.le_of_ble_eq_true rfl, Nat.le_of_ble_eq_true rfl⟩, htg _ km_T_writeRegister, htg _ kp_T_writeRegister⟩) (va_recv (ci := 0) (q0 := 0) hK.1 hP rfl rfl) hK hP hD hS hA rfl hl.1 rfl (Nat.le_of_ble_eq_true rfl) d_T_writeOperand_59 ⟨Nat.le_of_ble_eq_true rfl, Nat.le_of_ble_eq_true rfl⟩) hD hS hA (fun u H locs hw hP hD hS => ?_)
    obtain ⟨eq1, nq1, fq1, cq1⟩ := u
    obtain ⟨hnq1, hfq1, hcq1, hqq1⟩ : (nq1 = 16 ∨ nq1 = 34) ∧ tp_fit fq1 ∧ cq1.toInt = xc.toInt + 1 + (tp_dl ((xw.toUInt32 >>> (Int32.toUInt32 7 &&& Int32.toUInt32 31)).toInt32 &&& 31) : Int) ∧ cq1.toInt ≤ (nq1 : Int) := hw
    have hP : va_P (tp_D E) tp_cl ((aT, .inr (0, [.ref aY, .ref aS, .ref aB, .int xl, .int xg])) :: (aB, .inr (6, [.ref eq1, .int 0, .int xm, .int cq1])) :: (eq1, .inl (tp_ty E 3, nq1, .inl fq1)) :: fr) H := hP
    have hD : va_D A ((aT, .inr (0, [.ref aY, .ref aS, .ref aB, .int xl, .int xg])) :: (aB, .inr (6, [.ref eq1, .int 0, .int xm, .int cq1])) :: (eq1, .inl (tp_ty E 3, nq1, .inl fq1)) :: fr) := hD
    refine lv_goto (tgt := 119) hx hb d_T_writeOperand_62 (by decide) ?_
    exact W.vret hx hb hr (fun t ht hW => ⟨⟨(eq1, nq1, fq1, cq1), rfl, ⟨hnq1, hfq1, tp_wo4 hc (by unfold tp_ol; rw [if_pos h1]) hcq1, hqq1⟩, by rw [ht]; exact hP, hD⟩, hS.F ht⟩) hS.2.2 d_T_writeOperand_119
  · by_cases h2 : xk = 105
    · refine lv_lookup (off := 90) (tgt := 91) hx hb d_T_writeOperand_1 (by decide) (by rw [h2]; decide) (by decide) ?_
      refine lv_aload_n hx hb d_T_writeOperand_91 rfl (lv_at hl 0 rfl) ?_
      refine va_get (D := tp_D E) (ci := 0) (v := .ref aB) (C := qR_T) (T := qF_T) (N := 5) hx hb htg qi_T hown hK.1 hP 0 rfl rfl 2 (by decide) (htg _ kl_T_26) (fun _ h => h) rfl d_T_writeOperand_92 ?_
      refine lv_aload_n hx hb d_T_writeOperand_95 rfl (lv_at hl 1 rfl) ?_
      refine vk_getf (v := .int (tp_lay.getD ou 0)) hx hb (hK.lay (i := ou) hou) hS hown (htg _ kl_T_181) (fun _ h => h) d_T_writeOperand_96 ?_
      refine lv_iload_n hx hb d_T_writeOperand_99 rfl (lv_at hl 3 rfl) ?_
      refine tp_ci (tp_rS (As := [.int (tp_lay.getD ou 0), .int xw]) (rest := [.ref aB]) ⟨hx, hb, hml, hown, htg⟩ (a_C_numberOf l E ((aT, .inr (0, [.ref aY, .ref aS, .ref aB, .int xl, .int xg])) :: (aB, .inr (6, [.ref ab, .int 0, .int xm, .int xc])) :: (ab, .inl (tp_ty E 3, nb, .inl fb)) :: fr) _ (tp_lay.getD ou 0) xw ) (⟨callB_of 2 htg (tp_good0 kc_C_numberOf) rfl rfl rfl (htg _ ki_C) (htg _ kl_T_235) ⟨by decide, by decide, by decide +kernel⟩ ⟨Nat.le_of_ble_eq_true rfl, Nat.le_of_ble_eq_true rfl⟩, htg _ ks_C_numberOf⟩) hK hP hD hS hA rfl hl.1 rfl (Nat.le_of_ble_eq_true rfl) d_T_writeOperand_100 ⟨Nat.le_of_ble_eq_true rfl, Nat.le_of_ble_eq_true rfl⟩) hD hS hA (fun r u H locs hw hP hD hS => ?_)
      subst r
      have hP : va_P (tp_D E) tp_cl ((aT, .inr (0, [.ref aY, .ref aS, .ref aB, .int xl, .int xg])) :: (aB, .inr (6, [.ref ab, .int 0, .int xm, .int xc])) :: (ab, .inl (tp_ty E 3, nb, .inl fb)) :: fr) H := hP
      have hD : va_D A ((aT, .inr (0, [.ref aY, .ref aS, .ref aB, .int xl, .int xg])) :: (aB, .inr (6, [.ref ab, .int 0, .int xm, .int xc])) :: (ab, .inl (tp_ty E 3, nb, .inl fb)) :: fr) := hD
      have hP : va_P (tp_D E) tp_cl ((ab, .inl (tp_ty E 3, nb, .inl fb)) :: (aT, .inr (0, [.ref aY, .ref aS, .ref aB, .int xl, .int xg])) :: (aB, .inr (6, [.ref ab, .int 0, .int xm, .int xc])) :: fr) _ := tp_mvP 2 rfl hP
      have hD : va_D A ((ab, .inl (tp_ty E 3, nb, .inl fb)) :: (aT, .inr (0, [.ref aY, .ref aS, .ref aB, .int xl, .int xg])) :: (aB, .inr (6, [.ref ab, .int 0, .int xm, .int xc])) :: fr) := tp_mvD 2 rfl hD
      have hP : va_P (tp_D E) tp_cl ((aB, .inr (6, [.ref ab, .int 0, .int xm, .int xc])) :: (ab, .inl (tp_ty E 3, nb, .inl fb)) :: (aT, .inr (0, [.ref aY, .ref aS, .ref aB, .int xl, .int xg])) :: fr) _ := tp_mvP 2 rfl hP
      have hD : va_D A ((aB, .inr (6, [.ref ab, .int 0, .int xm, .int xc])) :: (ab, .inl (tp_ty E 3, nb, .inl fb)) :: (aT, .inr (0, [.ref aY, .ref aS, .ref aB, .int xl, .int xg])) :: fr) := tp_mvD 2 rfl hD
      refine tp_cr (tp_rV (As := [.int (tp_num (tp_lay.getD ou 0) xw)]) (rest := []) ⟨hx, hb, hml, hown, htg⟩ (a_SB_appI l E ((aT, .inr (0, [.ref aY, .ref aS, .ref aB, .int xl, .int xg])) :: fr) _ aB ab xm xc nb fb (tp_num (tp_lay.getD ou 0) xw) hn hf (tp_wo2 hc (by unfold tp_ol; rw [if_neg h1, if_pos h2]))) (⟨callB_of 1 htg (tp_good0 kc_SB_append_1) rfl rfl rfl (htg _ ki_SB) (htg _ kl_T_238) ⟨by decide, by decide, by decide +kernel⟩ ⟨Nat.le_of_ble_eq_true rfl, Nat.le_of_ble_eq_true rfl⟩, htg _ km_SB_append_1, htg _ kv_SB_SB_append_1⟩) (va_recv (ci := 6) (q0 := 0) hK.1 hP rfl rfl) hK hP hD hS hA rfl hl.1 rfl (Nat.le_of_ble_eq_true rfl) d_T_writeOperand_103 ⟨Nat.le_of_ble_eq_true rfl, Nat.le_of_ble_eq_true rfl⟩) hD hS hA (fun u H locs hw hP hD hS => ?_)
      obtain ⟨eq1, nq1, fq1, cq1⟩ := u
      obtain ⟨hnq1, hfq1, hcq1, hqq1⟩ : (nq1 = 16 ∨ nq1 = 34) ∧ tp_fit fq1 ∧ cq1.toInt = xc.toInt + (tp_dl (tp_num (tp_lay.getD ou 0) xw) : Int) ∧ cq1.toInt ≤ (nq1 : Int) := hw
      have hP : va_P (tp_D E) tp_cl ((aB, .inr (6, [.ref eq1, .int 0, .int xm, .int cq1])) :: (eq1, .inl (tp_ty E 3, nq1, .inl fq1)) :: (aT, .inr (0, [.ref aY, .ref aS, .ref aB, .int xl, .int xg])) :: fr) H := hP
      have hD : va_D A ((aB, .inr (6, [.ref eq1, .int 0, .int xm, .int cq1])) :: (eq1, .inl (tp_ty E 3, nq1, .inl fq1)) :: (aT, .inr (0, [.ref aY, .ref aS, .ref aB, .int xl, .int xg])) :: fr) := hD
      refine lv_pop hx hb d_T_writeOperand_106 rfl ?_
      refine lv_goto (tgt := 119) hx hb d_T_writeOperand_107 (by decide) ?_
      have hP : va_P (tp_D E) tp_cl ((eq1, .inl (tp_ty E 3, nq1, .inl fq1)) :: (aB, .inr (6, [.ref eq1, .int 0, .int xm, .int cq1])) :: (aT, .inr (0, [.ref aY, .ref aS, .ref aB, .int xl, .int xg])) :: fr) _ := tp_mvP 1 rfl hP
      have hD : va_D A ((eq1, .inl (tp_ty E 3, nq1, .inl fq1)) :: (aB, .inr (6, [.ref eq1, .int 0, .int xm, .int cq1])) :: (aT, .inr (0, [.ref aY, .ref aS, .ref aB, .int xl, .int xg])) :: fr) := tp_mvD 1 rfl hD
      have hP : va_P (tp_D E) tp_cl ((aB, .inr (6, [.ref eq1, .int 0, .int xm, .int cq1])) :: (eq1, .inl (tp_ty E 3, nq1, .inl fq1)) :: (aT, .inr (0, [.ref aY, .ref aS, .ref aB, .int xl, .int xg])) :: fr) _ := tp_mvP 1 rfl hP
      have hD : va_D A ((aB, .inr (6, [.ref eq1, .int 0, .int xm, .int cq1])) :: (eq1, .inl (tp_ty E 3, nq1, .inl fq1)) :: (aT, .inr (0, [.ref aY, .ref aS, .ref aB, .int xl, .int xg])) :: fr) := tp_mvD 1 rfl hD
      have hP : va_P (tp_D E) tp_cl ((aT, .inr (0, [.ref aY, .ref aS, .ref aB, .int xl, .int xg])) :: (aB, .inr (6, [.ref eq1, .int 0, .int xm, .int cq1])) :: (eq1, .inl (tp_ty E 3, nq1, .inl fq1)) :: fr) _ := tp_mvP 2 rfl hP
      have hD : va_D A ((aT, .inr (0, [.ref aY, .ref aS, .ref aB, .int xl, .int xg])) :: (aB, .inr (6, [.ref eq1, .int 0, .int xm, .int cq1])) :: (eq1, .inl (tp_ty E 3, nq1, .inl fq1)) :: fr) := tp_mvD 2 rfl hD
      exact tp_widen (k := 2) (n := 68) (Nat.le_of_ble_eq_true rfl) (Nat.le_of_ble_eq_true rfl) (W.vret hx hb hr (fun t ht hW => ⟨⟨(eq1, nq1, fq1, cq1), rfl, ⟨hnq1, hfq1, tp_wo5 hc (by unfold tp_ol; rw [if_neg h1, if_pos h2]) hcq1, hqq1⟩, by rw [ht]; exact hP, hD⟩, hS.F ht⟩) hS.2.2 d_T_writeOperand_119)
    · by_cases h3 : xk = 108
      · refine lv_lookup (off := 90) (tgt := 91) hx hb d_T_writeOperand_1 (by decide) (by rw [h3]; decide) (by decide) ?_
        refine lv_aload_n hx hb d_T_writeOperand_91 rfl (lv_at hl 0 rfl) ?_
        refine va_get (D := tp_D E) (ci := 0) (v := .ref aB) (C := qR_T) (T := qF_T) (N := 5) hx hb htg qi_T hown hK.1 hP 0 rfl rfl 2 (by decide) (htg _ kl_T_26) (fun _ h => h) rfl d_T_writeOperand_92 ?_
        refine lv_aload_n hx hb d_T_writeOperand_95 rfl (lv_at hl 1 rfl) ?_
        refine vk_getf (v := .int (tp_lay.getD ou 0)) hx hb (hK.lay (i := ou) hou) hS hown (htg _ kl_T_181) (fun _ h => h) d_T_writeOperand_96 ?_
        refine lv_iload_n hx hb d_T_writeOperand_99 rfl (lv_at hl 3 rfl) ?_
        refine tp_ci (tp_rS (As := [.int (tp_lay.getD ou 0), .int xw]) (rest := [.ref aB]) ⟨hx, hb, hml, hown, htg⟩ (a_C_numberOf l E ((aT, .inr (0, [.ref aY, .ref aS, .ref aB, .int xl, .int xg])) :: (aB, .inr (6, [.ref ab, .int 0, .int xm, .int xc])) :: (ab, .inl (tp_ty E 3, nb, .inl fb)) :: fr) _ (tp_lay.getD ou 0) xw ) (⟨callB_of 2 htg (tp_good0 kc_C_numberOf) rfl rfl rfl (htg _ ki_C) (htg _ kl_T_235) ⟨by decide, by decide, by decide +kernel⟩ ⟨Nat.le_of_ble_eq_true rfl, Nat.le_of_ble_eq_true rfl⟩, htg _ ks_C_numberOf⟩) hK hP hD hS hA rfl hl.1 rfl (Nat.le_of_ble_eq_true rfl) d_T_writeOperand_100 ⟨Nat.le_of_ble_eq_true rfl, Nat.le_of_ble_eq_true rfl⟩) hD hS hA (fun r u H locs hw hP hD hS => ?_)
        subst r
        have hP : va_P (tp_D E) tp_cl ((aT, .inr (0, [.ref aY, .ref aS, .ref aB, .int xl, .int xg])) :: (aB, .inr (6, [.ref ab, .int 0, .int xm, .int xc])) :: (ab, .inl (tp_ty E 3, nb, .inl fb)) :: fr) H := hP
        have hD : va_D A ((aT, .inr (0, [.ref aY, .ref aS, .ref aB, .int xl, .int xg])) :: (aB, .inr (6, [.ref ab, .int 0, .int xm, .int xc])) :: (ab, .inl (tp_ty E 3, nb, .inl fb)) :: fr) := hD
        have hP : va_P (tp_D E) tp_cl ((ab, .inl (tp_ty E 3, nb, .inl fb)) :: (aT, .inr (0, [.ref aY, .ref aS, .ref aB, .int xl, .int xg])) :: (aB, .inr (6, [.ref ab, .int 0, .int xm, .int xc])) :: fr) _ := tp_mvP 2 rfl hP
        have hD : va_D A ((ab, .inl (tp_ty E 3, nb, .inl fb)) :: (aT, .inr (0, [.ref aY, .ref aS, .ref aB, .int xl, .int xg])) :: (aB, .inr (6, [.ref ab, .int 0, .int xm, .int xc])) :: fr) := tp_mvD 2 rfl hD
        have hP : va_P (tp_D E) tp_cl ((aB, .inr (6, [.ref ab, .int 0, .int xm, .int xc])) :: (ab, .inl (tp_ty E 3, nb, .inl fb)) :: (aT, .inr (0, [.ref aY, .ref aS, .ref aB, .int xl, .int xg])) :: fr) _ := tp_mvP 2 rfl hP
        have hD : va_D A ((aB, .inr (6, [.ref ab, .int 0, .int xm, .int xc])) :: (ab, .inl (tp_ty E 3, nb, .inl fb)) :: (aT, .inr (0, [.ref aY, .ref aS, .ref aB, .int xl, .int xg])) :: fr) := tp_mvD 2 rfl hD
        refine tp_cr (tp_rV (As := [.int (tp_num (tp_lay.getD ou 0) xw)]) (rest := []) ⟨hx, hb, hml, hown, htg⟩ (a_SB_appI l E ((aT, .inr (0, [.ref aY, .ref aS, .ref aB, .int xl, .int xg])) :: fr) _ aB ab xm xc nb fb (tp_num (tp_lay.getD ou 0) xw) hn hf (tp_wo2 hc (by unfold tp_ol; rw [if_neg h1, if_neg h2, if_pos h3]))) (⟨callB_of 1 htg (tp_good0 kc_SB_append_1) rfl rfl rfl (htg _ ki_SB) (htg _ kl_T_238) ⟨by decide, by decide, by decide +kernel⟩ ⟨Nat.le_of_ble_eq_true rfl, Nat.le_of_ble_eq_true rfl⟩, htg _ km_SB_append_1, htg _ kv_SB_SB_append_1⟩) (va_recv (ci := 6) (q0 := 0) hK.1 hP rfl rfl) hK hP hD hS hA rfl hl.1 rfl (Nat.le_of_ble_eq_true rfl) d_T_writeOperand_103 ⟨Nat.le_of_ble_eq_true rfl, Nat.le_of_ble_eq_true rfl⟩) hD hS hA (fun u H locs hw hP hD hS => ?_)
        obtain ⟨eq1, nq1, fq1, cq1⟩ := u
        obtain ⟨hnq1, hfq1, hcq1, hqq1⟩ : (nq1 = 16 ∨ nq1 = 34) ∧ tp_fit fq1 ∧ cq1.toInt = xc.toInt + (tp_dl (tp_num (tp_lay.getD ou 0) xw) : Int) ∧ cq1.toInt ≤ (nq1 : Int) := hw
        have hP : va_P (tp_D E) tp_cl ((aB, .inr (6, [.ref eq1, .int 0, .int xm, .int cq1])) :: (eq1, .inl (tp_ty E 3, nq1, .inl fq1)) :: (aT, .inr (0, [.ref aY, .ref aS, .ref aB, .int xl, .int xg])) :: fr) H := hP
        have hD : va_D A ((aB, .inr (6, [.ref eq1, .int 0, .int xm, .int cq1])) :: (eq1, .inl (tp_ty E 3, nq1, .inl fq1)) :: (aT, .inr (0, [.ref aY, .ref aS, .ref aB, .int xl, .int xg])) :: fr) := hD
        refine lv_pop hx hb d_T_writeOperand_106 rfl ?_
        refine lv_goto (tgt := 119) hx hb d_T_writeOperand_107 (by decide) ?_
        have hP : va_P (tp_D E) tp_cl ((eq1, .inl (tp_ty E 3, nq1, .inl fq1)) :: (aB, .inr (6, [.ref eq1, .int 0, .int xm, .int cq1])) :: (aT, .inr (0, [.ref aY, .ref aS, .ref aB, .int xl, .int xg])) :: fr) _ := tp_mvP 1 rfl hP
        have hD : va_D A ((eq1, .inl (tp_ty E 3, nq1, .inl fq1)) :: (aB, .inr (6, [.ref eq1, .int 0, .int xm, .int cq1])) :: (aT, .inr (0, [.ref aY, .ref aS, .ref aB, .int xl, .int xg])) :: fr) := tp_mvD 1 rfl hD
        have hP : va_P (tp_D E) tp_cl ((aB, .inr (6, [.ref eq1, .int 0, .int xm, .int cq1])) :: (eq1, .inl (tp_ty E 3, nq1, .inl fq1)) :: (aT, .inr (0, [.ref aY, .ref aS, .ref aB, .int xl, .int xg])) :: fr) _ := tp_mvP 1 rfl hP
        have hD : va_D A ((aB, .inr (6, [.ref eq1, .int 0, .int xm, .int cq1])) :: (eq1, .inl (tp_ty E 3, nq1, .inl fq1)) :: (aT, .inr (0, [.ref aY, .ref aS, .ref aB, .int xl, .int xg])) :: fr) := tp_mvD 1 rfl hD
        have hP : va_P (tp_D E) tp_cl ((aT, .inr (0, [.ref aY, .ref aS, .ref aB, .int xl, .int xg])) :: (aB, .inr (6, [.ref eq1, .int 0, .int xm, .int cq1])) :: (eq1, .inl (tp_ty E 3, nq1, .inl fq1)) :: fr) _ := tp_mvP 2 rfl hP
        have hD : va_D A ((aT, .inr (0, [.ref aY, .ref aS, .ref aB, .int xl, .int xg])) :: (aB, .inr (6, [.ref eq1, .int 0, .int xm, .int cq1])) :: (eq1, .inl (tp_ty E 3, nq1, .inl fq1)) :: fr) := tp_mvD 2 rfl hD
        exact tp_widen (k := 2) (n := 68) (Nat.le_of_ble_eq_true rfl) (Nat.le_of_ble_eq_true rfl) (W.vret hx hb hr (fun t ht hW => ⟨⟨(eq1, nq1, fq1, cq1), rfl, ⟨hnq1, hfq1, tp_wo5 hc (by unfold tp_ol; rw [if_neg h1, if_neg h2, if_pos h3]) hcq1, hqq1⟩, by rw [ht]; exact hP, hD⟩, hS.F ht⟩) hS.2.2 d_T_writeOperand_119)
      · by_cases h4 : xk = 115
        · refine lv_lookup (off := 64) (tgt := 65) hx hb d_T_writeOperand_1 (by decide) (by rw [h4]; decide) (by decide) ?_
          refine lv_aload_n hx hb d_T_writeOperand_65 rfl (lv_at hl 0 rfl) ?_
          refine lv_iload_n hx hb d_T_writeOperand_66 rfl (lv_at hl 3 rfl) ?_
          refine lv_bipush (v := 15) hx hb d_T_writeOperand_67 (by decide) ?_
          refine tp_ci (tp_rS (As := [.int xw, .int 15]) (rest := [.ref aT]) ⟨hx, hb, hml, hown, htg⟩ (cs_C_registerAt_2 l E ((aT, .inr (0, [.ref aY, .ref aS, .ref aB, .int xl, .int xg])) :: (aB, .inr (6, [.ref ab, .int 0, .int xm, .int xc])) :: (ab, .inl (tp_ty E 3, nb, .inl fb)) :: fr) _ xw ) (⟨callB_of 2 htg (tp_good0 kc_C_registerAt) rfl rfl rfl (htg _ ki_C) (htg _ kl_T_229) ⟨by decide, by decide, by decide +kernel⟩ ⟨Nat.le_of_ble_eq_true rfl, Nat.le_of_ble_eq_true rfl⟩, htg _ ks_C_registerAt⟩) hK hP hD hS hA rfl hl.1 rfl (Nat.le_of_ble_eq_true rfl) d_T_writeOperand_69 ⟨Nat.le_of_ble_eq_true rfl, Nat.le_of_ble_eq_true rfl⟩) hD hS hA (fun r u H locs hw hP hD hS => ?_)
          subst r
          have hP : va_P (tp_D E) tp_cl ((aT, .inr (0, [.ref aY, .ref aS, .ref aB, .int xl, .int xg])) :: (aB, .inr (6, [.ref ab, .int 0, .int xm, .int xc])) :: (ab, .inl (tp_ty E 3, nb, .inl fb)) :: fr) H := hP
          have hD : va_D A ((aT, .inr (0, [.ref aY, .ref aS, .ref aB, .int xl, .int xg])) :: (aB, .inr (6, [.ref ab, .int 0, .int xm, .int xc])) :: (ab, .inl (tp_ty E 3, nb, .inl fb)) :: fr) := hD
          refine tp_cv (tp_rV (As := [.int ((xw.toUInt32 >>> (Int32.toUInt32 15 &&& Int32.toUInt32 31)).toInt32 &&& 31)]) (rest := []) ⟨hx, hb, hml, hown, htg⟩ (a_T_writeRegister l E fr _ aT aY aS xl xg aB ab xm xc nb fb ((xw.toUInt32 >>> (Int32.toUInt32 15 &&& Int32.toUInt32 31)).toInt32 &&& 31) hn hf (tp_wo1 hc (by unfold tp_ol; rw [if_neg h1, if_neg h2, if_neg h3, if_pos h4]))) (⟨callB_of 1 htg (tp_good0 kc_T_writeRegister) rfl rfl rfl (htg _ ki_T) (htg _ kl_T_232) ⟨by decide, by decide, by decide +kernel⟩ ⟨Nat.le_of_ble_eq_true rfl, Nat.le_of_ble_eq_true rfl⟩, htg _ km_T_writeRegister, htg _ kp_T_writeRegister⟩) (va_recv (ci := 0) (q0 := 0) hK.1 hP rfl rfl) hK hP hD hS hA rfl hl.1 rfl (Nat.le_of_ble_eq_true rfl) d_T_writeOperand_72 ⟨Nat.le_of_ble_eq_true rfl, Nat.le_of_ble_eq_true rfl⟩) hD hS hA (fun u H locs hw hP hD hS => ?_)
          obtain ⟨eq1, nq1, fq1, cq1⟩ := u
          obtain ⟨hnq1, hfq1, hcq1, hqq1⟩ : (nq1 = 16 ∨ nq1 = 34) ∧ tp_fit fq1 ∧ cq1.toInt = xc.toInt + 1 + (tp_dl ((xw.toUInt32 >>> (Int32.toUInt32 15 &&& Int32.toUInt32 31)).toInt32 &&& 31) : Int) ∧ cq1.toInt ≤ (nq1 : Int) := hw
          have hP : va_P (tp_D E) tp_cl ((aT, .inr (0, [.ref aY, .ref aS, .ref aB, .int xl, .int xg])) :: (aB, .inr (6, [.ref eq1, .int 0, .int xm, .int cq1])) :: (eq1, .inl (tp_ty E 3, nq1, .inl fq1)) :: fr) H := hP
          have hD : va_D A ((aT, .inr (0, [.ref aY, .ref aS, .ref aB, .int xl, .int xg])) :: (aB, .inr (6, [.ref eq1, .int 0, .int xm, .int cq1])) :: (eq1, .inl (tp_ty E 3, nq1, .inl fq1)) :: fr) := hD
          refine lv_goto (tgt := 119) hx hb d_T_writeOperand_75 (by decide) ?_
          exact W.vret hx hb hr (fun t ht hW => ⟨⟨(eq1, nq1, fq1, cq1), rfl, ⟨hnq1, hfq1, tp_wo4 hc (by unfold tp_ol; rw [if_neg h1, if_neg h2, if_neg h3, if_pos h4]) hcq1, hqq1⟩, by rw [ht]; exact hP, hD⟩, hS.F ht⟩) hS.2.2 d_T_writeOperand_119
        · by_cases h5 : xk = 116
          · refine lv_lookup (off := 77) (tgt := 78) hx hb d_T_writeOperand_1 (by decide) (by rw [h5]; decide) (by decide) ?_
            refine lv_aload_n hx hb d_T_writeOperand_78 rfl (lv_at hl 0 rfl) ?_
            refine lv_iload_n hx hb d_T_writeOperand_79 rfl (lv_at hl 3 rfl) ?_
            refine lv_bipush (v := 20) hx hb d_T_writeOperand_80 (by decide) ?_
            refine tp_ci (tp_rS (As := [.int xw, .int 20]) (rest := [.ref aT]) ⟨hx, hb, hml, hown, htg⟩ (cs_C_registerAt_3 l E ((aT, .inr (0, [.ref aY, .ref aS, .ref aB, .int xl, .int xg])) :: (aB, .inr (6, [.ref ab, .int 0, .int xm, .int xc])) :: (ab, .inl (tp_ty E 3, nb, .inl fb)) :: fr) _ xw ) (⟨callB_of 2 htg (tp_good0 kc_C_registerAt) rfl rfl rfl (htg _ ki_C) (htg _ kl_T_229) ⟨by decide, by decide, by decide +kernel⟩ ⟨Nat.le_of_ble_eq_true rfl, Nat.le_of_ble_eq_true rfl⟩, htg _ ks_C_registerAt⟩) hK hP hD hS hA rfl hl.1 rfl (Nat.le_of_ble_eq_true rfl) d_T_writeOperand_82 ⟨Nat.le_of_ble_eq_true rfl, Nat.le_of_ble_eq_true rfl⟩) hD hS hA (fun r u H locs hw hP hD hS => ?_)
            subst r
            have hP : va_P (tp_D E) tp_cl ((aT, .inr (0, [.ref aY, .ref aS, .ref aB, .int xl, .int xg])) :: (aB, .inr (6, [.ref ab, .int 0, .int xm, .int xc])) :: (ab, .inl (tp_ty E 3, nb, .inl fb)) :: fr) H := hP
            have hD : va_D A ((aT, .inr (0, [.ref aY, .ref aS, .ref aB, .int xl, .int xg])) :: (aB, .inr (6, [.ref ab, .int 0, .int xm, .int xc])) :: (ab, .inl (tp_ty E 3, nb, .inl fb)) :: fr) := hD
            refine tp_cv (tp_rV (As := [.int ((xw.toUInt32 >>> (Int32.toUInt32 20 &&& Int32.toUInt32 31)).toInt32 &&& 31)]) (rest := []) ⟨hx, hb, hml, hown, htg⟩ (a_T_writeRegister l E fr _ aT aY aS xl xg aB ab xm xc nb fb ((xw.toUInt32 >>> (Int32.toUInt32 20 &&& Int32.toUInt32 31)).toInt32 &&& 31) hn hf (tp_wo1 hc (by unfold tp_ol; rw [if_neg h1, if_neg h2, if_neg h3, if_neg h4, if_pos h5]))) (⟨callB_of 1 htg (tp_good0 kc_T_writeRegister) rfl rfl rfl (htg _ ki_T) (htg _ kl_T_232) ⟨by decide, by decide, by decide +kernel⟩ ⟨Nat.le_of_ble_eq_true rfl, Nat.le_of_ble_eq_true rfl⟩, htg _ km_T_writeRegister, htg _ kp_T_writeRegister⟩) (va_recv (ci := 0) (q0 := 0) hK.1 hP rfl rfl) hK hP hD hS hA rfl hl.1 rfl (Nat.le_of_ble_eq_true rfl) d_T_writeOperand_85 ⟨Nat.le_of_ble_eq_true rfl, Nat.le_of_ble_eq_true rfl⟩) hD hS hA (fun u H locs hw hP hD hS => ?_)
            obtain ⟨eq1, nq1, fq1, cq1⟩ := u
            obtain ⟨hnq1, hfq1, hcq1, hqq1⟩ : (nq1 = 16 ∨ nq1 = 34) ∧ tp_fit fq1 ∧ cq1.toInt = xc.toInt + 1 + (tp_dl ((xw.toUInt32 >>> (Int32.toUInt32 20 &&& Int32.toUInt32 31)).toInt32 &&& 31) : Int) ∧ cq1.toInt ≤ (nq1 : Int) := hw
            have hP : va_P (tp_D E) tp_cl ((aT, .inr (0, [.ref aY, .ref aS, .ref aB, .int xl, .int xg])) :: (aB, .inr (6, [.ref eq1, .int 0, .int xm, .int cq1])) :: (eq1, .inl (tp_ty E 3, nq1, .inl fq1)) :: fr) H := hP
            have hD : va_D A ((aT, .inr (0, [.ref aY, .ref aS, .ref aB, .int xl, .int xg])) :: (aB, .inr (6, [.ref eq1, .int 0, .int xm, .int cq1])) :: (eq1, .inl (tp_ty E 3, nq1, .inl fq1)) :: fr) := hD
            refine lv_goto (tgt := 119) hx hb d_T_writeOperand_88 (by decide) ?_
            exact W.vret hx hb hr (fun t ht hW => ⟨⟨(eq1, nq1, fq1, cq1), rfl, ⟨hnq1, hfq1, tp_wo4 hc (by unfold tp_ol; rw [if_neg h1, if_neg h2, if_neg h3, if_neg h4, if_pos h5]) hcq1, hqq1⟩, by rw [ht]; exact hP, hD⟩, hS.F ht⟩) hS.2.2 d_T_writeOperand_119
          · refine lv_lookup (off := 109) (tgt := 110) hx hb d_T_writeOperand_1 (by decide) (by show (if (100 : Int) = xk.toInt then (51 : Int) else if (105 : Int) = xk.toInt then (90 : Int) else if (108 : Int) = xk.toInt then (90 : Int) else if (115 : Int) = xk.toInt then (64 : Int) else if (116 : Int) = xk.toInt then (77 : Int) else 109) = _; rw [if_neg (fun q => tp_neI (v := 100) (n := 100) rfl h1 q.symm), if_neg (fun q => tp_neI (v := 105) (n := 105) rfl h2 q.symm), if_neg (fun q => tp_neI (v := 108) (n := 108) rfl h3 q.symm), if_neg (fun q => tp_neI (v := 115) (n := 115) rfl h4 q.symm), if_neg (fun q => tp_neI (v := 116) (n := 116) rfl h5 q.symm)]) (by decide) ?_
            refine lv_aload_n hx hb d_T_writeOperand_110 rfl (lv_at hl 0 rfl) ?_
            refine va_get (D := tp_D E) (ci := 0) (v := .ref aB) (C := qR_T) (T := qF_T) (N := 5) hx hb htg qi_T hown hK.1 hP 0 rfl rfl 2 (by decide) (htg _ kl_T_26) (fun _ h => h) rfl d_T_writeOperand_111 ?_
            refine lv_iload_n hx hb d_T_writeOperand_114 rfl (lv_at hl 2 rfl) ?_
            have hP : va_P (tp_D E) tp_cl ((ab, .inl (tp_ty E 3, nb, .inl fb)) :: (aT, .inr (0, [.ref aY, .ref aS, .ref aB, .int xl, .int xg])) :: (aB, .inr (6, [.ref ab, .int 0, .int xm, .int xc])) :: fr) _ := tp_mvP 2 rfl hP
            have hD : va_D A ((ab, .inl (tp_ty E 3, nb, .inl fb)) :: (aT, .inr (0, [.ref aY, .ref aS, .ref aB, .int xl, .int xg])) :: (aB, .inr (6, [.ref ab, .int 0, .int xm, .int xc])) :: fr) := tp_mvD 2 rfl hD
            have hP : va_P (tp_D E) tp_cl ((aB, .inr (6, [.ref ab, .int 0, .int xm, .int xc])) :: (ab, .inl (tp_ty E 3, nb, .inl fb)) :: (aT, .inr (0, [.ref aY, .ref aS, .ref aB, .int xl, .int xg])) :: fr) _ := tp_mvP 2 rfl hP
            have hD : va_D A ((aB, .inr (6, [.ref ab, .int 0, .int xm, .int xc])) :: (ab, .inl (tp_ty E 3, nb, .inl fb)) :: (aT, .inr (0, [.ref aY, .ref aS, .ref aB, .int xl, .int xg])) :: fr) := tp_mvD 2 rfl hD
            refine tp_cr (tp_rV (As := [.int xk]) (rest := []) ⟨hx, hb, hml, hown, htg⟩ (s_SB_appC l E ((aT, .inr (0, [.ref aY, .ref aS, .ref aB, .int xl, .int xg])) :: fr) _ aB ab xm xc nb fb xk hn hf (tp_wo3 hc (by unfold tp_ol; rw [if_neg h1, if_neg h2, if_neg h3, if_neg h4, if_neg h5])) hk) (⟨callB_of 1 htg (tp_good0 kc_SB_append_0) rfl rfl rfl (htg _ ki_SB) (htg _ kl_T_154) ⟨by decide, by decide, by decide +kernel⟩ ⟨Nat.le_of_ble_eq_true rfl, Nat.le_of_ble_eq_true rfl⟩, htg _ km_SB_append_0, htg _ kv_SB_SB_append_0⟩) (va_recv (ci := 6) (q0 := 0) hK.1 hP rfl rfl) hK hP hD hS hA rfl hl.1 rfl (Nat.le_of_ble_eq_true rfl) d_T_writeOperand_115 ⟨Nat.le_of_ble_eq_true rfl, Nat.le_of_ble_eq_true rfl⟩) hD hS hA (fun u H locs hw hP hD hS => ?_)
            obtain ⟨eq1, nq1, fq1⟩ := u
            obtain ⟨hnq1, hfq1, hqq1⟩ : (nq1 = 16 ∨ nq1 = 34) ∧ tp_fit fq1 ∧ (xc + 1).toInt ≤ (nq1 : Int) := hw
            have hP : va_P (tp_D E) tp_cl ((aB, .inr (6, [.ref eq1, .int 0, .int xm, .int (xc + 1)])) :: (eq1, .inl (tp_ty E 3, nq1, .inl fq1)) :: (aT, .inr (0, [.ref aY, .ref aS, .ref aB, .int xl, .int xg])) :: fr) H := hP
            have hD : va_D A ((aB, .inr (6, [.ref eq1, .int 0, .int xm, .int (xc + 1)])) :: (eq1, .inl (tp_ty E 3, nq1, .inl fq1)) :: (aT, .inr (0, [.ref aY, .ref aS, .ref aB, .int xl, .int xg])) :: fr) := hD
            refine lv_pop hx hb d_T_writeOperand_118 rfl ?_
            have hP : va_P (tp_D E) tp_cl ((eq1, .inl (tp_ty E 3, nq1, .inl fq1)) :: (aB, .inr (6, [.ref eq1, .int 0, .int xm, .int (xc + 1)])) :: (aT, .inr (0, [.ref aY, .ref aS, .ref aB, .int xl, .int xg])) :: fr) _ := tp_mvP 1 rfl hP
            have hD : va_D A ((eq1, .inl (tp_ty E 3, nq1, .inl fq1)) :: (aB, .inr (6, [.ref eq1, .int 0, .int xm, .int (xc + 1)])) :: (aT, .inr (0, [.ref aY, .ref aS, .ref aB, .int xl, .int xg])) :: fr) := tp_mvD 1 rfl hD
            have hP : va_P (tp_D E) tp_cl ((aB, .inr (6, [.ref eq1, .int 0, .int xm, .int (xc + 1)])) :: (eq1, .inl (tp_ty E 3, nq1, .inl fq1)) :: (aT, .inr (0, [.ref aY, .ref aS, .ref aB, .int xl, .int xg])) :: fr) _ := tp_mvP 1 rfl hP
            have hD : va_D A ((aB, .inr (6, [.ref eq1, .int 0, .int xm, .int (xc + 1)])) :: (eq1, .inl (tp_ty E 3, nq1, .inl fq1)) :: (aT, .inr (0, [.ref aY, .ref aS, .ref aB, .int xl, .int xg])) :: fr) := tp_mvD 1 rfl hD
            have hP : va_P (tp_D E) tp_cl ((aT, .inr (0, [.ref aY, .ref aS, .ref aB, .int xl, .int xg])) :: (aB, .inr (6, [.ref eq1, .int 0, .int xm, .int (xc + 1)])) :: (eq1, .inl (tp_ty E 3, nq1, .inl fq1)) :: fr) _ := tp_mvP 2 rfl hP
            have hD : va_D A ((aT, .inr (0, [.ref aY, .ref aS, .ref aB, .int xl, .int xg])) :: (aB, .inr (6, [.ref eq1, .int 0, .int xm, .int (xc + 1)])) :: (eq1, .inl (tp_ty E 3, nq1, .inl fq1)) :: fr) := tp_mvD 2 rfl hD
            exact tp_widen (k := 2) (n := 68) (Nat.le_of_ble_eq_true rfl) (Nat.le_of_ble_eq_true rfl) (W.vret hx hb hr (fun t ht hW => ⟨⟨(eq1, nq1, fq1, (xc + 1)), rfl, ⟨hnq1, hfq1, tp_wo6 hc (by unfold tp_ol; rw [if_neg h1, if_neg h2, if_neg h3, if_neg h4, if_neg h5]), hqq1⟩, by rw [ht]; exact hP, hD⟩, hS.F ht⟩) hS.2.2 d_T_writeOperand_119)
