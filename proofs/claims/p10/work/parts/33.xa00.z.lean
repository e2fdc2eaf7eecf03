set_option maxHeartbeats 4000000 in
set_option maxRecDepth 100000 in
theorem x_AR_copyOf (l : Launch) (E : tp_Env) (fr : va_W) (sz : Nat) (ab : Nat) (fb : Nat → Int32) (hf : tp_fit fb) : Met l y_AR_copyOf_0 w_AR_copyOf_0 ({ frames := 1, cells := 1, slots := 34, locals := 100 }) (va_Pc [.ref ab, .int 34] (tp_in E ((ab, .inl (tp_ty E 3, 16, .inl fb)) :: fr) sz)) (va_Qr (fun (u : Nat × (Nat → Int32)) => tp_fit u.2 ∧ ∀ j : Nat, j < 16 → u.2 j = fb j) (fun u q t => q = (fun (u : Nat × (Nat → Int32)) => u.1) u ∧ tp_out E (va_A ((ab, .inl (tp_ty E 3, 16, .inl fb)) :: fr) sz) ((u.1, .inl (tp_ty E 3, 34, .inl u.2)) :: (ab, .inl (tp_ty E 3, 16, .inl fb)) :: fr) t) (va_A ((ab, .inl (tp_ty E 3, 16, .inl fb)) :: fr) sz)) 1 34 (va_A ((ab, .inl (tp_ty E 3, 16, .inl fb)) :: fr) sz) := by
  refine Met.ofW (cc := b_AR_copyOf_0) (maxL := 3) (ret := (some (.array .byte))) (by decide) rfl ?_
  intro p e s m args below meth c s₁ B hml hv
  obtain ⟨rfl, hsz, hP, hK, hD0⟩ := hv
  have hx := B.exec
  have hb := B.bytes
  have hr := B.returns
  have htg : ∀ w ∈ tp_G, w.before ([.ref ab, .int 34] : List Value).toArray s = true := fun w h => atoms_spec (ws := w_AR_copyOf_0) B.pre w (List.mem_cons_of_mem _ h)
  have hown : s.vm.findClass "java/util/Arrays" = some m.cls := findClass_of_methodNamed B.named
  have hlocks := B.notSynchronized
  subst hsz
  have hD := hD0.self (sz := s.heap.size)
  generalize hAe : va_A ((ab, .inl (tp_ty E 3, 16, .inl fb)) :: fr) s.heap.size = A at hD hK ⊢
  have hA : ∀ q : Nat, s.heap.size ≤ q → A q := fun q h => by rw [← hAe]; exact Or.inr h
  have hS : va_S A s.heap s.heap [] := va_S.rf
  have hl := lv_entry ([.ref ab, .int 34]) (n := 3) (Nat.le_of_ble_eq_true rfl)
  rw [lg_entry_eq]
  generalize (lg_sl ([.ref ab, .int 34]) ++ List.replicate (3 - (lg_sl ([.ref ab, .int 34])).length) Slot.unset).toArray = ls at hl ⊢
  have hl : lv_has ls 3 [(0, .ref ab), (1, .int 34)] := hl
  refine lv_iload_n hx hb d_AR_copyOf_0_0 rfl (lv_at hl 1 rfl) ?_
  refine lv_aload_n hx hb d_AR_copyOf_0_1 rfl (lv_at hl 0 rfl) ?_
  refine va_alen (D := tp_D E) (v := 16) hx hb hK.1 hP 0 3 rfl rfl rfl d_AR_copyOf_0_2 ?_
  refine lv_icmp_ne (tgt := 14) hx hb d_AR_copyOf_0_3 (by decide) (fun _ => ?_) (fun h => absurd h (by decide))
  refine lv_iload_n hx hb d_AR_copyOf_0_14 rfl (lv_at hl 1 rfl) ?_
  refine tp_newa 3 (atype := .byte) (ty := .byte) (a0 := (34, .inl (fun _ => 0))) (N' := 34) hx hb (htg _ kar_B) rfl rfl (fun _ h => by cases h) hK hP hD hS hA (fun _ => rfl) (by decide) (by decide) (by decide) (Nat.le_of_ble_eq_true rfl) (Nat.le_of_ble_eq_true rfl) d_AR_copyOf_0_15 (fun q1 H hP hD hS => ?_)
  have hP : va_P (tp_D E) tp_cl ((q1, .inl (tp_ty E 3, 34, .inl (fun _ => 0))) :: (ab, .inl (tp_ty E 3, 16, .inl fb)) :: fr) H := hP
  have hD : va_D A ((q1, .inl (tp_ty E 3, 34, .inl (fun _ => 0))) :: (ab, .inl (tp_ty E 3, 16, .inl fb)) :: fr) := hD
  refine lv_astore_n (lv' := [(2, .ref q1), (0, .ref ab), (1, .int 34)]) hx hb d_AR_copyOf_0_17 rfl hl (by decide) rfl (fun ls hl => ?_)
  refine lv_aload_n hx hb d_AR_copyOf_0_18 rfl (lv_at hl 1 rfl) ?_
  refine lv_iconst (v := 0) hx hb d_AR_copyOf_0_19 (by decide) ?_
  refine lv_aload_n hx hb d_AR_copyOf_0_20 rfl (lv_at hl 0 rfl) ?_
  refine lv_iconst (v := 0) hx hb d_AR_copyOf_0_21 (by decide) ?_
  refine lv_aload_n hx hb d_AR_copyOf_0_22 rfl (lv_at hl 1 rfl) ?_
  refine va_alen (D := tp_D E) (v := 16) hx hb hK.1 hP 1 3 rfl rfl rfl d_AR_copyOf_0_23 ?_
  refine lv_iload_n hx hb d_AR_copyOf_0_24 rfl (lv_at hl 2 rfl) ?_
  refine va_mmin hx hb (by rw [hml]; exact hl.1.symm) hown (htg _ kl_AR_304) (htg _ ks_MA_min) (htg _ ki_MA) (htg _ kc_MA_min) (Nat.le_of_ble_eq_true rfl) (Nat.le_of_ble_eq_true rfl) (Nat.le_of_ble_eq_true rfl) (Nat.le_of_ble_eq_true rfl) d_AR_copyOf_0_25 ?_
  refine tp_topi (v := 16) (by decide) ?_
  refine va_copyi (ty := .byte) hx hb (by rw [hml]; exact hl.1.symm) hown (htg _ kl_AR_150) (htg _ kny_copy) (htg _ kns_copy) (htg _ ki_SY) hK.1 hP hD hS 1 0 3 3 rfl rfl rfl rfl rfl (by decide) (by decide) (by decide) (by decide) (by decide) (fun i _ => hf _) (Nat.le_of_ble_eq_true rfl) (Nat.le_of_ble_eq_true rfl) d_AR_copyOf_0_28 (fun H locs hP hD hS => ?_)
  have hP : va_P (tp_D E) tp_cl ((q1, .inl (tp_ty E 3, 34, .inl (va_cpy fb (fun _ => 0) 0 0 16))) :: (ab, .inl (tp_ty E 3, 16, .inl fb)) :: fr) H := hP
  have hD : va_D A ((q1, .inl (tp_ty E 3, 34, .inl (va_cpy fb (fun _ => 0) 0 0 16))) :: (ab, .inl (tp_ty E 3, 16, .inl fb)) :: fr) := hD
  refine lv_aload_n hx hb d_AR_copyOf_0_31 rfl (lv_at hl 0 rfl) ?_
  exact W.aret (v := .ref q1) hx hb hr (Or.inr ⟨_, rfl⟩) (Or.inr ⟨_, rfl⟩) (fun t ht hW => ⟨⟨(q1, (va_cpy fb (fun _ => 0) 0 0 16)), _, rfl, ⟨tp_fitcpy hf tp_fit0, fun j h => (sf_cpy h : va_cpy fb (fun _ => 0) 0 0 16 j = fb j)⟩, rfl, by rw [ht]; exact hP, hD⟩, hS.F ht⟩) hS.2.2 d_AR_copyOf_0_32
set_option maxHeartbeats 4000000 in
set_option maxRecDepth 100000 in
theorem x_AS_ensure (l : Launch) (E : tp_Env) (fr : va_W) (sz : Nat) (aB ab : Nat) (xm xc : Int32) (mn : Int32) (nb : Nat) (fb : Nat → Int32) (hn : nb = 16 ∨ nb = 34) (hm : 0 ≤ mn.toInt ∧ mn.toInt ≤ 34) (hf : tp_fit fb) : Met l y_AS_ensureCapacityInternal w_AS_ensureCapacityInternal ({ frames := 3, cells := 1, slots := 34, locals := 122 }) (va_Pc [.ref aB, .int mn] (tp_in E ((aB, .inr (6, [.ref ab, .int 0, .int xm, .int xc])) :: (ab, .inl (tp_ty E 3, nb, .inl fb)) :: fr) sz)) (va_Qv (fun (u : Nat × Nat × (Nat → Int32)) => (u.2.1 = 16 ∨ u.2.1 = 34) ∧ mn.toInt ≤ (u.2.1 : Int) ∧ tp_fit u.2.2 ∧ ∀ j : Nat, j < nb → u.2.2 j = fb j) (fun u t => tp_out E (va_A ((aB, .inr (6, [.ref ab, .int 0, .int xm, .int xc])) :: (ab, .inl (tp_ty E 3, nb, .inl fb)) :: fr) sz) ((aB, .inr (6, [.ref u.1, .int 0, .int xm, .int xc])) :: (u.1, .inl (tp_ty E 3, u.2.1, .inl u.2.2)) :: fr) t) (va_A ((aB, .inr (6, [.ref ab, .int 0, .int xm, .int xc])) :: (ab, .inl (tp_ty E 3, nb, .inl fb)) :: fr) sz)) 1 34 (va_A ((aB, .inr (6, [.ref ab, .int 0, .int xm, .int xc])) :: (ab, .inl (tp_ty E 3, nb, .inl fb)) :: fr) sz) := by
  refine Met.ofW (cc := b_AS_ensureCapacityInternal) (maxL := 3) (ret := none) (by decide) rfl ?_
  intro p e s m args below meth c s₁ B hml hv
  obtain ⟨rfl, hsz, hP, hK, hD0⟩ := hv
  have hx := B.exec
  have hb := B.bytes
  have hr := B.returns
  have htg : ∀ w ∈ tp_G, w.before ([.ref aB, .int mn] : List Value).toArray s = true := fun w h => atoms_spec (ws := w_AS_ensureCapacityInternal) B.pre w (List.mem_cons_of_mem _ h)
  have hown : s.vm.findClass "java/lang/AbstractStringBuilder" = some m.cls := findClass_of_methodNamed B.named
  have hlocks := B.notSynchronized
  subst hsz
  have hD := hD0.self (sz := s.heap.size)
  generalize hAe : va_A ((aB, .inr (6, [.ref ab, .int 0, .int xm, .int xc])) :: (ab, .inl (tp_ty E 3, nb, .inl fb)) :: fr) s.heap.size = A at hD hK ⊢
  have hA : ∀ q : Nat, s.heap.size ≤ q → A q := fun q h => by rw [← hAe]; exact Or.inr h
  have hS : va_S A s.heap s.heap [] := va_S.rf
  have hl := lv_entry ([.ref aB, .int mn]) (n := 3) (Nat.le_of_ble_eq_true rfl)
  rw [lg_entry_eq]
  generalize (lg_sl ([.ref aB, .int mn]) ++ List.replicate (3 - (lg_sl ([.ref aB, .int mn])).length) Slot.unset).toArray = ls at hl ⊢
  have hl : lv_has ls 3 [(0, .ref aB), (1, .int mn)] := hl
  rcases hn with rfl | rfl
  · refine lv_aload_n hx hb d_AS_ensureCapacityInternal_0 rfl (lv_at hl 0 rfl) ?_
    refine va_get (D := tp_D E) (ci := 6) (v := .ref ab) (C := qR_SB) (T := qF_SB) (N := 4) hx hb htg qi_SB hown hK.1 hP 0 rfl rfl 0 (by decide) (htg _ kl_AS_15) (fun _ h => h) rfl d_AS_ensureCapacityInternal_1 ?_
    refine va_alen (D := tp_D E) (v := 16) hx hb hK.1 hP 1 3 rfl rfl rfl d_AS_ensureCapacityInternal_4 ?_
    refine lv_aload_n hx hb d_AS_ensureCapacityInternal_5 rfl (lv_at hl 0 rfl) ?_
    refine va_get (D := tp_D E) (ci := 6) (v := .int 0) (C := qR_SB) (T := qF_SB) (N := 4) hx hb htg qi_SB hown hK.1 hP 0 rfl rfl 1 (by decide) (htg _ kl_AS_22) (fun _ h => h) rfl d_AS_ensureCapacityInternal_6 ?_
    refine lv_ishr hx hb d_AS_ensureCapacityInternal_9 ?_
    refine tp_topi (v := 16) (by decide) ?_
    refine lv_istore_n (lv' := [(2, .int 16), (0, .ref aB), (1, .int mn)]) hx hb d_AS_ensureCapacityInternal_10 rfl hl (by decide) rfl (fun ls hl => ?_)
    refine lv_iload_n hx hb d_AS_ensureCapacityInternal_11 rfl (lv_at hl 2 rfl) ?_
    refine lv_iload_n hx hb d_AS_ensureCapacityInternal_12 rfl (lv_at hl 0 rfl) ?_
    refine lv_isub hx hb d_AS_ensureCapacityInternal_13 ?_
    by_cases h1 : (mn - 16) ≤ 0
    · refine lv_if_le (tgt := 38) hx hb d_AS_ensureCapacityInternal_14 (by decide) (fun _ => ?_) (fun h => absurd h1 h)
      exact tp_widen (k := 1) (n := 34) (Nat.le_of_ble_eq_true rfl) (Nat.le_of_ble_eq_true rfl) (W.vret hx hb hr (fun t ht hW => ⟨⟨(ab, 16, fb), rfl, ⟨Or.inl rfl, tp_le16 hm h1, hf, fun _ _ => rfl⟩, by rw [ht]; exact hP, hD⟩, hS.F ht⟩) hS.2.2 d_AS_ensureCapacityInternal_38)
    · refine lv_if_le (tgt := 38) hx hb d_AS_ensureCapacityInternal_14 (by decide) (fun h => absurd h h1) (fun _ => ?_)
      refine lv_aload_n hx hb d_AS_ensureCapacityInternal_17 rfl (lv_at hl 1 rfl) ?_
      refine lv_aload_n hx hb d_AS_ensureCapacityInternal_18 rfl (lv_at hl 1 rfl) ?_
      refine va_get (D := tp_D E) (ci := 6) (v := .ref ab) (C := qR_SB) (T := qF_SB) (N := 4) hx hb htg qi_SB hown hK.1 hP 0 rfl rfl 0 (by decide) (htg _ kl_AS_15) (fun _ h => h) rfl d_AS_ensureCapacityInternal_19 ?_
      refine lv_aload_n hx hb d_AS_ensureCapacityInternal_22 rfl (lv_at hl 1 rfl) ?_
      refine lv_iload_n hx hb d_AS_ensureCapacityInternal_23 rfl (lv_at hl 2 rfl) ?_
      refine tp_ci (tp_rV (As := [.int mn]) (rest := [.ref ab, .ref aB]) ⟨hx, hb, hml, hown, htg⟩ (a_AS_newCapacity l E fr _ aB ab xm xc mn fb hm) (⟨callB_of 1 htg (tp_good0 kc_AS_newCapacity) rfl rfl rfl (htg _ ki_AS) (htg _ kl_AS_104) ⟨by decide, by decide, by decide +kernel⟩ ⟨Nat.le_of_ble_eq_true rfl, Nat.le_of_ble_eq_true rfl⟩, htg _ km_AS_newCapacity, htg _ kv_SB_AS_newCapacity⟩) (va_recv (ci := 6) (q0 := 0) hK.1 hP rfl rfl) hK hP hD hS hA rfl hl.1 rfl (Nat.le_of_ble_eq_true rfl) d_AS_ensureCapacityInternal_24 ⟨Nat.le_of_ble_eq_true rfl, Nat.le_of_ble_eq_true rfl⟩) hD hS hA (fun r u H locs hw hP hD hS => ?_)
      subst r
      have hP : va_P (tp_D E) tp_cl ((aB, .inr (6, [.ref ab, .int 0, .int xm, .int xc])) :: (ab, .inl (tp_ty E 3, 16, .inl fb)) :: fr) H := hP
      have hD : va_D A ((aB, .inr (6, [.ref ab, .int 0, .int xm, .int xc])) :: (ab, .inl (tp_ty E 3, 16, .inl fb)) :: fr) := hD
      refine lv_aload_n hx hb d_AS_ensureCapacityInternal_27 rfl (lv_at hl 1 rfl) ?_
      refine va_get (D := tp_D E) (ci := 6) (v := .int 0) (C := qR_SB) (T := qF_SB) (N := 4) hx hb htg qi_SB hown hK.1 hP 0 rfl rfl 1 (by decide) (htg _ kl_AS_22) (fun _ h => h) rfl d_AS_ensureCapacityInternal_28 ?_
      refine lv_ishl hx hb d_AS_ensureCapacityInternal_31 ?_
      refine tp_topi (v := 34) (by decide) ?_
      have hP : va_P (tp_D E) tp_cl ((ab, .inl (tp_ty E 3, 16, .inl fb)) :: (aB, .inr (6, [.ref ab, .int 0, .int xm, .int xc])) :: fr) _ := tp_mvP 1 rfl hP
      have hD : va_D A ((ab, .inl (tp_ty E 3, 16, .inl fb)) :: (aB, .inr (6, [.ref ab, .int 0, .int xm, .int xc])) :: fr) := tp_mvD 1 rfl hD
      refine tp_cr (tp_rS (As := [.ref ab, .int 34]) (rest := [.ref aB]) ⟨hx, hb, hml, hown, htg⟩ (x_AR_copyOf l E ((aB, .inr (6, [.ref ab, .int 0, .int xm, .int xc])) :: fr) _ ab fb hf) (⟨callB_of 2 htg (tp_good0 kc_AR_copyOf_0) rfl rfl rfl (htg _ ki_AR) (htg _ kl_AS_108) ⟨by decide, by decide, by decide +kernel⟩ ⟨Nat.le_of_ble_eq_true rfl, Nat.le_of_ble_eq_true rfl⟩, htg _ ks_AR_copyOf_0⟩) hK hP hD hS hA rfl hl.1 rfl (Nat.le_of_ble_eq_true rfl) d_AS_ensureCapacityInternal_32 ⟨Nat.le_of_ble_eq_true rfl, Nat.le_of_ble_eq_true rfl⟩) hD hS hA (fun u H locs hw hP hD hS => ?_)
      obtain ⟨q1, gq1⟩ := u
      obtain ⟨hfq1, hkq1⟩ : tp_fit gq1 ∧ ∀ j : Nat, j < 16 → gq1 j = fb j := hw
      have hP : va_P (tp_D E) tp_cl ((q1, .inl (tp_ty E 3, 34, .inl gq1)) :: (ab, .inl (tp_ty E 3, 16, .inl fb)) :: (aB, .inr (6, [.ref ab, .int 0, .int xm, .int xc])) :: fr) H := hP
      have hD : va_D A ((q1, .inl (tp_ty E 3, 34, .inl gq1)) :: (ab, .inl (tp_ty E 3, 16, .inl fb)) :: (aB, .inr (6, [.ref ab, .int 0, .int xm, .int xc])) :: fr) := hD
      refine va_put (D := tp_D E) (ci := 6) (v := .ref q1) (ty := (.array .byte)) (C := qR_SB) (T := qF_SB) (N := 4) hx hb htg qi_SB qt_SB qt_SB_ok qn_SB hown hK.1 hP hD hS 2 rfl rfl 0 (by decide) (htg _ kl_AS_15) (fun _ h => h) rfl (by decide +kernel) rfl rfl (Nat.le_of_ble_eq_true rfl) d_AS_ensureCapacityInternal_35 (fun H locs hP hD hS => ?_)
      have hP : va_P (tp_D E) tp_cl ((q1, .inl (tp_ty E 3, 34, .inl gq1)) :: (ab, .inl (tp_ty E 3, 16, .inl fb)) :: (aB, .inr (6, [.ref q1, .int 0, .int xm, .int xc])) :: fr) H := hP
      have hD : va_D A ((q1, .inl (tp_ty E 3, 34, .inl gq1)) :: (ab, .inl (tp_ty E 3, 16, .inl fb)) :: (aB, .inr (6, [.ref q1, .int 0, .int xm, .int xc])) :: fr) := hD
      have hP : va_P (tp_D E) tp_cl ((q1, .inl (tp_ty E 3, 34, .inl gq1)) :: (ab, .inl (tp_ty E 3, 16, .inl fb)) :: (aB, .inr (6, [.ref q1, .int 0, .int xm, .int xc])) :: fr) _ := tp_mvP 0 rfl hP
      have hD : va_D A ((q1, .inl (tp_ty E 3, 34, .inl gq1)) :: (ab, .inl (tp_ty E 3, 16, .inl fb)) :: (aB, .inr (6, [.ref q1, .int 0, .int xm, .int xc])) :: fr) := tp_mvD 0 rfl hD
      have hP : va_P (tp_D E) tp_cl ((aB, .inr (6, [.ref q1, .int 0, .int xm, .int xc])) :: (q1, .inl (tp_ty E 3, 34, .inl gq1)) :: (ab, .inl (tp_ty E 3, 16, .inl fb)) :: fr) _ := tp_mvP 2 rfl hP
      have hD : va_D A ((aB, .inr (6, [.ref q1, .int 0, .int xm, .int xc])) :: (q1, .inl (tp_ty E 3, 34, .inl gq1)) :: (ab, .inl (tp_ty E 3, 16, .inl fb)) :: fr) := tp_mvD 2 rfl hD
      have hP : va_P (tp_D E) tp_cl ((ab, .inl (tp_ty E 3, 16, .inl fb)) :: (aB, .inr (6, [.ref q1, .int 0, .int xm, .int xc])) :: (q1, .inl (tp_ty E 3, 34, .inl gq1)) :: fr) _ := tp_mvP 2 rfl hP
      have hD : va_D A ((ab, .inl (tp_ty E 3, 16, .inl fb)) :: (aB, .inr (6, [.ref q1, .int 0, .int xm, .int xc])) :: (q1, .inl (tp_ty E 3, 34, .inl gq1)) :: fr) := tp_mvD 2 rfl hD
      exact W.vret hx hb hr (fun t ht hW => ⟨⟨(q1, 34, gq1), rfl, ⟨Or.inr rfl, hm.2, hfq1, hkq1⟩, by rw [ht]; exact (tp_tlP hP), (tp_tlD hD)⟩, hS.F ht⟩) hS.2.2 d_AS_ensureCapacityInternal_38
  · refine lv_aload_n hx hb d_AS_ensureCapacityInternal_0 rfl (lv_at hl 0 rfl) ?_
    refine va_get (D := tp_D E) (ci := 6) (v := .ref ab) (C := qR_SB) (T := qF_SB) (N := 4) hx hb htg qi_SB hown hK.1 hP 0 rfl rfl 0 (by decide) (htg _ kl_AS_15) (fun _ h => h) rfl d_AS_ensureCapacityInternal_1 ?_
    refine va_alen (D := tp_D E) (v := 34) hx hb hK.1 hP 1 3 rfl rfl rfl d_AS_ensureCapacityInternal_4 ?_
    refine lv_aload_n hx hb d_AS_ensureCapacityInternal_5 rfl (lv_at hl 0 rfl) ?_
    refine va_get (D := tp_D E) (ci := 6) (v := .int 0) (C := qR_SB) (T := qF_SB) (N := 4) hx hb htg qi_SB hown hK.1 hP 0 rfl rfl 1 (by decide) (htg _ kl_AS_22) (fun _ h => h) rfl d_AS_ensureCapacityInternal_6 ?_
    refine lv_ishr hx hb d_AS_ensureCapacityInternal_9 ?_
    refine tp_topi (v := 34) (by decide) ?_
    refine lv_istore_n (lv' := [(2, .int 34), (0, .ref aB), (1, .int mn)]) hx hb d_AS_ensureCapacityInternal_10 rfl hl (by decide) rfl (fun ls hl => ?_)
    refine lv_iload_n hx hb d_AS_ensureCapacityInternal_11 rfl (lv_at hl 2 rfl) ?_
    refine lv_iload_n hx hb d_AS_ensureCapacityInternal_12 rfl (lv_at hl 0 rfl) ?_
    refine lv_isub hx hb d_AS_ensureCapacityInternal_13 ?_
    refine lv_if_le (tgt := 38) hx hb d_AS_ensureCapacityInternal_14 (by decide) (fun _ => ?_) (fun h => absurd (tp_m34 hm) h)
    exact tp_widen (k := 1) (n := 34) (Nat.le_of_ble_eq_true rfl) (Nat.le_of_ble_eq_true rfl) (W.vret hx hb hr (fun t ht hW => ⟨⟨(ab, 34, fb), rfl, ⟨Or.inr rfl, hm.2, hf, fun _ _ => rfl⟩, by rw [ht]; exact hP, hD⟩, hS.F ht⟩) hS.2.2 d_AS_ensureCapacityInternal_38)
set_option maxHeartbeats 4000000 in
set_option maxRecDepth 100000 in
theorem x_AS_appC (l : Launch) (E : tp_Env) (fr : va_W) (sz : Nat) (aB ab : Nat) (xm xc : Int32) (nb : Nat) (fb : Nat → Int32) (L : List Int32) (xk : Int32) (hn : nb = 16 ∨ nb = 34) (hf : tp_fit fb) (hq : xc.toInt ≤ (nb : Int)) (hL : sf_is fb xc L) (hc : 0 ≤ xc.toInt ∧ xc.toInt < 34) (h1 : ¬ 255 < xk) : Met l y_AS_append_0 w_AS_append_0 ({ frames := 4, cells := 1, slots := 34, locals := 144 }) (va_Pc [.ref aB, .int xk] (tp_in E ((aB, .inr (6, [.ref ab, .int 0, .int xm, .int xc])) :: (ab, .inl (tp_ty E 3, nb, .inl fb)) :: fr) sz)) (va_Qr (fun (u : Nat × Nat × (Nat → Int32)) => (u.2.1 = 16 ∨ u.2.1 = 34) ∧ tp_fit u.2.2 ∧ (xc + 1).toInt ≤ (u.2.1 : Int) ∧ sf_is u.2.2 (xc + 1) (L ++ [sf_b xk])) (fun u q t => q = (fun (_ : Nat × Nat × (Nat → Int32)) => aB) u ∧ tp_out E (va_A ((aB, .inr (6, [.ref ab, .int 0, .int xm, .int xc])) :: (ab, .inl (tp_ty E 3, nb, .inl fb)) :: fr) sz) ((aB, .inr (6, [.ref u.1, .int 0, .int xm, .int (xc + 1)])) :: (u.1, .inl (tp_ty E 3, u.2.1, .inl u.2.2)) :: fr) t) (va_A ((aB, .inr (6, [.ref ab, .int 0, .int xm, .int xc])) :: (ab, .inl (tp_ty E 3, nb, .inl fb)) :: fr) sz)) 1 34 (va_A ((aB, .inr (6, [.ref ab, .int 0, .int xm, .int xc])) :: (ab, .inl (tp_ty E 3, nb, .inl fb)) :: fr) sz) := by
  refine Met.ofW (cc := b_AS_append_0) (maxL := 2) (ret := (some (.object "java/lang/AbstractStringBuilder"))) (by decide) rfl ?_
  intro p e s m args below meth c s₁ B hml hv
  obtain ⟨rfl, hsz, hP, hK, hD0⟩ := hv
  have hx := B.exec
  have hb := B.bytes
  have hr := B.returns
  have htg : ∀ w ∈ tp_G, w.before ([.ref aB, .int xk] : List Value).toArray s = true := fun w h => atoms_spec (ws := w_AS_append_0) B.pre w (List.mem_cons_of_mem _ h)
  have hown : s.vm.findClass "java/lang/AbstractStringBuilder" = some m.cls := findClass_of_methodNamed B.named
  have hlocks := B.notSynchronized
  subst hsz
  have hD := hD0.self (sz := s.heap.size)
  generalize hAe : va_A ((aB, .inr (6, [.ref ab, .int 0, .int xm, .int xc])) :: (ab, .inl (tp_ty E 3, nb, .inl fb)) :: fr) s.heap.size = A at hD hK ⊢
  have hA : ∀ q : Nat, s.heap.size ≤ q → A q := fun q h => by rw [← hAe]; exact Or.inr h
  have hS : va_S A s.heap s.heap [] := va_S.rf
  have hl := lv_entry ([.ref aB, .int xk]) (n := 2) (Nat.le_of_ble_eq_true rfl)
  rw [lg_entry_eq]
  generalize (lg_sl ([.ref aB, .int xk]) ++ List.replicate (2 - (lg_sl ([.ref aB, .int xk])).length) Slot.unset).toArray = ls at hl ⊢
  have hl : lv_has ls 2 [(0, .ref aB), (1, .int xk)] := hl
  refine lv_aload_n hx hb d_AS_append_0_0 rfl (lv_at hl 0 rfl) ?_
  refine lv_aload_n hx hb d_AS_append_0_1 rfl (lv_at hl 0 rfl) ?_
  refine va_get (D := tp_D E) (ci := 6) (v := .int xc) (C := qR_SB) (T := qF_SB) (N := 4) hx hb htg qi_SB hown hK.1 hP 0 rfl rfl 3 (by decide) (htg _ kl_AS_79) (fun _ h => h) rfl d_AS_append_0_2 ?_
  refine lv_iconst (v := 1) hx hb d_AS_append_0_5 (by decide) ?_
  refine lv_iadd hx hb d_AS_append_0_6 ?_
  refine tp_cv (tp_rV (As := [.int (xc + 1)]) (rest := []) ⟨hx, hb, hml, hown, htg⟩ (x_AS_ensure l E fr _ aB ab xm xc (xc + 1) nb fb hn (tp_c1 hc) hf) (⟨callB_of 1 htg (tp_good0 kc_AS_ensureCapacityInternal) rfl rfl rfl (htg _ ki_AS) (htg _ kl_AS_100) ⟨by decide, by decide, by decide +kernel⟩ ⟨Nat.le_of_ble_eq_true rfl, Nat.le_of_ble_eq_true rfl⟩, htg _ km_AS_ensureCapacityInternal, htg _ kv_SB_AS_ensureCapacityInternal⟩) (va_recv (ci := 6) (q0 := 0) hK.1 hP rfl rfl) hK hP hD hS hA rfl hl.1 rfl (Nat.le_of_ble_eq_true rfl) d_AS_append_0_7 ⟨Nat.le_of_ble_eq_true rfl, Nat.le_of_ble_eq_true rfl⟩) hD hS hA (fun u H locs hw hP hD hS => ?_)
  obtain ⟨eq1, nq1, fq1⟩ := u
  obtain ⟨hnq1, hmq1, hfq1, hkq1⟩ : (nq1 = 16 ∨ nq1 = 34) ∧ (xc + 1).toInt ≤ (nq1 : Int) ∧ tp_fit fq1 ∧ ∀ j : Nat, j < nb → fq1 j = fb j := hw
  have hP : va_P (tp_D E) tp_cl ((aB, .inr (6, [.ref eq1, .int 0, .int xm, .int xc])) :: (eq1, .inl (tp_ty E 3, nq1, .inl fq1)) :: fr) H := hP
  have hD : va_D A ((aB, .inr (6, [.ref eq1, .int 0, .int xm, .int xc])) :: (eq1, .inl (tp_ty E 3, nq1, .inl fq1)) :: fr) := hD
  refine lv_aload_n hx hb d_AS_append_0_10 rfl (lv_at hl 0 rfl) ?_
  refine tp_ci (tp_rV (As := []) (rest := []) ⟨hx, hb, hml, hown, htg⟩ (cs_AS_isLatin1_1 l E ((eq1, .inl (tp_ty E 3, nq1, .inl fq1)) :: fr) _ aB eq1 0 xm xc (by decide)) (⟨callB_of 0 htg (tp_good0 kc_AS_isLatin1) rfl rfl rfl (htg _ ki_AS) (htg _ kl_AS_83) ⟨by decide, by decide, by decide +kernel⟩ ⟨Nat.le_of_ble_eq_true rfl, Nat.le_of_ble_eq_true rfl⟩, htg _ km_AS_isLatin1, htg _ kv_SB_AS_isLatin1⟩) (va_recv (ci := 6) (q0 := 0) hK.1 hP rfl rfl) hK hP hD hS hA rfl hl.1 rfl (Nat.le_of_ble_eq_true rfl) d_AS_append_0_11 ⟨Nat.le_of_ble_eq_true rfl, Nat.le_of_ble_eq_true rfl⟩) hD hS hA (fun r u H locs hw hP hD hS => ?_)
  subst r
  have hP : va_P (tp_D E) tp_cl ((aB, .inr (6, [.ref eq1, .int 0, .int xm, .int xc])) :: (eq1, .inl (tp_ty E 3, nq1, .inl fq1)) :: fr) H := hP
  have hD : va_D A ((aB, .inr (6, [.ref eq1, .int 0, .int xm, .int xc])) :: (eq1, .inl (tp_ty E 3, nq1, .inl fq1)) :: fr) := hD
  refine lv_if_eq (tgt := 45) hx hb d_AS_append_0_14 (by decide) (fun h => absurd h (by decide)) (fun _ => ?_)
  refine lv_iload_n hx hb d_AS_append_0_17 rfl (lv_at hl 1 rfl) ?_
  refine tp_ci (tp_rS (As := [.int xk]) (rest := []) ⟨hx, hb, hml, hown, htg⟩ (cs_SL_canEncode_1 l E ((aB, .inr (6, [.ref eq1, .int 0, .int xm, .int xc])) :: (eq1, .inl (tp_ty E 3, nq1, .inl fq1)) :: fr) _ xk h1) (⟨callB_of 1 htg (tp_good0 kc_SL_canEncode) rfl rfl rfl (htg _ ki_SL) (htg _ kl_AS_191) ⟨by decide, by decide, by decide +kernel⟩ ⟨Nat.le_of_ble_eq_true rfl, Nat.le_of_ble_eq_true rfl⟩, htg _ ks_SL_canEncode⟩) hK hP hD hS hA rfl hl.1 rfl (Nat.le_of_ble_eq_true rfl) d_AS_append_0_18 ⟨Nat.le_of_ble_eq_true rfl, Nat.le_of_ble_eq_true rfl⟩) hD hS hA (fun r u H locs hw hP hD hS => ?_)
  subst r
  have hP : va_P (tp_D E) tp_cl ((aB, .inr (6, [.ref eq1, .int 0, .int xm, .int xc])) :: (eq1, .inl (tp_ty E 3, nq1, .inl fq1)) :: fr) H := hP
  have hD : va_D A ((aB, .inr (6, [.ref eq1, .int 0, .int xm, .int xc])) :: (eq1, .inl (tp_ty E 3, nq1, .inl fq1)) :: fr) := hD
  refine lv_if_eq (tgt := 45) hx hb d_AS_append_0_21 (by decide) (fun h => absurd h (by decide)) (fun _ => ?_)
  refine lv_aload_n hx hb d_AS_append_0_24 rfl (lv_at hl 0 rfl) ?_
  refine va_get (D := tp_D E) (ci := 6) (v := .ref eq1) (C := qR_SB) (T := qF_SB) (N := 4) hx hb htg qi_SB hown hK.1 hP 0 rfl rfl 0 (by decide) (htg _ kl_AS_15) (fun _ h => h) rfl d_AS_append_0_25 ?_
  refine lv_aload_n hx hb d_AS_append_0_28 rfl (lv_at hl 0 rfl) ?_
  refine lv_dup hx hb d_AS_append_0_29 rfl ?_
  refine va_get (D := tp_D E) (ci := 6) (v := .int xc) (C := qR_SB) (T := qF_SB) (N := 4) hx hb htg qi_SB hown hK.1 hP 0 rfl rfl 3 (by decide) (htg _ kl_AS_79) (fun _ h => h) rfl d_AS_append_0_30 ?_
  refine lv_dup_x1 hx hb d_AS_append_0_33 rfl rfl ?_
  refine lv_iconst (v := 1) hx hb d_AS_append_0_34 (by decide) ?_
  refine lv_iadd hx hb d_AS_append_0_35 ?_
  refine va_put (D := tp_D E) (ci := 6) (v := .int (xc + 1)) (ty := .int) (C := qR_SB) (T := qF_SB) (N := 4) hx hb htg qi_SB qt_SB qt_SB_ok qn_SB hown hK.1 hP hD hS 0 rfl rfl 3 (by decide) (htg _ kl_AS_79) (fun _ h => h) rfl (by decide +kernel) rfl rfl (Nat.le_of_ble_eq_true rfl) d_AS_append_0_36 (fun H locs hP hD hS => ?_)
  have hP : va_P (tp_D E) tp_cl ((aB, .inr (6, [.ref eq1, .int 0, .int xm, .int (xc + 1)])) :: (eq1, .inl (tp_ty E 3, nq1, .inl fq1)) :: fr) H := hP
  have hD : va_D A ((aB, .inr (6, [.ref eq1, .int 0, .int xm, .int (xc + 1)])) :: (eq1, .inl (tp_ty E 3, nq1, .inl fq1)) :: fr) := hD
  refine lv_iload_n hx hb d_AS_append_0_39 rfl (lv_at hl 1 rfl) ?_
  refine lv_i2b (v := xk.toInt8.toInt32) hx hb d_AS_append_0_40 rfl ?_
  refine va_bast (D := tp_D E) hx hb hK.1 hP hD hS 1 3 rfl rfl (tp_vc hc hmq1) d_AS_append_0_41 (fun H locs hP hD hS => ?_)
  have hP : va_P (tp_D E) tp_cl ((aB, .inr (6, [.ref eq1, .int 0, .int xm, .int (xc + 1)])) :: (eq1, .inl (tp_ty E 3, nq1, .inl (upd fq1 xc.toNatClampNeg (vp_nar .byte xk.toInt8.toInt32)))) :: fr) H := hP
  have hD : va_D A ((aB, .inr (6, [.ref eq1, .int 0, .int xm, .int (xc + 1)])) :: (eq1, .inl (tp_ty E 3, nq1, .inl (upd fq1 xc.toNatClampNeg (vp_nar .byte xk.toInt8.toInt32)))) :: fr) := hD
  refine lv_goto (tgt := 75) hx hb d_AS_append_0_42 (by decide) ?_
  refine lv_aload_n hx hb d_AS_append_0_75 rfl (lv_at hl 0 rfl) ?_
  exact W.aret (v := .ref aB) hx hb hr (Or.inl ⟨_, rfl⟩) (Or.inr ⟨_, rfl⟩) (fun t ht hW => ⟨⟨(eq1, nq1, (upd fq1 xc.toNatClampNeg (vp_nar .byte xk.toInt8.toInt32))), _, rfl, ⟨hnq1, tp_fitst hfq1, hmq1, sf_isC hL hc (sf_kp hL hq hkq1)⟩, rfl, by rw [ht]; exact hP, hD⟩, hS.F ht⟩) hS.2.2 d_AS_append_0_76
set_option maxHeartbeats 4000000 in
set_option maxRecDepth 100000 in
theorem x_SB_appC (l : Launch) (E : tp_Env) (fr : va_W) (sz : Nat) (aB ab : Nat) (xm xc : Int32) (nb : Nat) (fb : Nat → Int32) (L : List Int32) (xk : Int32) (hn : nb = 16 ∨ nb = 34) (hf : tp_fit fb) (hq : xc.toInt ≤ (nb : Int)) (hL : sf_is fb xc L) (hc : 0 ≤ xc.toInt ∧ xc.toInt < 34) (h1 : ¬ 255 < xk) : Met l y_SB_append_0 w_SB_append_0 ({ frames := 5, cells := 1, slots := 34, locals := 165 }) (va_Pc [.ref aB, .int xk] (tp_in E ((aB, .inr (6, [.ref ab, .int 0, .int xm, .int xc])) :: (ab, .inl (tp_ty E 3, nb, .inl fb)) :: fr) sz)) (va_Qr (fun (u : Nat × Nat × (Nat → Int32)) => (u.2.1 = 16 ∨ u.2.1 = 34) ∧ tp_fit u.2.2 ∧ (xc + 1).toInt ≤ (u.2.1 : Int) ∧ sf_is u.2.2 (xc + 1) (L ++ [sf_b xk])) (fun u q t => q = (fun (_ : Nat × Nat × (Nat → Int32)) => aB) u ∧ tp_out E (va_A ((aB, .inr (6, [.ref ab, .int 0, .int xm, .int xc])) :: (ab, .inl (tp_ty E 3, nb, .inl fb)) :: fr) sz) ((aB, .inr (6, [.ref u.1, .int 0, .int xm, .int (xc + 1)])) :: (u.1, .inl (tp_ty E 3, u.2.1, .inl u.2.2)) :: fr) t) (va_A ((aB, .inr (6, [.ref ab, .int 0, .int xm, .int xc])) :: (ab, .inl (tp_ty E 3, nb, .inl fb)) :: fr) sz)) 1 34 (va_A ((aB, .inr (6, [.ref ab, .int 0, .int xm, .int xc])) :: (ab, .inl (tp_ty E 3, nb, .inl fb)) :: fr) sz) := by
  refine Met.ofW (cc := b_SB_append_0) (maxL := 2) (ret := (some (.object "java/lang/StringBuilder"))) (by decide) rfl ?_
  intro p e s m args below meth c s₁ B hml hv
  obtain ⟨rfl, hsz, hP, hK, hD0⟩ := hv
  have hx := B.exec
  have hb := B.bytes
  have hr := B.returns
  have htg : ∀ w ∈ tp_G, w.before ([.ref aB, .int xk] : List Value).toArray s = true := fun w h => atoms_spec (ws := w_SB_append_0) B.pre w (List.mem_cons_of_mem _ h)
  have hown : s.vm.findClass "java/lang/StringBuilder" = some m.cls := findClass_of_methodNamed B.named
  have hlocks := B.notSynchronized
  subst hsz
  have hD := hD0.self (sz := s.heap.size)
  generalize hAe : va_A ((aB, .inr (6, [.ref ab, .int 0, .int xm, .int xc])) :: (ab, .inl (tp_ty E 3, nb, .inl fb)) :: fr) s.heap.size = A at hD hK ⊢
  have hA : ∀ q : Nat, s.heap.size ≤ q → A q := fun q h => by rw [← hAe]; exact Or.inr h
  have hS : va_S A s.heap s.heap [] := va_S.rf
  have hl := lv_entry ([.ref aB, .int xk]) (n := 2) (Nat.le_of_ble_eq_true rfl)
  rw [lg_entry_eq]
  generalize (lg_sl ([.ref aB, .int xk]) ++ List.replicate (2 - (lg_sl ([.ref aB, .int xk])).length) Slot.unset).toArray = ls at hl ⊢
  have hl : lv_has ls 2 [(0, .ref aB), (1, .int xk)] := hl
  refine lv_aload_n hx hb d_SB_append_0_0 rfl (lv_at hl 0 rfl) ?_
  refine lv_iload_n hx hb d_SB_append_0_1 rfl (lv_at hl 1 rfl) ?_
  refine tp_cr (tp_rU (As := [.int xk]) (rest := []) ⟨hx, hb, hml, hown, htg⟩ (x_AS_appC l E fr _ aB ab xm xc nb fb L xk hn hf hq hL hc h1) (tp_cwU 1 htg kc_AS_append_0 (htg _ kl_SB_50) (htg _ kq_AS_append_0) (htg _ kz_SB) (htg _ km_AS_append_0) (htg _ ki_AS) ⟨by decide, by decide +kernel⟩ ⟨Nat.le_of_ble_eq_true rfl, Nat.le_of_ble_eq_true rfl⟩) (va_recv (ci := 6) (q0 := 0) hK.1 hP rfl rfl) (hK.1.1 6 _ rfl).2 hK hP hD hS hA rfl hl.1 rfl (Nat.le_of_ble_eq_true rfl) d_SB_append_0_2 ⟨Nat.le_of_ble_eq_true rfl, Nat.le_of_ble_eq_true rfl⟩) hD hS hA (fun u H locs hw hP hD hS => ?_)
  obtain ⟨eq1, nq1, fq1⟩ := u
  obtain ⟨hnq1, hfq1, hqq1, hiq1⟩ : (nq1 = 16 ∨ nq1 = 34) ∧ tp_fit fq1 ∧ (xc + 1).toInt ≤ (nq1 : Int) ∧ sf_is fq1 (xc + 1) (L ++ [sf_b xk]) := hw
  have hP : va_P (tp_D E) tp_cl ((aB, .inr (6, [.ref eq1, .int 0, .int xm, .int (xc + 1)])) :: (eq1, .inl (tp_ty E 3, nq1, .inl fq1)) :: fr) H := hP
  have hD : va_D A ((aB, .inr (6, [.ref eq1, .int 0, .int xm, .int (xc + 1)])) :: (eq1, .inl (tp_ty E 3, nq1, .inl fq1)) :: fr) := hD
  refine lv_pop hx hb d_SB_append_0_5 rfl ?_
  refine lv_aload_n hx hb d_SB_append_0_6 rfl (lv_at hl 0 rfl) ?_
  exact W.aret (v := .ref aB) hx hb hr (Or.inl ⟨_, rfl⟩) (Or.inr ⟨_, rfl⟩) (fun t ht hW => ⟨⟨(eq1, nq1, fq1), _, rfl, ⟨hnq1, hfq1, hqq1, hiq1⟩, rfl, by rw [ht]; exact hP, hD⟩, hS.F ht⟩) hS.2.2 d_SB_append_0_7
theorem sf_hc3 {n : Nat} {c s : Int} (hd : (tp_dg n : Int) + s ≤ c) (h : 3 ≤ tp_dg n) (hs : 0 ≤ s) : 2 ≤ c := by omega
set_option maxHeartbeats 4000000 in
set_option maxRecDepth 100000 in
theorem x_IN_getChars (l : Launch) (E : tp_Env) (fr : va_W) (sz : Nat) (ab nb : Nat) (xv xi : Int32) (fb : Nat → Int32) (hd : (tp_dl xv : Int) ≤ xi.toInt) (hin9 : xi.toInt ≤ (nb : Int)) (hf : tp_fit fb) : Met l y_IN_getChars w_IN_getChars ({ frames := 0, cells := 0, slots := 0, locals := 0 }) (va_Pc [.int xv, .int xi, .ref ab] (tp_in E ((ab, .inl (tp_ty E 3, nb, .inl fb)) :: fr) sz)) (va_Qi (fun _ (u : Nat → Int32) => tp_fit u ∧ ∃ b : Nat, b + tp_dl xv = xi.toNatClampNeg ∧ sf_ap u fb b (sf_digs xv)) (fun u t => tp_out E (va_A ((ab, .inl (tp_ty E 3, nb, .inl fb)) :: fr) sz) ((ab, .inl (tp_ty E 3, nb, .inl u)) :: fr) t) (va_A ((ab, .inl (tp_ty E 3, nb, .inl fb)) :: fr) sz)) 0 0 (va_A ((ab, .inl (tp_ty E 3, nb, .inl fb)) :: fr) sz) := by
  refine Met.ofW (cc := b_IN_getChars) (maxL := 7) (ret := (some .int)) (by decide) rfl ?_
  intro p e s m args below meth c s₁ B hml hv
  obtain ⟨rfl, hsz, hP, hK, hD0⟩ := hv
  have hx := B.exec
  have hb := B.bytes
  have hr := B.returns
  have htg : ∀ w ∈ tp_G, w.before ([.int xv, .int xi, .ref ab] : List Value).toArray s = true := fun w h => atoms_spec (ws := w_IN_getChars) B.pre w (List.mem_cons_of_mem _ h)
  have hown : s.vm.findClass "java/lang/Integer" = some m.cls := findClass_of_methodNamed B.named
  have hlocks := B.notSynchronized
  subst hsz
  have hD := hD0.self (sz := s.heap.size)
  generalize hAe : va_A ((ab, .inl (tp_ty E 3, nb, .inl fb)) :: fr) s.heap.size = A at hD hK ⊢
  have hA : ∀ q : Nat, s.heap.size ≤ q → A q := fun q h => by rw [← hAe]; exact Or.inr h
  have hS : va_S A s.heap s.heap [] := va_S.rf
  have hl := lv_entry ([.int xv, .int xi, .ref ab]) (n := 7) (Nat.le_of_ble_eq_true rfl)
  rw [lg_entry_eq]
  generalize (lg_sl ([.int xv, .int xi, .ref ab]) ++ List.replicate (7 - (lg_sl ([.int xv, .int xi, .ref ab])).length) Slot.unset).toArray = ls at hl ⊢
  have hl : lv_has ls 7 [(0, .int xv), (1, .int xi), (2, .ref ab)] := hl
  refine lv_iload_n hx hb d_IN_getChars_0 rfl (lv_at hl 1 rfl) ?_
  refine lv_istore (lv' := [(5, .int xi), (0, .int xv), (1, .int xi), (2, .ref ab)]) hx hb d_IN_getChars_1 hl (by decide) rfl (fun ls hl => ?_)
  refine lv_iload_n hx hb d_IN_getChars_3 rfl (lv_at hl 1 rfl) ?_
  by_cases h1 : 0 ≤ xv
  · refine lv_if_ge (tgt := 11) hx hb d_IN_getChars_4 (by decide) (fun _ => ?_) (fun h => absurd h1 h)
    refine lv_iconst (v := 0) hx hb d_IN_getChars_11 (by decide) ?_
    refine lv_istore (lv' := [(6, .int 0), (5, .int xi), (0, .int xv), (1, .int xi), (2, .ref ab)]) hx hb d_IN_getChars_12 hl (by decide) rfl (fun ls hl => ?_)
    refine lv_iload hx hb d_IN_getChars_14 (lv_at hl 0 rfl) ?_
    refine lv_if_ne (tgt := 22) hx hb d_IN_getChars_16 (by decide) (fun h => absurd (by decide) h) (fun _ => ?_)
    refine lv_iload_n hx hb d_IN_getChars_19 rfl (lv_at hl 2 rfl) ?_
    refine lv_ineg hx hb d_IN_getChars_20 ?_
    refine lv_istore_n (lv' := [(0, .int (-xv)), (6, .int 0), (5, .int xi), (1, .int xi), (2, .ref ab)]) hx hb d_IN_getChars_21 rfl hl (by decide) rfl (fun ls hl => ?_)
    refine tp_loop3 (fun j ls H locs (x : Int32) (cp : Int32) (f : Nat → Int32) => ((x.toInt ≤ 0) ∧ (x.toInt.natAbs = j) ∧ ((tp_dg x.toInt.natAbs : Int) + 0 ≤ cp.toInt) ∧ (cp.toInt ≤ (nb : Int)) ∧ (tp_fit f) ∧ (sf_gc fb f xv x xi cp)) ∧ lv_has ls 7 [(0, .int x), (5, .int cp), (6, .int 0), (1, .int xi), (2, .ref ab)] ∧ va_P (tp_D E) tp_cl ((ab, .inl (tp_ty E 3, nb, .inl f)) :: fr) H ∧ va_D A ((ab, .inl (tp_ty E 3, nb, .inl f)) :: fr) ∧ va_S A s.heap H locs) ?_ _ (-xv) xi fb ⟨⟨tp_x0p h1, rfl, tp_dlp hd h1, hin9, hf, sf_gc0 sf_nabs⟩, tp_lvI hl [0, 2, 1, 3, 4] rfl, hP, hD, hS⟩
    intro j x cp f ls H locs hI ih
    obtain ⟨⟨hx0, hj, hd, hcn, hf, hgc⟩, hl, hP, hD, hS⟩ := hI
    refine lv_iload_n hx hb d_IN_getChars_22 rfl (lv_at hl 0 rfl) ?_
    refine lv_bipush (v := (-100)) hx hb d_IN_getChars_23 (by decide) ?_
    by_cases h2 : (-100) < x
    · refine lv_icmp_gt (tgt := 72) hx hb d_IN_getChars_25 (by decide) (fun _ => ?_) (fun h => absurd h2 h)
      refine lv_aload_n hx hb d_IN_getChars_72 rfl (lv_at hl 4 rfl) ?_
      refine lv_iinc (k := 1) (v := (cp + (-1))) (lv' := [(5, .int (cp + (-1))), (0, .int x), (6, .int 0), (1, .int xi), (2, .ref ab)]) hx hb d_IN_getChars_73 hl rfl rfl (by decide) rfl (fun ls hl => ?_)
      refine lv_iload hx hb d_IN_getChars_76 (lv_at hl 0 rfl) ?_
      refine va_gets (v := .ref (tp_ad E 102)) hx hb hK.onesZ hS hown (htg _ kl_IN_83) (fun _ h => h) d_IN_getChars_78 ?_
      refine lv_iload_n hx hb d_IN_getChars_81 rfl (lv_at hl 1 rfl) ?_
      refine lv_ineg hx hb d_IN_getChars_82 ?_
      refine va_tb (v := .int (tp_ones.getD (-x).toNatClampNeg 0)) hx hb hK.onesT hS (tp_vng hx0 h2) rfl d_IN_getChars_83 ?_
      refine va_bast (D := tp_D E) hx hb hK.1 hP hD hS 0 3 rfl rfl (tp_vD1 (by have g1 := @tp_dg1 x.toInt.natAbs; omega) hcn) d_IN_getChars_84 (fun H locs hP hD hS => ?_)
      have hP : va_P (tp_D E) tp_cl ((ab, .inl (tp_ty E 3, nb, .inl (upd f (cp + (-1)).toNatClampNeg (vp_nar .byte (tp_ones.getD (-x).toNatClampNeg 0))))) :: fr) H := hP
      have hD : va_D A ((ab, .inl (tp_ty E 3, nb, .inl (upd f (cp + (-1)).toNatClampNeg (vp_nar .byte (tp_ones.getD (-x).toNatClampNeg 0))))) :: fr) := hD
      refine lv_iload_n hx hb d_IN_getChars_85 rfl (lv_at hl 1 rfl) ?_
      refine lv_bipush (v := (-9)) hx hb d_IN_getChars_86 (by decide) ?_
      by_cases h3 : (-9) ≤ x
      · refine lv_icmp_ge (tgt := 104) hx hb d_IN_getChars_88 (by decide) (fun _ => ?_) (fun h => absurd h3 h)
        refine lv_iload hx hb d_IN_getChars_104 (lv_at hl 2 rfl) ?_
        refine lv_if_eq (tgt := 118) hx hb d_IN_getChars_106 (by decide) (fun _ => ?_) (fun h => absurd (by decide) h)
        refine lv_iload hx hb d_IN_getChars_118 (lv_at hl 0 rfl) ?_
        have hc2 : 1 ≤ cp.toInt := by have g1 := @tp_dg1 x.toInt.natAbs; omega
        obtain ⟨b, hb0, hb1, hb2, hb3⟩ := sf_gA hgc hx0 h2 h3 hc2
        have hxn : ¬ xv.toInt < 0 := sf_nneg h1
        have hap := sf_apP hb2 hb3 hb1 hxn
        exact W.iret (v := (cp + (-1))) hx hb hr (fun t ht hW => ⟨⟨_, (upd f (cp + (-1)).toNatClampNeg (vp_nar .byte (tp_ones.getD (-x).toNatClampNeg 0))), rfl, ⟨(tp_fitst hf), ⟨_, hap⟩⟩, by rw [ht]; exact hP, hD⟩, hS.F ht⟩) hS.2.2 d_IN_getChars_120
      · refine lv_icmp_ge (tgt := 104) hx hb d_IN_getChars_88 (by decide) (fun h => absurd h h3) (fun _ => ?_)
        refine lv_aload_n hx hb d_IN_getChars_91 rfl (lv_at hl 4 rfl) ?_
        refine lv_iinc (k := 0) (v := ((cp + (-1)) + (-1))) (lv' := [(5, .int ((cp + (-1)) + (-1))), (0, .int x), (6, .int 0), (1, .int xi), (2, .ref ab)]) hx hb d_IN_getChars_92 hl rfl rfl (by decide) rfl (fun ls hl => ?_)
        refine lv_iload hx hb d_IN_getChars_95 (lv_at hl 0 rfl) ?_
        refine va_gets (v := .ref (tp_ad E 103)) hx hb hK.tensZ hS hown (htg _ kl_IN_87) (fun _ h => h) d_IN_getChars_97 ?_
        refine lv_iload_n hx hb d_IN_getChars_100 rfl (lv_at hl 1 rfl) ?_
        refine lv_ineg hx hb d_IN_getChars_101 ?_
        refine va_tb (v := .int (tp_tens.getD (-x).toNatClampNeg 0)) hx hb hK.tensT hS (tp_vng hx0 h2) rfl d_IN_getChars_102 ?_
        refine va_bast (D := tp_D E) hx hb hK.1 hP hD hS 0 3 rfl rfl (tp_vD2 (by have g1 := @tp_dg1 x.toInt.natAbs; have g2 := tp_dg2 (tp_na10 h3); omega) hcn) d_IN_getChars_103 (fun H locs hP hD hS => ?_)
        have hP : va_P (tp_D E) tp_cl ((ab, .inl (tp_ty E 3, nb, .inl (upd (upd f (cp + (-1)).toNatClampNeg (vp_nar .byte (tp_ones.getD (-x).toNatClampNeg 0))) ((cp + (-1)) + (-1)).toNatClampNeg (vp_nar .byte (tp_tens.getD (-x).toNatClampNeg 0))))) :: fr) H := hP
        have hD : va_D A ((ab, .inl (tp_ty E 3, nb, .inl (upd (upd f (cp + (-1)).toNatClampNeg (vp_nar .byte (tp_ones.getD (-x).toNatClampNeg 0))) ((cp + (-1)) + (-1)).toNatClampNeg (vp_nar .byte (tp_tens.getD (-x).toNatClampNeg 0))))) :: fr) := hD
        refine lv_iload hx hb d_IN_getChars_104 (lv_at hl 2 rfl) ?_
        refine lv_if_eq (tgt := 118) hx hb d_IN_getChars_106 (by decide) (fun _ => ?_) (fun h => absurd (by decide) h)
        refine lv_iload hx hb d_IN_getChars_118 (lv_at hl 0 rfl) ?_
        have hc2 : 2 ≤ cp.toInt := by have g1 := @tp_dg1 x.toInt.natAbs; have g2 := tp_dg2 (tp_na10 h3); omega
        obtain ⟨b, hb0, hb1, hb2, hb3⟩ := sf_gB hgc hx0 h2 h3 hc2
        have hxn : ¬ xv.toInt < 0 := sf_nneg h1
        have hap := sf_apP hb2 hb3 hb1 hxn
        exact W.iret (v := ((cp + (-1)) + (-1))) hx hb hr (fun t ht hW => ⟨⟨_, (upd (upd f (cp + (-1)).toNatClampNeg (vp_nar .byte (tp_ones.getD (-x).toNatClampNeg 0))) ((cp + (-1)) + (-1)).toNatClampNeg (vp_nar .byte (tp_tens.getD (-x).toNatClampNeg 0))), rfl, ⟨(tp_fitst (tp_fitst hf)), ⟨_, hap⟩⟩, by rw [ht]; exact hP, hD⟩, hS.F ht⟩) hS.2.2 d_IN_getChars_120
    · refine lv_icmp_gt (tgt := 72) hx hb d_IN_getChars_25 (by decide) (fun h => absurd h h2) (fun _ => ?_)
      refine lv_iload_n hx hb d_IN_getChars_28 rfl (lv_at hl 0 rfl) ?_
      refine lv_bipush (v := 100) hx hb d_IN_getChars_29 (by decide) ?_
      refine lv_idiv hx hb d_IN_getChars_31 (by decide) ?_
      refine lv_istore_n (lv' := [(3, .int (x / 100)), (0, .int x), (5, .int cp), (6, .int 0), (1, .int xi), (2, .ref ab)]) hx hb d_IN_getChars_32 rfl hl (by decide) rfl (fun ls hl => ?_)
      refine lv_iload_n hx hb d_IN_getChars_33 rfl (lv_at hl 0 rfl) ?_
      refine lv_bipush (v := 100) hx hb d_IN_getChars_34 (by decide) ?_
      refine lv_imul hx hb d_IN_getChars_36 ?_
      refine lv_iload_n hx hb d_IN_getChars_37 rfl (lv_at hl 1 rfl) ?_
      refine lv_isub hx hb d_IN_getChars_38 ?_
      refine lv_istore (lv' := [(4, .int (((x / 100) * 100) - x)), (3, .int (x / 100)), (0, .int x), (5, .int cp), (6, .int 0), (1, .int xi), (2, .ref ab)]) hx hb d_IN_getChars_39 hl (by decide) rfl (fun ls hl => ?_)
      refine lv_iload_n hx hb d_IN_getChars_41 rfl (lv_at hl 1 rfl) ?_
      refine lv_istore_n (lv' := [(0, .int (x / 100)), (4, .int (((x / 100) * 100) - x)), (3, .int (x / 100)), (5, .int cp), (6, .int 0), (1, .int xi), (2, .ref ab)]) hx hb d_IN_getChars_42 rfl hl (by decide) rfl (fun ls hl => ?_)
      refine lv_aload_n hx hb d_IN_getChars_43 rfl (lv_at hl 6 rfl) ?_
      refine lv_iinc (k := 3) (v := (cp + (-1))) (lv' := [(5, .int (cp + (-1))), (0, .int (x / 100)), (4, .int (((x / 100) * 100) - x)), (3, .int (x / 100)), (6, .int 0), (1, .int xi), (2, .ref ab)]) hx hb d_IN_getChars_44 hl rfl rfl (by decide) rfl (fun ls hl => ?_)
      refine lv_iload hx hb d_IN_getChars_47 (lv_at hl 0 rfl) ?_
      refine va_gets (v := .ref (tp_ad E 102)) hx hb hK.onesZ hS hown (htg _ kl_IN_83) (fun _ h => h) d_IN_getChars_49 ?_
      refine lv_iload hx hb d_IN_getChars_52 (lv_at hl 2 rfl) ?_
      refine va_tb (v := .int (tp_ones.getD (((x / 100) * 100) - x).toNatClampNeg 0)) hx hb hK.onesT hS (tp_vr hx0) rfl d_IN_getChars_54 ?_
      refine va_bast (D := tp_D E) hx hb hK.1 hP hD hS 0 3 rfl rfl (tp_vD1 (by have g1 := @tp_dg1 x.toInt.natAbs; have g3 := tp_dg3 (tp_na100 h2); omega) hcn) d_IN_getChars_55 (fun H locs hP hD hS => ?_)
      have hP : va_P (tp_D E) tp_cl ((ab, .inl (tp_ty E 3, nb, .inl (upd f (cp + (-1)).toNatClampNeg (vp_nar .byte (tp_ones.getD (((x / 100) * 100) - x).toNatClampNeg 0))))) :: fr) H := hP
      have hD : va_D A ((ab, .inl (tp_ty E 3, nb, .inl (upd f (cp + (-1)).toNatClampNeg (vp_nar .byte (tp_ones.getD (((x / 100) * 100) - x).toNatClampNeg 0))))) :: fr) := hD
      refine lv_aload_n hx hb d_IN_getChars_56 rfl (lv_at hl 6 rfl) ?_
      refine lv_iinc (k := 0) (v := ((cp + (-1)) + (-1))) (lv' := [(5, .int ((cp + (-1)) + (-1))), (0, .int (x / 100)), (4, .int (((x / 100) * 100) - x)), (3, .int (x / 100)), (6, .int 0), (1, .int xi), (2, .ref ab)]) hx hb d_IN_getChars_57 hl rfl rfl (by decide) rfl (fun ls hl => ?_)
      refine lv_iload hx hb d_IN_getChars_60 (lv_at hl 0 rfl) ?_
      refine va_gets (v := .ref (tp_ad E 103)) hx hb hK.tensZ hS hown (htg _ kl_IN_87) (fun _ h => h) d_IN_getChars_62 ?_
      refine lv_iload hx hb d_IN_getChars_65 (lv_at hl 2 rfl) ?_
      refine va_tb (v := .int (tp_tens.getD (((x / 100) * 100) - x).toNatClampNeg 0)) hx hb hK.tensT hS (tp_vr hx0) rfl d_IN_getChars_67 ?_
      refine va_bast (D := tp_D E) hx hb hK.1 hP hD hS 0 3 rfl rfl (tp_vD2 (by have g1 := @tp_dg1 x.toInt.natAbs; have g3 := tp_dg3 (tp_na100 h2); omega) hcn) d_IN_getChars_68 (fun H locs hP hD hS => ?_)
      have hP : va_P (tp_D E) tp_cl ((ab, .inl (tp_ty E 3, nb, .inl (upd (upd f (cp + (-1)).toNatClampNeg (vp_nar .byte (tp_ones.getD (((x / 100) * 100) - x).toNatClampNeg 0))) ((cp + (-1)) + (-1)).toNatClampNeg (vp_nar .byte (tp_tens.getD (((x / 100) * 100) - x).toNatClampNeg 0))))) :: fr) H := hP
      have hD : va_D A ((ab, .inl (tp_ty E 3, nb, .inl (upd (upd f (cp + (-1)).toNatClampNeg (vp_nar .byte (tp_ones.getD (((x / 100) * 100) - x).toNatClampNeg 0))) ((cp + (-1)) + (-1)).toNatClampNeg (vp_nar .byte (tp_tens.getD (((x / 100) * 100) - x).toNatClampNeg 0))))) :: fr) := hD
      refine lv_goto (tgt := 22) hx hb d_IN_getChars_69 (by decide) ?_
      have hq := tp_q100 hx0 h2
      have e1 : ((cp + (-1)) + (-1)).toInt = cp.toInt - 2 := tp_m2 (by have g1 := @tp_dg1 x.toInt.natAbs; omega)
      have hc2 : 2 ≤ cp.toInt := sf_hc3 hd (tp_dg3 (tp_na100 h2)) (by decide)
      exact ih ((x / 100).toInt.natAbs) (x / 100) ((cp + (-1)) + (-1)) (upd (upd f (cp + (-1)).toNatClampNeg (vp_nar .byte (tp_ones.getD (((x / 100) * 100) - x).toNatClampNeg 0))) ((cp + (-1)) + (-1)).toNatClampNeg (vp_nar .byte (tp_tens.getD (((x / 100) * 100) - x).toNatClampNeg 0))) ls _ _ (by rw [← hj]; exact hq.2.1) ⟨⟨hq.1, rfl, tp_gc1 hd hq.2.2 e1, tp_gc2 hcn e1, tp_fitst (tp_fitst hf), sf_gcs hgc hx0 h2 hc2 (sf_rx hx0)⟩, tp_lvI hl [1, 0, 4, 5, 6] rfl, hP, hD, hS⟩
  · refine lv_if_ge (tgt := 11) hx hb d_IN_getChars_4 (by decide) (fun h => absurd h h1) (fun _ => ?_)
    refine lv_iconst (v := 1) hx hb d_IN_getChars_7 (by decide) ?_
    refine lv_goto (tgt := 12) hx hb d_IN_getChars_8 (by decide) ?_
    refine lv_istore (lv' := [(6, .int 1), (5, .int xi), (0, .int xv), (1, .int xi), (2, .ref ab)]) hx hb d_IN_getChars_12 hl (by decide) rfl (fun ls hl => ?_)
    refine lv_iload hx hb d_IN_getChars_14 (lv_at hl 0 rfl) ?_
    refine lv_if_ne (tgt := 22) hx hb d_IN_getChars_16 (by decide) (fun _ => ?_) (fun h => absurd h (by decide))
    refine tp_loop3 (fun j ls H locs (x : Int32) (cp : Int32) (f : Nat → Int32) => ((x.toInt ≤ 0) ∧ (x.toInt.natAbs = j) ∧ ((tp_dg x.toInt.natAbs : Int) + 1 ≤ cp.toInt) ∧ (cp.toInt ≤ (nb : Int)) ∧ (tp_fit f) ∧ (sf_gc fb f xv x xi cp)) ∧ lv_has ls 7 [(0, .int x), (5, .int cp), (6, .int 1), (1, .int xi), (2, .ref ab)] ∧ va_P (tp_D E) tp_cl ((ab, .inl (tp_ty E 3, nb, .inl f)) :: fr) H ∧ va_D A ((ab, .inl (tp_ty E 3, nb, .inl f)) :: fr) ∧ va_S A s.heap H locs) ?_ _ xv xi fb ⟨⟨tp_x0n h1, rfl, tp_dln hd h1, hin9, hf, sf_gc0 rfl⟩, tp_lvI hl [2, 1, 0, 3, 4] rfl, hP, hD, hS⟩
    intro j x cp f ls H locs hI ih
    obtain ⟨⟨hx0, hj, hd, hcn, hf, hgc⟩, hl, hP, hD, hS⟩ := hI
    refine lv_iload_n hx hb d_IN_getChars_22 rfl (lv_at hl 0 rfl) ?_
    refine lv_bipush (v := (-100)) hx hb d_IN_getChars_23 (by decide) ?_
    by_cases h2 : (-100) < x
    · refine lv_icmp_gt (tgt := 72) hx hb d_IN_getChars_25 (by decide) (fun _ => ?_) (fun h => absurd h2 h)
      refine lv_aload_n hx hb d_IN_getChars_72 rfl (lv_at hl 4 rfl) ?_
      refine lv_iinc (k := 1) (v := (cp + (-1))) (lv' := [(5, .int (cp + (-1))), (0, .int x), (6, .int 1), (1, .int xi), (2, .ref ab)]) hx hb d_IN_getChars_73 hl rfl rfl (by decide) rfl (fun ls hl => ?_)
      refine lv_iload hx hb d_IN_getChars_76 (lv_at hl 0 rfl) ?_
      refine va_gets (v := .ref (tp_ad E 102)) hx hb hK.onesZ hS hown (htg _ kl_IN_83) (fun _ h => h) d_IN_getChars_78 ?_
      refine lv_iload_n hx hb d_IN_getChars_81 rfl (lv_at hl 1 rfl) ?_
      refine lv_ineg hx hb d_IN_getChars_82 ?_
      refine va_tb (v := .int (tp_ones.getD (-x).toNatClampNeg 0)) hx hb hK.onesT hS (tp_vng hx0 h2) rfl d_IN_getChars_83 ?_
      refine va_bast (D := tp_D E) hx hb hK.1 hP hD hS 0 3 rfl rfl (tp_vD1 (by have g1 := @tp_dg1 x.toInt.natAbs; omega) hcn) d_IN_getChars_84 (fun H locs hP hD hS => ?_)
      have hP : va_P (tp_D E) tp_cl ((ab, .inl (tp_ty E 3, nb, .inl (upd f (cp + (-1)).toNatClampNeg (vp_nar .byte (tp_ones.getD (-x).toNatClampNeg 0))))) :: fr) H := hP
      have hD : va_D A ((ab, .inl (tp_ty E 3, nb, .inl (upd f (cp + (-1)).toNatClampNeg (vp_nar .byte (tp_ones.getD (-x).toNatClampNeg 0))))) :: fr) := hD
      refine lv_iload_n hx hb d_IN_getChars_85 rfl (lv_at hl 1 rfl) ?_
      refine lv_bipush (v := (-9)) hx hb d_IN_getChars_86 (by decide) ?_
      by_cases h3 : (-9) ≤ x
      · refine lv_icmp_ge (tgt := 104) hx hb d_IN_getChars_88 (by decide) (fun _ => ?_) (fun h => absurd h3 h)
        refine lv_iload hx hb d_IN_getChars_104 (lv_at hl 2 rfl) ?_
        refine lv_if_eq (tgt := 118) hx hb d_IN_getChars_106 (by decide) (fun h => absurd h (by decide)) (fun _ => ?_)
        refine lv_aload_n hx hb d_IN_getChars_109 rfl (lv_at hl 4 rfl) ?_
        refine lv_iinc (k := 0) (v := ((cp + (-1)) + (-1))) (lv' := [(5, .int ((cp + (-1)) + (-1))), (0, .int x), (6, .int 1), (1, .int xi), (2, .ref ab)]) hx hb d_IN_getChars_110 hl rfl rfl (by decide) rfl (fun ls hl => ?_)
        refine lv_iload hx hb d_IN_getChars_113 (lv_at hl 0 rfl) ?_
        refine lv_bipush (v := 45) hx hb d_IN_getChars_115 (by decide) ?_
        refine va_bast (D := tp_D E) hx hb hK.1 hP hD hS 0 3 rfl rfl (tp_vD2 (by have g1 := @tp_dg1 x.toInt.natAbs; omega) hcn) d_IN_getChars_117 (fun H locs hP hD hS => ?_)
        have hP : va_P (tp_D E) tp_cl ((ab, .inl (tp_ty E 3, nb, .inl (upd (upd f (cp + (-1)).toNatClampNeg (vp_nar .byte (tp_ones.getD (-x).toNatClampNeg 0))) ((cp + (-1)) + (-1)).toNatClampNeg 45))) :: fr) H := hP
        have hD : va_D A ((ab, .inl (tp_ty E 3, nb, .inl (upd (upd f (cp + (-1)).toNatClampNeg (vp_nar .byte (tp_ones.getD (-x).toNatClampNeg 0))) ((cp + (-1)) + (-1)).toNatClampNeg 45))) :: fr) := hD
        refine lv_iload hx hb d_IN_getChars_118 (lv_at hl 0 rfl) ?_
        have hc2 : 1 ≤ cp.toInt := by have g1 := @tp_dg1 x.toInt.natAbs; omega
        obtain ⟨b, hb0, hb1, hb2, hb3⟩ := sf_gA hgc hx0 h2 h3 hc2
        have hxn : xv.toInt < 0 := sf_neg h1
        have hcb : ((cp + (-1)) + (-1)).toNatClampNeg = b - 1 := sf_cb2 (by have g1 := @tp_dg1 x.toInt.natAbs; omega) hb0
        have hb1b : 1 ≤ b := sf_b1 hb0 (by have g1 := @tp_dg1 x.toInt.natAbs; omega)
        have hap := sf_apN hb2 hb3 hb1 hb1b hxn
        rw [← hcb] at hap
        exact W.iret (v := ((cp + (-1)) + (-1))) hx hb hr (fun t ht hW => ⟨⟨_, (upd (upd f (cp + (-1)).toNatClampNeg (vp_nar .byte (tp_ones.getD (-x).toNatClampNeg 0))) ((cp + (-1)) + (-1)).toNatClampNeg 45), rfl, ⟨(tp_fit45 (tp_fitst hf)), ⟨_, hap⟩⟩, by rw [ht]; exact hP, hD⟩, hS.F ht⟩) hS.2.2 d_IN_getChars_120
      · refine lv_icmp_ge (tgt := 104) hx hb d_IN_getChars_88 (by decide) (fun h => absurd h h3) (fun _ => ?_)
        refine lv_aload_n hx hb d_IN_getChars_91 rfl (lv_at hl 4 rfl) ?_
        refine lv_iinc (k := 0) (v := ((cp + (-1)) + (-1))) (lv' := [(5, .int ((cp + (-1)) + (-1))), (0, .int x), (6, .int 1), (1, .int xi), (2, .ref ab)]) hx hb d_IN_getChars_92 hl rfl rfl (by decide) rfl (fun ls hl => ?_)
        refine lv_iload hx hb d_IN_getChars_95 (lv_at hl 0 rfl) ?_
        refine va_gets (v := .ref (tp_ad E 103)) hx hb hK.tensZ hS hown (htg _ kl_IN_87) (fun _ h => h) d_IN_getChars_97 ?_
        refine lv_iload_n hx hb d_IN_getChars_100 rfl (lv_at hl 1 rfl) ?_
        refine lv_ineg hx hb d_IN_getChars_101 ?_
        refine va_tb (v := .int (tp_tens.getD (-x).toNatClampNeg 0)) hx hb hK.tensT hS (tp_vng hx0 h2) rfl d_IN_getChars_102 ?_
        refine va_bast (D := tp_D E) hx hb hK.1 hP hD hS 0 3 rfl rfl (tp_vD2 (by have g1 := @tp_dg1 x.toInt.natAbs; have g2 := tp_dg2 (tp_na10 h3); omega) hcn) d_IN_getChars_103 (fun H locs hP hD hS => ?_)
        have hP : va_P (tp_D E) tp_cl ((ab, .inl (tp_ty E 3, nb, .inl (upd (upd f (cp + (-1)).toNatClampNeg (vp_nar .byte (tp_ones.getD (-x).toNatClampNeg 0))) ((cp + (-1)) + (-1)).toNatClampNeg (vp_nar .byte (tp_tens.getD (-x).toNatClampNeg 0))))) :: fr) H := hP
        have hD : va_D A ((ab, .inl (tp_ty E 3, nb, .inl (upd (upd f (cp + (-1)).toNatClampNeg (vp_nar .byte (tp_ones.getD (-x).toNatClampNeg 0))) ((cp + (-1)) + (-1)).toNatClampNeg (vp_nar .byte (tp_tens.getD (-x).toNatClampNeg 0))))) :: fr) := hD
        refine lv_iload hx hb d_IN_getChars_104 (lv_at hl 2 rfl) ?_
        refine lv_if_eq (tgt := 118) hx hb d_IN_getChars_106 (by decide) (fun h => absurd h (by decide)) (fun _ => ?_)
        refine lv_aload_n hx hb d_IN_getChars_109 rfl (lv_at hl 4 rfl) ?_
        refine lv_iinc (k := 0) (v := (((cp + (-1)) + (-1)) + (-1))) (lv' := [(5, .int (((cp + (-1)) + (-1)) + (-1))), (0, .int x), (6, .int 1), (1, .int xi), (2, .ref ab)]) hx hb d_IN_getChars_110 hl rfl rfl (by decide) rfl (fun ls hl => ?_)
        refine lv_iload hx hb d_IN_getChars_113 (lv_at hl 0 rfl) ?_
        refine lv_bipush (v := 45) hx hb d_IN_getChars_115 (by decide) ?_
        refine va_bast (D := tp_D E) hx hb hK.1 hP hD hS 0 3 rfl rfl (tp_vD3 (by have g1 := @tp_dg1 x.toInt.natAbs; have g2 := tp_dg2 (tp_na10 h3); omega) hcn) d_IN_getChars_117 (fun H locs hP hD hS => ?_)
        have hP : va_P (tp_D E) tp_cl ((ab, .inl (tp_ty E 3, nb, .inl (upd (upd (upd f (cp + (-1)).toNatClampNeg (vp_nar .byte (tp_ones.getD (-x).toNatClampNeg 0))) ((cp + (-1)) + (-1)).toNatClampNeg (vp_nar .byte (tp_tens.getD (-x).toNatClampNeg 0))) (((cp + (-1)) + (-1)) + (-1)).toNatClampNeg 45))) :: fr) H := hP
        have hD : va_D A ((ab, .inl (tp_ty E 3, nb, .inl (upd (upd (upd f (cp + (-1)).toNatClampNeg (vp_nar .byte (tp_ones.getD (-x).toNatClampNeg 0))) ((cp + (-1)) + (-1)).toNatClampNeg (vp_nar .byte (tp_tens.getD (-x).toNatClampNeg 0))) (((cp + (-1)) + (-1)) + (-1)).toNatClampNeg 45))) :: fr) := hD
        refine lv_iload hx hb d_IN_getChars_118 (lv_at hl 0 rfl) ?_
        have hc2 : 2 ≤ cp.toInt := by have g1 := @tp_dg1 x.toInt.natAbs; have g2 := tp_dg2 (tp_na10 h3); omega
        obtain ⟨b, hb0, hb1, hb2, hb3⟩ := sf_gB hgc hx0 h2 h3 hc2
        have hxn : xv.toInt < 0 := sf_neg h1
        have hcb : (((cp + (-1)) + (-1)) + (-1)).toNatClampNeg = b - 1 := sf_cb3 (by have g1 := @tp_dg1 x.toInt.natAbs; have g2 := tp_dg2 (tp_na10 h3); omega) hb0
        have hb1b : 1 ≤ b := sf_b1 hb0 (by have g1 := @tp_dg1 x.toInt.natAbs; have g2 := tp_dg2 (tp_na10 h3); omega)
        have hap := sf_apN hb2 hb3 hb1 hb1b hxn
        rw [← hcb] at hap
        exact W.iret (v := (((cp + (-1)) + (-1)) + (-1))) hx hb hr (fun t ht hW => ⟨⟨_, (upd (upd (upd f (cp + (-1)).toNatClampNeg (vp_nar .byte (tp_ones.getD (-x).toNatClampNeg 0))) ((cp + (-1)) + (-1)).toNatClampNeg (vp_nar .byte (tp_tens.getD (-x).toNatClampNeg 0))) (((cp + (-1)) + (-1)) + (-1)).toNatClampNeg 45), rfl, ⟨(tp_fit45 (tp_fitst (tp_fitst hf))), ⟨_, hap⟩⟩, by rw [ht]; exact hP, hD⟩, hS.F ht⟩) hS.2.2 d_IN_getChars_120
    · refine lv_icmp_gt (tgt := 72) hx hb d_IN_getChars_25 (by decide) (fun h => absurd h h2) (fun _ => ?_)
      refine lv_iload_n hx hb d_IN_getChars_28 rfl (lv_at hl 0 rfl) ?_
      refine lv_bipush (v := 100) hx hb d_IN_getChars_29 (by decide) ?_
      refine lv_idiv hx hb d_IN_getChars_31 (by decide) ?_
      refine lv_istore_n (lv' := [(3, .int (x / 100)), (0, .int x), (5, .int cp), (6, .int 1), (1, .int xi), (2, .ref ab)]) hx hb d_IN_getChars_32 rfl hl (by decide) rfl (fun ls hl => ?_)
      refine lv_iload_n hx hb d_IN_getChars_33 rfl (lv_at hl 0 rfl) ?_
      refine lv_bipush (v := 100) hx hb d_IN_getChars_34 (by decide) ?_
      refine lv_imul hx hb d_IN_getChars_36 ?_
      refine lv_iload_n hx hb d_IN_getChars_37 rfl (lv_at hl 1 rfl) ?_
      refine lv_isub hx hb d_IN_getChars_38 ?_
      refine lv_istore (lv' := [(4, .int (((x / 100) * 100) - x)), (3, .int (x / 100)), (0, .int x), (5, .int cp), (6, .int 1), (1, .int xi), (2, .ref ab)]) hx hb d_IN_getChars_39 hl (by decide) rfl (fun ls hl => ?_)
      refine lv_iload_n hx hb d_IN_getChars_41 rfl (lv_at hl 1 rfl) ?_
      refine lv_istore_n (lv' := [(0, .int (x / 100)), (4, .int (((x / 100) * 100) - x)), (3, .int (x / 100)), (5, .int cp), (6, .int 1), (1, .int xi), (2, .ref ab)]) hx hb d_IN_getChars_42 rfl hl (by decide) rfl (fun ls hl => ?_)
      refine lv_aload_n hx hb d_IN_getChars_43 rfl (lv_at hl 6 rfl) ?_
      refine lv_iinc (k := 3) (v := (cp + (-1))) (lv' := [(5, .int (cp + (-1))), (0, .int (x / 100)), (4, .int (((x / 100) * 100) - x)), (3, .int (x / 100)), (6, .int 1), (1, .int xi), (2, .ref ab)]) hx hb d_IN_getChars_44 hl rfl rfl (by decide) rfl (fun ls hl => ?_)
      refine lv_iload hx hb d_IN_getChars_47 (lv_at hl 0 rfl) ?_
      refine va_gets (v := .ref (tp_ad E 102)) hx hb hK.onesZ hS hown (htg _ kl_IN_83) (fun _ h => h) d_IN_getChars_49 ?_
      refine lv_iload hx hb d_IN_getChars_52 (lv_at hl 2 rfl) ?_
      refine va_tb (v := .int (tp_ones.getD (((x / 100) * 100) - x).toNatClampNeg 0)) hx hb hK.onesT hS (tp_vr hx0) rfl d_IN_getChars_54 ?_
      refine va_bast (D := tp_D E) hx hb hK.1 hP hD hS 0 3 rfl rfl (tp_vD1 (by have g1 := @tp_dg1 x.toInt.natAbs; have g3 := tp_dg3 (tp_na100 h2); omega) hcn) d_IN_getChars_55 (fun H locs hP hD hS => ?_)
      have hP : va_P (tp_D E) tp_cl ((ab, .inl (tp_ty E 3, nb, .inl (upd f (cp + (-1)).toNatClampNeg (vp_nar .byte (tp_ones.getD (((x / 100) * 100) - x).toNatClampNeg 0))))) :: fr) H := hP
      have hD : va_D A ((ab, .inl (tp_ty E 3, nb, .inl (upd f (cp + (-1)).toNatClampNeg (vp_nar .byte (tp_ones.getD (((x / 100) * 100) - x).toNatClampNeg 0))))) :: fr) := hD
      refine lv_aload_n hx hb d_IN_getChars_56 rfl (lv_at hl 6 rfl) ?_
      refine lv_iinc (k := 0) (v := ((cp + (-1)) + (-1))) (lv' := [(5, .int ((cp + (-1)) + (-1))), (0, .int (x / 100)), (4, .int (((x / 100) * 100) - x)), (3, .int (x / 100)), (6, .int 1), (1, .int xi), (2, .ref ab)]) hx hb d_IN_getChars_57 hl rfl rfl (by decide) rfl (fun ls hl => ?_)
      refine lv_iload hx hb d_IN_getChars_60 (lv_at hl 0 rfl) ?_
      refine va_gets (v := .ref (tp_ad E 103)) hx hb hK.tensZ hS hown (htg _ kl_IN_87) (fun _ h => h) d_IN_getChars_62 ?_
      refine lv_iload hx hb d_IN_getChars_65 (lv_at hl 2 rfl) ?_
      refine va_tb (v := .int (tp_tens.getD (((x / 100) * 100) - x).toNatClampNeg 0)) hx hb hK.tensT hS (tp_vr hx0) rfl d_IN_getChars_67 ?_
      refine va_bast (D := tp_D E) hx hb hK.1 hP hD hS 0 3 rfl rfl (tp_vD2 (by have g1 := @tp_dg1 x.toInt.natAbs; have g3 := tp_dg3 (tp_na100 h2); omega) hcn) d_IN_getChars_68 (fun H locs hP hD hS => ?_)
      have hP : va_P (tp_D E) tp_cl ((ab, .inl (tp_ty E 3, nb, .inl (upd (upd f (cp + (-1)).toNatClampNeg (vp_nar .byte (tp_ones.getD (((x / 100) * 100) - x).toNatClampNeg 0))) ((cp + (-1)) + (-1)).toNatClampNeg (vp_nar .byte (tp_tens.getD (((x / 100) * 100) - x).toNatClampNeg 0))))) :: fr) H := hP
      have hD : va_D A ((ab, .inl (tp_ty E 3, nb, .inl (upd (upd f (cp + (-1)).toNatClampNeg (vp_nar .byte (tp_ones.getD (((x / 100) * 100) - x).toNatClampNeg 0))) ((cp + (-1)) + (-1)).toNatClampNeg (vp_nar .byte (tp_tens.getD (((x / 100) * 100) - x).toNatClampNeg 0))))) :: fr) := hD
      refine lv_goto (tgt := 22) hx hb d_IN_getChars_69 (by decide) ?_
      have hq := tp_q100 hx0 h2
      have e1 : ((cp + (-1)) + (-1)).toInt = cp.toInt - 2 := tp_m2 (by have g1 := @tp_dg1 x.toInt.natAbs; omega)
      have hc2 : 2 ≤ cp.toInt := sf_hc3 hd (tp_dg3 (tp_na100 h2)) (by decide)
      exact ih ((x / 100).toInt.natAbs) (x / 100) ((cp + (-1)) + (-1)) (upd (upd f (cp + (-1)).toNatClampNeg (vp_nar .byte (tp_ones.getD (((x / 100) * 100) - x).toNatClampNeg 0))) ((cp + (-1)) + (-1)).toNatClampNeg (vp_nar .byte (tp_tens.getD (((x / 100) * 100) - x).toNatClampNeg 0))) ls _ _ (by rw [← hj]; exact hq.2.1) ⟨⟨hq.1, rfl, tp_gc1 hd hq.2.2 e1, tp_gc2 hcn e1, tp_fitst (tp_fitst hf), sf_gcs hgc hx0 h2 hc2 (sf_rx hx0)⟩, tp_lvI hl [1, 0, 4, 5, 6] rfl, hP, hD, hS⟩
set_option maxHeartbeats 4000000 in
set_option maxRecDepth 100000 in
theorem x_AS_appI (l : Launch) (E : tp_Env) (fr : va_W) (sz : Nat) (aB ab : Nat) (xm xc : Int32) (nb : Nat) (fb : Nat → Int32) (L : List Int32) (xv : Int32) (hn : nb = 16 ∨ nb = 34) (hf : tp_fit fb) (hq : xc.toInt ≤ (nb : Int)) (hL : sf_is fb xc L) (hc : 0 ≤ xc.toInt ∧ xc.toInt + (tp_dl xv : Int) ≤ 34) : Met l y_AS_append_1 w_AS_append_1 ({ frames := 4, cells := 1, slots := 34, locals := 144 }) (va_Pc [.ref aB, .int xv] (tp_in E ((aB, .inr (6, [.ref ab, .int 0, .int xm, .int xc])) :: (ab, .inl (tp_ty E 3, nb, .inl fb)) :: fr) sz)) (va_Qr (fun (u : Nat × Nat × (Nat → Int32) × Int32) => (u.2.1 = 16 ∨ u.2.1 = 34) ∧ tp_fit u.2.2.1 ∧ u.2.2.2.toInt = xc.toInt + (tp_dl xv : Int) ∧ u.2.2.2.toInt ≤ (u.2.1 : Int) ∧ sf_is u.2.2.1 u.2.2.2 (L ++ sf_digs xv)) (fun u q t => q = (fun (_ : Nat × Nat × (Nat → Int32) × Int32) => aB) u ∧ tp_out E (va_A ((aB, .inr (6, [.ref ab, .int 0, .int xm, .int xc])) :: (ab, .inl (tp_ty E 3, nb, .inl fb)) :: fr) sz) ((aB, .inr (6, [.ref u.1, .int 0, .int xm, .int u.2.2.2])) :: (u.1, .inl (tp_ty E 3, u.2.1, .inl u.2.2.1)) :: fr) t) (va_A ((aB, .inr (6, [.ref ab, .int 0, .int xm, .int xc])) :: (ab, .inl (tp_ty E 3, nb, .inl fb)) :: fr) sz)) 1 34 (va_A ((aB, .inr (6, [.ref ab, .int 0, .int xm, .int xc])) :: (ab, .inl (tp_ty E 3, nb, .inl fb)) :: fr) sz) := by
  refine Met.ofW (cc := b_AS_append_1) (maxL := 4) (ret := (some (.object "java/lang/AbstractStringBuilder"))) (by decide) rfl ?_
  intro p e s m args below meth c s₁ B hml hv
  obtain ⟨rfl, hsz, hP, hK, hD0⟩ := hv
  have hx := B.exec
  have hb := B.bytes
  have hr := B.returns
  have htg : ∀ w ∈ tp_G, w.before ([.ref aB, .int xv] : List Value).toArray s = true := fun w h => atoms_spec (ws := w_AS_append_1) B.pre w (List.mem_cons_of_mem _ h)
  have hown : s.vm.findClass "java/lang/AbstractStringBuilder" = some m.cls := findClass_of_methodNamed B.named
  have hlocks := B.notSynchronized
  subst hsz
  have hD := hD0.self (sz := s.heap.size)
  generalize hAe : va_A ((aB, .inr (6, [.ref ab, .int 0, .int xm, .int xc])) :: (ab, .inl (tp_ty E 3, nb, .inl fb)) :: fr) s.heap.size = A at hD hK ⊢
  have hA : ∀ q : Nat, s.heap.size ≤ q → A q := fun q h => by rw [← hAe]; exact Or.inr h
  have hS : va_S A s.heap s.heap [] := va_S.rf
  have hl := lv_entry ([.ref aB, .int xv]) (n := 4) (Nat.le_of_ble_eq_true rfl)
  rw [lg_entry_eq]
  generalize (lg_sl ([.ref aB, .int xv]) ++ List.replicate (4 - (lg_sl ([.ref aB, .int xv])).length) Slot.unset).toArray = ls at hl ⊢
  have hl : lv_has ls 4 [(0, .ref aB), (1, .int xv)] := hl
  refine lv_aload_n hx hb d_AS_append_1_0 rfl (lv_at hl 0 rfl) ?_
  refine va_get (D := tp_D E) (ci := 6) (v := .int xc) (C := qR_SB) (T := qF_SB) (N := 4) hx hb htg qi_SB hown hK.1 hP 0 rfl rfl 3 (by decide) (htg _ kl_AS_79) (fun _ h => h) rfl d_AS_append_1_1 ?_
  refine lv_istore_n (lv' := [(2, .int xc), (0, .ref aB), (1, .int xv)]) hx hb d_AS_append_1_4 rfl hl (by decide) rfl (fun ls hl => ?_)
  refine lv_iload_n hx hb d_AS_append_1_5 rfl (lv_at hl 0 rfl) ?_
  refine lv_iload_n hx hb d_AS_append_1_6 rfl (lv_at hl 2 rfl) ?_
  refine tp_ci (tp_rS (As := [.int xv]) (rest := [.int xc]) ⟨hx, hb, hml, hown, htg⟩ (a_IN_stringSize l E ((aB, .inr (6, [.ref ab, .int 0, .int xm, .int xc])) :: (ab, .inl (tp_ty E 3, nb, .inl fb)) :: fr) _ xv ) (⟨callB_of 1 htg (tp_good0 kc_IN_stringSize) rfl rfl rfl (htg _ ki_IN) (htg _ kl_AS_245) ⟨by decide, by decide, by decide +kernel⟩ ⟨Nat.le_of_ble_eq_true rfl, Nat.le_of_ble_eq_true rfl⟩, htg _ ks_IN_stringSize⟩) hK hP hD hS hA rfl hl.1 rfl (Nat.le_of_ble_eq_true rfl) d_AS_append_1_7 ⟨Nat.le_of_ble_eq_true rfl, Nat.le_of_ble_eq_true rfl⟩) hD hS hA (fun r u H locs hw hP hD hS => ?_)
  have hszq1 : r.toInt = (tp_dl xv : Int) := hw
  generalize r = szq1 at hszq1 ⊢
  have hP : va_P (tp_D E) tp_cl ((aB, .inr (6, [.ref ab, .int 0, .int xm, .int xc])) :: (ab, .inl (tp_ty E 3, nb, .inl fb)) :: fr) H := hP
  have hD : va_D A ((aB, .inr (6, [.ref ab, .int 0, .int xm, .int xc])) :: (ab, .inl (tp_ty E 3, nb, .inl fb)) :: fr) := hD
  refine lv_iadd hx hb d_AS_append_1_10 ?_
  refine lv_istore_n (lv' := [(3, .int (xc + szq1)), (2, .int xc), (0, .ref aB), (1, .int xv)]) hx hb d_AS_append_1_11 rfl hl (by decide) rfl (fun ls hl => ?_)
  refine lv_aload_n hx hb d_AS_append_1_12 rfl (lv_at hl 2 rfl) ?_
  refine lv_iload_n hx hb d_AS_append_1_13 rfl (lv_at hl 0 rfl) ?_
  refine tp_cv (tp_rV (As := [.int (xc + szq1)]) (rest := []) ⟨hx, hb, hml, hown, htg⟩ (x_AS_ensure l E fr _ aB ab xm xc (xc + szq1) nb fb hn (tp_ci1 hc hszq1) hf) (⟨callB_of 1 htg (tp_good0 kc_AS_ensureCapacityInternal) rfl rfl rfl (htg _ ki_AS) (htg _ kl_AS_100) ⟨by decide, by decide, by decide +kernel⟩ ⟨Nat.le_of_ble_eq_true rfl, Nat.le_of_ble_eq_true rfl⟩, htg _ km_AS_ensureCapacityInternal, htg _ kv_SB_AS_ensureCapacityInternal⟩) (va_recv (ci := 6) (q0 := 0) hK.1 hP rfl rfl) hK hP hD hS hA rfl hl.1 rfl (Nat.le_of_ble_eq_true rfl) d_AS_append_1_14 ⟨Nat.le_of_ble_eq_true rfl, Nat.le_of_ble_eq_true rfl⟩) hD hS hA (fun u H locs hw hP hD hS => ?_)
  obtain ⟨eq2, nq2, fq2⟩ := u
  obtain ⟨hnq2, hmq2, hfq2, hkq2⟩ : (nq2 = 16 ∨ nq2 = 34) ∧ (xc + szq1).toInt ≤ (nq2 : Int) ∧ tp_fit fq2 ∧ ∀ j : Nat, j < nb → fq2 j = fb j := hw
  have hP : va_P (tp_D E) tp_cl ((aB, .inr (6, [.ref eq2, .int 0, .int xm, .int xc])) :: (eq2, .inl (tp_ty E 3, nq2, .inl fq2)) :: fr) H := hP
  have hD : va_D A ((aB, .inr (6, [.ref eq2, .int 0, .int xm, .int xc])) :: (eq2, .inl (tp_ty E 3, nq2, .inl fq2)) :: fr) := hD
  refine lv_aload_n hx hb d_AS_append_1_17 rfl (lv_at hl 2 rfl) ?_
  refine tp_ci (tp_rV (As := []) (rest := []) ⟨hx, hb, hml, hown, htg⟩ (cs_AS_isLatin1_1 l E ((eq2, .inl (tp_ty E 3, nq2, .inl fq2)) :: fr) _ aB eq2 0 xm xc (by decide)) (⟨callB_of 0 htg (tp_good0 kc_AS_isLatin1) rfl rfl rfl (htg _ ki_AS) (htg _ kl_AS_83) ⟨by decide, by decide, by decide +kernel⟩ ⟨Nat.le_of_ble_eq_true rfl, Nat.le_of_ble_eq_true rfl⟩, htg _ km_AS_isLatin1, htg _ kv_SB_AS_isLatin1⟩) (va_recv (ci := 6) (q0 := 0) hK.1 hP rfl rfl) hK hP hD hS hA rfl hl.1 rfl (Nat.le_of_ble_eq_true rfl) d_AS_append_1_18 ⟨Nat.le_of_ble_eq_true rfl, Nat.le_of_ble_eq_true rfl⟩) hD hS hA (fun r u H locs hw hP hD hS => ?_)
  subst r
  have hP : va_P (tp_D E) tp_cl ((aB, .inr (6, [.ref eq2, .int 0, .int xm, .int xc])) :: (eq2, .inl (tp_ty E 3, nq2, .inl fq2)) :: fr) H := hP
  have hD : va_D A ((aB, .inr (6, [.ref eq2, .int 0, .int xm, .int xc])) :: (eq2, .inl (tp_ty E 3, nq2, .inl fq2)) :: fr) := hD
  refine lv_if_eq (tgt := 37) hx hb d_AS_append_1_21 (by decide) (fun h => absurd h (by decide)) (fun _ => ?_)
  refine lv_iload_n hx hb d_AS_append_1_24 rfl (lv_at hl 3 rfl) ?_
  refine lv_iload_n hx hb d_AS_append_1_25 rfl (lv_at hl 0 rfl) ?_
  refine lv_aload_n hx hb d_AS_append_1_26 rfl (lv_at hl 2 rfl) ?_
  refine va_get (D := tp_D E) (ci := 6) (v := .ref eq2) (C := qR_SB) (T := qF_SB) (N := 4) hx hb htg qi_SB hown hK.1 hP 0 rfl rfl 0 (by decide) (htg _ kl_AS_15) (fun _ h => h) rfl d_AS_append_1_27 ?_
  have hP : va_P (tp_D E) tp_cl ((eq2, .inl (tp_ty E 3, nq2, .inl fq2)) :: (aB, .inr (6, [.ref eq2, .int 0, .int xm, .int xc])) :: fr) _ := tp_mvP 1 rfl hP
  have hD : va_D A ((eq2, .inl (tp_ty E 3, nq2, .inl fq2)) :: (aB, .inr (6, [.ref eq2, .int 0, .int xm, .int xc])) :: fr) := tp_mvD 1 rfl hD
  refine tp_ci (tp_rS (As := [.int xv, .int (xc + szq1), .ref eq2]) (rest := []) ⟨hx, hb, hml, hown, htg⟩ (x_IN_getChars l E ((aB, .inr (6, [.ref eq2, .int 0, .int xm, .int xc])) :: fr) _ eq2 nq2 xv (xc + szq1) fq2 (tp_ci2 hc hszq1) hmq2 hfq2) (⟨callB_of 3 htg (tp_good0 kc_IN_getChars) rfl rfl rfl (htg _ ki_IN) (htg _ kl_AS_248) ⟨by decide, by decide, by decide +kernel⟩ ⟨Nat.le_of_ble_eq_true rfl, Nat.le_of_ble_eq_true rfl⟩, htg _ ks_IN_getChars⟩) hK hP hD hS hA rfl hl.1 rfl (Nat.le_of_ble_eq_true rfl) d_AS_append_1_30 ⟨Nat.le_of_ble_eq_true rfl, Nat.le_of_ble_eq_true rfl⟩) hD hS hA (fun r u H locs hw hP hD hS => ?_)
  obtain ⟨hfq3, haq3⟩ : tp_fit u ∧ ∃ b : Nat, b + tp_dl xv = ((xc + szq1)).toNatClampNeg ∧ sf_ap u fq2 b (sf_digs xv) := hw
  generalize u = cq3 at hP hD hfq3 haq3
  have hP : va_P (tp_D E) tp_cl ((eq2, .inl (tp_ty E 3, nq2, .inl cq3)) :: (aB, .inr (6, [.ref eq2, .int 0, .int xm, .int xc])) :: fr) H := hP
  have hD : va_D A ((eq2, .inl (tp_ty E 3, nq2, .inl cq3)) :: (aB, .inr (6, [.ref eq2, .int 0, .int xm, .int xc])) :: fr) := hD
  refine lv_pop hx hb d_AS_append_1_33 rfl ?_
  refine lv_goto (tgt := 48) hx hb d_AS_append_1_34 (by decide) ?_
  refine lv_aload_n hx hb d_AS_append_1_48 rfl (lv_at hl 2 rfl) ?_
  refine lv_iload_n hx hb d_AS_append_1_49 rfl (lv_at hl 0 rfl) ?_
  refine va_put (D := tp_D E) (ci := 6) (v := .int (xc + szq1)) (ty := .int) (C := qR_SB) (T := qF_SB) (N := 4) hx hb htg qi_SB qt_SB qt_SB_ok qn_SB hown hK.1 hP hD hS 1 rfl rfl 3 (by decide) (htg _ kl_AS_79) (fun _ h => h) rfl (by decide +kernel) rfl rfl (Nat.le_of_ble_eq_true rfl) d_AS_append_1_50 (fun H locs hP hD hS => ?_)
  have hP : va_P (tp_D E) tp_cl ((eq2, .inl (tp_ty E 3, nq2, .inl cq3)) :: (aB, .inr (6, [.ref eq2, .int 0, .int xm, .int (xc + szq1)])) :: fr) H := hP
  have hD : va_D A ((eq2, .inl (tp_ty E 3, nq2, .inl cq3)) :: (aB, .inr (6, [.ref eq2, .int 0, .int xm, .int (xc + szq1)])) :: fr) := hD
  refine lv_aload_n hx hb d_AS_append_1_53 rfl (lv_at hl 2 rfl) ?_
  have hP : va_P (tp_D E) tp_cl ((eq2, .inl (tp_ty E 3, nq2, .inl cq3)) :: (aB, .inr (6, [.ref eq2, .int 0, .int xm, .int (xc + szq1)])) :: fr) _ := tp_mvP 0 rfl hP
  have hD : va_D A ((eq2, .inl (tp_ty E 3, nq2, .inl cq3)) :: (aB, .inr (6, [.ref eq2, .int 0, .int xm, .int (xc + szq1)])) :: fr) := tp_mvD 0 rfl hD
  have hP : va_P (tp_D E) tp_cl ((aB, .inr (6, [.ref eq2, .int 0, .int xm, .int (xc + szq1)])) :: (eq2, .inl (tp_ty E 3, nq2, .inl cq3)) :: fr) _ := tp_mvP 1 rfl hP
  have hD : va_D A ((aB, .inr (6, [.ref eq2, .int 0, .int xm, .int (xc + szq1)])) :: (eq2, .inl (tp_ty E 3, nq2, .inl cq3)) :: fr) := tp_mvD 1 rfl hD
  exact W.aret (v := .ref aB) hx hb hr (Or.inl ⟨_, rfl⟩) (Or.inr ⟨_, rfl⟩) (fun t ht hW => ⟨⟨(eq2, nq2, cq3, (xc + szq1)), _, rfl, ⟨hnq2, hfq3, tp_ci3 hc hszq1, hmq2, sf_isI hL hq hkq2 haq3 hc hszq1⟩, rfl, by rw [ht]; exact hP, hD⟩, hS.F ht⟩) hS.2.2 d_AS_append_1_54
set_option maxHeartbeats 4000000 in
set_option maxRecDepth 100000 in
theorem x_SB_appI (l : Launch) (E : tp_Env) (fr : va_W) (sz : Nat) (aB ab : Nat) (xm xc : Int32) (nb : Nat) (fb : Nat → Int32) (L : List Int32) (xv : Int32) (hn : nb = 16 ∨ nb = 34) (hf : tp_fit fb) (hq : xc.toInt ≤ (nb : Int)) (hL : sf_is fb xc L) (hc : 0 ≤ xc.toInt ∧ xc.toInt + (tp_dl xv : Int) ≤ 34) : Met l y_SB_append_1 w_SB_append_1 ({ frames := 5, cells := 1, slots := 34, locals := 167 }) (va_Pc [.ref aB, .int xv] (tp_in E ((aB, .inr (6, [.ref ab, .int 0, .int xm, .int xc])) :: (ab, .inl (tp_ty E 3, nb, .inl fb)) :: fr) sz)) (va_Qr (fun (u : Nat × Nat × (Nat → Int32) × Int32) => (u.2.1 = 16 ∨ u.2.1 = 34) ∧ tp_fit u.2.2.1 ∧ u.2.2.2.toInt = xc.toInt + (tp_dl xv : Int) ∧ u.2.2.2.toInt ≤ (u.2.1 : Int) ∧ sf_is u.2.2.1 u.2.2.2 (L ++ sf_digs xv)) (fun u q t => q = (fun (_ : Nat × Nat × (Nat → Int32) × Int32) => aB) u ∧ tp_out E (va_A ((aB, .inr (6, [.ref ab, .int 0, .int xm, .int xc])) :: (ab, .inl (tp_ty E 3, nb, .inl fb)) :: fr) sz) ((aB, .inr (6, [.ref u.1, .int 0, .int xm, .int u.2.2.2])) :: (u.1, .inl (tp_ty E 3, u.2.1, .inl u.2.2.1)) :: fr) t) (va_A ((aB, .inr (6, [.ref ab, .int 0, .int xm, .int xc])) :: (ab, .inl (tp_ty E 3, nb, .inl fb)) :: fr) sz)) 1 34 (va_A ((aB, .inr (6, [.ref ab, .int 0, .int xm, .int xc])) :: (ab, .inl (tp_ty E 3, nb, .inl fb)) :: fr) sz) := by
  refine Met.ofW (cc := b_SB_append_1) (maxL := 2) (ret := (some (.object "java/lang/StringBuilder"))) (by decide) rfl ?_
  intro p e s m args below meth c s₁ B hml hv
  obtain ⟨rfl, hsz, hP, hK, hD0⟩ := hv
  have hx := B.exec
  have hb := B.bytes
  have hr := B.returns
  have htg : ∀ w ∈ tp_G, w.before ([.ref aB, .int xv] : List Value).toArray s = true := fun w h => atoms_spec (ws := w_SB_append_1) B.pre w (List.mem_cons_of_mem _ h)
  have hown : s.vm.findClass "java/lang/StringBuilder" = some m.cls := findClass_of_methodNamed B.named
  have hlocks := B.notSynchronized
  subst hsz
  have hD := hD0.self (sz := s.heap.size)
  generalize hAe : va_A ((aB, .inr (6, [.ref ab, .int 0, .int xm, .int xc])) :: (ab, .inl (tp_ty E 3, nb, .inl fb)) :: fr) s.heap.size = A at hD hK ⊢
  have hA : ∀ q : Nat, s.heap.size ≤ q → A q := fun q h => by rw [← hAe]; exact Or.inr h
  have hS : va_S A s.heap s.heap [] := va_S.rf
  have hl := lv_entry ([.ref aB, .int xv]) (n := 2) (Nat.le_of_ble_eq_true rfl)
  rw [lg_entry_eq]
  generalize (lg_sl ([.ref aB, .int xv]) ++ List.replicate (2 - (lg_sl ([.ref aB, .int xv])).length) Slot.unset).toArray = ls at hl ⊢
  have hl : lv_has ls 2 [(0, .ref aB), (1, .int xv)] := hl
  refine lv_aload_n hx hb d_SB_append_1_0 rfl (lv_at hl 0 rfl) ?_
  refine lv_iload_n hx hb d_SB_append_1_1 rfl (lv_at hl 1 rfl) ?_
  refine tp_cr (tp_rU (As := [.int xv]) (rest := []) ⟨hx, hb, hml, hown, htg⟩ (x_AS_appI l E fr _ aB ab xm xc nb fb L xv hn hf hq hL hc) (tp_cwU 1 htg kc_AS_append_1 (htg _ kl_SB_53) (htg _ kq_AS_append_1) (htg _ kz_SB) (htg _ km_AS_append_1) (htg _ ki_AS) ⟨by decide, by decide +kernel⟩ ⟨Nat.le_of_ble_eq_true rfl, Nat.le_of_ble_eq_true rfl⟩) (va_recv (ci := 6) (q0 := 0) hK.1 hP rfl rfl) (hK.1.1 6 _ rfl).2 hK hP hD hS hA rfl hl.1 rfl (Nat.le_of_ble_eq_true rfl) d_SB_append_1_2 ⟨Nat.le_of_ble_eq_true rfl, Nat.le_of_ble_eq_true rfl⟩) hD hS hA (fun u H locs hw hP hD hS => ?_)
  obtain ⟨eq1, nq1, fq1, cq1⟩ := u
  obtain ⟨hnq1, hfq1, hcq1, hqq1, hiq1⟩ : (nq1 = 16 ∨ nq1 = 34) ∧ tp_fit fq1 ∧ cq1.toInt = xc.toInt + (tp_dl xv : Int) ∧ cq1.toInt ≤ (nq1 : Int) ∧ sf_is fq1 cq1 (L ++ sf_digs xv) := hw
  have hP : va_P (tp_D E) tp_cl ((aB, .inr (6, [.ref eq1, .int 0, .int xm, .int cq1])) :: (eq1, .inl (tp_ty E 3, nq1, .inl fq1)) :: fr) H := hP
  have hD : va_D A ((aB, .inr (6, [.ref eq1, .int 0, .int xm, .int cq1])) :: (eq1, .inl (tp_ty E 3, nq1, .inl fq1)) :: fr) := hD
  refine lv_pop hx hb d_SB_append_1_5 rfl ?_
  refine lv_aload_n hx hb d_SB_append_1_6 rfl (lv_at hl 0 rfl) ?_
  exact W.aret (v := .ref aB) hx hb hr (Or.inl ⟨_, rfl⟩) (Or.inr ⟨_, rfl⟩) (fun t ht hW => ⟨⟨(eq1, nq1, fq1, cq1), _, rfl, ⟨hnq1, hfq1, hcq1, hqq1, hiq1⟩, rfl, by rw [ht]; exact hP, hD⟩, hS.F ht⟩) hS.2.2 d_SB_append_1_7
set_option maxHeartbeats 4000000 in
set_option maxRecDepth 100000 in
theorem x_ST_getBytes (l : Launch) (E : tp_Env) (fr : va_W) (sz : Nat) (i : Nat) (hi : i < 97) (ab nb : Nat) (fb : Nat → Int32) (hn : nb = 16 ∨ nb = 34) (hf : tp_fit fb) : Met l y_ST_getBytes w_ST_getBytes ({ frames := 1, cells := 0, slots := 0, locals := 100 }) (va_Pc [.ref (tp_ad E (200 + i)), .ref ab, .int 0, .int 0] (tp_in E ((ab, .inl (tp_ty E 3, nb, .inl fb)) :: fr) sz)) (va_Qv (fun (u : Nat → Int32) => tp_fit u ∧ ∀ j : Nat, j < tp_len.getD i 0 → u j = (tp_byt.getD i []).getD j 0) (fun u t => tp_out E (va_A ((ab, .inl (tp_ty E 3, nb, .inl fb)) :: fr) sz) ((ab, .inl (tp_ty E 3, nb, .inl u)) :: fr) t) (va_A ((ab, .inl (tp_ty E 3, nb, .inl fb)) :: fr) sz)) 0 0 (va_A ((ab, .inl (tp_ty E 3, nb, .inl fb)) :: fr) sz) := by
  refine Met.ofW (cc := b_ST_getBytes) (maxL := 4) (ret := none) (by decide) rfl ?_
  intro p e s m args below meth c s₁ B hml hv
  obtain ⟨rfl, hsz, hP, hK, hD0⟩ := hv
  have hx := B.exec
  have hb := B.bytes
  have hr := B.returns
  have htg : ∀ w ∈ tp_G, w.before ([.ref (tp_ad E (200 + i)), .ref ab, .int 0, .int 0] : List Value).toArray s = true := fun w h => atoms_spec (ws := w_ST_getBytes) B.pre w (List.mem_cons_of_mem _ h)
  have hown : s.vm.findClass "java/lang/String" = some m.cls := findClass_of_methodNamed B.named
  have hlocks := B.notSynchronized
  subst hsz
  have hD := hD0.self (sz := s.heap.size)
  generalize hAe : va_A ((ab, .inl (tp_ty E 3, nb, .inl fb)) :: fr) s.heap.size = A at hD hK ⊢
  have hA : ∀ q : Nat, s.heap.size ≤ q → A q := fun q h => by rw [← hAe]; exact Or.inr h
  have hS : va_S A s.heap s.heap [] := va_S.rf
  have hl := lv_entry ([.ref (tp_ad E (200 + i)), .ref ab, .int 0, .int 0]) (n := 4) (Nat.le_of_ble_eq_true rfl)
  rw [lg_entry_eq]
  generalize (lg_sl ([.ref (tp_ad E (200 + i)), .ref ab, .int 0, .int 0]) ++ List.replicate (4 - (lg_sl ([.ref (tp_ad E (200 + i)), .ref ab, .int 0, .int 0])).length) Slot.unset).toArray = ls at hl ⊢
  have hl : lv_has ls 4 [(0, .ref (tp_ad E (200 + i))), (1, .ref ab), (2, .int 0), (3, .int 0)] := hl
  refine lv_aload_n hx hb d_ST_getBytes_0 rfl (lv_at hl 0 rfl) ?_
  refine tp_ci (tp_rV (As := []) (rest := []) ⟨hx, hb, hml, hown, htg⟩ (a_ST_coder l E ((ab, .inl (tp_ty E 3, nb, .inl fb)) :: fr) _ i hi ) (⟨callB_of 0 htg (tp_good0 kc_ST_coder) rfl rfl rfl (htg _ ki_ST) (htg _ kl_ST_335) ⟨by decide, by decide, by decide +kernel⟩ ⟨Nat.le_of_ble_eq_true rfl, Nat.le_of_ble_eq_true rfl⟩, htg _ km_ST_coder, htg _ kv_ST_ST_coder⟩) (hK.strO (i := i) hi hS) hK hP hD hS hA rfl hl.1 rfl (Nat.le_of_ble_eq_true rfl) d_ST_getBytes_1 ⟨Nat.le_of_ble_eq_true rfl, Nat.le_of_ble_eq_true rfl⟩) hD hS hA (fun r u H locs hw hP hD hS => ?_)
  subst r
  have hP : va_P (tp_D E) tp_cl ((ab, .inl (tp_ty E 3, nb, .inl fb)) :: fr) H := hP
  have hD : va_D A ((ab, .inl (tp_ty E 3, nb, .inl fb)) :: fr) := hD
  refine lv_iload_n hx hb d_ST_getBytes_4 rfl (lv_at hl 3 rfl) ?_
  refine lv_icmp_ne (tgt := 28) hx hb d_ST_getBytes_5 (by decide) (fun h => absurd (by decide) h) (fun _ => ?_)
  refine lv_aload_n hx hb d_ST_getBytes_8 rfl (lv_at hl 0 rfl) ?_
  refine vk_getf (v := .ref (tp_ad E (400 + i))) hx hb (hK.strV (i := i) hi) hS hown (htg _ kl_ST_9) (fun _ h => h) d_ST_getBytes_9 ?_
  refine lv_iconst (v := 0) hx hb d_ST_getBytes_12 (by decide) ?_
  refine lv_aload_n hx hb d_ST_getBytes_13 rfl (lv_at hl 1 rfl) ?_
  refine lv_iload_n hx hb d_ST_getBytes_14 rfl (lv_at hl 2 rfl) ?_
  refine lv_iload_n hx hb d_ST_getBytes_15 rfl (lv_at hl 3 rfl) ?_
  refine lv_ishl hx hb d_ST_getBytes_16 ?_
  refine tp_topi (v := 0) (by decide) ?_
  refine lv_aload_n hx hb d_ST_getBytes_17 rfl (lv_at hl 0 rfl) ?_
  refine vk_getf (v := .ref (tp_ad E (400 + i))) hx hb (hK.strV (i := i) hi) hS hown (htg _ kl_ST_9) (fun _ h => h) d_ST_getBytes_18 ?_
  refine va_tlen (v := (Int32.ofNat (tp_len.getD i 0))) hx hb (hK.strT (i := i) hi) hS rfl d_ST_getBytes_21 ?_
  refine vk_copyt (f := (fun j => (tp_byt.getD i []).getD j 0)) hx hb (by rw [hml]; exact hl.1.symm) hown (htg _ kl_ST_212) (htg _ kny_copy) (htg _ kns_copy) (htg _ ki_SY) hK.1 hP hD hS (hK.strT (i := i) hi) 0 3 rfl rfl (by decide) (by decide) (tp_lnn hi) (tp_l0 hi) (tp_lnb hi hn) (tp_lfit hi) (Nat.le_of_ble_eq_true rfl) (Nat.le_of_ble_eq_true rfl) d_ST_getBytes_22 (fun H locs hP hD hS => ?_)
  have hP : va_P (tp_D E) tp_cl ((ab, .inl (tp_ty E 3, nb, .inl (va_cpy (fun j => (tp_byt.getD i []).getD j 0) fb 0 0 (Int32.ofNat (tp_len.getD i 0)).toNatClampNeg))) :: fr) H := hP
  have hD : va_D A ((ab, .inl (tp_ty E 3, nb, .inl (va_cpy (fun j => (tp_byt.getD i []).getD j 0) fb 0 0 (Int32.ofNat (tp_len.getD i 0)).toNatClampNeg))) :: fr) := hD
  refine lv_goto (tgt := 43) hx hb d_ST_getBytes_25 (by decide) ?_
  exact W.vret hx hb hr (fun t ht hW => ⟨⟨(va_cpy (fun j => (tp_byt.getD i []).getD j 0) fb 0 0 (Int32.ofNat (tp_len.getD i 0)).toNatClampNeg), rfl, ⟨tp_fitcps hi hf, fun j h => sf_cpy (sf_lnl hi h)⟩, by rw [ht]; exact hP, hD⟩, hS.F ht⟩) hS.2.2 d_ST_getBytes_43
set_option maxHeartbeats 4000000 in
set_option maxRecDepth 100000 in
theorem x_AS_putStringAt (l : Launch) (E : tp_Env) (fr : va_W) (sz : Nat) (aB ab : Nat) (xm xc : Int32) (nb : Nat) (fb : Nat → Int32) (i : Nat) (hi : i < 97) (hn : nb = 16 ∨ nb = 34) (hf : tp_fit fb) : Met l y_AS_putStringAt w_AS_putStringAt ({ frames := 2, cells := 0, slots := 0, locals := 123 }) (va_Pc [.ref aB, .int 0, .ref (tp_ad E (200 + i))] (tp_in E ((aB, .inr (6, [.ref ab, .int 0, .int xm, .int xc])) :: (ab, .inl (tp_ty E 3, nb, .inl fb)) :: fr) sz)) (va_Qv (fun (u : Nat → Int32) => tp_fit u ∧ ∀ j : Nat, j < tp_len.getD i 0 → u j = (tp_byt.getD i []).getD j 0) (fun u t => tp_out E (va_A ((aB, .inr (6, [.ref ab, .int 0, .int xm, .int xc])) :: (ab, .inl (tp_ty E 3, nb, .inl fb)) :: fr) sz) ((aB, .inr (6, [.ref ab, .int 0, .int xm, .int xc])) :: (ab, .inl (tp_ty E 3, nb, .inl u)) :: fr) t) (va_A ((aB, .inr (6, [.ref ab, .int 0, .int xm, .int xc])) :: (ab, .inl (tp_ty E 3, nb, .inl fb)) :: fr) sz)) 0 0 (va_A ((aB, .inr (6, [.ref ab, .int 0, .int xm, .int xc])) :: (ab, .inl (tp_ty E 3, nb, .inl fb)) :: fr) sz) := by
  refine Met.ofW (cc := b_AS_putStringAt) (maxL := 3) (ret := none) (by decide) rfl ?_
  intro p e s m args below meth c s₁ B hml hv
  obtain ⟨rfl, hsz, hP, hK, hD0⟩ := hv
  have hx := B.exec
  have hb := B.bytes
  have hr := B.returns
  have htg : ∀ w ∈ tp_G, w.before ([.ref aB, .int 0, .ref (tp_ad E (200 + i))] : List Value).toArray s = true := fun w h => atoms_spec (ws := w_AS_putStringAt) B.pre w (List.mem_cons_of_mem _ h)
  have hown : s.vm.findClass "java/lang/AbstractStringBuilder" = some m.cls := findClass_of_methodNamed B.named
  have hlocks := B.notSynchronized
  subst hsz
  have hD := hD0.self (sz := s.heap.size)
  generalize hAe : va_A ((aB, .inr (6, [.ref ab, .int 0, .int xm, .int xc])) :: (ab, .inl (tp_ty E 3, nb, .inl fb)) :: fr) s.heap.size = A at hD hK ⊢
  have hA : ∀ q : Nat, s.heap.size ≤ q → A q := fun q h => by rw [← hAe]; exact Or.inr h
  have hS : va_S A s.heap s.heap [] := va_S.rf
  have hl := lv_entry ([.ref aB, .int 0, .ref (tp_ad E (200 + i))]) (n := 3) (Nat.le_of_ble_eq_true rfl)
  rw [lg_entry_eq]
  generalize (lg_sl ([.ref aB, .int 0, .ref (tp_ad E (200 + i))]) ++ List.replicate (3 - (lg_sl ([.ref aB, .int 0, .ref (tp_ad E (200 + i))])).length) Slot.unset).toArray = ls at hl ⊢
  have hl : lv_has ls 3 [(0, .ref aB), (1, .int 0), (2, .ref (tp_ad E (200 + i)))] := hl
  refine lv_aload_n hx hb d_AS_putStringAt_0 rfl (lv_at hl 0 rfl) ?_
  refine lv_aload_n hx hb d_AS_putStringAt_1 rfl (lv_at hl 2 rfl) ?_
  refine tp_cv (tp_rV (As := [.ref (tp_ad E (200 + i))]) (rest := []) ⟨hx, hb, hml, hown, htg⟩ (a_AS_inflate l E fr _ aB ab xm xc nb fb i hi ) (⟨callB_of 1 htg (tp_good0 kc_AS_inflateIfNeededFor) rfl rfl rfl (htg _ ki_AS) (htg _ kl_AS_397) ⟨by decide, by decide, by decide +kernel⟩ ⟨Nat.le_of_ble_eq_true rfl, Nat.le_of_ble_eq_true rfl⟩, htg _ km_AS_inflateIfNeededFor, htg _ kv_SB_AS_inflateIfNeededFor⟩) (va_recv (ci := 6) (q0 := 0) hK.1 hP rfl rfl) hK hP hD hS hA rfl hl.1 rfl (Nat.le_of_ble_eq_true rfl) d_AS_putStringAt_2 ⟨Nat.le_of_ble_eq_true rfl, Nat.le_of_ble_eq_true rfl⟩) hD hS hA (fun u H locs hw hP hD hS => ?_)
  have hP : va_P (tp_D E) tp_cl ((aB, .inr (6, [.ref ab, .int 0, .int xm, .int xc])) :: (ab, .inl (tp_ty E 3, nb, .inl fb)) :: fr) H := hP
  have hD : va_D A ((aB, .inr (6, [.ref ab, .int 0, .int xm, .int xc])) :: (ab, .inl (tp_ty E 3, nb, .inl fb)) :: fr) := hD
  refine lv_aload_n hx hb d_AS_putStringAt_5 rfl (lv_at hl 2 rfl) ?_
  refine lv_aload_n hx hb d_AS_putStringAt_6 rfl (lv_at hl 0 rfl) ?_
  refine va_get (D := tp_D E) (ci := 6) (v := .ref ab) (C := qR_SB) (T := qF_SB) (N := 4) hx hb htg qi_SB hown hK.1 hP 0 rfl rfl 0 (by decide) (htg _ kl_AS_15) (fun _ h => h) rfl d_AS_putStringAt_7 ?_
  refine lv_iload_n hx hb d_AS_putStringAt_10 rfl (lv_at hl 1 rfl) ?_
  refine lv_aload_n hx hb d_AS_putStringAt_11 rfl (lv_at hl 0 rfl) ?_
  refine va_get (D := tp_D E) (ci := 6) (v := .int 0) (C := qR_SB) (T := qF_SB) (N := 4) hx hb htg qi_SB hown hK.1 hP 0 rfl rfl 1 (by decide) (htg _ kl_AS_22) (fun _ h => h) rfl d_AS_putStringAt_12 ?_
  have hP : va_P (tp_D E) tp_cl ((ab, .inl (tp_ty E 3, nb, .inl fb)) :: (aB, .inr (6, [.ref ab, .int 0, .int xm, .int xc])) :: fr) _ := tp_mvP 1 rfl hP
  have hD : va_D A ((ab, .inl (tp_ty E 3, nb, .inl fb)) :: (aB, .inr (6, [.ref ab, .int 0, .int xm, .int xc])) :: fr) := tp_mvD 1 rfl hD
  refine tp_cv (tp_rV (As := [.ref ab, .int 0, .int 0]) (rest := []) ⟨hx, hb, hml, hown, htg⟩ (x_ST_getBytes l E ((aB, .inr (6, [.ref ab, .int 0, .int xm, .int xc])) :: fr) _ i hi ab nb fb hn hf) (⟨callB_of 3 htg (tp_good0 kc_ST_getBytes) rfl rfl rfl (htg _ ki_ST) (htg _ kl_AS_399) ⟨by decide, by decide, by decide +kernel⟩ ⟨Nat.le_of_ble_eq_true rfl, Nat.le_of_ble_eq_true rfl⟩, htg _ km_ST_getBytes, htg _ kv_ST_ST_getBytes⟩) (hK.strO (i := i) hi hS) hK hP hD hS hA rfl hl.1 rfl (Nat.le_of_ble_eq_true rfl) d_AS_putStringAt_15 ⟨Nat.le_of_ble_eq_true rfl, Nat.le_of_ble_eq_true rfl⟩) hD hS hA (fun u H locs hw hP hD hS => ?_)
  obtain ⟨hfq1, hsq1⟩ : tp_fit u ∧ ∀ j : Nat, j < tp_len.getD i 0 → u j = (tp_byt.getD i []).getD j 0 := hw
  generalize u = sq1 at hP hD hfq1 hsq1
  have hP : va_P (tp_D E) tp_cl ((ab, .inl (tp_ty E 3, nb, .inl sq1)) :: (aB, .inr (6, [.ref ab, .int 0, .int xm, .int xc])) :: fr) H := hP
  have hD : va_D A ((ab, .inl (tp_ty E 3, nb, .inl sq1)) :: (aB, .inr (6, [.ref ab, .int 0, .int xm, .int xc])) :: fr) := hD
  have hP : va_P (tp_D E) tp_cl ((ab, .inl (tp_ty E 3, nb, .inl sq1)) :: (aB, .inr (6, [.ref ab, .int 0, .int xm, .int xc])) :: fr) _ := tp_mvP 0 rfl hP
  have hD : va_D A ((ab, .inl (tp_ty E 3, nb, .inl sq1)) :: (aB, .inr (6, [.ref ab, .int 0, .int xm, .int xc])) :: fr) := tp_mvD 0 rfl hD
  have hP : va_P (tp_D E) tp_cl ((aB, .inr (6, [.ref ab, .int 0, .int xm, .int xc])) :: (ab, .inl (tp_ty E 3, nb, .inl sq1)) :: fr) _ := tp_mvP 1 rfl hP
  have hD : va_D A ((aB, .inr (6, [.ref ab, .int 0, .int xm, .int xc])) :: (ab, .inl (tp_ty E 3, nb, .inl sq1)) :: fr) := tp_mvD 1 rfl hD
  exact W.vret hx hb hr (fun t ht hW => ⟨⟨sq1, rfl, ⟨hfq1, hsq1⟩, by rw [ht]; exact hP, hD⟩, hS.F ht⟩) hS.2.2 d_AS_putStringAt_18
set_option maxHeartbeats 4000000 in
set_option maxRecDepth 100000 in
theorem x_AS_appS (l : Launch) (E : tp_Env) (fr : va_W) (sz : Nat) (aB ab : Nat) (xm : Int32) (nb : Nat) (fb : Nat → Int32) (i : Nat) (hi : i < 97) (hn : nb = 16 ∨ nb = 34) (hf : tp_fit fb) : Met l y_AS_append_2 w_AS_append_2 ({ frames := 4, cells := 1, slots := 34, locals := 145 }) (va_Pc [.ref aB, .ref (tp_ad E (200 + i))] (tp_in E ((aB, .inr (6, [.ref ab, .int 0, .int xm, .int 0])) :: (ab, .inl (tp_ty E 3, nb, .inl fb)) :: fr) sz)) (va_Qr (fun (u : Nat × Nat × (Nat → Int32) × Int32) => (u.2.1 = 16 ∨ u.2.1 = 34) ∧ tp_fit u.2.2.1 ∧ u.2.2.2.toInt = ((tp_len.getD i 0 : Nat) : Int) ∧ u.2.2.2.toInt ≤ (u.2.1 : Int) ∧ sf_is u.2.2.1 u.2.2.2 (tp_byt.getD i [])) (fun u q t => q = (fun (_ : Nat × Nat × (Nat → Int32) × Int32) => aB) u ∧ tp_out E (va_A ((aB, .inr (6, [.ref ab, .int 0, .int xm, .int 0])) :: (ab, .inl (tp_ty E 3, nb, .inl fb)) :: fr) sz) ((aB, .inr (6, [.ref u.1, .int 0, .int xm, .int u.2.2.2])) :: (u.1, .inl (tp_ty E 3, u.2.1, .inl u.2.2.1)) :: fr) t) (va_A ((aB, .inr (6, [.ref ab, .int 0, .int xm, .int 0])) :: (ab, .inl (tp_ty E 3, nb, .inl fb)) :: fr) sz)) 1 34 (va_A ((aB, .inr (6, [.ref ab, .int 0, .int xm, .int 0])) :: (ab, .inl (tp_ty E 3, nb, .inl fb)) :: fr) sz) := by
  refine Met.ofW (cc := b_AS_append_2) (maxL := 3) (ret := (some (.object "java/lang/AbstractStringBuilder"))) (by decide) rfl ?_
  intro p e s m args below meth c s₁ B hml hv
  obtain ⟨rfl, hsz, hP, hK, hD0⟩ := hv
  have hx := B.exec
  have hb := B.bytes
  have hr := B.returns
  have htg : ∀ w ∈ tp_G, w.before ([.ref aB, .ref (tp_ad E (200 + i))] : List Value).toArray s = true := fun w h => atoms_spec (ws := w_AS_append_2) B.pre w (List.mem_cons_of_mem _ h)
  have hown : s.vm.findClass "java/lang/AbstractStringBuilder" = some m.cls := findClass_of_methodNamed B.named
  have hlocks := B.notSynchronized
  subst hsz
  have hD := hD0.self (sz := s.heap.size)
  generalize hAe : va_A ((aB, .inr (6, [.ref ab, .int 0, .int xm, .int 0])) :: (ab, .inl (tp_ty E 3, nb, .inl fb)) :: fr) s.heap.size = A at hD hK ⊢
  have hA : ∀ q : Nat, s.heap.size ≤ q → A q := fun q h => by rw [← hAe]; exact Or.inr h
  have hS : va_S A s.heap s.heap [] := va_S.rf
  have hl := lv_entry ([.ref aB, .ref (tp_ad E (200 + i))]) (n := 3) (Nat.le_of_ble_eq_true rfl)
  rw [lg_entry_eq]
  generalize (lg_sl ([.ref aB, .ref (tp_ad E (200 + i))]) ++ List.replicate (3 - (lg_sl ([.ref aB, .ref (tp_ad E (200 + i))])).length) Slot.unset).toArray = ls at hl ⊢
  have hl : lv_has ls 3 [(0, .ref aB), (1, .ref (tp_ad E (200 + i)))] := hl
  refine lv_aload_n hx hb d_AS_append_2_0 rfl (lv_at hl 1 rfl) ?_
  refine lv_ifnonnull (tgt := 9) hx hb d_AS_append_2_1 (by decide) ?_
  refine lv_aload_n hx hb d_AS_append_2_9 rfl (lv_at hl 1 rfl) ?_
  refine tp_ci (tp_rV (As := []) (rest := []) ⟨hx, hb, hml, hown, htg⟩ (a_ST_length l E ((aB, .inr (6, [.ref ab, .int 0, .int xm, .int 0])) :: (ab, .inl (tp_ty E 3, nb, .inl fb)) :: fr) _ i hi ) (⟨callB_of 0 htg (tp_good0 kc_ST_length) rfl rfl rfl (htg _ ki_ST) (htg _ kl_AS_32) ⟨by decide, by decide, by decide +kernel⟩ ⟨Nat.le_of_ble_eq_true rfl, Nat.le_of_ble_eq_true rfl⟩, htg _ km_ST_length, htg _ kv_ST_ST_length⟩) (hK.strO (i := i) hi hS) hK hP hD hS hA rfl hl.1 rfl (Nat.le_of_ble_eq_true rfl) d_AS_append_2_10 ⟨Nat.le_of_ble_eq_true rfl, Nat.le_of_ble_eq_true rfl⟩) hD hS hA (fun r u H locs hw hP hD hS => ?_)
  subst r
  have hP : va_P (tp_D E) tp_cl ((aB, .inr (6, [.ref ab, .int 0, .int xm, .int 0])) :: (ab, .inl (tp_ty E 3, nb, .inl fb)) :: fr) H := hP
  have hD : va_D A ((aB, .inr (6, [.ref ab, .int 0, .int xm, .int 0])) :: (ab, .inl (tp_ty E 3, nb, .inl fb)) :: fr) := hD
  refine lv_istore_n (lv' := [(2, .int (Int32.ofNat (tp_len.getD i 0))), (0, .ref aB), (1, .ref (tp_ad E (200 + i)))]) hx hb d_AS_append_2_13 rfl hl (by decide) rfl (fun ls hl => ?_)
  refine lv_aload_n hx hb d_AS_append_2_14 rfl (lv_at hl 1 rfl) ?_
  refine lv_aload_n hx hb d_AS_append_2_15 rfl (lv_at hl 1 rfl) ?_
  refine va_get (D := tp_D E) (ci := 6) (v := .int 0) (C := qR_SB) (T := qF_SB) (N := 4) hx hb htg qi_SB hown hK.1 hP 0 rfl rfl 3 (by decide) (htg _ kl_AS_79) (fun _ h => h) rfl d_AS_append_2_16 ?_
  refine lv_iload_n hx hb d_AS_append_2_19 rfl (lv_at hl 0 rfl) ?_
  refine lv_iadd hx hb d_AS_append_2_20 ?_
  refine tp_cv (tp_rV (As := [.int (0 + (Int32.ofNat (tp_len.getD i 0)))]) (rest := []) ⟨hx, hb, hml, hown, htg⟩ (x_AS_ensure l E fr _ aB ab xm 0 (0 + (Int32.ofNat (tp_len.getD i 0))) nb fb hn (tp_l34 hi) hf) (⟨callB_of 1 htg (tp_good0 kc_AS_ensureCapacityInternal) rfl rfl rfl (htg _ ki_AS) (htg _ kl_AS_100) ⟨by decide, by decide, by decide +kernel⟩ ⟨Nat.le_of_ble_eq_true rfl, Nat.le_of_ble_eq_true rfl⟩, htg _ km_AS_ensureCapacityInternal, htg _ kv_SB_AS_ensureCapacityInternal⟩) (va_recv (ci := 6) (q0 := 0) hK.1 hP rfl rfl) hK hP hD hS hA rfl hl.1 rfl (Nat.le_of_ble_eq_true rfl) d_AS_append_2_21 ⟨Nat.le_of_ble_eq_true rfl, Nat.le_of_ble_eq_true rfl⟩) hD hS hA (fun u H locs hw hP hD hS => ?_)
  obtain ⟨eq1, nq1, fq1⟩ := u
  obtain ⟨hnq1, hmq1, hfq1, hkq1⟩ : (nq1 = 16 ∨ nq1 = 34) ∧ (0 + (Int32.ofNat (tp_len.getD i 0))).toInt ≤ (nq1 : Int) ∧ tp_fit fq1 ∧ ∀ j : Nat, j < nb → fq1 j = fb j := hw
  have hP : va_P (tp_D E) tp_cl ((aB, .inr (6, [.ref eq1, .int 0, .int xm, .int 0])) :: (eq1, .inl (tp_ty E 3, nq1, .inl fq1)) :: fr) H := hP
  have hD : va_D A ((aB, .inr (6, [.ref eq1, .int 0, .int xm, .int 0])) :: (eq1, .inl (tp_ty E 3, nq1, .inl fq1)) :: fr) := hD
  refine lv_aload_n hx hb d_AS_append_2_24 rfl (lv_at hl 1 rfl) ?_
  refine lv_aload_n hx hb d_AS_append_2_25 rfl (lv_at hl 1 rfl) ?_
  refine va_get (D := tp_D E) (ci := 6) (v := .int 0) (C := qR_SB) (T := qF_SB) (N := 4) hx hb htg qi_SB hown hK.1 hP 0 rfl rfl 3 (by decide) (htg _ kl_AS_79) (fun _ h => h) rfl d_AS_append_2_26 ?_
  refine lv_aload_n hx hb d_AS_append_2_29 rfl (lv_at hl 2 rfl) ?_
  refine tp_cv (tp_rV (As := [.int 0, .ref (tp_ad E (200 + i))]) (rest := []) ⟨hx, hb, hml, hown, htg⟩ (x_AS_putStringAt l E fr _ aB eq1 xm 0 nq1 fq1 i hi hnq1 hfq1) (⟨callB_of 2 htg (tp_good0 kc_AS_putStringAt) rfl rfl rfl (htg _ ki_AS) (htg _ kl_AS_208) ⟨by decide, by decide, by decide +kernel⟩ ⟨Nat.le_of_ble_eq_true rfl, Nat.le_of_ble_eq_true rfl⟩, htg _ km_AS_putStringAt, htg _ kv_SB_AS_putStringAt⟩) (va_recv (ci := 6) (q0 := 0) hK.1 hP rfl rfl) hK hP hD hS hA rfl hl.1 rfl (Nat.le_of_ble_eq_true rfl) d_AS_append_2_30 ⟨Nat.le_of_ble_eq_true rfl, Nat.le_of_ble_eq_true rfl⟩) hD hS hA (fun u H locs hw hP hD hS => ?_)
  obtain ⟨hfq2, hsq2⟩ : tp_fit u ∧ ∀ j : Nat, j < tp_len.getD i 0 → u j = (tp_byt.getD i []).getD j 0 := hw
  generalize u = sq2 at hP hD hfq2 hsq2
  have hP : va_P (tp_D E) tp_cl ((aB, .inr (6, [.ref eq1, .int 0, .int xm, .int 0])) :: (eq1, .inl (tp_ty E 3, nq1, .inl sq2)) :: fr) H := hP
  have hD : va_D A ((aB, .inr (6, [.ref eq1, .int 0, .int xm, .int 0])) :: (eq1, .inl (tp_ty E 3, nq1, .inl sq2)) :: fr) := hD
  refine lv_aload_n hx hb d_AS_append_2_33 rfl (lv_at hl 1 rfl) ?_
  refine lv_dup hx hb d_AS_append_2_34 rfl ?_
  refine va_get (D := tp_D E) (ci := 6) (v := .int 0) (C := qR_SB) (T := qF_SB) (N := 4) hx hb htg qi_SB hown hK.1 hP 0 rfl rfl 3 (by decide) (htg _ kl_AS_79) (fun _ h => h) rfl d_AS_append_2_35 ?_
  refine lv_iload_n hx hb d_AS_append_2_38 rfl (lv_at hl 0 rfl) ?_
  refine lv_iadd hx hb d_AS_append_2_39 ?_
  refine va_put (D := tp_D E) (ci := 6) (v := .int (0 + (Int32.ofNat (tp_len.getD i 0)))) (ty := .int) (C := qR_SB) (T := qF_SB) (N := 4) hx hb htg qi_SB qt_SB qt_SB_ok qn_SB hown hK.1 hP hD hS 0 rfl rfl 3 (by decide) (htg _ kl_AS_79) (fun _ h => h) rfl (by decide +kernel) rfl rfl (Nat.le_of_ble_eq_true rfl) d_AS_append_2_40 (fun H locs hP hD hS => ?_)
  have hP : va_P (tp_D E) tp_cl ((aB, .inr (6, [.ref eq1, .int 0, .int xm, .int (0 + (Int32.ofNat (tp_len.getD i 0)))])) :: (eq1, .inl (tp_ty E 3, nq1, .inl sq2)) :: fr) H := hP
  have hD : va_D A ((aB, .inr (6, [.ref eq1, .int 0, .int xm, .int (0 + (Int32.ofNat (tp_len.getD i 0)))])) :: (eq1, .inl (tp_ty E 3, nq1, .inl sq2)) :: fr) := hD
  refine lv_aload_n hx hb d_AS_append_2_43 rfl (lv_at hl 1 rfl) ?_
  exact W.aret (v := .ref aB) hx hb hr (Or.inl ⟨_, rfl⟩) (Or.inr ⟨_, rfl⟩) (fun t ht hW => ⟨⟨(eq1, nq1, sq2, (0 + (Int32.ofNat (tp_len.getD i 0)))), _, rfl, ⟨hnq1, hfq2, tp_l0i hi, hmq1, sf_isS hi (tp_l0i hi) hsq2⟩, rfl, by rw [ht]; exact hP, hD⟩, hS.F ht⟩) hS.2.2 d_AS_append_2_44
set_option maxHeartbeats 4000000 in
set_option maxRecDepth 100000 in
theorem x_SB_appS (l : Launch) (E : tp_Env) (fr : va_W) (sz : Nat) (aB ab : Nat) (xm : Int32) (nb : Nat) (fb : Nat → Int32) (i : Nat) (hi : i < 97) (hn : nb = 16 ∨ nb = 34) (hf : tp_fit fb) : Met l y_SB_append_2 w_SB_append_2 ({ frames := 5, cells := 1, slots := 34, locals := 167 }) (va_Pc [.ref aB, .ref (tp_ad E (200 + i))] (tp_in E ((aB, .inr (6, [.ref ab, .int 0, .int xm, .int 0])) :: (ab, .inl (tp_ty E 3, nb, .inl fb)) :: fr) sz)) (va_Qr (fun (u : Nat × Nat × (Nat → Int32) × Int32) => (u.2.1 = 16 ∨ u.2.1 = 34) ∧ tp_fit u.2.2.1 ∧ u.2.2.2.toInt = ((tp_len.getD i 0 : Nat) : Int) ∧ u.2.2.2.toInt ≤ (u.2.1 : Int) ∧ sf_is u.2.2.1 u.2.2.2 (tp_byt.getD i [])) (fun u q t => q = (fun (_ : Nat × Nat × (Nat → Int32) × Int32) => aB) u ∧ tp_out E (va_A ((aB, .inr (6, [.ref ab, .int 0, .int xm, .int 0])) :: (ab, .inl (tp_ty E 3, nb, .inl fb)) :: fr) sz) ((aB, .inr (6, [.ref u.1, .int 0, .int xm, .int u.2.2.2])) :: (u.1, .inl (tp_ty E 3, u.2.1, .inl u.2.2.1)) :: fr) t) (va_A ((aB, .inr (6, [.ref ab, .int 0, .int xm, .int 0])) :: (ab, .inl (tp_ty E 3, nb, .inl fb)) :: fr) sz)) 1 34 (va_A ((aB, .inr (6, [.ref ab, .int 0, .int xm, .int 0])) :: (ab, .inl (tp_ty E 3, nb, .inl fb)) :: fr) sz) := by
  refine Met.ofW (cc := b_SB_append_2) (maxL := 2) (ret := (some (.object "java/lang/StringBuilder"))) (by decide) rfl ?_
  intro p e s m args below meth c s₁ B hml hv
  obtain ⟨rfl, hsz, hP, hK, hD0⟩ := hv
  have hx := B.exec
  have hb := B.bytes
  have hr := B.returns
  have htg : ∀ w ∈ tp_G, w.before ([.ref aB, .ref (tp_ad E (200 + i))] : List Value).toArray s = true := fun w h => atoms_spec (ws := w_SB_append_2) B.pre w (List.mem_cons_of_mem _ h)
  have hown : s.vm.findClass "java/lang/StringBuilder" = some m.cls := findClass_of_methodNamed B.named
  have hlocks := B.notSynchronized
  subst hsz
  have hD := hD0.self (sz := s.heap.size)
  generalize hAe : va_A ((aB, .inr (6, [.ref ab, .int 0, .int xm, .int 0])) :: (ab, .inl (tp_ty E 3, nb, .inl fb)) :: fr) s.heap.size = A at hD hK ⊢
  have hA : ∀ q : Nat, s.heap.size ≤ q → A q := fun q h => by rw [← hAe]; exact Or.inr h
  have hS : va_S A s.heap s.heap [] := va_S.rf
  have hl := lv_entry ([.ref aB, .ref (tp_ad E (200 + i))]) (n := 2) (Nat.le_of_ble_eq_true rfl)
  rw [lg_entry_eq]
  generalize (lg_sl ([.ref aB, .ref (tp_ad E (200 + i))]) ++ List.replicate (2 - (lg_sl ([.ref aB, .ref (tp_ad E (200 + i))])).length) Slot.unset).toArray = ls at hl ⊢
  have hl : lv_has ls 2 [(0, .ref aB), (1, .ref (tp_ad E (200 + i)))] := hl
  refine lv_aload_n hx hb d_SB_append_2_0 rfl (lv_at hl 0 rfl) ?_
  refine lv_aload_n hx hb d_SB_append_2_1 rfl (lv_at hl 1 rfl) ?_
  refine tp_cr (tp_rU (As := [.ref (tp_ad E (200 + i))]) (rest := []) ⟨hx, hb, hml, hown, htg⟩ (x_AS_appS l E fr _ aB ab xm nb fb i hi hn hf) (tp_cwU 1 htg kc_AS_append_2 (htg _ kl_SB_29) (htg _ kq_AS_append_2) (htg _ kz_SB) (htg _ km_AS_append_2) (htg _ ki_AS) ⟨by decide, by decide +kernel⟩ ⟨Nat.le_of_ble_eq_true rfl, Nat.le_of_ble_eq_true rfl⟩) (va_recv (ci := 6) (q0 := 0) hK.1 hP rfl rfl) (hK.1.1 6 _ rfl).2 hK hP hD hS hA rfl hl.1 rfl (Nat.le_of_ble_eq_true rfl) d_SB_append_2_2 ⟨Nat.le_of_ble_eq_true rfl, Nat.le_of_ble_eq_true rfl⟩) hD hS hA (fun u H locs hw hP hD hS => ?_)
  obtain ⟨eq1, nq1, fq1, cq1⟩ := u
  obtain ⟨hnq1, hfq1, hcq1, hqq1, hiq1⟩ : (nq1 = 16 ∨ nq1 = 34) ∧ tp_fit fq1 ∧ cq1.toInt = ((tp_len.getD i 0 : Nat) : Int) ∧ cq1.toInt ≤ (nq1 : Int) ∧ sf_is fq1 cq1 (tp_byt.getD i []) := hw
  have hP : va_P (tp_D E) tp_cl ((aB, .inr (6, [.ref eq1, .int 0, .int xm, .int cq1])) :: (eq1, .inl (tp_ty E 3, nq1, .inl fq1)) :: fr) H := hP
  have hD : va_D A ((aB, .inr (6, [.ref eq1, .int 0, .int xm, .int cq1])) :: (eq1, .inl (tp_ty E 3, nq1, .inl fq1)) :: fr) := hD
  refine lv_pop hx hb d_SB_append_2_5 rfl ?_
  refine lv_aload_n hx hb d_SB_append_2_6 rfl (lv_at hl 0 rfl) ?_
  exact W.aret (v := .ref aB) hx hb hr (Or.inl ⟨_, rfl⟩) (Or.inr ⟨_, rfl⟩) (fun t ht hW => ⟨⟨(eq1, nq1, fq1, cq1), _, rfl, ⟨hnq1, hfq1, hcq1, hqq1, hiq1⟩, rfl, by rw [ht]; exact hP, hD⟩, hS.F ht⟩) hS.2.2 d_SB_append_2_7
set_option maxHeartbeats 4000000 in
set_option maxRecDepth 100000 in
theorem x_T_writeRegister (l : Launch) (E : tp_Env) (fr : va_W) (sz : Nat) (aT aY aS : Nat) (xl xg : Int32) (aB ab : Nat) (xm xc : Int32) (nb : Nat) (fb : Nat → Int32) (L : List Int32) (xr : Int32) (hn : nb = 16 ∨ nb = 34) (hf : tp_fit fb) (hq : xc.toInt ≤ (nb : Int)) (hL : sf_is fb xc L) (hc : 0 ≤ xc.toInt ∧ xc.toInt + 1 + (tp_dl xr : Int) ≤ 34) : Met l y_T_writeRegister w_T_writeRegister ({ frames := 6, cells := 2, slots := 68, locals := 188 }) (va_Pc [.ref aT, .int xr] (tp_in E ((aT, .inr (0, [.ref aY, .ref aS, .ref aB, .int xl, .int xg])) :: (aB, .inr (6, [.ref ab, .int 0, .int xm, .int xc])) :: (ab, .inl (tp_ty E 3, nb, .inl fb)) :: fr) sz)) (va_Qv (fun (u : Nat × Nat × (Nat → Int32) × Int32) => (u.2.1 = 16 ∨ u.2.1 = 34) ∧ tp_fit u.2.2.1 ∧ u.2.2.2.toInt = xc.toInt + 1 + (tp_dl xr : Int) ∧ u.2.2.2.toInt ≤ (u.2.1 : Int) ∧ sf_is u.2.2.1 u.2.2.2 ((L ++ [sf_b 120]) ++ sf_digs xr)) (fun u t => tp_out E (va_A ((aT, .inr (0, [.ref aY, .ref aS, .ref aB, .int xl, .int xg])) :: (aB, .inr (6, [.ref ab, .int 0, .int xm, .int xc])) :: (ab, .inl (tp_ty E 3, nb, .inl fb)) :: fr) sz) ((aT, .inr (0, [.ref aY, .ref aS, .ref aB, .int xl, .int xg])) :: (aB, .inr (6, [.ref u.1, .int 0, .int xm, .int u.2.2.2])) :: (u.1, .inl (tp_ty E 3, u.2.1, .inl u.2.2.1)) :: fr) t) (va_A ((aT, .inr (0, [.ref aY, .ref aS, .ref aB, .int xl, .int xg])) :: (aB, .inr (6, [.ref ab, .int 0, .int xm, .int xc])) :: (ab, .inl (tp_ty E 3, nb, .inl fb)) :: fr) sz)) 2 68 (va_A ((aT, .inr (0, [.ref aY, .ref aS, .ref aB, .int xl, .int xg])) :: (aB, .inr (6, [.ref ab, .int 0, .int xm, .int xc])) :: (ab, .inl (tp_ty E 3, nb, .inl fb)) :: fr) sz) := by
  refine Met.ofW (cc := b_T_writeRegister) (maxL := 2) (ret := none) (by decide) rfl ?_
  intro p e s m args below meth c s₁ B hml hv
  obtain ⟨rfl, hsz, hP, hK, hD0⟩ := hv
  have hx := B.exec
  have hb := B.bytes
  have hr := B.returns
  have htg : ∀ w ∈ tp_G, w.before ([.ref aT, .int xr] : List Value).toArray s = true := fun w h => atoms_spec (ws := w_T_writeRegister) B.pre w (List.mem_cons_of_mem _ h)
  have hown : s.vm.findClass "TwoPass" = some m.cls := findClass_of_methodNamed B.named
  have hlocks := B.notSynchronized
  subst hsz
  have hD := hD0.self (sz := s.heap.size)
  generalize hAe : va_A ((aT, .inr (0, [.ref aY, .ref aS, .ref aB, .int xl, .int xg])) :: (aB, .inr (6, [.ref ab, .int 0, .int xm, .int xc])) :: (ab, .inl (tp_ty E 3, nb, .inl fb)) :: fr) s.heap.size = A at hD hK ⊢
  have hA : ∀ q : Nat, s.heap.size ≤ q → A q := fun q h => by rw [← hAe]; exact Or.inr h
  have hS : va_S A s.heap s.heap [] := va_S.rf
  have hl := lv_entry ([.ref aT, .int xr]) (n := 2) (Nat.le_of_ble_eq_true rfl)
  rw [lg_entry_eq]
  generalize (lg_sl ([.ref aT, .int xr]) ++ List.replicate (2 - (lg_sl ([.ref aT, .int xr])).length) Slot.unset).toArray = ls at hl ⊢
  have hl : lv_has ls 2 [(0, .ref aT), (1, .int xr)] := hl
  refine lv_aload_n hx hb d_T_writeRegister_0 rfl (lv_at hl 0 rfl) ?_
  refine va_get (D := tp_D E) (ci := 0) (v := .ref aB) (C := qR_T) (T := qF_T) (N := 5) hx hb htg qi_T hown hK.1 hP 0 rfl rfl 2 (by decide) (htg _ kl_T_26) (fun _ h => h) rfl d_T_writeRegister_1 ?_
  refine lv_bipush (v := 120) hx hb d_T_writeRegister_4 (by decide) ?_
  have hP : va_P (tp_D E) tp_cl ((ab, .inl (tp_ty E 3, nb, .inl fb)) :: (aT, .inr (0, [.ref aY, .ref aS, .ref aB, .int xl, .int xg])) :: (aB, .inr (6, [.ref ab, .int 0, .int xm, .int xc])) :: fr) _ := tp_mvP 2 rfl hP
  have hD : va_D A ((ab, .inl (tp_ty E 3, nb, .inl fb)) :: (aT, .inr (0, [.ref aY, .ref aS, .ref aB, .int xl, .int xg])) :: (aB, .inr (6, [.ref ab, .int 0, .int xm, .int xc])) :: fr) := tp_mvD 2 rfl hD
  have hP : va_P (tp_D E) tp_cl ((aB, .inr (6, [.ref ab, .int 0, .int xm, .int xc])) :: (ab, .inl (tp_ty E 3, nb, .inl fb)) :: (aT, .inr (0, [.ref aY, .ref aS, .ref aB, .int xl, .int xg])) :: fr) _ := tp_mvP 2 rfl hP
  have hD : va_D A ((aB, .inr (6, [.ref ab, .int 0, .int xm, .int xc])) :: (ab, .inl (tp_ty E 3, nb, .inl fb)) :: (aT, .inr (0, [.ref aY, .ref aS, .ref aB, .int xl, .int xg])) :: fr) := tp_mvD 2 rfl hD
  refine tp_cr (tp_rV (As := [.int 120]) (rest := []) ⟨hx, hb, hml, hown, htg⟩ (x_SB_appC l E ((aT, .inr (0, [.ref aY, .ref aS, .ref aB, .int xl, .int xg])) :: fr) _ aB ab xm xc nb fb L 120 hn hf hq hL (tp_wr1 hc) (by decide)) (⟨callB_of 1 htg (tp_good0 kc_SB_append_0) rfl rfl rfl (htg _ ki_SB) (htg _ kl_T_154) ⟨by decide, by decide, by decide +kernel⟩ ⟨Nat.le_of_ble_eq_true rfl, Nat.le_of_ble_eq_true rfl⟩, htg _ km_SB_append_0, htg _ kv_SB_SB_append_0⟩) (va_recv (ci := 6) (q0 := 0) hK.1 hP rfl rfl) hK hP hD hS hA rfl hl.1 rfl (Nat.le_of_ble_eq_true rfl) d_T_writeRegister_6 ⟨Nat.le_of_ble_eq_true rfl, Nat.le_of_ble_eq_true rfl⟩) hD hS hA (fun u H locs hw hP hD hS => ?_)
  obtain ⟨eq1, nq1, fq1⟩ := u
  obtain ⟨hnq1, hfq1, hqq1, hiq1⟩ : (nq1 = 16 ∨ nq1 = 34) ∧ tp_fit fq1 ∧ (xc + 1).toInt ≤ (nq1 : Int) ∧ sf_is fq1 (xc + 1) (L ++ [sf_b 120]) := hw
  have hP : va_P (tp_D E) tp_cl ((aB, .inr (6, [.ref eq1, .int 0, .int xm, .int (xc + 1)])) :: (eq1, .inl (tp_ty E 3, nq1, .inl fq1)) :: (aT, .inr (0, [.ref aY, .ref aS, .ref aB, .int xl, .int xg])) :: fr) H := hP
  have hD : va_D A ((aB, .inr (6, [.ref eq1, .int 0, .int xm, .int (xc + 1)])) :: (eq1, .inl (tp_ty E 3, nq1, .inl fq1)) :: (aT, .inr (0, [.ref aY, .ref aS, .ref aB, .int xl, .int xg])) :: fr) := hD
  refine lv_pop hx hb d_T_writeRegister_9 rfl ?_
  refine lv_aload_n hx hb d_T_writeRegister_10 rfl (lv_at hl 0 rfl) ?_
  refine va_get (D := tp_D E) (ci := 0) (v := .ref aB) (C := qR_T) (T := qF_T) (N := 5) hx hb htg qi_T hown hK.1 hP 2 rfl rfl 2 (by decide) (htg _ kl_T_26) (fun _ h => h) rfl d_T_writeRegister_11 ?_
  refine lv_iload_n hx hb d_T_writeRegister_14 rfl (lv_at hl 1 rfl) ?_
  refine tp_cr (tp_rV (As := [.int xr]) (rest := []) ⟨hx, hb, hml, hown, htg⟩ (x_SB_appI l E ((aT, .inr (0, [.ref aY, .ref aS, .ref aB, .int xl, .int xg])) :: fr) _ aB eq1 xm (xc + 1) nq1 fq1 (L ++ [sf_b 120]) xr hnq1 hfq1 hqq1 hiq1 (tp_wr2 hc)) (⟨callB_of 1 htg (tp_good0 kc_SB_append_1) rfl rfl rfl (htg _ ki_SB) (htg _ kl_T_238) ⟨by decide, by decide, by decide +kernel⟩ ⟨Nat.le_of_ble_eq_true rfl, Nat.le_of_ble_eq_true rfl⟩, htg _ km_SB_append_1, htg _ kv_SB_SB_append_1⟩) (va_recv (ci := 6) (q0 := 0) hK.1 hP rfl rfl) hK hP hD hS hA rfl hl.1 rfl (Nat.le_of_ble_eq_true rfl) d_T_writeRegister_15 ⟨Nat.le_of_ble_eq_true rfl, Nat.le_of_ble_eq_true rfl⟩) hD hS hA (fun u H locs hw hP hD hS => ?_)
  obtain ⟨eq2, nq2, fq2, cq2⟩ := u
  obtain ⟨hnq2, hfq2, hcq2, hqq2, hiq2⟩ : (nq2 = 16 ∨ nq2 = 34) ∧ tp_fit fq2 ∧ cq2.toInt = (xc + 1).toInt + (tp_dl xr : Int) ∧ cq2.toInt ≤ (nq2 : Int) ∧ sf_is fq2 cq2 ((L ++ [sf_b 120]) ++ sf_digs xr) := hw
  have hP : va_P (tp_D E) tp_cl ((aB, .inr (6, [.ref eq2, .int 0, .int xm, .int cq2])) :: (eq2, .inl (tp_ty E 3, nq2, .inl fq2)) :: (aT, .inr (0, [.ref aY, .ref aS, .ref aB, .int xl, .int xg])) :: fr) H := hP
  have hD : va_D A ((aB, .inr (6, [.ref eq2, .int 0, .int xm, .int cq2])) :: (eq2, .inl (tp_ty E 3, nq2, .inl fq2)) :: (aT, .inr (0, [.ref aY, .ref aS, .ref aB, .int xl, .int xg])) :: fr) := hD
  refine lv_pop hx hb d_T_writeRegister_18 rfl ?_
  have hP : va_P (tp_D E) tp_cl ((eq2, .inl (tp_ty E 3, nq2, .inl fq2)) :: (aB, .inr (6, [.ref eq2, .int 0, .int xm, .int cq2])) :: (aT, .inr (0, [.ref aY, .ref aS, .ref aB, .int xl, .int xg])) :: fr) _ := tp_mvP 1 rfl hP
  have hD : va_D A ((eq2, .inl (tp_ty E 3, nq2, .inl fq2)) :: (aB, .inr (6, [.ref eq2, .int 0, .int xm, .int cq2])) :: (aT, .inr (0, [.ref aY, .ref aS, .ref aB, .int xl, .int xg])) :: fr) := tp_mvD 1 rfl hD
  have hP : va_P (tp_D E) tp_cl ((aB, .inr (6, [.ref eq2, .int 0, .int xm, .int cq2])) :: (eq2, .inl (tp_ty E 3, nq2, .inl fq2)) :: (aT, .inr (0, [.ref aY, .ref aS, .ref aB, .int xl, .int xg])) :: fr) _ := tp_mvP 1 rfl hP
  have hD : va_D A ((aB, .inr (6, [.ref eq2, .int 0, .int xm, .int cq2])) :: (eq2, .inl (tp_ty E 3, nq2, .inl fq2)) :: (aT, .inr (0, [.ref aY, .ref aS, .ref aB, .int xl, .int xg])) :: fr) := tp_mvD 1 rfl hD
  have hP : va_P (tp_D E) tp_cl ((aT, .inr (0, [.ref aY, .ref aS, .ref aB, .int xl, .int xg])) :: (aB, .inr (6, [.ref eq2, .int 0, .int xm, .int cq2])) :: (eq2, .inl (tp_ty E 3, nq2, .inl fq2)) :: fr) _ := tp_mvP 2 rfl hP
  have hD : va_D A ((aT, .inr (0, [.ref aY, .ref aS, .ref aB, .int xl, .int xg])) :: (aB, .inr (6, [.ref eq2, .int 0, .int xm, .int cq2])) :: (eq2, .inl (tp_ty E 3, nq2, .inl fq2)) :: fr) := tp_mvD 2 rfl hD
  exact W.vret hx hb hr (fun t ht hW => ⟨⟨(eq2, nq2, fq2, cq2), rfl, ⟨hnq2, hfq2, hcq2.trans (tp_wr3 hc), hqq2, hiq2⟩, by rw [ht]; exact hP, hD⟩, hS.F ht⟩) hS.2.2 d_T_writeRegister_19
set_option maxHeartbeats 4000000 in
set_option maxRecDepth 100000 in
theorem x_T_writeOperand (l : Launch) (E : tp_Env) (fr : va_W) (sz : Nat) (aT aY aS : Nat) (xl xg : Int32) (aB ab : Nat) (xm xc : Int32) (nb : Nat) (fb : Nat → Int32) (L : List Int32) (ou : Nat) (hou : ou < 47) (xk xw : Int32) (hn : nb = 16 ∨ nb = 34) (hf : tp_fit fb) (hq : xc.toInt ≤ (nb : Int)) (hL : sf_is fb xc L) (hc : 0 ≤ xc.toInt ∧ xc.toInt + (tp_ol ou xk xw : Int) ≤ 34) (hk : ¬ 255 < xk) : Met l y_T_writeOperand w_T_writeOperand ({ frames := 7, cells := 2, slots := 68, locals := 209 }) (va_Pc [.ref aT, .ref (tp_ad E ou), .int xk, .int xw] (tp_in E ((aT, .inr (0, [.ref aY, .ref aS, .ref aB, .int xl, .int xg])) :: (aB, .inr (6, [.ref ab, .int 0, .int xm, .int xc])) :: (ab, .inl (tp_ty E 3, nb, .inl fb)) :: fr) sz)) (va_Qv (fun (u : Nat × Nat × (Nat → Int32) × Int32) => (u.2.1 = 16 ∨ u.2.1 = 34) ∧ tp_fit u.2.2.1 ∧ u.2.2.2.toInt = xc.toInt + (tp_ol ou xk xw : Int) ∧ u.2.2.2.toInt ≤ (u.2.1 : Int) ∧ sf_is u.2.2.1 u.2.2.2 (L ++ sf_ow ou xk xw)) (fun u t => tp_out E (va_A ((aT, .inr (0, [.ref aY, .ref aS, .ref aB, .int xl, .int xg])) :: (aB, .inr (6, [.ref ab, .int 0, .int xm, .int xc])) :: (ab, .inl (tp_ty E 3, nb, .inl fb)) :: fr) sz) ((aT, .inr (0, [.ref aY, .ref aS, .ref aB, .int xl, .int xg])) :: (aB, .inr (6, [.ref u.1, .int 0, .int xm, .int u.2.2.2])) :: (u.1, .inl (tp_ty E 3, u.2.1, .inl u.2.2.1)) :: fr) t) (va_A ((aT, .inr (0, [.ref aY, .ref aS, .ref aB, .int xl, .int xg])) :: (aB, .inr (6, [.ref ab, .int 0, .int xm, .int xc])) :: (ab, .inl (tp_ty E 3, nb, .inl fb)) :: fr) sz)) 2 68 (va_A ((aT, .inr (0, [.ref aY, .ref aS, .ref aB, .int xl, .int xg])) :: (aB, .inr (6, [.ref ab, .int 0, .int xm, .int xc])) :: (ab, .inl (tp_ty E 3, nb, .inl fb)) :: fr) sz) := by
  refine Met.ofW (cc := b_T_writeOperand) (maxL := 4) (ret := none) (by decide) rfl ?_
  intro p e s m args below meth c s₁ B hml hv
  obtain ⟨rfl, hsz, hP, hK, hD0⟩ := hv
  have hx := B.exec
  have hb := B.bytes
  have hr := B.returns
  have htg : ∀ w ∈ tp_G, w.before ([.ref aT, .ref (tp_ad E ou), .int xk, .int xw] : List Value).toArray s = true := fun w h => atoms_spec (ws := w_T_writeOperand) B.pre w (List.mem_cons_of_mem _ h)
  have hown : s.vm.findClass "TwoPass" = some m.cls := findClass_of_methodNamed B.named
  have hlocks := B.notSynchronized
  subst hsz
  have hD := hD0.self (sz := s.heap.size)
  generalize hAe : va_A ((aT, .inr (0, [.ref aY, .ref aS, .ref aB, .int xl, .int xg])) :: (aB, .inr (6, [.ref ab, .int 0, .int xm, .int xc])) :: (ab, .inl (tp_ty E 3, nb, .inl fb)) :: fr) s.heap.size = A at hD hK ⊢
  have hA : ∀ q : Nat, s.heap.size ≤ q → A q := fun q h => by rw [← hAe]; exact Or.inr h
  have hS : va_S A s.heap s.heap [] := va_S.rf
  have hl := lv_entry ([.ref aT, .ref (tp_ad E ou), .int xk, .int xw]) (n := 4) (Nat.le_of_ble_eq_true rfl)
  rw [lg_entry_eq]
  generalize (lg_sl ([.ref aT, .ref (tp_ad E ou), .int xk, .int xw]) ++ List.replicate (4 - (lg_sl ([.ref aT, .ref (tp_ad E ou), .int xk, .int xw])).length) Slot.unset).toArray = ls at hl ⊢
  have hl : lv_has ls 4 [(0, .ref aT), (1, .ref (tp_ad E ou)), (2, .int xk), (3, .int xw)] := hl
  refine lv_iload_n hx hb d_T_writeOperand_0 rfl (lv_at hl 2 rfl) ?_
  by_cases h1 : xk = 100
  · refine lv_lookup (off := 51) (tgt := 52) hx hb d_T_writeOperand_1 (by decide) (by rw [h1]; decide) (by decide) ?_
    refine lv_aload_n hx hb d_T_writeOperand_52 rfl (lv_at hl 0 rfl) ?_
    refine lv_iload_n hx hb d_T_writeOperand_53 rfl (lv_at hl 3 rfl) ?_
    refine lv_bipush (v := 7) hx hb d_T_writeOperand_54 (by decide) ?_
    refine tp_ci (tp_rS (As := [.int xw, .int 7]) (rest := [.ref aT]) ⟨hx, hb, hml, hown, htg⟩ (cs_C_registerAt_1 l E ((aT, .inr (0, [.ref aY, .ref aS, .ref aB, .int xl, .int xg])) :: (aB, .inr (6, [.ref ab, .int 0, .int xm, .int xc])) :: (ab, .inl (tp_ty E 3, nb, .inl fb)) :: fr) _ xw ) (⟨callB_of 2 htg (tp_good0 kc_C_registerAt) rfl rfl rfl (htg _ ki_C) (htg _ kl_T_229) ⟨by decide, by decide, by decide +kernel⟩ ⟨Nat.le_of_ble_eq_true rfl, Nat.le_of_ble_eq_true rfl⟩, htg _ ks_C_registerAt⟩) hK hP hD hS hA rfl hl.1 rfl (Nat.le_of_ble_eq_true rfl) d_T_writeOperand_56 ⟨Nat.le_of_ble_eq_true rfl, Nat.le_of_ble_eq_true rfl⟩) hD hS hA (fun r u H locs hw hP hD hS => ?_)
    subst r
    have hP : va_P (tp_D E) tp_cl ((aT, .inr (0, [.ref aY, .ref aS, .ref aB, .int xl, .int xg])) :: (aB, .inr (6, [.ref ab, .int 0, .int xm, .int xc])) :: (ab, .inl (tp_ty E 3, nb, .inl fb)) :: fr) H := hP
    have hD : va_D A ((aT, .inr (0, [.ref aY, .ref aS, .ref aB, .int xl, .int xg])) :: (aB, .inr (6, [.ref ab, .int 0, .int xm, .int xc])) :: (ab, .inl (tp_ty E 3, nb, .inl fb)) :: fr) := hD
    refine tp_cv (tp_rV (As := [.int ((xw.toUInt32 >>> (Int32.toUInt32 7 &&& Int32.toUInt32 31)).toInt32 &&& 31)]) (rest := []) ⟨hx, hb, hml, hown, htg⟩ (x_T_writeRegister l E fr _ aT aY aS xl xg aB ab xm xc nb fb L ((xw.toUInt32 >>> (Int32.toUInt32 7 &&& Int32.toUInt32 31)).toInt32 &&& 31) hn hf hq hL (tp_wo1 hc (by unfold tp_ol; rw [if_pos h1]))) (⟨callB_of 1 htg (tp_good0 kc_T_writeRegister) rfl rfl rfl (htg _ ki_T) (htg _ kl_T_232) ⟨by decide, by decide, by decide +kernel⟩ ⟨Nat.le_of_ble_eq_true rfl, Nat.le_of_ble_eq_true rfl⟩, htg _ km_T_writeRegister, htg _ kp_T_writeRegister⟩) (va_recv (ci := 0) (q0 := 0) hK.1 hP rfl rfl) hK hP hD hS hA rfl hl.1 rfl (Nat.le_of_ble_eq_true rfl) d_T_writeOperand_59 ⟨Nat.le_of_ble_eq_true rfl, Nat.le_of_ble_eq_true rfl⟩) hD hS hA (fun u H locs hw hP hD hS => ?_)
    obtain ⟨eq1, nq1, fq1, cq1⟩ := u
    obtain ⟨hnq1, hfq1, hcq1, hqq1, hiq1⟩ : (nq1 = 16 ∨ nq1 = 34) ∧ tp_fit fq1 ∧ cq1.toInt = xc.toInt + 1 + (tp_dl ((xw.toUInt32 >>> (Int32.toUInt32 7 &&& Int32.toUInt32 31)).toInt32 &&& 31) : Int) ∧ cq1.toInt ≤ (nq1 : Int) ∧ sf_is fq1 cq1 ((L ++ [sf_b 120]) ++ sf_digs ((xw.toUInt32 >>> (Int32.toUInt32 7 &&& Int32.toUInt32 31)).toInt32 &&& 31)) := hw
    have hP : va_P (tp_D E) tp_cl ((aT, .inr (0, [.ref aY, .ref aS, .ref aB, .int xl, .int xg])) :: (aB, .inr (6, [.ref eq1, .int 0, .int xm, .int cq1])) :: (eq1, .inl (tp_ty E 3, nq1, .inl fq1)) :: fr) H := hP
    have hD : va_D A ((aT, .inr (0, [.ref aY, .ref aS, .ref aB, .int xl, .int xg])) :: (aB, .inr (6, [.ref eq1, .int 0, .int xm, .int cq1])) :: (eq1, .inl (tp_ty E 3, nq1, .inl fq1)) :: fr) := hD
    refine lv_goto (tgt := 119) hx hb d_T_writeOperand_62 (by decide) ?_
    exact W.vret hx hb hr (fun t ht hW => ⟨⟨(eq1, nq1, fq1, cq1), rfl, ⟨hnq1, hfq1, tp_wo4 hc (by unfold tp_ol; rw [if_pos h1]) hcq1, hqq1, sf_isw hiq1 (by unfold sf_ow; rw [if_pos h1])⟩, by rw [ht]; exact hP, hD⟩, hS.F ht⟩) hS.2.2 d_T_writeOperand_119
  · by_cases h2 : xk = 105
    · refine lv_lookup (off := 90) (tgt := 91) hx hb d_T_writeOperand_1 (by decide) (by rw [h2]; decide) (by decide) ?_
      refine lv_aload_n hx hb d_T_writeOperand_91 rfl (lv_at hl 0 rfl) ?_
      refine va_get (D := tp_D E) (ci := 0) (v := .ref aB) (C := qR_T) (T := qF_T) (N := 5) hx hb htg qi_T hown hK.1 hP 0 rfl rfl 2 (by decide) (htg _ kl_T_26) (fun _ h => h) rfl d_T_writeOperand_92 ?_
      refine lv_aload_n hx hb d_T_writeOperand_95 rfl (lv_at hl 1 rfl) ?_
      refine vk_getf (v := .int (tp_lay.getD ou 0)) hx hb (hK.lay (i := ou) hou) hS hown (htg _ kl_T_181) (fun _ h => h) d_T_writeOperand_96 ?_
      refine lv_iload_n hx hb d_T_writeOperand_99 rfl (lv_at hl 3 rfl) ?_
      refine tp_ci (tp_rS (As := [.int (tp_lay.getD ou 0), .int xw]) (rest := [.ref aB]) ⟨hx, hb, hml, hown, htg⟩ (a_C_numberOf l E ((aT, .inr (0, [.ref aY, .ref aS, .ref aB, .int xl, .int xg])) :: (aB, .inr (6, [.ref ab, .int 0, .int xm, .int xc])) :: (ab, .inl (tp_ty E 3, nb, .inl fb)) :: fr) _ (tp_lay.getD ou 0) xw ) (⟨callB_of 2 htg (tp_good0 kc_C_numberOf) rfl rfl rfl (htg _ ki_C) (htg _ kl_T_235) ⟨by decide, by decide, by decide +kernel⟩ ⟨Nat.le_of_ble_eq_true rfl, Nat.le_of_ble_eq_true rfl⟩, htg _ ks_C_numberOf⟩) hK hP hD hS hA rfl hl.1 rfl (Nat.le_of_ble_eq_true rfl) d_T_writeOperand_100 ⟨Nat.le_of_ble_eq_true rfl, Nat.le_of_ble_eq_true rfl⟩) hD hS hA (fun r u H locs hw hP hD hS => ?_)
      subst r
      have hP : va_P (tp_D E) tp_cl ((aT, .inr (0, [.ref aY, .ref aS, .ref aB, .int xl, .int xg])) :: (aB, .inr (6, [.ref ab, .int 0, .int xm, .int xc])) :: (ab, .inl (tp_ty E 3, nb, .inl fb)) :: fr) H := hP
      have hD : va_D A ((aT, .inr (0, [.ref aY, .ref aS, .ref aB, .int xl, .int xg])) :: (aB, .inr (6, [.ref ab, .int 0, .int xm, .int xc])) :: (ab, .inl (tp_ty E 3, nb, .inl fb)) :: fr) := hD
      have hP : va_P (tp_D E) tp_cl ((ab, .inl (tp_ty E 3, nb, .inl fb)) :: (aT, .inr (0, [.ref aY, .ref aS, .ref aB, .int xl, .int xg])) :: (aB, .inr (6, [.ref ab, .int 0, .int xm, .int xc])) :: fr) _ := tp_mvP 2 rfl hP
      have hD : va_D A ((ab, .inl (tp_ty E 3, nb, .inl fb)) :: (aT, .inr (0, [.ref aY, .ref aS, .ref aB, .int xl, .int xg])) :: (aB, .inr (6, [.ref ab, .int 0, .int xm, .int xc])) :: fr) := tp_mvD 2 rfl hD
      have hP : va_P (tp_D E) tp_cl ((aB, .inr (6, [.ref ab, .int 0, .int xm, .int xc])) :: (ab, .inl (tp_ty E 3, nb, .inl fb)) :: (aT, .inr (0, [.ref aY, .ref aS, .ref aB, .int xl, .int xg])) :: fr) _ := tp_mvP 2 rfl hP
      have hD : va_D A ((aB, .inr (6, [.ref ab, .int 0, .int xm, .int xc])) :: (ab, .inl (tp_ty E 3, nb, .inl fb)) :: (aT, .inr (0, [.ref aY, .ref aS, .ref aB, .int xl, .int xg])) :: fr) := tp_mvD 2 rfl hD
      refine tp_cr (tp_rV (As := [.int (tp_num (tp_lay.getD ou 0) xw)]) (rest := []) ⟨hx, hb, hml, hown, htg⟩ (x_SB_appI l E ((aT, .inr (0, [.ref aY, .ref aS, .ref aB, .int xl, .int xg])) :: fr) _ aB ab xm xc nb fb L (tp_num (tp_lay.getD ou 0) xw) hn hf hq hL (tp_wo2 hc (by unfold tp_ol; rw [if_neg h1, if_pos h2]))) (⟨callB_of 1 htg (tp_good0 kc_SB_append_1) rfl rfl rfl (htg _ ki_SB) (htg _ kl_T_238) ⟨by decide, by decide, by decide +kernel⟩ ⟨Nat.le_of_ble_eq_true rfl, Nat.le_of_ble_eq_true rfl⟩, htg _ km_SB_append_1, htg _ kv_SB_SB_append_1⟩) (va_recv (ci := 6) (q0 := 0) hK.1 hP rfl rfl) hK hP hD hS hA rfl hl.1 rfl (Nat.le_of_ble_eq_true rfl) d_T_writeOperand_103 ⟨Nat.le_of_ble_eq_true rfl, Nat.le_of_ble_eq_true rfl⟩) hD hS hA (fun u H locs hw hP hD hS => ?_)
      obtain ⟨eq1, nq1, fq1, cq1⟩ := u
      obtain ⟨hnq1, hfq1, hcq1, hqq1, hiq1⟩ : (nq1 = 16 ∨ nq1 = 34) ∧ tp_fit fq1 ∧ cq1.toInt = xc.toInt + (tp_dl (tp_num (tp_lay.getD ou 0) xw) : Int) ∧ cq1.toInt ≤ (nq1 : Int) ∧ sf_is fq1 cq1 (L ++ sf_digs (tp_num (tp_lay.getD ou 0) xw)) := hw
      have hP : va_P (tp_D E) tp_cl ((aB, .inr (6, [.ref eq1, .int 0, .int xm, .int cq1])) :: (eq1, .inl (tp_ty E 3, nq1, .inl fq1)) :: (aT, .inr (0, [.ref aY, .ref aS, .ref aB, .int xl, .int xg])) :: fr) H := hP
      have hD : va_D A ((aB, .inr (6, [.ref eq1, .int 0, .int xm, .int cq1])) :: (eq1, .inl (tp_ty E 3, nq1, .inl fq1)) :: (aT, .inr (0, [.ref aY, .ref aS, .ref aB, .int xl, .int xg])) :: fr) := hD
      refine lv_pop hx hb d_T_writeOperand_106 rfl ?_
      refine lv_goto (tgt := 119) hx hb d_T_writeOperand_107 (by decide) ?_
      have hP : va_P (tp_D E) tp_cl ((eq1, .inl (tp_ty E 3, nq1, .inl fq1)) :: (aB, .inr (6, [.ref eq1, .int 0, .int xm, .int cq1])) :: (aT, .inr (0, [.ref aY, .ref aS, .ref aB, .int xl, .int xg])) :: fr) _ := tp_mvP 1 rfl hP
      have hD : va_D A ((eq1, .inl (tp_ty E 3, nq1, .inl fq1)) :: (aB, .inr (6, [.ref eq1, .int 0, .int xm, .int cq1])) :: (aT, .inr (0, [.ref aY, .ref aS, .ref aB, .int xl, .int xg])) :: fr) := tp_mvD 1 rfl hD
      have hP : va_P (tp_D E) tp_cl ((aB, .inr (6, [.ref eq1, .int 0, .int xm, .int cq1])) :: (eq1, .inl (tp_ty E 3, nq1, .inl fq1)) :: (aT, .inr (0, [.ref aY, .ref aS, .ref aB, .int xl, .int xg])) :: fr) _ := tp_mvP 1 rfl hP
      have hD : va_D A ((aB, .inr (6, [.ref eq1, .int 0, .int xm, .int cq1])) :: (eq1, .inl (tp_ty E 3, nq1, .inl fq1)) :: (aT, .inr (0, [.ref aY, .ref aS, .ref aB, .int xl, .int xg])) :: fr) := tp_mvD 1 rfl hD
      have hP : va_P (tp_D E) tp_cl ((aT, .inr (0, [.ref aY, .ref aS, .ref aB, .int xl, .int xg])) :: (aB, .inr (6, [.ref eq1, .int 0, .int xm, .int cq1])) :: (eq1, .inl (tp_ty E 3, nq1, .inl fq1)) :: fr) _ := tp_mvP 2 rfl hP
      have hD : va_D A ((aT, .inr (0, [.ref aY, .ref aS, .ref aB, .int xl, .int xg])) :: (aB, .inr (6, [.ref eq1, .int 0, .int xm, .int cq1])) :: (eq1, .inl (tp_ty E 3, nq1, .inl fq1)) :: fr) := tp_mvD 2 rfl hD
      exact tp_widen (k := 2) (n := 68) (Nat.le_of_ble_eq_true rfl) (Nat.le_of_ble_eq_true rfl) (W.vret hx hb hr (fun t ht hW => ⟨⟨(eq1, nq1, fq1, cq1), rfl, ⟨hnq1, hfq1, tp_wo5 hc (by unfold tp_ol; rw [if_neg h1, if_pos h2]) hcq1, hqq1, sf_isE hiq1 (by unfold sf_ow; rw [if_neg h1, if_pos h2])⟩, by rw [ht]; exact hP, hD⟩, hS.F ht⟩) hS.2.2 d_T_writeOperand_119)
    · by_cases h3 : xk = 108
      · refine lv_lookup (off := 90) (tgt := 91) hx hb d_T_writeOperand_1 (by decide) (by rw [h3]; decide) (by decide) ?_
        refine lv_aload_n hx hb d_T_writeOperand_91 rfl (lv_at hl 0 rfl) ?_
        refine va_get (D := tp_D E) (ci := 0) (v := .ref aB) (C := qR_T) (T := qF_T) (N := 5) hx hb htg qi_T hown hK.1 hP 0 rfl rfl 2 (by decide) (htg _ kl_T_26) (fun _ h => h) rfl d_T_writeOperand_92 ?_
        refine lv_aload_n hx hb d_T_writeOperand_95 rfl (lv_at hl 1 rfl) ?_
        refine vk_getf (v := .int (tp_lay.getD ou 0)) hx hb (hK.lay (i := ou) hou) hS hown (htg _ kl_T_181) (fun _ h => h) d_T_writeOperand_96 ?_
        refine lv_iload_n hx hb d_T_writeOperand_99 rfl (lv_at hl 3 rfl) ?_
        refine tp_ci (tp_rS (As := [.int (tp_lay.getD ou 0), .int xw]) (rest := [.ref aB]) ⟨hx, hb, hml, hown, htg⟩ (a_C_numberOf l E ((aT, .inr (0, [.ref aY, .ref aS, .ref aB, .int xl, .int xg])) :: (aB, .inr (6, [.ref ab, .int 0, .int xm, .int xc])) :: (ab, .inl (tp_ty E 3, nb, .inl fb)) :: fr) _ (tp_lay.getD ou 0) xw ) (⟨callB_of 2 htg (tp_good0 kc_C_numberOf) rfl rfl rfl (htg _ ki_C) (htg _ kl_T_235) ⟨by decide, by decide, by decide +kernel⟩ ⟨Nat.le_of_ble_eq_true rfl, Nat.le_of_ble_eq_true rfl⟩, htg _ ks_C_numberOf⟩) hK hP hD hS hA rfl hl.1 rfl (Nat.le_of_ble_eq_true rfl) d_T_writeOperand_100 ⟨Nat.le_of_ble_eq_true rfl, Nat.le_of_ble_eq_true rfl⟩) hD hS hA (fun r u H locs hw hP hD hS => ?_)
        subst r
        have hP : va_P (tp_D E) tp_cl ((aT, .inr (0, [.ref aY, .ref aS, .ref aB, .int xl, .int xg])) :: (aB, .inr (6, [.ref ab, .int 0, .int xm, .int xc])) :: (ab, .inl (tp_ty E 3, nb, .inl fb)) :: fr) H := hP
        have hD : va_D A ((aT, .inr (0, [.ref aY, .ref aS, .ref aB, .int xl, .int xg])) :: (aB, .inr (6, [.ref ab, .int 0, .int xm, .int xc])) :: (ab, .inl (tp_ty E 3, nb, .inl fb)) :: fr) := hD
        have hP : va_P (tp_D E) tp_cl ((ab, .inl (tp_ty E 3, nb, .inl fb)) :: (aT, .inr (0, [.ref aY, .ref aS, .ref aB, .int xl, .int xg])) :: (aB, .inr (6, [.ref ab, .int 0, .int xm, .int xc])) :: fr) _ := tp_mvP 2 rfl hP
        have hD : va_D A ((ab, .inl (tp_ty E 3, nb, .inl fb)) :: (aT, .inr (0, [.ref aY, .ref aS, .ref aB, .int xl, .int xg])) :: (aB, .inr (6, [.ref ab, .int 0, .int xm, .int xc])) :: fr) := tp_mvD 2 rfl hD
        have hP : va_P (tp_D E) tp_cl ((aB, .inr (6, [.ref ab, .int 0, .int xm, .int xc])) :: (ab, .inl (tp_ty E 3, nb, .inl fb)) :: (aT, .inr (0, [.ref aY, .ref aS, .ref aB, .int xl, .int xg])) :: fr) _ := tp_mvP 2 rfl hP
        have hD : va_D A ((aB, .inr (6, [.ref ab, .int 0, .int xm, .int xc])) :: (ab, .inl (tp_ty E 3, nb, .inl fb)) :: (aT, .inr (0, [.ref aY, .ref aS, .ref aB, .int xl, .int xg])) :: fr) := tp_mvD 2 rfl hD
        refine tp_cr (tp_rV (As := [.int (tp_num (tp_lay.getD ou 0) xw)]) (rest := []) ⟨hx, hb, hml, hown, htg⟩ (x_SB_appI l E ((aT, .inr (0, [.ref aY, .ref aS, .ref aB, .int xl, .int xg])) :: fr) _ aB ab xm xc nb fb L (tp_num (tp_lay.getD ou 0) xw) hn hf hq hL (tp_wo2 hc (by unfold tp_ol; rw [if_neg h1, if_neg h2, if_pos h3]))) (⟨callB_of 1 htg (tp_good0 kc_SB_append_1) rfl rfl rfl (htg _ ki_SB) (htg _ kl_T_238) ⟨by decide, by decide, by decide +kernel⟩ ⟨Nat.le_of_ble_eq_true rfl, Nat.le_of_ble_eq_true rfl⟩, htg _ km_SB_append_1, htg _ kv_SB_SB_append_1⟩) (va_recv (ci := 6) (q0 := 0) hK.1 hP rfl rfl) hK hP hD hS hA rfl hl.1 rfl (Nat.le_of_ble_eq_true rfl) d_T_writeOperand_103 ⟨Nat.le_of_ble_eq_true rfl, Nat.le_of_ble_eq_true rfl⟩) hD hS hA (fun u H locs hw hP hD hS => ?_)
        obtain ⟨eq1, nq1, fq1, cq1⟩ := u
        obtain ⟨hnq1, hfq1, hcq1, hqq1, hiq1⟩ : (nq1 = 16 ∨ nq1 = 34) ∧ tp_fit fq1 ∧ cq1.toInt = xc.toInt + (tp_dl (tp_num (tp_lay.getD ou 0) xw) : Int) ∧ cq1.toInt ≤ (nq1 : Int) ∧ sf_is fq1 cq1 (L ++ sf_digs (tp_num (tp_lay.getD ou 0) xw)) := hw
        have hP : va_P (tp_D E) tp_cl ((aB, .inr (6, [.ref eq1, .int 0, .int xm, .int cq1])) :: (eq1, .inl (tp_ty E 3, nq1, .inl fq1)) :: (aT, .inr (0, [.ref aY, .ref aS, .ref aB, .int xl, .int xg])) :: fr) H := hP
        have hD : va_D A ((aB, .inr (6, [.ref eq1, .int 0, .int xm, .int cq1])) :: (eq1, .inl (tp_ty E 3, nq1, .inl fq1)) :: (aT, .inr (0, [.ref aY, .ref aS, .ref aB, .int xl, .int xg])) :: fr) := hD
        refine lv_pop hx hb d_T_writeOperand_106 rfl ?_
        refine lv_goto (tgt := 119) hx hb d_T_writeOperand_107 (by decide) ?_
        have hP : va_P (tp_D E) tp_cl ((eq1, .inl (tp_ty E 3, nq1, .inl fq1)) :: (aB, .inr (6, [.ref eq1, .int 0, .int xm, .int cq1])) :: (aT, .inr (0, [.ref aY, .ref aS, .ref aB, .int xl, .int xg])) :: fr) _ := tp_mvP 1 rfl hP
        have hD : va_D A ((eq1, .inl (tp_ty E 3, nq1, .inl fq1)) :: (aB, .inr (6, [.ref eq1, .int 0, .int xm, .int cq1])) :: (aT, .inr (0, [.ref aY, .ref aS, .ref aB, .int xl, .int xg])) :: fr) := tp_mvD 1 rfl hD
        have hP : va_P (tp_D E) tp_cl ((aB, .inr (6, [.ref eq1, .int 0, .int xm, .int cq1])) :: (eq1, .inl (tp_ty E 3, nq1, .inl fq1)) :: (aT, .inr (0, [.ref aY, .ref aS, .ref aB, .int xl, .int xg])) :: fr) _ := tp_mvP 1 rfl hP
        have hD : va_D A ((aB, .inr (6, [.ref eq1, .int 0, .int xm, .int cq1])) :: (eq1, .inl (tp_ty E 3, nq1, .inl fq1)) :: (aT, .inr (0, [.ref aY, .ref aS, .ref aB, .int xl, .int xg])) :: fr) := tp_mvD 1 rfl hD
        have hP : va_P (tp_D E) tp_cl ((aT, .inr (0, [.ref aY, .ref aS, .ref aB, .int xl, .int xg])) :: (aB, .inr (6, [.ref eq1, .int 0, .int xm, .int cq1])) :: (eq1, .inl (tp_ty E 3, nq1, .inl fq1)) :: fr) _ := tp_mvP 2 rfl hP
        have hD : va_D A ((aT, .inr (0, [.ref aY, .ref aS, .ref aB, .int xl, .int xg])) :: (aB, .inr (6, [.ref eq1, .int 0, .int xm, .int cq1])) :: (eq1, .inl (tp_ty E 3, nq1, .inl fq1)) :: fr) := tp_mvD 2 rfl hD
        exact tp_widen (k := 2) (n := 68) (Nat.le_of_ble_eq_true rfl) (Nat.le_of_ble_eq_true rfl) (W.vret hx hb hr (fun t ht hW => ⟨⟨(eq1, nq1, fq1, cq1), rfl, ⟨hnq1, hfq1, tp_wo5 hc (by unfold tp_ol; rw [if_neg h1, if_neg h2, if_pos h3]) hcq1, hqq1, sf_isE hiq1 (by unfold sf_ow; rw [if_neg h1, if_neg h2, if_pos h3])⟩, by rw [ht]; exact hP, hD⟩, hS.F ht⟩) hS.2.2 d_T_writeOperand_119)
      · by_cases h4 : xk = 115
        · refine lv_lookup (off := 64) (tgt := 65) hx hb d_T_writeOperand_1 (by decide) (by rw [h4]; decide) (by decide) ?_
          refine lv_aload_n hx hb d_T_writeOperand_65 rfl (lv_at hl 0 rfl) ?_
          refine lv_iload_n hx hb d_T_writeOperand_66 rfl (lv_at hl 3 rfl) ?_
          refine lv_bipush (v := 15) hx hb d_T_writeOperand_67 (by decide) ?_
          refine tp_ci (tp_rS (As := [.int xw, .int 15]) (rest := [.ref aT]) ⟨hx, hb, hml, hown, htg⟩ (cs_C_registerAt_2 l E ((aT, .inr (0, [.ref aY, .ref aS, .ref aB, .int xl, .int xg])) :: (aB, .inr (6, [.ref ab, .int 0, .int xm, .int xc])) :: (ab, .inl (tp_ty E 3, nb, .inl fb)) :: fr) _ xw ) (⟨callB_of 2 htg (tp_good0 kc_C_registerAt) rfl rfl rfl (htg _ ki_C) (htg _ kl_T_229) ⟨by decide, by decide, by decide +kernel⟩ ⟨Nat.le_of_ble_eq_true rfl, Nat.le_of_ble_eq_true rfl⟩, htg _ ks_C_registerAt⟩) hK hP hD hS hA rfl hl.1 rfl (Nat.le_of_ble_eq_true rfl) d_T_writeOperand_69 ⟨Nat.le_of_ble_eq_true rfl, Nat.le_of_ble_eq_true rfl⟩) hD hS hA (fun r u H locs hw hP hD hS => ?_)
          subst r
          have hP : va_P (tp_D E) tp_cl ((aT, .inr (0, [.ref aY, .ref aS, .ref aB, .int xl, .int xg])) :: (aB, .inr (6, [.ref ab, .int 0, .int xm, .int xc])) :: (ab, .inl (tp_ty E 3, nb, .inl fb)) :: fr) H := hP
          have hD : va_D A ((aT, .inr (0, [.ref aY, .ref aS, .ref aB, .int xl, .int xg])) :: (aB, .inr (6, [.ref ab, .int 0, .int xm, .int xc])) :: (ab, .inl (tp_ty E 3, nb, .inl fb)) :: fr) := hD
          refine tp_cv (tp_rV (As := [.int ((xw.toUInt32 >>> (Int32.toUInt32 15 &&& Int32.toUInt32 31)).toInt32 &&& 31)]) (rest := []) ⟨hx, hb, hml, hown, htg⟩ (x_T_writeRegister l E fr _ aT aY aS xl xg aB ab xm xc nb fb L ((xw.toUInt32 >>> (Int32.toUInt32 15 &&& Int32.toUInt32 31)).toInt32 &&& 31) hn hf hq hL (tp_wo1 hc (by unfold tp_ol; rw [if_neg h1, if_neg h2, if_neg h3, if_pos h4]))) (⟨callB_of 1 htg (tp_good0 kc_T_writeRegister) rfl rfl rfl (htg _ ki_T) (htg _ kl_T_232) ⟨by decide, by decide, by decide +kernel⟩ ⟨Nat.le_of_ble_eq_true rfl, Nat.le_of_ble_eq_true rfl⟩, htg _ km_T_writeRegister, htg _ kp_T_writeRegister⟩) (va_recv (ci := 0) (q0 := 0) hK.1 hP rfl rfl) hK hP hD hS hA rfl hl.1 rfl (Nat.le_of_ble_eq_true rfl) d_T_writeOperand_72 ⟨Nat.le_of_ble_eq_true rfl, Nat.le_of_ble_eq_true rfl⟩) hD hS hA (fun u H locs hw hP hD hS => ?_)
          obtain ⟨eq1, nq1, fq1, cq1⟩ := u
          obtain ⟨hnq1, hfq1, hcq1, hqq1, hiq1⟩ : (nq1 = 16 ∨ nq1 = 34) ∧ tp_fit fq1 ∧ cq1.toInt = xc.toInt + 1 + (tp_dl ((xw.toUInt32 >>> (Int32.toUInt32 15 &&& Int32.toUInt32 31)).toInt32 &&& 31) : Int) ∧ cq1.toInt ≤ (nq1 : Int) ∧ sf_is fq1 cq1 ((L ++ [sf_b 120]) ++ sf_digs ((xw.toUInt32 >>> (Int32.toUInt32 15 &&& Int32.toUInt32 31)).toInt32 &&& 31)) := hw
          have hP : va_P (tp_D E) tp_cl ((aT, .inr (0, [.ref aY, .ref aS, .ref aB, .int xl, .int xg])) :: (aB, .inr (6, [.ref eq1, .int 0, .int xm, .int cq1])) :: (eq1, .inl (tp_ty E 3, nq1, .inl fq1)) :: fr) H := hP
          have hD : va_D A ((aT, .inr (0, [.ref aY, .ref aS, .ref aB, .int xl, .int xg])) :: (aB, .inr (6, [.ref eq1, .int 0, .int xm, .int cq1])) :: (eq1, .inl (tp_ty E 3, nq1, .inl fq1)) :: fr) := hD
          refine lv_goto (tgt := 119) hx hb d_T_writeOperand_75 (by decide) ?_
          exact W.vret hx hb hr (fun t ht hW => ⟨⟨(eq1, nq1, fq1, cq1), rfl, ⟨hnq1, hfq1, tp_wo4 hc (by unfold tp_ol; rw [if_neg h1, if_neg h2, if_neg h3, if_pos h4]) hcq1, hqq1, sf_isw hiq1 (by unfold sf_ow; rw [if_neg h1, if_neg h2, if_neg h3, if_pos h4])⟩, by rw [ht]; exact hP, hD⟩, hS.F ht⟩) hS.2.2 d_T_writeOperand_119
        · by_cases h5 : xk = 116
          · refine lv_lookup (off := 77) (tgt := 78) hx hb d_T_writeOperand_1 (by decide) (by rw [h5]; decide) (by decide) ?_
            refine lv_aload_n hx hb d_T_writeOperand_78 rfl (lv_at hl 0 rfl) ?_
            refine lv_iload_n hx hb d_T_writeOperand_79 rfl (lv_at hl 3 rfl) ?_
            refine lv_bipush (v := 20) hx hb d_T_writeOperand_80 (by decide) ?_
            refine tp_ci (tp_rS (As := [.int xw, .int 20]) (rest := [.ref aT]) ⟨hx, hb, hml, hown, htg⟩ (cs_C_registerAt_3 l E ((aT, .inr (0, [.ref aY, .ref aS, .ref aB, .int xl, .int xg])) :: (aB, .inr (6, [.ref ab, .int 0, .int xm, .int xc])) :: (ab, .inl (tp_ty E 3, nb, .inl fb)) :: fr) _ xw ) (⟨callB_of 2 htg (tp_good0 kc_C_registerAt) rfl rfl rfl (htg _ ki_C) (htg _ kl_T_229) ⟨by decide, by decide, by decide +kernel⟩ ⟨Nat.le_of_ble_eq_true rfl, Nat.le_of_ble_eq_true rfl⟩, htg _ ks_C_registerAt⟩) hK hP hD hS hA rfl hl.1 rfl (Nat.le_of_ble_eq_true rfl) d_T_writeOperand_82 ⟨Nat.le_of_ble_eq_true rfl, Nat.le_of_ble_eq_true rfl⟩) hD hS hA (fun r u H locs hw hP hD hS => ?_)
            subst r
            have hP : va_P (tp_D E) tp_cl ((aT, .inr (0, [.ref aY, .ref aS, .ref aB, .int xl, .int xg])) :: (aB, .inr (6, [.ref ab, .int 0, .int xm, .int xc])) :: (ab, .inl (tp_ty E 3, nb, .inl fb)) :: fr) H := hP
            have hD : va_D A ((aT, .inr (0, [.ref aY, .ref aS, .ref aB, .int xl, .int xg])) :: (aB, .inr (6, [.ref ab, .int 0, .int xm, .int xc])) :: (ab, .inl (tp_ty E 3, nb, .inl fb)) :: fr) := hD
            refine tp_cv (tp_rV (As := [.int ((xw.toUInt32 >>> (Int32.toUInt32 20 &&& Int32.toUInt32 31)).toInt32 &&& 31)]) (rest := []) ⟨hx, hb, hml, hown, htg⟩ (x_T_writeRegister l E fr _ aT aY aS xl xg aB ab xm xc nb fb L ((xw.toUInt32 >>> (Int32.toUInt32 20 &&& Int32.toUInt32 31)).toInt32 &&& 31) hn hf hq hL (tp_wo1 hc (by unfold tp_ol; rw [if_neg h1, if_neg h2, if_neg h3, if_neg h4, if_pos h5]))) (⟨callB_of 1 htg (tp_good0 kc_T_writeRegister) rfl rfl rfl (htg _ ki_T) (htg _ kl_T_232) ⟨by decide, by decide, by decide +kernel⟩ ⟨Nat.le_of_ble_eq_true rfl, Nat.le_of_ble_eq_true rfl⟩, htg _ km_T_writeRegister, htg _ kp_T_writeRegister⟩) (va_recv (ci := 0) (q0 := 0) hK.1 hP rfl rfl) hK hP hD hS hA rfl hl.1 rfl (Nat.le_of_ble_eq_true rfl) d_T_writeOperand_85 ⟨Nat.le_of_ble_eq_true rfl, Nat.le_of_ble_eq_true rfl⟩) hD hS hA (fun u H locs hw hP hD hS => ?_)
            obtain ⟨eq1, nq1, fq1, cq1⟩ := u
            obtain ⟨hnq1, hfq1, hcq1, hqq1, hiq1⟩ : (nq1 = 16 ∨ nq1 = 34) ∧ tp_fit fq1 ∧ cq1.toInt = xc.toInt + 1 + (tp_dl ((xw.toUInt32 >>> (Int32.toUInt32 20 &&& Int32.toUInt32 31)).toInt32 &&& 31) : Int) ∧ cq1.toInt ≤ (nq1 : Int) ∧ sf_is fq1 cq1 ((L ++ [sf_b 120]) ++ sf_digs ((xw.toUInt32 >>> (Int32.toUInt32 20 &&& Int32.toUInt32 31)).toInt32 &&& 31)) := hw
            have hP : va_P (tp_D E) tp_cl ((aT, .inr (0, [.ref aY, .ref aS, .ref aB, .int xl, .int xg])) :: (aB, .inr (6, [.ref eq1, .int 0, .int xm, .int cq1])) :: (eq1, .inl (tp_ty E 3, nq1, .inl fq1)) :: fr) H := hP
            have hD : va_D A ((aT, .inr (0, [.ref aY, .ref aS, .ref aB, .int xl, .int xg])) :: (aB, .inr (6, [.ref eq1, .int 0, .int xm, .int cq1])) :: (eq1, .inl (tp_ty E 3, nq1, .inl fq1)) :: fr) := hD
            refine lv_goto (tgt := 119) hx hb d_T_writeOperand_88 (by decide) ?_
            exact W.vret hx hb hr (fun t ht hW => ⟨⟨(eq1, nq1, fq1, cq1), rfl, ⟨hnq1, hfq1, tp_wo4 hc (by unfold tp_ol; rw [if_neg h1, if_neg h2, if_neg h3, if_neg h4, if_pos h5]) hcq1, hqq1, sf_isw hiq1 (by unfold sf_ow; rw [if_neg h1, if_neg h2, if_neg h3, if_neg h4, if_pos h5])⟩, by rw [ht]; exact hP, hD⟩, hS.F ht⟩) hS.2.2 d_T_writeOperand_119
          · refine lv_lookup (off := 109) (tgt := 110) hx hb d_T_writeOperand_1 (by decide) (by show (if (100 : Int) = xk.toInt then (51 : Int) else if (105 : Int) = xk.toInt then (90 : Int) else if (108 : Int) = xk.toInt then (90 : Int) else if (115 : Int) = xk.toInt then (64 : Int) else if (116 : Int) = xk.toInt then (77 : Int) else 109) = _; rw [if_neg (fun q => tp_neI (v := 100) (n := 100) rfl h1 q.symm), if_neg (fun q => tp_neI (v := 105) (n := 105) rfl h2 q.symm), if_neg (fun q => tp_neI (v := 108) (n := 108) rfl h3 q.symm), if_neg (fun q => tp_neI (v := 115) (n := 115) rfl h4 q.symm), if_neg (fun q => tp_neI (v := 116) (n := 116) rfl h5 q.symm)]) (by decide) ?_
            refine lv_aload_n hx hb d_T_writeOperand_110 rfl (lv_at hl 0 rfl) ?_
            refine va_get (D := tp_D E) (ci := 0) (v := .ref aB) (C := qR_T) (T := qF_T) (N := 5) hx hb htg qi_T hown hK.1 hP 0 rfl rfl 2 (by decide) (htg _ kl_T_26) (fun _ h => h) rfl d_T_writeOperand_111 ?_
            refine lv_iload_n hx hb d_T_writeOperand_114 rfl (lv_at hl 2 rfl) ?_
            have hP : va_P (tp_D E) tp_cl ((ab, .inl (tp_ty E 3, nb, .inl fb)) :: (aT, .inr (0, [.ref aY, .ref aS, .ref aB, .int xl, .int xg])) :: (aB, .inr (6, [.ref ab, .int 0, .int xm, .int xc])) :: fr) _ := tp_mvP 2 rfl hP
            have hD : va_D A ((ab, .inl (tp_ty E 3, nb, .inl fb)) :: (aT, .inr (0, [.ref aY, .ref aS, .ref aB, .int xl, .int xg])) :: (aB, .inr (6, [.ref ab, .int 0, .int xm, .int xc])) :: fr) := tp_mvD 2 rfl hD
            have hP : va_P (tp_D E) tp_cl ((aB, .inr (6, [.ref ab, .int 0, .int xm, .int xc])) :: (ab, .inl (tp_ty E 3, nb, .inl fb)) :: (aT, .inr (0, [.ref aY, .ref aS, .ref aB, .int xl, .int xg])) :: fr) _ := tp_mvP 2 rfl hP
            have hD : va_D A ((aB, .inr (6, [.ref ab, .int 0, .int xm, .int xc])) :: (ab, .inl (tp_ty E 3, nb, .inl fb)) :: (aT, .inr (0, [.ref aY, .ref aS, .ref aB, .int xl, .int xg])) :: fr) := tp_mvD 2 rfl hD
            refine tp_cr (tp_rV (As := [.int xk]) (rest := []) ⟨hx, hb, hml, hown, htg⟩ (x_SB_appC l E ((aT, .inr (0, [.ref aY, .ref aS, .ref aB, .int xl, .int xg])) :: fr) _ aB ab xm xc nb fb L xk hn hf hq hL (tp_wo3 hc (by unfold tp_ol; rw [if_neg h1, if_neg h2, if_neg h3, if_neg h4, if_neg h5])) hk) (⟨callB_of 1 htg (tp_good0 kc_SB_append_0) rfl rfl rfl (htg _ ki_SB) (htg _ kl_T_154) ⟨by decide, by decide, by decide +kernel⟩ ⟨Nat.le_of_ble_eq_true rfl, Nat.le_of_ble_eq_true rfl⟩, htg _ km_SB_append_0, htg _ kv_SB_SB_append_0⟩) (va_recv (ci := 6) (q0 := 0) hK.1 hP rfl rfl) hK hP hD hS hA rfl hl.1 rfl (Nat.le_of_ble_eq_true rfl) d_T_writeOperand_115 ⟨Nat.le_of_ble_eq_true rfl, Nat.le_of_ble_eq_true rfl⟩) hD hS hA (fun u H locs hw hP hD hS => ?_)
            obtain ⟨eq1, nq1, fq1⟩ := u
            obtain ⟨hnq1, hfq1, hqq1, hiq1⟩ : (nq1 = 16 ∨ nq1 = 34) ∧ tp_fit fq1 ∧ (xc + 1).toInt ≤ (nq1 : Int) ∧ sf_is fq1 (xc + 1) (L ++ [sf_b xk]) := hw
            have hP : va_P (tp_D E) tp_cl ((aB, .inr (6, [.ref eq1, .int 0, .int xm, .int (xc + 1)])) :: (eq1, .inl (tp_ty E 3, nq1, .inl fq1)) :: (aT, .inr (0, [.ref aY, .ref aS, .ref aB, .int xl, .int xg])) :: fr) H := hP
            have hD : va_D A ((aB, .inr (6, [.ref eq1, .int 0, .int xm, .int (xc + 1)])) :: (eq1, .inl (tp_ty E 3, nq1, .inl fq1)) :: (aT, .inr (0, [.ref aY, .ref aS, .ref aB, .int xl, .int xg])) :: fr) := hD
            refine lv_pop hx hb d_T_writeOperand_118 rfl ?_
            have hP : va_P (tp_D E) tp_cl ((eq1, .inl (tp_ty E 3, nq1, .inl fq1)) :: (aB, .inr (6, [.ref eq1, .int 0, .int xm, .int (xc + 1)])) :: (aT, .inr (0, [.ref aY, .ref aS, .ref aB, .int xl, .int xg])) :: fr) _ := tp_mvP 1 rfl hP
            have hD : va_D A ((eq1, .inl (tp_ty E 3, nq1, .inl fq1)) :: (aB, .inr (6, [.ref eq1, .int 0, .int xm, .int (xc + 1)])) :: (aT, .inr (0, [.ref aY, .ref aS, .ref aB, .int xl, .int xg])) :: fr) := tp_mvD 1 rfl hD
            have hP : va_P (tp_D E) tp_cl ((aB, .inr (6, [.ref eq1, .int 0, .int xm, .int (xc + 1)])) :: (eq1, .inl (tp_ty E 3, nq1, .inl fq1)) :: (aT, .inr (0, [.ref aY, .ref aS, .ref aB, .int xl, .int xg])) :: fr) _ := tp_mvP 1 rfl hP
            have hD : va_D A ((aB, .inr (6, [.ref eq1, .int 0, .int xm, .int (xc + 1)])) :: (eq1, .inl (tp_ty E 3, nq1, .inl fq1)) :: (aT, .inr (0, [.ref aY, .ref aS, .ref aB, .int xl, .int xg])) :: fr) := tp_mvD 1 rfl hD
            have hP : va_P (tp_D E) tp_cl ((aT, .inr (0, [.ref aY, .ref aS, .ref aB, .int xl, .int xg])) :: (aB, .inr (6, [.ref eq1, .int 0, .int xm, .int (xc + 1)])) :: (eq1, .inl (tp_ty E 3, nq1, .inl fq1)) :: fr) _ := tp_mvP 2 rfl hP
            have hD : va_D A ((aT, .inr (0, [.ref aY, .ref aS, .ref aB, .int xl, .int xg])) :: (aB, .inr (6, [.ref eq1, .int 0, .int xm, .int (xc + 1)])) :: (eq1, .inl (tp_ty E 3, nq1, .inl fq1)) :: fr) := tp_mvD 2 rfl hD
            exact tp_widen (k := 2) (n := 68) (Nat.le_of_ble_eq_true rfl) (Nat.le_of_ble_eq_true rfl) (W.vret hx hb hr (fun t ht hW => ⟨⟨(eq1, nq1, fq1, (xc + 1)), rfl, ⟨hnq1, hfq1, tp_wo6 hc (by unfold tp_ol; rw [if_neg h1, if_neg h2, if_neg h3, if_neg h4, if_neg h5]), hqq1, sf_isE hiq1 (by unfold sf_ow; rw [if_neg h1, if_neg h2, if_neg h3, if_neg h4, if_neg h5])⟩, by rw [ht]; exact hP, hD⟩, hS.F ht⟩) hS.2.2 d_T_writeOperand_119)
set_option maxHeartbeats 4000000 in
set_option maxRecDepth 100000 in
theorem x_T_show (l : Launch) (hfl : l.stackTraces = false) (E : tp_Env) (fr : va_W) (sz : Nat) (aT aY aS : Nat) (xl xg : Int32) (aB ab : Nat) (xm xc : Int32) (nb : Nat) (fb : Nat → Int32) (xw : Int32) (hn : nb = 16 ∨ nb = 34) (hf : tp_fit fb) (hc : 0 ≤ xc.toInt) : vx_Met l y_T_show w_T_show ({ frames := 8, cells := 19, slots := 646, locals := 232 }) (va_Pc [.ref aT, .int xw] (tp_in E ((aT, .inr (0, [.ref aY, .ref aS, .ref aB, .int xl, .int xg])) :: (aB, .inr (6, [.ref ab, .int 0, .int xm, .int xc])) :: (ab, .inl (tp_ty E 3, nb, .inl fb)) :: fr) sz)) (va_Qi (fun r (u : Nat × Nat × Nat × (Nat → Int32) × Int32 × Int32) => (tp_hit xw u.1 ∧ ¬ u.1 = 0 ∧ r.toInt = (tp_lenT u.1 xw : Nat)) ∧ ((u.2.2.1 = 16 ∨ u.2.2.1 = 34) ∧ tp_fit u.2.2.2.1 ∧ u.2.2.2.2.2.toInt ≤ (u.2.2.1 : Int)) ∧ (0 ≤ r.toInt ∧ r.toInt ≤ 34) ∧ u.2.2.2.2.2 = r ∧ sf_is u.2.2.2.1 r (sf_TL u.1 xw)) (fun u t => tp_out E (va_A ((aT, .inr (0, [.ref aY, .ref aS, .ref aB, .int xl, .int xg])) :: (aB, .inr (6, [.ref ab, .int 0, .int xm, .int xc])) :: (ab, .inl (tp_ty E 3, nb, .inl fb)) :: fr) sz) ((aT, .inr (0, [.ref aY, .ref aS, .ref aB, .int xl, .int xg])) :: (aB, .inr (6, [.ref u.2.1, .int 0, .int u.2.2.2.2.1, .int u.2.2.2.2.2])) :: (u.2.1, .inl (tp_ty E 3, u.2.2.1, .inl u.2.2.2.1)) :: fr) t) (va_A ((aT, .inr (0, [.ref aY, .ref aS, .ref aB, .int xl, .int xg])) :: (aB, .inr (6, [.ref ab, .int 0, .int xm, .int xc])) :: (ab, .inl (tp_ty E 3, nb, .inl fb)) :: fr) sz)) (vx_X (fun (u : Nat × Nat × (Nat → Int32) × Int32) => tp_hit xw 0 ∧ (u.2.1 = 16 ∨ u.2.1 = 34) ∧ tp_fit u.2.2.1) (fun x u t => x = "java/lang/IllegalArgumentException" ∧ tp_out E (va_A ((aT, .inr (0, [.ref aY, .ref aS, .ref aB, .int xl, .int xg])) :: (aB, .inr (6, [.ref ab, .int 0, .int xm, .int xc])) :: (ab, .inl (tp_ty E 3, nb, .inl fb)) :: fr) sz) ((aT, .inr (0, [.ref aY, .ref aS, .ref aB, .int xl, .int xg])) :: (aB, .inr (6, [.ref u.1, .int 0, .int u.2.2.2, .int 0])) :: (u.1, .inl (tp_ty E 3, u.2.1, .inl u.2.2.1)) :: fr) t) (va_A ((aT, .inr (0, [.ref aY, .ref aS, .ref aB, .int xl, .int xg])) :: (aB, .inr (6, [.ref ab, .int 0, .int xm, .int xc])) :: (ab, .inl (tp_ty E 3, nb, .inl fb)) :: fr) sz)) 19 646 (va_A ((aT, .inr (0, [.ref aY, .ref aS, .ref aB, .int xl, .int xg])) :: (aB, .inr (6, [.ref ab, .int 0, .int xm, .int xc])) :: (ab, .inl (tp_ty E 3, nb, .inl fb)) :: fr) sz) := by
  refine vx_ofW (cc := b_T_show) (maxL := 4) (ret := (some .int)) (by decide) rfl ?_
  intro p e s m args below meth c s₁ B hml htab hv
  obtain ⟨rfl, hsz, hP, hK, hD0⟩ := hv
  have hx := B.exec
  have hb := B.bytes
  have hr := B.returns
  have htg : ∀ w ∈ tp_G, w.before ([.ref aT, .int xw] : List Value).toArray s = true := fun w h => atoms_spec (ws := w_T_show) B.pre w (List.mem_cons_of_mem _ h)
  have hown : s.vm.findClass "TwoPass" = some m.cls := findClass_of_methodNamed B.named
  have hlocks := B.notSynchronized
  subst hsz
  have hD := hD0.self (sz := s.heap.size)
  generalize hAe : va_A ((aT, .inr (0, [.ref aY, .ref aS, .ref aB, .int xl, .int xg])) :: (aB, .inr (6, [.ref ab, .int 0, .int xm, .int xc])) :: (ab, .inl (tp_ty E 3, nb, .inl fb)) :: fr) s.heap.size = A at hD hK ⊢
  have hA : ∀ q : Nat, s.heap.size ≤ q → A q := fun q h => by rw [← hAe]; exact Or.inr h
  have hS : va_S A s.heap s.heap [] := va_S.rf
  have hl := lv_entry ([.ref aT, .int xw]) (n := 4) (Nat.le_of_ble_eq_true rfl)
  rw [lg_entry_eq]
  generalize (lg_sl ([.ref aT, .int xw]) ++ List.replicate (4 - (lg_sl ([.ref aT, .int xw])).length) Slot.unset).toArray = ls at hl ⊢
  have hl : lv_has ls 4 [(0, .ref aT), (1, .int xw)] := hl
  refine lv_aload_n hx hb d_T_show_0 rfl (lv_at hl 0 rfl) ?_
  refine va_get (D := tp_D E) (ci := 0) (v := .ref aB) (C := qR_T) (T := qF_T) (N := 5) hx hb htg qi_T hown hK.1 hP 0 rfl rfl 2 (by decide) (htg _ kl_T_26) (fun _ h => h) rfl d_T_show_1 ?_
  refine lv_iconst (v := 0) hx hb d_T_show_4 (by decide) ?_
  have hP : va_P (tp_D E) tp_cl ((ab, .inl (tp_ty E 3, nb, .inl fb)) :: (aT, .inr (0, [.ref aY, .ref aS, .ref aB, .int xl, .int xg])) :: (aB, .inr (6, [.ref ab, .int 0, .int xm, .int xc])) :: fr) _ := tp_mvP 2 rfl hP
  have hD : va_D A ((ab, .inl (tp_ty E 3, nb, .inl fb)) :: (aT, .inr (0, [.ref aY, .ref aS, .ref aB, .int xl, .int xg])) :: (aB, .inr (6, [.ref ab, .int 0, .int xm, .int xc])) :: fr) := tp_mvD 2 rfl hD
  have hP : va_P (tp_D E) tp_cl ((aB, .inr (6, [.ref ab, .int 0, .int xm, .int xc])) :: (ab, .inl (tp_ty E 3, nb, .inl fb)) :: (aT, .inr (0, [.ref aY, .ref aS, .ref aB, .int xl, .int xg])) :: fr) _ := tp_mvP 2 rfl hP
  have hD : va_D A ((aB, .inr (6, [.ref ab, .int 0, .int xm, .int xc])) :: (ab, .inl (tp_ty E 3, nb, .inl fb)) :: (aT, .inr (0, [.ref aY, .ref aS, .ref aB, .int xl, .int xg])) :: fr) := tp_mvD 2 rfl hD
  refine tp_cv (tp_rV (As := [.int 0]) (rest := []) ⟨hx, hb, hml, hown, htg⟩ (s_SB_setLength l E ((aT, .inr (0, [.ref aY, .ref aS, .ref aB, .int xl, .int xg])) :: fr) _ aB ab xm xc nb fb hn hf hc) (⟨callB_of 1 htg (tp_good0 kc_SB_setLength) rfl rfl rfl (htg _ ki_SB) (htg _ kl_T_131) ⟨by decide, by decide, by decide +kernel⟩ ⟨Nat.le_of_ble_eq_true rfl, Nat.le_of_ble_eq_true rfl⟩, htg _ km_SB_setLength, htg _ kv_SB_SB_setLength⟩) (va_recv (ci := 6) (q0 := 0) hK.1 hP rfl rfl) hK hP hD hS hA rfl hl.1 rfl (Nat.le_of_ble_eq_true rfl) d_T_show_5 ⟨Nat.le_of_ble_eq_true rfl, Nat.le_of_ble_eq_true rfl⟩) hD hS hA (fun u H locs hw hP hD hS => ?_)
  obtain ⟨qs489, ns489, fs489, xs489⟩ := u
  obtain ⟨hn489, hf489⟩ : (ns489 = 16 ∨ ns489 = 34) ∧ tp_fit fs489 := hw
  have hP : va_P (tp_D E) tp_cl ((aB, .inr (6, [.ref qs489, .int 0, .int xs489, .int 0])) :: (qs489, .inl (tp_ty E 3, ns489, .inl fs489)) :: (aT, .inr (0, [.ref aY, .ref aS, .ref aB, .int xl, .int xg])) :: fr) H := hP
  have hD : va_D A ((aB, .inr (6, [.ref qs489, .int 0, .int xs489, .int 0])) :: (qs489, .inl (tp_ty E 3, ns489, .inl fs489)) :: (aT, .inr (0, [.ref aY, .ref aS, .ref aB, .int xl, .int xg])) :: fr) := hD
  refine lv_iload_n hx hb d_T_show_8 rfl (lv_at hl 1 rfl) ?_
  refine tp_cr (tp_rS (As := [.int xw]) (rest := []) ⟨hx, hb, hml, hown, htg⟩ (a_C_operationOf l E ((aB, .inr (6, [.ref qs489, .int 0, .int xs489, .int 0])) :: (qs489, .inl (tp_ty E 3, ns489, .inl fs489)) :: (aT, .inr (0, [.ref aY, .ref aS, .ref aB, .int xl, .int xg])) :: fr) _ xw ) (⟨callB_of 1 htg (tp_good0 kc_C_operationOf) rfl rfl rfl (htg _ ki_C) (htg _ kl_T_134) ⟨by decide, by decide, by decide +kernel⟩ ⟨Nat.le_of_ble_eq_true rfl, Nat.le_of_ble_eq_true rfl⟩, htg _ ks_C_operationOf⟩) hK hP hD hS hA rfl hl.1 rfl (Nat.le_of_ble_eq_true rfl) d_T_show_9 ⟨Nat.le_of_ble_eq_true rfl, Nat.le_of_ble_eq_true rfl⟩) hD hS hA (fun u H locs hw hP hD hS => ?_)
  have hhit : tp_hit xw u := hw
  generalize u = uo at hhit ⊢
  have huo : uo < 47 := tp_hit47 hhit
  have hP : va_P (tp_D E) tp_cl ((aB, .inr (6, [.ref qs489, .int 0, .int xs489, .int 0])) :: (qs489, .inl (tp_ty E 3, ns489, .inl fs489)) :: (aT, .inr (0, [.ref aY, .ref aS, .ref aB, .int xl, .int xg])) :: fr) H := hP
  have hD : va_D A ((aB, .inr (6, [.ref qs489, .int 0, .int xs489, .int 0])) :: (qs489, .inl (tp_ty E 3, ns489, .inl fs489)) :: (aT, .inr (0, [.ref aY, .ref aS, .ref aB, .int xl, .int xg])) :: fr) := hD
  refine lv_astore_n (lv' := [(2, .ref (tp_ad E uo)), (0, .ref aT), (1, .int xw)]) hx hb d_T_show_12 rfl hl (by decide) rfl (fun ls hl => ?_)
  refine lv_aload_n hx hb d_T_show_13 rfl (lv_at hl 0 rfl) ?_
  refine va_gets (v := .ref (tp_ad E 0)) hx hb (hK.opZ (i := 0) (by decide)) hS hown (htg _ kl_T_140) (fun _ h => h) d_T_show_14 ?_
  by_cases h1 : some (tp_ad E uo) = some (tp_ad E 0)
  · refine lv_acmp_ne (rx := some (tp_ad E uo)) (ry := some (tp_ad E 0)) (tgt := 28) hx hb d_T_show_17 (by decide) (fun h => absurd h1 h) (fun _ => ?_)
    have hP : va_P (tp_D E) tp_cl ((qs489, .inl (tp_ty E 3, ns489, .inl fs489)) :: (aB, .inr (6, [.ref qs489, .int 0, .int xs489, .int 0])) :: (aT, .inr (0, [.ref aY, .ref aS, .ref aB, .int xl, .int xg])) :: fr) _ := tp_mvP 1 rfl hP
    have hD : va_D A ((qs489, .inl (tp_ty E 3, ns489, .inl fs489)) :: (aB, .inr (6, [.ref qs489, .int 0, .int xs489, .int 0])) :: (aT, .inr (0, [.ref aY, .ref aS, .ref aB, .int xl, .int xg])) :: fr) := tp_mvD 1 rfl hD
    have hP : va_P (tp_D E) tp_cl ((aB, .inr (6, [.ref qs489, .int 0, .int xs489, .int 0])) :: (qs489, .inl (tp_ty E 3, ns489, .inl fs489)) :: (aT, .inr (0, [.ref aY, .ref aS, .ref aB, .int xl, .int xg])) :: fr) _ := tp_mvP 1 rfl hP
    have hD : va_D A ((aB, .inr (6, [.ref qs489, .int 0, .int xs489, .int 0])) :: (qs489, .inl (tp_ty E 3, ns489, .inl fs489)) :: (aT, .inr (0, [.ref aY, .ref aS, .ref aB, .int xl, .int xg])) :: fr) := tp_mvD 1 rfl hD
    have hP : va_P (tp_D E) tp_cl ((aT, .inr (0, [.ref aY, .ref aS, .ref aB, .int xl, .int xg])) :: (aB, .inr (6, [.ref qs489, .int 0, .int xs489, .int 0])) :: (qs489, .inl (tp_ty E 3, ns489, .inl fs489)) :: fr) _ := tp_mvP 2 rfl hP
    have hD : va_D A ((aT, .inr (0, [.ref aY, .ref aS, .ref aB, .int xl, .int xg])) :: (aB, .inr (6, [.ref qs489, .int 0, .int xs489, .int 0])) :: (qs489, .inl (tp_ty E 3, ns489, .inl fs489)) :: fr) := tp_mvD 2 rfl hD
    exact vx_throw0 (own := "TwoPass") (cls := "java/lang/IllegalArgumentException") (names := ["java/lang/RuntimeException", "java/lang/Exception"]) (ik := 38) (ic := 40) hx hb hfl hown (by decide +kernel) (by decide +kernel) (htg _ kl_T_38) (htg _ kx_IllegalArgumentException) (kxa_T_40 htg hK.2.2.2.1) kxg_T_40 hK.2.1 hK.2.2.1 hS (hl.1.trans hml.symm) d_T_show_20 d_T_show_23 d_T_show_24 d_T_show_27 (fun x h => (htab x h).elim) (Nat.le_of_ble_eq_true rfl) (Nat.le_of_ble_eq_true rfl) (Nat.le_of_ble_eq_true rfl) (Nat.le_of_ble_eq_true rfl) hlocks (fun t hvm hz hq => ⟨(qs489, ns489, fs489, xs489), ⟨tp_hit00 hhit (hK.opD huo (by decide) (Option.some.inj h1)), hn489, hf489⟩, ⟨rfl, va_P.kept hP (fun k q hk => hq _ (vx_lt hP hk)), hD⟩, ⟨Nat.le_trans hS.1 hz, fun q h1 h2 => (hq q (Nat.lt_of_lt_of_le h1 hS.1)).trans (hS.2.1 q h1 h2)⟩⟩) hS.2.2 (Nat.le_of_ble_eq_true rfl) (Nat.le_of_ble_eq_true rfl)
  · refine lv_acmp_ne (rx := some (tp_ad E uo)) (ry := some (tp_ad E 0)) (tgt := 28) hx hb d_T_show_17 (by decide) (fun _ => ?_) (fun h => absurd h h1)
    refine lv_aload_n hx hb d_T_show_28 rfl (lv_at hl 1 rfl) ?_
    refine va_get (D := tp_D E) (ci := 0) (v := .ref aB) (C := qR_T) (T := qF_T) (N := 5) hx hb htg qi_T hown hK.1 hP 2 rfl rfl 2 (by decide) (htg _ kl_T_26) (fun _ h => h) rfl d_T_show_29 ?_
    refine lv_aload_n hx hb d_T_show_32 rfl (lv_at hl 0 rfl) ?_
    refine vk_getf (v := .ref (tp_ad E (200 + uo))) hx hb (hK.txt (i := uo) huo) hS hown (htg _ kl_T_146) (fun _ h => h) d_T_show_33 ?_
    refine tp_cr (tp_rV (As := [.ref (tp_ad E (200 + uo))]) (rest := []) ⟨hx, hb, hml, hown, htg⟩ (x_SB_appS l E ((aT, .inr (0, [.ref aY, .ref aS, .ref aB, .int xl, .int xg])) :: fr) _ aB qs489 xs489 ns489 fs489 uo (Nat.lt_of_lt_of_le huo (by decide)) hn489 hf489) (⟨callB_of 1 htg (tp_good0 kc_SB_append_2) rfl rfl rfl (htg _ ki_SB) (htg _ kl_T_150) ⟨by decide, by decide, by decide +kernel⟩ ⟨Nat.le_of_ble_eq_true rfl, Nat.le_of_ble_eq_true rfl⟩, htg _ km_SB_append_2, htg _ kv_SB_SB_append_2⟩) (va_recv (ci := 6) (q0 := 0) hK.1 hP rfl rfl) hK hP hD hS hA rfl hl.1 rfl (Nat.le_of_ble_eq_true rfl) d_T_show_36 ⟨Nat.le_of_ble_eq_true rfl, Nat.le_of_ble_eq_true rfl⟩) hD hS hA (fun u H locs hw hP hD hS => ?_)
    obtain ⟨eq1, nq1, fq1, cq1⟩ := u
    obtain ⟨hnq1, hfq1, hcq1, hqq1, hiq1⟩ : (nq1 = 16 ∨ nq1 = 34) ∧ tp_fit fq1 ∧ cq1.toInt = ((tp_len.getD uo 0 : Nat) : Int) ∧ cq1.toInt ≤ (nq1 : Int) ∧ sf_is fq1 cq1 (tp_byt.getD uo []) := hw
    have hP : va_P (tp_D E) tp_cl ((aB, .inr (6, [.ref eq1, .int 0, .int xs489, .int cq1])) :: (eq1, .inl (tp_ty E 3, nq1, .inl fq1)) :: (aT, .inr (0, [.ref aY, .ref aS, .ref aB, .int xl, .int xg])) :: fr) H := hP
    have hD : va_D A ((aB, .inr (6, [.ref eq1, .int 0, .int xs489, .int cq1])) :: (eq1, .inl (tp_ty E 3, nq1, .inl fq1)) :: (aT, .inr (0, [.ref aY, .ref aS, .ref aB, .int xl, .int xg])) :: fr) := hD
    refine lv_pop hx hb d_T_show_39 rfl ?_
    refine lv_aload_n hx hb d_T_show_40 rfl (lv_at hl 1 rfl) ?_
    refine va_get (D := tp_D E) (ci := 0) (v := .ref aB) (C := qR_T) (T := qF_T) (N := 5) hx hb htg qi_T hown hK.1 hP 2 rfl rfl 2 (by decide) (htg _ kl_T_26) (fun _ h => h) rfl d_T_show_41 ?_
    refine lv_bipush (v := 32) hx hb d_T_show_44 (by decide) ?_
    refine tp_cr (tp_rV (As := [.int 32]) (rest := []) ⟨hx, hb, hml, hown, htg⟩ (x_SB_appC l E ((aT, .inr (0, [.ref aY, .ref aS, .ref aB, .int xl, .int xg])) :: fr) _ aB eq1 xs489 cq1 nq1 fq1 (tp_byt.getD uo []) 32 hnq1 hfq1 hqq1 hiq1 (tp_sh1 huo hcq1) (by decide)) (⟨callB_of 1 htg (tp_good0 kc_SB_append_0) rfl rfl rfl (htg _ ki_SB) (htg _ kl_T_154) ⟨by decide, by decide, by decide +kernel⟩ ⟨Nat.le_of_ble_eq_true rfl, Nat.le_of_ble_eq_true rfl⟩, htg _ km_SB_append_0, htg _ kv_SB_SB_append_0⟩) (va_recv (ci := 6) (q0 := 0) hK.1 hP rfl rfl) hK hP hD hS hA rfl hl.1 rfl (Nat.le_of_ble_eq_true rfl) d_T_show_46 ⟨Nat.le_of_ble_eq_true rfl, Nat.le_of_ble_eq_true rfl⟩) hD hS hA (fun u H locs hw hP hD hS => ?_)
    obtain ⟨eq2, nq2, fq2⟩ := u
    obtain ⟨hnq2, hfq2, hqq2, hiq2⟩ : (nq2 = 16 ∨ nq2 = 34) ∧ tp_fit fq2 ∧ (cq1 + 1).toInt ≤ (nq2 : Int) ∧ sf_is fq2 (cq1 + 1) ((tp_byt.getD uo []) ++ [sf_b 32]) := hw
    have hP : va_P (tp_D E) tp_cl ((aB, .inr (6, [.ref eq2, .int 0, .int xs489, .int (cq1 + 1)])) :: (eq2, .inl (tp_ty E 3, nq2, .inl fq2)) :: (aT, .inr (0, [.ref aY, .ref aS, .ref aB, .int xl, .int xg])) :: fr) H := hP
    have hD : va_D A ((aB, .inr (6, [.ref eq2, .int 0, .int xs489, .int (cq1 + 1)])) :: (eq2, .inl (tp_ty E 3, nq2, .inl fq2)) :: (aT, .inr (0, [.ref aY, .ref aS, .ref aB, .int xl, .int xg])) :: fr) := hD
    refine lv_pop hx hb d_T_show_49 rfl ?_
    refine lv_iconst (v := 0) hx hb d_T_show_50 (by decide) ?_
    refine lv_istore_n (lv' := [(3, .int 0), (2, .ref (tp_ad E uo)), (0, .ref aT), (1, .int xw)]) hx hb d_T_show_51 rfl hl (by decide) rfl (fun ls hl => ?_)
    refine tp_loopC (fun j ls H locs cells slots (a : Int32 × Nat × Nat × (Nat → Int32) × Int32) => tp_S5 (fun k qv nv fv cv => ((0 ≤ k.toInt) ∧ (k.toInt + (j : Int) = (tp_len.getD (47 + uo) 0 : Nat)) ∧ (nv = 16 ∨ nv = 34) ∧ (tp_fit fv) ∧ (cv.toInt = (tp_len.getD uo 0 : Nat) + 1 + (tp_os uo xw k.toInt.toNat : Nat)) ∧ (cv.toInt ≤ (nv : Int)) ∧ (sf_is fv cv (((tp_byt.getD uo []) ++ [sf_b 32]) ++ sf_opl uo xw k.toInt.toNat)) ∧ (cells = 3 + 2 * k.toInt.toNat ∧ slots = 102 + 68 * k.toInt.toNat)) ∧ lv_has ls 4 [(3, .int k), (2, .ref (tp_ad E uo)), (0, .ref aT), (1, .int xw)] ∧ va_P (tp_D E) tp_cl ((aB, .inr (6, [.ref qv, .int 0, .int xs489, .int cv])) :: (qv, .inl (tp_ty E 3, nv, .inl fv)) :: (aT, .inr (0, [.ref aY, .ref aS, .ref aB, .int xl, .int xg])) :: fr) H ∧ va_D A ((aB, .inr (6, [.ref qv, .int 0, .int xs489, .int cv])) :: (qv, .inl (tp_ty E 3, nv, .inl fv)) :: (aT, .inr (0, [.ref aY, .ref aS, .ref aB, .int xl, .int xg])) :: fr) ∧ va_S A s.heap H locs) a) ?_ (tp_len.getD (47 + uo) 0) (0, eq2, nq2, fq2, (cq1 + 1)) ⟨⟨show 0 ≤ (0 : Int32).toInt from by decide, show (0 : Int32).toInt + ((tp_len.getD (47 + uo) 0 : Nat) : Int) = ((tp_len.getD (47 + uo) 0 : Nat) : Int) from by rw [Int32.toInt_zero]; omega, hnq2, hfq2, tp_sh3 huo hcq1, hqq2, sf_op0 hiq2, show 3 = 3 + 2 * (0 : Int32).toInt.toNat ∧ 102 = 102 + 68 * (0 : Int32).toInt.toNat from by decide⟩, tp_lvI hl [0, 1, 2, 3] rfl, hP, hD, hS⟩
    intro j a ls H locs cells slots hI ih
    obtain ⟨k, qv, nv, fv, cv⟩ := a
    obtain ⟨⟨hk0, hkl, hnv, hfv, hcv, hqv, hiv, hcr⟩, hl, hP, hD, hS⟩ : ((0 ≤ k.toInt) ∧ (k.toInt + (j : Int) = (tp_len.getD (47 + uo) 0 : Nat)) ∧ (nv = 16 ∨ nv = 34) ∧ (tp_fit fv) ∧ (cv.toInt = (tp_len.getD uo 0 : Nat) + 1 + (tp_os uo xw k.toInt.toNat : Nat)) ∧ (cv.toInt ≤ (nv : Int)) ∧ (sf_is fv cv (((tp_byt.getD uo []) ++ [sf_b 32]) ++ sf_opl uo xw k.toInt.toNat)) ∧ (cells = 3 + 2 * k.toInt.toNat ∧ slots = 102 + 68 * k.toInt.toNat)) ∧ lv_has ls 4 [(3, .int k), (2, .ref (tp_ad E uo)), (0, .ref aT), (1, .int xw)] ∧ va_P (tp_D E) tp_cl ((aB, .inr (6, [.ref qv, .int 0, .int xs489, .int cv])) :: (qv, .inl (tp_ty E 3, nv, .inl fv)) :: (aT, .inr (0, [.ref aY, .ref aS, .ref aB, .int xl, .int xg])) :: fr) H ∧ va_D A ((aB, .inr (6, [.ref qv, .int 0, .int xs489, .int cv])) :: (qv, .inl (tp_ty E 3, nv, .inl fv)) :: (aT, .inr (0, [.ref aY, .ref aS, .ref aB, .int xl, .int xg])) :: fr) ∧ va_S A s.heap H locs := hI
    have hl7 := tp_len7 (i := 47 + uo) (by omega)
    refine lv_iload_n hx hb d_T_show_52 rfl (lv_at hl 0 rfl) ?_
    refine lv_aload_n hx hb d_T_show_53 rfl (lv_at hl 1 rfl) ?_
    refine vk_getf (v := .ref (tp_ad E (200 + (47 + uo)))) hx hb (hK.opr (i := uo) huo) hS hown (htg _ kl_T_157) (fun _ h => h) d_T_show_54 ?_
    refine tp_ci (tp_rV (As := []) (rest := [.int k]) ⟨hx, hb, hml, hown, htg⟩ (a_ST_length l E ((aB, .inr (6, [.ref qv, .int 0, .int xs489, .int cv])) :: (qv, .inl (tp_ty E 3, nv, .inl fv)) :: (aT, .inr (0, [.ref aY, .ref aS, .ref aB, .int xl, .int xg])) :: fr) _ (47 + uo) (Nat.lt_of_lt_of_le (Nat.add_lt_add_left huo 47) (by decide)) ) (⟨callB_of 0 htg (tp_good0 kc_ST_length) rfl rfl rfl (htg _ ki_ST) (htg _ kl_T_160) ⟨by decide, by decide, by decide +kernel⟩ ⟨Nat.le_of_ble_eq_true rfl, Nat.le_of_ble_eq_true rfl⟩, htg _ km_ST_length, htg _ kv_ST_ST_length⟩) (hK.strO (i := (47 + uo)) (Nat.lt_of_lt_of_le (Nat.add_lt_add_left huo 47) (by decide)) hS) hK hP hD hS hA rfl hl.1 rfl (Nat.le_of_ble_eq_true rfl) d_T_show_57 ⟨Nat.le_trans (m := 19) (by omega) (Nat.le_of_ble_eq_true rfl), Nat.le_trans (m := 646) (by omega) (Nat.le_of_ble_eq_true rfl)⟩) hD hS hA (fun r u H locs hw hP hD hS => ?_)
    subst r
    have hP : va_P (tp_D E) tp_cl ((aB, .inr (6, [.ref qv, .int 0, .int xs489, .int cv])) :: (qv, .inl (tp_ty E 3, nv, .inl fv)) :: (aT, .inr (0, [.ref aY, .ref aS, .ref aB, .int xl, .int xg])) :: fr) H := hP
    have hD : va_D A ((aB, .inr (6, [.ref qv, .int 0, .int xs489, .int cv])) :: (qv, .inl (tp_ty E 3, nv, .inl fv)) :: (aT, .inr (0, [.ref aY, .ref aS, .ref aB, .int xl, .int xg])) :: fr) := hD
    by_cases h2 : (Int32.ofNat (tp_len.getD (47 + uo) 0)) ≤ k
    · refine lv_icmp_ge (tgt := 83) hx hb d_T_show_60 (by decide) (fun _ => ?_) (fun h => absurd h2 h)
      refine lv_aload_n hx hb d_T_show_83 rfl (lv_at hl 2 rfl) ?_
      refine va_get (D := tp_D E) (ci := 0) (v := .ref aB) (C := qR_T) (T := qF_T) (N := 5) hx hb htg qi_T hown hK.1 hP 2 rfl rfl 2 (by decide) (htg _ kl_T_26) (fun _ h => h) rfl d_T_show_84 ?_
      refine tp_ci (tp_rV (As := []) (rest := []) ⟨hx, hb, hml, hown, htg⟩ (cs_SB_length_1 l E ((qv, .inl (tp_ty E 3, nv, .inl fv)) :: (aT, .inr (0, [.ref aY, .ref aS, .ref aB, .int xl, .int xg])) :: fr) _ aB qv 0 xs489 cv ) (⟨callB_of 0 htg (tp_good0 kc_SB_length) rfl rfl rfl (htg _ ki_SB) (htg _ kl_T_172) ⟨by decide, by decide, by decide +kernel⟩ ⟨Nat.le_of_ble_eq_true rfl, Nat.le_of_ble_eq_true rfl⟩, htg _ km_SB_length, htg _ kv_SB_SB_length⟩) (va_recv (ci := 6) (q0 := 0) hK.1 hP rfl rfl) hK hP hD hS hA rfl hl.1 rfl (Nat.le_of_ble_eq_true rfl) d_T_show_87 ⟨Nat.le_trans (m := 19) (by omega) (Nat.le_of_ble_eq_true rfl), Nat.le_trans (m := 646) (by omega) (Nat.le_of_ble_eq_true rfl)⟩) hD hS hA (fun r u H locs hw hP hD hS => ?_)
      subst r
      have hP : va_P (tp_D E) tp_cl ((aB, .inr (6, [.ref qv, .int 0, .int xs489, .int cv])) :: (qv, .inl (tp_ty E 3, nv, .inl fv)) :: (aT, .inr (0, [.ref aY, .ref aS, .ref aB, .int xl, .int xg])) :: fr) H := hP
      have hD : va_D A ((aB, .inr (6, [.ref qv, .int 0, .int xs489, .int cv])) :: (qv, .inl (tp_ty E 3, nv, .inl fv)) :: (aT, .inr (0, [.ref aY, .ref aS, .ref aB, .int xl, .int xg])) :: fr) := hD
      have hP : va_P (tp_D E) tp_cl ((qv, .inl (tp_ty E 3, nv, .inl fv)) :: (aB, .inr (6, [.ref qv, .int 0, .int xs489, .int cv])) :: (aT, .inr (0, [.ref aY, .ref aS, .ref aB, .int xl, .int xg])) :: fr) _ := tp_mvP 1 rfl hP
      have hD : va_D A ((qv, .inl (tp_ty E 3, nv, .inl fv)) :: (aB, .inr (6, [.ref qv, .int 0, .int xs489, .int cv])) :: (aT, .inr (0, [.ref aY, .ref aS, .ref aB, .int xl, .int xg])) :: fr) := tp_mvD 1 rfl hD
      have hP : va_P (tp_D E) tp_cl ((aB, .inr (6, [.ref qv, .int 0, .int xs489, .int cv])) :: (qv, .inl (tp_ty E 3, nv, .inl fv)) :: (aT, .inr (0, [.ref aY, .ref aS, .ref aB, .int xl, .int xg])) :: fr) _ := tp_mvP 1 rfl hP
      have hD : va_D A ((aB, .inr (6, [.ref qv, .int 0, .int xs489, .int cv])) :: (qv, .inl (tp_ty E 3, nv, .inl fv)) :: (aT, .inr (0, [.ref aY, .ref aS, .ref aB, .int xl, .int xg])) :: fr) := tp_mvD 1 rfl hD
      have hP : va_P (tp_D E) tp_cl ((aT, .inr (0, [.ref aY, .ref aS, .ref aB, .int xl, .int xg])) :: (aB, .inr (6, [.ref qv, .int 0, .int xs489, .int cv])) :: (qv, .inl (tp_ty E 3, nv, .inl fv)) :: fr) _ := tp_mvP 2 rfl hP
      have hD : va_D A ((aT, .inr (0, [.ref aY, .ref aS, .ref aB, .int xl, .int xg])) :: (aB, .inr (6, [.ref qv, .int 0, .int xs489, .int cv])) :: (qv, .inl (tp_ty E 3, nv, .inl fv)) :: fr) := tp_mvD 2 rfl hD
      have hlt := tp_sh5 hl7 hk0 hkl h2 hcv
      have hlx := sf_opE hl7 hk0 hkl h2 hiv
      exact tp_widen (k := 19) (n := 646) (by omega) (by omega) (vx_ret (W.iret (v := cv) hx hb hr (fun t ht hW => ⟨⟨_, (uo, qv, nv, fv, xs489, cv), rfl, ⟨⟨hhit, fun (e : uo = 0) => h1 (by rw [e]), hlt⟩, ⟨hnv, hfv, hqv⟩, sf_l34 huo hlt, rfl, hlx⟩, by rw [ht]; exact hP, hD⟩, hS.F ht⟩) hS.2.2 d_T_show_90))
    · refine lv_icmp_ge (tgt := 83) hx hb d_T_show_60 (by decide) (fun h => absurd h h2) (fun _ => ?_)
      refine lv_aload_n hx hb d_T_show_63 rfl (lv_at hl 2 rfl) ?_
      refine lv_aload_n hx hb d_T_show_64 rfl (lv_at hl 1 rfl) ?_
      refine lv_aload_n hx hb d_T_show_65 rfl (lv_at hl 1 rfl) ?_
      refine vk_getf (v := .ref (tp_ad E (200 + (47 + uo)))) hx hb (hK.opr (i := uo) huo) hS hown (htg _ kl_T_157) (fun _ h => h) d_T_show_66 ?_
      refine lv_iload_n hx hb d_T_show_69 rfl (lv_at hl 0 rfl) ?_
      refine tp_ci (tp_rV (As := [.int k]) (rest := [.ref (tp_ad E uo), .ref aT]) ⟨hx, hb, hml, hown, htg⟩ (a_ST_charAt l E ((aB, .inr (6, [.ref qv, .int 0, .int xs489, .int cv])) :: (qv, .inl (tp_ty E 3, nv, .inl fv)) :: (aT, .inr (0, [.ref aY, .ref aS, .ref aB, .int xl, .int xg])) :: fr) _ (47 + uo) (Nat.lt_of_lt_of_le (Nat.add_lt_add_left huo 47) (by decide)) k (tp_nn hk0) (Int32.not_le.mp h2)) (⟨callB_of 1 htg (tp_good0 kc_ST_charAt) rfl rfl rfl (htg _ ki_ST) (htg _ kl_T_164) ⟨by decide, by decide, by decide +kernel⟩ ⟨Nat.le_of_ble_eq_true rfl, Nat.le_of_ble_eq_true rfl⟩, htg _ km_ST_charAt, htg _ kv_ST_ST_charAt⟩) (hK.strO (i := (47 + uo)) (Nat.lt_of_lt_of_le (Nat.add_lt_add_left huo 47) (by decide)) hS) hK hP hD hS hA rfl hl.1 rfl (Nat.le_of_ble_eq_true rfl) d_T_show_70 ⟨Nat.le_trans (m := 19) (by omega) (Nat.le_of_ble_eq_true rfl), Nat.le_trans (m := 646) (by omega) (Nat.le_of_ble_eq_true rfl)⟩) hD hS hA (fun r u H locs hw hP hD hS => ?_)
      subst r
      have hP : va_P (tp_D E) tp_cl ((aB, .inr (6, [.ref qv, .int 0, .int xs489, .int cv])) :: (qv, .inl (tp_ty E 3, nv, .inl fv)) :: (aT, .inr (0, [.ref aY, .ref aS, .ref aB, .int xl, .int xg])) :: fr) H := hP
      have hD : va_D A ((aB, .inr (6, [.ref qv, .int 0, .int xs489, .int cv])) :: (qv, .inl (tp_ty E 3, nv, .inl fv)) :: (aT, .inr (0, [.ref aY, .ref aS, .ref aB, .int xl, .int xg])) :: fr) := hD
      refine lv_iload_n hx hb d_T_show_73 rfl (lv_at hl 3 rfl) ?_
      have hP : va_P (tp_D E) tp_cl ((qv, .inl (tp_ty E 3, nv, .inl fv)) :: (aB, .inr (6, [.ref qv, .int 0, .int xs489, .int cv])) :: (aT, .inr (0, [.ref aY, .ref aS, .ref aB, .int xl, .int xg])) :: fr) _ := tp_mvP 1 rfl hP
      have hD : va_D A ((qv, .inl (tp_ty E 3, nv, .inl fv)) :: (aB, .inr (6, [.ref qv, .int 0, .int xs489, .int cv])) :: (aT, .inr (0, [.ref aY, .ref aS, .ref aB, .int xl, .int xg])) :: fr) := tp_mvD 1 rfl hD
      have hP : va_P (tp_D E) tp_cl ((aB, .inr (6, [.ref qv, .int 0, .int xs489, .int cv])) :: (qv, .inl (tp_ty E 3, nv, .inl fv)) :: (aT, .inr (0, [.ref aY, .ref aS, .ref aB, .int xl, .int xg])) :: fr) _ := tp_mvP 1 rfl hP
      have hD : va_D A ((aB, .inr (6, [.ref qv, .int 0, .int xs489, .int cv])) :: (qv, .inl (tp_ty E 3, nv, .inl fv)) :: (aT, .inr (0, [.ref aY, .ref aS, .ref aB, .int xl, .int xg])) :: fr) := tp_mvD 1 rfl hD
      have hP : va_P (tp_D E) tp_cl ((aT, .inr (0, [.ref aY, .ref aS, .ref aB, .int xl, .int xg])) :: (aB, .inr (6, [.ref qv, .int 0, .int xs489, .int cv])) :: (qv, .inl (tp_ty E 3, nv, .inl fv)) :: fr) _ := tp_mvP 2 rfl hP
      have hD : va_D A ((aT, .inr (0, [.ref aY, .ref aS, .ref aB, .int xl, .int xg])) :: (aB, .inr (6, [.ref qv, .int 0, .int xs489, .int cv])) :: (qv, .inl (tp_ty E 3, nv, .inl fv)) :: fr) := tp_mvD 2 rfl hD
      refine tp_cv (tp_rV (As := [.ref (tp_ad E uo), .int ((tp_byt.getD (47 + uo) []).getD k.toNatClampNeg 0), .int xw]) (rest := []) ⟨hx, hb, hml, hown, htg⟩ (x_T_writeOperand l E fr _ aT aY aS xl xg aB qv xs489 cv nv fv (((tp_byt.getD uo []) ++ [sf_b 32]) ++ sf_opl uo xw k.toInt.toNat) uo huo ((tp_byt.getD (47 + uo) []).getD k.toNatClampNeg 0) xw hnv hfv hqv hiv (tp_sh4 huo hk0 (tp_klt hl7 h2) hcv) (tp_ch255 (i := 47 + uo) (by omega))) (⟨callB_of 3 htg (tp_good0 kc_T_writeOperand) rfl rfl rfl (htg _ ki_T) (htg _ kl_T_168) ⟨by decide, by decide, by decide +kernel⟩ ⟨Nat.le_of_ble_eq_true rfl, Nat.le_of_ble_eq_true rfl⟩, htg _ km_T_writeOperand, htg _ kp_T_writeOperand⟩) (va_recv (ci := 0) (q0 := 0) hK.1 hP rfl rfl) hK hP hD hS hA rfl hl.1 rfl (Nat.le_of_ble_eq_true rfl) d_T_show_74 ⟨Nat.le_trans (m := 19) (by omega) (Nat.le_of_ble_eq_true rfl), Nat.le_trans (m := 646) (by omega) (Nat.le_of_ble_eq_true rfl)⟩) hD hS hA (fun u H locs hw hP hD hS => ?_)
      obtain ⟨eq3, nq3, fq3, cq3⟩ := u
      obtain ⟨hnq3, hfq3, hcq3, hqq3, hiq3⟩ : (nq3 = 16 ∨ nq3 = 34) ∧ tp_fit fq3 ∧ cq3.toInt = cv.toInt + (tp_ol uo ((tp_byt.getD (47 + uo) []).getD k.toNatClampNeg 0) xw : Int) ∧ cq3.toInt ≤ (nq3 : Int) ∧ sf_is fq3 cq3 ((((tp_byt.getD uo []) ++ [sf_b 32]) ++ sf_opl uo xw k.toInt.toNat) ++ sf_ow uo ((tp_byt.getD (47 + uo) []).getD k.toNatClampNeg 0) xw) := hw
      have hP : va_P (tp_D E) tp_cl ((aT, .inr (0, [.ref aY, .ref aS, .ref aB, .int xl, .int xg])) :: (aB, .inr (6, [.ref eq3, .int 0, .int xs489, .int cq3])) :: (eq3, .inl (tp_ty E 3, nq3, .inl fq3)) :: fr) H := hP
      have hD : va_D A ((aT, .inr (0, [.ref aY, .ref aS, .ref aB, .int xl, .int xg])) :: (aB, .inr (6, [.ref eq3, .int 0, .int xs489, .int cq3])) :: (eq3, .inl (tp_ty E 3, nq3, .inl fq3)) :: fr) := hD
      refine lv_iinc (k := 0) (v := (k + 1)) (lv' := [(3, .int (k + 1)), (2, .ref (tp_ad E uo)), (0, .ref aT), (1, .int xw)]) hx hb d_T_show_77 hl rfl rfl (by decide) rfl (fun ls hl => ?_)
      refine lv_goto (tgt := 52) hx hb d_T_show_80 (by decide) ?_
      have hP : va_P (tp_D E) tp_cl ((aT, .inr (0, [.ref aY, .ref aS, .ref aB, .int xl, .int xg])) :: (aB, .inr (6, [.ref eq3, .int 0, .int xs489, .int cq3])) :: (eq3, .inl (tp_ty E 3, nq3, .inl fq3)) :: fr) _ := tp_mvP 0 rfl hP
      have hD : va_D A ((aT, .inr (0, [.ref aY, .ref aS, .ref aB, .int xl, .int xg])) :: (aB, .inr (6, [.ref eq3, .int 0, .int xs489, .int cq3])) :: (eq3, .inl (tp_ty E 3, nq3, .inl fq3)) :: fr) := tp_mvD 0 rfl hD
      have hP : va_P (tp_D E) tp_cl ((eq3, .inl (tp_ty E 3, nq3, .inl fq3)) :: (aT, .inr (0, [.ref aY, .ref aS, .ref aB, .int xl, .int xg])) :: (aB, .inr (6, [.ref eq3, .int 0, .int xs489, .int cq3])) :: fr) _ := tp_mvP 2 rfl hP
      have hD : va_D A ((eq3, .inl (tp_ty E 3, nq3, .inl fq3)) :: (aT, .inr (0, [.ref aY, .ref aS, .ref aB, .int xl, .int xg])) :: (aB, .inr (6, [.ref eq3, .int 0, .int xs489, .int cq3])) :: fr) := tp_mvD 2 rfl hD
      have hP : va_P (tp_D E) tp_cl ((aB, .inr (6, [.ref eq3, .int 0, .int xs489, .int cq3])) :: (eq3, .inl (tp_ty E 3, nq3, .inl fq3)) :: (aT, .inr (0, [.ref aY, .ref aS, .ref aB, .int xl, .int xg])) :: fr) _ := tp_mvP 2 rfl hP
      have hD : va_D A ((aB, .inr (6, [.ref eq3, .int 0, .int xs489, .int cq3])) :: (eq3, .inl (tp_ty E 3, nq3, .inl fq3)) :: (aT, .inr (0, [.ref aY, .ref aS, .ref aB, .int xl, .int xg])) :: fr) := tp_mvD 2 rfl hD
      have hlt := (tp_klt hl7 h2)
      have hk1 : (k + 1).toInt = k.toInt + 1 := tp_inc (by omega)
      have e2 : (k + 1).toInt.toNat = k.toInt.toNat + 1 := by omega
      have f5 : cq3.toInt = (tp_len.getD uo 0 : Nat) + 1 + (tp_os uo xw (k + 1).toInt.toNat : Nat) := by rw [e2, hcq3, hcv, tp_os_succ hk0]; omega
      have f7 := sf_opS e2 hiq3
      have f1 : 0 ≤ (k + 1).toInt := by omega
      have f2 : (k + 1).toInt + ((j - 1 : Nat) : Int) = ((tp_len.getD (47 + uo) 0 : Nat) : Int) := by omega
      have f6 : cells + 0 + 0 + 2 = 3 + 2 * (k + 1).toInt.toNat ∧ slots + 0 + 0 + 68 = 102 + 68 * (k + 1).toInt.toNat := by omega
      exact ih (j - 1) (k + 1, eq3, nq3, fq3, cq3) ls _ _ _ _ (by omega) ⟨⟨f1, f2, hnq3, hfq3, f5, hqq3, f7, f6⟩, tp_lvI hl [0, 1, 2, 3] rfl, hP, hD, hS⟩
set_option maxHeartbeats 4000000 in
set_option maxRecDepth 100000 in
theorem x_AS_charAt (l : Launch) (E : tp_Env) (fr : va_W) (sz : Nat) (aB ab : Nat) (xm xc xk : Int32) (nb : Nat) (fb : Nat → Int32) (hn : nb = 16 ∨ nb = 34) (hq : xc.toInt ≤ (nb : Int)) (h1 : ¬ xk < 0) (h2 : xk < xc) : Met l y_AS_charAt w_AS_charAt ({ frames := 2, cells := 0, slots := 0, locals := 43 }) (va_Pc [.ref aB, .int xk] (tp_in E ((aB, .inr (6, [.ref ab, .int 0, .int xm, .int xc])) :: (ab, .inl (tp_ty E 3, nb, .inl fb)) :: fr) sz)) (va_Qi (fun r (_ : Unit) => narrow .char (.int r) = .int r ∧ r = sf_c (fb xk.toNatClampNeg)) (fun _ t => tp_out E (va_A ((aB, .inr (6, [.ref ab, .int 0, .int xm, .int xc])) :: (ab, .inl (tp_ty E 3, nb, .inl fb)) :: fr) sz) ((aB, .inr (6, [.ref ab, .int 0, .int xm, .int xc])) :: (ab, .inl (tp_ty E 3, nb, .inl fb)) :: fr) t) (va_A ((aB, .inr (6, [.ref ab, .int 0, .int xm, .int xc])) :: (ab, .inl (tp_ty E 3, nb, .inl fb)) :: fr) sz)) 0 0 (va_A ((aB, .inr (6, [.ref ab, .int 0, .int xm, .int xc])) :: (ab, .inl (tp_ty E 3, nb, .inl fb)) :: fr) sz) := by
  refine Met.ofW (cc := b_AS_charAt) (maxL := 5) (ret := (some .char)) (by decide) rfl ?_
  intro p e s m args below meth c s₁ B hml hv
  obtain ⟨rfl, hsz, hP, hK, hD0⟩ := hv
  have hx := B.exec
  have hb := B.bytes
  have hr := B.returns
  have htg : ∀ w ∈ tp_G, w.before ([.ref aB, .int xk] : List Value).toArray s = true := fun w h => atoms_spec (ws := w_AS_charAt) B.pre w (List.mem_cons_of_mem _ h)
  have hown : s.vm.findClass "java/lang/AbstractStringBuilder" = some m.cls := findClass_of_methodNamed B.named
  have hlocks := B.notSynchronized
  subst hsz
  have hD := hD0.self (sz := s.heap.size)
  generalize hAe : va_A ((aB, .inr (6, [.ref ab, .int 0, .int xm, .int xc])) :: (ab, .inl (tp_ty E 3, nb, .inl fb)) :: fr) s.heap.size = A at hD hK ⊢
  have hA : ∀ q : Nat, s.heap.size ≤ q → A q := fun q h => by rw [← hAe]; exact Or.inr h
  have hS : va_S A s.heap s.heap [] := va_S.rf
  have hl := lv_entry ([.ref aB, .int xk]) (n := 5) (Nat.le_of_ble_eq_true rfl)
  rw [lg_entry_eq]
  generalize (lg_sl ([.ref aB, .int xk]) ++ List.replicate (5 - (lg_sl ([.ref aB, .int xk])).length) Slot.unset).toArray = ls at hl ⊢
  have hl : lv_has ls 5 [(0, .ref aB), (1, .int xk)] := hl
  rcases hn with rfl | rfl
  · refine lv_aload_n hx hb d_AS_charAt_0 rfl (lv_at hl 0 rfl) ?_
    refine va_get (D := tp_D E) (ci := 6) (v := .int 0) (C := qR_SB) (T := qF_SB) (N := 4) hx hb htg qi_SB hown hK.1 hP 0 rfl rfl 1 (by decide) (htg _ kl_AS_22) (fun _ h => h) rfl d_AS_charAt_1 ?_
    refine lv_istore_n (lv' := [(2, .int 0), (0, .ref aB), (1, .int xk)]) hx hb d_AS_charAt_4 rfl hl (by decide) rfl (fun ls hl => ?_)
    refine lv_aload_n hx hb d_AS_charAt_5 rfl (lv_at hl 1 rfl) ?_
    refine va_get (D := tp_D E) (ci := 6) (v := .ref ab) (C := qR_SB) (T := qF_SB) (N := 4) hx hb htg qi_SB hown hK.1 hP 0 rfl rfl 0 (by decide) (htg _ kl_AS_15) (fun _ h => h) rfl d_AS_charAt_6 ?_
    refine lv_astore_n (lv' := [(3, .ref ab), (2, .int 0), (0, .ref aB), (1, .int xk)]) hx hb d_AS_charAt_9 rfl hl (by decide) rfl (fun ls hl => ?_)
    refine lv_aload_n hx hb d_AS_charAt_10 rfl (lv_at hl 2 rfl) ?_
    refine va_get (D := tp_D E) (ci := 6) (v := .int xc) (C := qR_SB) (T := qF_SB) (N := 4) hx hb htg qi_SB hown hK.1 hP 0 rfl rfl 3 (by decide) (htg _ kl_AS_79) (fun _ h => h) rfl d_AS_charAt_11 ?_
    refine lv_aload_n hx hb d_AS_charAt_14 rfl (lv_at hl 0 rfl) ?_
    refine va_alen (D := tp_D E) (v := 16) hx hb hK.1 hP 1 3 rfl rfl rfl d_AS_charAt_15 ?_
    refine lv_iload_n hx hb d_AS_charAt_16 rfl (lv_at hl 1 rfl) ?_
    refine lv_ishr hx hb d_AS_charAt_17 ?_
    refine tp_topi (v := 16) (by decide) ?_
    refine va_mmin hx hb (by rw [hml]; exact hl.1.symm) hown (htg _ kl_AS_138) (htg _ ks_MA_min) (htg _ ki_MA) (htg _ kc_MA_min) (Nat.le_of_ble_eq_true rfl) (Nat.le_of_ble_eq_true rfl) (Nat.le_of_ble_eq_true rfl) (Nat.le_of_ble_eq_true rfl) d_AS_charAt_18 ?_
    refine tp_topi (v := xc) (if_neg (sf_ncap16 hq)) ?_
    refine lv_istore (lv' := [(4, .int xc), (3, .ref ab), (2, .int 0), (0, .ref aB), (1, .int xk)]) hx hb d_AS_charAt_21 hl (by decide) rfl (fun ls hl => ?_)
    refine lv_iload_n hx hb d_AS_charAt_23 rfl (lv_at hl 4 rfl) ?_
    refine lv_iload hx hb d_AS_charAt_24 (lv_at hl 0 rfl) ?_
    refine tp_cv (tp_rS (As := [.int xk, .int xc]) (rest := []) ⟨hx, hb, hml, hown, htg⟩ (a_ST_checkIndex l E ((aB, .inr (6, [.ref ab, .int 0, .int xm, .int xc])) :: (ab, .inl (tp_ty E 3, 16, .inl fb)) :: fr) _ xk xc h1 h2) (⟨callB_of 2 htg (tp_good0 kc_ST_checkIndex) rfl rfl rfl (htg _ ki_ST) (htg _ kl_AS_144) ⟨by decide, by decide, by decide +kernel⟩ ⟨Nat.le_of_ble_eq_true rfl, Nat.le_of_ble_eq_true rfl⟩, htg _ ks_ST_checkIndex⟩) hK hP hD hS hA rfl hl.1 rfl (Nat.le_of_ble_eq_true rfl) d_AS_charAt_26 ⟨Nat.le_of_ble_eq_true rfl, Nat.le_of_ble_eq_true rfl⟩) hD hS hA (fun u H locs hw hP hD hS => ?_)
    have hP : va_P (tp_D E) tp_cl ((aB, .inr (6, [.ref ab, .int 0, .int xm, .int xc])) :: (ab, .inl (tp_ty E 3, 16, .inl fb)) :: fr) H := hP
    have hD : va_D A ((aB, .inr (6, [.ref ab, .int 0, .int xm, .int xc])) :: (ab, .inl (tp_ty E 3, 16, .inl fb)) :: fr) := hD
    refine lv_iload_n hx hb d_AS_charAt_29 rfl (lv_at hl 2 rfl) ?_
    refine lv_if_ne (tgt := 42) hx hb d_AS_charAt_30 (by decide) (fun h => absurd (by decide) h) (fun _ => ?_)
    refine lv_aload_n hx hb d_AS_charAt_33 rfl (lv_at hl 1 rfl) ?_
    refine lv_iload_n hx hb d_AS_charAt_34 rfl (lv_at hl 4 rfl) ?_
    refine va_bald (D := tp_D E) hx hb hK.1 hP 1 3 rfl rfl (sf_kcap2 h1 h2 hq) d_AS_charAt_35 ?_
    refine lv_sipush (v := 255) hx hb d_AS_charAt_36 (by decide) ?_
    refine lv_iand hx hb d_AS_charAt_39 ?_
    refine lv_i2c (v := (((fb xk.toNatClampNeg) &&& 255).toUInt32 % 65536).toInt32) hx hb d_AS_charAt_40 rfl ?_
    exact W.zret (v := (((fb xk.toNatClampNeg) &&& 255).toUInt32 % 65536).toInt32) hx hb hr (sf_ch8) (fun t ht hW => ⟨⟨_, (), rfl, ⟨sf_ch8, rfl⟩, by rw [ht]; exact hP, hD⟩, hS.F ht⟩) hS.2.2 d_AS_charAt_41
  · refine lv_aload_n hx hb d_AS_charAt_0 rfl (lv_at hl 0 rfl) ?_
    refine va_get (D := tp_D E) (ci := 6) (v := .int 0) (C := qR_SB) (T := qF_SB) (N := 4) hx hb htg qi_SB hown hK.1 hP 0 rfl rfl 1 (by decide) (htg _ kl_AS_22) (fun _ h => h) rfl d_AS_charAt_1 ?_
    refine lv_istore_n (lv' := [(2, .int 0), (0, .ref aB), (1, .int xk)]) hx hb d_AS_charAt_4 rfl hl (by decide) rfl (fun ls hl => ?_)
    refine lv_aload_n hx hb d_AS_charAt_5 rfl (lv_at hl 1 rfl) ?_
    refine va_get (D := tp_D E) (ci := 6) (v := .ref ab) (C := qR_SB) (T := qF_SB) (N := 4) hx hb htg qi_SB hown hK.1 hP 0 rfl rfl 0 (by decide) (htg _ kl_AS_15) (fun _ h => h) rfl d_AS_charAt_6 ?_
    refine lv_astore_n (lv' := [(3, .ref ab), (2, .int 0), (0, .ref aB), (1, .int xk)]) hx hb d_AS_charAt_9 rfl hl (by decide) rfl (fun ls hl => ?_)
    refine lv_aload_n hx hb d_AS_charAt_10 rfl (lv_at hl 2 rfl) ?_
    refine va_get (D := tp_D E) (ci := 6) (v := .int xc) (C := qR_SB) (T := qF_SB) (N := 4) hx hb htg qi_SB hown hK.1 hP 0 rfl rfl 3 (by decide) (htg _ kl_AS_79) (fun _ h => h) rfl d_AS_charAt_11 ?_
    refine lv_aload_n hx hb d_AS_charAt_14 rfl (lv_at hl 0 rfl) ?_
    refine va_alen (D := tp_D E) (v := 34) hx hb hK.1 hP 1 3 rfl rfl rfl d_AS_charAt_15 ?_
    refine lv_iload_n hx hb d_AS_charAt_16 rfl (lv_at hl 1 rfl) ?_
    refine lv_ishr hx hb d_AS_charAt_17 ?_
    refine tp_topi (v := 34) (by decide) ?_
    refine va_mmin hx hb (by rw [hml]; exact hl.1.symm) hown (htg _ kl_AS_138) (htg _ ks_MA_min) (htg _ ki_MA) (htg _ kc_MA_min) (Nat.le_of_ble_eq_true rfl) (Nat.le_of_ble_eq_true rfl) (Nat.le_of_ble_eq_true rfl) (Nat.le_of_ble_eq_true rfl) d_AS_charAt_18 ?_
    refine tp_topi (v := xc) (if_neg (sf_ncap34 hq)) ?_
    refine lv_istore (lv' := [(4, .int xc), (3, .ref ab), (2, .int 0), (0, .ref aB), (1, .int xk)]) hx hb d_AS_charAt_21 hl (by decide) rfl (fun ls hl => ?_)
    refine lv_iload_n hx hb d_AS_charAt_23 rfl (lv_at hl 4 rfl) ?_
    refine lv_iload hx hb d_AS_charAt_24 (lv_at hl 0 rfl) ?_
    refine tp_cv (tp_rS (As := [.int xk, .int xc]) (rest := []) ⟨hx, hb, hml, hown, htg⟩ (a_ST_checkIndex l E ((aB, .inr (6, [.ref ab, .int 0, .int xm, .int xc])) :: (ab, .inl (tp_ty E 3, 34, .inl fb)) :: fr) _ xk xc h1 h2) (⟨callB_of 2 htg (tp_good0 kc_ST_checkIndex) rfl rfl rfl (htg _ ki_ST) (htg _ kl_AS_144) ⟨by decide, by decide, by decide +kernel⟩ ⟨Nat.le_of_ble_eq_true rfl, Nat.le_of_ble_eq_true rfl⟩, htg _ ks_ST_checkIndex⟩) hK hP hD hS hA rfl hl.1 rfl (Nat.le_of_ble_eq_true rfl) d_AS_charAt_26 ⟨Nat.le_of_ble_eq_true rfl, Nat.le_of_ble_eq_true rfl⟩) hD hS hA (fun u H locs hw hP hD hS => ?_)
    have hP : va_P (tp_D E) tp_cl ((aB, .inr (6, [.ref ab, .int 0, .int xm, .int xc])) :: (ab, .inl (tp_ty E 3, 34, .inl fb)) :: fr) H := hP
    have hD : va_D A ((aB, .inr (6, [.ref ab, .int 0, .int xm, .int xc])) :: (ab, .inl (tp_ty E 3, 34, .inl fb)) :: fr) := hD
    refine lv_iload_n hx hb d_AS_charAt_29 rfl (lv_at hl 2 rfl) ?_
    refine lv_if_ne (tgt := 42) hx hb d_AS_charAt_30 (by decide) (fun h => absurd (by decide) h) (fun _ => ?_)
    refine lv_aload_n hx hb d_AS_charAt_33 rfl (lv_at hl 1 rfl) ?_
    refine lv_iload_n hx hb d_AS_charAt_34 rfl (lv_at hl 4 rfl) ?_
    refine va_bald (D := tp_D E) hx hb hK.1 hP 1 3 rfl rfl (sf_kcap2 h1 h2 hq) d_AS_charAt_35 ?_
    refine lv_sipush (v := 255) hx hb d_AS_charAt_36 (by decide) ?_
    refine lv_iand hx hb d_AS_charAt_39 ?_
    refine lv_i2c (v := (((fb xk.toNatClampNeg) &&& 255).toUInt32 % 65536).toInt32) hx hb d_AS_charAt_40 rfl ?_
    exact W.zret (v := (((fb xk.toNatClampNeg) &&& 255).toUInt32 % 65536).toInt32) hx hb hr (sf_ch8) (fun t ht hW => ⟨⟨_, (), rfl, ⟨sf_ch8, rfl⟩, by rw [ht]; exact hP, hD⟩, hS.F ht⟩) hS.2.2 d_AS_charAt_41
set_option maxHeartbeats 4000000 in
set_option maxRecDepth 100000 in
theorem x_SB_charAt (l : Launch) (E : tp_Env) (fr : va_W) (sz : Nat) (aB ab : Nat) (xm xc xk : Int32) (nb : Nat) (fb : Nat → Int32) (hn : nb = 16 ∨ nb = 34) (hq : xc.toInt ≤ (nb : Int)) (h1 : ¬ xk < 0) (h2 : xk < xc) : Met l y_SB_charAt w_SB_charAt ({ frames := 3, cells := 0, slots := 0, locals := 67 }) (va_Pc [.ref aB, .int xk] (tp_in E ((aB, .inr (6, [.ref ab, .int 0, .int xm, .int xc])) :: (ab, .inl (tp_ty E 3, nb, .inl fb)) :: fr) sz)) (va_Qi (fun r (_ : Unit) => narrow .char (.int r) = .int r ∧ r = sf_c (fb xk.toNatClampNeg)) (fun _ t => tp_out E (va_A ((aB, .inr (6, [.ref ab, .int 0, .int xm, .int xc])) :: (ab, .inl (tp_ty E 3, nb, .inl fb)) :: fr) sz) ((aB, .inr (6, [.ref ab, .int 0, .int xm, .int xc])) :: (ab, .inl (tp_ty E 3, nb, .inl fb)) :: fr) t) (va_A ((aB, .inr (6, [.ref ab, .int 0, .int xm, .int xc])) :: (ab, .inl (tp_ty E 3, nb, .inl fb)) :: fr) sz)) 0 0 (va_A ((aB, .inr (6, [.ref ab, .int 0, .int xm, .int xc])) :: (ab, .inl (tp_ty E 3, nb, .inl fb)) :: fr) sz) := by
  refine Met.ofW (cc := b_SB_charAt) (maxL := 2) (ret := (some .char)) (by decide) rfl ?_
  intro p e s m args below meth c s₁ B hml hv
  obtain ⟨rfl, hsz, hP, hK, hD0⟩ := hv
  have hx := B.exec
  have hb := B.bytes
  have hr := B.returns
  have htg : ∀ w ∈ tp_G, w.before ([.ref aB, .int xk] : List Value).toArray s = true := fun w h => atoms_spec (ws := w_SB_charAt) B.pre w (List.mem_cons_of_mem _ h)
  have hown : s.vm.findClass "java/lang/StringBuilder" = some m.cls := findClass_of_methodNamed B.named
  have hlocks := B.notSynchronized
  subst hsz
  have hD := hD0.self (sz := s.heap.size)
  generalize hAe : va_A ((aB, .inr (6, [.ref ab, .int 0, .int xm, .int xc])) :: (ab, .inl (tp_ty E 3, nb, .inl fb)) :: fr) s.heap.size = A at hD hK ⊢
  have hA : ∀ q : Nat, s.heap.size ≤ q → A q := fun q h => by rw [← hAe]; exact Or.inr h
  have hS : va_S A s.heap s.heap [] := va_S.rf
  have hl := lv_entry ([.ref aB, .int xk]) (n := 2) (Nat.le_of_ble_eq_true rfl)
  rw [lg_entry_eq]
  generalize (lg_sl ([.ref aB, .int xk]) ++ List.replicate (2 - (lg_sl ([.ref aB, .int xk])).length) Slot.unset).toArray = ls at hl ⊢
  have hl : lv_has ls 2 [(0, .ref aB), (1, .int xk)] := hl
  refine lv_aload_n hx hb d_SB_charAt_0 rfl (lv_at hl 0 rfl) ?_
  refine lv_iload_n hx hb d_SB_charAt_1 rfl (lv_at hl 1 rfl) ?_
  refine tp_ci (tp_rU (As := [.int xk]) (rest := []) ⟨hx, hb, hml, hown, htg⟩ (x_AS_charAt l E fr _ aB ab xm xc xk nb fb hn hq h1 h2) (tp_cwU 1 htg kc_AS_charAt (htg _ kl_SB_329) (htg _ kq_AS_charAt) (htg _ kz_SB) (htg _ km_AS_charAt) (htg _ ki_AS) ⟨by decide, by decide +kernel⟩ ⟨Nat.le_of_ble_eq_true rfl, Nat.le_of_ble_eq_true rfl⟩) (va_recv (ci := 6) (q0 := 0) hK.1 hP rfl rfl) (hK.1.1 6 _ rfl).2 hK hP hD hS hA rfl hl.1 rfl (Nat.le_of_ble_eq_true rfl) d_SB_charAt_2 ⟨Nat.le_of_ble_eq_true rfl, Nat.le_of_ble_eq_true rfl⟩) hD hS hA (fun cr490 u H locs hw hP hD hS => ?_)
  obtain ⟨hcr, hcx⟩ : narrow .char (.int cr490) = .int cr490 ∧ cr490 = sf_c (fb xk.toNatClampNeg) := hw
  have hP : va_P (tp_D E) tp_cl ((aB, .inr (6, [.ref ab, .int 0, .int xm, .int xc])) :: (ab, .inl (tp_ty E 3, nb, .inl fb)) :: fr) H := hP
  have hD : va_D A ((aB, .inr (6, [.ref ab, .int 0, .int xm, .int xc])) :: (ab, .inl (tp_ty E 3, nb, .inl fb)) :: fr) := hD
  exact W.zret (v := cr490) hx hb hr hcr (fun t ht hW => ⟨⟨_, (), rfl, ⟨hcr, hcx⟩, by rw [ht]; exact hP, hD⟩, hS.F ht⟩) hS.2.2 d_SB_charAt_5
set_option maxHeartbeats 4000000 in
set_option maxRecDepth 100000 in
theorem x_T_letter (l : Launch) (hfl : l.stackTraces = false) (E : tp_Env) (fr : va_W) (sz : Nat) (aT aY aS : Nat) (xl xg : Int32) (aB ab : Nat) (xm xc : Int32) (nb : Nat) (fb : Nat → Int32) (xk : Int32) (hn : nb = 16 ∨ nb = 34) (hq : xc.toInt ≤ (nb : Int)) : vx_Met l y_T_letter w_T_letter ({ frames := 6, cells := 1, slots := 6, locals := 89 }) (va_Pc [.ref aT, .int xk] (tp_in E ((aT, .inr (0, [.ref aY, .ref aS, .ref aB, .int xl, .int xg])) :: (aB, .inr (6, [.ref ab, .int 0, .int xm, .int xc])) :: (ab, .inl (tp_ty E 3, nb, .inl fb)) :: fr) sz)) (va_Qi (fun r (_ : Unit) => ¬ xk < 0 ∧ xk < xc ∧ r = sf_c (fb xk.toNatClampNeg)) (fun _ t => tp_out E (va_A ((aT, .inr (0, [.ref aY, .ref aS, .ref aB, .int xl, .int xg])) :: (aB, .inr (6, [.ref ab, .int 0, .int xm, .int xc])) :: (ab, .inl (tp_ty E 3, nb, .inl fb)) :: fr) sz) ((aT, .inr (0, [.ref aY, .ref aS, .ref aB, .int xl, .int xg])) :: (aB, .inr (6, [.ref ab, .int 0, .int xm, .int xc])) :: (ab, .inl (tp_ty E 3, nb, .inl fb)) :: fr) t) (va_A ((aT, .inr (0, [.ref aY, .ref aS, .ref aB, .int xl, .int xg])) :: (aB, .inr (6, [.ref ab, .int 0, .int xm, .int xc])) :: (ab, .inl (tp_ty E 3, nb, .inl fb)) :: fr) sz)) (vx_X (fun (_ : Unit) => xk < 0 ∨ ¬ xk < xc) (fun x _ t => x = "java/lang/IndexOutOfBoundsException" ∧ tp_out E (va_A ((aT, .inr (0, [.ref aY, .ref aS, .ref aB, .int xl, .int xg])) :: (aB, .inr (6, [.ref ab, .int 0, .int xm, .int xc])) :: (ab, .inl (tp_ty E 3, nb, .inl fb)) :: fr) sz) ((aT, .inr (0, [.ref aY, .ref aS, .ref aB, .int xl, .int xg])) :: (aB, .inr (6, [.ref ab, .int 0, .int xm, .int xc])) :: (ab, .inl (tp_ty E 3, nb, .inl fb)) :: fr) t) (va_A ((aT, .inr (0, [.ref aY, .ref aS, .ref aB, .int xl, .int xg])) :: (aB, .inr (6, [.ref ab, .int 0, .int xm, .int xc])) :: (ab, .inl (tp_ty E 3, nb, .inl fb)) :: fr) sz)) 1 6 (va_A ((aT, .inr (0, [.ref aY, .ref aS, .ref aB, .int xl, .int xg])) :: (aB, .inr (6, [.ref ab, .int 0, .int xm, .int xc])) :: (ab, .inl (tp_ty E 3, nb, .inl fb)) :: fr) sz) := by
  refine vx_ofW (cc := b_T_letter) (maxL := 2) (ret := (some .int)) (by decide) rfl ?_
  intro p e s m args below meth c s₁ B hml htab hv
  obtain ⟨rfl, hsz, hP, hK, hD0⟩ := hv
  have hx := B.exec
  have hb := B.bytes
  have hr := B.returns
  have htg : ∀ w ∈ tp_G, w.before ([.ref aT, .int xk] : List Value).toArray s = true := fun w h => atoms_spec (ws := w_T_letter) B.pre w (List.mem_cons_of_mem _ h)
  have hown : s.vm.findClass "TwoPass" = some m.cls := findClass_of_methodNamed B.named
  have hlocks := B.notSynchronized
  subst hsz
  have hD := hD0.self (sz := s.heap.size)
  generalize hAe : va_A ((aT, .inr (0, [.ref aY, .ref aS, .ref aB, .int xl, .int xg])) :: (aB, .inr (6, [.ref ab, .int 0, .int xm, .int xc])) :: (ab, .inl (tp_ty E 3, nb, .inl fb)) :: fr) s.heap.size = A at hD hK ⊢
  have hA : ∀ q : Nat, s.heap.size ≤ q → A q := fun q h => by rw [← hAe]; exact Or.inr h
  have hS : va_S A s.heap s.heap [] := va_S.rf
  have hl := lv_entry ([.ref aT, .int xk]) (n := 2) (Nat.le_of_ble_eq_true rfl)
  rw [lg_entry_eq]
  generalize (lg_sl ([.ref aT, .int xk]) ++ List.replicate (2 - (lg_sl ([.ref aT, .int xk])).length) Slot.unset).toArray = ls at hl ⊢
  have hl : lv_has ls 2 [(0, .ref aT), (1, .int xk)] := hl
  refine lv_iload_n hx hb d_T_letter_0 rfl (lv_at hl 1 rfl) ?_
  by_cases h1 : xk < 0
  · refine lv_if_lt (tgt := 15) hx hb d_T_letter_1 (by decide) (fun _ => ?_) (fun h => absurd h1 h)
    exact vx_throw0 (own := "TwoPass") (cls := "java/lang/IndexOutOfBoundsException") (names := ["java/lang/RuntimeException", "java/lang/Exception"]) (ik := 115) (ic := 117) hx hb hfl hown (by decide +kernel) (by decide +kernel) (htg _ kl_T_115) (htg _ kx_IndexOutOfBoundsException) (kxa_T_117 htg hK.2.2.2.1) kxg_T_117 hK.2.1 hK.2.2.1 hS (hl.1.trans hml.symm) d_T_letter_15 d_T_letter_18 d_T_letter_19 d_T_letter_22 (fun x h => (htab x h).elim) (Nat.le_of_ble_eq_true rfl) (Nat.le_of_ble_eq_true rfl) (Nat.le_of_ble_eq_true rfl) (Nat.le_of_ble_eq_true rfl) hlocks (fun t hvm hz hq => ⟨(), Or.inl h1, ⟨rfl, va_P.kept hP (fun k q hk => hq _ (vx_lt hP hk)), hD⟩, ⟨Nat.le_trans hS.1 hz, fun q h1 h2 => (hq q (Nat.lt_of_lt_of_le h1 hS.1)).trans (hS.2.1 q h1 h2)⟩⟩) hS.2.2 (Nat.le_of_ble_eq_true rfl) (Nat.le_of_ble_eq_true rfl)
  · refine lv_if_lt (tgt := 15) hx hb d_T_letter_1 (by decide) (fun h => absurd h h1) (fun _ => ?_)
    refine lv_iload_n hx hb d_T_letter_4 rfl (lv_at hl 1 rfl) ?_
    refine lv_aload_n hx hb d_T_letter_5 rfl (lv_at hl 0 rfl) ?_
    refine va_get (D := tp_D E) (ci := 0) (v := .ref aB) (C := qR_T) (T := qF_T) (N := 5) hx hb htg qi_T hown hK.1 hP 0 rfl rfl 2 (by decide) (htg _ kl_T_26) (fun _ h => h) rfl d_T_letter_6 ?_
    have hP : va_P (tp_D E) tp_cl ((aB, .inr (6, [.ref ab, .int 0, .int xm, .int xc])) :: (aT, .inr (0, [.ref aY, .ref aS, .ref aB, .int xl, .int xg])) :: (ab, .inl (tp_ty E 3, nb, .inl fb)) :: fr) _ := tp_mvP 1 rfl hP
    have hD : va_D A ((aB, .inr (6, [.ref ab, .int 0, .int xm, .int xc])) :: (aT, .inr (0, [.ref aY, .ref aS, .ref aB, .int xl, .int xg])) :: (ab, .inl (tp_ty E 3, nb, .inl fb)) :: fr) := tp_mvD 1 rfl hD
    refine tp_ci (tp_rV (As := []) (rest := [.int xk]) ⟨hx, hb, hml, hown, htg⟩ (cs_SB_length_1 l E ((aT, .inr (0, [.ref aY, .ref aS, .ref aB, .int xl, .int xg])) :: (ab, .inl (tp_ty E 3, nb, .inl fb)) :: fr) _ aB ab 0 xm xc ) (⟨callB_of 0 htg (tp_good0 kc_SB_length) rfl rfl rfl (htg _ ki_SB) (htg _ kl_T_172) ⟨by decide, by decide, by decide +kernel⟩ ⟨Nat.le_of_ble_eq_true rfl, Nat.le_of_ble_eq_true rfl⟩, htg _ km_SB_length, htg _ kv_SB_SB_length⟩) (va_recv (ci := 6) (q0 := 0) hK.1 hP rfl rfl) hK hP hD hS hA rfl hl.1 rfl (Nat.le_of_ble_eq_true rfl) d_T_letter_9 ⟨Nat.le_of_ble_eq_true rfl, Nat.le_of_ble_eq_true rfl⟩) hD hS hA (fun r u H locs hw hP hD hS => ?_)
    subst r
    have hP : va_P (tp_D E) tp_cl ((aB, .inr (6, [.ref ab, .int 0, .int xm, .int xc])) :: (aT, .inr (0, [.ref aY, .ref aS, .ref aB, .int xl, .int xg])) :: (ab, .inl (tp_ty E 3, nb, .inl fb)) :: fr) H := hP
    have hD : va_D A ((aB, .inr (6, [.ref ab, .int 0, .int xm, .int xc])) :: (aT, .inr (0, [.ref aY, .ref aS, .ref aB, .int xl, .int xg])) :: (ab, .inl (tp_ty E 3, nb, .inl fb)) :: fr) := hD
    by_cases h2 : xk < xc
    · refine lv_icmp_lt (tgt := 23) hx hb d_T_letter_12 (by decide) (fun _ => ?_) (fun h => absurd h2 h)
      refine lv_aload_n hx hb d_T_letter_23 rfl (lv_at hl 0 rfl) ?_
      refine va_get (D := tp_D E) (ci := 0) (v := .ref aB) (C := qR_T) (T := qF_T) (N := 5) hx hb htg qi_T hown hK.1 hP 1 rfl rfl 2 (by decide) (htg _ kl_T_26) (fun _ h => h) rfl d_T_letter_24 ?_
      refine lv_iload_n hx hb d_T_letter_27 rfl (lv_at hl 1 rfl) ?_
      have hP : va_P (tp_D E) tp_cl ((ab, .inl (tp_ty E 3, nb, .inl fb)) :: (aB, .inr (6, [.ref ab, .int 0, .int xm, .int xc])) :: (aT, .inr (0, [.ref aY, .ref aS, .ref aB, .int xl, .int xg])) :: fr) _ := tp_mvP 2 rfl hP
      have hD : va_D A ((ab, .inl (tp_ty E 3, nb, .inl fb)) :: (aB, .inr (6, [.ref ab, .int 0, .int xm, .int xc])) :: (aT, .inr (0, [.ref aY, .ref aS, .ref aB, .int xl, .int xg])) :: fr) := tp_mvD 2 rfl hD
      have hP : va_P (tp_D E) tp_cl ((aB, .inr (6, [.ref ab, .int 0, .int xm, .int xc])) :: (ab, .inl (tp_ty E 3, nb, .inl fb)) :: (aT, .inr (0, [.ref aY, .ref aS, .ref aB, .int xl, .int xg])) :: fr) _ := tp_mvP 1 rfl hP
      have hD : va_D A ((aB, .inr (6, [.ref ab, .int 0, .int xm, .int xc])) :: (ab, .inl (tp_ty E 3, nb, .inl fb)) :: (aT, .inr (0, [.ref aY, .ref aS, .ref aB, .int xl, .int xg])) :: fr) := tp_mvD 1 rfl hD
      refine tp_ci (tp_rV (As := [.int xk]) (rest := []) ⟨hx, hb, hml, hown, htg⟩ (x_SB_charAt l E ((aT, .inr (0, [.ref aY, .ref aS, .ref aB, .int xl, .int xg])) :: fr) _ aB ab xm xc xk nb fb hn hq h1 h2) (⟨callB_of 1 htg (tp_good0 kc_SB_charAt) rfl rfl rfl (htg _ ki_SB) (htg _ kl_T_173) ⟨by decide, by decide, by decide +kernel⟩ ⟨Nat.le_of_ble_eq_true rfl, Nat.le_of_ble_eq_true rfl⟩, htg _ km_SB_charAt, htg _ kv_SB_SB_charAt⟩) (va_recv (ci := 6) (q0 := 0) hK.1 hP rfl rfl) hK hP hD hS hA rfl hl.1 rfl (Nat.le_of_ble_eq_true rfl) d_T_letter_28 ⟨Nat.le_of_ble_eq_true rfl, Nat.le_of_ble_eq_true rfl⟩) hD hS hA (fun cr491 u H locs hw hP hD hS => ?_)
      obtain ⟨hcr, hcx⟩ : narrow .char (.int cr491) = .int cr491 ∧ cr491 = sf_c (fb xk.toNatClampNeg) := hw
      have hP : va_P (tp_D E) tp_cl ((aB, .inr (6, [.ref ab, .int 0, .int xm, .int xc])) :: (ab, .inl (tp_ty E 3, nb, .inl fb)) :: (aT, .inr (0, [.ref aY, .ref aS, .ref aB, .int xl, .int xg])) :: fr) H := hP
      have hD : va_D A ((aB, .inr (6, [.ref ab, .int 0, .int xm, .int xc])) :: (ab, .inl (tp_ty E 3, nb, .inl fb)) :: (aT, .inr (0, [.ref aY, .ref aS, .ref aB, .int xl, .int xg])) :: fr) := hD
      have hP : va_P (tp_D E) tp_cl ((ab, .inl (tp_ty E 3, nb, .inl fb)) :: (aB, .inr (6, [.ref ab, .int 0, .int xm, .int xc])) :: (aT, .inr (0, [.ref aY, .ref aS, .ref aB, .int xl, .int xg])) :: fr) _ := tp_mvP 1 rfl hP
      have hD : va_D A ((ab, .inl (tp_ty E 3, nb, .inl fb)) :: (aB, .inr (6, [.ref ab, .int 0, .int xm, .int xc])) :: (aT, .inr (0, [.ref aY, .ref aS, .ref aB, .int xl, .int xg])) :: fr) := tp_mvD 1 rfl hD
      have hP : va_P (tp_D E) tp_cl ((aB, .inr (6, [.ref ab, .int 0, .int xm, .int xc])) :: (ab, .inl (tp_ty E 3, nb, .inl fb)) :: (aT, .inr (0, [.ref aY, .ref aS, .ref aB, .int xl, .int xg])) :: fr) _ := tp_mvP 1 rfl hP
      have hD : va_D A ((aB, .inr (6, [.ref ab, .int 0, .int xm, .int xc])) :: (ab, .inl (tp_ty E 3, nb, .inl fb)) :: (aT, .inr (0, [.ref aY, .ref aS, .ref aB, .int xl, .int xg])) :: fr) := tp_mvD 1 rfl hD
      have hP : va_P (tp_D E) tp_cl ((aT, .inr (0, [.ref aY, .ref aS, .ref aB, .int xl, .int xg])) :: (aB, .inr (6, [.ref ab, .int 0, .int xm, .int xc])) :: (ab, .inl (tp_ty E 3, nb, .inl fb)) :: fr) _ := tp_mvP 2 rfl hP
      have hD : va_D A ((aT, .inr (0, [.ref aY, .ref aS, .ref aB, .int xl, .int xg])) :: (aB, .inr (6, [.ref ab, .int 0, .int xm, .int xc])) :: (ab, .inl (tp_ty E 3, nb, .inl fb)) :: fr) := tp_mvD 2 rfl hD
      exact tp_widen (k := 1) (n := 6) (Nat.le_of_ble_eq_true rfl) (Nat.le_of_ble_eq_true rfl) (vx_ret (W.iret (v := cr491) hx hb hr (fun t ht hW => ⟨⟨_, (), rfl, ⟨h1, h2, hcx⟩, by rw [ht]; exact hP, hD⟩, hS.F ht⟩) hS.2.2 d_T_letter_31))
    · refine lv_icmp_lt (tgt := 23) hx hb d_T_letter_12 (by decide) (fun h => absurd h h2) (fun _ => ?_)
      have hP : va_P (tp_D E) tp_cl ((aB, .inr (6, [.ref ab, .int 0, .int xm, .int xc])) :: (aT, .inr (0, [.ref aY, .ref aS, .ref aB, .int xl, .int xg])) :: (ab, .inl (tp_ty E 3, nb, .inl fb)) :: fr) _ := tp_mvP 0 rfl hP
      have hD : va_D A ((aB, .inr (6, [.ref ab, .int 0, .int xm, .int xc])) :: (aT, .inr (0, [.ref aY, .ref aS, .ref aB, .int xl, .int xg])) :: (ab, .inl (tp_ty E 3, nb, .inl fb)) :: fr) := tp_mvD 0 rfl hD
      have hP : va_P (tp_D E) tp_cl ((aT, .inr (0, [.ref aY, .ref aS, .ref aB, .int xl, .int xg])) :: (aB, .inr (6, [.ref ab, .int 0, .int xm, .int xc])) :: (ab, .inl (tp_ty E 3, nb, .inl fb)) :: fr) _ := tp_mvP 1 rfl hP
      have hD : va_D A ((aT, .inr (0, [.ref aY, .ref aS, .ref aB, .int xl, .int xg])) :: (aB, .inr (6, [.ref ab, .int 0, .int xm, .int xc])) :: (ab, .inl (tp_ty E 3, nb, .inl fb)) :: fr) := tp_mvD 1 rfl hD
      exact vx_throw0 (own := "TwoPass") (cls := "java/lang/IndexOutOfBoundsException") (names := ["java/lang/RuntimeException", "java/lang/Exception"]) (ik := 115) (ic := 117) hx hb hfl hown (by decide +kernel) (by decide +kernel) (htg _ kl_T_115) (htg _ kx_IndexOutOfBoundsException) (kxa_T_117 htg hK.2.2.2.1) kxg_T_117 hK.2.1 hK.2.2.1 hS (hl.1.trans hml.symm) d_T_letter_15 d_T_letter_18 d_T_letter_19 d_T_letter_22 (fun x h => (htab x h).elim) (Nat.le_of_ble_eq_true rfl) (Nat.le_of_ble_eq_true rfl) (Nat.le_of_ble_eq_true rfl) (Nat.le_of_ble_eq_true rfl) hlocks (fun t hvm hz hq => ⟨(), Or.inr h2, ⟨rfl, va_P.kept hP (fun k q hk => hq _ (vx_lt hP hk)), hD⟩, ⟨Nat.le_trans hS.1 hz, fun q h1 h2 => (hq q (Nat.lt_of_lt_of_le h1 hS.1)).trans (hS.2.1 q h1 h2)⟩⟩) hS.2.2 (Nat.le_of_ble_eq_true rfl) (Nat.le_of_ble_eq_true rfl)
