set_option maxHeartbeats 400000 in
set_option maxRecDepth 100000 in
theorem cs_AS_length_1 (l : Launch) (E : tp_Env) (fr : va_W) (sz : Nat) (a1 : Nat) (a2 : Nat) (x3 : Int32) (x4 : Int32) (x5 : Int32)  : Met l y_AS_length w_AS_length ({ frames := 0, cells := 0, slots := 0, locals := 0 }) (va_Pc [.ref a1] (tp_in E ((a1, .inr (6, [.ref a2, .int x3, .int x4, .int x5])) :: fr) sz)) (va_Qi (fun r (_ : Unit) => r = x5) (fun _ t => tp_out E (va_A ((a1, .inr (6, [.ref a2, .int x3, .int x4, .int x5])) :: fr) sz) ((a1, .inr (6, [.ref a2, .int x3, .int x4, .int x5])) :: fr) t) (va_A ((a1, .inr (6, [.ref a2, .int x3, .int x4, .int x5])) :: fr) sz)) 0 0 (va_A ((a1, .inr (6, [.ref a2, .int x3, .int x4, .int x5])) :: fr) sz) := by
  refine Met.ofW (cc := b_AS_length) (maxL := 1) (ret := (some .int)) (by decide) rfl ?_
  intro p e s m args below meth c s₁ B hml hv
  obtain ⟨rfl, hsz, hP, hK, hD0⟩ := hv
  have hx := B.exec
  have hb := B.bytes
  have hr := B.returns
  have htg : ∀ w ∈ tp_G, w.before ([.ref a1] : List Value).toArray s = true := fun w h => atoms_spec (ws := w_AS_length) B.pre w (List.mem_cons_of_mem _ h)
  have hown : s.vm.findClass "java/lang/AbstractStringBuilder" = some m.cls := findClass_of_methodNamed B.named
  have hlocks := B.notSynchronized
  subst hsz
  have hD := hD0.self (sz := s.heap.size)
  generalize hAe : va_A ((a1, .inr (6, [.ref a2, .int x3, .int x4, .int x5])) :: fr) s.heap.size = A at hD hK ⊢
  have hA : ∀ q : Nat, s.heap.size ≤ q → A q := fun q h => by rw [← hAe]; exact Or.inr h
  have hS : va_S A s.heap s.heap [] := va_S.rf
  have hl := lv_entry ([.ref a1]) (n := 1) (Nat.le_of_ble_eq_true rfl)
  rw [lg_entry_eq]
  generalize (lg_sl ([.ref a1]) ++ List.replicate (1 - (lg_sl ([.ref a1])).length) Slot.unset).toArray = ls at hl ⊢
  have hl : lv_has ls 1 [(0, .ref a1)] := hl
  refine lv_aload_n hx hb d_AS_length_0 rfl (lv_at hl 0 rfl) ?_
  refine va_get (D := tp_D E) (ci := 6) (v := .int x5) (C := qR_SB) (T := qF_SB) (N := 4) hx hb htg qi_SB hown hK.1 hP 0 rfl rfl 3 (by decide) (htg _ kl_AS_79) (fun _ h => h) rfl d_AS_length_1 ?_
  exact W.iret (v := x5) hx hb hr (fun t ht hW => ⟨⟨_, (), rfl, rfl, by rw [ht]; exact hP, hD⟩, hS.F ht⟩) hS.2.2 d_AS_length_4
set_option maxHeartbeats 400000 in
set_option maxRecDepth 100000 in
theorem cs_SB_length_1 (l : Launch) (E : tp_Env) (fr : va_W) (sz : Nat) (a1 : Nat) (a2 : Nat) (x3 : Int32) (x4 : Int32) (x5 : Int32)  : Met l y_SB_length w_SB_length ({ frames := 1, cells := 0, slots := 0, locals := 20 }) (va_Pc [.ref a1] (tp_in E ((a1, .inr (6, [.ref a2, .int x3, .int x4, .int x5])) :: fr) sz)) (va_Qi (fun r (_ : Unit) => r = x5) (fun _ t => tp_out E (va_A ((a1, .inr (6, [.ref a2, .int x3, .int x4, .int x5])) :: fr) sz) ((a1, .inr (6, [.ref a2, .int x3, .int x4, .int x5])) :: fr) t) (va_A ((a1, .inr (6, [.ref a2, .int x3, .int x4, .int x5])) :: fr) sz)) 0 0 (va_A ((a1, .inr (6, [.ref a2, .int x3, .int x4, .int x5])) :: fr) sz) := by
  refine Met.ofW (cc := b_SB_length) (maxL := 1) (ret := (some .int)) (by decide) rfl ?_
  intro p e s m args below meth c s₁ B hml hv
  obtain ⟨rfl, hsz, hP, hK, hD0⟩ := hv
  have hx := B.exec
  have hb := B.bytes
  have hr := B.returns
  have htg : ∀ w ∈ tp_G, w.before ([.ref a1] : List Value).toArray s = true := fun w h => atoms_spec (ws := w_SB_length) B.pre w (List.mem_cons_of_mem _ h)
  have hown : s.vm.findClass "java/lang/StringBuilder" = some m.cls := findClass_of_methodNamed B.named
  have hlocks := B.notSynchronized
  subst hsz
  have hD := hD0.self (sz := s.heap.size)
  generalize hAe : va_A ((a1, .inr (6, [.ref a2, .int x3, .int x4, .int x5])) :: fr) s.heap.size = A at hD hK ⊢
  have hA : ∀ q : Nat, s.heap.size ≤ q → A q := fun q h => by rw [← hAe]; exact Or.inr h
  have hS : va_S A s.heap s.heap [] := va_S.rf
  have hl := lv_entry ([.ref a1]) (n := 1) (Nat.le_of_ble_eq_true rfl)
  rw [lg_entry_eq]
  generalize (lg_sl ([.ref a1]) ++ List.replicate (1 - (lg_sl ([.ref a1])).length) Slot.unset).toArray = ls at hl ⊢
  have hl : lv_has ls 1 [(0, .ref a1)] := hl
  refine lv_aload_n hx hb d_SB_length_0 rfl (lv_at hl 0 rfl) ?_
  refine tp_ci (tp_rU (As := []) (rest := []) ⟨hx, hb, hml, hown, htg⟩ (cs_AS_length_1 l E fr _ a1 a2 x3 x4 x5 ) (tp_cwU 0 htg kc_AS_length (htg _ kl_SB_343) (htg _ kq_AS_length) (htg _ kz_SB) (htg _ km_AS_length) (htg _ ki_AS) ⟨by decide, by decide +kernel⟩ ⟨Nat.le_of_ble_eq_true rfl, Nat.le_of_ble_eq_true rfl⟩) (va_recv (ci := 6) (q0 := 0) hK.1 hP rfl rfl) (hK.1.1 6 _ rfl).2 hK hP hD hS hA rfl hl.1 rfl (Nat.le_of_ble_eq_true rfl) d_SB_length_1 ⟨Nat.le_of_ble_eq_true rfl, Nat.le_of_ble_eq_true rfl⟩) hD hS hA (fun r u H locs hw hP hD hS => ?_)
  subst r
  have hP : va_P (tp_D E) tp_cl ((a1, .inr (6, [.ref a2, .int x3, .int x4, .int x5])) :: fr) H := hP
  have hD : va_D A ((a1, .inr (6, [.ref a2, .int x3, .int x4, .int x5])) :: fr) := hD
  exact W.iret (v := x5) hx hb hr (fun t ht hW => ⟨⟨_, (), rfl, rfl, by rw [ht]; exact hP, hD⟩, hS.F ht⟩) hS.2.2 d_SB_length_4
set_option maxHeartbeats 4000000 in
set_option maxRecDepth 100000 in
theorem s_T_show (l : Launch) (hfl : l.stackTraces = false) (E : tp_Env) (fr : va_W) (sz : Nat) (aT aY aS : Nat) (xl xg : Int32) (aB ab : Nat) (xm xc : Int32) (nb : Nat) (fb : Nat → Int32) (xw : Int32) (hn : nb = 16 ∨ nb = 34) (hf : tp_fit fb) (hc : 0 ≤ xc.toInt) : vx_Met l y_T_show w_T_show ({ frames := 8, cells := 19, slots := 646, locals := 232 }) (va_Pc [.ref aT, .int xw] (tp_in E ((aT, .inr (0, [.ref aY, .ref aS, .ref aB, .int xl, .int xg])) :: (aB, .inr (6, [.ref ab, .int 0, .int xm, .int xc])) :: (ab, .inl (tp_ty E 3, nb, .inl fb)) :: fr) sz)) (va_Qi (fun r (u : Nat × Nat × Nat × (Nat → Int32) × Int32 × Int32) => (tp_hit xw u.1 ∧ ¬ u.1 = 0 ∧ r.toInt = (tp_lenT u.1 xw : Nat)) ∧ ((u.2.2.1 = 16 ∨ u.2.2.1 = 34) ∧ tp_fit u.2.2.2.1 ∧ u.2.2.2.2.2.toInt ≤ (u.2.2.1 : Int)) ∧ (0 ≤ r.toInt ∧ r.toInt ≤ 34) ∧ u.2.2.2.2.2 = r) (fun u t => tp_out E (va_A ((aT, .inr (0, [.ref aY, .ref aS, .ref aB, .int xl, .int xg])) :: (aB, .inr (6, [.ref ab, .int 0, .int xm, .int xc])) :: (ab, .inl (tp_ty E 3, nb, .inl fb)) :: fr) sz) ((aT, .inr (0, [.ref aY, .ref aS, .ref aB, .int xl, .int xg])) :: (aB, .inr (6, [.ref u.2.1, .int 0, .int u.2.2.2.2.1, .int u.2.2.2.2.2])) :: (u.2.1, .inl (tp_ty E 3, u.2.2.1, .inl u.2.2.2.1)) :: fr) t) (va_A ((aT, .inr (0, [.ref aY, .ref aS, .ref aB, .int xl, .int xg])) :: (aB, .inr (6, [.ref ab, .int 0, .int xm, .int xc])) :: (ab, .inl (tp_ty E 3, nb, .inl fb)) :: fr) sz)) (vx_X (fun (u : Nat × Nat × (Nat → Int32) × Int32) => tp_hit xw 0 ∧ (u.2.1 = 16 ∨ u.2.1 = 34) ∧ tp_fit u.2.2.1) (fun x u t => x = "java/lang/IllegalArgumentException" ∧ tp_out E (va_A ((aT, .inr (0, [.ref aY, .ref aS, .ref aB, .int xl, .int xg])) :: (aB, .inr (6, [.ref ab, .int 0, .int xm, .int xc])) :: (ab, .inl (tp_ty E 3, nb, .inl fb)) :: fr) sz) ((aT, .inr (0, [.ref aY, .ref aS, .ref aB, .int xl, .int xg])) :: (aB, .inr (6, [.ref u.1, .int 0, .int u.2.2.2, .int 0])) :: (u.1, .inl (tp_ty E 3, u.2.1, .inl u.2.2.1)) :: fr) t) (va_A ((aT, .inr (0, [.ref aY, .ref aS, .ref aB, .int xl, .int xg])) :: (aB, .inr (6, [.ref ab, .int 0, .int xm, .int xc])) :: (ab, .inl (tp_ty E 3, nb, .inl fb)) :: fr) sz)) 19 646 (va_A ((aT, .inr (0, [.ref aY, .ref aS, .ref aB, .int xl, .int xg])) :: (aB, .inr (6, [.ref ab, .int 0, .int xm, .int xc])) :: (ab, .inl (tp_ty E 3, nb, .inl fb)) :: fr) sz) := by
  refine vx_ofW (cc := b_T_show) (maxL := 4) (ret := (some .int)) (by decide) rfl ?_
  intro p e s m args below meth c s₁ B hml htab hv
  obtain ⟨rfl, hsz, hP, hK, hD0⟩ := hv
  have hx := B.exec
  have hb := B.bytes
  have hr := B.returns
  have htg : ∀ w ∈ tp_G, w.before ([.ref aT, .int xw] : List Value).toArray s = true := fun w h => atoms_spec (ws := w_T_show) B.pre w (List.mem_cons_of_mem _ h)
  have hown : s.vm.findClass "TwoPass" = some m.cls := findClass_of_methodNamed B.named
  have hlocks := B.notSynchronized
  subst hsz
  have hD := hD0.self (sz := s.heap.size)
  generalize hAe : va_A ((aT, .inr (0, [.ref aY, .ref aS, .ref aB, .int xl, .int xg])) :: (aB, .inr (6, [.ref ab, .int 0, .int xm, .int xc])) :: (ab, .inl (tp_ty E 3, nb, .inl fb)) :: fr) s.heap.size = A at hD hK ⊢
  have hA : ∀ q : Nat, s.heap.size ≤ q → A q := fun q h => by rw [← hAe]; exact Or.inr h
  have hS : va_S A s.heap s.heap [] := va_S.rf
  have hl := lv_entry ([.ref aT, .int xw]) (n := 4) (Nat.le_of_ble_eq_true rfl)
  rw [lg_entry_eq]
  generalize (lg_sl ([.ref aT, .int xw]) ++ List.replicate (4 - (lg_sl ([.ref aT, .int xw])).length) Slot.unset).toArray = ls at hl ⊢
  have hl : lv_has ls 4 [(0, .ref aT), (1, .int xw)] := hl
  refine lv_aload_n hx hb d_T_show_0 rfl (lv_at hl 0 rfl) ?_
  refine va_get (D := tp_D E) (ci := 0) (v := .ref aB) (C := qR_T) (T := qF_T) (N := 5) hx hb htg qi_T hown hK.1 hP 0 rfl rfl 2 (by decide) (htg _ kl_T_26) (fun _ h => h) rfl d_T_show_1 ?_
  refine lv_iconst (v := 0) hx hb d_T_show_4 (by decide) ?_
  have hP : va_P (tp_D E) tp_cl ((ab, .inl (tp_ty E 3, nb, .inl fb)) :: (aT, .inr (0, [.ref aY, .ref aS, .ref aB, .int xl, .int xg])) :: (aB, .inr (6, [.ref ab, .int 0, .int xm, .int xc])) :: fr) _ := tp_mvP 2 rfl hP
  have hD : va_D A ((ab, .inl (tp_ty E 3, nb, .inl fb)) :: (aT, .inr (0, [.ref aY, .ref aS, .ref aB, .int xl, .int xg])) :: (aB, .inr (6, [.ref ab, .int 0, .int xm, .int xc])) :: fr) := tp_mvD 2 rfl hD
  have hP : va_P (tp_D E) tp_cl ((aB, .inr (6, [.ref ab, .int 0, .int xm, .int xc])) :: (ab, .inl (tp_ty E 3, nb, .inl fb)) :: (aT, .inr (0, [.ref aY, .ref aS, .ref aB, .int xl, .int xg])) :: fr) _ := tp_mvP 2 rfl hP
  have hD : va_D A ((aB, .inr (6, [.ref ab, .int 0, .int xm, .int xc])) :: (ab, .inl (tp_ty E 3, nb, .inl fb)) :: (aT, .inr (0, [.ref aY, .ref aS, .ref aB, .int xl, .int xg])) :: fr) := tp_mvD 2 rfl hD
  refine tp_cv (tp_rV (As := [.int 0]) (rest := []) ⟨hx, hb, hml, hown, htg⟩ (s_SB_setLength l E ((aT, .inr (0, [.ref aY, .ref aS, .ref aB, .int xl, .int xg])) :: fr) _ aB ab xm xc nb fb hn hf hc) (⟨callB_of 1 htg (tp_good0 kc_SB_setLength) rfl rfl rfl (htg _ ki_SB) (htg _ kl_T_131) ⟨by decide, by decide, by decide +kernel⟩ ⟨Nat.le_of_ble_eq_true rfl, Nat.le_of_ble_eq_true rfl⟩, htg _ km_SB_setLength, htg _ kv_SB_SB_setLength⟩) (va_recv (ci := 6) (q0 := 0) hK.1 hP rfl rfl) hK hP hD hS hA rfl hl.1 rfl (Nat.le_of_ble_eq_true rfl) d_T_show_5 ⟨Nat.le_of_ble_eq_true rfl, Nat.le_of_ble_eq_true rfl⟩) hD hS hA (fun u H locs hw hP hD hS => ?_)
  obtain ⟨qs486, ns486, fs486, xs486⟩ := u
  obtain ⟨hn486, hf486⟩ : (ns486 = 16 ∨ ns486 = 34) ∧ tp_fit fs486 := hw
  have hP : va_P (tp_D E) tp_cl ((aB, .inr (6, [.ref qs486, .int 0, .int xs486, .int 0])) :: (qs486, .inl (tp_ty E 3, ns486, .inl fs486)) :: (aT, .inr (0, [.ref aY, .ref aS, .ref aB, .int xl, .int xg])) :: fr) H := hP
  have hD : va_D A ((aB, .inr (6, [.ref qs486, .int 0, .int xs486, .int 0])) :: (qs486, .inl (tp_ty E 3, ns486, .inl fs486)) :: (aT, .inr (0, [.ref aY, .ref aS, .ref aB, .int xl, .int xg])) :: fr) := hD
  refine lv_iload_n hx hb d_T_show_8 rfl (lv_at hl 1 rfl) ?_
  refine tp_cr (tp_rS (As := [.int xw]) (rest := []) ⟨hx, hb, hml, hown, htg⟩ (a_C_operationOf l E ((aB, .inr (6, [.ref qs486, .int 0, .int xs486, .int 0])) :: (qs486, .inl (tp_ty E 3, ns486, .inl fs486)) :: (aT, .inr (0, [.ref aY, .ref aS, .ref aB, .int xl, .int xg])) :: fr) _ xw ) (⟨callB_of 1 htg (tp_good0 kc_C_operationOf) rfl rfl rfl (htg _ ki_C) (htg _ kl_T_134) ⟨by decide, by decide, by decide +kernel⟩ ⟨Nat.le_of_ble_eq_true rfl, Nat.le_of_ble_eq_true rfl⟩, htg _ ks_C_operationOf⟩) hK hP hD hS hA rfl hl.1 rfl (Nat.le_of_ble_eq_true rfl) d_T_show_9 ⟨Nat.le_of_ble_eq_true rfl, Nat.le_of_ble_eq_true rfl⟩) hD hS hA (fun u H locs hw hP hD hS => ?_)
  have hhit : tp_hit xw u := hw
  generalize u = uo at hhit ⊢
  have huo : uo < 47 := tp_hit47 hhit
  have hP : va_P (tp_D E) tp_cl ((aB, .inr (6, [.ref qs486, .int 0, .int xs486, .int 0])) :: (qs486, .inl (tp_ty E 3, ns486, .inl fs486)) :: (aT, .inr (0, [.ref aY, .ref aS, .ref aB, .int xl, .int xg])) :: fr) H := hP
  have hD : va_D A ((aB, .inr (6, [.ref qs486, .int 0, .int xs486, .int 0])) :: (qs486, .inl (tp_ty E 3, ns486, .inl fs486)) :: (aT, .inr (0, [.ref aY, .ref aS, .ref aB, .int xl, .int xg])) :: fr) := hD
  refine lv_astore_n (lv' := [(2, .ref (tp_ad E uo)), (0, .ref aT), (1, .int xw)]) hx hb d_T_show_12 rfl hl (by decide) rfl (fun ls hl => ?_)
  refine lv_aload_n hx hb d_T_show_13 rfl (lv_at hl 0 rfl) ?_
  refine va_gets (v := .ref (tp_ad E 0)) hx hb (hK.opZ (i := 0) (by decide)) hS hown (htg _ kl_T_140) (fun _ h => h) d_T_show_14 ?_
  by_cases h1 : some (tp_ad E uo) = some (tp_ad E 0)
  · refine lv_acmp_ne (rx := some (tp_ad E uo)) (ry := some (tp_ad E 0)) (tgt := 28) hx hb d_T_show_17 (by decide) (fun h => absurd h1 h) (fun _ => ?_)
    have hP : va_P (tp_D E) tp_cl ((qs486, .inl (tp_ty E 3, ns486, .inl fs486)) :: (aB, .inr (6, [.ref qs486, .int 0, .int xs486, .int 0])) :: (aT, .inr (0, [.ref aY, .ref aS, .ref aB, .int xl, .int xg])) :: fr) _ := tp_mvP 1 rfl hP
    have hD : va_D A ((qs486, .inl (tp_ty E 3, ns486, .inl fs486)) :: (aB, .inr (6, [.ref qs486, .int 0, .int xs486, .int 0])) :: (aT, .inr (0, [.ref aY, .ref aS, .ref aB, .int xl, .int xg])) :: fr) := tp_mvD 1 rfl hD
    have hP : va_P (tp_D E) tp_cl ((aB, .inr (6, [.ref qs486, .int 0, .int xs486, .int 0])) :: (qs486, .inl (tp_ty E 3, ns486, .inl fs486)) :: (aT, .inr (0, [.ref aY, .ref aS, .ref aB, .int xl, .int xg])) :: fr) _ := tp_mvP 1 rfl hP
    have hD : va_D A ((aB, .inr (6, [.ref qs486, .int 0, .int xs486, .int 0])) :: (qs486, .inl (tp_ty E 3, ns486, .inl fs486)) :: (aT, .inr (0, [.ref aY, .ref aS, .ref aB, .int xl, .int xg])) :: fr) := tp_mvD 1 rfl hD
    have hP : va_P (tp_D E) tp_cl ((aT, .inr (0, [.ref aY, .ref aS, .ref aB, .int xl, .int xg])) :: (aB, .inr (6, [.ref qs486, .int 0, .int xs486, .int 0])) :: (qs486, .inl (tp_ty E 3, ns486, .inl fs486)) :: fr) _ := tp_mvP 2 rfl hP
    have hD : va_D A ((aT, .inr (0, [.ref aY, .ref aS, .ref aB, .int xl, .int xg])) :: (aB, .inr (6, [.ref qs486, .int 0, .int xs486, .int 0])) :: (qs486, .inl (tp_ty E 3, ns486, .inl fs486)) :: fr) := tp_mvD 2 rfl hD
    exact vx_throw0 (own := "TwoPass") (cls := "java/lang/IllegalArgumentException") (names := ["java/lang/RuntimeException", "java/lang/Exception"]) (ik := 38) (ic := 40) hx hb hfl hown (by decide +kernel) (by decide +kernel) (htg _ kl_T_38) (htg _ kx_IllegalArgumentException) (kxa_T_40 htg hK.2.2.2.1) kxg_T_40 hK.2.1 hK.2.2.1 hS (hl.1.trans hml.symm) d_T_show_20 d_T_show_23 d_T_show_24 d_T_show_27 (fun x h => (htab x h).elim) (Nat.le_of_ble_eq_true rfl) (Nat.le_of_ble_eq_true rfl) (Nat.le_of_ble_eq_true rfl) (Nat.le_of_ble_eq_true rfl) hlocks (fun t hvm hz hq => ⟨(qs486, ns486, fs486, xs486), ⟨tp_hit00 hhit (hK.opD huo (by decide) (Option.some.inj h1)), hn486, hf486⟩, ⟨rfl, va_P.kept hP (fun k q hk => hq _ (vx_lt hP hk)), hD⟩, ⟨Nat.le_trans hS.1 hz, fun q h1 h2 => (hq q (Nat.lt_of_lt_of_le h1 hS.1)).trans (hS.2.1 q h1 h2)⟩⟩) hS.2.2 (Nat.le_of_ble_eq_true rfl) (Nat.le_of_ble_eq_true rfl)
  · refine lv_acmp_ne (rx := some (tp_ad E uo)) (ry := some (tp_ad E 0)) (tgt := 28) hx hb d_T_show_17 (by decide) (fun _ => ?_) (fun h => absurd h h1)
    refine lv_aload_n hx hb d_T_show_28 rfl (lv_at hl 1 rfl) ?_
    refine va_get (D := tp_D E) (ci := 0) (v := .ref aB) (C := qR_T) (T := qF_T) (N := 5) hx hb htg qi_T hown hK.1 hP 2 rfl rfl 2 (by decide) (htg _ kl_T_26) (fun _ h => h) rfl d_T_show_29 ?_
    refine lv_aload_n hx hb d_T_show_32 rfl (lv_at hl 0 rfl) ?_
    refine vk_getf (v := .ref (tp_ad E (200 + uo))) hx hb (hK.txt (i := uo) huo) hS hown (htg _ kl_T_146) (fun _ h => h) d_T_show_33 ?_
    refine tp_cr (tp_rV (As := [.ref (tp_ad E (200 + uo))]) (rest := []) ⟨hx, hb, hml, hown, htg⟩ (a_SB_appS l E ((aT, .inr (0, [.ref aY, .ref aS, .ref aB, .int xl, .int xg])) :: fr) _ aB qs486 xs486 ns486 fs486 uo (Nat.lt_of_lt_of_le huo (by decide)) hn486 hf486) (⟨callB_of 1 htg (tp_good0 kc_SB_append_2) rfl rfl rfl (htg _ ki_SB) (htg _ kl_T_150) ⟨by decide, by decide, by decide +kernel⟩ ⟨Nat.le_of_ble_eq_true rfl, Nat.le_of_ble_eq_true rfl⟩, htg _ km_SB_append_2, htg _ kv_SB_SB_append_2⟩) (va_recv (ci := 6) (q0 := 0) hK.1 hP rfl rfl) hK hP hD hS hA rfl hl.1 rfl (Nat.le_of_ble_eq_true rfl) d_T_show_36 ⟨Nat.le_of_ble_eq_true rfl, Nat.le_of_ble_eq_true rfl⟩) hD hS hA (fun u H locs hw hP hD hS => ?_)
    obtain ⟨eq1, nq1, fq1, cq1⟩ := u
    obtain ⟨hnq1, hfq1, hcq1, hqq1⟩ : (nq1 = 16 ∨ nq1 = 34) ∧ tp_fit fq1 ∧ cq1.toInt = ((tp_len.getD uo 0 : Nat) : Int) ∧ cq1.toInt ≤ (nq1 : Int) := hw
    have hP : va_P (tp_D E) tp_cl ((aB, .inr (6, [.ref eq1, .int 0, .int xs486, .int cq1])) :: (eq1, .inl (tp_ty E 3, nq1, .inl fq1)) :: (aT, .inr (0, [.ref aY, .ref aS, .ref aB, .int xl, .int xg])) :: fr) H := hP
    have hD : va_D A ((aB, .inr (6, [.ref eq1, .int 0, .int xs486, .int cq1])) :: (eq1, .inl (tp_ty E 3, nq1, .inl fq1)) :: (aT, .inr (0, [.ref aY, .ref aS, .ref aB, .int xl, .int xg])) :: fr) := hD
    refine lv_pop hx hb d_T_show_39 rfl ?_
    refine lv_aload_n hx hb d_T_show_40 rfl (lv_at hl 1 rfl) ?_
    refine va_get (D := tp_D E) (ci := 0) (v := .ref aB) (C := qR_T) (T := qF_T) (N := 5) hx hb htg qi_T hown hK.1 hP 2 rfl rfl 2 (by decide) (htg _ kl_T_26) (fun _ h => h) rfl d_T_show_41 ?_
    refine lv_bipush (v := 32) hx hb d_T_show_44 (by decide) ?_
    refine tp_cr (tp_rV (As := [.int 32]) (rest := []) ⟨hx, hb, hml, hown, htg⟩ (s_SB_appC l E ((aT, .inr (0, [.ref aY, .ref aS, .ref aB, .int xl, .int xg])) :: fr) _ aB eq1 xs486 cq1 nq1 fq1 32 hnq1 hfq1 (tp_sh1 huo hcq1) (by decide)) (⟨callB_of 1 htg (tp_good0 kc_SB_append_0) rfl rfl rfl (htg _ ki_SB) (htg _ kl_T_154) ⟨by decide, by decide, by decide +kernel⟩ ⟨Nat.le_of_ble_eq_true rfl, Nat.le_of_ble_eq_true rfl⟩, htg _ km_SB_append_0, htg _ kv_SB_SB_append_0⟩) (va_recv (ci := 6) (q0 := 0) hK.1 hP rfl rfl) hK hP hD hS hA rfl hl.1 rfl (Nat.le_of_ble_eq_true rfl) d_T_show_46 ⟨Nat.le_of_ble_eq_true rfl, Nat.le_of_ble_eq_true rfl⟩) hD hS hA (fun u H locs hw hP hD hS => ?_)
    obtain ⟨eq2, nq2, fq2⟩ := u
    obtain ⟨hnq2, hfq2, hqq2⟩ : (nq2 = 16 ∨ nq2 = 34) ∧ tp_fit fq2 ∧ (cq1 + 1).toInt ≤ (nq2 : Int) := hw
    have hP : va_P (tp_D E) tp_cl ((aB, .inr (6, [.ref eq2, .int 0, .int xs486, .int (cq1 + 1)])) :: (eq2, .inl (tp_ty E 3, nq2, .inl fq2)) :: (aT, .inr (0, [.ref aY, .ref aS, .ref aB, .int xl, .int xg])) :: fr) H := hP
    have hD : va_D A ((aB, .inr (6, [.ref eq2, .int 0, .int xs486, .int (cq1 + 1)])) :: (eq2, .inl (tp_ty E 3, nq2, .inl fq2)) :: (aT, .inr (0, [.ref aY, .ref aS, .ref aB, .int xl, .int xg])) :: fr) := hD
    refine lv_pop hx hb d_T_show_49 rfl ?_
    refine lv_iconst (v := 0) hx hb d_T_show_50 (by decide) ?_
    refine lv_istore_n (lv' := [(3, .int 0), (2, .ref (tp_ad E uo)), (0, .ref aT), (1, .int xw)]) hx hb d_T_show_51 rfl hl (by decide) rfl (fun ls hl => ?_)
    refine tp_loopC (fun j ls H locs cells slots (a : Int32 × Nat × Nat × (Nat → Int32) × Int32) => tp_S5 (fun k qv nv fv cv => ((0 ≤ k.toInt) ∧ (k.toInt + (j : Int) = (tp_len.getD (47 + uo) 0 : Nat)) ∧ (nv = 16 ∨ nv = 34) ∧ (tp_fit fv) ∧ (cv.toInt = (tp_len.getD uo 0 : Nat) + 1 + (tp_os uo xw k.toInt.toNat : Nat)) ∧ (cv.toInt ≤ (nv : Int)) ∧ (cells = 3 + 2 * k.toInt.toNat ∧ slots = 102 + 68 * k.toInt.toNat)) ∧ lv_has ls 4 [(3, .int k), (2, .ref (tp_ad E uo)), (0, .ref aT), (1, .int xw)] ∧ va_P (tp_D E) tp_cl ((aB, .inr (6, [.ref qv, .int 0, .int xs486, .int cv])) :: (qv, .inl (tp_ty E 3, nv, .inl fv)) :: (aT, .inr (0, [.ref aY, .ref aS, .ref aB, .int xl, .int xg])) :: fr) H ∧ va_D A ((aB, .inr (6, [.ref qv, .int 0, .int xs486, .int cv])) :: (qv, .inl (tp_ty E 3, nv, .inl fv)) :: (aT, .inr (0, [.ref aY, .ref aS, .ref aB, .int xl, .int xg])) :: fr) ∧ va_S A s.heap H locs) a) ?_ (tp_len.getD (47 + uo) 0) (0, eq2, nq2, fq2, (cq1 + 1)) ⟨⟨show 0 ≤ (0 : Int32).toInt from by decide, show (0 : Int32).toInt + ((tp_len.getD (47 + uo) 0 : Nat) : Int) = ((tp_len.getD (47 + uo) 0 : Nat) : Int) from by rw [Int32.toInt_zero]; omega, hnq2, hfq2, tp_sh3 huo hcq1, hqq2, show 3 = 3 + 2 * (0 : Int32).toInt.toNat ∧ 102 = 102 + 68 * (0 : Int32).toInt.toNat from by decide⟩, tp_lvI hl [0, 1, 2, 3] rfl, hP, hD, hS⟩
    intro j a ls H locs cells slots hI ih
    obtain ⟨k, qv, nv, fv, cv⟩ := a
    obtain ⟨⟨hk0, hkl, hnv, hfv, hcv, hqv, hcr⟩, hl, hP, hD, hS⟩ : ((0 ≤ k.toInt) ∧ (k.toInt + (j : Int) = (tp_len.getD (47 + uo) 0 : Nat)) ∧ (nv = 16 ∨ nv = 34) ∧ (tp_fit fv) ∧ (cv.toInt = (tp_len.getD uo 0 : Nat) + 1 + (tp_os uo xw k.toInt.toNat : Nat)) ∧ (cv.toInt ≤ (nv : Int)) ∧ (cells = 3 + 2 * k.toInt.toNat ∧ slots = 102 + 68 * k.toInt.toNat)) ∧ lv_has ls 4 [(3, .int k), (2, .ref (tp_ad E uo)), (0, .ref aT), (1, .int xw)] ∧ va_P (tp_D E) tp_cl ((aB, .inr (6, [.ref qv, .int 0, .int xs486, .int cv])) :: (qv, .inl (tp_ty E 3, nv, .inl fv)) :: (aT, .inr (0, [.ref aY, .ref aS, .ref aB, .int xl, .int xg])) :: fr) H ∧ va_D A ((aB, .inr (6, [.ref qv, .int 0, .int xs486, .int cv])) :: (qv, .inl (tp_ty E 3, nv, .inl fv)) :: (aT, .inr (0, [.ref aY, .ref aS, .ref aB, .int xl, .int xg])) :: fr) ∧ va_S A s.heap H locs := hI
    have hl7 := tp_len7 (i := 47 + uo) (by omega)
    refine lv_iload_n hx hb d_T_show_52 rfl (lv_at hl 0 rfl) ?_
    refine lv_aload_n hx hb d_T_show_53 rfl (lv_at hl 1 rfl) ?_
    refine vk_getf (v := .ref (tp_ad E (200 + (47 + uo)))) hx hb (hK.opr (i := uo) huo) hS hown (htg _ kl_T_157) (fun _ h => h) d_T_show_54 ?_
    refine tp_ci (tp_rV (As := []) (rest := [.int k]) ⟨hx, hb, hml, hown, htg⟩ (a_ST_length l E ((aB, .inr (6, [.ref qv, .int 0, .int xs486, .int cv])) :: (qv, .inl (tp_ty E 3, nv, .inl fv)) :: (aT, .inr (0, [.ref aY, .ref aS, .ref aB, .int xl, .int xg])) :: fr) _ (47 + uo) (Nat.lt_of_lt_of_le (Nat.add_lt_add_left huo 47) (by decide)) ) (⟨callB_of 0 htg (tp_good0 kc_ST_length) rfl rfl rfl (htg _ ki_ST) (htg _ kl_T_160) ⟨by decide, by decide, by decide +kernel⟩ ⟨Nat.le_of_ble_eq_true rfl, Nat.le_of_ble_eq_true rfl⟩, htg _ km_ST_length, htg _ kv_ST_ST_length⟩) (hK.strO (i := (47 + uo)) (Nat.lt_of_lt_of_le (Nat.add_lt_add_left huo 47) (by decide)) hS) hK hP hD hS hA rfl hl.1 rfl (Nat.le_of_ble_eq_true rfl) d_T_show_57 ⟨Nat.le_trans (m := 19) (by omega) (Nat.le_of_ble_eq_true rfl), Nat.le_trans (m := 646) (by omega) (Nat.le_of_ble_eq_true rfl)⟩) hD hS hA (fun r u H locs hw hP hD hS => ?_)
    subst r
    have hP : va_P (tp_D E) tp_cl ((aB, .inr (6, [.ref qv, .int 0, .int xs486, .int cv])) :: (qv, .inl (tp_ty E 3, nv, .inl fv)) :: (aT, .inr (0, [.ref aY, .ref aS, .ref aB, .int xl, .int xg])) :: fr) H := hP
    have hD : va_D A ((aB, .inr (6, [.ref qv, .int 0, .int xs486, .int cv])) :: (qv, .inl (tp_ty E 3, nv, .inl fv)) :: (aT, .inr (0, [.ref aY, .ref aS, .ref aB, .int xl, .int xg])) :: fr) := hD
    by_cases h2 : (Int32.ofNat (tp_len.getD (47 + uo) 0)) ≤ k
    · refine lv_icmp_ge (tgt := 83) hx hb d_T_show_60 (by decide) (fun _ => ?_) (fun h => absurd h2 h)
      refine lv_aload_n hx hb d_T_show_83 rfl (lv_at hl 2 rfl) ?_
      refine va_get (D := tp_D E) (ci := 0) (v := .ref aB) (C := qR_T) (T := qF_T) (N := 5) hx hb htg qi_T hown hK.1 hP 2 rfl rfl 2 (by decide) (htg _ kl_T_26) (fun _ h => h) rfl d_T_show_84 ?_
      refine tp_ci (tp_rV (As := []) (rest := []) ⟨hx, hb, hml, hown, htg⟩ (cs_SB_length_1 l E ((qv, .inl (tp_ty E 3, nv, .inl fv)) :: (aT, .inr (0, [.ref aY, .ref aS, .ref aB, .int xl, .int xg])) :: fr) _ aB qv 0 xs486 cv ) (⟨callB_of 0 htg (tp_good0 kc_SB_length) rfl rfl rfl (htg _ ki_SB) (htg _ kl_T_172) ⟨by decide, by decide, by decide +kernel⟩ ⟨Nat.le_of_ble_eq_true rfl, Nat.le_of_ble_eq_true rfl⟩, htg _ km_SB_length, htg _ kv_SB_SB_length⟩) (va_recv (ci := 6) (q0 := 0) hK.1 hP rfl rfl) hK hP hD hS hA rfl hl.1 rfl (Nat.le_of_ble_eq_true rfl) d_T_show_87 ⟨Nat.le_trans (m := 19) (by omega) (Nat.le_of_ble_eq_true rfl), Nat.le_trans (m := 646) (by omega) (Nat.le_of_ble_eq_true rfl)⟩) hD hS hA (fun r u H locs hw hP hD hS => ?_)
      subst r
      have hP : va_P (tp_D E) tp_cl ((aB, .inr (6, [.ref qv, .int 0, .int xs486, .int cv])) :: (qv, .inl (tp_ty E 3, nv, .inl fv)) :: (aT, .inr (0, [.ref aY, .ref aS, .ref aB, .int xl, .int xg])) :: fr) H := hP
      have hD : va_D A ((aB, .inr (6, [.ref qv, .int 0, .int xs486, .int cv])) :: (qv, .inl (tp_ty E 3, nv, .inl fv)) :: (aT, .inr (0, [.ref aY, .ref aS, .ref aB, .int xl, .int xg])) :: fr) := hD
      have hP : va_P (tp_D E) tp_cl ((qv, .inl (tp_ty E 3, nv, .inl fv)) :: (aB, .inr (6, [.ref qv, .int 0, .int xs486, .int cv])) :: (aT, .inr (0, [.ref aY, .ref aS, .ref aB, .int xl, .int xg])) :: fr) _ := tp_mvP 1 rfl hP
      have hD : va_D A ((qv, .inl (tp_ty E 3, nv, .inl fv)) :: (aB, .inr (6, [.ref qv, .int 0, .int xs486, .int cv])) :: (aT, .inr (0, [.ref aY, .ref aS, .ref aB, .int xl, .int xg])) :: fr) := tp_mvD 1 rfl hD
      have hP : va_P (tp_D E) tp_cl ((aB, .inr (6, [.ref qv, .int 0, .int xs486, .int cv])) :: (qv, .inl (tp_ty E 3, nv, .inl fv)) :: (aT, .inr (0, [.ref aY, .ref aS, .ref aB, .int xl, .int xg])) :: fr) _ := tp_mvP 1 rfl hP
      have hD : va_D A ((aB, .inr (6, [.ref qv, .int 0, .int xs486, .int cv])) :: (qv, .inl (tp_ty E 3, nv, .inl fv)) :: (aT, .inr (0, [.ref aY, .ref aS, .ref aB, .int xl, .int xg])) :: fr) := tp_mvD 1 rfl hD
      have hP : va_P (tp_D E) tp_cl ((aT, .inr (0, [.ref aY, .ref aS, .ref aB, .int xl, .int xg])) :: (aB, .inr (6, [.ref qv, .int 0, .int xs486, .int cv])) :: (qv, .inl (tp_ty E 3, nv, .inl fv)) :: fr) _ := tp_mvP 2 rfl hP
      have hD : va_D A ((aT, .inr (0, [.ref aY, .ref aS, .ref aB, .int xl, .int xg])) :: (aB, .inr (6, [.ref qv, .int 0, .int xs486, .int cv])) :: (qv, .inl (tp_ty E 3, nv, .inl fv)) :: fr) := tp_mvD 2 rfl hD
      have hlt := tp_sh5 hl7 hk0 hkl h2 hcv
      exact tp_widen (k := 19) (n := 646) (by omega) (by omega) (vx_ret (W.iret (v := cv) hx hb hr (fun t ht hW => ⟨⟨_, (uo, qv, nv, fv, xs486, cv), rfl, ⟨⟨hhit, fun (e : uo = 0) => h1 (by rw [e]), hlt⟩, ⟨hnv, hfv, hqv⟩, sf_l34 huo hlt, rfl⟩, by rw [ht]; exact hP, hD⟩, hS.F ht⟩) hS.2.2 d_T_show_90))
    · refine lv_icmp_ge (tgt := 83) hx hb d_T_show_60 (by decide) (fun h => absurd h h2) (fun _ => ?_)
      refine lv_aload_n hx hb d_T_show_63 rfl (lv_at hl 2 rfl) ?_
      refine lv_aload_n hx hb d_T_show_64 rfl (lv_at hl 1 rfl) ?_
      refine lv_aload_n hx hb d_T_show_65 rfl (lv_at hl 1 rfl) ?_
      refine vk_getf (v := .ref (tp_ad E (200 + (47 + uo)))) hx hb (hK.opr (i := uo) huo) hS hown (htg _ kl_T_157) (fun _ h => h) d_T_show_66 ?_
      refine lv_iload_n hx hb d_T_show_69 rfl (lv_at hl 0 rfl) ?_
      refine tp_ci (tp_rV (As := [.int k]) (rest := [.ref (tp_ad E uo), .ref aT]) ⟨hx, hb, hml, hown, htg⟩ (a_ST_charAt l E ((aB, .inr (6, [.ref qv, .int 0, .int xs486, .int cv])) :: (qv, .inl (tp_ty E 3, nv, .inl fv)) :: (aT, .inr (0, [.ref aY, .ref aS, .ref aB, .int xl, .int xg])) :: fr) _ (47 + uo) (Nat.lt_of_lt_of_le (Nat.add_lt_add_left huo 47) (by decide)) k (tp_nn hk0) (Int32.not_le.mp h2)) (⟨callB_of 1 htg (tp_good0 kc_ST_charAt) rfl rfl rfl (htg _ ki_ST) (htg _ kl_T_164) ⟨by decide, by decide, by decide +kernel⟩ ⟨Nat.le_of_ble_eq_true rfl, Nat.le_of_ble_eq_true rfl⟩, htg _ km_ST_charAt, htg _ kv_ST_ST_charAt⟩) (hK.strO (i := (47 + uo)) (Nat.lt_of_lt_of_le (Nat.add_lt_add_left huo 47) (by decide)) hS) hK hP hD hS hA rfl hl.1 rfl (Nat.le_of_ble_eq_true rfl) d_T_show_70 ⟨Nat.le_trans (m := 19) (by omega) (Nat.le_of_ble_eq_true rfl), Nat.le_trans (m := 646) (by omega) (Nat.le_of_ble_eq_true rfl)⟩) hD hS hA (fun r u H locs hw hP hD hS => ?_)
      subst r
      have hP : va_P (tp_D E) tp_cl ((aB, .inr (6, [.ref qv, .int 0, .int xs486, .int cv])) :: (qv, .inl (tp_ty E 3, nv, .inl fv)) :: (aT, .inr (0, [.ref aY, .ref aS, .ref aB, .int xl, .int xg])) :: fr) H := hP
      have hD : va_D A ((aB, .inr (6, [.ref qv, .int 0, .int xs486, .int cv])) :: (qv, .inl (tp_ty E 3, nv, .inl fv)) :: (aT, .inr (0, [.ref aY, .ref aS, .ref aB, .int xl, .int xg])) :: fr) := hD
      refine lv_iload_n hx hb d_T_show_73 rfl (lv_at hl 3 rfl) ?_
      have hP : va_P (tp_D E) tp_cl ((qv, .inl (tp_ty E 3, nv, .inl fv)) :: (aB, .inr (6, [.ref qv, .int 0, .int xs486, .int cv])) :: (aT, .inr (0, [.ref aY, .ref aS, .ref aB, .int xl, .int xg])) :: fr) _ := tp_mvP 1 rfl hP
      have hD : va_D A ((qv, .inl (tp_ty E 3, nv, .inl fv)) :: (aB, .inr (6, [.ref qv, .int 0, .int xs486, .int cv])) :: (aT, .inr (0, [.ref aY, .ref aS, .ref aB, .int xl, .int xg])) :: fr) := tp_mvD 1 rfl hD
      have hP : va_P (tp_D E) tp_cl ((aB, .inr (6, [.ref qv, .int 0, .int xs486, .int cv])) :: (qv, .inl (tp_ty E 3, nv, .inl fv)) :: (aT, .inr (0, [.ref aY, .ref aS, .ref aB, .int xl, .int xg])) :: fr) _ := tp_mvP 1 rfl hP
      have hD : va_D A ((aB, .inr (6, [.ref qv, .int 0, .int xs486, .int cv])) :: (qv, .inl (tp_ty E 3, nv, .inl fv)) :: (aT, .inr (0, [.ref aY, .ref aS, .ref aB, .int xl, .int xg])) :: fr) := tp_mvD 1 rfl hD
      have hP : va_P (tp_D E) tp_cl ((aT, .inr (0, [.ref aY, .ref aS, .ref aB, .int xl, .int xg])) :: (aB, .inr (6, [.ref qv, .int 0, .int xs486, .int cv])) :: (qv, .inl (tp_ty E 3, nv, .inl fv)) :: fr) _ := tp_mvP 2 rfl hP
      have hD : va_D A ((aT, .inr (0, [.ref aY, .ref aS, .ref aB, .int xl, .int xg])) :: (aB, .inr (6, [.ref qv, .int 0, .int xs486, .int cv])) :: (qv, .inl (tp_ty E 3, nv, .inl fv)) :: fr) := tp_mvD 2 rfl hD
      refine tp_cv (tp_rV (As := [.ref (tp_ad E uo), .int ((tp_byt.getD (47 + uo) []).getD k.toNatClampNeg 0), .int xw]) (rest := []) ⟨hx, hb, hml, hown, htg⟩ (a_T_writeOperand l E fr _ aT aY aS xl xg aB qv xs486 cv nv fv uo huo ((tp_byt.getD (47 + uo) []).getD k.toNatClampNeg 0) xw hnv hfv (tp_sh4 huo hk0 (tp_klt hl7 h2) hcv) (tp_ch255 (i := 47 + uo) (by omega))) (⟨callB_of 3 htg (tp_good0 kc_T_writeOperand) rfl rfl rfl (htg _ ki_T) (htg _ kl_T_168) ⟨by decide, by decide, by decide +kernel⟩ ⟨Nat.le_of_ble_eq_true rfl, Nat.le_of_ble_eq_true rfl⟩, htg _ km_T_writeOperand, htg _ kp_T_writeOperand⟩) (va_recv (ci := 0) (q0 := 0) hK.1 hP rfl rfl) hK hP hD hS hA rfl hl.1 rfl (Nat.le_of_ble_eq_true rfl) d_T_show_74 ⟨Nat.le_trans (m := 19) (by omega) (Nat.le_of_ble_eq_true rfl), Nat.le_trans (m := 646) (by omega) (Nat.le_of_ble_eq_true rfl)⟩) hD hS hA (fun u H locs hw hP hD hS => ?_)
      obtain ⟨eq3, nq3, fq3, cq3⟩ := u
      obtain ⟨hnq3, hfq3, hcq3, hqq3⟩ : (nq3 = 16 ∨ nq3 = 34) ∧ tp_fit fq3 ∧ cq3.toInt = cv.toInt + (tp_ol uo ((tp_byt.getD (47 + uo) []).getD k.toNatClampNeg 0) xw : Int) ∧ cq3.toInt ≤ (nq3 : Int) := hw
      have hP : va_P (tp_D E) tp_cl ((aT, .inr (0, [.ref aY, .ref aS, .ref aB, .int xl, .int xg])) :: (aB, .inr (6, [.ref eq3, .int 0, .int xs486, .int cq3])) :: (eq3, .inl (tp_ty E 3, nq3, .inl fq3)) :: fr) H := hP
      have hD : va_D A ((aT, .inr (0, [.ref aY, .ref aS, .ref aB, .int xl, .int xg])) :: (aB, .inr (6, [.ref eq3, .int 0, .int xs486, .int cq3])) :: (eq3, .inl (tp_ty E 3, nq3, .inl fq3)) :: fr) := hD
      refine lv_iinc (k := 0) (v := (k + 1)) (lv' := [(3, .int (k + 1)), (2, .ref (tp_ad E uo)), (0, .ref aT), (1, .int xw)]) hx hb d_T_show_77 hl rfl rfl (by decide) rfl (fun ls hl => ?_)
      refine lv_goto (tgt := 52) hx hb d_T_show_80 (by decide) ?_
      have hP : va_P (tp_D E) tp_cl ((aT, .inr (0, [.ref aY, .ref aS, .ref aB, .int xl, .int xg])) :: (aB, .inr (6, [.ref eq3, .int 0, .int xs486, .int cq3])) :: (eq3, .inl (tp_ty E 3, nq3, .inl fq3)) :: fr) _ := tp_mvP 0 rfl hP
      have hD : va_D A ((aT, .inr (0, [.ref aY, .ref aS, .ref aB, .int xl, .int xg])) :: (aB, .inr (6, [.ref eq3, .int 0, .int xs486, .int cq3])) :: (eq3, .inl (tp_ty E 3, nq3, .inl fq3)) :: fr) := tp_mvD 0 rfl hD
      have hP : va_P (tp_D E) tp_cl ((eq3, .inl (tp_ty E 3, nq3, .inl fq3)) :: (aT, .inr (0, [.ref aY, .ref aS, .ref aB, .int xl, .int xg])) :: (aB, .inr (6, [.ref eq3, .int 0, .int xs486, .int cq3])) :: fr) _ := tp_mvP 2 rfl hP
      have hD : va_D A ((eq3, .inl (tp_ty E 3, nq3, .inl fq3)) :: (aT, .inr (0, [.ref aY, .ref aS, .ref aB, .int xl, .int xg])) :: (aB, .inr (6, [.ref eq3, .int 0, .int xs486, .int cq3])) :: fr) := tp_mvD 2 rfl hD
      have hP : va_P (tp_D E) tp_cl ((aB, .inr (6, [.ref eq3, .int 0, .int xs486, .int cq3])) :: (eq3, .inl (tp_ty E 3, nq3, .inl fq3)) :: (aT, .inr (0, [.ref aY, .ref aS, .ref aB, .int xl, .int xg])) :: fr) _ := tp_mvP 2 rfl hP
      have hD : va_D A ((aB, .inr (6, [.ref eq3, .int 0, .int xs486, .int cq3])) :: (eq3, .inl (tp_ty E 3, nq3, .inl fq3)) :: (aT, .inr (0, [.ref aY, .ref aS, .ref aB, .int xl, .int xg])) :: fr) := tp_mvD 2 rfl hD
      have hlt := (tp_klt hl7 h2)
      have hk1 : (k + 1).toInt = k.toInt + 1 := tp_inc (by omega)
      have e2 : (k + 1).toInt.toNat = k.toInt.toNat + 1 := by omega
      have f5 : cq3.toInt = (tp_len.getD uo 0 : Nat) + 1 + (tp_os uo xw (k + 1).toInt.toNat : Nat) := by rw [e2, hcq3, hcv, tp_os_succ hk0]; omega
      have f1 : 0 ≤ (k + 1).toInt := by omega
      have f2 : (k + 1).toInt + ((j - 1 : Nat) : Int) = ((tp_len.getD (47 + uo) 0 : Nat) : Int) := by omega
      have f6 : cells + 0 + 0 + 2 = 3 + 2 * (k + 1).toInt.toNat ∧ slots + 0 + 0 + 68 = 102 + 68 * (k + 1).toInt.toNat := by omega
      exact ih (j - 1) (k + 1, eq3, nq3, fq3, cq3) ls _ _ _ _ (by omega) ⟨⟨f1, f2, hnq3, hfq3, f5, hqq3, f6⟩, tp_lvI hl [0, 1, 2, 3] rfl, hP, hD, hS⟩
set_option maxHeartbeats 4000000 in
set_option maxRecDepth 100000 in
theorem a_M_signed12 (l : Launch) (E : tp_Env) (fr : va_W) (sz : Nat) (xv : Int32)  : Met l y_M_signed w_M_signed ({ frames := 0, cells := 0, slots := 0, locals := 0 }) (va_Pc [.int xv, .int 12] (tp_in E fr sz)) (va_Qi (fun r (_ : Unit) => r = (if xv < 2048 then xv else xv - 4096)) (fun _ t => tp_out E (va_A fr sz) fr t) (va_A fr sz)) 0 0 (va_A fr sz) := by
  refine Met.ofW (cc := b_M_signed) (maxL := 2) (ret := (some .int)) (by decide) rfl ?_
  intro p e s m args below meth c s₁ B hml hv
  obtain ⟨rfl, hsz, hP, hK, hD0⟩ := hv
  have hx := B.exec
  have hb := B.bytes
  have hr := B.returns
  have htg : ∀ w ∈ tp_G, w.before ([.int xv, .int 12] : List Value).toArray s = true := fun w h => atoms_spec (ws := w_M_signed) B.pre w (List.mem_cons_of_mem _ h)
  have hown : s.vm.findClass "TwoPassModel" = some m.cls := findClass_of_methodNamed B.named
  have hlocks := B.notSynchronized
  subst hsz
  have hD := hD0.self (sz := s.heap.size)
  generalize hAe : va_A fr s.heap.size = A at hD hK ⊢
  have hA : ∀ q : Nat, s.heap.size ≤ q → A q := fun q h => by rw [← hAe]; exact Or.inr h
  have hS : va_S A s.heap s.heap [] := va_S.rf
  have hl := lv_entry ([.int xv, .int 12]) (n := 2) (Nat.le_of_ble_eq_true rfl)
  rw [lg_entry_eq]
  generalize (lg_sl ([.int xv, .int 12]) ++ List.replicate (2 - (lg_sl ([.int xv, .int 12])).length) Slot.unset).toArray = ls at hl ⊢
  have hl : lv_has ls 2 [(0, .int xv), (1, .int 12)] := hl
  refine lv_iload_n hx hb d_M_signed_0 rfl (lv_at hl 0 rfl) ?_
  refine lv_iconst (v := 1) hx hb d_M_signed_1 (by decide) ?_
  refine lv_iload_n hx hb d_M_signed_2 rfl (lv_at hl 1 rfl) ?_
  refine lv_iconst (v := 1) hx hb d_M_signed_3 (by decide) ?_
  refine lv_isub hx hb d_M_signed_4 ?_
  refine tp_topi (v := 11) (by decide) ?_
  refine lv_ishl hx hb d_M_signed_5 ?_
  refine tp_topi (v := 2048) (by decide) ?_
  by_cases h1 : xv < 2048
  · refine lv_icmp_lt (tgt := 17) hx hb d_M_signed_6 (by decide) (fun _ => ?_) (fun h => absurd h1 h)
    refine lv_iload_n hx hb d_M_signed_17 rfl (lv_at hl 0 rfl) ?_
    exact W.iret (v := xv) hx hb hr (fun t ht hW => ⟨⟨_, (), rfl, (by rw [if_pos h1]), by rw [ht]; exact hP, hD⟩, hS.F ht⟩) hS.2.2 d_M_signed_18
  · refine lv_icmp_lt (tgt := 17) hx hb d_M_signed_6 (by decide) (fun h => absurd h h1) (fun _ => ?_)
    refine lv_iload_n hx hb d_M_signed_9 rfl (lv_at hl 0 rfl) ?_
    refine lv_iconst (v := 1) hx hb d_M_signed_10 (by decide) ?_
    refine lv_iload_n hx hb d_M_signed_11 rfl (lv_at hl 1 rfl) ?_
    refine lv_ishl hx hb d_M_signed_12 ?_
    refine tp_topi (v := 4096) (by decide) ?_
    refine lv_isub hx hb d_M_signed_13 ?_
    refine lv_goto (tgt := 18) hx hb d_M_signed_14 (by decide) ?_
    exact W.iret (v := (xv - 4096)) hx hb hr (fun t ht hW => ⟨⟨_, (), rfl, (by rw [if_neg h1]), by rw [ht]; exact hP, hD⟩, hS.F ht⟩) hS.2.2 d_M_signed_18
set_option maxHeartbeats 4000000 in
set_option maxRecDepth 100000 in
theorem a_M_signed13 (l : Launch) (E : tp_Env) (fr : va_W) (sz : Nat) (xv : Int32)  : Met l y_M_signed w_M_signed ({ frames := 0, cells := 0, slots := 0, locals := 0 }) (va_Pc [.int xv, .int 13] (tp_in E fr sz)) (va_Qi (fun r (_ : Unit) => r = (if xv < 4096 then xv else xv - 8192)) (fun _ t => tp_out E (va_A fr sz) fr t) (va_A fr sz)) 0 0 (va_A fr sz) := by
  refine Met.ofW (cc := b_M_signed) (maxL := 2) (ret := (some .int)) (by decide) rfl ?_
  intro p e s m args below meth c s₁ B hml hv
  obtain ⟨rfl, hsz, hP, hK, hD0⟩ := hv
  have hx := B.exec
  have hb := B.bytes
  have hr := B.returns
  have htg : ∀ w ∈ tp_G, w.before ([.int xv, .int 13] : List Value).toArray s = true := fun w h => atoms_spec (ws := w_M_signed) B.pre w (List.mem_cons_of_mem _ h)
  have hown : s.vm.findClass "TwoPassModel" = some m.cls := findClass_of_methodNamed B.named
  have hlocks := B.notSynchronized
  subst hsz
  have hD := hD0.self (sz := s.heap.size)
  generalize hAe : va_A fr s.heap.size = A at hD hK ⊢
  have hA : ∀ q : Nat, s.heap.size ≤ q → A q := fun q h => by rw [← hAe]; exact Or.inr h
  have hS : va_S A s.heap s.heap [] := va_S.rf
  have hl := lv_entry ([.int xv, .int 13]) (n := 2) (Nat.le_of_ble_eq_true rfl)
  rw [lg_entry_eq]
  generalize (lg_sl ([.int xv, .int 13]) ++ List.replicate (2 - (lg_sl ([.int xv, .int 13])).length) Slot.unset).toArray = ls at hl ⊢
  have hl : lv_has ls 2 [(0, .int xv), (1, .int 13)] := hl
  refine lv_iload_n hx hb d_M_signed_0 rfl (lv_at hl 0 rfl) ?_
  refine lv_iconst (v := 1) hx hb d_M_signed_1 (by decide) ?_
  refine lv_iload_n hx hb d_M_signed_2 rfl (lv_at hl 1 rfl) ?_
  refine lv_iconst (v := 1) hx hb d_M_signed_3 (by decide) ?_
  refine lv_isub hx hb d_M_signed_4 ?_
  refine tp_topi (v := 12) (by decide) ?_
  refine lv_ishl hx hb d_M_signed_5 ?_
  refine tp_topi (v := 4096) (by decide) ?_
  by_cases h1 : xv < 4096
  · refine lv_icmp_lt (tgt := 17) hx hb d_M_signed_6 (by decide) (fun _ => ?_) (fun h => absurd h1 h)
    refine lv_iload_n hx hb d_M_signed_17 rfl (lv_at hl 0 rfl) ?_
    exact W.iret (v := xv) hx hb hr (fun t ht hW => ⟨⟨_, (), rfl, (by rw [if_pos h1]), by rw [ht]; exact hP, hD⟩, hS.F ht⟩) hS.2.2 d_M_signed_18
  · refine lv_icmp_lt (tgt := 17) hx hb d_M_signed_6 (by decide) (fun h => absurd h h1) (fun _ => ?_)
    refine lv_iload_n hx hb d_M_signed_9 rfl (lv_at hl 0 rfl) ?_
    refine lv_iconst (v := 1) hx hb d_M_signed_10 (by decide) ?_
    refine lv_iload_n hx hb d_M_signed_11 rfl (lv_at hl 1 rfl) ?_
    refine lv_ishl hx hb d_M_signed_12 ?_
    refine tp_topi (v := 8192) (by decide) ?_
    refine lv_isub hx hb d_M_signed_13 ?_
    refine lv_goto (tgt := 18) hx hb d_M_signed_14 (by decide) ?_
    exact W.iret (v := (xv - 8192)) hx hb hr (fun t ht hW => ⟨⟨_, (), rfl, (by rw [if_neg h1]), by rw [ht]; exact hP, hD⟩, hS.F ht⟩) hS.2.2 d_M_signed_18
set_option maxHeartbeats 4000000 in
set_option maxRecDepth 100000 in
theorem a_M_signed21 (l : Launch) (E : tp_Env) (fr : va_W) (sz : Nat) (xv : Int32)  : Met l y_M_signed w_M_signed ({ frames := 0, cells := 0, slots := 0, locals := 0 }) (va_Pc [.int xv, .int 21] (tp_in E fr sz)) (va_Qi (fun r (_ : Unit) => r = (if xv < 1048576 then xv else xv - 2097152)) (fun _ t => tp_out E (va_A fr sz) fr t) (va_A fr sz)) 0 0 (va_A fr sz) := by
  refine Met.ofW (cc := b_M_signed) (maxL := 2) (ret := (some .int)) (by decide) rfl ?_
  intro p e s m args below meth c s₁ B hml hv
  obtain ⟨rfl, hsz, hP, hK, hD0⟩ := hv
  have hx := B.exec
  have hb := B.bytes
  have hr := B.returns
  have htg : ∀ w ∈ tp_G, w.before ([.int xv, .int 21] : List Value).toArray s = true := fun w h => atoms_spec (ws := w_M_signed) B.pre w (List.mem_cons_of_mem _ h)
  have hown : s.vm.findClass "TwoPassModel" = some m.cls := findClass_of_methodNamed B.named
  have hlocks := B.notSynchronized
  subst hsz
  have hD := hD0.self (sz := s.heap.size)
  generalize hAe : va_A fr s.heap.size = A at hD hK ⊢
  have hA : ∀ q : Nat, s.heap.size ≤ q → A q := fun q h => by rw [← hAe]; exact Or.inr h
  have hS : va_S A s.heap s.heap [] := va_S.rf
  have hl := lv_entry ([.int xv, .int 21]) (n := 2) (Nat.le_of_ble_eq_true rfl)
  rw [lg_entry_eq]
  generalize (lg_sl ([.int xv, .int 21]) ++ List.replicate (2 - (lg_sl ([.int xv, .int 21])).length) Slot.unset).toArray = ls at hl ⊢
  have hl : lv_has ls 2 [(0, .int xv), (1, .int 21)] := hl
  refine lv_iload_n hx hb d_M_signed_0 rfl (lv_at hl 0 rfl) ?_
  refine lv_iconst (v := 1) hx hb d_M_signed_1 (by decide) ?_
  refine lv_iload_n hx hb d_M_signed_2 rfl (lv_at hl 1 rfl) ?_
  refine lv_iconst (v := 1) hx hb d_M_signed_3 (by decide) ?_
  refine lv_isub hx hb d_M_signed_4 ?_
  refine tp_topi (v := 20) (by decide) ?_
  refine lv_ishl hx hb d_M_signed_5 ?_
  refine tp_topi (v := 1048576) (by decide) ?_
  by_cases h1 : xv < 1048576
  · refine lv_icmp_lt (tgt := 17) hx hb d_M_signed_6 (by decide) (fun _ => ?_) (fun h => absurd h1 h)
    refine lv_iload_n hx hb d_M_signed_17 rfl (lv_at hl 0 rfl) ?_
    exact W.iret (v := xv) hx hb hr (fun t ht hW => ⟨⟨_, (), rfl, (by rw [if_pos h1]), by rw [ht]; exact hP, hD⟩, hS.F ht⟩) hS.2.2 d_M_signed_18
  · refine lv_icmp_lt (tgt := 17) hx hb d_M_signed_6 (by decide) (fun h => absurd h h1) (fun _ => ?_)
    refine lv_iload_n hx hb d_M_signed_9 rfl (lv_at hl 0 rfl) ?_
    refine lv_iconst (v := 1) hx hb d_M_signed_10 (by decide) ?_
    refine lv_iload_n hx hb d_M_signed_11 rfl (lv_at hl 1 rfl) ?_
    refine lv_ishl hx hb d_M_signed_12 ?_
    refine tp_topi (v := 2097152) (by decide) ?_
    refine lv_isub hx hb d_M_signed_13 ?_
    refine lv_goto (tgt := 18) hx hb d_M_signed_14 (by decide) ?_
    exact W.iret (v := (xv - 2097152)) hx hb hr (fun t ht hW => ⟨⟨_, (), rfl, (by rw [if_neg h1]), by rw [ht]; exact hP, hD⟩, hS.F ht⟩) hS.2.2 d_M_signed_18
set_option maxHeartbeats 4000000 in
set_option maxRecDepth 100000 in
theorem a_M_operationOf (l : Launch) (E : tp_Env) (fr : va_W) (sz : Nat) (aM m_names m_forms m_text m_word m_count m_formOf m_codeOf m_dOf m_sOf m_tOf m_valueOf m_labelOf m_nameOf m_target m_place m_far m_image m_out : Nat) (m_thrown m_size m_bad m_at m_length m_form m_code m_d m_s m_t m_imageSize m_farCount m_written : Int32) (m_value m_label m_name : Int64) (f_forms : Nat → Int32) (xw : Int32)  : Met l y_M_operationOf w_M_operationOf ({ frames := 0, cells := 0, slots := 0, locals := 0 }) (va_Pc [.ref aM, .int xw] (tp_in E ((aM, .inr (4, [.int m_thrown, .ref m_names, .ref m_forms, .int m_size, .ref m_text, .int m_bad, .int m_at, .int m_length, .ref m_word, .int m_form, .int m_code, .int m_d, .int m_s, .int m_t, .long m_value, .long m_label, .long m_name, .ref m_count, .ref m_formOf, .ref m_codeOf, .ref m_dOf, .ref m_sOf, .ref m_tOf, .ref m_valueOf, .ref m_labelOf, .ref m_nameOf, .ref m_target, .ref m_place, .ref m_far, .int m_imageSize, .int m_farCount, .ref m_image, .int m_written, .ref m_out])) :: (m_forms, .inl (tp_ty E 0, 46, .inl f_forms)) :: fr) sz)) (va_Qi (fun r (_ : Unit) => tp_mhit xw f_forms r) (fun _ t => tp_out E (va_A ((aM, .inr (4, [.int m_thrown, .ref m_names, .ref m_forms, .int m_size, .ref m_text, .int m_bad, .int m_at, .int m_length, .ref m_word, .int m_form, .int m_code, .int m_d, .int m_s, .int m_t, .long m_value, .long m_label, .long m_name, .ref m_count, .ref m_formOf, .ref m_codeOf, .ref m_dOf, .ref m_sOf, .ref m_tOf, .ref m_valueOf, .ref m_labelOf, .ref m_nameOf, .ref m_target, .ref m_place, .ref m_far, .int m_imageSize, .int m_farCount, .ref m_image, .int m_written, .ref m_out])) :: (m_forms, .inl (tp_ty E 0, 46, .inl f_forms)) :: fr) sz) ((aM, .inr (4, [.int m_thrown, .ref m_names, .ref m_forms, .int m_size, .ref m_text, .int m_bad, .int m_at, .int m_length, .ref m_word, .int m_form, .int m_code, .int m_d, .int m_s, .int m_t, .long m_value, .long m_label, .long m_name, .ref m_count, .ref m_formOf, .ref m_codeOf, .ref m_dOf, .ref m_sOf, .ref m_tOf, .ref m_valueOf, .ref m_labelOf, .ref m_nameOf, .ref m_target, .ref m_place, .ref m_far, .int m_imageSize, .int m_farCount, .ref m_image, .int m_written, .ref m_out])) :: (m_forms, .inl (tp_ty E 0, 46, .inl f_forms)) :: fr) t) (va_A ((aM, .inr (4, [.int m_thrown, .ref m_names, .ref m_forms, .int m_size, .ref m_text, .int m_bad, .int m_at, .int m_length, .ref m_word, .int m_form, .int m_code, .int m_d, .int m_s, .int m_t, .long m_value, .long m_label, .long m_name, .ref m_count, .ref m_formOf, .ref m_codeOf, .ref m_dOf, .ref m_sOf, .ref m_tOf, .ref m_valueOf, .ref m_labelOf, .ref m_nameOf, .ref m_target, .ref m_place, .ref m_far, .int m_imageSize, .int m_farCount, .ref m_image, .int m_written, .ref m_out])) :: (m_forms, .inl (tp_ty E 0, 46, .inl f_forms)) :: fr) sz)) 0 0 (va_A ((aM, .inr (4, [.int m_thrown, .ref m_names, .ref m_forms, .int m_size, .ref m_text, .int m_bad, .int m_at, .int m_length, .ref m_word, .int m_form, .int m_code, .int m_d, .int m_s, .int m_t, .long m_value, .long m_label, .long m_name, .ref m_count, .ref m_formOf, .ref m_codeOf, .ref m_dOf, .ref m_sOf, .ref m_tOf, .ref m_valueOf, .ref m_labelOf, .ref m_nameOf, .ref m_target, .ref m_place, .ref m_far, .int m_imageSize, .int m_farCount, .ref m_image, .int m_written, .ref m_out])) :: (m_forms, .inl (tp_ty E 0, 46, .inl f_forms)) :: fr) sz) := by
  refine Met.ofW (cc := b_M_operationOf) (maxL := 9) (ret := (some .int)) (by decide) rfl ?_
  intro p e s m args below meth c s₁ B hml hv
  obtain ⟨rfl, hsz, hP, hK, hD0⟩ := hv
  have hx := B.exec
  have hb := B.bytes
  have hr := B.returns
  have htg : ∀ w ∈ tp_G, w.before ([.ref aM, .int xw] : List Value).toArray s = true := fun w h => atoms_spec (ws := w_M_operationOf) B.pre w (List.mem_cons_of_mem _ h)
  have hown : s.vm.findClass "TwoPassModel" = some m.cls := findClass_of_methodNamed B.named
  have hlocks := B.notSynchronized
  subst hsz
  have hD := hD0.self (sz := s.heap.size)
  generalize hAe : va_A ((aM, .inr (4, [.int m_thrown, .ref m_names, .ref m_forms, .int m_size, .ref m_text, .int m_bad, .int m_at, .int m_length, .ref m_word, .int m_form, .int m_code, .int m_d, .int m_s, .int m_t, .long m_value, .long m_label, .long m_name, .ref m_count, .ref m_formOf, .ref m_codeOf, .ref m_dOf, .ref m_sOf, .ref m_tOf, .ref m_valueOf, .ref m_labelOf, .ref m_nameOf, .ref m_target, .ref m_place, .ref m_far, .int m_imageSize, .int m_farCount, .ref m_image, .int m_written, .ref m_out])) :: (m_forms, .inl (tp_ty E 0, 46, .inl f_forms)) :: fr) s.heap.size = A at hD hK ⊢
  have hA : ∀ q : Nat, s.heap.size ≤ q → A q := fun q h => by rw [← hAe]; exact Or.inr h
  have hS : va_S A s.heap s.heap [] := va_S.rf
  have hl := lv_entry ([.ref aM, .int xw]) (n := 9) (Nat.le_of_ble_eq_true rfl)
  rw [lg_entry_eq]
  generalize (lg_sl ([.ref aM, .int xw]) ++ List.replicate (9 - (lg_sl ([.ref aM, .int xw])).length) Slot.unset).toArray = ls at hl ⊢
  have hl : lv_has ls 9 [(0, .ref aM), (1, .int xw)] := hl
  refine lv_iload_n hx hb d_M_operationOf_0 rfl (lv_at hl 1 rfl) ?_
  refine lv_bipush (v := 127) hx hb d_M_operationOf_1 (by decide) ?_
  refine lv_iand hx hb d_M_operationOf_3 ?_
  refine lv_istore_n (lv' := [(2, .int (xw &&& 127)), (0, .ref aM), (1, .int xw)]) hx hb d_M_operationOf_4 rfl hl (by decide) rfl (fun ls hl => ?_)
  refine lv_iload_n hx hb d_M_operationOf_5 rfl (lv_at hl 2 rfl) ?_
  refine lv_bipush (v := 12) hx hb d_M_operationOf_6 (by decide) ?_
  refine lv_ishr hx hb d_M_operationOf_8 ?_
  refine lv_bipush (v := 7) hx hb d_M_operationOf_9 (by decide) ?_
  refine lv_iand hx hb d_M_operationOf_11 ?_
  refine lv_istore_n (lv' := [(3, .int ((xw >>> (12 &&& 31 : Int32)) &&& 7)), (2, .int (xw &&& 127)), (0, .ref aM), (1, .int xw)]) hx hb d_M_operationOf_12 rfl hl (by decide) rfl (fun ls hl => ?_)
  refine lv_iload_n hx hb d_M_operationOf_13 rfl (lv_at hl 3 rfl) ?_
  refine lv_bipush (v := 25) hx hb d_M_operationOf_14 (by decide) ?_
  refine lv_iushr (v := (xw.toUInt32 >>> (Int32.toUInt32 25 &&& Int32.toUInt32 31)).toInt32) hx hb d_M_operationOf_16 rfl ?_
  refine lv_istore (lv' := [(4, .int ((xw.toUInt32 >>> (Int32.toUInt32 25 &&& Int32.toUInt32 31)).toInt32)), (3, .int ((xw >>> (12 &&& 31 : Int32)) &&& 7)), (2, .int (xw &&& 127)), (0, .ref aM), (1, .int xw)]) hx hb d_M_operationOf_17 hl (by decide) rfl (fun ls hl => ?_)
  refine lv_iconst (v := 0) hx hb d_M_operationOf_19 (by decide) ?_
  refine lv_istore (lv' := [(5, .int 0), (4, .int ((xw.toUInt32 >>> (Int32.toUInt32 25 &&& Int32.toUInt32 31)).toInt32)), (3, .int ((xw >>> (12 &&& 31 : Int32)) &&& 7)), (2, .int (xw &&& 127)), (0, .ref aM), (1, .int xw)]) hx hb d_M_operationOf_20 hl (by decide) rfl (fun ls hl => ?_)
  refine tp_loop (fun j ls H locs (k : Int32) => ((0 ≤ k.toInt) ∧ (k.toInt + (j : Int) = 33) ∧ (∀ i : Nat, i < k.toInt.toNat → ¬ tp_mm xw (f_forms i))) ∧ lv_has ls 9 [(5, .int k), (4, .int ((xw.toUInt32 >>> (Int32.toUInt32 25 &&& Int32.toUInt32 31)).toInt32)), (3, .int ((xw >>> (12 &&& 31 : Int32)) &&& 7)), (2, .int (xw &&& 127)), (0, .ref aM), (1, .int xw)] ∧ va_P (tp_D E) tp_cl ((aM, .inr (4, [.int m_thrown, .ref m_names, .ref m_forms, .int m_size, .ref m_text, .int m_bad, .int m_at, .int m_length, .ref m_word, .int m_form, .int m_code, .int m_d, .int m_s, .int m_t, .long m_value, .long m_label, .long m_name, .ref m_count, .ref m_formOf, .ref m_codeOf, .ref m_dOf, .ref m_sOf, .ref m_tOf, .ref m_valueOf, .ref m_labelOf, .ref m_nameOf, .ref m_target, .ref m_place, .ref m_far, .int m_imageSize, .int m_farCount, .ref m_image, .int m_written, .ref m_out])) :: (m_forms, .inl (tp_ty E 0, 46, .inl f_forms)) :: fr) H ∧ va_D A ((aM, .inr (4, [.int m_thrown, .ref m_names, .ref m_forms, .int m_size, .ref m_text, .int m_bad, .int m_at, .int m_length, .ref m_word, .int m_form, .int m_code, .int m_d, .int m_s, .int m_t, .long m_value, .long m_label, .long m_name, .ref m_count, .ref m_formOf, .ref m_codeOf, .ref m_dOf, .ref m_sOf, .ref m_tOf, .ref m_valueOf, .ref m_labelOf, .ref m_nameOf, .ref m_target, .ref m_place, .ref m_far, .int m_imageSize, .int m_farCount, .ref m_image, .int m_written, .ref m_out])) :: (m_forms, .inl (tp_ty E 0, 46, .inl f_forms)) :: fr) ∧ va_S A s.heap H locs) ?_ _ 0 ⟨⟨by decide, show (0 : Int32).toInt + ((33 : Nat) : Int) = 33 from by decide, fun i z => absurd z (by rw [Int32.toInt_zero]; omega)⟩, tp_lvI hl [0, 1, 2, 3, 4, 5] rfl, hP, hD, hS⟩
  intro j k ls H locs hI ih
  obtain ⟨⟨hk0, hj, hno⟩, hl, hP, hD, hS⟩ := hI
  refine lv_iload hx hb d_M_operationOf_22 (lv_at hl 0 rfl) ?_
  refine lv_bipush (v := 33) hx hb d_M_operationOf_24 (by decide) ?_
  by_cases h1 : 33 ≤ k
  · refine lv_icmp_ge (tgt := 202) hx hb d_M_operationOf_26 (by decide) (fun _ => ?_) (fun h => absurd h1 h)
    refine lv_iconst (v := (-1)) hx hb d_M_operationOf_202 (by decide) ?_
    exact W.iret (v := (-1)) hx hb hr (fun t ht hW => ⟨⟨_, (), rfl, Or.inl ⟨rfl, tp_allmm hno h1⟩, by rw [ht]; exact hP, hD⟩, hS.F ht⟩) hS.2.2 d_M_operationOf_203
  · refine lv_icmp_ge (tgt := 202) hx hb d_M_operationOf_26 (by decide) (fun h => absurd h h1) (fun _ => ?_)
    refine lv_aload_n hx hb d_M_operationOf_29 rfl (lv_at hl 4 rfl) ?_
    refine va_get (D := tp_D E) (ci := 4) (v := .ref m_forms) (C := qR_M) (T := qF_M) (N := 34) hx hb htg qi_M hown hK.1 hP 0 rfl rfl 2 (by decide) (htg _ kl_M_13) (fun _ h => h) rfl d_M_operationOf_30 ?_
    refine lv_iload hx hb d_M_operationOf_33 (lv_at hl 0 rfl) ?_
    refine va_iald (D := tp_D E) hx hb hK.1 hP 1 0 rfl rfl (tp_k33 hk0 h1) d_M_operationOf_35 ?_
    refine lv_ldcw (v := 100000) hx hb hown (htg _ kl_M_321) d_M_operationOf_36 ?_
    refine lv_idiv hx hb d_M_operationOf_39 (by decide) ?_
    refine lv_istore (lv' := [(6, .int ((f_forms k.toNatClampNeg) / 100000)), (5, .int k), (4, .int ((xw.toUInt32 >>> (Int32.toUInt32 25 &&& Int32.toUInt32 31)).toInt32)), (3, .int ((xw >>> (12 &&& 31 : Int32)) &&& 7)), (2, .int (xw &&& 127)), (0, .ref aM), (1, .int xw)]) hx hb d_M_operationOf_40 hl (by decide) rfl (fun ls hl => ?_)
    refine tp_join (pc' := 97) (fun ls H locs (is1 : Int32) => (((is1 = 1 ∧ tp_mA xw (f_forms k.toNatClampNeg)) ∨ (is1 = 0 ∧ ¬ tp_mA xw (f_forms k.toNatClampNeg)))) ∧ lv_has ls 9 [(7, .int is1), (6, .int ((f_forms k.toNatClampNeg) / 100000)), (5, .int k), (4, .int ((xw.toUInt32 >>> (Int32.toUInt32 25 &&& Int32.toUInt32 31)).toInt32)), (3, .int ((xw >>> (12 &&& 31 : Int32)) &&& 7)), (2, .int (xw &&& 127)), (0, .ref aM), (1, .int xw)] ∧ va_P (tp_D E) tp_cl ((aM, .inr (4, [.int m_thrown, .ref m_names, .ref m_forms, .int m_size, .ref m_text, .int m_bad, .int m_at, .int m_length, .ref m_word, .int m_form, .int m_code, .int m_d, .int m_s, .int m_t, .long m_value, .long m_label, .long m_name, .ref m_count, .ref m_formOf, .ref m_codeOf, .ref m_dOf, .ref m_sOf, .ref m_tOf, .ref m_valueOf, .ref m_labelOf, .ref m_nameOf, .ref m_target, .ref m_place, .ref m_far, .int m_imageSize, .int m_farCount, .ref m_image, .int m_written, .ref m_out])) :: (m_forms, .inl (tp_ty E 0, 46, .inl f_forms)) :: fr) H ∧ va_D A ((aM, .inr (4, [.int m_thrown, .ref m_names, .ref m_forms, .int m_size, .ref m_text, .int m_bad, .int m_at, .int m_length, .ref m_word, .int m_form, .int m_code, .int m_d, .int m_s, .int m_t, .long m_value, .long m_label, .long m_name, .ref m_count, .ref m_formOf, .ref m_codeOf, .ref m_dOf, .ref m_sOf, .ref m_tOf, .ref m_valueOf, .ref m_labelOf, .ref m_nameOf, .ref m_target, .ref m_place, .ref m_far, .int m_imageSize, .int m_farCount, .ref m_image, .int m_written, .ref m_out])) :: (m_forms, .inl (tp_ty E 0, 46, .inl f_forms)) :: fr) ∧ va_S A s.heap H locs) ?_ ?_
    · intro is1 ls H locs hI
      obtain ⟨hi1, hl, hP, hD, hS⟩ := hI
      refine tp_join (pc' := 118) (fun ls H locs (mk : Int32) => (((mk = 1 ∧ tp_mB (f_forms k.toNatClampNeg)) ∨ (mk = 0 ∧ ¬ tp_mB (f_forms k.toNatClampNeg)))) ∧ lv_has ls 9 [(8, .int mk), (7, .int is1), (6, .int ((f_forms k.toNatClampNeg) / 100000)), (5, .int k), (4, .int ((xw.toUInt32 >>> (Int32.toUInt32 25 &&& Int32.toUInt32 31)).toInt32)), (3, .int ((xw >>> (12 &&& 31 : Int32)) &&& 7)), (2, .int (xw &&& 127)), (0, .ref aM), (1, .int xw)] ∧ va_P (tp_D E) tp_cl ((aM, .inr (4, [.int m_thrown, .ref m_names, .ref m_forms, .int m_size, .ref m_text, .int m_bad, .int m_at, .int m_length, .ref m_word, .int m_form, .int m_code, .int m_d, .int m_s, .int m_t, .long m_value, .long m_label, .long m_name, .ref m_count, .ref m_formOf, .ref m_codeOf, .ref m_dOf, .ref m_sOf, .ref m_tOf, .ref m_valueOf, .ref m_labelOf, .ref m_nameOf, .ref m_target, .ref m_place, .ref m_far, .int m_imageSize, .int m_farCount, .ref m_image, .int m_written, .ref m_out])) :: (m_forms, .inl (tp_ty E 0, 46, .inl f_forms)) :: fr) H ∧ va_D A ((aM, .inr (4, [.int m_thrown, .ref m_names, .ref m_forms, .int m_size, .ref m_text, .int m_bad, .int m_at, .int m_length, .ref m_word, .int m_form, .int m_code, .int m_d, .int m_s, .int m_t, .long m_value, .long m_label, .long m_name, .ref m_count, .ref m_formOf, .ref m_codeOf, .ref m_dOf, .ref m_sOf, .ref m_tOf, .ref m_valueOf, .ref m_labelOf, .ref m_nameOf, .ref m_target, .ref m_place, .ref m_far, .int m_imageSize, .int m_farCount, .ref m_image, .int m_written, .ref m_out])) :: (m_forms, .inl (tp_ty E 0, 46, .inl f_forms)) :: fr) ∧ va_S A s.heap H locs) ?_ ?_
      · intro mk ls H locs hI
        obtain ⟨hmk, hl, hP, hD, hS⟩ := hI
        refine tp_join (pc' := 152) (fun ls H locs (is2 : Int32) => (((is2 = 1 ∧ (tp_mA xw (f_forms k.toNatClampNeg)) ∧ (tp_m1 xw (f_forms k.toNatClampNeg))) ∨ (is2 = 0 ∧ ¬ ((tp_mA xw (f_forms k.toNatClampNeg)) ∧ (tp_m1 xw (f_forms k.toNatClampNeg)))))) ∧ lv_has ls 9 [(7, .int is2), (8, .int mk), (6, .int ((f_forms k.toNatClampNeg) / 100000)), (5, .int k), (4, .int ((xw.toUInt32 >>> (Int32.toUInt32 25 &&& Int32.toUInt32 31)).toInt32)), (3, .int ((xw >>> (12 &&& 31 : Int32)) &&& 7)), (2, .int (xw &&& 127)), (0, .ref aM), (1, .int xw)] ∧ va_P (tp_D E) tp_cl ((aM, .inr (4, [.int m_thrown, .ref m_names, .ref m_forms, .int m_size, .ref m_text, .int m_bad, .int m_at, .int m_length, .ref m_word, .int m_form, .int m_code, .int m_d, .int m_s, .int m_t, .long m_value, .long m_label, .long m_name, .ref m_count, .ref m_formOf, .ref m_codeOf, .ref m_dOf, .ref m_sOf, .ref m_tOf, .ref m_valueOf, .ref m_labelOf, .ref m_nameOf, .ref m_target, .ref m_place, .ref m_far, .int m_imageSize, .int m_farCount, .ref m_image, .int m_written, .ref m_out])) :: (m_forms, .inl (tp_ty E 0, 46, .inl f_forms)) :: fr) H ∧ va_D A ((aM, .inr (4, [.int m_thrown, .ref m_names, .ref m_forms, .int m_size, .ref m_text, .int m_bad, .int m_at, .int m_length, .ref m_word, .int m_form, .int m_code, .int m_d, .int m_s, .int m_t, .long m_value, .long m_label, .long m_name, .ref m_count, .ref m_formOf, .ref m_codeOf, .ref m_dOf, .ref m_sOf, .ref m_tOf, .ref m_valueOf, .ref m_labelOf, .ref m_nameOf, .ref m_target, .ref m_place, .ref m_far, .int m_imageSize, .int m_farCount, .ref m_image, .int m_written, .ref m_out])) :: (m_forms, .inl (tp_ty E 0, 46, .inl f_forms)) :: fr) ∧ va_S A s.heap H locs) ?_ ?_
        · intro is2 ls H locs hI
          obtain ⟨hi2, hl, hP, hD, hS⟩ := hI
          refine tp_join (pc' := 188) (fun ls H locs (is3 : Int32) => (((is3 = 1 ∧ tp_mm xw (f_forms k.toNatClampNeg)) ∨ (is3 = 0 ∧ ¬ tp_mm xw (f_forms k.toNatClampNeg)))) ∧ lv_has ls 9 [(7, .int is3), (8, .int mk), (6, .int ((f_forms k.toNatClampNeg) / 100000)), (5, .int k), (4, .int ((xw.toUInt32 >>> (Int32.toUInt32 25 &&& Int32.toUInt32 31)).toInt32)), (3, .int ((xw >>> (12 &&& 31 : Int32)) &&& 7)), (2, .int (xw &&& 127)), (0, .ref aM), (1, .int xw)] ∧ va_P (tp_D E) tp_cl ((aM, .inr (4, [.int m_thrown, .ref m_names, .ref m_forms, .int m_size, .ref m_text, .int m_bad, .int m_at, .int m_length, .ref m_word, .int m_form, .int m_code, .int m_d, .int m_s, .int m_t, .long m_value, .long m_label, .long m_name, .ref m_count, .ref m_formOf, .ref m_codeOf, .ref m_dOf, .ref m_sOf, .ref m_tOf, .ref m_valueOf, .ref m_labelOf, .ref m_nameOf, .ref m_target, .ref m_place, .ref m_far, .int m_imageSize, .int m_farCount, .ref m_image, .int m_written, .ref m_out])) :: (m_forms, .inl (tp_ty E 0, 46, .inl f_forms)) :: fr) H ∧ va_D A ((aM, .inr (4, [.int m_thrown, .ref m_names, .ref m_forms, .int m_size, .ref m_text, .int m_bad, .int m_at, .int m_length, .ref m_word, .int m_form, .int m_code, .int m_d, .int m_s, .int m_t, .long m_value, .long m_label, .long m_name, .ref m_count, .ref m_formOf, .ref m_codeOf, .ref m_dOf, .ref m_sOf, .ref m_tOf, .ref m_valueOf, .ref m_labelOf, .ref m_nameOf, .ref m_target, .ref m_place, .ref m_far, .int m_imageSize, .int m_farCount, .ref m_image, .int m_written, .ref m_out])) :: (m_forms, .inl (tp_ty E 0, 46, .inl f_forms)) :: fr) ∧ va_S A s.heap H locs) ?_ ?_
          · intro is3 ls H locs hI
            obtain ⟨hi3, hl, hP, hD, hS⟩ := hI
            refine lv_iload hx hb d_M_operationOf_188 (lv_at hl 0 rfl) ?_
            by_cases h2 : is3 = 0
            · refine lv_if_eq (tgt := 196) hx hb d_M_operationOf_190 (by decide) (fun _ => ?_) (fun h => absurd h2 h)
              refine lv_iinc (k := 3) (v := (k + 1)) (lv' := [(5, .int (k + 1)), (7, .int is3), (8, .int mk), (6, .int ((f_forms k.toNatClampNeg) / 100000)), (4, .int ((xw.toUInt32 >>> (Int32.toUInt32 25 &&& Int32.toUInt32 31)).toInt32)), (3, .int ((xw >>> (12 &&& 31 : Int32)) &&& 7)), (2, .int (xw &&& 127)), (0, .ref aM), (1, .int xw)]) hx hb d_M_operationOf_196 hl rfl rfl (by decide) rfl (fun ls hl => ?_)
              refine lv_goto (tgt := 22) hx hb d_M_operationOf_199 (by decide) ?_
              have hkn := tp_l33 h1
              have hk1 : (k + 1).toInt = k.toInt + 1 := tp_inc (by omega)
              exact ih (j - 1) (k + 1) ls _ _ (by omega) ⟨⟨by omega, by omega, tp_nomm hno hk0 hk1 (tp_not3 hi3 h2)⟩, tp_lvI hl [0, 4, 5, 6, 7, 8] rfl, hP, hD, hS⟩
            · refine lv_if_eq (tgt := 196) hx hb d_M_operationOf_190 (by decide) (fun h => absurd h h2) (fun _ => ?_)
              refine lv_iload hx hb d_M_operationOf_193 (lv_at hl 3 rfl) ?_
              exact W.iret (v := k) hx hb hr (fun t ht hW => ⟨⟨_, (), rfl, Or.inr ⟨hk0, tp_l33 h1, tp_yes3 hi3 h2, hno⟩, by rw [ht]; exact hP, hD⟩, hS.F ht⟩) hS.2.2 d_M_operationOf_195
          · intro jn188
            refine lv_iload hx hb d_M_operationOf_152 (lv_at hl 2 rfl) ?_
            refine lv_iconst (v := 3) hx hb d_M_operationOf_154 (by decide) ?_
            by_cases h2 : ((f_forms k.toNatClampNeg) / 100000) = 3
            · refine lv_icmp_ne (tgt := 188) hx hb d_M_operationOf_155 (by decide) (fun h => absurd h2 h) (fun _ => ?_)
              refine lv_iload hx hb d_M_operationOf_158 (lv_at hl 0 rfl) ?_
              by_cases h3 : is2 = 0
              · refine lv_if_eq (tgt := 185) hx hb d_M_operationOf_160 (by decide) (fun _ => ?_) (fun h => absurd h3 h)
                refine lv_iconst (v := 0) hx hb d_M_operationOf_185 (by decide) ?_
                refine lv_istore (lv' := [(7, .int 0), (8, .int mk), (6, .int ((f_forms k.toNatClampNeg) / 100000)), (5, .int k), (4, .int ((xw.toUInt32 >>> (Int32.toUInt32 25 &&& Int32.toUInt32 31)).toInt32)), (3, .int ((xw >>> (12 &&& 31 : Int32)) &&& 7)), (2, .int (xw &&& 127)), (0, .ref aM), (1, .int xw)]) hx hb d_M_operationOf_186 hl (by decide) rfl (fun ls hl => ?_)
                exact jn188 0 ls _ _ ⟨tp_D2 hi2 hmk h2 h3, tp_lvI hl [0, 1, 2, 3, 4, 5, 6, 7, 8] rfl, hP, hD, hS⟩
              · refine lv_if_eq (tgt := 185) hx hb d_M_operationOf_160 (by decide) (fun h => absurd h h3) (fun _ => ?_)
                refine lv_iload_n hx hb d_M_operationOf_163 rfl (lv_at hl 8 rfl) ?_
                refine lv_bipush (v := 26) hx hb d_M_operationOf_164 (by decide) ?_
                refine lv_iushr (v := (xw.toUInt32 >>> (Int32.toUInt32 26 &&& Int32.toUInt32 31)).toInt32) hx hb d_M_operationOf_166 rfl ?_
                refine lv_iload hx hb d_M_operationOf_167 (lv_at hl 1 rfl) ?_
                by_cases h4 : mk = 0
                · refine lv_if_eq (tgt := 177) hx hb d_M_operationOf_169 (by decide) (fun _ => ?_) (fun h => absurd h4 h)
                  refine lv_iconst (v := 0) hx hb d_M_operationOf_177 (by decide) ?_
                  by_cases h5 : (xw.toUInt32 >>> (Int32.toUInt32 26 &&& Int32.toUInt32 31)).toInt32 = 0
                  · refine lv_icmp_ne (tgt := 185) hx hb d_M_operationOf_178 (by decide) (fun h => absurd h5 h) (fun _ => ?_)
                    refine lv_iconst (v := 1) hx hb d_M_operationOf_181 (by decide) ?_
                    refine lv_goto (tgt := 186) hx hb d_M_operationOf_182 (by decide) ?_
                    refine lv_istore (lv' := [(7, .int 1), (8, .int mk), (6, .int ((f_forms k.toNatClampNeg) / 100000)), (5, .int k), (4, .int ((xw.toUInt32 >>> (Int32.toUInt32 25 &&& Int32.toUInt32 31)).toInt32)), (3, .int ((xw >>> (12 &&& 31 : Int32)) &&& 7)), (2, .int (xw &&& 127)), (0, .ref aM), (1, .int xw)]) hx hb d_M_operationOf_186 hl (by decide) rfl (fun ls hl => ?_)
                    exact jn188 1 ls _ _ ⟨tp_D1 hi2 hmk h2 h3 h4 h5 (Or.inl ⟨rfl, rfl⟩), tp_lvI hl [0, 1, 2, 3, 4, 5, 6, 7, 8] rfl, hP, hD, hS⟩
                  · refine lv_icmp_ne (tgt := 185) hx hb d_M_operationOf_178 (by decide) (fun _ => ?_) (fun h => absurd h h5)
                    refine lv_iconst (v := 0) hx hb d_M_operationOf_185 (by decide) ?_
                    refine lv_istore (lv' := [(7, .int 0), (8, .int mk), (6, .int ((f_forms k.toNatClampNeg) / 100000)), (5, .int k), (4, .int ((xw.toUInt32 >>> (Int32.toUInt32 25 &&& Int32.toUInt32 31)).toInt32)), (3, .int ((xw >>> (12 &&& 31 : Int32)) &&& 7)), (2, .int (xw &&& 127)), (0, .ref aM), (1, .int xw)]) hx hb d_M_operationOf_186 hl (by decide) rfl (fun ls hl => ?_)
                    exact jn188 0 ls _ _ ⟨tp_D3 hi2 hmk h2 h3 h4 h5 (Or.inl ⟨rfl, rfl⟩), tp_lvI hl [0, 1, 2, 3, 4, 5, 6, 7, 8] rfl, hP, hD, hS⟩
                · refine lv_if_eq (tgt := 177) hx hb d_M_operationOf_169 (by decide) (fun h => absurd h h4) (fun _ => ?_)
                  refine lv_bipush (v := 16) hx hb d_M_operationOf_172 (by decide) ?_
                  refine lv_goto (tgt := 178) hx hb d_M_operationOf_174 (by decide) ?_
                  by_cases h5 : (xw.toUInt32 >>> (Int32.toUInt32 26 &&& Int32.toUInt32 31)).toInt32 = 16
                  · refine lv_icmp_ne (tgt := 185) hx hb d_M_operationOf_178 (by decide) (fun h => absurd h5 h) (fun _ => ?_)
                    refine lv_iconst (v := 1) hx hb d_M_operationOf_181 (by decide) ?_
                    refine lv_goto (tgt := 186) hx hb d_M_operationOf_182 (by decide) ?_
                    refine lv_istore (lv' := [(7, .int 1), (8, .int mk), (6, .int ((f_forms k.toNatClampNeg) / 100000)), (5, .int k), (4, .int ((xw.toUInt32 >>> (Int32.toUInt32 25 &&& Int32.toUInt32 31)).toInt32)), (3, .int ((xw >>> (12 &&& 31 : Int32)) &&& 7)), (2, .int (xw &&& 127)), (0, .ref aM), (1, .int xw)]) hx hb d_M_operationOf_186 hl (by decide) rfl (fun ls hl => ?_)
                    exact jn188 1 ls _ _ ⟨tp_D1 hi2 hmk h2 h3 h4 h5 (Or.inr ⟨rfl, rfl⟩), tp_lvI hl [0, 1, 2, 3, 4, 5, 6, 7, 8] rfl, hP, hD, hS⟩
                  · refine lv_icmp_ne (tgt := 185) hx hb d_M_operationOf_178 (by decide) (fun _ => ?_) (fun h => absurd h h5)
                    refine lv_iconst (v := 0) hx hb d_M_operationOf_185 (by decide) ?_
                    refine lv_istore (lv' := [(7, .int 0), (8, .int mk), (6, .int ((f_forms k.toNatClampNeg) / 100000)), (5, .int k), (4, .int ((xw.toUInt32 >>> (Int32.toUInt32 25 &&& Int32.toUInt32 31)).toInt32)), (3, .int ((xw >>> (12 &&& 31 : Int32)) &&& 7)), (2, .int (xw &&& 127)), (0, .ref aM), (1, .int xw)]) hx hb d_M_operationOf_186 hl (by decide) rfl (fun ls hl => ?_)
                    exact jn188 0 ls _ _ ⟨tp_D3 hi2 hmk h2 h3 h4 h5 (Or.inr ⟨rfl, rfl⟩), tp_lvI hl [0, 1, 2, 3, 4, 5, 6, 7, 8] rfl, hP, hD, hS⟩
            · refine lv_icmp_ne (tgt := 188) hx hb d_M_operationOf_155 (by decide) (fun _ => ?_) (fun h => absurd h h2)
              exact jn188 is2 ls _ _ ⟨tp_D0 hi2 h2, tp_lvI hl [0, 1, 2, 3, 4, 5, 6, 7, 8] rfl, hP, hD, hS⟩
        · intro jn152
          refine lv_iload hx hb d_M_operationOf_118 (lv_at hl 2 rfl) ?_
          refine lv_iconst (v := 1) hx hb d_M_operationOf_120 (by decide) ?_
          by_cases h2 : ((f_forms k.toNatClampNeg) / 100000) = 1
          · refine lv_icmp_ne (tgt := 152) hx hb d_M_operationOf_121 (by decide) (fun h => absurd h2 h) (fun _ => ?_)
            refine lv_iload hx hb d_M_operationOf_124 (lv_at hl 1 rfl) ?_
            by_cases h3 : is1 = 0
            · refine lv_if_eq (tgt := 149) hx hb d_M_operationOf_126 (by decide) (fun _ => ?_) (fun h => absurd h3 h)
              refine lv_iconst (v := 0) hx hb d_M_operationOf_149 (by decide) ?_
              refine lv_istore (lv' := [(7, .int 0), (8, .int mk), (6, .int ((f_forms k.toNatClampNeg) / 100000)), (5, .int k), (4, .int ((xw.toUInt32 >>> (Int32.toUInt32 25 &&& Int32.toUInt32 31)).toInt32)), (3, .int ((xw >>> (12 &&& 31 : Int32)) &&& 7)), (2, .int (xw &&& 127)), (0, .ref aM), (1, .int xw)]) hx hb d_M_operationOf_150 hl (by decide) rfl (fun ls hl => ?_)
              exact jn152 0 ls _ _ ⟨tp_C2 hi1 hmk h2 h3, tp_lvI hl [0, 1, 2, 3, 4, 5, 6, 7, 8] rfl, hP, hD, hS⟩
            · refine lv_if_eq (tgt := 149) hx hb d_M_operationOf_126 (by decide) (fun h => absurd h h3) (fun _ => ?_)
              refine lv_iload hx hb d_M_operationOf_129 (lv_at hl 4 rfl) ?_
              refine lv_iload hx hb d_M_operationOf_131 (lv_at hl 0 rfl) ?_
              by_cases h4 : mk = 0
              · refine lv_if_eq (tgt := 141) hx hb d_M_operationOf_133 (by decide) (fun _ => ?_) (fun h => absurd h4 h)
                refine lv_iconst (v := 0) hx hb d_M_operationOf_141 (by decide) ?_
                by_cases h5 : (xw.toUInt32 >>> (Int32.toUInt32 25 &&& Int32.toUInt32 31)).toInt32 = 0
                · refine lv_icmp_ne (tgt := 149) hx hb d_M_operationOf_142 (by decide) (fun h => absurd h5 h) (fun _ => ?_)
                  refine lv_iconst (v := 1) hx hb d_M_operationOf_145 (by decide) ?_
                  refine lv_goto (tgt := 150) hx hb d_M_operationOf_146 (by decide) ?_
                  refine lv_istore (lv' := [(7, .int 1), (8, .int mk), (6, .int ((f_forms k.toNatClampNeg) / 100000)), (5, .int k), (4, .int ((xw.toUInt32 >>> (Int32.toUInt32 25 &&& Int32.toUInt32 31)).toInt32)), (3, .int ((xw >>> (12 &&& 31 : Int32)) &&& 7)), (2, .int (xw &&& 127)), (0, .ref aM), (1, .int xw)]) hx hb d_M_operationOf_150 hl (by decide) rfl (fun ls hl => ?_)
                  exact jn152 1 ls _ _ ⟨tp_C1 hi1 hmk h2 h3 h4 h5 (Or.inl ⟨rfl, rfl⟩), tp_lvI hl [0, 1, 2, 3, 4, 5, 6, 7, 8] rfl, hP, hD, hS⟩
                · refine lv_icmp_ne (tgt := 149) hx hb d_M_operationOf_142 (by decide) (fun _ => ?_) (fun h => absurd h h5)
                  refine lv_iconst (v := 0) hx hb d_M_operationOf_149 (by decide) ?_
                  refine lv_istore (lv' := [(7, .int 0), (8, .int mk), (6, .int ((f_forms k.toNatClampNeg) / 100000)), (5, .int k), (4, .int ((xw.toUInt32 >>> (Int32.toUInt32 25 &&& Int32.toUInt32 31)).toInt32)), (3, .int ((xw >>> (12 &&& 31 : Int32)) &&& 7)), (2, .int (xw &&& 127)), (0, .ref aM), (1, .int xw)]) hx hb d_M_operationOf_150 hl (by decide) rfl (fun ls hl => ?_)
                  exact jn152 0 ls _ _ ⟨tp_C3 hi1 hmk h2 h3 h4 h5 (Or.inl ⟨rfl, rfl⟩), tp_lvI hl [0, 1, 2, 3, 4, 5, 6, 7, 8] rfl, hP, hD, hS⟩
              · refine lv_if_eq (tgt := 141) hx hb d_M_operationOf_133 (by decide) (fun h => absurd h h4) (fun _ => ?_)
                refine lv_bipush (v := 32) hx hb d_M_operationOf_136 (by decide) ?_
                refine lv_goto (tgt := 142) hx hb d_M_operationOf_138 (by decide) ?_
                by_cases h5 : (xw.toUInt32 >>> (Int32.toUInt32 25 &&& Int32.toUInt32 31)).toInt32 = 32
                · refine lv_icmp_ne (tgt := 149) hx hb d_M_operationOf_142 (by decide) (fun h => absurd h5 h) (fun _ => ?_)
                  refine lv_iconst (v := 1) hx hb d_M_operationOf_145 (by decide) ?_
                  refine lv_goto (tgt := 150) hx hb d_M_operationOf_146 (by decide) ?_
                  refine lv_istore (lv' := [(7, .int 1), (8, .int mk), (6, .int ((f_forms k.toNatClampNeg) / 100000)), (5, .int k), (4, .int ((xw.toUInt32 >>> (Int32.toUInt32 25 &&& Int32.toUInt32 31)).toInt32)), (3, .int ((xw >>> (12 &&& 31 : Int32)) &&& 7)), (2, .int (xw &&& 127)), (0, .ref aM), (1, .int xw)]) hx hb d_M_operationOf_150 hl (by decide) rfl (fun ls hl => ?_)
                  exact jn152 1 ls _ _ ⟨tp_C1 hi1 hmk h2 h3 h4 h5 (Or.inr ⟨rfl, rfl⟩), tp_lvI hl [0, 1, 2, 3, 4, 5, 6, 7, 8] rfl, hP, hD, hS⟩
                · refine lv_icmp_ne (tgt := 149) hx hb d_M_operationOf_142 (by decide) (fun _ => ?_) (fun h => absurd h h5)
                  refine lv_iconst (v := 0) hx hb d_M_operationOf_149 (by decide) ?_
                  refine lv_istore (lv' := [(7, .int 0), (8, .int mk), (6, .int ((f_forms k.toNatClampNeg) / 100000)), (5, .int k), (4, .int ((xw.toUInt32 >>> (Int32.toUInt32 25 &&& Int32.toUInt32 31)).toInt32)), (3, .int ((xw >>> (12 &&& 31 : Int32)) &&& 7)), (2, .int (xw &&& 127)), (0, .ref aM), (1, .int xw)]) hx hb d_M_operationOf_150 hl (by decide) rfl (fun ls hl => ?_)
                  exact jn152 0 ls _ _ ⟨tp_C3 hi1 hmk h2 h3 h4 h5 (Or.inr ⟨rfl, rfl⟩), tp_lvI hl [0, 1, 2, 3, 4, 5, 6, 7, 8] rfl, hP, hD, hS⟩
          · refine lv_icmp_ne (tgt := 152) hx hb d_M_operationOf_121 (by decide) (fun _ => ?_) (fun h => absurd h h2)
            exact jn152 is1 ls _ _ ⟨tp_C0 hi1 h2, tp_lvI hl [1, 0, 2, 3, 4, 5, 6, 7, 8] rfl, hP, hD, hS⟩
      · intro jn118
        refine lv_aload_n hx hb d_M_operationOf_97 rfl (lv_at hl 6 rfl) ?_
        refine va_get (D := tp_D E) (ci := 4) (v := .ref m_forms) (C := qR_M) (T := qF_M) (N := 34) hx hb htg qi_M hown hK.1 hP 0 rfl rfl 2 (by decide) (htg _ kl_M_13) (fun _ h => h) rfl d_M_operationOf_98 ?_
        refine lv_iload hx hb d_M_operationOf_101 (lv_at hl 2 rfl) ?_
        refine va_iald (D := tp_D E) hx hb hK.1 hP 1 0 rfl rfl (tp_k33 hk0 h1) d_M_operationOf_103 ?_
        refine lv_bipush (v := 10) hx hb d_M_operationOf_104 (by decide) ?_
        refine lv_irem hx hb d_M_operationOf_106 (by decide) ?_
        refine lv_iconst (v := 1) hx hb d_M_operationOf_107 (by decide) ?_
        by_cases h2 : ((f_forms k.toNatClampNeg) - (f_forms k.toNatClampNeg) / 10 * 10) = 1
        · refine lv_icmp_ne (tgt := 115) hx hb d_M_operationOf_108 (by decide) (fun h => absurd h2 h) (fun _ => ?_)
          refine lv_iconst (v := 1) hx hb d_M_operationOf_111 (by decide) ?_
          refine lv_goto (tgt := 116) hx hb d_M_operationOf_112 (by decide) ?_
          refine lv_istore (lv' := [(8, .int 1), (7, .int is1), (6, .int ((f_forms k.toNatClampNeg) / 100000)), (5, .int k), (4, .int ((xw.toUInt32 >>> (Int32.toUInt32 25 &&& Int32.toUInt32 31)).toInt32)), (3, .int ((xw >>> (12 &&& 31 : Int32)) &&& 7)), (2, .int (xw &&& 127)), (0, .ref aM), (1, .int xw)]) hx hb d_M_operationOf_116 hl (by decide) rfl (fun ls hl => ?_)
          exact jn118 1 ls _ _ ⟨Or.inl ⟨rfl, h2⟩, tp_lvI hl [0, 1, 2, 3, 4, 5, 6, 7, 8] rfl, hP, hD, hS⟩
        · refine lv_icmp_ne (tgt := 115) hx hb d_M_operationOf_108 (by decide) (fun _ => ?_) (fun h => absurd h h2)
          refine lv_iconst (v := 0) hx hb d_M_operationOf_115 (by decide) ?_
          refine lv_istore (lv' := [(8, .int 0), (7, .int is1), (6, .int ((f_forms k.toNatClampNeg) / 100000)), (5, .int k), (4, .int ((xw.toUInt32 >>> (Int32.toUInt32 25 &&& Int32.toUInt32 31)).toInt32)), (3, .int ((xw >>> (12 &&& 31 : Int32)) &&& 7)), (2, .int (xw &&& 127)), (0, .ref aM), (1, .int xw)]) hx hb d_M_operationOf_116 hl (by decide) rfl (fun ls hl => ?_)
          exact jn118 0 ls _ _ ⟨Or.inr ⟨rfl, h2⟩, tp_lvI hl [0, 1, 2, 3, 4, 5, 6, 7, 8] rfl, hP, hD, hS⟩
    · intro jn97
      refine lv_aload_n hx hb d_M_operationOf_42 rfl (lv_at hl 5 rfl) ?_
      refine va_get (D := tp_D E) (ci := 4) (v := .ref m_forms) (C := qR_M) (T := qF_M) (N := 34) hx hb htg qi_M hown hK.1 hP 0 rfl rfl 2 (by decide) (htg _ kl_M_13) (fun _ h => h) rfl d_M_operationOf_43 ?_
      refine lv_iload hx hb d_M_operationOf_46 (lv_at hl 1 rfl) ?_
      refine va_iald (D := tp_D E) hx hb hK.1 hP 1 0 rfl rfl (tp_k33 hk0 h1) d_M_operationOf_48 ?_
      refine lv_bipush (v := 100) hx hb d_M_operationOf_49 (by decide) ?_
      refine lv_idiv hx hb d_M_operationOf_51 (by decide) ?_
      refine lv_sipush (v := 1000) hx hb d_M_operationOf_52 (by decide) ?_
      refine lv_irem hx hb d_M_operationOf_55 (by decide) ?_
      refine lv_iload_n hx hb d_M_operationOf_56 rfl (lv_at hl 4 rfl) ?_
      by_cases h2 : (((f_forms k.toNatClampNeg) / 100) - ((f_forms k.toNatClampNeg) / 100) / 1000 * 1000) = (xw &&& 127)
      · refine lv_icmp_ne (tgt := 94) hx hb d_M_operationOf_57 (by decide) (fun h => absurd h2 h) (fun _ => ?_)
        refine lv_iload hx hb d_M_operationOf_60 (lv_at hl 0 rfl) ?_
        refine lv_iconst (v := 4) hx hb d_M_operationOf_62 (by decide) ?_
        by_cases h3 : ((f_forms k.toNatClampNeg) / 100000) = 4
        · refine lv_icmp_eq (tgt := 90) hx hb d_M_operationOf_63 (by decide) (fun _ => ?_) (fun h => absurd h3 h)
          refine lv_iconst (v := 1) hx hb d_M_operationOf_90 (by decide) ?_
          refine lv_goto (tgt := 95) hx hb d_M_operationOf_91 (by decide) ?_
          refine lv_istore (lv' := [(7, .int 1), (6, .int ((f_forms k.toNatClampNeg) / 100000)), (5, .int k), (4, .int ((xw.toUInt32 >>> (Int32.toUInt32 25 &&& Int32.toUInt32 31)).toInt32)), (3, .int ((xw >>> (12 &&& 31 : Int32)) &&& 7)), (2, .int (xw &&& 127)), (0, .ref aM), (1, .int xw)]) hx hb d_M_operationOf_95 hl (by decide) rfl (fun ls hl => ?_)
          exact jn97 1 ls _ _ ⟨Or.inl ⟨rfl, ⟨h2, Or.inl h3⟩⟩, tp_lvI hl [0, 1, 2, 3, 4, 5, 6, 7] rfl, hP, hD, hS⟩
        · refine lv_icmp_eq (tgt := 90) hx hb d_M_operationOf_63 (by decide) (fun h => absurd h h3) (fun _ => ?_)
          refine lv_iload hx hb d_M_operationOf_66 (lv_at hl 0 rfl) ?_
          refine lv_bipush (v := 8) hx hb d_M_operationOf_68 (by decide) ?_
          by_cases h4 : ((f_forms k.toNatClampNeg) / 100000) = 8
          · refine lv_icmp_eq (tgt := 90) hx hb d_M_operationOf_70 (by decide) (fun _ => ?_) (fun h => absurd h4 h)
            refine lv_iconst (v := 1) hx hb d_M_operationOf_90 (by decide) ?_
            refine lv_goto (tgt := 95) hx hb d_M_operationOf_91 (by decide) ?_
            refine lv_istore (lv' := [(7, .int 1), (6, .int ((f_forms k.toNatClampNeg) / 100000)), (5, .int k), (4, .int ((xw.toUInt32 >>> (Int32.toUInt32 25 &&& Int32.toUInt32 31)).toInt32)), (3, .int ((xw >>> (12 &&& 31 : Int32)) &&& 7)), (2, .int (xw &&& 127)), (0, .ref aM), (1, .int xw)]) hx hb d_M_operationOf_95 hl (by decide) rfl (fun ls hl => ?_)
            exact jn97 1 ls _ _ ⟨Or.inl ⟨rfl, ⟨h2, Or.inr (Or.inl h4)⟩⟩, tp_lvI hl [0, 1, 2, 3, 4, 5, 6, 7] rfl, hP, hD, hS⟩
          · refine lv_icmp_eq (tgt := 90) hx hb d_M_operationOf_70 (by decide) (fun h => absurd h h4) (fun _ => ?_)
            refine lv_aload_n hx hb d_M_operationOf_73 rfl (lv_at hl 5 rfl) ?_
            refine va_get (D := tp_D E) (ci := 4) (v := .ref m_forms) (C := qR_M) (T := qF_M) (N := 34) hx hb htg qi_M hown hK.1 hP 0 rfl rfl 2 (by decide) (htg _ kl_M_13) (fun _ h => h) rfl d_M_operationOf_74 ?_
            refine lv_iload hx hb d_M_operationOf_77 (lv_at hl 1 rfl) ?_
            refine va_iald (D := tp_D E) hx hb hK.1 hP 1 0 rfl rfl (tp_k33 hk0 h1) d_M_operationOf_79 ?_
            refine lv_bipush (v := 10) hx hb d_M_operationOf_80 (by decide) ?_
            refine lv_idiv hx hb d_M_operationOf_82 (by decide) ?_
            refine lv_bipush (v := 10) hx hb d_M_operationOf_83 (by decide) ?_
            refine lv_irem hx hb d_M_operationOf_85 (by decide) ?_
            refine lv_iload_n hx hb d_M_operationOf_86 rfl (lv_at hl 3 rfl) ?_
            by_cases h5 : (((f_forms k.toNatClampNeg) / 10) - ((f_forms k.toNatClampNeg) / 10) / 10 * 10) = ((xw >>> (12 &&& 31 : Int32)) &&& 7)
            · refine lv_icmp_ne (tgt := 94) hx hb d_M_operationOf_87 (by decide) (fun h => absurd h5 h) (fun _ => ?_)
              refine lv_iconst (v := 1) hx hb d_M_operationOf_90 (by decide) ?_
              refine lv_goto (tgt := 95) hx hb d_M_operationOf_91 (by decide) ?_
              refine lv_istore (lv' := [(7, .int 1), (6, .int ((f_forms k.toNatClampNeg) / 100000)), (5, .int k), (4, .int ((xw.toUInt32 >>> (Int32.toUInt32 25 &&& Int32.toUInt32 31)).toInt32)), (3, .int ((xw >>> (12 &&& 31 : Int32)) &&& 7)), (2, .int (xw &&& 127)), (0, .ref aM), (1, .int xw)]) hx hb d_M_operationOf_95 hl (by decide) rfl (fun ls hl => ?_)
              exact jn97 1 ls _ _ ⟨Or.inl ⟨rfl, ⟨h2, Or.inr (Or.inr h5)⟩⟩, tp_lvI hl [0, 1, 2, 3, 4, 5, 6, 7] rfl, hP, hD, hS⟩
            · refine lv_icmp_ne (tgt := 94) hx hb d_M_operationOf_87 (by decide) (fun _ => ?_) (fun h => absurd h h5)
              refine lv_iconst (v := 0) hx hb d_M_operationOf_94 (by decide) ?_
              refine lv_istore (lv' := [(7, .int 0), (6, .int ((f_forms k.toNatClampNeg) / 100000)), (5, .int k), (4, .int ((xw.toUInt32 >>> (Int32.toUInt32 25 &&& Int32.toUInt32 31)).toInt32)), (3, .int ((xw >>> (12 &&& 31 : Int32)) &&& 7)), (2, .int (xw &&& 127)), (0, .ref aM), (1, .int xw)]) hx hb d_M_operationOf_95 hl (by decide) rfl (fun ls hl => ?_)
              exact jn97 0 ls _ _ ⟨Or.inr ⟨rfl, fun z => (z.2.elim h3 (fun z => z.elim h4 h5))⟩, tp_lvI hl [0, 1, 2, 3, 4, 5, 6, 7] rfl, hP, hD, hS⟩
      · refine lv_icmp_ne (tgt := 94) hx hb d_M_operationOf_57 (by decide) (fun _ => ?_) (fun h => absurd h h2)
        refine lv_iconst (v := 0) hx hb d_M_operationOf_94 (by decide) ?_
        refine lv_istore (lv' := [(7, .int 0), (6, .int ((f_forms k.toNatClampNeg) / 100000)), (5, .int k), (4, .int ((xw.toUInt32 >>> (Int32.toUInt32 25 &&& Int32.toUInt32 31)).toInt32)), (3, .int ((xw >>> (12 &&& 31 : Int32)) &&& 7)), (2, .int (xw &&& 127)), (0, .ref aM), (1, .int xw)]) hx hb d_M_operationOf_95 hl (by decide) rfl (fun ls hl => ?_)
        exact jn97 0 ls _ _ ⟨Or.inr ⟨rfl, fun z => h2 z.1⟩, tp_lvI hl [0, 1, 2, 3, 4, 5, 6, 7] rfl, hP, hD, hS⟩
