set_option maxHeartbeats 400000 in
set_option maxRecDepth 100000 in
theorem c_T_characterOf_1 (l : Launch) (E : tp_Env) (fr : va_W) (sz : Nat) (x1 : Int64) (x2 : Int32) (x3 : Int32)  : Met l y_T_characterOf w_T_characterOf ({ frames := 0, cells := 0, slots := 0, locals := 0 }) (va_Pc [.long x1, .int x2, .int x3] (tp_in E fr sz)) (va_Qi (fun r (_ : Unit) => r = (((x1.toUInt64 >>> ((Int32.toInt64 (8 * ((x2 - 1) - x3))).toUInt64 &&& Int64.toUInt64 63)).toInt64).toInt32 &&& 255)) (fun _ t => tp_out E (va_A fr sz) fr t) (va_A fr sz)) 0 0 (va_A fr sz) := by
  refine Met.ofW (cc := b_T_characterOf) (maxL := 4) (ret := (some .int)) (by decide) rfl ?_
  intro p e s m args below meth c s₁ B hml hv
  obtain ⟨rfl, hsz, hP, hK, hD0⟩ := hv
  have hx := B.exec
  have hb := B.bytes
  have hr := B.returns
  have htg : ∀ w ∈ tp_G, w.before ([.long x1, .int x2, .int x3] : List Value).toArray s = true := fun w h => atoms_spec (ws := w_T_characterOf) B.pre w (List.mem_cons_of_mem _ h)
  have hown : s.vm.findClass "TwoPass" = some m.cls := findClass_of_methodNamed B.named
  have hlocks := B.notSynchronized
  subst hsz
  have hD := hD0.self (sz := s.heap.size)
  generalize hAe : va_A fr s.heap.size = A at hD hK ⊢
  have hA : ∀ q : Nat, s.heap.size ≤ q → A q := fun q h => by rw [← hAe]; exact Or.inr h
  have hS : va_S A s.heap s.heap [] := va_S.rf
  have hl := lv_entry ([.long x1, .int x2, .int x3]) (n := 4) (Nat.le_of_ble_eq_true rfl)
  rw [lg_entry_eq]
  generalize (lg_sl ([.long x1, .int x2, .int x3]) ++ List.replicate (4 - (lg_sl ([.long x1, .int x2, .int x3])).length) Slot.unset).toArray = ls at hl ⊢
  have hl : lv_has ls 4 [(0, .long x1), (2, .int x2), (3, .int x3)] := hl
  refine lv_lload_n hx hb d_T_characterOf_0 rfl (lv_at hl 0 rfl) ?_
  refine lv_bipush (v := 8) hx hb d_T_characterOf_1 (by decide) ?_
  refine lv_iload_n hx hb d_T_characterOf_3 rfl (lv_at hl 1 rfl) ?_
  refine lv_iconst (v := 1) hx hb d_T_characterOf_4 (by decide) ?_
  refine lv_isub hx hb d_T_characterOf_5 ?_
  refine lv_iload_n hx hb d_T_characterOf_6 rfl (lv_at hl 2 rfl) ?_
  refine lv_isub hx hb d_T_characterOf_7 ?_
  refine lv_imul hx hb d_T_characterOf_8 ?_
  refine lv_lushr (v := (x1.toUInt64 >>> ((Int32.toInt64 (8 * ((x2 - 1) - x3))).toUInt64 &&& Int64.toUInt64 63)).toInt64) hx hb d_T_characterOf_9 rfl ?_
  refine lv_l2i (v := ((x1.toUInt64 >>> ((Int32.toInt64 (8 * ((x2 - 1) - x3))).toUInt64 &&& Int64.toUInt64 63)).toInt64).toInt32) hx hb d_T_characterOf_10 rfl ?_
  refine lv_sipush (v := 255) hx hb d_T_characterOf_11 (by decide) ?_
  refine lv_iand hx hb d_T_characterOf_14 ?_
  exact W.iret (v := (((x1.toUInt64 >>> ((Int32.toInt64 (8 * ((x2 - 1) - x3))).toUInt64 &&& Int64.toUInt64 63)).toInt64).toInt32 &&& 255)) hx hb hr (fun t ht hW => ⟨⟨_, (), rfl, rfl, by rw [ht]; exact hP, hD⟩, hS.F ht⟩) hS.2.2 d_T_characterOf_15
set_option maxHeartbeats 400000 in
set_option maxRecDepth 100000 in
theorem c_Y_add_1 (l : Launch) (E : tp_Env) (fr : va_W) (sz : Nat) (a1 : Nat) (x2 : Int32) (a3 : Nat) (x4 : Int32) (x5 : Int32) (x6 : Int32) (x7 : Int32) (x8 : Int32) (f9 : Nat → Int32) (h1 : vp_in x4 28) : Met l y_Y_add w_Y_add ({ frames := 0, cells := 0, slots := 0, locals := 0 }) (va_Pc [.ref a1, .int x2] (tp_in E ((a1, .inr (1, [.ref a3, .int x4, .int x5, .int x6, .int x7, .int x8])) :: (a3, .inl (tp_ty E 4, 28, .inl f9)) :: fr) sz)) (va_Qv (fun (_ : Unit) => True) (fun _ t => tp_out E (va_A ((a1, .inr (1, [.ref a3, .int x4, .int x5, .int x6, .int x7, .int x8])) :: (a3, .inl (tp_ty E 4, 28, .inl f9)) :: fr) sz) ((a1, .inr (1, [.ref a3, .int (x4 + 1), .int x5, .int x6, .int x7, .int x8])) :: (a3, .inl (tp_ty E 4, 28, .inl (upd f9 x4.toNatClampNeg (vp_nar .char x2)))) :: fr) t) (va_A ((a1, .inr (1, [.ref a3, .int x4, .int x5, .int x6, .int x7, .int x8])) :: (a3, .inl (tp_ty E 4, 28, .inl f9)) :: fr) sz)) 0 0 (va_A ((a1, .inr (1, [.ref a3, .int x4, .int x5, .int x6, .int x7, .int x8])) :: (a3, .inl (tp_ty E 4, 28, .inl f9)) :: fr) sz) := by
  refine Met.ofW (cc := b_Y_add) (maxL := 2) (ret := none) (by decide) rfl ?_
  intro p e s m args below meth c s₁ B hml hv
  obtain ⟨rfl, hsz, hP, hK, hD0⟩ := hv
  have hx := B.exec
  have hb := B.bytes
  have hr := B.returns
  have htg : ∀ w ∈ tp_G, w.before ([.ref a1, .int x2] : List Value).toArray s = true := fun w h => atoms_spec (ws := w_Y_add) B.pre w (List.mem_cons_of_mem _ h)
  have hown : s.vm.findClass "TwoPass$Typed" = some m.cls := findClass_of_methodNamed B.named
  have hlocks := B.notSynchronized
  subst hsz
  have hD := hD0.self (sz := s.heap.size)
  generalize hAe : va_A ((a1, .inr (1, [.ref a3, .int x4, .int x5, .int x6, .int x7, .int x8])) :: (a3, .inl (tp_ty E 4, 28, .inl f9)) :: fr) s.heap.size = A at hD hK ⊢
  have hA : ∀ q : Nat, s.heap.size ≤ q → A q := fun q h => by rw [← hAe]; exact Or.inr h
  have hS : va_S A s.heap s.heap [] := va_S.rf
  have hl := lv_entry ([.ref a1, .int x2]) (n := 2) (Nat.le_of_ble_eq_true rfl)
  rw [lg_entry_eq]
  generalize (lg_sl ([.ref a1, .int x2]) ++ List.replicate (2 - (lg_sl ([.ref a1, .int x2])).length) Slot.unset).toArray = ls at hl ⊢
  have hl : lv_has ls 2 [(0, .ref a1), (1, .int x2)] := hl
  refine lv_aload_n hx hb d_Y_add_0 rfl (lv_at hl 0 rfl) ?_
  refine va_get (D := tp_D E) (ci := 1) (v := .ref a3) (C := qR_Y) (T := qF_Y) (N := 6) hx hb htg qi_Y hown hK.1 hP 0 rfl rfl 0 (by decide) (htg _ kl_Y_9) (fun _ h => h) rfl d_Y_add_1 ?_
  refine lv_aload_n hx hb d_Y_add_4 rfl (lv_at hl 0 rfl) ?_
  refine va_get (D := tp_D E) (ci := 1) (v := .int x4) (C := qR_Y) (T := qF_Y) (N := 6) hx hb htg qi_Y hown hK.1 hP 0 rfl rfl 1 (by decide) (htg _ kl_Y_15) (fun _ h => h) rfl d_Y_add_5 ?_
  refine lv_iload_n hx hb d_Y_add_8 rfl (lv_at hl 1 rfl) ?_
  refine va_cast (D := tp_D E) hx hb hK.1 hP hD hS 1 4 rfl rfl h1 d_Y_add_9 (fun H locs hP hD hS => ?_)
  have hP : va_P (tp_D E) tp_cl ((a1, .inr (1, [.ref a3, .int x4, .int x5, .int x6, .int x7, .int x8])) :: (a3, .inl (tp_ty E 4, 28, .inl (upd f9 x4.toNatClampNeg (vp_nar .char x2)))) :: fr) H := hP
  have hD : va_D A ((a1, .inr (1, [.ref a3, .int x4, .int x5, .int x6, .int x7, .int x8])) :: (a3, .inl (tp_ty E 4, 28, .inl (upd f9 x4.toNatClampNeg (vp_nar .char x2)))) :: fr) := hD
  refine lv_aload_n hx hb d_Y_add_10 rfl (lv_at hl 0 rfl) ?_
  refine lv_dup hx hb d_Y_add_11 rfl ?_
  refine va_get (D := tp_D E) (ci := 1) (v := .int x4) (C := qR_Y) (T := qF_Y) (N := 6) hx hb htg qi_Y hown hK.1 hP 0 rfl rfl 1 (by decide) (htg _ kl_Y_15) (fun _ h => h) rfl d_Y_add_12 ?_
  refine lv_iconst (v := 1) hx hb d_Y_add_15 (by decide) ?_
  refine lv_iadd hx hb d_Y_add_16 ?_
  refine va_put (D := tp_D E) (ci := 1) (v := .int (x4 + 1)) (ty := .int) (C := qR_Y) (T := qF_Y) (N := 6) hx hb htg qi_Y qt_Y qt_Y_ok qn_Y hown hK.1 hP hD hS 0 rfl rfl 1 (by decide) (htg _ kl_Y_15) (fun _ h => h) rfl (by decide +kernel) rfl rfl (Nat.le_of_ble_eq_true rfl) d_Y_add_17 (fun H locs hP hD hS => ?_)
  have hP : va_P (tp_D E) tp_cl ((a1, .inr (1, [.ref a3, .int (x4 + 1), .int x5, .int x6, .int x7, .int x8])) :: (a3, .inl (tp_ty E 4, 28, .inl (upd f9 x4.toNatClampNeg (vp_nar .char x2)))) :: fr) H := hP
  have hD : va_D A ((a1, .inr (1, [.ref a3, .int (x4 + 1), .int x5, .int x6, .int x7, .int x8])) :: (a3, .inl (tp_ty E 4, 28, .inl (upd f9 x4.toNatClampNeg (vp_nar .char x2)))) :: fr) := hD
  exact W.vret hx hb hr (fun t ht hW => ⟨⟨(), rfl, trivial, by rw [ht]; exact hP, hD⟩, hS.F ht⟩) hS.2.2 d_Y_add_20
set_option maxHeartbeats 4000000 in
set_option maxRecDepth 100000 in
theorem a_T_type (l : Launch) (hfl : l.stackTraces = false) (E : tp_Env) (fr : va_W) (sz : Nat) (aT aY aS aB aC : Nat) (xl xg xe xa xw xv xn : Int32) (xb : Int64) (fC : Nat → Int32)  : vx_Met l y_T_type w_T_type ({ frames := 6, cells := 1, slots := 6, locals := 89 }) (va_Pc [.ref aT, .long xb, .int xn] (tp_in E ((aT, .inr (0, [.ref aY, .ref aS, .ref aB, .int xl, .int xg])) :: (aY, .inr (1, [.ref aC, .int 0, .int xe, .int xa, .int xw, .int xv])) :: (aC, .inl (tp_ty E 4, 28, .inl fC)) :: fr) sz)) (va_Qv (fun (_ : Unit) => tp_valT xb xn) (fun _ t => tp_out E (va_A ((aT, .inr (0, [.ref aY, .ref aS, .ref aB, .int xl, .int xg])) :: (aY, .inr (1, [.ref aC, .int 0, .int xe, .int xa, .int xw, .int xv])) :: (aC, .inl (tp_ty E 4, 28, .inl fC)) :: fr) sz) fr t) (va_A ((aT, .inr (0, [.ref aY, .ref aS, .ref aB, .int xl, .int xg])) :: (aY, .inr (1, [.ref aC, .int 0, .int xe, .int xa, .int xw, .int xv])) :: (aC, .inl (tp_ty E 4, 28, .inl fC)) :: fr) sz)) (vx_X (fun (_ : Unit) => ¬ tp_valT xb xn) (fun x _ t => x = "java/lang/IllegalArgumentException" ∧ tp_out E (va_A ((aT, .inr (0, [.ref aY, .ref aS, .ref aB, .int xl, .int xg])) :: (aY, .inr (1, [.ref aC, .int 0, .int xe, .int xa, .int xw, .int xv])) :: (aC, .inl (tp_ty E 4, 28, .inl fC)) :: fr) sz) fr t) (va_A ((aT, .inr (0, [.ref aY, .ref aS, .ref aB, .int xl, .int xg])) :: (aY, .inr (1, [.ref aC, .int 0, .int xe, .int xa, .int xw, .int xv])) :: (aC, .inl (tp_ty E 4, 28, .inl fC)) :: fr) sz)) 1 6 (va_A ((aT, .inr (0, [.ref aY, .ref aS, .ref aB, .int xl, .int xg])) :: (aY, .inr (1, [.ref aC, .int 0, .int xe, .int xa, .int xw, .int xv])) :: (aC, .inl (tp_ty E 4, 28, .inl fC)) :: fr) sz) := by
  refine vx_ofW (cc := b_T_type) (maxL := 6) (ret := none) (by decide) rfl ?_
  intro p e s m args below meth c s₁ B hml htab hv
  obtain ⟨rfl, hsz, hP, hK, hD0⟩ := hv
  have hx := B.exec
  have hb := B.bytes
  have hr := B.returns
  have htg : ∀ w ∈ tp_G, w.before ([.ref aT, .long xb, .int xn] : List Value).toArray s = true := fun w h => atoms_spec (ws := w_T_type) B.pre w (List.mem_cons_of_mem _ h)
  have hown : s.vm.findClass "TwoPass" = some m.cls := findClass_of_methodNamed B.named
  have hlocks := B.notSynchronized
  subst hsz
  have hD := hD0.self (sz := s.heap.size)
  generalize hAe : va_A ((aT, .inr (0, [.ref aY, .ref aS, .ref aB, .int xl, .int xg])) :: (aY, .inr (1, [.ref aC, .int 0, .int xe, .int xa, .int xw, .int xv])) :: (aC, .inl (tp_ty E 4, 28, .inl fC)) :: fr) s.heap.size = A at hD hK ⊢
  have hA : ∀ q : Nat, s.heap.size ≤ q → A q := fun q h => by rw [← hAe]; exact Or.inr h
  have hS : va_S A s.heap s.heap [] := va_S.rf
  have hl := lv_entry ([.ref aT, .long xb, .int xn]) (n := 6) (Nat.le_of_ble_eq_true rfl)
  rw [lg_entry_eq]
  generalize (lg_sl ([.ref aT, .long xb, .int xn]) ++ List.replicate (6 - (lg_sl ([.ref aT, .long xb, .int xn])).length) Slot.unset).toArray = ls at hl ⊢
  have hl : lv_has ls 6 [(0, .ref aT), (1, .long xb), (3, .int xn)] := hl
  refine lv_iload_n hx hb d_T_type_0 rfl (lv_at hl 2 rfl) ?_
  refine lv_iconst (v := 1) hx hb d_T_type_1 (by decide) ?_
  by_cases h1 : xn < 1
  · refine lv_icmp_lt (tgt := 11) hx hb d_T_type_2 (by decide) (fun _ => ?_) (fun h => absurd h1 h)
    exact vx_throw0 (own := "TwoPass") (cls := "java/lang/IllegalArgumentException") (names := ["java/lang/RuntimeException", "java/lang/Exception"]) (ik := 38) (ic := 40) hx hb hfl hown (by decide +kernel) (by decide +kernel) (htg _ kl_T_38) (htg _ kx_IllegalArgumentException) (kxa_T_40 htg hK.2.2.2.1) kxg_T_40 hK.2.1 hK.2.2.1 hS (hl.1.trans hml.symm) d_T_type_11 d_T_type_14 d_T_type_15 d_T_type_18 (fun x h => (htab x h).elim) (Nat.le_of_ble_eq_true rfl) (Nat.le_of_ble_eq_true rfl) (Nat.le_of_ble_eq_true rfl) (Nat.le_of_ble_eq_true rfl) hlocks (fun t hvm hz hq => ⟨(), fun z => absurd z.1 (tp_no18 (Or.inl h1)), ⟨rfl, va_P.kept (tp_tlP (tp_tlP (tp_tlP hP))) (fun k q hk => hq _ (vx_lt (tp_tlP (tp_tlP (tp_tlP hP))) hk)), (tp_tlD (tp_tlD (tp_tlD hD)))⟩, ⟨Nat.le_trans hS.1 hz, fun q h1 h2 => (hq q (Nat.lt_of_lt_of_le h1 hS.1)).trans (hS.2.1 q h1 h2)⟩⟩) hS.2.2 (Nat.le_of_ble_eq_true rfl) (Nat.le_of_ble_eq_true rfl)
  · refine lv_icmp_lt (tgt := 11) hx hb d_T_type_2 (by decide) (fun h => absurd h h1) (fun _ => ?_)
    refine lv_iload_n hx hb d_T_type_5 rfl (lv_at hl 2 rfl) ?_
    refine lv_bipush (v := 8) hx hb d_T_type_6 (by decide) ?_
    by_cases h2 : xn ≤ 8
    · refine lv_icmp_le (tgt := 19) hx hb d_T_type_8 (by decide) (fun _ => ?_) (fun h => absurd h2 h)
      refine lv_iconst (v := 0) hx hb d_T_type_19 (by decide) ?_
      refine lv_istore (lv' := [(4, .int 0), (0, .ref aT), (1, .long xb), (3, .int xn)]) hx hb d_T_type_20 hl (by decide) rfl (fun ls hl => ?_)
      have hn1 : 1 ≤ xn.toInt ∧ xn.toInt ≤ 8 := tp_n18 h1 h2
      refine tp_loop (fun j ls H locs (k : Int32) => ((0 ≤ k.toInt) ∧ (k.toInt + (j : Int) = xn.toInt) ∧ (∀ i : Int32, 0 ≤ i.toInt → i.toInt < k.toInt → tp_okT (tp_ch xb xn i))) ∧ lv_has ls 6 [(4, .int k), (0, .ref aT), (1, .long xb), (3, .int xn)] ∧ va_P (tp_D E) tp_cl ((aT, .inr (0, [.ref aY, .ref aS, .ref aB, .int xl, .int xg])) :: (aY, .inr (1, [.ref aC, .int 0, .int xe, .int xa, .int xw, .int xv])) :: (aC, .inl (tp_ty E 4, 28, .inl fC)) :: fr) H ∧ va_D A ((aT, .inr (0, [.ref aY, .ref aS, .ref aB, .int xl, .int xg])) :: (aY, .inr (1, [.ref aC, .int 0, .int xe, .int xa, .int xw, .int xv])) :: (aC, .inl (tp_ty E 4, 28, .inl fC)) :: fr) ∧ va_S A s.heap H locs) ?_ _ 0 ⟨⟨by decide, show (0 : Int32).toInt + ((xn.toInt).toNat : Int) = xn.toInt from by rw [Int32.toInt_zero]; omega, fun i z1 z2 => absurd z2 (by rw [Int32.toInt_zero]; omega)⟩, tp_lvI hl [0, 1, 2, 3] rfl, hP, hD, hS⟩
      intro j k ls H locs hI ih
      obtain ⟨⟨hk0, hj, hgood⟩, hl, hP, hD, hS⟩ := hI
      refine lv_iload hx hb d_T_type_22 (lv_at hl 0 rfl) ?_
      refine lv_iload_n hx hb d_T_type_24 rfl (lv_at hl 3 rfl) ?_
      by_cases h3 : xn ≤ k
      · refine lv_icmp_ge (tgt := 65) hx hb d_T_type_25 (by decide) (fun _ => ?_) (fun h => absurd h3 h)
        refine lv_aload_n hx hb d_T_type_65 rfl (lv_at hl 1 rfl) ?_
        refine va_get (D := tp_D E) (ci := 0) (v := .ref aY) (C := qR_T) (T := qF_T) (N := 5) hx hb htg qi_T hown hK.1 hP 0 rfl rfl 0 (by decide) (htg _ kl_T_10) (fun _ h => h) rfl d_T_type_66 ?_
        refine va_get (D := tp_D E) (ci := 1) (v := .int 0) (C := qR_Y) (T := qF_Y) (N := 6) hx hb htg qi_Y hown hK.1 hP 1 rfl rfl 1 (by decide) (htg _ kl_T_45) (fun _ h => h) rfl d_T_type_69 ?_
        refine lv_iload_n hx hb d_T_type_72 rfl (lv_at hl 3 rfl) ?_
        refine lv_iadd hx hb d_T_type_73 ?_
        refine lv_bipush (v := 28) hx hb d_T_type_74 (by decide) ?_
        refine lv_icmp_le (tgt := 87) hx hb d_T_type_76 (by decide) (fun _ => ?_) (fun h => absurd (tp_le28 hn1) h)
        refine lv_iconst (v := 0) hx hb d_T_type_87 (by decide) ?_
        refine lv_istore (lv' := [(4, .int 0), (0, .ref aT), (1, .long xb), (3, .int xn)]) hx hb d_T_type_88 hl (by decide) rfl (fun ls hl => ?_)
        have hall : tp_valT xb xn := ⟨hn1, fun i z1 z2 => hgood i z1 (Int.lt_of_lt_of_le z2 (Int32.le_iff_toInt_le.mp h3))⟩
        refine tp_loop2 (fun j2 ls H locs (k2 : Int32) (f2 : Nat → Int32) => ((0 ≤ k2.toInt) ∧ (k2.toInt + (j2 : Int) = xn.toInt)) ∧ lv_has ls 6 [(4, .int k2), (0, .ref aT), (1, .long xb), (3, .int xn)] ∧ va_P (tp_D E) tp_cl ((aT, .inr (0, [.ref aY, .ref aS, .ref aB, .int xl, .int xg])) :: (aY, .inr (1, [.ref aC, .int k2, .int xe, .int xa, .int xw, .int xv])) :: (aC, .inl (tp_ty E 4, 28, .inl f2)) :: fr) H ∧ va_D A ((aT, .inr (0, [.ref aY, .ref aS, .ref aB, .int xl, .int xg])) :: (aY, .inr (1, [.ref aC, .int k2, .int xe, .int xa, .int xw, .int xv])) :: (aC, .inl (tp_ty E 4, 28, .inl f2)) :: fr) ∧ va_S A s.heap H locs) ?_ _ 0 fC ⟨⟨by decide, show (0 : Int32).toInt + ((xn.toInt).toNat : Int) = xn.toInt from by rw [Int32.toInt_zero]; omega⟩, tp_lvI hl [0, 1, 2, 3] rfl, hP, hD, hS⟩
        intro j2 k2 f2 ls H locs hI ih2
        obtain ⟨⟨hk2, hj2⟩, hl, hP, hD, hS⟩ := hI
        refine lv_iload hx hb d_T_type_90 (lv_at hl 0 rfl) ?_
        refine lv_iload_n hx hb d_T_type_92 rfl (lv_at hl 3 rfl) ?_
        by_cases h4 : xn ≤ k2
        · refine lv_icmp_ge (tgt := 117) hx hb d_T_type_93 (by decide) (fun _ => ?_) (fun h => absurd h4 h)
          exact tp_widen (k := 1) (n := 6) (Nat.le_of_ble_eq_true rfl) (Nat.le_of_ble_eq_true rfl) (vx_ret (W.vret hx hb hr (fun t ht hW => ⟨⟨(), rfl, hall, by rw [ht]; exact (tp_tlP (tp_tlP (tp_tlP hP))), (tp_tlD (tp_tlD (tp_tlD hD)))⟩, hS.F ht⟩) hS.2.2 d_T_type_117))
        · refine lv_icmp_ge (tgt := 117) hx hb d_T_type_93 (by decide) (fun h => absurd h h4) (fun _ => ?_)
          refine lv_aload_n hx hb d_T_type_96 rfl (lv_at hl 1 rfl) ?_
          refine va_get (D := tp_D E) (ci := 0) (v := .ref aY) (C := qR_T) (T := qF_T) (N := 5) hx hb htg qi_T hown hK.1 hP 0 rfl rfl 0 (by decide) (htg _ kl_T_10) (fun _ h => h) rfl d_T_type_97 ?_
          refine lv_lload_n hx hb d_T_type_100 rfl (lv_at hl 2 rfl) ?_
          refine lv_iload_n hx hb d_T_type_101 rfl (lv_at hl 3 rfl) ?_
          refine lv_iload hx hb d_T_type_102 (lv_at hl 0 rfl) ?_
          refine tp_ci (tp_rS (As := [.long xb, .int xn, .int k2]) (rest := [.ref aY]) ⟨hx, hb, hml, hown, htg⟩ (c_T_characterOf_1 l E ((aT, .inr (0, [.ref aY, .ref aS, .ref aB, .int xl, .int xg])) :: (aY, .inr (1, [.ref aC, .int k2, .int xe, .int xa, .int xw, .int xv])) :: (aC, .inl (tp_ty E 4, 28, .inl f2)) :: fr) _ xb xn k2 ) (⟨callB_of 3 htg (tp_good0 kc_T_characterOf) rfl rfl rfl (htg _ ki_T) (htg _ kl_T_41) ⟨by decide, by decide, by decide +kernel⟩ ⟨Nat.le_of_ble_eq_true rfl, Nat.le_of_ble_eq_true rfl⟩, htg _ ks_T_characterOf⟩) hK hP hD hS hA rfl hl.1 rfl (Nat.le_of_ble_eq_true rfl) d_T_type_104 ⟨Nat.le_of_ble_eq_true rfl, Nat.le_of_ble_eq_true rfl⟩) hD hS hA (fun r u H locs hw hP hD hS => ?_)
          subst r
          have hP : va_P (tp_D E) tp_cl ((aT, .inr (0, [.ref aY, .ref aS, .ref aB, .int xl, .int xg])) :: (aY, .inr (1, [.ref aC, .int k2, .int xe, .int xa, .int xw, .int xv])) :: (aC, .inl (tp_ty E 4, 28, .inl f2)) :: fr) H := hP
          have hD : va_D A ((aT, .inr (0, [.ref aY, .ref aS, .ref aB, .int xl, .int xg])) :: (aY, .inr (1, [.ref aC, .int k2, .int xe, .int xa, .int xw, .int xv])) :: (aC, .inl (tp_ty E 4, 28, .inl f2)) :: fr) := hD
          refine lv_i2c (v := ((((xb.toUInt64 >>> ((Int32.toInt64 (8 * ((xn - 1) - k2))).toUInt64 &&& Int64.toUInt64 63)).toInt64).toInt32 &&& 255).toUInt32 % 65536).toInt32) hx hb d_T_type_107 rfl ?_
          have hP : va_P (tp_D E) tp_cl ((aC, .inl (tp_ty E 4, 28, .inl f2)) :: (aT, .inr (0, [.ref aY, .ref aS, .ref aB, .int xl, .int xg])) :: (aY, .inr (1, [.ref aC, .int k2, .int xe, .int xa, .int xw, .int xv])) :: fr) _ := tp_mvP 2 rfl hP
          have hD : va_D A ((aC, .inl (tp_ty E 4, 28, .inl f2)) :: (aT, .inr (0, [.ref aY, .ref aS, .ref aB, .int xl, .int xg])) :: (aY, .inr (1, [.ref aC, .int k2, .int xe, .int xa, .int xw, .int xv])) :: fr) := tp_mvD 2 rfl hD
          have hP : va_P (tp_D E) tp_cl ((aY, .inr (1, [.ref aC, .int k2, .int xe, .int xa, .int xw, .int xv])) :: (aC, .inl (tp_ty E 4, 28, .inl f2)) :: (aT, .inr (0, [.ref aY, .ref aS, .ref aB, .int xl, .int xg])) :: fr) _ := tp_mvP 2 rfl hP
          have hD : va_D A ((aY, .inr (1, [.ref aC, .int k2, .int xe, .int xa, .int xw, .int xv])) :: (aC, .inl (tp_ty E 4, 28, .inl f2)) :: (aT, .inr (0, [.ref aY, .ref aS, .ref aB, .int xl, .int xg])) :: fr) := tp_mvD 2 rfl hD
          refine tp_cv (tp_rV (As := [.int (((((xb.toUInt64 >>> ((Int32.toInt64 (8 * ((xn - 1) - k2))).toUInt64 &&& Int64.toUInt64 63)).toInt64).toInt32 &&& 255).toUInt32 % 65536).toInt32)]) (rest := []) ⟨hx, hb, hml, hown, htg⟩ (c_Y_add_1 l E ((aT, .inr (0, [.ref aY, .ref aS, .ref aB, .int xl, .int xg])) :: fr) _ aY (((((xb.toUInt64 >>> ((Int32.toInt64 (8 * ((xn - 1) - k2))).toUInt64 &&& Int64.toUInt64 63)).toInt64).toInt32 &&& 255).toUInt32 % 65536).toInt32) aC k2 xe xa xw xv f2 (tp_vin28 hk2 (Int32.not_le.mp h4) hn1)) (⟨callB_of 1 htg (tp_good0 kc_Y_add) rfl rfl rfl (htg _ ki_Y) (htg _ kl_T_51) ⟨by decide, by decide, by decide +kernel⟩ ⟨Nat.le_of_ble_eq_true rfl, Nat.le_of_ble_eq_true rfl⟩, htg _ km_Y_add, htg _ kv_Y_Y_add⟩) (va_recv (ci := 1) (q0 := 0) hK.1 hP rfl rfl) hK hP hD hS hA rfl hl.1 rfl (Nat.le_of_ble_eq_true rfl) d_T_type_108 ⟨Nat.le_of_ble_eq_true rfl, Nat.le_of_ble_eq_true rfl⟩) hD hS hA (fun u H locs _ hP hD hS => ?_)
          have hP : va_P (tp_D E) tp_cl ((aY, .inr (1, [.ref aC, .int (k2 + 1), .int xe, .int xa, .int xw, .int xv])) :: (aC, .inl (tp_ty E 4, 28, .inl (upd f2 k2.toNatClampNeg (vp_nar .char (((((xb.toUInt64 >>> ((Int32.toInt64 (8 * ((xn - 1) - k2))).toUInt64 &&& Int64.toUInt64 63)).toInt64).toInt32 &&& 255).toUInt32 % 65536).toInt32))))) :: (aT, .inr (0, [.ref aY, .ref aS, .ref aB, .int xl, .int xg])) :: fr) H := hP
          have hD : va_D A ((aY, .inr (1, [.ref aC, .int (k2 + 1), .int xe, .int xa, .int xw, .int xv])) :: (aC, .inl (tp_ty E 4, 28, .inl (upd f2 k2.toNatClampNeg (vp_nar .char (((((xb.toUInt64 >>> ((Int32.toInt64 (8 * ((xn - 1) - k2))).toUInt64 &&& Int64.toUInt64 63)).toInt64).toInt32 &&& 255).toUInt32 % 65536).toInt32))))) :: (aT, .inr (0, [.ref aY, .ref aS, .ref aB, .int xl, .int xg])) :: fr) := hD
          refine lv_iinc (k := 0) (v := (k2 + 1)) (lv' := [(4, .int (k2 + 1)), (0, .ref aT), (1, .long xb), (3, .int xn)]) hx hb d_T_type_111 hl rfl rfl (by decide) rfl (fun ls hl => ?_)
          refine lv_goto (tgt := 90) hx hb d_T_type_114 (by decide) ?_
          have hP : va_P (tp_D E) tp_cl ((aC, .inl (tp_ty E 4, 28, .inl (upd f2 k2.toNatClampNeg (vp_nar .char (((((xb.toUInt64 >>> ((Int32.toInt64 (8 * ((xn - 1) - k2))).toUInt64 &&& Int64.toUInt64 63)).toInt64).toInt32 &&& 255).toUInt32 % 65536).toInt32))))) :: (aY, .inr (1, [.ref aC, .int (k2 + 1), .int xe, .int xa, .int xw, .int xv])) :: (aT, .inr (0, [.ref aY, .ref aS, .ref aB, .int xl, .int xg])) :: fr) _ := tp_mvP 1 rfl hP
          have hD : va_D A ((aC, .inl (tp_ty E 4, 28, .inl (upd f2 k2.toNatClampNeg (vp_nar .char (((((xb.toUInt64 >>> ((Int32.toInt64 (8 * ((xn - 1) - k2))).toUInt64 &&& Int64.toUInt64 63)).toInt64).toInt32 &&& 255).toUInt32 % 65536).toInt32))))) :: (aY, .inr (1, [.ref aC, .int (k2 + 1), .int xe, .int xa, .int xw, .int xv])) :: (aT, .inr (0, [.ref aY, .ref aS, .ref aB, .int xl, .int xg])) :: fr) := tp_mvD 1 rfl hD
          have hP : va_P (tp_D E) tp_cl ((aY, .inr (1, [.ref aC, .int (k2 + 1), .int xe, .int xa, .int xw, .int xv])) :: (aC, .inl (tp_ty E 4, 28, .inl (upd f2 k2.toNatClampNeg (vp_nar .char (((((xb.toUInt64 >>> ((Int32.toInt64 (8 * ((xn - 1) - k2))).toUInt64 &&& Int64.toUInt64 63)).toInt64).toInt32 &&& 255).toUInt32 % 65536).toInt32))))) :: (aT, .inr (0, [.ref aY, .ref aS, .ref aB, .int xl, .int xg])) :: fr) _ := tp_mvP 1 rfl hP
          have hD : va_D A ((aY, .inr (1, [.ref aC, .int (k2 + 1), .int xe, .int xa, .int xw, .int xv])) :: (aC, .inl (tp_ty E 4, 28, .inl (upd f2 k2.toNatClampNeg (vp_nar .char (((((xb.toUInt64 >>> ((Int32.toInt64 (8 * ((xn - 1) - k2))).toUInt64 &&& Int64.toUInt64 63)).toInt64).toInt32 &&& 255).toUInt32 % 65536).toInt32))))) :: (aT, .inr (0, [.ref aY, .ref aS, .ref aB, .int xl, .int xg])) :: fr) := tp_mvD 1 rfl hD
          have hP : va_P (tp_D E) tp_cl ((aT, .inr (0, [.ref aY, .ref aS, .ref aB, .int xl, .int xg])) :: (aY, .inr (1, [.ref aC, .int (k2 + 1), .int xe, .int xa, .int xw, .int xv])) :: (aC, .inl (tp_ty E 4, 28, .inl (upd f2 k2.toNatClampNeg (vp_nar .char (((((xb.toUInt64 >>> ((Int32.toInt64 (8 * ((xn - 1) - k2))).toUInt64 &&& Int64.toUInt64 63)).toInt64).toInt32 &&& 255).toUInt32 % 65536).toInt32))))) :: fr) _ := tp_mvP 2 rfl hP
          have hD : va_D A ((aT, .inr (0, [.ref aY, .ref aS, .ref aB, .int xl, .int xg])) :: (aY, .inr (1, [.ref aC, .int (k2 + 1), .int xe, .int xa, .int xw, .int xv])) :: (aC, .inl (tp_ty E 4, 28, .inl (upd f2 k2.toNatClampNeg (vp_nar .char (((((xb.toUInt64 >>> ((Int32.toInt64 (8 * ((xn - 1) - k2))).toUInt64 &&& Int64.toUInt64 63)).toInt64).toInt32 &&& 255).toUInt32 % 65536).toInt32))))) :: fr) := tp_mvD 2 rfl hD
          have hkn : k2.toInt < xn.toInt := Int32.lt_iff_toInt_lt.mp (Int32.not_le.mp h4)
          have hk1 : (k2 + 1).toInt = k2.toInt + 1 := tp_inc (by omega)
          exact ih2 (j2 - 1) (k2 + 1) (upd f2 k2.toNatClampNeg (vp_nar .char (((((xb.toUInt64 >>> ((Int32.toInt64 (8 * ((xn - 1) - k2))).toUInt64 &&& Int64.toUInt64 63)).toInt64).toInt32 &&& 255).toUInt32 % 65536).toInt32))) ls _ _ (by omega) ⟨⟨by omega, by omega⟩, tp_lvI hl [0, 1, 2, 3] rfl, hP, hD, hS⟩
      · refine lv_icmp_ge (tgt := 65) hx hb d_T_type_25 (by decide) (fun h => absurd h h3) (fun _ => ?_)
        refine lv_lload_n hx hb d_T_type_28 rfl (lv_at hl 2 rfl) ?_
        refine lv_iload_n hx hb d_T_type_29 rfl (lv_at hl 3 rfl) ?_
        refine lv_iload hx hb d_T_type_30 (lv_at hl 0 rfl) ?_
        refine tp_ci (tp_rS (As := [.long xb, .int xn, .int k]) (rest := []) ⟨hx, hb, hml, hown, htg⟩ (c_T_characterOf_1 l E ((aT, .inr (0, [.ref aY, .ref aS, .ref aB, .int xl, .int xg])) :: (aY, .inr (1, [.ref aC, .int 0, .int xe, .int xa, .int xw, .int xv])) :: (aC, .inl (tp_ty E 4, 28, .inl fC)) :: fr) _ xb xn k ) (⟨callB_of 3 htg (tp_good0 kc_T_characterOf) rfl rfl rfl (htg _ ki_T) (htg _ kl_T_41) ⟨by decide, by decide, by decide +kernel⟩ ⟨Nat.le_of_ble_eq_true rfl, Nat.le_of_ble_eq_true rfl⟩, htg _ ks_T_characterOf⟩) hK hP hD hS hA rfl hl.1 rfl (Nat.le_of_ble_eq_true rfl) d_T_type_32 ⟨Nat.le_of_ble_eq_true rfl, Nat.le_of_ble_eq_true rfl⟩) hD hS hA (fun r u H locs hw hP hD hS => ?_)
        subst r
        have hP : va_P (tp_D E) tp_cl ((aT, .inr (0, [.ref aY, .ref aS, .ref aB, .int xl, .int xg])) :: (aY, .inr (1, [.ref aC, .int 0, .int xe, .int xa, .int xw, .int xv])) :: (aC, .inl (tp_ty E 4, 28, .inl fC)) :: fr) H := hP
        have hD : va_D A ((aT, .inr (0, [.ref aY, .ref aS, .ref aB, .int xl, .int xg])) :: (aY, .inr (1, [.ref aC, .int 0, .int xe, .int xa, .int xw, .int xv])) :: (aC, .inl (tp_ty E 4, 28, .inl fC)) :: fr) := hD
        refine lv_istore (lv' := [(5, .int (((xb.toUInt64 >>> ((Int32.toInt64 (8 * ((xn - 1) - k))).toUInt64 &&& Int64.toUInt64 63)).toInt64).toInt32 &&& 255)), (4, .int k), (0, .ref aT), (1, .long xb), (3, .int xn)]) hx hb d_T_type_35 hl (by decide) rfl (fun ls hl => ?_)
        refine lv_iload hx hb d_T_type_37 (lv_at hl 0 rfl) ?_
        refine lv_bipush (v := 32) hx hb d_T_type_39 (by decide) ?_
        by_cases h4 : (((xb.toUInt64 >>> ((Int32.toInt64 (8 * ((xn - 1) - k))).toUInt64 &&& Int64.toUInt64 63)).toInt64).toInt32 &&& 255) < 32
        · refine lv_icmp_lt (tgt := 51) hx hb d_T_type_41 (by decide) (fun _ => ?_) (fun h => absurd h4 h)
          exact vx_throw0 (own := "TwoPass") (cls := "java/lang/IllegalArgumentException") (names := ["java/lang/RuntimeException", "java/lang/Exception"]) (ik := 38) (ic := 40) hx hb hfl hown (by decide +kernel) (by decide +kernel) (htg _ kl_T_38) (htg _ kx_IllegalArgumentException) (kxa_T_40 htg hK.2.2.2.1) kxg_T_40 hK.2.1 hK.2.2.1 hS (hl.1.trans hml.symm) d_T_type_51 d_T_type_54 d_T_type_55 d_T_type_58 (fun x h => (htab x h).elim) (Nat.le_of_ble_eq_true rfl) (Nat.le_of_ble_eq_true rfl) (Nat.le_of_ble_eq_true rfl) (Nat.le_of_ble_eq_true rfl) hlocks (fun t hvm hz hq => ⟨(), fun z => tp_badT (z.2 k hk0 (Int32.lt_iff_toInt_lt.mp (Int32.not_le.mp h3))) (Or.inl h4), ⟨rfl, va_P.kept (tp_tlP (tp_tlP (tp_tlP hP))) (fun k q hk => hq _ (vx_lt (tp_tlP (tp_tlP (tp_tlP hP))) hk)), (tp_tlD (tp_tlD (tp_tlD hD)))⟩, ⟨Nat.le_trans hS.1 hz, fun q h1 h2 => (hq q (Nat.lt_of_lt_of_le h1 hS.1)).trans (hS.2.1 q h1 h2)⟩⟩) hS.2.2 (Nat.le_of_ble_eq_true rfl) (Nat.le_of_ble_eq_true rfl)
        · refine lv_icmp_lt (tgt := 51) hx hb d_T_type_41 (by decide) (fun h => absurd h h4) (fun _ => ?_)
          refine lv_iload hx hb d_T_type_44 (lv_at hl 0 rfl) ?_
          refine lv_bipush (v := 126) hx hb d_T_type_46 (by decide) ?_
          by_cases h5 : (((xb.toUInt64 >>> ((Int32.toInt64 (8 * ((xn - 1) - k))).toUInt64 &&& Int64.toUInt64 63)).toInt64).toInt32 &&& 255) ≤ 126
          · refine lv_icmp_le (tgt := 59) hx hb d_T_type_48 (by decide) (fun _ => ?_) (fun h => absurd h5 h)
            refine lv_iinc (k := 1) (v := (k + 1)) (lv' := [(4, .int (k + 1)), (5, .int (((xb.toUInt64 >>> ((Int32.toInt64 (8 * ((xn - 1) - k))).toUInt64 &&& Int64.toUInt64 63)).toInt64).toInt32 &&& 255)), (0, .ref aT), (1, .long xb), (3, .int xn)]) hx hb d_T_type_59 hl rfl rfl (by decide) rfl (fun ls hl => ?_)
            refine lv_goto (tgt := 22) hx hb d_T_type_62 (by decide) ?_
            have hkn : k.toInt < xn.toInt := Int32.lt_iff_toInt_lt.mp (Int32.not_le.mp h3)
            have hk1 : (k + 1).toInt = k.toInt + 1 := tp_inc (by omega)
            exact ih (j - 1) (k + 1) ls _ _ (by omega) ⟨⟨by omega, by omega, tp_lastT (Int32.not_lt.mp h4) h5 hgood hk1⟩, tp_lvI hl [0, 2, 3, 4] rfl, hP, hD, hS⟩
          · refine lv_icmp_le (tgt := 59) hx hb d_T_type_48 (by decide) (fun h => absurd h h5) (fun _ => ?_)
            exact vx_throw0 (own := "TwoPass") (cls := "java/lang/IllegalArgumentException") (names := ["java/lang/RuntimeException", "java/lang/Exception"]) (ik := 38) (ic := 40) hx hb hfl hown (by decide +kernel) (by decide +kernel) (htg _ kl_T_38) (htg _ kx_IllegalArgumentException) (kxa_T_40 htg hK.2.2.2.1) kxg_T_40 hK.2.1 hK.2.2.1 hS (hl.1.trans hml.symm) d_T_type_51 d_T_type_54 d_T_type_55 d_T_type_58 (fun x h => (htab x h).elim) (Nat.le_of_ble_eq_true rfl) (Nat.le_of_ble_eq_true rfl) (Nat.le_of_ble_eq_true rfl) (Nat.le_of_ble_eq_true rfl) hlocks (fun t hvm hz hq => ⟨(), fun z => tp_badT (z.2 k hk0 (Int32.lt_iff_toInt_lt.mp (Int32.not_le.mp h3))) (Or.inr h5), ⟨rfl, va_P.kept (tp_tlP (tp_tlP (tp_tlP hP))) (fun k q hk => hq _ (vx_lt (tp_tlP (tp_tlP (tp_tlP hP))) hk)), (tp_tlD (tp_tlD (tp_tlD hD)))⟩, ⟨Nat.le_trans hS.1 hz, fun q h1 h2 => (hq q (Nat.lt_of_lt_of_le h1 hS.1)).trans (hS.2.1 q h1 h2)⟩⟩) hS.2.2 (Nat.le_of_ble_eq_true rfl) (Nat.le_of_ble_eq_true rfl)
    · refine lv_icmp_le (tgt := 19) hx hb d_T_type_8 (by decide) (fun h => absurd h h2) (fun _ => ?_)
      exact vx_throw0 (own := "TwoPass") (cls := "java/lang/IllegalArgumentException") (names := ["java/lang/RuntimeException", "java/lang/Exception"]) (ik := 38) (ic := 40) hx hb hfl hown (by decide +kernel) (by decide +kernel) (htg _ kl_T_38) (htg _ kx_IllegalArgumentException) (kxa_T_40 htg hK.2.2.2.1) kxg_T_40 hK.2.1 hK.2.2.1 hS (hl.1.trans hml.symm) d_T_type_11 d_T_type_14 d_T_type_15 d_T_type_18 (fun x h => (htab x h).elim) (Nat.le_of_ble_eq_true rfl) (Nat.le_of_ble_eq_true rfl) (Nat.le_of_ble_eq_true rfl) (Nat.le_of_ble_eq_true rfl) hlocks (fun t hvm hz hq => ⟨(), fun z => absurd z.1 (tp_no18 (Or.inr h2)), ⟨rfl, va_P.kept (tp_tlP (tp_tlP (tp_tlP hP))) (fun k q hk => hq _ (vx_lt (tp_tlP (tp_tlP (tp_tlP hP))) hk)), (tp_tlD (tp_tlD (tp_tlD hD)))⟩, ⟨Nat.le_trans hS.1 hz, fun q h1 h2 => (hq q (Nat.lt_of_lt_of_le h1 hS.1)).trans (hS.2.1 q h1 h2)⟩⟩) hS.2.2 (Nat.le_of_ble_eq_true rfl) (Nat.le_of_ble_eq_true rfl)
set_option maxHeartbeats 4000000 in
set_option maxRecDepth 100000 in
theorem a_M_type (l : Launch) (E : tp_Env) (fr : va_W) (sz : Nat) (aM m_names m_forms m_text m_word m_count m_formOf m_codeOf m_dOf m_sOf m_tOf m_valueOf m_labelOf m_nameOf m_target m_place m_far m_image m_out : Nat) (m_thrown m_bad m_at m_length m_form m_code m_d m_s m_t m_imageSize m_farCount m_written : Int32) (m_value m_label m_name : Int64) (f_text : Nat → Int32) (xb : Int64) (xn : Int32)  : Met l y_M_type w_M_type ({ frames := 0, cells := 0, slots := 0, locals := 0 }) (va_Pc [.ref aM, .long xb, .int xn] (tp_in E ((aM, .inr (4, [.int m_thrown, .ref m_names, .ref m_forms, .int 0, .ref m_text, .int m_bad, .int m_at, .int m_length, .ref m_word, .int m_form, .int m_code, .int m_d, .int m_s, .int m_t, .long m_value, .long m_label, .long m_name, .ref m_count, .ref m_formOf, .ref m_codeOf, .ref m_dOf, .ref m_sOf, .ref m_tOf, .ref m_valueOf, .ref m_labelOf, .ref m_nameOf, .ref m_target, .ref m_place, .ref m_far, .int m_imageSize, .int m_farCount, .ref m_image, .int m_written, .ref m_out])) :: (m_text, .inl (tp_ty E 0, 28, .inl f_text)) :: fr) sz)) (va_Qv (fun (u : Int32 × Int32) => (u.1 = 0 ∧ tp_valM xb xn) ∨ (u.1 = 1 ∧ ¬ tp_valM xb xn)) (fun u t => tp_out E (va_A ((aM, .inr (4, [.int m_thrown, .ref m_names, .ref m_forms, .int 0, .ref m_text, .int m_bad, .int m_at, .int m_length, .ref m_word, .int m_form, .int m_code, .int m_d, .int m_s, .int m_t, .long m_value, .long m_label, .long m_name, .ref m_count, .ref m_formOf, .ref m_codeOf, .ref m_dOf, .ref m_sOf, .ref m_tOf, .ref m_valueOf, .ref m_labelOf, .ref m_nameOf, .ref m_target, .ref m_place, .ref m_far, .int m_imageSize, .int m_farCount, .ref m_image, .int m_written, .ref m_out])) :: (m_text, .inl (tp_ty E 0, 28, .inl f_text)) :: fr) sz) ((aM, .inr (4, [.int u.1, .ref m_names, .ref m_forms, .int u.2, .ref m_text, .int m_bad, .int m_at, .int m_length, .ref m_word, .int m_form, .int m_code, .int m_d, .int m_s, .int m_t, .long m_value, .long m_label, .long m_name, .ref m_count, .ref m_formOf, .ref m_codeOf, .ref m_dOf, .ref m_sOf, .ref m_tOf, .ref m_valueOf, .ref m_labelOf, .ref m_nameOf, .ref m_target, .ref m_place, .ref m_far, .int m_imageSize, .int m_farCount, .ref m_image, .int m_written, .ref m_out])) :: fr) t) (va_A ((aM, .inr (4, [.int m_thrown, .ref m_names, .ref m_forms, .int 0, .ref m_text, .int m_bad, .int m_at, .int m_length, .ref m_word, .int m_form, .int m_code, .int m_d, .int m_s, .int m_t, .long m_value, .long m_label, .long m_name, .ref m_count, .ref m_formOf, .ref m_codeOf, .ref m_dOf, .ref m_sOf, .ref m_tOf, .ref m_valueOf, .ref m_labelOf, .ref m_nameOf, .ref m_target, .ref m_place, .ref m_far, .int m_imageSize, .int m_farCount, .ref m_image, .int m_written, .ref m_out])) :: (m_text, .inl (tp_ty E 0, 28, .inl f_text)) :: fr) sz)) 0 0 (va_A ((aM, .inr (4, [.int m_thrown, .ref m_names, .ref m_forms, .int 0, .ref m_text, .int m_bad, .int m_at, .int m_length, .ref m_word, .int m_form, .int m_code, .int m_d, .int m_s, .int m_t, .long m_value, .long m_label, .long m_name, .ref m_count, .ref m_formOf, .ref m_codeOf, .ref m_dOf, .ref m_sOf, .ref m_tOf, .ref m_valueOf, .ref m_labelOf, .ref m_nameOf, .ref m_target, .ref m_place, .ref m_far, .int m_imageSize, .int m_farCount, .ref m_image, .int m_written, .ref m_out])) :: (m_text, .inl (tp_ty E 0, 28, .inl f_text)) :: fr) sz) := by
  refine Met.ofW (cc := b_M_type) (maxL := 8) (ret := none) (by decide) rfl ?_
  intro p e s m args below meth c s₁ B hml hv
  obtain ⟨rfl, hsz, hP, hK, hD0⟩ := hv
  have hx := B.exec
  have hb := B.bytes
  have hr := B.returns
  have htg : ∀ w ∈ tp_G, w.before ([.ref aM, .long xb, .int xn] : List Value).toArray s = true := fun w h => atoms_spec (ws := w_M_type) B.pre w (List.mem_cons_of_mem _ h)
  have hown : s.vm.findClass "TwoPassModel" = some m.cls := findClass_of_methodNamed B.named
  have hlocks := B.notSynchronized
  subst hsz
  have hD := hD0.self (sz := s.heap.size)
  generalize hAe : va_A ((aM, .inr (4, [.int m_thrown, .ref m_names, .ref m_forms, .int 0, .ref m_text, .int m_bad, .int m_at, .int m_length, .ref m_word, .int m_form, .int m_code, .int m_d, .int m_s, .int m_t, .long m_value, .long m_label, .long m_name, .ref m_count, .ref m_formOf, .ref m_codeOf, .ref m_dOf, .ref m_sOf, .ref m_tOf, .ref m_valueOf, .ref m_labelOf, .ref m_nameOf, .ref m_target, .ref m_place, .ref m_far, .int m_imageSize, .int m_farCount, .ref m_image, .int m_written, .ref m_out])) :: (m_text, .inl (tp_ty E 0, 28, .inl f_text)) :: fr) s.heap.size = A at hD hK ⊢
  have hA : ∀ q : Nat, s.heap.size ≤ q → A q := fun q h => by rw [← hAe]; exact Or.inr h
  have hS : va_S A s.heap s.heap [] := va_S.rf
  have hl := lv_entry ([.ref aM, .long xb, .int xn]) (n := 8) (Nat.le_of_ble_eq_true rfl)
  rw [lg_entry_eq]
  generalize (lg_sl ([.ref aM, .long xb, .int xn]) ++ List.replicate (8 - (lg_sl ([.ref aM, .long xb, .int xn])).length) Slot.unset).toArray = ls at hl ⊢
  have hl : lv_has ls 8 [(0, .ref aM), (1, .long xb), (3, .int xn)] := hl
  refine lv_iload_n hx hb d_M_type_0 rfl (lv_at hl 2 rfl) ?_
  refine lv_iconst (v := 1) hx hb d_M_type_1 (by decide) ?_
  by_cases h1 : xn < 1
  · refine lv_icmp_lt (tgt := 15) hx hb d_M_type_2 (by decide) (fun _ => ?_) (fun h => absurd h1 h)
    refine lv_iconst (v := 0) hx hb d_M_type_15 (by decide) ?_
    refine lv_istore (lv' := [(4, .int 0), (0, .ref aM), (1, .long xb), (3, .int xn)]) hx hb d_M_type_16 hl (by decide) rfl (fun ls hl => ?_)
    refine lv_iconst (v := 0) hx hb d_M_type_18 (by decide) ?_
    refine lv_istore (lv' := [(5, .int 0), (4, .int 0), (0, .ref aM), (1, .long xb), (3, .int xn)]) hx hb d_M_type_19 hl (by decide) rfl (fun ls hl => ?_)
    refine lv_iload hx hb d_M_type_21 (lv_at hl 0 rfl) ?_
    refine lv_iload_n hx hb d_M_type_23 rfl (lv_at hl 4 rfl) ?_
    by_cases h2 : xn ≤ 0
    · refine lv_icmp_ge (tgt := 76) hx hb d_M_type_24 (by decide) (fun _ => ?_) (fun h => absurd h2 h)
      refine lv_aload_n hx hb d_M_type_76 rfl (lv_at hl 2 rfl) ?_
      refine lv_iload hx hb d_M_type_77 (lv_at hl 1 rfl) ?_
      refine lv_if_ne (tgt := 86) hx hb d_M_type_79 (by decide) (fun h => absurd (by decide) h) (fun _ => ?_)
      refine lv_iconst (v := 1) hx hb d_M_type_82 (by decide) ?_
      refine lv_goto (tgt := 102) hx hb d_M_type_83 (by decide) ?_
      refine va_put (D := tp_D E) (ci := 4) (v := .int 1) (ty := .int) (C := qR_M) (T := qF_M) (N := 34) hx hb htg qi_M qt_M qt_M_ok qn_M hown hK.1 hP hD hS 0 rfl rfl 0 (by decide) (htg _ kl_M_208) (fun _ h => h) rfl (by decide +kernel) rfl rfl (Nat.le_of_ble_eq_true rfl) d_M_type_102 (fun H locs hP hD hS => ?_)
      have hP : va_P (tp_D E) tp_cl ((aM, .inr (4, [.int 1, .ref m_names, .ref m_forms, .int 0, .ref m_text, .int m_bad, .int m_at, .int m_length, .ref m_word, .int m_form, .int m_code, .int m_d, .int m_s, .int m_t, .long m_value, .long m_label, .long m_name, .ref m_count, .ref m_formOf, .ref m_codeOf, .ref m_dOf, .ref m_sOf, .ref m_tOf, .ref m_valueOf, .ref m_labelOf, .ref m_nameOf, .ref m_target, .ref m_place, .ref m_far, .int m_imageSize, .int m_farCount, .ref m_image, .int m_written, .ref m_out])) :: (m_text, .inl (tp_ty E 0, 28, .inl f_text)) :: fr) H := hP
      have hD : va_D A ((aM, .inr (4, [.int 1, .ref m_names, .ref m_forms, .int 0, .ref m_text, .int m_bad, .int m_at, .int m_length, .ref m_word, .int m_form, .int m_code, .int m_d, .int m_s, .int m_t, .long m_value, .long m_label, .long m_name, .ref m_count, .ref m_formOf, .ref m_codeOf, .ref m_dOf, .ref m_sOf, .ref m_tOf, .ref m_valueOf, .ref m_labelOf, .ref m_nameOf, .ref m_target, .ref m_place, .ref m_far, .int m_imageSize, .int m_farCount, .ref m_image, .int m_written, .ref m_out])) :: (m_text, .inl (tp_ty E 0, 28, .inl f_text)) :: fr) := hD
      refine lv_iload_n hx hb d_M_type_105 rfl (lv_at hl 4 rfl) ?_
      refine lv_iconst (v := 1) hx hb d_M_type_106 (by decide) ?_
      refine lv_isub hx hb d_M_type_107 ?_
      refine lv_istore (lv' := [(5, .int (xn - 1)), (4, .int 0), (0, .ref aM), (1, .long xb), (3, .int xn)]) hx hb d_M_type_108 hl (by decide) rfl (fun ls hl => ?_)
      refine lv_iload hx hb d_M_type_110 (lv_at hl 0 rfl) ?_
      by_cases h3 : (xn - 1) < 0
      · refine lv_if_lt (tgt := 159) hx hb d_M_type_112 (by decide) (fun _ => ?_) (fun h => absurd h3 h)
        exact W.vret hx hb hr (fun t ht hW => ⟨⟨(1, 0), rfl, Or.inr ⟨rfl, fun z => tp_no18 (Or.inl h1) z.1⟩, by rw [ht]; exact (tp_oneP hP), (tp_oneD hD)⟩, hS.F ht⟩) hS.2.2 d_M_type_159
      · refine lv_if_lt (tgt := 159) hx hb d_M_type_112 (by decide) (fun h => absurd h h3) (fun _ => ?_)
        refine lv_aload_n hx hb d_M_type_115 rfl (lv_at hl 2 rfl) ?_
        refine va_get (D := tp_D E) (ci := 4) (v := .int 1) (C := qR_M) (T := qF_M) (N := 34) hx hb htg qi_M hown hK.1 hP 0 rfl rfl 0 (by decide) (htg _ kl_M_208) (fun _ h => h) rfl d_M_type_116 ?_
        refine lv_if_ne (tgt := 159) hx hb d_M_type_119 (by decide) (fun _ => ?_) (fun h => absurd h (by decide))
        exact W.vret hx hb hr (fun t ht hW => ⟨⟨(1, 0), rfl, Or.inr ⟨rfl, fun z => tp_no18 (Or.inl h1) z.1⟩, by rw [ht]; exact (tp_oneP hP), (tp_oneD hD)⟩, hS.F ht⟩) hS.2.2 d_M_type_159
    · refine lv_icmp_ge (tgt := 76) hx hb d_M_type_24 (by decide) (fun h => absurd h h2) (fun _ => ?_)
      refine lv_iload hx hb d_M_type_27 (lv_at hl 1 rfl) ?_
      refine lv_if_eq (tgt := 76) hx hb d_M_type_29 (by decide) (fun _ => ?_) (fun h => absurd (by decide) h)
      refine lv_aload_n hx hb d_M_type_76 rfl (lv_at hl 2 rfl) ?_
      refine lv_iload hx hb d_M_type_77 (lv_at hl 1 rfl) ?_
      refine lv_if_ne (tgt := 86) hx hb d_M_type_79 (by decide) (fun h => absurd (by decide) h) (fun _ => ?_)
      refine lv_iconst (v := 1) hx hb d_M_type_82 (by decide) ?_
      refine lv_goto (tgt := 102) hx hb d_M_type_83 (by decide) ?_
      refine va_put (D := tp_D E) (ci := 4) (v := .int 1) (ty := .int) (C := qR_M) (T := qF_M) (N := 34) hx hb htg qi_M qt_M qt_M_ok qn_M hown hK.1 hP hD hS 0 rfl rfl 0 (by decide) (htg _ kl_M_208) (fun _ h => h) rfl (by decide +kernel) rfl rfl (Nat.le_of_ble_eq_true rfl) d_M_type_102 (fun H locs hP hD hS => ?_)
      have hP : va_P (tp_D E) tp_cl ((aM, .inr (4, [.int 1, .ref m_names, .ref m_forms, .int 0, .ref m_text, .int m_bad, .int m_at, .int m_length, .ref m_word, .int m_form, .int m_code, .int m_d, .int m_s, .int m_t, .long m_value, .long m_label, .long m_name, .ref m_count, .ref m_formOf, .ref m_codeOf, .ref m_dOf, .ref m_sOf, .ref m_tOf, .ref m_valueOf, .ref m_labelOf, .ref m_nameOf, .ref m_target, .ref m_place, .ref m_far, .int m_imageSize, .int m_farCount, .ref m_image, .int m_written, .ref m_out])) :: (m_text, .inl (tp_ty E 0, 28, .inl f_text)) :: fr) H := hP
      have hD : va_D A ((aM, .inr (4, [.int 1, .ref m_names, .ref m_forms, .int 0, .ref m_text, .int m_bad, .int m_at, .int m_length, .ref m_word, .int m_form, .int m_code, .int m_d, .int m_s, .int m_t, .long m_value, .long m_label, .long m_name, .ref m_count, .ref m_formOf, .ref m_codeOf, .ref m_dOf, .ref m_sOf, .ref m_tOf, .ref m_valueOf, .ref m_labelOf, .ref m_nameOf, .ref m_target, .ref m_place, .ref m_far, .int m_imageSize, .int m_farCount, .ref m_image, .int m_written, .ref m_out])) :: (m_text, .inl (tp_ty E 0, 28, .inl f_text)) :: fr) := hD
      refine lv_iload_n hx hb d_M_type_105 rfl (lv_at hl 4 rfl) ?_
      refine lv_iconst (v := 1) hx hb d_M_type_106 (by decide) ?_
      refine lv_isub hx hb d_M_type_107 ?_
      refine lv_istore (lv' := [(5, .int (xn - 1)), (4, .int 0), (0, .ref aM), (1, .long xb), (3, .int xn)]) hx hb d_M_type_108 hl (by decide) rfl (fun ls hl => ?_)
      refine lv_iload hx hb d_M_type_110 (lv_at hl 0 rfl) ?_
      by_cases h3 : (xn - 1) < 0
      · refine lv_if_lt (tgt := 159) hx hb d_M_type_112 (by decide) (fun _ => ?_) (fun h => absurd h3 h)
        exact W.vret hx hb hr (fun t ht hW => ⟨⟨(1, 0), rfl, Or.inr ⟨rfl, fun z => tp_no18 (Or.inl h1) z.1⟩, by rw [ht]; exact (tp_oneP hP), (tp_oneD hD)⟩, hS.F ht⟩) hS.2.2 d_M_type_159
      · refine lv_if_lt (tgt := 159) hx hb d_M_type_112 (by decide) (fun h => absurd h h3) (fun _ => ?_)
        refine lv_aload_n hx hb d_M_type_115 rfl (lv_at hl 2 rfl) ?_
        refine va_get (D := tp_D E) (ci := 4) (v := .int 1) (C := qR_M) (T := qF_M) (N := 34) hx hb htg qi_M hown hK.1 hP 0 rfl rfl 0 (by decide) (htg _ kl_M_208) (fun _ h => h) rfl d_M_type_116 ?_
        refine lv_if_ne (tgt := 159) hx hb d_M_type_119 (by decide) (fun _ => ?_) (fun h => absurd h (by decide))
        exact W.vret hx hb hr (fun t ht hW => ⟨⟨(1, 0), rfl, Or.inr ⟨rfl, fun z => tp_no18 (Or.inl h1) z.1⟩, by rw [ht]; exact (tp_oneP hP), (tp_oneD hD)⟩, hS.F ht⟩) hS.2.2 d_M_type_159
  · refine lv_icmp_lt (tgt := 15) hx hb d_M_type_2 (by decide) (fun h => absurd h h1) (fun _ => ?_)
    refine lv_iload_n hx hb d_M_type_5 rfl (lv_at hl 2 rfl) ?_
    refine lv_bipush (v := 8) hx hb d_M_type_6 (by decide) ?_
    by_cases h2 : 8 < xn
    · refine lv_icmp_gt (tgt := 15) hx hb d_M_type_8 (by decide) (fun _ => ?_) (fun h => absurd h2 h)
      refine lv_iconst (v := 0) hx hb d_M_type_15 (by decide) ?_
      refine lv_istore (lv' := [(4, .int 0), (0, .ref aM), (1, .long xb), (3, .int xn)]) hx hb d_M_type_16 hl (by decide) rfl (fun ls hl => ?_)
      refine lv_iconst (v := 0) hx hb d_M_type_18 (by decide) ?_
      refine lv_istore (lv' := [(5, .int 0), (4, .int 0), (0, .ref aM), (1, .long xb), (3, .int xn)]) hx hb d_M_type_19 hl (by decide) rfl (fun ls hl => ?_)
      refine lv_iload hx hb d_M_type_21 (lv_at hl 0 rfl) ?_
      refine lv_iload_n hx hb d_M_type_23 rfl (lv_at hl 4 rfl) ?_
      by_cases h3 : xn ≤ 0
      · refine lv_icmp_ge (tgt := 76) hx hb d_M_type_24 (by decide) (fun _ => ?_) (fun h => absurd h3 h)
        refine lv_aload_n hx hb d_M_type_76 rfl (lv_at hl 2 rfl) ?_
        refine lv_iload hx hb d_M_type_77 (lv_at hl 1 rfl) ?_
        refine lv_if_ne (tgt := 86) hx hb d_M_type_79 (by decide) (fun h => absurd (by decide) h) (fun _ => ?_)
        refine lv_iconst (v := 1) hx hb d_M_type_82 (by decide) ?_
        refine lv_goto (tgt := 102) hx hb d_M_type_83 (by decide) ?_
        refine va_put (D := tp_D E) (ci := 4) (v := .int 1) (ty := .int) (C := qR_M) (T := qF_M) (N := 34) hx hb htg qi_M qt_M qt_M_ok qn_M hown hK.1 hP hD hS 0 rfl rfl 0 (by decide) (htg _ kl_M_208) (fun _ h => h) rfl (by decide +kernel) rfl rfl (Nat.le_of_ble_eq_true rfl) d_M_type_102 (fun H locs hP hD hS => ?_)
        have hP : va_P (tp_D E) tp_cl ((aM, .inr (4, [.int 1, .ref m_names, .ref m_forms, .int 0, .ref m_text, .int m_bad, .int m_at, .int m_length, .ref m_word, .int m_form, .int m_code, .int m_d, .int m_s, .int m_t, .long m_value, .long m_label, .long m_name, .ref m_count, .ref m_formOf, .ref m_codeOf, .ref m_dOf, .ref m_sOf, .ref m_tOf, .ref m_valueOf, .ref m_labelOf, .ref m_nameOf, .ref m_target, .ref m_place, .ref m_far, .int m_imageSize, .int m_farCount, .ref m_image, .int m_written, .ref m_out])) :: (m_text, .inl (tp_ty E 0, 28, .inl f_text)) :: fr) H := hP
        have hD : va_D A ((aM, .inr (4, [.int 1, .ref m_names, .ref m_forms, .int 0, .ref m_text, .int m_bad, .int m_at, .int m_length, .ref m_word, .int m_form, .int m_code, .int m_d, .int m_s, .int m_t, .long m_value, .long m_label, .long m_name, .ref m_count, .ref m_formOf, .ref m_codeOf, .ref m_dOf, .ref m_sOf, .ref m_tOf, .ref m_valueOf, .ref m_labelOf, .ref m_nameOf, .ref m_target, .ref m_place, .ref m_far, .int m_imageSize, .int m_farCount, .ref m_image, .int m_written, .ref m_out])) :: (m_text, .inl (tp_ty E 0, 28, .inl f_text)) :: fr) := hD
        refine lv_iload_n hx hb d_M_type_105 rfl (lv_at hl 4 rfl) ?_
        refine lv_iconst (v := 1) hx hb d_M_type_106 (by decide) ?_
        refine lv_isub hx hb d_M_type_107 ?_
        refine lv_istore (lv' := [(5, .int (xn - 1)), (4, .int 0), (0, .ref aM), (1, .long xb), (3, .int xn)]) hx hb d_M_type_108 hl (by decide) rfl (fun ls hl => ?_)
        refine lv_iload hx hb d_M_type_110 (lv_at hl 0 rfl) ?_
        by_cases h4 : (xn - 1) < 0
        · refine lv_if_lt (tgt := 159) hx hb d_M_type_112 (by decide) (fun _ => ?_) (fun h => absurd h4 h)
          exact W.vret hx hb hr (fun t ht hW => ⟨⟨(1, 0), rfl, Or.inr ⟨rfl, fun z => tp_no18 (Or.inr (Int32.not_le.mpr h2)) z.1⟩, by rw [ht]; exact (tp_oneP hP), (tp_oneD hD)⟩, hS.F ht⟩) hS.2.2 d_M_type_159
        · refine lv_if_lt (tgt := 159) hx hb d_M_type_112 (by decide) (fun h => absurd h h4) (fun _ => ?_)
          refine lv_aload_n hx hb d_M_type_115 rfl (lv_at hl 2 rfl) ?_
          refine va_get (D := tp_D E) (ci := 4) (v := .int 1) (C := qR_M) (T := qF_M) (N := 34) hx hb htg qi_M hown hK.1 hP 0 rfl rfl 0 (by decide) (htg _ kl_M_208) (fun _ h => h) rfl d_M_type_116 ?_
          refine lv_if_ne (tgt := 159) hx hb d_M_type_119 (by decide) (fun _ => ?_) (fun h => absurd h (by decide))
          exact W.vret hx hb hr (fun t ht hW => ⟨⟨(1, 0), rfl, Or.inr ⟨rfl, fun z => tp_no18 (Or.inr (Int32.not_le.mpr h2)) z.1⟩, by rw [ht]; exact (tp_oneP hP), (tp_oneD hD)⟩, hS.F ht⟩) hS.2.2 d_M_type_159
      · refine lv_icmp_ge (tgt := 76) hx hb d_M_type_24 (by decide) (fun h => absurd h h3) (fun _ => ?_)
        refine lv_iload hx hb d_M_type_27 (lv_at hl 1 rfl) ?_
        refine lv_if_eq (tgt := 76) hx hb d_M_type_29 (by decide) (fun _ => ?_) (fun h => absurd (by decide) h)
        refine lv_aload_n hx hb d_M_type_76 rfl (lv_at hl 2 rfl) ?_
        refine lv_iload hx hb d_M_type_77 (lv_at hl 1 rfl) ?_
        refine lv_if_ne (tgt := 86) hx hb d_M_type_79 (by decide) (fun h => absurd (by decide) h) (fun _ => ?_)
        refine lv_iconst (v := 1) hx hb d_M_type_82 (by decide) ?_
        refine lv_goto (tgt := 102) hx hb d_M_type_83 (by decide) ?_
        refine va_put (D := tp_D E) (ci := 4) (v := .int 1) (ty := .int) (C := qR_M) (T := qF_M) (N := 34) hx hb htg qi_M qt_M qt_M_ok qn_M hown hK.1 hP hD hS 0 rfl rfl 0 (by decide) (htg _ kl_M_208) (fun _ h => h) rfl (by decide +kernel) rfl rfl (Nat.le_of_ble_eq_true rfl) d_M_type_102 (fun H locs hP hD hS => ?_)
        have hP : va_P (tp_D E) tp_cl ((aM, .inr (4, [.int 1, .ref m_names, .ref m_forms, .int 0, .ref m_text, .int m_bad, .int m_at, .int m_length, .ref m_word, .int m_form, .int m_code, .int m_d, .int m_s, .int m_t, .long m_value, .long m_label, .long m_name, .ref m_count, .ref m_formOf, .ref m_codeOf, .ref m_dOf, .ref m_sOf, .ref m_tOf, .ref m_valueOf, .ref m_labelOf, .ref m_nameOf, .ref m_target, .ref m_place, .ref m_far, .int m_imageSize, .int m_farCount, .ref m_image, .int m_written, .ref m_out])) :: (m_text, .inl (tp_ty E 0, 28, .inl f_text)) :: fr) H := hP
        have hD : va_D A ((aM, .inr (4, [.int 1, .ref m_names, .ref m_forms, .int 0, .ref m_text, .int m_bad, .int m_at, .int m_length, .ref m_word, .int m_form, .int m_code, .int m_d, .int m_s, .int m_t, .long m_value, .long m_label, .long m_name, .ref m_count, .ref m_formOf, .ref m_codeOf, .ref m_dOf, .ref m_sOf, .ref m_tOf, .ref m_valueOf, .ref m_labelOf, .ref m_nameOf, .ref m_target, .ref m_place, .ref m_far, .int m_imageSize, .int m_farCount, .ref m_image, .int m_written, .ref m_out])) :: (m_text, .inl (tp_ty E 0, 28, .inl f_text)) :: fr) := hD
        refine lv_iload_n hx hb d_M_type_105 rfl (lv_at hl 4 rfl) ?_
        refine lv_iconst (v := 1) hx hb d_M_type_106 (by decide) ?_
        refine lv_isub hx hb d_M_type_107 ?_
        refine lv_istore (lv' := [(5, .int (xn - 1)), (4, .int 0), (0, .ref aM), (1, .long xb), (3, .int xn)]) hx hb d_M_type_108 hl (by decide) rfl (fun ls hl => ?_)
        refine lv_iload hx hb d_M_type_110 (lv_at hl 0 rfl) ?_
        by_cases h4 : (xn - 1) < 0
        · refine lv_if_lt (tgt := 159) hx hb d_M_type_112 (by decide) (fun _ => ?_) (fun h => absurd h4 h)
          exact W.vret hx hb hr (fun t ht hW => ⟨⟨(1, 0), rfl, Or.inr ⟨rfl, fun z => tp_no18 (Or.inr (Int32.not_le.mpr h2)) z.1⟩, by rw [ht]; exact (tp_oneP hP), (tp_oneD hD)⟩, hS.F ht⟩) hS.2.2 d_M_type_159
        · refine lv_if_lt (tgt := 159) hx hb d_M_type_112 (by decide) (fun h => absurd h h4) (fun _ => ?_)
          refine lv_aload_n hx hb d_M_type_115 rfl (lv_at hl 2 rfl) ?_
          refine va_get (D := tp_D E) (ci := 4) (v := .int 1) (C := qR_M) (T := qF_M) (N := 34) hx hb htg qi_M hown hK.1 hP 0 rfl rfl 0 (by decide) (htg _ kl_M_208) (fun _ h => h) rfl d_M_type_116 ?_
          refine lv_if_ne (tgt := 159) hx hb d_M_type_119 (by decide) (fun _ => ?_) (fun h => absurd h (by decide))
          exact W.vret hx hb hr (fun t ht hW => ⟨⟨(1, 0), rfl, Or.inr ⟨rfl, fun z => tp_no18 (Or.inr (Int32.not_le.mpr h2)) z.1⟩, by rw [ht]; exact (tp_oneP hP), (tp_oneD hD)⟩, hS.F ht⟩) hS.2.2 d_M_type_159
    · refine lv_icmp_gt (tgt := 15) hx hb d_M_type_8 (by decide) (fun h => absurd h h2) (fun _ => ?_)
      refine lv_iconst (v := 1) hx hb d_M_type_11 (by decide) ?_
      refine lv_goto (tgt := 16) hx hb d_M_type_12 (by decide) ?_
      refine lv_istore (lv' := [(4, .int 1), (0, .ref aM), (1, .long xb), (3, .int xn)]) hx hb d_M_type_16 hl (by decide) rfl (fun ls hl => ?_)
      refine lv_iconst (v := 0) hx hb d_M_type_18 (by decide) ?_
      refine lv_istore (lv' := [(5, .int 0), (4, .int 1), (0, .ref aM), (1, .long xb), (3, .int xn)]) hx hb d_M_type_19 hl (by decide) rfl (fun ls hl => ?_)
      have hn1 : 1 ≤ xn.toInt ∧ xn.toInt ≤ 8 := tp_n18 h1 (Int32.not_lt.mp h2)
      refine tp_loop (fun j ls H locs (k : Int32) => ((0 ≤ k.toInt) ∧ (k.toInt + (j : Int) = xn.toInt) ∧ (∀ i : Int32, 0 ≤ i.toInt → i.toInt < k.toInt → tp_okM (tp_cm xb i))) ∧ lv_has ls 8 [(5, .int k), (4, .int 1), (0, .ref aM), (1, .long xb), (3, .int xn)] ∧ va_P (tp_D E) tp_cl ((aM, .inr (4, [.int m_thrown, .ref m_names, .ref m_forms, .int 0, .ref m_text, .int m_bad, .int m_at, .int m_length, .ref m_word, .int m_form, .int m_code, .int m_d, .int m_s, .int m_t, .long m_value, .long m_label, .long m_name, .ref m_count, .ref m_formOf, .ref m_codeOf, .ref m_dOf, .ref m_sOf, .ref m_tOf, .ref m_valueOf, .ref m_labelOf, .ref m_nameOf, .ref m_target, .ref m_place, .ref m_far, .int m_imageSize, .int m_farCount, .ref m_image, .int m_written, .ref m_out])) :: (m_text, .inl (tp_ty E 0, 28, .inl f_text)) :: fr) H ∧ va_D A ((aM, .inr (4, [.int m_thrown, .ref m_names, .ref m_forms, .int 0, .ref m_text, .int m_bad, .int m_at, .int m_length, .ref m_word, .int m_form, .int m_code, .int m_d, .int m_s, .int m_t, .long m_value, .long m_label, .long m_name, .ref m_count, .ref m_formOf, .ref m_codeOf, .ref m_dOf, .ref m_sOf, .ref m_tOf, .ref m_valueOf, .ref m_labelOf, .ref m_nameOf, .ref m_target, .ref m_place, .ref m_far, .int m_imageSize, .int m_farCount, .ref m_image, .int m_written, .ref m_out])) :: (m_text, .inl (tp_ty E 0, 28, .inl f_text)) :: fr) ∧ va_S A s.heap H locs) ?_ _ 0 ⟨⟨by decide, show (0 : Int32).toInt + ((xn.toInt).toNat : Int) = xn.toInt from by rw [Int32.toInt_zero]; omega, fun i z1 z2 => absurd z2 (by rw [Int32.toInt_zero]; omega)⟩, tp_lvI hl [0, 1, 2, 3, 4] rfl, hP, hD, hS⟩
      intro j k ls H locs hI ih
      obtain ⟨⟨hk0, hj, hgood⟩, hl, hP, hD, hS⟩ := hI
      refine lv_iload hx hb d_M_type_21 (lv_at hl 0 rfl) ?_
      refine lv_iload_n hx hb d_M_type_23 rfl (lv_at hl 4 rfl) ?_
      by_cases h3 : xn ≤ k
      · refine lv_icmp_ge (tgt := 76) hx hb d_M_type_24 (by decide) (fun _ => ?_) (fun h => absurd h3 h)
        refine lv_aload_n hx hb d_M_type_76 rfl (lv_at hl 2 rfl) ?_
        refine lv_iload hx hb d_M_type_77 (lv_at hl 1 rfl) ?_
        refine lv_if_ne (tgt := 86) hx hb d_M_type_79 (by decide) (fun _ => ?_) (fun h => absurd h (by decide))
        refine lv_aload_n hx hb d_M_type_86 rfl (lv_at hl 2 rfl) ?_
        refine va_get (D := tp_D E) (ci := 4) (v := .int 0) (C := qR_M) (T := qF_M) (N := 34) hx hb htg qi_M hown hK.1 hP 0 rfl rfl 3 (by decide) (htg _ kl_M_214) (fun _ h => h) rfl d_M_type_87 ?_
        refine lv_iload_n hx hb d_M_type_90 rfl (lv_at hl 4 rfl) ?_
        refine lv_iadd hx hb d_M_type_91 ?_
        refine lv_bipush (v := 28) hx hb d_M_type_92 (by decide) ?_
        refine lv_icmp_le (tgt := 101) hx hb d_M_type_94 (by decide) (fun _ => ?_) (fun h => absurd (tp_le28 hn1) h)
        refine lv_iconst (v := 0) hx hb d_M_type_101 (by decide) ?_
        refine va_put (D := tp_D E) (ci := 4) (v := .int 0) (ty := .int) (C := qR_M) (T := qF_M) (N := 34) hx hb htg qi_M qt_M qt_M_ok qn_M hown hK.1 hP hD hS 0 rfl rfl 0 (by decide) (htg _ kl_M_208) (fun _ h => h) rfl (by decide +kernel) rfl rfl (Nat.le_of_ble_eq_true rfl) d_M_type_102 (fun H locs hP hD hS => ?_)
        have hP : va_P (tp_D E) tp_cl ((aM, .inr (4, [.int 0, .ref m_names, .ref m_forms, .int 0, .ref m_text, .int m_bad, .int m_at, .int m_length, .ref m_word, .int m_form, .int m_code, .int m_d, .int m_s, .int m_t, .long m_value, .long m_label, .long m_name, .ref m_count, .ref m_formOf, .ref m_codeOf, .ref m_dOf, .ref m_sOf, .ref m_tOf, .ref m_valueOf, .ref m_labelOf, .ref m_nameOf, .ref m_target, .ref m_place, .ref m_far, .int m_imageSize, .int m_farCount, .ref m_image, .int m_written, .ref m_out])) :: (m_text, .inl (tp_ty E 0, 28, .inl f_text)) :: fr) H := hP
        have hD : va_D A ((aM, .inr (4, [.int 0, .ref m_names, .ref m_forms, .int 0, .ref m_text, .int m_bad, .int m_at, .int m_length, .ref m_word, .int m_form, .int m_code, .int m_d, .int m_s, .int m_t, .long m_value, .long m_label, .long m_name, .ref m_count, .ref m_formOf, .ref m_codeOf, .ref m_dOf, .ref m_sOf, .ref m_tOf, .ref m_valueOf, .ref m_labelOf, .ref m_nameOf, .ref m_target, .ref m_place, .ref m_far, .int m_imageSize, .int m_farCount, .ref m_image, .int m_written, .ref m_out])) :: (m_text, .inl (tp_ty E 0, 28, .inl f_text)) :: fr) := hD
        refine lv_iload_n hx hb d_M_type_105 rfl (lv_at hl 4 rfl) ?_
        refine lv_iconst (v := 1) hx hb d_M_type_106 (by decide) ?_
        refine lv_isub hx hb d_M_type_107 ?_
        refine lv_istore (lv' := [(5, .int (xn - 1)), (4, .int 1), (0, .ref aM), (1, .long xb), (3, .int xn)]) hx hb d_M_type_108 hl (by decide) rfl (fun ls hl => ?_)
        have hall : tp_valM xb xn := ⟨hn1, fun i z1 z2 => hgood i z1 (Int.lt_of_lt_of_le z2 (Int32.le_iff_toInt_le.mp h3))⟩
        refine tp_loop3 (fun j2 ls H locs (k2 : Int32) (z2 : Int32) (f2 : Nat → Int32) => ((-1 ≤ k2.toInt ∧ 0 ≤ z2.toInt) ∧ (k2.toInt + 1 = (j2 : Int)) ∧ (z2.toInt + (j2 : Int) = xn.toInt)) ∧ lv_has ls 8 [(5, .int k2), (4, .int 1), (0, .ref aM), (1, .long xb), (3, .int xn)] ∧ va_P (tp_D E) tp_cl ((aM, .inr (4, [.int 0, .ref m_names, .ref m_forms, .int z2, .ref m_text, .int m_bad, .int m_at, .int m_length, .ref m_word, .int m_form, .int m_code, .int m_d, .int m_s, .int m_t, .long m_value, .long m_label, .long m_name, .ref m_count, .ref m_formOf, .ref m_codeOf, .ref m_dOf, .ref m_sOf, .ref m_tOf, .ref m_valueOf, .ref m_labelOf, .ref m_nameOf, .ref m_target, .ref m_place, .ref m_far, .int m_imageSize, .int m_farCount, .ref m_image, .int m_written, .ref m_out])) :: (m_text, .inl (tp_ty E 0, 28, .inl f2)) :: fr) H ∧ va_D A ((aM, .inr (4, [.int 0, .ref m_names, .ref m_forms, .int z2, .ref m_text, .int m_bad, .int m_at, .int m_length, .ref m_word, .int m_form, .int m_code, .int m_d, .int m_s, .int m_t, .long m_value, .long m_label, .long m_name, .ref m_count, .ref m_formOf, .ref m_codeOf, .ref m_dOf, .ref m_sOf, .ref m_tOf, .ref m_valueOf, .ref m_labelOf, .ref m_nameOf, .ref m_target, .ref m_place, .ref m_far, .int m_imageSize, .int m_farCount, .ref m_image, .int m_written, .ref m_out])) :: (m_text, .inl (tp_ty E 0, 28, .inl f2)) :: fr) ∧ va_S A s.heap H locs) ?_ _ (xn - 1) 0 f_text ⟨⟨by rw [tp_dec (by omega), Int32.toInt_zero]; omega, show (xn - 1).toInt + 1 = ((xn.toInt).toNat : Int) from by rw [tp_dec (by omega)]; omega, show (0 : Int32).toInt + ((xn.toInt).toNat : Int) = xn.toInt from by rw [Int32.toInt_zero]; omega⟩, tp_lvI hl [0, 1, 2, 3, 4] rfl, hP, hD, hS⟩
        intro j2 k2 z2 f2 ls H locs hI ih2
        obtain ⟨⟨hk2, hj2, hz2⟩, hl, hP, hD, hS⟩ := hI
        refine lv_iload hx hb d_M_type_110 (lv_at hl 0 rfl) ?_
        by_cases h4 : k2 < 0
        · refine lv_if_lt (tgt := 159) hx hb d_M_type_112 (by decide) (fun _ => ?_) (fun h => absurd h4 h)
          exact W.vret hx hb hr (fun t ht hW => ⟨⟨(0, z2), rfl, Or.inl ⟨rfl, hall⟩, by rw [ht]; exact (tp_oneP hP), (tp_oneD hD)⟩, hS.F ht⟩) hS.2.2 d_M_type_159
        · refine lv_if_lt (tgt := 159) hx hb d_M_type_112 (by decide) (fun h => absurd h h4) (fun _ => ?_)
          refine lv_aload_n hx hb d_M_type_115 rfl (lv_at hl 2 rfl) ?_
          refine va_get (D := tp_D E) (ci := 4) (v := .int 0) (C := qR_M) (T := qF_M) (N := 34) hx hb htg qi_M hown hK.1 hP 0 rfl rfl 0 (by decide) (htg _ kl_M_208) (fun _ h => h) rfl d_M_type_116 ?_
          refine lv_if_ne (tgt := 159) hx hb d_M_type_119 (by decide) (fun h => absurd (by decide) h) (fun _ => ?_)
          refine lv_aload_n hx hb d_M_type_122 rfl (lv_at hl 2 rfl) ?_
          refine va_get (D := tp_D E) (ci := 4) (v := .ref m_text) (C := qR_M) (T := qF_M) (N := 34) hx hb htg qi_M hown hK.1 hP 0 rfl rfl 4 (by decide) (htg _ kl_M_17) (fun _ h => h) rfl d_M_type_123 ?_
          refine lv_aload_n hx hb d_M_type_126 rfl (lv_at hl 2 rfl) ?_
          refine va_get (D := tp_D E) (ci := 4) (v := .int z2) (C := qR_M) (T := qF_M) (N := 34) hx hb htg qi_M hown hK.1 hP 0 rfl rfl 3 (by decide) (htg _ kl_M_214) (fun _ h => h) rfl d_M_type_127 ?_
          refine lv_lload_n hx hb d_M_type_130 rfl (lv_at hl 3 rfl) ?_
          refine lv_bipush (v := 8) hx hb d_M_type_131 (by decide) ?_
          refine lv_iload hx hb d_M_type_133 (lv_at hl 0 rfl) ?_
          refine lv_imul hx hb d_M_type_135 ?_
          refine lv_lshr (v := (xb >>> (Int32.toInt64 (8 * k2) &&& 63))) hx hb d_M_type_136 rfl ?_
          refine lv_ldc2 (v := 255) hx hb hown (htg _ kl_M_314) d_M_type_137 ?_
          refine lv_land hx hb d_M_type_140 ?_
          refine lv_l2i (v := ((xb >>> (Int32.toInt64 (8 * k2) &&& 63)) &&& 255).toInt32) hx hb d_M_type_141 rfl ?_
          refine va_iast (D := tp_D E) hx hb hK.1 hP hD hS 1 0 rfl rfl (vp_in_iff.mpr (tp_z28 h4 hk2 hj2 hz2 hn1)) d_M_type_142 (fun H locs hP hD hS => ?_)
          have hP : va_P (tp_D E) tp_cl ((aM, .inr (4, [.int 0, .ref m_names, .ref m_forms, .int z2, .ref m_text, .int m_bad, .int m_at, .int m_length, .ref m_word, .int m_form, .int m_code, .int m_d, .int m_s, .int m_t, .long m_value, .long m_label, .long m_name, .ref m_count, .ref m_formOf, .ref m_codeOf, .ref m_dOf, .ref m_sOf, .ref m_tOf, .ref m_valueOf, .ref m_labelOf, .ref m_nameOf, .ref m_target, .ref m_place, .ref m_far, .int m_imageSize, .int m_farCount, .ref m_image, .int m_written, .ref m_out])) :: (m_text, .inl (tp_ty E 0, 28, .inl (upd f2 z2.toNatClampNeg (((xb >>> (Int32.toInt64 (8 * k2) &&& 63)) &&& 255).toInt32)))) :: fr) H := hP
          have hD : va_D A ((aM, .inr (4, [.int 0, .ref m_names, .ref m_forms, .int z2, .ref m_text, .int m_bad, .int m_at, .int m_length, .ref m_word, .int m_form, .int m_code, .int m_d, .int m_s, .int m_t, .long m_value, .long m_label, .long m_name, .ref m_count, .ref m_formOf, .ref m_codeOf, .ref m_dOf, .ref m_sOf, .ref m_tOf, .ref m_valueOf, .ref m_labelOf, .ref m_nameOf, .ref m_target, .ref m_place, .ref m_far, .int m_imageSize, .int m_farCount, .ref m_image, .int m_written, .ref m_out])) :: (m_text, .inl (tp_ty E 0, 28, .inl (upd f2 z2.toNatClampNeg (((xb >>> (Int32.toInt64 (8 * k2) &&& 63)) &&& 255).toInt32)))) :: fr) := hD
          refine lv_aload_n hx hb d_M_type_143 rfl (lv_at hl 2 rfl) ?_
          refine lv_dup hx hb d_M_type_144 rfl ?_
          refine va_get (D := tp_D E) (ci := 4) (v := .int z2) (C := qR_M) (T := qF_M) (N := 34) hx hb htg qi_M hown hK.1 hP 0 rfl rfl 3 (by decide) (htg _ kl_M_214) (fun _ h => h) rfl d_M_type_145 ?_
          refine lv_iconst (v := 1) hx hb d_M_type_148 (by decide) ?_
          refine lv_iadd hx hb d_M_type_149 ?_
          refine va_put (D := tp_D E) (ci := 4) (v := .int (z2 + 1)) (ty := .int) (C := qR_M) (T := qF_M) (N := 34) hx hb htg qi_M qt_M qt_M_ok qn_M hown hK.1 hP hD hS 0 rfl rfl 3 (by decide) (htg _ kl_M_214) (fun _ h => h) rfl (by decide +kernel) rfl rfl (Nat.le_of_ble_eq_true rfl) d_M_type_150 (fun H locs hP hD hS => ?_)
          have hP : va_P (tp_D E) tp_cl ((aM, .inr (4, [.int 0, .ref m_names, .ref m_forms, .int (z2 + 1), .ref m_text, .int m_bad, .int m_at, .int m_length, .ref m_word, .int m_form, .int m_code, .int m_d, .int m_s, .int m_t, .long m_value, .long m_label, .long m_name, .ref m_count, .ref m_formOf, .ref m_codeOf, .ref m_dOf, .ref m_sOf, .ref m_tOf, .ref m_valueOf, .ref m_labelOf, .ref m_nameOf, .ref m_target, .ref m_place, .ref m_far, .int m_imageSize, .int m_farCount, .ref m_image, .int m_written, .ref m_out])) :: (m_text, .inl (tp_ty E 0, 28, .inl (upd f2 z2.toNatClampNeg (((xb >>> (Int32.toInt64 (8 * k2) &&& 63)) &&& 255).toInt32)))) :: fr) H := hP
          have hD : va_D A ((aM, .inr (4, [.int 0, .ref m_names, .ref m_forms, .int (z2 + 1), .ref m_text, .int m_bad, .int m_at, .int m_length, .ref m_word, .int m_form, .int m_code, .int m_d, .int m_s, .int m_t, .long m_value, .long m_label, .long m_name, .ref m_count, .ref m_formOf, .ref m_codeOf, .ref m_dOf, .ref m_sOf, .ref m_tOf, .ref m_valueOf, .ref m_labelOf, .ref m_nameOf, .ref m_target, .ref m_place, .ref m_far, .int m_imageSize, .int m_farCount, .ref m_image, .int m_written, .ref m_out])) :: (m_text, .inl (tp_ty E 0, 28, .inl (upd f2 z2.toNatClampNeg (((xb >>> (Int32.toInt64 (8 * k2) &&& 63)) &&& 255).toInt32)))) :: fr) := hD
          refine lv_iinc (k := 0) (v := (k2 + (-1))) (lv' := [(5, .int (k2 + (-1))), (4, .int 1), (0, .ref aM), (1, .long xb), (3, .int xn)]) hx hb d_M_type_153 hl rfl rfl (by decide) rfl (fun ls hl => ?_)
          refine lv_goto (tgt := 110) hx hb d_M_type_156 (by decide) ?_
          have hkn := tp_ge0 h4
          have hk1 : (k2 + (-1)).toInt = k2.toInt - 1 := tp_decI (by omega)
          have hz1 : (z2 + 1).toInt = z2.toInt + 1 := tp_inc (by omega)
          exact ih2 (j2 - 1) (k2 + (-1)) (z2 + 1) (upd f2 z2.toNatClampNeg (((xb >>> (Int32.toInt64 (8 * k2) &&& 63)) &&& 255).toInt32)) ls _ _ (by omega) ⟨⟨by omega, by omega, by omega⟩, tp_lvI hl [0, 1, 2, 3, 4] rfl, hP, hD, hS⟩
      · refine lv_icmp_ge (tgt := 76) hx hb d_M_type_24 (by decide) (fun h => absurd h h3) (fun _ => ?_)
        refine lv_iload hx hb d_M_type_27 (lv_at hl 1 rfl) ?_
        refine lv_if_eq (tgt := 76) hx hb d_M_type_29 (by decide) (fun h => absurd h (by decide)) (fun _ => ?_)
        refine lv_lload_n hx hb d_M_type_32 rfl (lv_at hl 3 rfl) ?_
        refine lv_bipush (v := 8) hx hb d_M_type_33 (by decide) ?_
        refine lv_iload hx hb d_M_type_35 (lv_at hl 0 rfl) ?_
        refine lv_imul hx hb d_M_type_37 ?_
        refine lv_lshr (v := (xb >>> (Int32.toInt64 (8 * k) &&& 63))) hx hb d_M_type_38 rfl ?_
        refine lv_ldc2 (v := 255) hx hb hown (htg _ kl_M_314) d_M_type_39 ?_
        refine lv_land hx hb d_M_type_42 ?_
        refine lv_lstore (lv' := [(6, .long ((xb >>> (Int32.toInt64 (8 * k) &&& 63)) &&& 255)), (5, .int k), (4, .int 1), (0, .ref aM), (1, .long xb), (3, .int xn)]) hx hb d_M_type_43 hl (by decide) rfl (fun ls hl => ?_)
        refine lv_lload hx hb d_M_type_45 (lv_at hl 0 rfl) ?_
        refine lv_ldc2 (v := 32) hx hb hown (htg _ kl_M_343) d_M_type_47 ?_
        by_cases h4 : ((xb >>> (Int32.toInt64 (8 * k) &&& 63)) &&& 255) < 32
        · refine W.lcmp hx hb d_M_type_50 ?_
          refine lv_if_lt (tgt := 67) hx hb d_M_type_51 (by decide) (fun _ => ?_) (fun h => absurd (tp_lc_lt_t h4) h)
          refine lv_iconst (v := 0) hx hb d_M_type_67 (by decide) ?_
          refine lv_istore (lv' := [(4, .int 0), (6, .long ((xb >>> (Int32.toInt64 (8 * k) &&& 63)) &&& 255)), (5, .int k), (0, .ref aM), (1, .long xb), (3, .int xn)]) hx hb d_M_type_68 hl (by decide) rfl (fun ls hl => ?_)
          refine lv_iinc (k := 2) (v := (k + 1)) (lv' := [(5, .int (k + 1)), (4, .int 0), (6, .long ((xb >>> (Int32.toInt64 (8 * k) &&& 63)) &&& 255)), (0, .ref aM), (1, .long xb), (3, .int xn)]) hx hb d_M_type_70 hl rfl rfl (by decide) rfl (fun ls hl => ?_)
          refine lv_goto (tgt := 21) hx hb d_M_type_73 (by decide) ?_
          refine lv_iload hx hb d_M_type_21 (lv_at hl 0 rfl) ?_
          refine lv_iload_n hx hb d_M_type_23 rfl (lv_at hl 5 rfl) ?_
          by_cases h5 : xn ≤ (k + 1)
          · refine lv_icmp_ge (tgt := 76) hx hb d_M_type_24 (by decide) (fun _ => ?_) (fun h => absurd h5 h)
            refine lv_aload_n hx hb d_M_type_76 rfl (lv_at hl 3 rfl) ?_
            refine lv_iload hx hb d_M_type_77 (lv_at hl 1 rfl) ?_
            refine lv_if_ne (tgt := 86) hx hb d_M_type_79 (by decide) (fun h => absurd (by decide) h) (fun _ => ?_)
            refine lv_iconst (v := 1) hx hb d_M_type_82 (by decide) ?_
            refine lv_goto (tgt := 102) hx hb d_M_type_83 (by decide) ?_
            refine va_put (D := tp_D E) (ci := 4) (v := .int 1) (ty := .int) (C := qR_M) (T := qF_M) (N := 34) hx hb htg qi_M qt_M qt_M_ok qn_M hown hK.1 hP hD hS 0 rfl rfl 0 (by decide) (htg _ kl_M_208) (fun _ h => h) rfl (by decide +kernel) rfl rfl (Nat.le_of_ble_eq_true rfl) d_M_type_102 (fun H locs hP hD hS => ?_)
            have hP : va_P (tp_D E) tp_cl ((aM, .inr (4, [.int 1, .ref m_names, .ref m_forms, .int 0, .ref m_text, .int m_bad, .int m_at, .int m_length, .ref m_word, .int m_form, .int m_code, .int m_d, .int m_s, .int m_t, .long m_value, .long m_label, .long m_name, .ref m_count, .ref m_formOf, .ref m_codeOf, .ref m_dOf, .ref m_sOf, .ref m_tOf, .ref m_valueOf, .ref m_labelOf, .ref m_nameOf, .ref m_target, .ref m_place, .ref m_far, .int m_imageSize, .int m_farCount, .ref m_image, .int m_written, .ref m_out])) :: (m_text, .inl (tp_ty E 0, 28, .inl f_text)) :: fr) H := hP
            have hD : va_D A ((aM, .inr (4, [.int 1, .ref m_names, .ref m_forms, .int 0, .ref m_text, .int m_bad, .int m_at, .int m_length, .ref m_word, .int m_form, .int m_code, .int m_d, .int m_s, .int m_t, .long m_value, .long m_label, .long m_name, .ref m_count, .ref m_formOf, .ref m_codeOf, .ref m_dOf, .ref m_sOf, .ref m_tOf, .ref m_valueOf, .ref m_labelOf, .ref m_nameOf, .ref m_target, .ref m_place, .ref m_far, .int m_imageSize, .int m_farCount, .ref m_image, .int m_written, .ref m_out])) :: (m_text, .inl (tp_ty E 0, 28, .inl f_text)) :: fr) := hD
            refine lv_iload_n hx hb d_M_type_105 rfl (lv_at hl 5 rfl) ?_
            refine lv_iconst (v := 1) hx hb d_M_type_106 (by decide) ?_
            refine lv_isub hx hb d_M_type_107 ?_
            refine lv_istore (lv' := [(5, .int (xn - 1)), (4, .int 0), (6, .long ((xb >>> (Int32.toInt64 (8 * k) &&& 63)) &&& 255)), (0, .ref aM), (1, .long xb), (3, .int xn)]) hx hb d_M_type_108 hl (by decide) rfl (fun ls hl => ?_)
            refine lv_iload hx hb d_M_type_110 (lv_at hl 0 rfl) ?_
            by_cases h6 : (xn - 1) < 0
            · refine lv_if_lt (tgt := 159) hx hb d_M_type_112 (by decide) (fun _ => ?_) (fun h => absurd h6 h)
              exact W.vret hx hb hr (fun t ht hW => ⟨⟨(1, 0), rfl, Or.inr ⟨rfl, fun z => tp_badM (z.2 k hk0 (Int32.lt_iff_toInt_lt.mp (Int32.not_le.mp h3))) (Or.inl h4)⟩, by rw [ht]; exact (tp_oneP hP), (tp_oneD hD)⟩, hS.F ht⟩) hS.2.2 d_M_type_159
            · refine lv_if_lt (tgt := 159) hx hb d_M_type_112 (by decide) (fun h => absurd h h6) (fun _ => ?_)
              refine lv_aload_n hx hb d_M_type_115 rfl (lv_at hl 3 rfl) ?_
              refine va_get (D := tp_D E) (ci := 4) (v := .int 1) (C := qR_M) (T := qF_M) (N := 34) hx hb htg qi_M hown hK.1 hP 0 rfl rfl 0 (by decide) (htg _ kl_M_208) (fun _ h => h) rfl d_M_type_116 ?_
              refine lv_if_ne (tgt := 159) hx hb d_M_type_119 (by decide) (fun _ => ?_) (fun h => absurd h (by decide))
              exact W.vret hx hb hr (fun t ht hW => ⟨⟨(1, 0), rfl, Or.inr ⟨rfl, fun z => tp_badM (z.2 k hk0 (Int32.lt_iff_toInt_lt.mp (Int32.not_le.mp h3))) (Or.inl h4)⟩, by rw [ht]; exact (tp_oneP hP), (tp_oneD hD)⟩, hS.F ht⟩) hS.2.2 d_M_type_159
          · refine lv_icmp_ge (tgt := 76) hx hb d_M_type_24 (by decide) (fun h => absurd h h5) (fun _ => ?_)
            refine lv_iload hx hb d_M_type_27 (lv_at hl 1 rfl) ?_
            refine lv_if_eq (tgt := 76) hx hb d_M_type_29 (by decide) (fun _ => ?_) (fun h => absurd (by decide) h)
            refine lv_aload_n hx hb d_M_type_76 rfl (lv_at hl 3 rfl) ?_
            refine lv_iload hx hb d_M_type_77 (lv_at hl 1 rfl) ?_
            refine lv_if_ne (tgt := 86) hx hb d_M_type_79 (by decide) (fun h => absurd (by decide) h) (fun _ => ?_)
            refine lv_iconst (v := 1) hx hb d_M_type_82 (by decide) ?_
            refine lv_goto (tgt := 102) hx hb d_M_type_83 (by decide) ?_
            refine va_put (D := tp_D E) (ci := 4) (v := .int 1) (ty := .int) (C := qR_M) (T := qF_M) (N := 34) hx hb htg qi_M qt_M qt_M_ok qn_M hown hK.1 hP hD hS 0 rfl rfl 0 (by decide) (htg _ kl_M_208) (fun _ h => h) rfl (by decide +kernel) rfl rfl (Nat.le_of_ble_eq_true rfl) d_M_type_102 (fun H locs hP hD hS => ?_)
            have hP : va_P (tp_D E) tp_cl ((aM, .inr (4, [.int 1, .ref m_names, .ref m_forms, .int 0, .ref m_text, .int m_bad, .int m_at, .int m_length, .ref m_word, .int m_form, .int m_code, .int m_d, .int m_s, .int m_t, .long m_value, .long m_label, .long m_name, .ref m_count, .ref m_formOf, .ref m_codeOf, .ref m_dOf, .ref m_sOf, .ref m_tOf, .ref m_valueOf, .ref m_labelOf, .ref m_nameOf, .ref m_target, .ref m_place, .ref m_far, .int m_imageSize, .int m_farCount, .ref m_image, .int m_written, .ref m_out])) :: (m_text, .inl (tp_ty E 0, 28, .inl f_text)) :: fr) H := hP
            have hD : va_D A ((aM, .inr (4, [.int 1, .ref m_names, .ref m_forms, .int 0, .ref m_text, .int m_bad, .int m_at, .int m_length, .ref m_word, .int m_form, .int m_code, .int m_d, .int m_s, .int m_t, .long m_value, .long m_label, .long m_name, .ref m_count, .ref m_formOf, .ref m_codeOf, .ref m_dOf, .ref m_sOf, .ref m_tOf, .ref m_valueOf, .ref m_labelOf, .ref m_nameOf, .ref m_target, .ref m_place, .ref m_far, .int m_imageSize, .int m_farCount, .ref m_image, .int m_written, .ref m_out])) :: (m_text, .inl (tp_ty E 0, 28, .inl f_text)) :: fr) := hD
            refine lv_iload_n hx hb d_M_type_105 rfl (lv_at hl 5 rfl) ?_
            refine lv_iconst (v := 1) hx hb d_M_type_106 (by decide) ?_
            refine lv_isub hx hb d_M_type_107 ?_
            refine lv_istore (lv' := [(5, .int (xn - 1)), (4, .int 0), (6, .long ((xb >>> (Int32.toInt64 (8 * k) &&& 63)) &&& 255)), (0, .ref aM), (1, .long xb), (3, .int xn)]) hx hb d_M_type_108 hl (by decide) rfl (fun ls hl => ?_)
            refine lv_iload hx hb d_M_type_110 (lv_at hl 0 rfl) ?_
            by_cases h6 : (xn - 1) < 0
            · refine lv_if_lt (tgt := 159) hx hb d_M_type_112 (by decide) (fun _ => ?_) (fun h => absurd h6 h)
              exact W.vret hx hb hr (fun t ht hW => ⟨⟨(1, 0), rfl, Or.inr ⟨rfl, fun z => tp_badM (z.2 k hk0 (Int32.lt_iff_toInt_lt.mp (Int32.not_le.mp h3))) (Or.inl h4)⟩, by rw [ht]; exact (tp_oneP hP), (tp_oneD hD)⟩, hS.F ht⟩) hS.2.2 d_M_type_159
            · refine lv_if_lt (tgt := 159) hx hb d_M_type_112 (by decide) (fun h => absurd h h6) (fun _ => ?_)
              refine lv_aload_n hx hb d_M_type_115 rfl (lv_at hl 3 rfl) ?_
              refine va_get (D := tp_D E) (ci := 4) (v := .int 1) (C := qR_M) (T := qF_M) (N := 34) hx hb htg qi_M hown hK.1 hP 0 rfl rfl 0 (by decide) (htg _ kl_M_208) (fun _ h => h) rfl d_M_type_116 ?_
              refine lv_if_ne (tgt := 159) hx hb d_M_type_119 (by decide) (fun _ => ?_) (fun h => absurd h (by decide))
              exact W.vret hx hb hr (fun t ht hW => ⟨⟨(1, 0), rfl, Or.inr ⟨rfl, fun z => tp_badM (z.2 k hk0 (Int32.lt_iff_toInt_lt.mp (Int32.not_le.mp h3))) (Or.inl h4)⟩, by rw [ht]; exact (tp_oneP hP), (tp_oneD hD)⟩, hS.F ht⟩) hS.2.2 d_M_type_159
        · refine W.lcmp hx hb d_M_type_50 ?_
          refine lv_if_lt (tgt := 67) hx hb d_M_type_51 (by decide) (fun h => absurd h (tp_lc_lt_f h4)) (fun _ => ?_)
          refine lv_lload hx hb d_M_type_54 (lv_at hl 0 rfl) ?_
          refine lv_ldc2 (v := 126) hx hb hown (htg _ kl_M_345) d_M_type_56 ?_
          by_cases h5 : 126 < ((xb >>> (Int32.toInt64 (8 * k) &&& 63)) &&& 255)
          · refine W.lcmp hx hb d_M_type_59 ?_
            refine lv_if_gt (tgt := 67) hx hb d_M_type_60 (by decide) (fun _ => ?_) (fun h => absurd (tp_lc_gt_t h5) h)
            refine lv_iconst (v := 0) hx hb d_M_type_67 (by decide) ?_
            refine lv_istore (lv' := [(4, .int 0), (6, .long ((xb >>> (Int32.toInt64 (8 * k) &&& 63)) &&& 255)), (5, .int k), (0, .ref aM), (1, .long xb), (3, .int xn)]) hx hb d_M_type_68 hl (by decide) rfl (fun ls hl => ?_)
            refine lv_iinc (k := 2) (v := (k + 1)) (lv' := [(5, .int (k + 1)), (4, .int 0), (6, .long ((xb >>> (Int32.toInt64 (8 * k) &&& 63)) &&& 255)), (0, .ref aM), (1, .long xb), (3, .int xn)]) hx hb d_M_type_70 hl rfl rfl (by decide) rfl (fun ls hl => ?_)
            refine lv_goto (tgt := 21) hx hb d_M_type_73 (by decide) ?_
            refine lv_iload hx hb d_M_type_21 (lv_at hl 0 rfl) ?_
            refine lv_iload_n hx hb d_M_type_23 rfl (lv_at hl 5 rfl) ?_
            by_cases h6 : xn ≤ (k + 1)
            · refine lv_icmp_ge (tgt := 76) hx hb d_M_type_24 (by decide) (fun _ => ?_) (fun h => absurd h6 h)
              refine lv_aload_n hx hb d_M_type_76 rfl (lv_at hl 3 rfl) ?_
              refine lv_iload hx hb d_M_type_77 (lv_at hl 1 rfl) ?_
              refine lv_if_ne (tgt := 86) hx hb d_M_type_79 (by decide) (fun h => absurd (by decide) h) (fun _ => ?_)
              refine lv_iconst (v := 1) hx hb d_M_type_82 (by decide) ?_
              refine lv_goto (tgt := 102) hx hb d_M_type_83 (by decide) ?_
              refine va_put (D := tp_D E) (ci := 4) (v := .int 1) (ty := .int) (C := qR_M) (T := qF_M) (N := 34) hx hb htg qi_M qt_M qt_M_ok qn_M hown hK.1 hP hD hS 0 rfl rfl 0 (by decide) (htg _ kl_M_208) (fun _ h => h) rfl (by decide +kernel) rfl rfl (Nat.le_of_ble_eq_true rfl) d_M_type_102 (fun H locs hP hD hS => ?_)
              have hP : va_P (tp_D E) tp_cl ((aM, .inr (4, [.int 1, .ref m_names, .ref m_forms, .int 0, .ref m_text, .int m_bad, .int m_at, .int m_length, .ref m_word, .int m_form, .int m_code, .int m_d, .int m_s, .int m_t, .long m_value, .long m_label, .long m_name, .ref m_count, .ref m_formOf, .ref m_codeOf, .ref m_dOf, .ref m_sOf, .ref m_tOf, .ref m_valueOf, .ref m_labelOf, .ref m_nameOf, .ref m_target, .ref m_place, .ref m_far, .int m_imageSize, .int m_farCount, .ref m_image, .int m_written, .ref m_out])) :: (m_text, .inl (tp_ty E 0, 28, .inl f_text)) :: fr) H := hP
              have hD : va_D A ((aM, .inr (4, [.int 1, .ref m_names, .ref m_forms, .int 0, .ref m_text, .int m_bad, .int m_at, .int m_length, .ref m_word, .int m_form, .int m_code, .int m_d, .int m_s, .int m_t, .long m_value, .long m_label, .long m_name, .ref m_count, .ref m_formOf, .ref m_codeOf, .ref m_dOf, .ref m_sOf, .ref m_tOf, .ref m_valueOf, .ref m_labelOf, .ref m_nameOf, .ref m_target, .ref m_place, .ref m_far, .int m_imageSize, .int m_farCount, .ref m_image, .int m_written, .ref m_out])) :: (m_text, .inl (tp_ty E 0, 28, .inl f_text)) :: fr) := hD
              refine lv_iload_n hx hb d_M_type_105 rfl (lv_at hl 5 rfl) ?_
              refine lv_iconst (v := 1) hx hb d_M_type_106 (by decide) ?_
              refine lv_isub hx hb d_M_type_107 ?_
              refine lv_istore (lv' := [(5, .int (xn - 1)), (4, .int 0), (6, .long ((xb >>> (Int32.toInt64 (8 * k) &&& 63)) &&& 255)), (0, .ref aM), (1, .long xb), (3, .int xn)]) hx hb d_M_type_108 hl (by decide) rfl (fun ls hl => ?_)
              refine lv_iload hx hb d_M_type_110 (lv_at hl 0 rfl) ?_
              by_cases h7 : (xn - 1) < 0
              · refine lv_if_lt (tgt := 159) hx hb d_M_type_112 (by decide) (fun _ => ?_) (fun h => absurd h7 h)
                exact W.vret hx hb hr (fun t ht hW => ⟨⟨(1, 0), rfl, Or.inr ⟨rfl, fun z => tp_badM (z.2 k hk0 (Int32.lt_iff_toInt_lt.mp (Int32.not_le.mp h3))) (Or.inr h5)⟩, by rw [ht]; exact (tp_oneP hP), (tp_oneD hD)⟩, hS.F ht⟩) hS.2.2 d_M_type_159
              · refine lv_if_lt (tgt := 159) hx hb d_M_type_112 (by decide) (fun h => absurd h h7) (fun _ => ?_)
                refine lv_aload_n hx hb d_M_type_115 rfl (lv_at hl 3 rfl) ?_
                refine va_get (D := tp_D E) (ci := 4) (v := .int 1) (C := qR_M) (T := qF_M) (N := 34) hx hb htg qi_M hown hK.1 hP 0 rfl rfl 0 (by decide) (htg _ kl_M_208) (fun _ h => h) rfl d_M_type_116 ?_
                refine lv_if_ne (tgt := 159) hx hb d_M_type_119 (by decide) (fun _ => ?_) (fun h => absurd h (by decide))
                exact W.vret hx hb hr (fun t ht hW => ⟨⟨(1, 0), rfl, Or.inr ⟨rfl, fun z => tp_badM (z.2 k hk0 (Int32.lt_iff_toInt_lt.mp (Int32.not_le.mp h3))) (Or.inr h5)⟩, by rw [ht]; exact (tp_oneP hP), (tp_oneD hD)⟩, hS.F ht⟩) hS.2.2 d_M_type_159
            · refine lv_icmp_ge (tgt := 76) hx hb d_M_type_24 (by decide) (fun h => absurd h h6) (fun _ => ?_)
              refine lv_iload hx hb d_M_type_27 (lv_at hl 1 rfl) ?_
              refine lv_if_eq (tgt := 76) hx hb d_M_type_29 (by decide) (fun _ => ?_) (fun h => absurd (by decide) h)
              refine lv_aload_n hx hb d_M_type_76 rfl (lv_at hl 3 rfl) ?_
              refine lv_iload hx hb d_M_type_77 (lv_at hl 1 rfl) ?_
              refine lv_if_ne (tgt := 86) hx hb d_M_type_79 (by decide) (fun h => absurd (by decide) h) (fun _ => ?_)
              refine lv_iconst (v := 1) hx hb d_M_type_82 (by decide) ?_
              refine lv_goto (tgt := 102) hx hb d_M_type_83 (by decide) ?_
              refine va_put (D := tp_D E) (ci := 4) (v := .int 1) (ty := .int) (C := qR_M) (T := qF_M) (N := 34) hx hb htg qi_M qt_M qt_M_ok qn_M hown hK.1 hP hD hS 0 rfl rfl 0 (by decide) (htg _ kl_M_208) (fun _ h => h) rfl (by decide +kernel) rfl rfl (Nat.le_of_ble_eq_true rfl) d_M_type_102 (fun H locs hP hD hS => ?_)
              have hP : va_P (tp_D E) tp_cl ((aM, .inr (4, [.int 1, .ref m_names, .ref m_forms, .int 0, .ref m_text, .int m_bad, .int m_at, .int m_length, .ref m_word, .int m_form, .int m_code, .int m_d, .int m_s, .int m_t, .long m_value, .long m_label, .long m_name, .ref m_count, .ref m_formOf, .ref m_codeOf, .ref m_dOf, .ref m_sOf, .ref m_tOf, .ref m_valueOf, .ref m_labelOf, .ref m_nameOf, .ref m_target, .ref m_place, .ref m_far, .int m_imageSize, .int m_farCount, .ref m_image, .int m_written, .ref m_out])) :: (m_text, .inl (tp_ty E 0, 28, .inl f_text)) :: fr) H := hP
              have hD : va_D A ((aM, .inr (4, [.int 1, .ref m_names, .ref m_forms, .int 0, .ref m_text, .int m_bad, .int m_at, .int m_length, .ref m_word, .int m_form, .int m_code, .int m_d, .int m_s, .int m_t, .long m_value, .long m_label, .long m_name, .ref m_count, .ref m_formOf, .ref m_codeOf, .ref m_dOf, .ref m_sOf, .ref m_tOf, .ref m_valueOf, .ref m_labelOf, .ref m_nameOf, .ref m_target, .ref m_place, .ref m_far, .int m_imageSize, .int m_farCount, .ref m_image, .int m_written, .ref m_out])) :: (m_text, .inl (tp_ty E 0, 28, .inl f_text)) :: fr) := hD
              refine lv_iload_n hx hb d_M_type_105 rfl (lv_at hl 5 rfl) ?_
              refine lv_iconst (v := 1) hx hb d_M_type_106 (by decide) ?_
              refine lv_isub hx hb d_M_type_107 ?_
              refine lv_istore (lv' := [(5, .int (xn - 1)), (4, .int 0), (6, .long ((xb >>> (Int32.toInt64 (8 * k) &&& 63)) &&& 255)), (0, .ref aM), (1, .long xb), (3, .int xn)]) hx hb d_M_type_108 hl (by decide) rfl (fun ls hl => ?_)
              refine lv_iload hx hb d_M_type_110 (lv_at hl 0 rfl) ?_
              by_cases h7 : (xn - 1) < 0
              · refine lv_if_lt (tgt := 159) hx hb d_M_type_112 (by decide) (fun _ => ?_) (fun h => absurd h7 h)
                exact W.vret hx hb hr (fun t ht hW => ⟨⟨(1, 0), rfl, Or.inr ⟨rfl, fun z => tp_badM (z.2 k hk0 (Int32.lt_iff_toInt_lt.mp (Int32.not_le.mp h3))) (Or.inr h5)⟩, by rw [ht]; exact (tp_oneP hP), (tp_oneD hD)⟩, hS.F ht⟩) hS.2.2 d_M_type_159
              · refine lv_if_lt (tgt := 159) hx hb d_M_type_112 (by decide) (fun h => absurd h h7) (fun _ => ?_)
                refine lv_aload_n hx hb d_M_type_115 rfl (lv_at hl 3 rfl) ?_
                refine va_get (D := tp_D E) (ci := 4) (v := .int 1) (C := qR_M) (T := qF_M) (N := 34) hx hb htg qi_M hown hK.1 hP 0 rfl rfl 0 (by decide) (htg _ kl_M_208) (fun _ h => h) rfl d_M_type_116 ?_
                refine lv_if_ne (tgt := 159) hx hb d_M_type_119 (by decide) (fun _ => ?_) (fun h => absurd h (by decide))
                exact W.vret hx hb hr (fun t ht hW => ⟨⟨(1, 0), rfl, Or.inr ⟨rfl, fun z => tp_badM (z.2 k hk0 (Int32.lt_iff_toInt_lt.mp (Int32.not_le.mp h3))) (Or.inr h5)⟩, by rw [ht]; exact (tp_oneP hP), (tp_oneD hD)⟩, hS.F ht⟩) hS.2.2 d_M_type_159
          · refine W.lcmp hx hb d_M_type_59 ?_
            refine lv_if_gt (tgt := 67) hx hb d_M_type_60 (by decide) (fun h => absurd h (tp_lc_gt_f h5)) (fun _ => ?_)
            refine lv_iconst (v := 1) hx hb d_M_type_63 (by decide) ?_
            refine lv_goto (tgt := 68) hx hb d_M_type_64 (by decide) ?_
            refine lv_istore (lv' := [(4, .int 1), (6, .long ((xb >>> (Int32.toInt64 (8 * k) &&& 63)) &&& 255)), (5, .int k), (0, .ref aM), (1, .long xb), (3, .int xn)]) hx hb d_M_type_68 hl (by decide) rfl (fun ls hl => ?_)
            refine lv_iinc (k := 2) (v := (k + 1)) (lv' := [(5, .int (k + 1)), (4, .int 1), (6, .long ((xb >>> (Int32.toInt64 (8 * k) &&& 63)) &&& 255)), (0, .ref aM), (1, .long xb), (3, .int xn)]) hx hb d_M_type_70 hl rfl rfl (by decide) rfl (fun ls hl => ?_)
            refine lv_goto (tgt := 21) hx hb d_M_type_73 (by decide) ?_
            have hkn : k.toInt < xn.toInt := Int32.lt_iff_toInt_lt.mp (Int32.not_le.mp h3)
            have hk1 : (k + 1).toInt = k.toInt + 1 := tp_inc (by omega)
            exact ih (j - 1) (k + 1) ls _ _ (by omega) ⟨⟨by omega, by omega, tp_lastM h4 h5 hgood hk1⟩, tp_lvI hl [0, 1, 3, 4, 5] rfl, hP, hD, hS⟩
