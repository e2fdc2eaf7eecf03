set_option maxHeartbeats 4000000 in
set_option maxRecDepth 100000 in
theorem s_Y_skipBlanks (l : Launch) (E : tp_Env) (fr : va_W) (sz : Nat) (aY aC : Nat) (xc xe xa xw xv : Int32) (fC : Nat → Int32) (hy : sf_Y xe xa) : Met l y_Y_skipBlanks w_Y_skipBlanks ({ frames := 0, cells := 0, slots := 0, locals := 0 }) (va_Pc [.ref aY] (tp_in E ((aY, .inr (1, [.ref aC, .int xc, .int xe, .int xa, .int xw, .int xv])) :: (aC, .inl (tp_ty E 4, 28, .inl fC)) :: fr) sz)) (va_Qv (fun (u : Int32) => sf_Y xe u ∧ xa.toInt ≤ u.toInt) (fun u t => tp_out E (va_A ((aY, .inr (1, [.ref aC, .int xc, .int xe, .int xa, .int xw, .int xv])) :: (aC, .inl (tp_ty E 4, 28, .inl fC)) :: fr) sz) ((aY, .inr (1, [.ref aC, .int xc, .int xe, .int u, .int xw, .int xv])) :: (aC, .inl (tp_ty E 4, 28, .inl fC)) :: fr) t) (va_A ((aY, .inr (1, [.ref aC, .int xc, .int xe, .int xa, .int xw, .int xv])) :: (aC, .inl (tp_ty E 4, 28, .inl fC)) :: fr) sz)) 0 0 (va_A ((aY, .inr (1, [.ref aC, .int xc, .int xe, .int xa, .int xw, .int xv])) :: (aC, .inl (tp_ty E 4, 28, .inl fC)) :: fr) sz) := by
  refine Met.ofW (cc := b_Y_skipBlanks) (maxL := 1) (ret := none) (by decide) rfl ?_
  intro p e s m args below meth c s₁ B hml hv
  obtain ⟨rfl, hsz, hP, hK, hD0⟩ := hv
  have hx := B.exec
  have hb := B.bytes
  have hr := B.returns
  have htg : ∀ w ∈ tp_G, w.before ([.ref aY] : List Value).toArray s = true := fun w h => atoms_spec (ws := w_Y_skipBlanks) B.pre w (List.mem_cons_of_mem _ h)
  have hown : s.vm.findClass "TwoPass$Typed" = some m.cls := findClass_of_methodNamed B.named
  have hlocks := B.notSynchronized
  subst hsz
  have hD := hD0.self (sz := s.heap.size)
  generalize hAe : va_A ((aY, .inr (1, [.ref aC, .int xc, .int xe, .int xa, .int xw, .int xv])) :: (aC, .inl (tp_ty E 4, 28, .inl fC)) :: fr) s.heap.size = A at hD hK ⊢
  have hA : ∀ q : Nat, s.heap.size ≤ q → A q := fun q h => by rw [← hAe]; exact Or.inr h
  have hS : va_S A s.heap s.heap [] := va_S.rf
  have hl := lv_entry ([.ref aY]) (n := 1) (Nat.le_of_ble_eq_true rfl)
  rw [lg_entry_eq]
  generalize (lg_sl ([.ref aY]) ++ List.replicate (1 - (lg_sl ([.ref aY])).length) Slot.unset).toArray = ls at hl ⊢
  have hl : lv_has ls 1 [(0, .ref aY)] := hl
  refine tp_loop (fun j ls H locs (k : Int32) => ((sf_Y xe k) ∧ (xa.toInt ≤ k.toInt) ∧ (k.toInt + (j : Int) = xe.toInt)) ∧ lv_has ls 1 [(0, .ref aY)] ∧ va_P (tp_D E) tp_cl ((aY, .inr (1, [.ref aC, .int xc, .int xe, .int k, .int xw, .int xv])) :: (aC, .inl (tp_ty E 4, 28, .inl fC)) :: fr) H ∧ va_D A ((aY, .inr (1, [.ref aC, .int xc, .int xe, .int k, .int xw, .int xv])) :: (aC, .inl (tp_ty E 4, 28, .inl fC)) :: fr) ∧ va_S A s.heap H locs) ?_ _ xa ⟨⟨hy, Int.le_refl _, sf_j hy⟩, tp_lvI hl [0] rfl, hP, hD, hS⟩
  intro j k ls H locs hI ih
  obtain ⟨⟨hk, hb0, hj⟩, hl, hP, hD, hS⟩ := hI
  refine lv_aload_n hx hb d_Y_skipBlanks_0 rfl (lv_at hl 0 rfl) ?_
  refine va_get (D := tp_D E) (ci := 1) (v := .int k) (C := qR_Y) (T := qF_Y) (N := 6) hx hb htg qi_Y hown hK.1 hP 0 rfl rfl 3 (by decide) (htg _ kl_Y_22) (fun _ h => h) rfl d_Y_skipBlanks_1 ?_
  refine lv_aload_n hx hb d_Y_skipBlanks_4 rfl (lv_at hl 0 rfl) ?_
  refine va_get (D := tp_D E) (ci := 1) (v := .int xe) (C := qR_Y) (T := qF_Y) (N := 6) hx hb htg qi_Y hown hK.1 hP 0 rfl rfl 2 (by decide) (htg _ kl_Y_19) (fun _ h => h) rfl d_Y_skipBlanks_5 ?_
  by_cases h1 : xe ≤ k
  · refine lv_icmp_ge (tgt := 38) hx hb d_Y_skipBlanks_8 (by decide) (fun _ => ?_) (fun h => absurd h1 h)
    exact W.vret hx hb hr (fun t ht hW => ⟨⟨k, rfl, ⟨hk, hb0⟩, by rw [ht]; exact hP, hD⟩, hS.F ht⟩) hS.2.2 d_Y_skipBlanks_38
  · refine lv_icmp_ge (tgt := 38) hx hb d_Y_skipBlanks_8 (by decide) (fun h => absurd h h1) (fun _ => ?_)
    refine lv_aload_n hx hb d_Y_skipBlanks_11 rfl (lv_at hl 0 rfl) ?_
    refine va_get (D := tp_D E) (ci := 1) (v := .ref aC) (C := qR_Y) (T := qF_Y) (N := 6) hx hb htg qi_Y hown hK.1 hP 0 rfl rfl 0 (by decide) (htg _ kl_Y_9) (fun _ h => h) rfl d_Y_skipBlanks_12 ?_
    refine lv_aload_n hx hb d_Y_skipBlanks_15 rfl (lv_at hl 0 rfl) ?_
    refine va_get (D := tp_D E) (ci := 1) (v := .int k) (C := qR_Y) (T := qF_Y) (N := 6) hx hb htg qi_Y hown hK.1 hP 0 rfl rfl 3 (by decide) (htg _ kl_Y_22) (fun _ h => h) rfl d_Y_skipBlanks_16 ?_
    refine va_cald (D := tp_D E) hx hb hK.1 hP 1 4 rfl rfl (sf_vin hk h1) d_Y_skipBlanks_19 ?_
    refine lv_bipush (v := 32) hx hb d_Y_skipBlanks_20 (by decide) ?_
    by_cases h2 : (fC k.toNatClampNeg) = 32
    · refine lv_icmp_ne (tgt := 38) hx hb d_Y_skipBlanks_22 (by decide) (fun h => absurd h2 h) (fun _ => ?_)
      refine lv_aload_n hx hb d_Y_skipBlanks_25 rfl (lv_at hl 0 rfl) ?_
      refine lv_dup hx hb d_Y_skipBlanks_26 rfl ?_
      refine va_get (D := tp_D E) (ci := 1) (v := .int k) (C := qR_Y) (T := qF_Y) (N := 6) hx hb htg qi_Y hown hK.1 hP 0 rfl rfl 3 (by decide) (htg _ kl_Y_22) (fun _ h => h) rfl d_Y_skipBlanks_27 ?_
      refine lv_iconst (v := 1) hx hb d_Y_skipBlanks_30 (by decide) ?_
      refine lv_iadd hx hb d_Y_skipBlanks_31 ?_
      refine va_put (D := tp_D E) (ci := 1) (v := .int (k + 1)) (ty := .int) (C := qR_Y) (T := qF_Y) (N := 6) hx hb htg qi_Y qt_Y qt_Y_ok qn_Y hown hK.1 hP hD hS 0 rfl rfl 3 (by decide) (htg _ kl_Y_22) (fun _ h => h) rfl (by decide +kernel) rfl rfl (Nat.le_of_ble_eq_true rfl) d_Y_skipBlanks_32 (fun H locs hP hD hS => ?_)
      have hP : va_P (tp_D E) tp_cl ((aY, .inr (1, [.ref aC, .int xc, .int xe, .int (k + 1), .int xw, .int xv])) :: (aC, .inl (tp_ty E 4, 28, .inl fC)) :: fr) H := hP
      have hD : va_D A ((aY, .inr (1, [.ref aC, .int xc, .int xe, .int (k + 1), .int xw, .int xv])) :: (aC, .inl (tp_ty E 4, 28, .inl fC)) :: fr) := hD
      refine lv_goto (tgt := 0) hx hb d_Y_skipBlanks_35 (by decide) ?_
      exact ih (j - 1) (k + 1) ls _ _ (sf_jp h1 hj) ⟨⟨sf_Yi hk h1, sf_le1 hk h1 hb0, sf_jd hk h1 hj⟩, tp_lvI hl [0] rfl, hP, hD, hS⟩
    · refine lv_icmp_ne (tgt := 38) hx hb d_Y_skipBlanks_22 (by decide) (fun _ => ?_) (fun h => absurd h h2)
      exact W.vret hx hb hr (fun t ht hW => ⟨⟨k, rfl, ⟨hk, hb0⟩, by rw [ht]; exact hP, hD⟩, hS.F ht⟩) hS.2.2 d_Y_skipBlanks_38
set_option maxHeartbeats 4000000 in
set_option maxRecDepth 100000 in
theorem s_Y_isOfWord (l : Launch) (E : tp_Env) (fr : va_W) (sz : Nat) (xk : Int32)  : Met l y_Y_isOfWord w_Y_isOfWord ({ frames := 0, cells := 0, slots := 0, locals := 0 }) (va_Pc [.int xk] (tp_in E fr sz)) (va_Qi (fun r (_ : Unit) => True) (fun _ t => tp_out E (va_A fr sz) (fr) t) (va_A fr sz)) 0 0 (va_A fr sz) := by
  refine Met.ofW (cc := b_Y_isOfWord) (maxL := 1) (ret := (some .boolean)) (by decide) rfl ?_
  intro p e s m args below meth c s₁ B hml hv
  obtain ⟨rfl, hsz, hP, hK, hD0⟩ := hv
  have hx := B.exec
  have hb := B.bytes
  have hr := B.returns
  have htg : ∀ w ∈ tp_G, w.before ([.int xk] : List Value).toArray s = true := fun w h => atoms_spec (ws := w_Y_isOfWord) B.pre w (List.mem_cons_of_mem _ h)
  have hown : s.vm.findClass "TwoPass$Typed" = some m.cls := findClass_of_methodNamed B.named
  have hlocks := B.notSynchronized
  subst hsz
  have hD := hD0.self (sz := s.heap.size)
  generalize hAe : va_A fr s.heap.size = A at hD hK ⊢
  have hA : ∀ q : Nat, s.heap.size ≤ q → A q := fun q h => by rw [← hAe]; exact Or.inr h
  have hS : va_S A s.heap s.heap [] := va_S.rf
  have hl := lv_entry ([.int xk]) (n := 1) (Nat.le_of_ble_eq_true rfl)
  rw [lg_entry_eq]
  generalize (lg_sl ([.int xk]) ++ List.replicate (1 - (lg_sl ([.int xk])).length) Slot.unset).toArray = ls at hl ⊢
  have hl : lv_has ls 1 [(0, .int xk)] := hl
  refine lv_iload_n hx hb d_Y_isOfWord_0 rfl (lv_at hl 0 rfl) ?_
  refine lv_bipush (v := 32) hx hb d_Y_isOfWord_1 (by decide) ?_
  by_cases h1 : xk = 32
  · refine lv_icmp_eq (tgt := 40) hx hb d_Y_isOfWord_3 (by decide) (fun _ => ?_) (fun h => absurd h1 h)
    refine lv_iconst (v := 0) hx hb d_Y_isOfWord_40 (by decide) ?_
    exact W.zret (v := 0) hx hb hr rfl (fun t ht hW => ⟨⟨_, (), rfl, trivial, by rw [ht]; exact hP, hD⟩, hS.F ht⟩) hS.2.2 d_Y_isOfWord_41
  · refine lv_icmp_eq (tgt := 40) hx hb d_Y_isOfWord_3 (by decide) (fun h => absurd h h1) (fun _ => ?_)
    refine lv_iload_n hx hb d_Y_isOfWord_6 rfl (lv_at hl 0 rfl) ?_
    refine lv_bipush (v := 44) hx hb d_Y_isOfWord_7 (by decide) ?_
    by_cases h2 : xk = 44
    · refine lv_icmp_eq (tgt := 40) hx hb d_Y_isOfWord_9 (by decide) (fun _ => ?_) (fun h => absurd h2 h)
      refine lv_iconst (v := 0) hx hb d_Y_isOfWord_40 (by decide) ?_
      exact W.zret (v := 0) hx hb hr rfl (fun t ht hW => ⟨⟨_, (), rfl, trivial, by rw [ht]; exact hP, hD⟩, hS.F ht⟩) hS.2.2 d_Y_isOfWord_41
    · refine lv_icmp_eq (tgt := 40) hx hb d_Y_isOfWord_9 (by decide) (fun h => absurd h h2) (fun _ => ?_)
      refine lv_iload_n hx hb d_Y_isOfWord_12 rfl (lv_at hl 0 rfl) ?_
      refine lv_bipush (v := 58) hx hb d_Y_isOfWord_13 (by decide) ?_
      by_cases h3 : xk = 58
      · refine lv_icmp_eq (tgt := 40) hx hb d_Y_isOfWord_15 (by decide) (fun _ => ?_) (fun h => absurd h3 h)
        refine lv_iconst (v := 0) hx hb d_Y_isOfWord_40 (by decide) ?_
        exact W.zret (v := 0) hx hb hr rfl (fun t ht hW => ⟨⟨_, (), rfl, trivial, by rw [ht]; exact hP, hD⟩, hS.F ht⟩) hS.2.2 d_Y_isOfWord_41
      · refine lv_icmp_eq (tgt := 40) hx hb d_Y_isOfWord_15 (by decide) (fun h => absurd h h3) (fun _ => ?_)
        refine lv_iload_n hx hb d_Y_isOfWord_18 rfl (lv_at hl 0 rfl) ?_
        refine lv_bipush (v := 40) hx hb d_Y_isOfWord_19 (by decide) ?_
        by_cases h4 : xk = 40
        · refine lv_icmp_eq (tgt := 40) hx hb d_Y_isOfWord_21 (by decide) (fun _ => ?_) (fun h => absurd h4 h)
          refine lv_iconst (v := 0) hx hb d_Y_isOfWord_40 (by decide) ?_
          exact W.zret (v := 0) hx hb hr rfl (fun t ht hW => ⟨⟨_, (), rfl, trivial, by rw [ht]; exact hP, hD⟩, hS.F ht⟩) hS.2.2 d_Y_isOfWord_41
        · refine lv_icmp_eq (tgt := 40) hx hb d_Y_isOfWord_21 (by decide) (fun h => absurd h h4) (fun _ => ?_)
          refine lv_iload_n hx hb d_Y_isOfWord_24 rfl (lv_at hl 0 rfl) ?_
          refine lv_bipush (v := 41) hx hb d_Y_isOfWord_25 (by decide) ?_
          by_cases h5 : xk = 41
          · refine lv_icmp_eq (tgt := 40) hx hb d_Y_isOfWord_27 (by decide) (fun _ => ?_) (fun h => absurd h5 h)
            refine lv_iconst (v := 0) hx hb d_Y_isOfWord_40 (by decide) ?_
            exact W.zret (v := 0) hx hb hr rfl (fun t ht hW => ⟨⟨_, (), rfl, trivial, by rw [ht]; exact hP, hD⟩, hS.F ht⟩) hS.2.2 d_Y_isOfWord_41
          · refine lv_icmp_eq (tgt := 40) hx hb d_Y_isOfWord_27 (by decide) (fun h => absurd h h5) (fun _ => ?_)
            refine lv_iload_n hx hb d_Y_isOfWord_30 rfl (lv_at hl 0 rfl) ?_
            refine lv_bipush (v := 35) hx hb d_Y_isOfWord_31 (by decide) ?_
            by_cases h6 : xk = 35
            · refine lv_icmp_eq (tgt := 40) hx hb d_Y_isOfWord_33 (by decide) (fun _ => ?_) (fun h => absurd h6 h)
              refine lv_iconst (v := 0) hx hb d_Y_isOfWord_40 (by decide) ?_
              exact W.zret (v := 0) hx hb hr rfl (fun t ht hW => ⟨⟨_, (), rfl, trivial, by rw [ht]; exact hP, hD⟩, hS.F ht⟩) hS.2.2 d_Y_isOfWord_41
            · refine lv_icmp_eq (tgt := 40) hx hb d_Y_isOfWord_33 (by decide) (fun h => absurd h h6) (fun _ => ?_)
              refine lv_iconst (v := 1) hx hb d_Y_isOfWord_36 (by decide) ?_
              refine lv_goto (tgt := 41) hx hb d_Y_isOfWord_37 (by decide) ?_
              exact W.zret (v := 1) hx hb hr rfl (fun t ht hW => ⟨⟨_, (), rfl, trivial, by rw [ht]; exact hP, hD⟩, hS.F ht⟩) hS.2.2 d_Y_isOfWord_41
set_option maxHeartbeats 4000000 in
set_option maxRecDepth 100000 in
theorem s_Y_digitOf (l : Launch) (E : tp_Env) (fr : va_W) (sz : Nat) (xk : Int32)  : Met l y_Y_digitOf w_Y_digitOf ({ frames := 0, cells := 0, slots := 0, locals := 0 }) (va_Pc [.int xk] (tp_in E fr sz)) (va_Qi (fun r (_ : Unit) => True) (fun _ t => tp_out E (va_A fr sz) (fr) t) (va_A fr sz)) 0 0 (va_A fr sz) := by
  refine Met.ofW (cc := b_Y_digitOf) (maxL := 1) (ret := (some .int)) (by decide) rfl ?_
  intro p e s m args below meth c s₁ B hml hv
  obtain ⟨rfl, hsz, hP, hK, hD0⟩ := hv
  have hx := B.exec
  have hb := B.bytes
  have hr := B.returns
  have htg : ∀ w ∈ tp_G, w.before ([.int xk] : List Value).toArray s = true := fun w h => atoms_spec (ws := w_Y_digitOf) B.pre w (List.mem_cons_of_mem _ h)
  have hown : s.vm.findClass "TwoPass$Typed" = some m.cls := findClass_of_methodNamed B.named
  have hlocks := B.notSynchronized
  subst hsz
  have hD := hD0.self (sz := s.heap.size)
  generalize hAe : va_A fr s.heap.size = A at hD hK ⊢
  have hA : ∀ q : Nat, s.heap.size ≤ q → A q := fun q h => by rw [← hAe]; exact Or.inr h
  have hS : va_S A s.heap s.heap [] := va_S.rf
  have hl := lv_entry ([.int xk]) (n := 1) (Nat.le_of_ble_eq_true rfl)
  rw [lg_entry_eq]
  generalize (lg_sl ([.int xk]) ++ List.replicate (1 - (lg_sl ([.int xk])).length) Slot.unset).toArray = ls at hl ⊢
  have hl : lv_has ls 1 [(0, .int xk)] := hl
  refine lv_iload_n hx hb d_Y_digitOf_0 rfl (lv_at hl 0 rfl) ?_
  refine lv_bipush (v := 48) hx hb d_Y_digitOf_1 (by decide) ?_
  by_cases h1 : xk < 48
  · refine lv_icmp_lt (tgt := 17) hx hb d_Y_digitOf_3 (by decide) (fun _ => ?_) (fun h => absurd h1 h)
    refine lv_iload_n hx hb d_Y_digitOf_17 rfl (lv_at hl 0 rfl) ?_
    refine lv_bipush (v := 97) hx hb d_Y_digitOf_18 (by decide) ?_
    by_cases h2 : xk < 97
    · refine lv_icmp_lt (tgt := 39) hx hb d_Y_digitOf_20 (by decide) (fun _ => ?_) (fun h => absurd h2 h)
      refine lv_iconst (v := (-1)) hx hb d_Y_digitOf_39 (by decide) ?_
      exact W.iret (v := (-1)) hx hb hr (fun t ht hW => ⟨⟨_, (), rfl, trivial, by rw [ht]; exact hP, hD⟩, hS.F ht⟩) hS.2.2 d_Y_digitOf_40
    · refine lv_icmp_lt (tgt := 39) hx hb d_Y_digitOf_20 (by decide) (fun h => absurd h h2) (fun _ => ?_)
      refine lv_iload_n hx hb d_Y_digitOf_23 rfl (lv_at hl 0 rfl) ?_
      refine lv_bipush (v := 102) hx hb d_Y_digitOf_24 (by decide) ?_
      by_cases h3 : 102 < xk
      · refine lv_icmp_gt (tgt := 39) hx hb d_Y_digitOf_26 (by decide) (fun _ => ?_) (fun h => absurd h3 h)
        refine lv_iconst (v := (-1)) hx hb d_Y_digitOf_39 (by decide) ?_
        exact W.iret (v := (-1)) hx hb hr (fun t ht hW => ⟨⟨_, (), rfl, trivial, by rw [ht]; exact hP, hD⟩, hS.F ht⟩) hS.2.2 d_Y_digitOf_40
      · refine lv_icmp_gt (tgt := 39) hx hb d_Y_digitOf_26 (by decide) (fun h => absurd h h3) (fun _ => ?_)
        refine lv_iload_n hx hb d_Y_digitOf_29 rfl (lv_at hl 0 rfl) ?_
        refine lv_bipush (v := 97) hx hb d_Y_digitOf_30 (by decide) ?_
        refine lv_isub hx hb d_Y_digitOf_32 ?_
        refine lv_bipush (v := 10) hx hb d_Y_digitOf_33 (by decide) ?_
        refine lv_iadd hx hb d_Y_digitOf_35 ?_
        refine lv_goto (tgt := 40) hx hb d_Y_digitOf_36 (by decide) ?_
        exact W.iret (v := ((xk - 97) + 10)) hx hb hr (fun t ht hW => ⟨⟨_, (), rfl, trivial, by rw [ht]; exact hP, hD⟩, hS.F ht⟩) hS.2.2 d_Y_digitOf_40
  · refine lv_icmp_lt (tgt := 17) hx hb d_Y_digitOf_3 (by decide) (fun h => absurd h h1) (fun _ => ?_)
    refine lv_iload_n hx hb d_Y_digitOf_6 rfl (lv_at hl 0 rfl) ?_
    refine lv_bipush (v := 57) hx hb d_Y_digitOf_7 (by decide) ?_
    by_cases h2 : 57 < xk
    · refine lv_icmp_gt (tgt := 17) hx hb d_Y_digitOf_9 (by decide) (fun _ => ?_) (fun h => absurd h2 h)
      refine lv_iload_n hx hb d_Y_digitOf_17 rfl (lv_at hl 0 rfl) ?_
      refine lv_bipush (v := 97) hx hb d_Y_digitOf_18 (by decide) ?_
      by_cases h3 : xk < 97
      · refine lv_icmp_lt (tgt := 39) hx hb d_Y_digitOf_20 (by decide) (fun _ => ?_) (fun h => absurd h3 h)
        refine lv_iconst (v := (-1)) hx hb d_Y_digitOf_39 (by decide) ?_
        exact W.iret (v := (-1)) hx hb hr (fun t ht hW => ⟨⟨_, (), rfl, trivial, by rw [ht]; exact hP, hD⟩, hS.F ht⟩) hS.2.2 d_Y_digitOf_40
      · refine lv_icmp_lt (tgt := 39) hx hb d_Y_digitOf_20 (by decide) (fun h => absurd h h3) (fun _ => ?_)
        refine lv_iload_n hx hb d_Y_digitOf_23 rfl (lv_at hl 0 rfl) ?_
        refine lv_bipush (v := 102) hx hb d_Y_digitOf_24 (by decide) ?_
        by_cases h4 : 102 < xk
        · refine lv_icmp_gt (tgt := 39) hx hb d_Y_digitOf_26 (by decide) (fun _ => ?_) (fun h => absurd h4 h)
          refine lv_iconst (v := (-1)) hx hb d_Y_digitOf_39 (by decide) ?_
          exact W.iret (v := (-1)) hx hb hr (fun t ht hW => ⟨⟨_, (), rfl, trivial, by rw [ht]; exact hP, hD⟩, hS.F ht⟩) hS.2.2 d_Y_digitOf_40
        · refine lv_icmp_gt (tgt := 39) hx hb d_Y_digitOf_26 (by decide) (fun h => absurd h h4) (fun _ => ?_)
          refine lv_iload_n hx hb d_Y_digitOf_29 rfl (lv_at hl 0 rfl) ?_
          refine lv_bipush (v := 97) hx hb d_Y_digitOf_30 (by decide) ?_
          refine lv_isub hx hb d_Y_digitOf_32 ?_
          refine lv_bipush (v := 10) hx hb d_Y_digitOf_33 (by decide) ?_
          refine lv_iadd hx hb d_Y_digitOf_35 ?_
          refine lv_goto (tgt := 40) hx hb d_Y_digitOf_36 (by decide) ?_
          exact W.iret (v := ((xk - 97) + 10)) hx hb hr (fun t ht hW => ⟨⟨_, (), rfl, trivial, by rw [ht]; exact hP, hD⟩, hS.F ht⟩) hS.2.2 d_Y_digitOf_40
    · refine lv_icmp_gt (tgt := 17) hx hb d_Y_digitOf_9 (by decide) (fun h => absurd h h2) (fun _ => ?_)
      refine lv_iload_n hx hb d_Y_digitOf_12 rfl (lv_at hl 0 rfl) ?_
      refine lv_bipush (v := 48) hx hb d_Y_digitOf_13 (by decide) ?_
      refine lv_isub hx hb d_Y_digitOf_15 ?_
      exact W.iret (v := (xk - 48)) hx hb hr (fun t ht hW => ⟨⟨_, (), rfl, trivial, by rw [ht]; exact hP, hD⟩, hS.F ht⟩) hS.2.2 d_Y_digitOf_16
set_option maxHeartbeats 4000000 in
set_option maxRecDepth 100000 in
theorem s_Y_nextWord (l : Launch) (E : tp_Env) (fr : va_W) (sz : Nat) (aY aC : Nat) (xc xe xa xw xv : Int32) (fC : Nat → Int32) (hy : sf_Y xe xa) : Met l y_Y_nextWord w_Y_nextWord ({ frames := 1, cells := 0, slots := 0, locals := 20 }) (va_Pc [.ref aY] (tp_in E ((aY, .inr (1, [.ref aC, .int xc, .int xe, .int xa, .int xw, .int xv])) :: (aC, .inl (tp_ty E 4, 28, .inl fC)) :: fr) sz)) (va_Qv (fun (u : Int32 × Int32 × Int32) => sf_W xe u.2.1 u.2.2 u.1) (fun u t => tp_out E (va_A ((aY, .inr (1, [.ref aC, .int xc, .int xe, .int xa, .int xw, .int xv])) :: (aC, .inl (tp_ty E 4, 28, .inl fC)) :: fr) sz) ((aY, .inr (1, [.ref aC, .int xc, .int xe, .int u.1, .int u.2.1, .int u.2.2])) :: (aC, .inl (tp_ty E 4, 28, .inl fC)) :: fr) t) (va_A ((aY, .inr (1, [.ref aC, .int xc, .int xe, .int xa, .int xw, .int xv])) :: (aC, .inl (tp_ty E 4, 28, .inl fC)) :: fr) sz)) 0 0 (va_A ((aY, .inr (1, [.ref aC, .int xc, .int xe, .int xa, .int xw, .int xv])) :: (aC, .inl (tp_ty E 4, 28, .inl fC)) :: fr) sz) := by
  refine Met.ofW (cc := b_Y_nextWord) (maxL := 1) (ret := none) (by decide) rfl ?_
  intro p e s m args below meth c s₁ B hml hv
  obtain ⟨rfl, hsz, hP, hK, hD0⟩ := hv
  have hx := B.exec
  have hb := B.bytes
  have hr := B.returns
  have htg : ∀ w ∈ tp_G, w.before ([.ref aY] : List Value).toArray s = true := fun w h => atoms_spec (ws := w_Y_nextWord) B.pre w (List.mem_cons_of_mem _ h)
  have hown : s.vm.findClass "TwoPass$Typed" = some m.cls := findClass_of_methodNamed B.named
  have hlocks := B.notSynchronized
  subst hsz
  have hD := hD0.self (sz := s.heap.size)
  generalize hAe : va_A ((aY, .inr (1, [.ref aC, .int xc, .int xe, .int xa, .int xw, .int xv])) :: (aC, .inl (tp_ty E 4, 28, .inl fC)) :: fr) s.heap.size = A at hD hK ⊢
  have hA : ∀ q : Nat, s.heap.size ≤ q → A q := fun q h => by rw [← hAe]; exact Or.inr h
  have hS : va_S A s.heap s.heap [] := va_S.rf
  have hl := lv_entry ([.ref aY]) (n := 1) (Nat.le_of_ble_eq_true rfl)
  rw [lg_entry_eq]
  generalize (lg_sl ([.ref aY]) ++ List.replicate (1 - (lg_sl ([.ref aY])).length) Slot.unset).toArray = ls at hl ⊢
  have hl : lv_has ls 1 [(0, .ref aY)] := hl
  refine lv_aload_n hx hb d_Y_nextWord_0 rfl (lv_at hl 0 rfl) ?_
  refine tp_cv (tp_rV (As := []) (rest := []) ⟨hx, hb, hml, hown, htg⟩ (s_Y_skipBlanks l E fr _ aY aC xc xe xa xw xv fC hy) (⟨callB_of 0 htg (tp_good0 kc_Y_skipBlanks) rfl rfl rfl (htg _ ki_Y) (htg _ kl_Y_112) ⟨by decide, by decide, by decide +kernel⟩ ⟨Nat.le_of_ble_eq_true rfl, Nat.le_of_ble_eq_true rfl⟩, htg _ km_Y_skipBlanks, htg _ kp_Y_skipBlanks⟩) (va_recv (ci := 1) (q0 := 0) hK.1 hP rfl rfl) hK hP hD hS hA rfl hl.1 rfl (Nat.le_of_ble_eq_true rfl) d_Y_nextWord_1 ⟨Nat.le_of_ble_eq_true rfl, Nat.le_of_ble_eq_true rfl⟩) hD hS hA (fun at1 H locs hw hP hD hS => ?_)
  obtain ⟨hy2, hy2l⟩ : sf_Y xe at1 ∧ xa.toInt ≤ at1.toInt := hw
  have hP : va_P (tp_D E) tp_cl ((aY, .inr (1, [.ref aC, .int xc, .int xe, .int at1, .int xw, .int xv])) :: (aC, .inl (tp_ty E 4, 28, .inl fC)) :: fr) H := hP
  have hD : va_D A ((aY, .inr (1, [.ref aC, .int xc, .int xe, .int at1, .int xw, .int xv])) :: (aC, .inl (tp_ty E 4, 28, .inl fC)) :: fr) := hD
  refine lv_aload_n hx hb d_Y_nextWord_4 rfl (lv_at hl 0 rfl) ?_
  refine lv_aload_n hx hb d_Y_nextWord_5 rfl (lv_at hl 0 rfl) ?_
  refine va_get (D := tp_D E) (ci := 1) (v := .int at1) (C := qR_Y) (T := qF_Y) (N := 6) hx hb htg qi_Y hown hK.1 hP 0 rfl rfl 3 (by decide) (htg _ kl_Y_22) (fun _ h => h) rfl d_Y_nextWord_6 ?_
  refine va_put (D := tp_D E) (ci := 1) (v := .int at1) (ty := .int) (C := qR_Y) (T := qF_Y) (N := 6) hx hb htg qi_Y qt_Y qt_Y_ok qn_Y hown hK.1 hP hD hS 0 rfl rfl 4 (by decide) (htg _ kl_Y_115) (fun _ h => h) rfl (by decide +kernel) rfl rfl (Nat.le_of_ble_eq_true rfl) d_Y_nextWord_9 (fun H locs hP hD hS => ?_)
  have hP : va_P (tp_D E) tp_cl ((aY, .inr (1, [.ref aC, .int xc, .int xe, .int at1, .int at1, .int xv])) :: (aC, .inl (tp_ty E 4, 28, .inl fC)) :: fr) H := hP
  have hD : va_D A ((aY, .inr (1, [.ref aC, .int xc, .int xe, .int at1, .int at1, .int xv])) :: (aC, .inl (tp_ty E 4, 28, .inl fC)) :: fr) := hD
  refine tp_loop (fun j ls H locs (k : Int32) => ((sf_Y xe k) ∧ (at1.toInt ≤ k.toInt) ∧ (k.toInt + (j : Int) = xe.toInt)) ∧ lv_has ls 1 [(0, .ref aY)] ∧ va_P (tp_D E) tp_cl ((aY, .inr (1, [.ref aC, .int xc, .int xe, .int k, .int at1, .int xv])) :: (aC, .inl (tp_ty E 4, 28, .inl fC)) :: fr) H ∧ va_D A ((aY, .inr (1, [.ref aC, .int xc, .int xe, .int k, .int at1, .int xv])) :: (aC, .inl (tp_ty E 4, 28, .inl fC)) :: fr) ∧ va_S A s.heap H locs) ?_ _ at1 ⟨⟨hy2, Int.le_refl _, sf_j hy2⟩, tp_lvI hl [0] rfl, hP, hD, hS⟩
  intro j k ls H locs hI ih
  obtain ⟨⟨hk, hb0, hj⟩, hl, hP, hD, hS⟩ := hI
  refine lv_aload_n hx hb d_Y_nextWord_12 rfl (lv_at hl 0 rfl) ?_
  refine va_get (D := tp_D E) (ci := 1) (v := .int k) (C := qR_Y) (T := qF_Y) (N := 6) hx hb htg qi_Y hown hK.1 hP 0 rfl rfl 3 (by decide) (htg _ kl_Y_22) (fun _ h => h) rfl d_Y_nextWord_13 ?_
  refine lv_aload_n hx hb d_Y_nextWord_16 rfl (lv_at hl 0 rfl) ?_
  refine va_get (D := tp_D E) (ci := 1) (v := .int xe) (C := qR_Y) (T := qF_Y) (N := 6) hx hb htg qi_Y hown hK.1 hP 0 rfl rfl 2 (by decide) (htg _ kl_Y_19) (fun _ h => h) rfl d_Y_nextWord_17 ?_
  by_cases h2 : xe ≤ k
  · refine lv_icmp_ge (tgt := 51) hx hb d_Y_nextWord_20 (by decide) (fun _ => ?_) (fun h => absurd h2 h)
    refine lv_aload_n hx hb d_Y_nextWord_51 rfl (lv_at hl 0 rfl) ?_
    refine lv_aload_n hx hb d_Y_nextWord_52 rfl (lv_at hl 0 rfl) ?_
    refine va_get (D := tp_D E) (ci := 1) (v := .int k) (C := qR_Y) (T := qF_Y) (N := 6) hx hb htg qi_Y hown hK.1 hP 0 rfl rfl 3 (by decide) (htg _ kl_Y_22) (fun _ h => h) rfl d_Y_nextWord_53 ?_
    refine va_put (D := tp_D E) (ci := 1) (v := .int k) (ty := .int) (C := qR_Y) (T := qF_Y) (N := 6) hx hb htg qi_Y qt_Y qt_Y_ok qn_Y hown hK.1 hP hD hS 0 rfl rfl 5 (by decide) (htg _ kl_Y_121) (fun _ h => h) rfl (by decide +kernel) rfl rfl (Nat.le_of_ble_eq_true rfl) d_Y_nextWord_56 (fun H locs hP hD hS => ?_)
    have hP : va_P (tp_D E) tp_cl ((aY, .inr (1, [.ref aC, .int xc, .int xe, .int k, .int at1, .int k])) :: (aC, .inl (tp_ty E 4, 28, .inl fC)) :: fr) H := hP
    have hD : va_D A ((aY, .inr (1, [.ref aC, .int xc, .int xe, .int k, .int at1, .int k])) :: (aC, .inl (tp_ty E 4, 28, .inl fC)) :: fr) := hD
    refine lv_aload_n hx hb d_Y_nextWord_59 rfl (lv_at hl 0 rfl) ?_
    refine tp_cv (tp_rV (As := []) (rest := []) ⟨hx, hb, hml, hown, htg⟩ (s_Y_skipBlanks l E fr _ aY aC xc xe k at1 k fC hk) (⟨callB_of 0 htg (tp_good0 kc_Y_skipBlanks) rfl rfl rfl (htg _ ki_Y) (htg _ kl_Y_112) ⟨by decide, by decide, by decide +kernel⟩ ⟨Nat.le_of_ble_eq_true rfl, Nat.le_of_ble_eq_true rfl⟩, htg _ km_Y_skipBlanks, htg _ kp_Y_skipBlanks⟩) (va_recv (ci := 1) (q0 := 0) hK.1 hP rfl rfl) hK hP hD hS hA rfl hl.1 rfl (Nat.le_of_ble_eq_true rfl) d_Y_nextWord_60 ⟨Nat.le_of_ble_eq_true rfl, Nat.le_of_ble_eq_true rfl⟩) hD hS hA (fun at3 H locs hw hP hD hS => ?_)
    obtain ⟨hy4, hy4l⟩ : sf_Y xe at3 ∧ k.toInt ≤ at3.toInt := hw
    have hP : va_P (tp_D E) tp_cl ((aY, .inr (1, [.ref aC, .int xc, .int xe, .int at3, .int at1, .int k])) :: (aC, .inl (tp_ty E 4, 28, .inl fC)) :: fr) H := hP
    have hD : va_D A ((aY, .inr (1, [.ref aC, .int xc, .int xe, .int at3, .int at1, .int k])) :: (aC, .inl (tp_ty E 4, 28, .inl fC)) :: fr) := hD
    exact W.vret hx hb hr (fun t ht hW => ⟨⟨(at3, at1, k), rfl, sf_Wmk hy2 hb0 hy4l hy4, by rw [ht]; exact hP, hD⟩, hS.F ht⟩) hS.2.2 d_Y_nextWord_63
  · refine lv_icmp_ge (tgt := 51) hx hb d_Y_nextWord_20 (by decide) (fun h => absurd h h2) (fun _ => ?_)
    refine lv_aload_n hx hb d_Y_nextWord_23 rfl (lv_at hl 0 rfl) ?_
    refine va_get (D := tp_D E) (ci := 1) (v := .ref aC) (C := qR_Y) (T := qF_Y) (N := 6) hx hb htg qi_Y hown hK.1 hP 0 rfl rfl 0 (by decide) (htg _ kl_Y_9) (fun _ h => h) rfl d_Y_nextWord_24 ?_
    refine lv_aload_n hx hb d_Y_nextWord_27 rfl (lv_at hl 0 rfl) ?_
    refine va_get (D := tp_D E) (ci := 1) (v := .int k) (C := qR_Y) (T := qF_Y) (N := 6) hx hb htg qi_Y hown hK.1 hP 0 rfl rfl 3 (by decide) (htg _ kl_Y_22) (fun _ h => h) rfl d_Y_nextWord_28 ?_
    refine va_cald (D := tp_D E) hx hb hK.1 hP 1 4 rfl rfl (sf_vin hk h2) d_Y_nextWord_31 ?_
    refine tp_ci (tp_rS (As := [.int (fC k.toNatClampNeg)]) (rest := []) ⟨hx, hb, hml, hown, htg⟩ (s_Y_isOfWord l E ((aY, .inr (1, [.ref aC, .int xc, .int xe, .int k, .int at1, .int xv])) :: (aC, .inl (tp_ty E 4, 28, .inl fC)) :: fr) _ (fC k.toNatClampNeg) ) (⟨callB_of 1 htg (tp_good0 kc_Y_isOfWord) rfl rfl rfl (htg _ ki_Y) (htg _ kl_Y_118) ⟨by decide, by decide, by decide +kernel⟩ ⟨Nat.le_of_ble_eq_true rfl, Nat.le_of_ble_eq_true rfl⟩, htg _ ks_Y_isOfWord⟩) hK hP hD hS hA rfl hl.1 rfl (Nat.le_of_ble_eq_true rfl) d_Y_nextWord_32 ⟨Nat.le_of_ble_eq_true rfl, Nat.le_of_ble_eq_true rfl⟩) hD hS hA (fun ow5 u H locs hw hP hD hS => ?_)
    have hP : va_P (tp_D E) tp_cl ((aY, .inr (1, [.ref aC, .int xc, .int xe, .int k, .int at1, .int xv])) :: (aC, .inl (tp_ty E 4, 28, .inl fC)) :: fr) H := hP
    have hD : va_D A ((aY, .inr (1, [.ref aC, .int xc, .int xe, .int k, .int at1, .int xv])) :: (aC, .inl (tp_ty E 4, 28, .inl fC)) :: fr) := hD
    by_cases h3 : ow5 = 0
    · refine lv_if_eq (tgt := 51) hx hb d_Y_nextWord_35 (by decide) (fun _ => ?_) (fun h => absurd h3 h)
      refine lv_aload_n hx hb d_Y_nextWord_51 rfl (lv_at hl 0 rfl) ?_
      refine lv_aload_n hx hb d_Y_nextWord_52 rfl (lv_at hl 0 rfl) ?_
      refine va_get (D := tp_D E) (ci := 1) (v := .int k) (C := qR_Y) (T := qF_Y) (N := 6) hx hb htg qi_Y hown hK.1 hP 0 rfl rfl 3 (by decide) (htg _ kl_Y_22) (fun _ h => h) rfl d_Y_nextWord_53 ?_
      refine va_put (D := tp_D E) (ci := 1) (v := .int k) (ty := .int) (C := qR_Y) (T := qF_Y) (N := 6) hx hb htg qi_Y qt_Y qt_Y_ok qn_Y hown hK.1 hP hD hS 0 rfl rfl 5 (by decide) (htg _ kl_Y_121) (fun _ h => h) rfl (by decide +kernel) rfl rfl (Nat.le_of_ble_eq_true rfl) d_Y_nextWord_56 (fun H locs hP hD hS => ?_)
      have hP : va_P (tp_D E) tp_cl ((aY, .inr (1, [.ref aC, .int xc, .int xe, .int k, .int at1, .int k])) :: (aC, .inl (tp_ty E 4, 28, .inl fC)) :: fr) H := hP
      have hD : va_D A ((aY, .inr (1, [.ref aC, .int xc, .int xe, .int k, .int at1, .int k])) :: (aC, .inl (tp_ty E 4, 28, .inl fC)) :: fr) := hD
      refine lv_aload_n hx hb d_Y_nextWord_59 rfl (lv_at hl 0 rfl) ?_
      refine tp_cv (tp_rV (As := []) (rest := []) ⟨hx, hb, hml, hown, htg⟩ (s_Y_skipBlanks l E fr _ aY aC xc xe k at1 k fC hk) (⟨callB_of 0 htg (tp_good0 kc_Y_skipBlanks) rfl rfl rfl (htg _ ki_Y) (htg _ kl_Y_112) ⟨by decide, by decide, by decide +kernel⟩ ⟨Nat.le_of_ble_eq_true rfl, Nat.le_of_ble_eq_true rfl⟩, htg _ km_Y_skipBlanks, htg _ kp_Y_skipBlanks⟩) (va_recv (ci := 1) (q0 := 0) hK.1 hP rfl rfl) hK hP hD hS hA rfl hl.1 rfl (Nat.le_of_ble_eq_true rfl) d_Y_nextWord_60 ⟨Nat.le_of_ble_eq_true rfl, Nat.le_of_ble_eq_true rfl⟩) hD hS hA (fun at6 H locs hw hP hD hS => ?_)
      obtain ⟨hy7, hy7l⟩ : sf_Y xe at6 ∧ k.toInt ≤ at6.toInt := hw
      have hP : va_P (tp_D E) tp_cl ((aY, .inr (1, [.ref aC, .int xc, .int xe, .int at6, .int at1, .int k])) :: (aC, .inl (tp_ty E 4, 28, .inl fC)) :: fr) H := hP
      have hD : va_D A ((aY, .inr (1, [.ref aC, .int xc, .int xe, .int at6, .int at1, .int k])) :: (aC, .inl (tp_ty E 4, 28, .inl fC)) :: fr) := hD
      exact W.vret hx hb hr (fun t ht hW => ⟨⟨(at6, at1, k), rfl, sf_Wmk hy2 hb0 hy7l hy7, by rw [ht]; exact hP, hD⟩, hS.F ht⟩) hS.2.2 d_Y_nextWord_63
    · refine lv_if_eq (tgt := 51) hx hb d_Y_nextWord_35 (by decide) (fun h => absurd h h3) (fun _ => ?_)
      refine lv_aload_n hx hb d_Y_nextWord_38 rfl (lv_at hl 0 rfl) ?_
      refine lv_dup hx hb d_Y_nextWord_39 rfl ?_
      refine va_get (D := tp_D E) (ci := 1) (v := .int k) (C := qR_Y) (T := qF_Y) (N := 6) hx hb htg qi_Y hown hK.1 hP 0 rfl rfl 3 (by decide) (htg _ kl_Y_22) (fun _ h => h) rfl d_Y_nextWord_40 ?_
      refine lv_iconst (v := 1) hx hb d_Y_nextWord_43 (by decide) ?_
      refine lv_iadd hx hb d_Y_nextWord_44 ?_
      refine va_put (D := tp_D E) (ci := 1) (v := .int (k + 1)) (ty := .int) (C := qR_Y) (T := qF_Y) (N := 6) hx hb htg qi_Y qt_Y qt_Y_ok qn_Y hown hK.1 hP hD hS 0 rfl rfl 3 (by decide) (htg _ kl_Y_22) (fun _ h => h) rfl (by decide +kernel) rfl rfl (Nat.le_of_ble_eq_true rfl) d_Y_nextWord_45 (fun H locs hP hD hS => ?_)
      have hP : va_P (tp_D E) tp_cl ((aY, .inr (1, [.ref aC, .int xc, .int xe, .int (k + 1), .int at1, .int xv])) :: (aC, .inl (tp_ty E 4, 28, .inl fC)) :: fr) H := hP
      have hD : va_D A ((aY, .inr (1, [.ref aC, .int xc, .int xe, .int (k + 1), .int at1, .int xv])) :: (aC, .inl (tp_ty E 4, 28, .inl fC)) :: fr) := hD
      refine lv_goto (tgt := 12) hx hb d_Y_nextWord_48 (by decide) ?_
      exact ih (j - 1) (k + 1) ls _ _ (sf_jp h2 hj) ⟨⟨sf_Yi hk h2, sf_le1 hk h2 hb0, sf_jd hk h2 hj⟩, tp_lvI hl [0] rfl, hP, hD, hS⟩
set_option maxHeartbeats 4000000 in
set_option maxRecDepth 100000 in
theorem s_Y_nextIs (l : Launch) (E : tp_Env) (fr : va_W) (sz : Nat) (aY aC : Nat) (xc xe xa xw xv : Int32) (fC : Nat → Int32) (xk : Int32) (hy : sf_Y xe xa) : Met l y_Y_nextIs w_Y_nextIs ({ frames := 0, cells := 0, slots := 0, locals := 0 }) (va_Pc [.ref aY, .int xk] (tp_in E ((aY, .inr (1, [.ref aC, .int xc, .int xe, .int xa, .int xw, .int xv])) :: (aC, .inl (tp_ty E 4, 28, .inl fC)) :: fr) sz)) (va_Qi (fun r (_ : Unit) => (r = 1 ∧ ¬ xe ≤ xa) ∨ r = 0) (fun _ t => tp_out E (va_A ((aY, .inr (1, [.ref aC, .int xc, .int xe, .int xa, .int xw, .int xv])) :: (aC, .inl (tp_ty E 4, 28, .inl fC)) :: fr) sz) ((aY, .inr (1, [.ref aC, .int xc, .int xe, .int xa, .int xw, .int xv])) :: (aC, .inl (tp_ty E 4, 28, .inl fC)) :: fr) t) (va_A ((aY, .inr (1, [.ref aC, .int xc, .int xe, .int xa, .int xw, .int xv])) :: (aC, .inl (tp_ty E 4, 28, .inl fC)) :: fr) sz)) 0 0 (va_A ((aY, .inr (1, [.ref aC, .int xc, .int xe, .int xa, .int xw, .int xv])) :: (aC, .inl (tp_ty E 4, 28, .inl fC)) :: fr) sz) := by
  refine Met.ofW (cc := b_Y_nextIs) (maxL := 2) (ret := (some .boolean)) (by decide) rfl ?_
  intro p e s m args below meth c s₁ B hml hv
  obtain ⟨rfl, hsz, hP, hK, hD0⟩ := hv
  have hx := B.exec
  have hb := B.bytes
  have hr := B.returns
  have htg : ∀ w ∈ tp_G, w.before ([.ref aY, .int xk] : List Value).toArray s = true := fun w h => atoms_spec (ws := w_Y_nextIs) B.pre w (List.mem_cons_of_mem _ h)
  have hown : s.vm.findClass "TwoPass$Typed" = some m.cls := findClass_of_methodNamed B.named
  have hlocks := B.notSynchronized
  subst hsz
  have hD := hD0.self (sz := s.heap.size)
  generalize hAe : va_A ((aY, .inr (1, [.ref aC, .int xc, .int xe, .int xa, .int xw, .int xv])) :: (aC, .inl (tp_ty E 4, 28, .inl fC)) :: fr) s.heap.size = A at hD hK ⊢
  have hA : ∀ q : Nat, s.heap.size ≤ q → A q := fun q h => by rw [← hAe]; exact Or.inr h
  have hS : va_S A s.heap s.heap [] := va_S.rf
  have hl := lv_entry ([.ref aY, .int xk]) (n := 2) (Nat.le_of_ble_eq_true rfl)
  rw [lg_entry_eq]
  generalize (lg_sl ([.ref aY, .int xk]) ++ List.replicate (2 - (lg_sl ([.ref aY, .int xk])).length) Slot.unset).toArray = ls at hl ⊢
  have hl : lv_has ls 2 [(0, .ref aY), (1, .int xk)] := hl
  refine lv_aload_n hx hb d_Y_nextIs_0 rfl (lv_at hl 0 rfl) ?_
  refine va_get (D := tp_D E) (ci := 1) (v := .int xa) (C := qR_Y) (T := qF_Y) (N := 6) hx hb htg qi_Y hown hK.1 hP 0 rfl rfl 3 (by decide) (htg _ kl_Y_22) (fun _ h => h) rfl d_Y_nextIs_1 ?_
  refine lv_aload_n hx hb d_Y_nextIs_4 rfl (lv_at hl 0 rfl) ?_
  refine va_get (D := tp_D E) (ci := 1) (v := .int xe) (C := qR_Y) (T := qF_Y) (N := 6) hx hb htg qi_Y hown hK.1 hP 0 rfl rfl 2 (by decide) (htg _ kl_Y_19) (fun _ h => h) rfl d_Y_nextIs_5 ?_
  by_cases h2 : xe ≤ xa
  · refine lv_icmp_ge (tgt := 28) hx hb d_Y_nextIs_8 (by decide) (fun _ => ?_) (fun h => absurd h2 h)
    refine lv_iconst (v := 0) hx hb d_Y_nextIs_28 (by decide) ?_
    exact W.zret (v := 0) hx hb hr rfl (fun t ht hW => ⟨⟨_, (), rfl, Or.inr rfl, by rw [ht]; exact hP, hD⟩, hS.F ht⟩) hS.2.2 d_Y_nextIs_29
  · refine lv_icmp_ge (tgt := 28) hx hb d_Y_nextIs_8 (by decide) (fun h => absurd h h2) (fun _ => ?_)
    refine lv_aload_n hx hb d_Y_nextIs_11 rfl (lv_at hl 0 rfl) ?_
    refine va_get (D := tp_D E) (ci := 1) (v := .ref aC) (C := qR_Y) (T := qF_Y) (N := 6) hx hb htg qi_Y hown hK.1 hP 0 rfl rfl 0 (by decide) (htg _ kl_Y_9) (fun _ h => h) rfl d_Y_nextIs_12 ?_
    refine lv_aload_n hx hb d_Y_nextIs_15 rfl (lv_at hl 0 rfl) ?_
    refine va_get (D := tp_D E) (ci := 1) (v := .int xa) (C := qR_Y) (T := qF_Y) (N := 6) hx hb htg qi_Y hown hK.1 hP 0 rfl rfl 3 (by decide) (htg _ kl_Y_22) (fun _ h => h) rfl d_Y_nextIs_16 ?_
    refine va_cald (D := tp_D E) hx hb hK.1 hP 1 4 rfl rfl (sf_vin hy h2) d_Y_nextIs_19 ?_
    refine lv_iload_n hx hb d_Y_nextIs_20 rfl (lv_at hl 1 rfl) ?_
    by_cases h3 : (fC xa.toNatClampNeg) = xk
    · refine lv_icmp_ne (tgt := 28) hx hb d_Y_nextIs_21 (by decide) (fun h => absurd h3 h) (fun _ => ?_)
      refine lv_iconst (v := 1) hx hb d_Y_nextIs_24 (by decide) ?_
      refine lv_goto (tgt := 29) hx hb d_Y_nextIs_25 (by decide) ?_
      exact W.zret (v := 1) hx hb hr rfl (fun t ht hW => ⟨⟨_, (), rfl, Or.inl ⟨rfl, h2⟩, by rw [ht]; exact hP, hD⟩, hS.F ht⟩) hS.2.2 d_Y_nextIs_29
    · refine lv_icmp_ne (tgt := 28) hx hb d_Y_nextIs_21 (by decide) (fun _ => ?_) (fun h => absurd h h3)
      refine lv_iconst (v := 0) hx hb d_Y_nextIs_28 (by decide) ?_
      exact W.zret (v := 0) hx hb hr rfl (fun t ht hW => ⟨⟨_, (), rfl, Or.inr rfl, by rw [ht]; exact hP, hD⟩, hS.F ht⟩) hS.2.2 d_Y_nextIs_29
set_option maxHeartbeats 4000000 in
set_option maxRecDepth 100000 in
theorem s_Y_wordAsName (l : Launch) (hfl : l.stackTraces = false) (E : tp_Env) (fr : va_W) (sz : Nat) (aY aC : Nat) (xc xe xa xw xv : Int32) (fC : Nat → Int32) (hv : sf_V xw xv) : vx_Met l y_Y_wordAsName w_Y_wordAsName ({ frames := 6, cells := 1, slots := 6, locals := 89 }) (va_Pc [.ref aY] (tp_in E ((aY, .inr (1, [.ref aC, .int xc, .int xe, .int xa, .int xw, .int xv])) :: (aC, .inl (tp_ty E 4, 28, .inl fC)) :: fr) sz)) (va_Qi (fun r (_ : Unit) => True) (fun _ t => tp_out E (va_A ((aY, .inr (1, [.ref aC, .int xc, .int xe, .int xa, .int xw, .int xv])) :: (aC, .inl (tp_ty E 4, 28, .inl fC)) :: fr) sz) ((aY, .inr (1, [.ref aC, .int xc, .int xe, .int xa, .int xw, .int xv])) :: (aC, .inl (tp_ty E 4, 28, .inl fC)) :: fr) t) (va_A ((aY, .inr (1, [.ref aC, .int xc, .int xe, .int xa, .int xw, .int xv])) :: (aC, .inl (tp_ty E 4, 28, .inl fC)) :: fr) sz)) (vx_X (fun (_ : Int32 × Int32 × Int32) => True) (fun x u t => x = "java/lang/IllegalArgumentException" ∧ tp_out E (va_A ((aY, .inr (1, [.ref aC, .int xc, .int xe, .int xa, .int xw, .int xv])) :: (aC, .inl (tp_ty E 4, 28, .inl fC)) :: fr) sz) ((aY, .inr (1, [.ref aC, .int xc, .int xe, .int u.1, .int u.2.1, .int u.2.2])) :: (aC, .inl (tp_ty E 4, 28, .inl fC)) :: fr) t) (va_A ((aY, .inr (1, [.ref aC, .int xc, .int xe, .int xa, .int xw, .int xv])) :: (aC, .inl (tp_ty E 4, 28, .inl fC)) :: fr) sz)) 1 6 (va_A ((aY, .inr (1, [.ref aC, .int xc, .int xe, .int xa, .int xw, .int xv])) :: (aC, .inl (tp_ty E 4, 28, .inl fC)) :: fr) sz) := by
  refine vx_ofW (cc := b_Y_wordAsName) (maxL := 5) (ret := (some .int)) (by decide) rfl ?_
  intro p e s m args below meth c s₁ B hml htab hv
  obtain ⟨rfl, hsz, hP, hK, hD0⟩ := hv
  have hx := B.exec
  have hb := B.bytes
  have hr := B.returns
  have htg : ∀ w ∈ tp_G, w.before ([.ref aY] : List Value).toArray s = true := fun w h => atoms_spec (ws := w_Y_wordAsName) B.pre w (List.mem_cons_of_mem _ h)
  have hown : s.vm.findClass "TwoPass$Typed" = some m.cls := findClass_of_methodNamed B.named
  have hlocks := B.notSynchronized
  subst hsz
  have hD := hD0.self (sz := s.heap.size)
  generalize hAe : va_A ((aY, .inr (1, [.ref aC, .int xc, .int xe, .int xa, .int xw, .int xv])) :: (aC, .inl (tp_ty E 4, 28, .inl fC)) :: fr) s.heap.size = A at hD hK ⊢
  have hA : ∀ q : Nat, s.heap.size ≤ q → A q := fun q h => by rw [← hAe]; exact Or.inr h
  have hS : va_S A s.heap s.heap [] := va_S.rf
  have hl := lv_entry ([.ref aY]) (n := 5) (Nat.le_of_ble_eq_true rfl)
  rw [lg_entry_eq]
  generalize (lg_sl ([.ref aY]) ++ List.replicate (5 - (lg_sl ([.ref aY])).length) Slot.unset).toArray = ls at hl ⊢
  have hl : lv_has ls 5 [(0, .ref aY)] := hl
  refine lv_aload_n hx hb d_Y_wordAsName_0 rfl (lv_at hl 0 rfl) ?_
  refine va_get (D := tp_D E) (ci := 1) (v := .int xv) (C := qR_Y) (T := qF_Y) (N := 6) hx hb htg qi_Y hown hK.1 hP 0 rfl rfl 5 (by decide) (htg _ kl_Y_121) (fun _ h => h) rfl d_Y_wordAsName_1 ?_
  refine lv_aload_n hx hb d_Y_wordAsName_4 rfl (lv_at hl 0 rfl) ?_
  refine va_get (D := tp_D E) (ci := 1) (v := .int xw) (C := qR_Y) (T := qF_Y) (N := 6) hx hb htg qi_Y hown hK.1 hP 0 rfl rfl 4 (by decide) (htg _ kl_Y_115) (fun _ h => h) rfl d_Y_wordAsName_5 ?_
  refine lv_isub hx hb d_Y_wordAsName_8 ?_
  refine lv_istore_n (lv' := [(1, .int (xv - xw)), (0, .ref aY)]) hx hb d_Y_wordAsName_9 rfl hl (by decide) rfl (fun ls hl => ?_)
  refine lv_iload_n hx hb d_Y_wordAsName_10 rfl (lv_at hl 0 rfl) ?_
  refine lv_iconst (v := 1) hx hb d_Y_wordAsName_11 (by decide) ?_
  by_cases h2 : (xv - xw) < 1
  · refine lv_icmp_lt (tgt := 21) hx hb d_Y_wordAsName_12 (by decide) (fun _ => ?_) (fun h => absurd h2 h)
    exact vx_throw0 (own := "TwoPass$Typed") (cls := "java/lang/IllegalArgumentException") (names := ["java/lang/RuntimeException", "java/lang/Exception"]) (ik := 69) (ic := 71) hx hb hfl hown (by decide +kernel) (by decide +kernel) (htg _ kl_Y_69) (htg _ kx_IllegalArgumentException) (kxa_Y_71 htg hK.2.2.2.1) kxg_Y_71 hK.2.1 hK.2.2.1 hS (hl.1.trans hml.symm) d_Y_wordAsName_21 d_Y_wordAsName_24 d_Y_wordAsName_25 d_Y_wordAsName_28 (fun x h => (htab x h).elim) (Nat.le_of_ble_eq_true rfl) (Nat.le_of_ble_eq_true rfl) (Nat.le_of_ble_eq_true rfl) (Nat.le_of_ble_eq_true rfl) hlocks (fun t hvm hz hq => ⟨(xa, xw, xv), trivial, ⟨rfl, va_P.kept hP (fun k q hk => hq _ (vx_lt hP hk)), hD⟩, ⟨Nat.le_trans hS.1 hz, fun q h1 h2 => (hq q (Nat.lt_of_lt_of_le h1 hS.1)).trans (hS.2.1 q h1 h2)⟩⟩) hS.2.2 (Nat.le_of_ble_eq_true rfl) (Nat.le_of_ble_eq_true rfl)
  · refine lv_icmp_lt (tgt := 21) hx hb d_Y_wordAsName_12 (by decide) (fun h => absurd h h2) (fun _ => ?_)
    refine lv_iload_n hx hb d_Y_wordAsName_15 rfl (lv_at hl 0 rfl) ?_
    refine lv_bipush (v := 6) hx hb d_Y_wordAsName_16 (by decide) ?_
    by_cases h3 : (xv - xw) ≤ 6
    · refine lv_icmp_le (tgt := 29) hx hb d_Y_wordAsName_18 (by decide) (fun _ => ?_) (fun h => absurd h3 h)
      refine lv_iconst (v := 0) hx hb d_Y_wordAsName_29 (by decide) ?_
      refine lv_istore_n (lv' := [(2, .int 0), (1, .int (xv - xw)), (0, .ref aY)]) hx hb d_Y_wordAsName_30 rfl hl (by decide) rfl (fun ls hl => ?_)
      refine lv_aload_n hx hb d_Y_wordAsName_31 rfl (lv_at hl 2 rfl) ?_
      refine va_get (D := tp_D E) (ci := 1) (v := .int xw) (C := qR_Y) (T := qF_Y) (N := 6) hx hb htg qi_Y hown hK.1 hP 0 rfl rfl 4 (by decide) (htg _ kl_Y_115) (fun _ h => h) rfl d_Y_wordAsName_32 ?_
      refine lv_istore_n (lv' := [(3, .int xw), (2, .int 0), (1, .int (xv - xw)), (0, .ref aY)]) hx hb d_Y_wordAsName_35 rfl hl (by decide) rfl (fun ls hl => ?_)
      refine tp_loop2 (fun j ls H locs (k : Int32) (nm : Int32) => ((sf_V k xv) ∧ (k.toInt + (j : Int) = xv.toInt)) ∧ lv_has ls 5 [(2, .int nm), (3, .int k), (1, .int (xv - xw)), (0, .ref aY)] ∧ va_P (tp_D E) tp_cl ((aY, .inr (1, [.ref aC, .int xc, .int xe, .int xa, .int xw, .int xv])) :: (aC, .inl (tp_ty E 4, 28, .inl fC)) :: fr) H ∧ va_D A ((aY, .inr (1, [.ref aC, .int xc, .int xe, .int xa, .int xw, .int xv])) :: (aC, .inl (tp_ty E 4, 28, .inl fC)) :: fr) ∧ va_S A s.heap H locs) ?_ _ xw 0 ⟨⟨hv, sf_Vj hv⟩, tp_lvI hl [1, 0, 2, 3] rfl, hP, hD, hS⟩
      intro j k nm ls H locs hI ih
      obtain ⟨⟨hk, hj⟩, hl, hP, hD, hS⟩ := hI
      refine lv_iload_n hx hb d_Y_wordAsName_36 rfl (lv_at hl 1 rfl) ?_
      refine lv_aload_n hx hb d_Y_wordAsName_37 rfl (lv_at hl 3 rfl) ?_
      refine va_get (D := tp_D E) (ci := 1) (v := .int xv) (C := qR_Y) (T := qF_Y) (N := 6) hx hb htg qi_Y hown hK.1 hP 0 rfl rfl 5 (by decide) (htg _ kl_Y_121) (fun _ h => h) rfl d_Y_wordAsName_38 ?_
      by_cases h4 : xv ≤ k
      · refine lv_icmp_ge (tgt := 92) hx hb d_Y_wordAsName_41 (by decide) (fun _ => ?_) (fun h => absurd h4 h)
        refine lv_iload_n hx hb d_Y_wordAsName_92 rfl (lv_at hl 0 rfl) ?_
        exact tp_widen (k := 1) (n := 6) (Nat.le_of_ble_eq_true rfl) (Nat.le_of_ble_eq_true rfl) (vx_ret (W.iret (v := nm) hx hb hr (fun t ht hW => ⟨⟨_, (), rfl, trivial, by rw [ht]; exact hP, hD⟩, hS.F ht⟩) hS.2.2 d_Y_wordAsName_93))
      · refine lv_icmp_ge (tgt := 92) hx hb d_Y_wordAsName_41 (by decide) (fun h => absurd h h4) (fun _ => ?_)
        refine lv_aload_n hx hb d_Y_wordAsName_44 rfl (lv_at hl 3 rfl) ?_
        refine va_get (D := tp_D E) (ci := 1) (v := .ref aC) (C := qR_Y) (T := qF_Y) (N := 6) hx hb htg qi_Y hown hK.1 hP 0 rfl rfl 0 (by decide) (htg _ kl_Y_9) (fun _ h => h) rfl d_Y_wordAsName_45 ?_
        refine lv_iload_n hx hb d_Y_wordAsName_48 rfl (lv_at hl 1 rfl) ?_
        refine va_cald (D := tp_D E) hx hb hK.1 hP 1 4 rfl rfl (sf_Vk (ws := k) hk h4) d_Y_wordAsName_49 ?_
        refine lv_istore (lv' := [(4, .int (fC k.toNatClampNeg)), (2, .int nm), (3, .int k), (1, .int (xv - xw)), (0, .ref aY)]) hx hb d_Y_wordAsName_50 hl (by decide) rfl (fun ls hl => ?_)
        refine lv_iload hx hb d_Y_wordAsName_52 (lv_at hl 0 rfl) ?_
        refine lv_bipush (v := 97) hx hb d_Y_wordAsName_54 (by decide) ?_
        by_cases h5 : (fC k.toNatClampNeg) < 97
        · refine lv_icmp_lt (tgt := 66) hx hb d_Y_wordAsName_56 (by decide) (fun _ => ?_) (fun h => absurd h5 h)
          exact vx_throw0 (own := "TwoPass$Typed") (cls := "java/lang/IllegalArgumentException") (names := ["java/lang/RuntimeException", "java/lang/Exception"]) (ik := 69) (ic := 71) hx hb hfl hown (by decide +kernel) (by decide +kernel) (htg _ kl_Y_69) (htg _ kx_IllegalArgumentException) (kxa_Y_71 htg hK.2.2.2.1) kxg_Y_71 hK.2.1 hK.2.2.1 hS (hl.1.trans hml.symm) d_Y_wordAsName_66 d_Y_wordAsName_69 d_Y_wordAsName_70 d_Y_wordAsName_73 (fun x h => (htab x h).elim) (Nat.le_of_ble_eq_true rfl) (Nat.le_of_ble_eq_true rfl) (Nat.le_of_ble_eq_true rfl) (Nat.le_of_ble_eq_true rfl) hlocks (fun t hvm hz hq => ⟨(xa, xw, xv), trivial, ⟨rfl, va_P.kept hP (fun k q hk => hq _ (vx_lt hP hk)), hD⟩, ⟨Nat.le_trans hS.1 hz, fun q h1 h2 => (hq q (Nat.lt_of_lt_of_le h1 hS.1)).trans (hS.2.1 q h1 h2)⟩⟩) hS.2.2 (Nat.le_of_ble_eq_true rfl) (Nat.le_of_ble_eq_true rfl)
        · refine lv_icmp_lt (tgt := 66) hx hb d_Y_wordAsName_56 (by decide) (fun h => absurd h h5) (fun _ => ?_)
          refine lv_iload hx hb d_Y_wordAsName_59 (lv_at hl 0 rfl) ?_
          refine lv_bipush (v := 122) hx hb d_Y_wordAsName_61 (by decide) ?_
          by_cases h6 : (fC k.toNatClampNeg) ≤ 122
          · refine lv_icmp_le (tgt := 74) hx hb d_Y_wordAsName_63 (by decide) (fun _ => ?_) (fun h => absurd h6 h)
            refine lv_iload_n hx hb d_Y_wordAsName_74 rfl (lv_at hl 1 rfl) ?_
            refine lv_iconst (v := 5) hx hb d_Y_wordAsName_75 (by decide) ?_
            refine lv_ishl hx hb d_Y_wordAsName_76 ?_
            refine lv_iload hx hb d_Y_wordAsName_77 (lv_at hl 0 rfl) ?_
            refine lv_bipush (v := 97) hx hb d_Y_wordAsName_79 (by decide) ?_
            refine lv_isub hx hb d_Y_wordAsName_81 ?_
            refine lv_iconst (v := 1) hx hb d_Y_wordAsName_82 (by decide) ?_
            refine lv_iadd hx hb d_Y_wordAsName_83 ?_
            refine lv_ior hx hb d_Y_wordAsName_84 ?_
            refine lv_istore_n (lv' := [(2, .int ((nm <<< (5 &&& 31 : Int32)) ||| (((fC k.toNatClampNeg) - 97) + 1))), (4, .int (fC k.toNatClampNeg)), (3, .int k), (1, .int (xv - xw)), (0, .ref aY)]) hx hb d_Y_wordAsName_85 rfl hl (by decide) rfl (fun ls hl => ?_)
            refine lv_iinc (k := 2) (v := (k + 1)) (lv' := [(3, .int (k + 1)), (2, .int ((nm <<< (5 &&& 31 : Int32)) ||| (((fC k.toNatClampNeg) - 97) + 1))), (4, .int (fC k.toNatClampNeg)), (1, .int (xv - xw)), (0, .ref aY)]) hx hb d_Y_wordAsName_86 hl rfl rfl (by decide) rfl (fun ls hl => ?_)
            refine lv_goto (tgt := 36) hx hb d_Y_wordAsName_89 (by decide) ?_
            exact ih (j - 1) (k + 1) ((nm <<< (5 &&& 31 : Int32)) ||| (((fC k.toNatClampNeg) - 97) + 1)) ls _ _ (sf_jp h4 hj) ⟨⟨sf_Vi hk h4, sf_Vd hk h4 hj⟩, tp_lvI hl [1, 0, 3, 4] rfl, hP, hD, hS⟩
          · refine lv_icmp_le (tgt := 74) hx hb d_Y_wordAsName_63 (by decide) (fun h => absurd h h6) (fun _ => ?_)
            exact vx_throw0 (own := "TwoPass$Typed") (cls := "java/lang/IllegalArgumentException") (names := ["java/lang/RuntimeException", "java/lang/Exception"]) (ik := 69) (ic := 71) hx hb hfl hown (by decide +kernel) (by decide +kernel) (htg _ kl_Y_69) (htg _ kx_IllegalArgumentException) (kxa_Y_71 htg hK.2.2.2.1) kxg_Y_71 hK.2.1 hK.2.2.1 hS (hl.1.trans hml.symm) d_Y_wordAsName_66 d_Y_wordAsName_69 d_Y_wordAsName_70 d_Y_wordAsName_73 (fun x h => (htab x h).elim) (Nat.le_of_ble_eq_true rfl) (Nat.le_of_ble_eq_true rfl) (Nat.le_of_ble_eq_true rfl) (Nat.le_of_ble_eq_true rfl) hlocks (fun t hvm hz hq => ⟨(xa, xw, xv), trivial, ⟨rfl, va_P.kept hP (fun k q hk => hq _ (vx_lt hP hk)), hD⟩, ⟨Nat.le_trans hS.1 hz, fun q h1 h2 => (hq q (Nat.lt_of_lt_of_le h1 hS.1)).trans (hS.2.1 q h1 h2)⟩⟩) hS.2.2 (Nat.le_of_ble_eq_true rfl) (Nat.le_of_ble_eq_true rfl)
    · refine lv_icmp_le (tgt := 29) hx hb d_Y_wordAsName_18 (by decide) (fun h => absurd h h3) (fun _ => ?_)
      exact vx_throw0 (own := "TwoPass$Typed") (cls := "java/lang/IllegalArgumentException") (names := ["java/lang/RuntimeException", "java/lang/Exception"]) (ik := 69) (ic := 71) hx hb hfl hown (by decide +kernel) (by decide +kernel) (htg _ kl_Y_69) (htg _ kx_IllegalArgumentException) (kxa_Y_71 htg hK.2.2.2.1) kxg_Y_71 hK.2.1 hK.2.2.1 hS (hl.1.trans hml.symm) d_Y_wordAsName_21 d_Y_wordAsName_24 d_Y_wordAsName_25 d_Y_wordAsName_28 (fun x h => (htab x h).elim) (Nat.le_of_ble_eq_true rfl) (Nat.le_of_ble_eq_true rfl) (Nat.le_of_ble_eq_true rfl) (Nat.le_of_ble_eq_true rfl) hlocks (fun t hvm hz hq => ⟨(xa, xw, xv), trivial, ⟨rfl, va_P.kept hP (fun k q hk => hq _ (vx_lt hP hk)), hD⟩, ⟨Nat.le_trans hS.1 hz, fun q h1 h2 => (hq q (Nat.lt_of_lt_of_le h1 hS.1)).trans (hS.2.1 q h1 h2)⟩⟩) hS.2.2 (Nat.le_of_ble_eq_true rfl) (Nat.le_of_ble_eq_true rfl)
set_option maxHeartbeats 4000000 in
set_option maxRecDepth 100000 in
theorem s_Y_digitsFrom (l : Launch) (hfl : l.stackTraces = false) (E : tp_Env) (fr : va_W) (sz : Nat) (aY aC : Nat) (xc xe xa xw xv : Int32) (fC : Nat → Int32) (xf xb xm : Int32) (hv : sf_V xw xv) (h0 : 0 ≤ xf.toInt ∧ xf.toInt ≤ 30) : vx_Met l y_Y_digitsFrom w_Y_digitsFrom ({ frames := 6, cells := 1, slots := 6, locals := 89 }) (va_Pc [.ref aY, .int xf, .int xb, .int xm] (tp_in E ((aY, .inr (1, [.ref aC, .int xc, .int xe, .int xa, .int xw, .int xv])) :: (aC, .inl (tp_ty E 4, 28, .inl fC)) :: fr) sz)) (va_Ql (fun r (_ : Unit) => True) (fun _ t => tp_out E (va_A ((aY, .inr (1, [.ref aC, .int xc, .int xe, .int xa, .int xw, .int xv])) :: (aC, .inl (tp_ty E 4, 28, .inl fC)) :: fr) sz) ((aY, .inr (1, [.ref aC, .int xc, .int xe, .int xa, .int xw, .int xv])) :: (aC, .inl (tp_ty E 4, 28, .inl fC)) :: fr) t) (va_A ((aY, .inr (1, [.ref aC, .int xc, .int xe, .int xa, .int xw, .int xv])) :: (aC, .inl (tp_ty E 4, 28, .inl fC)) :: fr) sz)) (vx_X (fun (_ : Int32 × Int32 × Int32) => True) (fun x u t => x = "java/lang/IllegalArgumentException" ∧ tp_out E (va_A ((aY, .inr (1, [.ref aC, .int xc, .int xe, .int xa, .int xw, .int xv])) :: (aC, .inl (tp_ty E 4, 28, .inl fC)) :: fr) sz) ((aY, .inr (1, [.ref aC, .int xc, .int xe, .int u.1, .int u.2.1, .int u.2.2])) :: (aC, .inl (tp_ty E 4, 28, .inl fC)) :: fr) t) (va_A ((aY, .inr (1, [.ref aC, .int xc, .int xe, .int xa, .int xw, .int xv])) :: (aC, .inl (tp_ty E 4, 28, .inl fC)) :: fr) sz)) 1 6 (va_A ((aY, .inr (1, [.ref aC, .int xc, .int xe, .int xa, .int xw, .int xv])) :: (aC, .inl (tp_ty E 4, 28, .inl fC)) :: fr) sz) := by
  refine vx_ofW (cc := b_Y_digitsFrom) (maxL := 8) (ret := (some .long)) (by decide) rfl ?_
  intro p e s m args below meth c s₁ B hml htab hv
  obtain ⟨rfl, hsz, hP, hK, hD0⟩ := hv
  have hx := B.exec
  have hb := B.bytes
  have hr := B.returns
  have htg : ∀ w ∈ tp_G, w.before ([.ref aY, .int xf, .int xb, .int xm] : List Value).toArray s = true := fun w h => atoms_spec (ws := w_Y_digitsFrom) B.pre w (List.mem_cons_of_mem _ h)
  have hown : s.vm.findClass "TwoPass$Typed" = some m.cls := findClass_of_methodNamed B.named
  have hlocks := B.notSynchronized
  subst hsz
  have hD := hD0.self (sz := s.heap.size)
  generalize hAe : va_A ((aY, .inr (1, [.ref aC, .int xc, .int xe, .int xa, .int xw, .int xv])) :: (aC, .inl (tp_ty E 4, 28, .inl fC)) :: fr) s.heap.size = A at hD hK ⊢
  have hA : ∀ q : Nat, s.heap.size ≤ q → A q := fun q h => by rw [← hAe]; exact Or.inr h
  have hS : va_S A s.heap s.heap [] := va_S.rf
  have hl := lv_entry ([.ref aY, .int xf, .int xb, .int xm]) (n := 8) (Nat.le_of_ble_eq_true rfl)
  rw [lg_entry_eq]
  generalize (lg_sl ([.ref aY, .int xf, .int xb, .int xm]) ++ List.replicate (8 - (lg_sl ([.ref aY, .int xf, .int xb, .int xm])).length) Slot.unset).toArray = ls at hl ⊢
  have hl : lv_has ls 8 [(0, .ref aY), (1, .int xf), (2, .int xb), (3, .int xm)] := hl
  refine lv_aload_n hx hb d_Y_digitsFrom_0 rfl (lv_at hl 0 rfl) ?_
  refine va_get (D := tp_D E) (ci := 1) (v := .int xv) (C := qR_Y) (T := qF_Y) (N := 6) hx hb htg qi_Y hown hK.1 hP 0 rfl rfl 5 (by decide) (htg _ kl_Y_121) (fun _ h => h) rfl d_Y_digitsFrom_1 ?_
  refine lv_iload_n hx hb d_Y_digitsFrom_4 rfl (lv_at hl 1 rfl) ?_
  refine lv_isub hx hb d_Y_digitsFrom_5 ?_
  refine lv_iconst (v := 1) hx hb d_Y_digitsFrom_6 (by decide) ?_
  by_cases h3 : (xv - xf) < 1
  · refine lv_icmp_lt (tgt := 20) hx hb d_Y_digitsFrom_7 (by decide) (fun _ => ?_) (fun h => absurd h3 h)
    exact vx_throw0 (own := "TwoPass$Typed") (cls := "java/lang/IllegalArgumentException") (names := ["java/lang/RuntimeException", "java/lang/Exception"]) (ik := 69) (ic := 71) hx hb hfl hown (by decide +kernel) (by decide +kernel) (htg _ kl_Y_69) (htg _ kx_IllegalArgumentException) (kxa_Y_71 htg hK.2.2.2.1) kxg_Y_71 hK.2.1 hK.2.2.1 hS (hl.1.trans hml.symm) d_Y_digitsFrom_20 d_Y_digitsFrom_23 d_Y_digitsFrom_24 d_Y_digitsFrom_27 (fun x h => (htab x h).elim) (Nat.le_of_ble_eq_true rfl) (Nat.le_of_ble_eq_true rfl) (Nat.le_of_ble_eq_true rfl) (Nat.le_of_ble_eq_true rfl) hlocks (fun t hvm hz hq => ⟨(xa, xw, xv), trivial, ⟨rfl, va_P.kept hP (fun k q hk => hq _ (vx_lt hP hk)), hD⟩, ⟨Nat.le_trans hS.1 hz, fun q h1 h2 => (hq q (Nat.lt_of_lt_of_le h1 hS.1)).trans (hS.2.1 q h1 h2)⟩⟩) hS.2.2 (Nat.le_of_ble_eq_true rfl) (Nat.le_of_ble_eq_true rfl)
  · refine lv_icmp_lt (tgt := 20) hx hb d_Y_digitsFrom_7 (by decide) (fun h => absurd h h3) (fun _ => ?_)
    refine lv_aload_n hx hb d_Y_digitsFrom_10 rfl (lv_at hl 0 rfl) ?_
    refine va_get (D := tp_D E) (ci := 1) (v := .int xv) (C := qR_Y) (T := qF_Y) (N := 6) hx hb htg qi_Y hown hK.1 hP 0 rfl rfl 5 (by decide) (htg _ kl_Y_121) (fun _ h => h) rfl d_Y_digitsFrom_11 ?_
    refine lv_iload_n hx hb d_Y_digitsFrom_14 rfl (lv_at hl 1 rfl) ?_
    refine lv_isub hx hb d_Y_digitsFrom_15 ?_
    refine lv_iload_n hx hb d_Y_digitsFrom_16 rfl (lv_at hl 3 rfl) ?_
    by_cases h4 : (xv - xf) ≤ xm
    · refine lv_icmp_le (tgt := 28) hx hb d_Y_digitsFrom_17 (by decide) (fun _ => ?_) (fun h => absurd h4 h)
      refine lv_lconst (v := 0) hx hb d_Y_digitsFrom_28 (by decide) ?_
      refine lv_lstore (lv' := [(4, .long 0), (0, .ref aY), (1, .int xf), (2, .int xb), (3, .int xm)]) hx hb d_Y_digitsFrom_29 hl (by decide) rfl (fun ls hl => ?_)
      refine lv_iload_n hx hb d_Y_digitsFrom_31 rfl (lv_at hl 2 rfl) ?_
      refine lv_istore (lv' := [(6, .int xf), (4, .long 0), (0, .ref aY), (1, .int xf), (2, .int xb), (3, .int xm)]) hx hb d_Y_digitsFrom_32 hl (by decide) rfl (fun ls hl => ?_)
      refine tp_loop2 (fun j ls H locs (k : Int32) (vv : Int64) => ((sf_V k xv) ∧ (k.toInt + (j : Int) = xv.toInt)) ∧ lv_has ls 8 [(4, .long vv), (6, .int k), (0, .ref aY), (1, .int xf), (2, .int xb), (3, .int xm)] ∧ va_P (tp_D E) tp_cl ((aY, .inr (1, [.ref aC, .int xc, .int xe, .int xa, .int xw, .int xv])) :: (aC, .inl (tp_ty E 4, 28, .inl fC)) :: fr) H ∧ va_D A ((aY, .inr (1, [.ref aC, .int xc, .int xe, .int xa, .int xw, .int xv])) :: (aC, .inl (tp_ty E 4, 28, .inl fC)) :: fr) ∧ va_S A s.heap H locs) ?_ _ xf 0 ⟨⟨(sf_from hv h0 h3), sf_Vj (sf_from hv h0 h3)⟩, tp_lvI hl [1, 0, 2, 3, 4, 5] rfl, hP, hD, hS⟩
      intro j k vv ls H locs hI ih
      obtain ⟨⟨hk, hj⟩, hl, hP, hD, hS⟩ := hI
      refine lv_iload hx hb d_Y_digitsFrom_34 (lv_at hl 1 rfl) ?_
      refine lv_aload_n hx hb d_Y_digitsFrom_36 rfl (lv_at hl 2 rfl) ?_
      refine va_get (D := tp_D E) (ci := 1) (v := .int xv) (C := qR_Y) (T := qF_Y) (N := 6) hx hb htg qi_Y hown hK.1 hP 0 rfl rfl 5 (by decide) (htg _ kl_Y_121) (fun _ h => h) rfl d_Y_digitsFrom_37 ?_
      by_cases h5 : xv ≤ k
      · refine lv_icmp_ge (tgt := 91) hx hb d_Y_digitsFrom_40 (by decide) (fun _ => ?_) (fun h => absurd h5 h)
        refine lv_lload hx hb d_Y_digitsFrom_91 (lv_at hl 0 rfl) ?_
        exact tp_widen (k := 1) (n := 6) (Nat.le_of_ble_eq_true rfl) (Nat.le_of_ble_eq_true rfl) (vx_ret (W.lret (v := vv) hx hb hr (fun t ht hW => ⟨⟨_, (), rfl, trivial, by rw [ht]; exact hP, hD⟩, hS.F ht⟩) hS.2.2 d_Y_digitsFrom_93))
      · refine lv_icmp_ge (tgt := 91) hx hb d_Y_digitsFrom_40 (by decide) (fun h => absurd h h5) (fun _ => ?_)
        refine lv_aload_n hx hb d_Y_digitsFrom_43 rfl (lv_at hl 2 rfl) ?_
        refine va_get (D := tp_D E) (ci := 1) (v := .ref aC) (C := qR_Y) (T := qF_Y) (N := 6) hx hb htg qi_Y hown hK.1 hP 0 rfl rfl 0 (by decide) (htg _ kl_Y_9) (fun _ h => h) rfl d_Y_digitsFrom_44 ?_
        refine lv_iload hx hb d_Y_digitsFrom_47 (lv_at hl 1 rfl) ?_
        refine va_cald (D := tp_D E) hx hb hK.1 hP 1 4 rfl rfl (sf_Vk (ws := k) hk h5) d_Y_digitsFrom_49 ?_
        refine tp_ci (tp_rS (As := [.int (fC k.toNatClampNeg)]) (rest := []) ⟨hx, hb, hml, hown, htg⟩ (s_Y_digitOf l E ((aY, .inr (1, [.ref aC, .int xc, .int xe, .int xa, .int xw, .int xv])) :: (aC, .inl (tp_ty E 4, 28, .inl fC)) :: fr) _ (fC k.toNatClampNeg) ) (⟨callB_of 1 htg (tp_good0 kc_Y_digitOf) rfl rfl rfl (htg _ ki_Y) (htg _ kl_Y_149) ⟨by decide, by decide, by decide +kernel⟩ ⟨Nat.le_of_ble_eq_true rfl, Nat.le_of_ble_eq_true rfl⟩, htg _ ks_Y_digitOf⟩) hK hP hD hS hA rfl hl.1 rfl (Nat.le_of_ble_eq_true rfl) d_Y_digitsFrom_50 ⟨Nat.le_of_ble_eq_true rfl, Nat.le_of_ble_eq_true rfl⟩) hD hS hA (fun dg8 u H locs hw hP hD hS => ?_)
        have hP : va_P (tp_D E) tp_cl ((aY, .inr (1, [.ref aC, .int xc, .int xe, .int xa, .int xw, .int xv])) :: (aC, .inl (tp_ty E 4, 28, .inl fC)) :: fr) H := hP
        have hD : va_D A ((aY, .inr (1, [.ref aC, .int xc, .int xe, .int xa, .int xw, .int xv])) :: (aC, .inl (tp_ty E 4, 28, .inl fC)) :: fr) := hD
        refine lv_istore (lv' := [(7, .int dg8), (4, .long vv), (6, .int k), (0, .ref aY), (1, .int xf), (2, .int xb), (3, .int xm)]) hx hb d_Y_digitsFrom_53 hl (by decide) rfl (fun ls hl => ?_)
        refine lv_iload hx hb d_Y_digitsFrom_55 (lv_at hl 0 rfl) ?_
        by_cases h6 : dg8 < 0
        · refine lv_if_lt (tgt := 66) hx hb d_Y_digitsFrom_57 (by decide) (fun _ => ?_) (fun h => absurd h6 h)
          exact vx_throw0 (own := "TwoPass$Typed") (cls := "java/lang/IllegalArgumentException") (names := ["java/lang/RuntimeException", "java/lang/Exception"]) (ik := 69) (ic := 71) hx hb hfl hown (by decide +kernel) (by decide +kernel) (htg _ kl_Y_69) (htg _ kx_IllegalArgumentException) (kxa_Y_71 htg hK.2.2.2.1) kxg_Y_71 hK.2.1 hK.2.2.1 hS (hl.1.trans hml.symm) d_Y_digitsFrom_66 d_Y_digitsFrom_69 d_Y_digitsFrom_70 d_Y_digitsFrom_73 (fun x h => (htab x h).elim) (Nat.le_of_ble_eq_true rfl) (Nat.le_of_ble_eq_true rfl) (Nat.le_of_ble_eq_true rfl) (Nat.le_of_ble_eq_true rfl) hlocks (fun t hvm hz hq => ⟨(xa, xw, xv), trivial, ⟨rfl, va_P.kept hP (fun k q hk => hq _ (vx_lt hP hk)), hD⟩, ⟨Nat.le_trans hS.1 hz, fun q h1 h2 => (hq q (Nat.lt_of_lt_of_le h1 hS.1)).trans (hS.2.1 q h1 h2)⟩⟩) hS.2.2 (Nat.le_of_ble_eq_true rfl) (Nat.le_of_ble_eq_true rfl)
        · refine lv_if_lt (tgt := 66) hx hb d_Y_digitsFrom_57 (by decide) (fun h => absurd h h6) (fun _ => ?_)
          refine lv_iload hx hb d_Y_digitsFrom_60 (lv_at hl 0 rfl) ?_
          refine lv_iload_n hx hb d_Y_digitsFrom_62 rfl (lv_at hl 5 rfl) ?_
          by_cases h7 : dg8 < xb
          · refine lv_icmp_lt (tgt := 74) hx hb d_Y_digitsFrom_63 (by decide) (fun _ => ?_) (fun h => absurd h7 h)
            refine lv_lload hx hb d_Y_digitsFrom_74 (lv_at hl 1 rfl) ?_
            refine lv_iload_n hx hb d_Y_digitsFrom_76 rfl (lv_at hl 5 rfl) ?_
            refine lv_i2l (v := xb.toInt64) hx hb d_Y_digitsFrom_77 rfl ?_
            refine lv_lmul hx hb d_Y_digitsFrom_78 ?_
            refine lv_iload hx hb d_Y_digitsFrom_79 (lv_at hl 0 rfl) ?_
            refine lv_i2l (v := dg8.toInt64) hx hb d_Y_digitsFrom_81 rfl ?_
            refine lv_ladd hx hb d_Y_digitsFrom_82 ?_
            refine lv_lstore (lv' := [(4, .long ((vv * xb.toInt64) + dg8.toInt64)), (7, .int dg8), (6, .int k), (0, .ref aY), (1, .int xf), (2, .int xb), (3, .int xm)]) hx hb d_Y_digitsFrom_83 hl (by decide) rfl (fun ls hl => ?_)
            refine lv_iinc (k := 2) (v := (k + 1)) (lv' := [(6, .int (k + 1)), (4, .long ((vv * xb.toInt64) + dg8.toInt64)), (7, .int dg8), (0, .ref aY), (1, .int xf), (2, .int xb), (3, .int xm)]) hx hb d_Y_digitsFrom_85 hl rfl rfl (by decide) rfl (fun ls hl => ?_)
            refine lv_goto (tgt := 34) hx hb d_Y_digitsFrom_88 (by decide) ?_
            exact ih (j - 1) (k + 1) ((vv * xb.toInt64) + dg8.toInt64) ls _ _ (sf_jp h5 hj) ⟨⟨sf_Vi hk h5, sf_Vd hk h5 hj⟩, tp_lvI hl [1, 0, 3, 4, 5, 6] rfl, hP, hD, hS⟩
          · refine lv_icmp_lt (tgt := 74) hx hb d_Y_digitsFrom_63 (by decide) (fun h => absurd h h7) (fun _ => ?_)
            exact vx_throw0 (own := "TwoPass$Typed") (cls := "java/lang/IllegalArgumentException") (names := ["java/lang/RuntimeException", "java/lang/Exception"]) (ik := 69) (ic := 71) hx hb hfl hown (by decide +kernel) (by decide +kernel) (htg _ kl_Y_69) (htg _ kx_IllegalArgumentException) (kxa_Y_71 htg hK.2.2.2.1) kxg_Y_71 hK.2.1 hK.2.2.1 hS (hl.1.trans hml.symm) d_Y_digitsFrom_66 d_Y_digitsFrom_69 d_Y_digitsFrom_70 d_Y_digitsFrom_73 (fun x h => (htab x h).elim) (Nat.le_of_ble_eq_true rfl) (Nat.le_of_ble_eq_true rfl) (Nat.le_of_ble_eq_true rfl) (Nat.le_of_ble_eq_true rfl) hlocks (fun t hvm hz hq => ⟨(xa, xw, xv), trivial, ⟨rfl, va_P.kept hP (fun k q hk => hq _ (vx_lt hP hk)), hD⟩, ⟨Nat.le_trans hS.1 hz, fun q h1 h2 => (hq q (Nat.lt_of_lt_of_le h1 hS.1)).trans (hS.2.1 q h1 h2)⟩⟩) hS.2.2 (Nat.le_of_ble_eq_true rfl) (Nat.le_of_ble_eq_true rfl)
    · refine lv_icmp_le (tgt := 28) hx hb d_Y_digitsFrom_17 (by decide) (fun h => absurd h h4) (fun _ => ?_)
      exact vx_throw0 (own := "TwoPass$Typed") (cls := "java/lang/IllegalArgumentException") (names := ["java/lang/RuntimeException", "java/lang/Exception"]) (ik := 69) (ic := 71) hx hb hfl hown (by decide +kernel) (by decide +kernel) (htg _ kl_Y_69) (htg _ kx_IllegalArgumentException) (kxa_Y_71 htg hK.2.2.2.1) kxg_Y_71 hK.2.1 hK.2.2.1 hS (hl.1.trans hml.symm) d_Y_digitsFrom_20 d_Y_digitsFrom_23 d_Y_digitsFrom_24 d_Y_digitsFrom_27 (fun x h => (htab x h).elim) (Nat.le_of_ble_eq_true rfl) (Nat.le_of_ble_eq_true rfl) (Nat.le_of_ble_eq_true rfl) (Nat.le_of_ble_eq_true rfl) hlocks (fun t hvm hz hq => ⟨(xa, xw, xv), trivial, ⟨rfl, va_P.kept hP (fun k q hk => hq _ (vx_lt hP hk)), hD⟩, ⟨Nat.le_trans hS.1 hz, fun q h1 h2 => (hq q (Nat.lt_of_lt_of_le h1 hS.1)).trans (hS.2.1 q h1 h2)⟩⟩) hS.2.2 (Nat.le_of_ble_eq_true rfl) (Nat.le_of_ble_eq_true rfl)
set_option maxHeartbeats 4000000 in
set_option maxRecDepth 100000 in
theorem s_Y_wordIs (l : Launch) (E : tp_Env) (fr : va_W) (sz : Nat) (aY aC : Nat) (xc xe xa xw xv : Int32) (fC : Nat → Int32) (i : Nat) (hi : i < 97) (hv : sf_V xw xv) : Met l y_Y_wordIs w_Y_wordIs ({ frames := 4, cells := 0, slots := 0, locals := 85 }) (va_Pc [.ref aY, .ref (tp_ad E (200 + i))] (tp_in E ((aY, .inr (1, [.ref aC, .int xc, .int xe, .int xa, .int xw, .int xv])) :: (aC, .inl (tp_ty E 4, 28, .inl fC)) :: fr) sz)) (va_Qi (fun r (_ : Unit) => True) (fun _ t => tp_out E (va_A ((aY, .inr (1, [.ref aC, .int xc, .int xe, .int xa, .int xw, .int xv])) :: (aC, .inl (tp_ty E 4, 28, .inl fC)) :: fr) sz) ((aY, .inr (1, [.ref aC, .int xc, .int xe, .int xa, .int xw, .int xv])) :: (aC, .inl (tp_ty E 4, 28, .inl fC)) :: fr) t) (va_A ((aY, .inr (1, [.ref aC, .int xc, .int xe, .int xa, .int xw, .int xv])) :: (aC, .inl (tp_ty E 4, 28, .inl fC)) :: fr) sz)) 0 0 (va_A ((aY, .inr (1, [.ref aC, .int xc, .int xe, .int xa, .int xw, .int xv])) :: (aC, .inl (tp_ty E 4, 28, .inl fC)) :: fr) sz) := by
  refine Met.ofW (cc := b_Y_wordIs) (maxL := 3) (ret := (some .boolean)) (by decide) rfl ?_
  intro p e s m args below meth c s₁ B hml hv
  obtain ⟨rfl, hsz, hP, hK, hD0⟩ := hv
  have hx := B.exec
  have hb := B.bytes
  have hr := B.returns
  have htg : ∀ w ∈ tp_G, w.before ([.ref aY, .ref (tp_ad E (200 + i))] : List Value).toArray s = true := fun w h => atoms_spec (ws := w_Y_wordIs) B.pre w (List.mem_cons_of_mem _ h)
  have hown : s.vm.findClass "TwoPass$Typed" = some m.cls := findClass_of_methodNamed B.named
  have hlocks := B.notSynchronized
  subst hsz
  have hD := hD0.self (sz := s.heap.size)
  generalize hAe : va_A ((aY, .inr (1, [.ref aC, .int xc, .int xe, .int xa, .int xw, .int xv])) :: (aC, .inl (tp_ty E 4, 28, .inl fC)) :: fr) s.heap.size = A at hD hK ⊢
  have hA : ∀ q : Nat, s.heap.size ≤ q → A q := fun q h => by rw [← hAe]; exact Or.inr h
  have hS : va_S A s.heap s.heap [] := va_S.rf
  have hl := lv_entry ([.ref aY, .ref (tp_ad E (200 + i))]) (n := 3) (Nat.le_of_ble_eq_true rfl)
  rw [lg_entry_eq]
  generalize (lg_sl ([.ref aY, .ref (tp_ad E (200 + i))]) ++ List.replicate (3 - (lg_sl ([.ref aY, .ref (tp_ad E (200 + i))])).length) Slot.unset).toArray = ls at hl ⊢
  have hl : lv_has ls 3 [(0, .ref aY), (1, .ref (tp_ad E (200 + i)))] := hl
  refine lv_aload_n hx hb d_Y_wordIs_0 rfl (lv_at hl 1 rfl) ?_
  refine tp_ci (tp_rV (As := []) (rest := []) ⟨hx, hb, hml, hown, htg⟩ (a_ST_length l E ((aY, .inr (1, [.ref aC, .int xc, .int xe, .int xa, .int xw, .int xv])) :: (aC, .inl (tp_ty E 4, 28, .inl fC)) :: fr) _ i hi ) (⟨callB_of 0 htg (tp_good0 kc_ST_length) rfl rfl rfl (htg _ ki_ST) (htg _ kl_Y_56) ⟨by decide, by decide, by decide +kernel⟩ ⟨Nat.le_of_ble_eq_true rfl, Nat.le_of_ble_eq_true rfl⟩, htg _ km_ST_length, htg _ kv_ST_ST_length⟩) (hK.strO (i := i) hi hS) hK hP hD hS hA rfl hl.1 rfl (Nat.le_of_ble_eq_true rfl) d_Y_wordIs_1 ⟨Nat.le_of_ble_eq_true rfl, Nat.le_of_ble_eq_true rfl⟩) hD hS hA (fun r u H locs hw hP hD hS => ?_)
  subst r
  have hP : va_P (tp_D E) tp_cl ((aY, .inr (1, [.ref aC, .int xc, .int xe, .int xa, .int xw, .int xv])) :: (aC, .inl (tp_ty E 4, 28, .inl fC)) :: fr) H := hP
  have hD : va_D A ((aY, .inr (1, [.ref aC, .int xc, .int xe, .int xa, .int xw, .int xv])) :: (aC, .inl (tp_ty E 4, 28, .inl fC)) :: fr) := hD
  refine lv_aload_n hx hb d_Y_wordIs_4 rfl (lv_at hl 0 rfl) ?_
  refine va_get (D := tp_D E) (ci := 1) (v := .int xv) (C := qR_Y) (T := qF_Y) (N := 6) hx hb htg qi_Y hown hK.1 hP 0 rfl rfl 5 (by decide) (htg _ kl_Y_121) (fun _ h => h) rfl d_Y_wordIs_5 ?_
  refine lv_aload_n hx hb d_Y_wordIs_8 rfl (lv_at hl 0 rfl) ?_
  refine va_get (D := tp_D E) (ci := 1) (v := .int xw) (C := qR_Y) (T := qF_Y) (N := 6) hx hb htg qi_Y hown hK.1 hP 0 rfl rfl 4 (by decide) (htg _ kl_Y_115) (fun _ h => h) rfl d_Y_wordIs_9 ?_
  refine lv_isub hx hb d_Y_wordIs_12 ?_
  by_cases h2 : (Int32.ofNat (tp_len.getD i 0)) = (xv - xw)
  · refine lv_icmp_eq (tgt := 18) hx hb d_Y_wordIs_13 (by decide) (fun _ => ?_) (fun h => absurd h2 h)
    refine lv_iconst (v := 0) hx hb d_Y_wordIs_18 (by decide) ?_
    refine lv_istore_n (lv' := [(2, .int 0), (0, .ref aY), (1, .ref (tp_ad E (200 + i)))]) hx hb d_Y_wordIs_19 rfl hl (by decide) rfl (fun ls hl => ?_)
    refine tp_loop (fun j ls H locs (k : Int32) => ((0 ≤ k.toInt) ∧ (k.toInt + (j : Int) = (Int32.ofNat (tp_len.getD i 0)).toInt)) ∧ lv_has ls 3 [(2, .int k), (0, .ref aY), (1, .ref (tp_ad E (200 + i)))] ∧ va_P (tp_D E) tp_cl ((aY, .inr (1, [.ref aC, .int xc, .int xe, .int xa, .int xw, .int xv])) :: (aC, .inl (tp_ty E 4, 28, .inl fC)) :: fr) H ∧ va_D A ((aY, .inr (1, [.ref aC, .int xc, .int xe, .int xa, .int xw, .int xv])) :: (aC, .inl (tp_ty E 4, 28, .inl fC)) :: fr) ∧ va_S A s.heap H locs) ?_ _ 0 ⟨⟨by decide, sf_kj (sf_len hi).2⟩, tp_lvI hl [0, 1, 2] rfl, hP, hD, hS⟩
    intro j k ls H locs hI ih
    obtain ⟨⟨hk, hj⟩, hl, hP, hD, hS⟩ := hI
    refine lv_iload_n hx hb d_Y_wordIs_20 rfl (lv_at hl 0 rfl) ?_
    refine lv_aload_n hx hb d_Y_wordIs_21 rfl (lv_at hl 2 rfl) ?_
    refine tp_ci (tp_rV (As := []) (rest := [.int k]) ⟨hx, hb, hml, hown, htg⟩ (a_ST_length l E ((aY, .inr (1, [.ref aC, .int xc, .int xe, .int xa, .int xw, .int xv])) :: (aC, .inl (tp_ty E 4, 28, .inl fC)) :: fr) _ i hi ) (⟨callB_of 0 htg (tp_good0 kc_ST_length) rfl rfl rfl (htg _ ki_ST) (htg _ kl_Y_56) ⟨by decide, by decide, by decide +kernel⟩ ⟨Nat.le_of_ble_eq_true rfl, Nat.le_of_ble_eq_true rfl⟩, htg _ km_ST_length, htg _ kv_ST_ST_length⟩) (hK.strO (i := i) hi hS) hK hP hD hS hA rfl hl.1 rfl (Nat.le_of_ble_eq_true rfl) d_Y_wordIs_22 ⟨Nat.le_of_ble_eq_true rfl, Nat.le_of_ble_eq_true rfl⟩) hD hS hA (fun r u H locs hw hP hD hS => ?_)
    subst r
    have hP : va_P (tp_D E) tp_cl ((aY, .inr (1, [.ref aC, .int xc, .int xe, .int xa, .int xw, .int xv])) :: (aC, .inl (tp_ty E 4, 28, .inl fC)) :: fr) H := hP
    have hD : va_D A ((aY, .inr (1, [.ref aC, .int xc, .int xe, .int xa, .int xw, .int xv])) :: (aC, .inl (tp_ty E 4, 28, .inl fC)) :: fr) := hD
    by_cases h3 : (Int32.ofNat (tp_len.getD i 0)) ≤ k
    · refine lv_icmp_ge (tgt := 55) hx hb d_Y_wordIs_25 (by decide) (fun _ => ?_) (fun h => absurd h3 h)
      refine lv_iconst (v := 1) hx hb d_Y_wordIs_55 (by decide) ?_
      exact W.zret (v := 1) hx hb hr rfl (fun t ht hW => ⟨⟨_, (), rfl, trivial, by rw [ht]; exact hP, hD⟩, hS.F ht⟩) hS.2.2 d_Y_wordIs_56
    · refine lv_icmp_ge (tgt := 55) hx hb d_Y_wordIs_25 (by decide) (fun h => absurd h h3) (fun _ => ?_)
      refine lv_aload_n hx hb d_Y_wordIs_28 rfl (lv_at hl 1 rfl) ?_
      refine va_get (D := tp_D E) (ci := 1) (v := .ref aC) (C := qR_Y) (T := qF_Y) (N := 6) hx hb htg qi_Y hown hK.1 hP 0 rfl rfl 0 (by decide) (htg _ kl_Y_9) (fun _ h => h) rfl d_Y_wordIs_29 ?_
      refine lv_aload_n hx hb d_Y_wordIs_32 rfl (lv_at hl 1 rfl) ?_
      refine va_get (D := tp_D E) (ci := 1) (v := .int xw) (C := qR_Y) (T := qF_Y) (N := 6) hx hb htg qi_Y hown hK.1 hP 0 rfl rfl 4 (by decide) (htg _ kl_Y_115) (fun _ h => h) rfl d_Y_wordIs_33 ?_
      refine lv_iload_n hx hb d_Y_wordIs_36 rfl (lv_at hl 0 rfl) ?_
      refine lv_iadd hx hb d_Y_wordIs_37 ?_
      refine va_cald (D := tp_D E) hx hb hK.1 hP 1 4 rfl rfl (sf_wi hv h2 hk h3) d_Y_wordIs_38 ?_
      refine lv_aload_n hx hb d_Y_wordIs_39 rfl (lv_at hl 2 rfl) ?_
      refine lv_iload_n hx hb d_Y_wordIs_40 rfl (lv_at hl 0 rfl) ?_
      refine tp_ci (tp_rV (As := [.int k]) (rest := [.int (fC (xw + k).toNatClampNeg)]) ⟨hx, hb, hml, hown, htg⟩ (a_ST_charAt l E ((aY, .inr (1, [.ref aC, .int xc, .int xe, .int xa, .int xw, .int xv])) :: (aC, .inl (tp_ty E 4, 28, .inl fC)) :: fr) _ i hi k (tp_nn hk) (Int32.not_le.mp h3)) (⟨callB_of 1 htg (tp_good0 kc_ST_charAt) rfl rfl rfl (htg _ ki_ST) (htg _ kl_Y_61) ⟨by decide, by decide, by decide +kernel⟩ ⟨Nat.le_of_ble_eq_true rfl, Nat.le_of_ble_eq_true rfl⟩, htg _ km_ST_charAt, htg _ kv_ST_ST_charAt⟩) (hK.strO (i := i) hi hS) hK hP hD hS hA rfl hl.1 rfl (Nat.le_of_ble_eq_true rfl) d_Y_wordIs_41 ⟨Nat.le_of_ble_eq_true rfl, Nat.le_of_ble_eq_true rfl⟩) hD hS hA (fun r u H locs hw hP hD hS => ?_)
      subst r
      have hP : va_P (tp_D E) tp_cl ((aY, .inr (1, [.ref aC, .int xc, .int xe, .int xa, .int xw, .int xv])) :: (aC, .inl (tp_ty E 4, 28, .inl fC)) :: fr) H := hP
      have hD : va_D A ((aY, .inr (1, [.ref aC, .int xc, .int xe, .int xa, .int xw, .int xv])) :: (aC, .inl (tp_ty E 4, 28, .inl fC)) :: fr) := hD
      by_cases h4 : (fC (xw + k).toNatClampNeg) = ((tp_byt.getD i []).getD k.toNatClampNeg 0)
      · refine lv_icmp_eq (tgt := 49) hx hb d_Y_wordIs_44 (by decide) (fun _ => ?_) (fun h => absurd h4 h)
        refine lv_iinc (k := 0) (v := (k + 1)) (lv' := [(2, .int (k + 1)), (0, .ref aY), (1, .ref (tp_ad E (200 + i)))]) hx hb d_Y_wordIs_49 hl rfl rfl (by decide) rfl (fun ls hl => ?_)
        refine lv_goto (tgt := 20) hx hb d_Y_wordIs_52 (by decide) ?_
        exact ih (j - 1) (k + 1) ls _ _ (sf_jp h3 hj) ⟨⟨sf_k0 hk (Int.le_trans (sf_len hi).1 (by decide)) h3, sf_kd hk (Int.le_trans (sf_len hi).1 (by decide)) h3 hj⟩, tp_lvI hl [0, 1, 2] rfl, hP, hD, hS⟩
      · refine lv_icmp_eq (tgt := 49) hx hb d_Y_wordIs_44 (by decide) (fun h => absurd h h4) (fun _ => ?_)
        refine lv_iconst (v := 0) hx hb d_Y_wordIs_47 (by decide) ?_
        exact W.zret (v := 0) hx hb hr rfl (fun t ht hW => ⟨⟨_, (), rfl, trivial, by rw [ht]; exact hP, hD⟩, hS.F ht⟩) hS.2.2 d_Y_wordIs_48
  · refine lv_icmp_eq (tgt := 18) hx hb d_Y_wordIs_13 (by decide) (fun h => absurd h h2) (fun _ => ?_)
    refine lv_iconst (v := 0) hx hb d_Y_wordIs_16 (by decide) ?_
    exact W.zret (v := 0) hx hb hr rfl (fun t ht hW => ⟨⟨_, (), rfl, trivial, by rw [ht]; exact hP, hD⟩, hS.F ht⟩) hS.2.2 d_Y_wordIs_17
set_option maxHeartbeats 4000000 in
set_option maxRecDepth 100000 in
theorem s_Y_wordAsNumber (l : Launch) (hfl : l.stackTraces = false) (E : tp_Env) (fr : va_W) (sz : Nat) (aY aC : Nat) (xc xe xa xw xv : Int32) (fC : Nat → Int32) (hv : sf_V xw xv) : vx_Met l y_Y_wordAsNumber w_Y_wordAsNumber ({ frames := 7, cells := 1, slots := 6, locals := 116 }) (va_Pc [.ref aY] (tp_in E ((aY, .inr (1, [.ref aC, .int xc, .int xe, .int xa, .int xw, .int xv])) :: (aC, .inl (tp_ty E 4, 28, .inl fC)) :: fr) sz)) (va_Ql (fun r (_ : Unit) => True) (fun _ t => tp_out E (va_A ((aY, .inr (1, [.ref aC, .int xc, .int xe, .int xa, .int xw, .int xv])) :: (aC, .inl (tp_ty E 4, 28, .inl fC)) :: fr) sz) ((aY, .inr (1, [.ref aC, .int xc, .int xe, .int xa, .int xw, .int xv])) :: (aC, .inl (tp_ty E 4, 28, .inl fC)) :: fr) t) (va_A ((aY, .inr (1, [.ref aC, .int xc, .int xe, .int xa, .int xw, .int xv])) :: (aC, .inl (tp_ty E 4, 28, .inl fC)) :: fr) sz)) (vx_X (fun (_ : Int32 × Int32 × Int32) => True) (fun x u t => x = "java/lang/IllegalArgumentException" ∧ tp_out E (va_A ((aY, .inr (1, [.ref aC, .int xc, .int xe, .int xa, .int xw, .int xv])) :: (aC, .inl (tp_ty E 4, 28, .inl fC)) :: fr) sz) ((aY, .inr (1, [.ref aC, .int xc, .int xe, .int u.1, .int u.2.1, .int u.2.2])) :: (aC, .inl (tp_ty E 4, 28, .inl fC)) :: fr) t) (va_A ((aY, .inr (1, [.ref aC, .int xc, .int xe, .int xa, .int xw, .int xv])) :: (aC, .inl (tp_ty E 4, 28, .inl fC)) :: fr) sz)) 1 6 (va_A ((aY, .inr (1, [.ref aC, .int xc, .int xe, .int xa, .int xw, .int xv])) :: (aC, .inl (tp_ty E 4, 28, .inl fC)) :: fr) sz) := by
  refine vx_ofW (cc := b_Y_wordAsNumber) (maxL := 1) (ret := (some .long)) (by decide) rfl ?_
  intro p e s m args below meth c s₁ B hml htab hv
  obtain ⟨rfl, hsz, hP, hK, hD0⟩ := hv
  have hx := B.exec
  have hb := B.bytes
  have hr := B.returns
  have htg : ∀ w ∈ tp_G, w.before ([.ref aY] : List Value).toArray s = true := fun w h => atoms_spec (ws := w_Y_wordAsNumber) B.pre w (List.mem_cons_of_mem _ h)
  have hown : s.vm.findClass "TwoPass$Typed" = some m.cls := findClass_of_methodNamed B.named
  have hlocks := B.notSynchronized
  subst hsz
  have hD := hD0.self (sz := s.heap.size)
  generalize hAe : va_A ((aY, .inr (1, [.ref aC, .int xc, .int xe, .int xa, .int xw, .int xv])) :: (aC, .inl (tp_ty E 4, 28, .inl fC)) :: fr) s.heap.size = A at hD hK ⊢
  have hA : ∀ q : Nat, s.heap.size ≤ q → A q := fun q h => by rw [← hAe]; exact Or.inr h
  have hS : va_S A s.heap s.heap [] := va_S.rf
  have hl := lv_entry ([.ref aY]) (n := 1) (Nat.le_of_ble_eq_true rfl)
  rw [lg_entry_eq]
  generalize (lg_sl ([.ref aY]) ++ List.replicate (1 - (lg_sl ([.ref aY])).length) Slot.unset).toArray = ls at hl ⊢
  have hl : lv_has ls 1 [(0, .ref aY)] := hl
  refine lv_aload_n hx hb d_Y_wordAsNumber_0 rfl (lv_at hl 0 rfl) ?_
  refine va_get (D := tp_D E) (ci := 1) (v := .int xw) (C := qR_Y) (T := qF_Y) (N := 6) hx hb htg qi_Y hown hK.1 hP 0 rfl rfl 4 (by decide) (htg _ kl_Y_115) (fun _ h => h) rfl d_Y_wordAsNumber_1 ?_
  refine lv_iconst (v := 1) hx hb d_Y_wordAsNumber_4 (by decide) ?_
  refine lv_iadd hx hb d_Y_wordAsNumber_5 ?_
  refine lv_aload_n hx hb d_Y_wordAsNumber_6 rfl (lv_at hl 0 rfl) ?_
  refine va_get (D := tp_D E) (ci := 1) (v := .int xv) (C := qR_Y) (T := qF_Y) (N := 6) hx hb htg qi_Y hown hK.1 hP 0 rfl rfl 5 (by decide) (htg _ kl_Y_121) (fun _ h => h) rfl d_Y_wordAsNumber_7 ?_
  by_cases h2 : xv ≤ (xw + 1)
  · refine lv_icmp_ge (tgt := 58) hx hb d_Y_wordAsNumber_10 (by decide) (fun _ => ?_) (fun h => absurd h2 h)
    refine lv_aload_n hx hb d_Y_wordAsNumber_58 rfl (lv_at hl 0 rfl) ?_
    refine va_get (D := tp_D E) (ci := 1) (v := .int xw) (C := qR_Y) (T := qF_Y) (N := 6) hx hb htg qi_Y hown hK.1 hP 0 rfl rfl 4 (by decide) (htg _ kl_Y_115) (fun _ h => h) rfl d_Y_wordAsNumber_59 ?_
    refine lv_aload_n hx hb d_Y_wordAsNumber_62 rfl (lv_at hl 0 rfl) ?_
    refine va_get (D := tp_D E) (ci := 1) (v := .int xv) (C := qR_Y) (T := qF_Y) (N := 6) hx hb htg qi_Y hown hK.1 hP 0 rfl rfl 5 (by decide) (htg _ kl_Y_121) (fun _ h => h) rfl d_Y_wordAsNumber_63 ?_
    by_cases h3 : xv ≤ xw
    · refine lv_icmp_ge (tgt := 99) hx hb d_Y_wordAsNumber_66 (by decide) (fun _ => ?_) (fun h => absurd h3 h)
      refine lv_aload_n hx hb d_Y_wordAsNumber_99 rfl (lv_at hl 0 rfl) ?_
      refine lv_aload_n hx hb d_Y_wordAsNumber_100 rfl (lv_at hl 0 rfl) ?_
      refine va_get (D := tp_D E) (ci := 1) (v := .int xw) (C := qR_Y) (T := qF_Y) (N := 6) hx hb htg qi_Y hown hK.1 hP 0 rfl rfl 4 (by decide) (htg _ kl_Y_115) (fun _ h => h) rfl d_Y_wordAsNumber_101 ?_
      refine lv_bipush (v := 10) hx hb d_Y_wordAsNumber_104 (by decide) ?_
      refine lv_bipush (v := 10) hx hb d_Y_wordAsNumber_106 (by decide) ?_
      refine sf_bl (tp_xV (As := [.int xw, .int 10, .int 10]) (rest := []) ⟨hx, hb, hml, hown, htg⟩ (s_Y_digitsFrom l hfl E fr _ aY aC xc xe xa xw xv fC xw 10 10 hv (sf_V0b hv)) (⟨callB_of 3 htg (tp_good0 kc_Y_digitsFrom) rfl rfl rfl (htg _ ki_Y) (htg _ kl_Y_141) ⟨by decide, by decide, by decide +kernel⟩ ⟨Nat.le_of_ble_eq_true rfl, Nat.le_of_ble_eq_true rfl⟩, htg _ km_Y_digitsFrom, htg _ kp_Y_digitsFrom⟩) (va_recv (ci := 1) (q0 := 0) hK.1 hP rfl rfl) hK hP hD hS hA rfl hl.1 rfl (Nat.le_of_ble_eq_true rfl) d_Y_wordAsNumber_108 ⟨Nat.le_of_ble_eq_true rfl, Nat.le_of_ble_eq_true rfl⟩) hD hS hA (fun ce q xu H locs hpx hP hD hS hce hcv hcl => ?_) (fun rv9 u H locs hw hP hD hS => ?_)
      · have hP : va_P (tp_D E) tp_cl ((aY, .inr (1, [.ref aC, .int xc, .int xe, .int xu.1, .int xu.2.1, .int xu.2.2])) :: (aC, .inl (tp_ty E 4, 28, .inl fC)) :: fr) H := hP
        have hD : va_D A ((aY, .inr (1, [.ref aC, .int xc, .int xe, .int xu.1, .int xu.2.1, .int xu.2.2])) :: (aC, .inl (tp_ty E 4, 28, .inl fC)) :: fr) := hD
        exact vx_out (fun x h => (htab x h).elim) hlocks hce hcv hcl (fun t ht hvm => ⟨(xu.1, xu.2.1, xu.2.2), trivial, ⟨rfl, by rw [ht]; exact hP, hD⟩, hS.F ht⟩) hS.2.2 (Nat.le_of_ble_eq_true rfl) (Nat.le_of_ble_eq_true rfl)
      · have hP : va_P (tp_D E) tp_cl ((aY, .inr (1, [.ref aC, .int xc, .int xe, .int xa, .int xw, .int xv])) :: (aC, .inl (tp_ty E 4, 28, .inl fC)) :: fr) H := hP
        have hD : va_D A ((aY, .inr (1, [.ref aC, .int xc, .int xe, .int xa, .int xw, .int xv])) :: (aC, .inl (tp_ty E 4, 28, .inl fC)) :: fr) := hD
        exact vx_ret (W.lret (v := rv9) hx hb hr (fun t ht hW => ⟨⟨_, (), rfl, trivial, by rw [ht]; exact hP, hD⟩, hS.F ht⟩) hS.2.2 d_Y_wordAsNumber_111)
    · refine lv_icmp_ge (tgt := 99) hx hb d_Y_wordAsNumber_66 (by decide) (fun h => absurd h h3) (fun _ => ?_)
      refine lv_aload_n hx hb d_Y_wordAsNumber_69 rfl (lv_at hl 0 rfl) ?_
      refine va_get (D := tp_D E) (ci := 1) (v := .ref aC) (C := qR_Y) (T := qF_Y) (N := 6) hx hb htg qi_Y hown hK.1 hP 0 rfl rfl 0 (by decide) (htg _ kl_Y_9) (fun _ h => h) rfl d_Y_wordAsNumber_70 ?_
      refine lv_aload_n hx hb d_Y_wordAsNumber_73 rfl (lv_at hl 0 rfl) ?_
      refine va_get (D := tp_D E) (ci := 1) (v := .int xw) (C := qR_Y) (T := qF_Y) (N := 6) hx hb htg qi_Y hown hK.1 hP 0 rfl rfl 4 (by decide) (htg _ kl_Y_115) (fun _ h => h) rfl d_Y_wordAsNumber_74 ?_
      refine va_cald (D := tp_D E) hx hb hK.1 hP 1 4 rfl rfl (sf_Vin hv h3) d_Y_wordAsNumber_77 ?_
      refine lv_bipush (v := 45) hx hb d_Y_wordAsNumber_78 (by decide) ?_
      by_cases h4 : (fC xw.toNatClampNeg) = 45
      · refine lv_icmp_ne (tgt := 99) hx hb d_Y_wordAsNumber_80 (by decide) (fun h => absurd h4 h) (fun _ => ?_)
        refine lv_aload_n hx hb d_Y_wordAsNumber_83 rfl (lv_at hl 0 rfl) ?_
        refine lv_aload_n hx hb d_Y_wordAsNumber_84 rfl (lv_at hl 0 rfl) ?_
        refine va_get (D := tp_D E) (ci := 1) (v := .int xw) (C := qR_Y) (T := qF_Y) (N := 6) hx hb htg qi_Y hown hK.1 hP 0 rfl rfl 4 (by decide) (htg _ kl_Y_115) (fun _ h => h) rfl d_Y_wordAsNumber_85 ?_
        refine lv_iconst (v := 1) hx hb d_Y_wordAsNumber_88 (by decide) ?_
        refine lv_iadd hx hb d_Y_wordAsNumber_89 ?_
        refine lv_bipush (v := 10) hx hb d_Y_wordAsNumber_90 (by decide) ?_
        refine lv_bipush (v := 10) hx hb d_Y_wordAsNumber_92 (by decide) ?_
        refine sf_bl (tp_xV (As := [.int (xw + 1), .int 10, .int 10]) (rest := []) ⟨hx, hb, hml, hown, htg⟩ (s_Y_digitsFrom l hfl E fr _ aY aC xc xe xa xw xv fC (xw + 1) 10 10 hv (sf_V1b hv)) (⟨callB_of 3 htg (tp_good0 kc_Y_digitsFrom) rfl rfl rfl (htg _ ki_Y) (htg _ kl_Y_141) ⟨by decide, by decide, by decide +kernel⟩ ⟨Nat.le_of_ble_eq_true rfl, Nat.le_of_ble_eq_true rfl⟩, htg _ km_Y_digitsFrom, htg _ kp_Y_digitsFrom⟩) (va_recv (ci := 1) (q0 := 0) hK.1 hP rfl rfl) hK hP hD hS hA rfl hl.1 rfl (Nat.le_of_ble_eq_true rfl) d_Y_wordAsNumber_94 ⟨Nat.le_of_ble_eq_true rfl, Nat.le_of_ble_eq_true rfl⟩) hD hS hA (fun ce q xu H locs hpx hP hD hS hce hcv hcl => ?_) (fun rv10 u H locs hw hP hD hS => ?_)
        · have hP : va_P (tp_D E) tp_cl ((aY, .inr (1, [.ref aC, .int xc, .int xe, .int xu.1, .int xu.2.1, .int xu.2.2])) :: (aC, .inl (tp_ty E 4, 28, .inl fC)) :: fr) H := hP
          have hD : va_D A ((aY, .inr (1, [.ref aC, .int xc, .int xe, .int xu.1, .int xu.2.1, .int xu.2.2])) :: (aC, .inl (tp_ty E 4, 28, .inl fC)) :: fr) := hD
          exact vx_out (fun x h => (htab x h).elim) hlocks hce hcv hcl (fun t ht hvm => ⟨(xu.1, xu.2.1, xu.2.2), trivial, ⟨rfl, by rw [ht]; exact hP, hD⟩, hS.F ht⟩) hS.2.2 (Nat.le_of_ble_eq_true rfl) (Nat.le_of_ble_eq_true rfl)
        · have hP : va_P (tp_D E) tp_cl ((aY, .inr (1, [.ref aC, .int xc, .int xe, .int xa, .int xw, .int xv])) :: (aC, .inl (tp_ty E 4, 28, .inl fC)) :: fr) H := hP
          have hD : va_D A ((aY, .inr (1, [.ref aC, .int xc, .int xe, .int xa, .int xw, .int xv])) :: (aC, .inl (tp_ty E 4, 28, .inl fC)) :: fr) := hD
          refine lv_lneg hx hb d_Y_wordAsNumber_97 ?_
          exact vx_ret (W.lret (v := (-rv10)) hx hb hr (fun t ht hW => ⟨⟨_, (), rfl, trivial, by rw [ht]; exact hP, hD⟩, hS.F ht⟩) hS.2.2 d_Y_wordAsNumber_98)
      · refine lv_icmp_ne (tgt := 99) hx hb d_Y_wordAsNumber_80 (by decide) (fun _ => ?_) (fun h => absurd h h4)
        refine lv_aload_n hx hb d_Y_wordAsNumber_99 rfl (lv_at hl 0 rfl) ?_
        refine lv_aload_n hx hb d_Y_wordAsNumber_100 rfl (lv_at hl 0 rfl) ?_
        refine va_get (D := tp_D E) (ci := 1) (v := .int xw) (C := qR_Y) (T := qF_Y) (N := 6) hx hb htg qi_Y hown hK.1 hP 0 rfl rfl 4 (by decide) (htg _ kl_Y_115) (fun _ h => h) rfl d_Y_wordAsNumber_101 ?_
        refine lv_bipush (v := 10) hx hb d_Y_wordAsNumber_104 (by decide) ?_
        refine lv_bipush (v := 10) hx hb d_Y_wordAsNumber_106 (by decide) ?_
        refine sf_bl (tp_xV (As := [.int xw, .int 10, .int 10]) (rest := []) ⟨hx, hb, hml, hown, htg⟩ (s_Y_digitsFrom l hfl E fr _ aY aC xc xe xa xw xv fC xw 10 10 hv (sf_V0b hv)) (⟨callB_of 3 htg (tp_good0 kc_Y_digitsFrom) rfl rfl rfl (htg _ ki_Y) (htg _ kl_Y_141) ⟨by decide, by decide, by decide +kernel⟩ ⟨Nat.le_of_ble_eq_true rfl, Nat.le_of_ble_eq_true rfl⟩, htg _ km_Y_digitsFrom, htg _ kp_Y_digitsFrom⟩) (va_recv (ci := 1) (q0 := 0) hK.1 hP rfl rfl) hK hP hD hS hA rfl hl.1 rfl (Nat.le_of_ble_eq_true rfl) d_Y_wordAsNumber_108 ⟨Nat.le_of_ble_eq_true rfl, Nat.le_of_ble_eq_true rfl⟩) hD hS hA (fun ce q xu H locs hpx hP hD hS hce hcv hcl => ?_) (fun rv11 u H locs hw hP hD hS => ?_)
        · have hP : va_P (tp_D E) tp_cl ((aY, .inr (1, [.ref aC, .int xc, .int xe, .int xu.1, .int xu.2.1, .int xu.2.2])) :: (aC, .inl (tp_ty E 4, 28, .inl fC)) :: fr) H := hP
          have hD : va_D A ((aY, .inr (1, [.ref aC, .int xc, .int xe, .int xu.1, .int xu.2.1, .int xu.2.2])) :: (aC, .inl (tp_ty E 4, 28, .inl fC)) :: fr) := hD
          exact vx_out (fun x h => (htab x h).elim) hlocks hce hcv hcl (fun t ht hvm => ⟨(xu.1, xu.2.1, xu.2.2), trivial, ⟨rfl, by rw [ht]; exact hP, hD⟩, hS.F ht⟩) hS.2.2 (Nat.le_of_ble_eq_true rfl) (Nat.le_of_ble_eq_true rfl)
        · have hP : va_P (tp_D E) tp_cl ((aY, .inr (1, [.ref aC, .int xc, .int xe, .int xa, .int xw, .int xv])) :: (aC, .inl (tp_ty E 4, 28, .inl fC)) :: fr) H := hP
          have hD : va_D A ((aY, .inr (1, [.ref aC, .int xc, .int xe, .int xa, .int xw, .int xv])) :: (aC, .inl (tp_ty E 4, 28, .inl fC)) :: fr) := hD
          exact vx_ret (W.lret (v := rv11) hx hb hr (fun t ht hW => ⟨⟨_, (), rfl, trivial, by rw [ht]; exact hP, hD⟩, hS.F ht⟩) hS.2.2 d_Y_wordAsNumber_111)
  · refine lv_icmp_ge (tgt := 58) hx hb d_Y_wordAsNumber_10 (by decide) (fun h => absurd h h2) (fun _ => ?_)
    refine lv_aload_n hx hb d_Y_wordAsNumber_13 rfl (lv_at hl 0 rfl) ?_
    refine va_get (D := tp_D E) (ci := 1) (v := .ref aC) (C := qR_Y) (T := qF_Y) (N := 6) hx hb htg qi_Y hown hK.1 hP 0 rfl rfl 0 (by decide) (htg _ kl_Y_9) (fun _ h => h) rfl d_Y_wordAsNumber_14 ?_
    refine lv_aload_n hx hb d_Y_wordAsNumber_17 rfl (lv_at hl 0 rfl) ?_
    refine va_get (D := tp_D E) (ci := 1) (v := .int xw) (C := qR_Y) (T := qF_Y) (N := 6) hx hb htg qi_Y hown hK.1 hP 0 rfl rfl 4 (by decide) (htg _ kl_Y_115) (fun _ h => h) rfl d_Y_wordAsNumber_18 ?_
    refine va_cald (D := tp_D E) hx hb hK.1 hP 1 4 rfl rfl (sf_V1in hv h2).1 d_Y_wordAsNumber_21 ?_
    refine lv_bipush (v := 48) hx hb d_Y_wordAsNumber_22 (by decide) ?_
    by_cases h3 : (fC xw.toNatClampNeg) = 48
    · refine lv_icmp_ne (tgt := 58) hx hb d_Y_wordAsNumber_24 (by decide) (fun h => absurd h3 h) (fun _ => ?_)
      refine lv_aload_n hx hb d_Y_wordAsNumber_27 rfl (lv_at hl 0 rfl) ?_
      refine va_get (D := tp_D E) (ci := 1) (v := .ref aC) (C := qR_Y) (T := qF_Y) (N := 6) hx hb htg qi_Y hown hK.1 hP 0 rfl rfl 0 (by decide) (htg _ kl_Y_9) (fun _ h => h) rfl d_Y_wordAsNumber_28 ?_
      refine lv_aload_n hx hb d_Y_wordAsNumber_31 rfl (lv_at hl 0 rfl) ?_
      refine va_get (D := tp_D E) (ci := 1) (v := .int xw) (C := qR_Y) (T := qF_Y) (N := 6) hx hb htg qi_Y hown hK.1 hP 0 rfl rfl 4 (by decide) (htg _ kl_Y_115) (fun _ h => h) rfl d_Y_wordAsNumber_32 ?_
      refine lv_iconst (v := 1) hx hb d_Y_wordAsNumber_35 (by decide) ?_
      refine lv_iadd hx hb d_Y_wordAsNumber_36 ?_
      refine va_cald (D := tp_D E) hx hb hK.1 hP 1 4 rfl rfl (sf_V1in hv h2).2 d_Y_wordAsNumber_37 ?_
      refine lv_bipush (v := 120) hx hb d_Y_wordAsNumber_38 (by decide) ?_
      by_cases h4 : (fC (xw + 1).toNatClampNeg) = 120
      · refine lv_icmp_ne (tgt := 58) hx hb d_Y_wordAsNumber_40 (by decide) (fun h => absurd h4 h) (fun _ => ?_)
        refine lv_aload_n hx hb d_Y_wordAsNumber_43 rfl (lv_at hl 0 rfl) ?_
        refine lv_aload_n hx hb d_Y_wordAsNumber_44 rfl (lv_at hl 0 rfl) ?_
        refine va_get (D := tp_D E) (ci := 1) (v := .int xw) (C := qR_Y) (T := qF_Y) (N := 6) hx hb htg qi_Y hown hK.1 hP 0 rfl rfl 4 (by decide) (htg _ kl_Y_115) (fun _ h => h) rfl d_Y_wordAsNumber_45 ?_
        refine lv_iconst (v := 2) hx hb d_Y_wordAsNumber_48 (by decide) ?_
        refine lv_iadd hx hb d_Y_wordAsNumber_49 ?_
        refine lv_bipush (v := 16) hx hb d_Y_wordAsNumber_50 (by decide) ?_
        refine lv_bipush (v := 8) hx hb d_Y_wordAsNumber_52 (by decide) ?_
        refine sf_bl (tp_xV (As := [.int (xw + 2), .int 16, .int 8]) (rest := []) ⟨hx, hb, hml, hown, htg⟩ (s_Y_digitsFrom l hfl E fr _ aY aC xc xe xa xw xv fC (xw + 2) 16 8 hv (sf_V2b hv)) (⟨callB_of 3 htg (tp_good0 kc_Y_digitsFrom) rfl rfl rfl (htg _ ki_Y) (htg _ kl_Y_141) ⟨by decide, by decide, by decide +kernel⟩ ⟨Nat.le_of_ble_eq_true rfl, Nat.le_of_ble_eq_true rfl⟩, htg _ km_Y_digitsFrom, htg _ kp_Y_digitsFrom⟩) (va_recv (ci := 1) (q0 := 0) hK.1 hP rfl rfl) hK hP hD hS hA rfl hl.1 rfl (Nat.le_of_ble_eq_true rfl) d_Y_wordAsNumber_54 ⟨Nat.le_of_ble_eq_true rfl, Nat.le_of_ble_eq_true rfl⟩) hD hS hA (fun ce q xu H locs hpx hP hD hS hce hcv hcl => ?_) (fun rv12 u H locs hw hP hD hS => ?_)
        · have hP : va_P (tp_D E) tp_cl ((aY, .inr (1, [.ref aC, .int xc, .int xe, .int xu.1, .int xu.2.1, .int xu.2.2])) :: (aC, .inl (tp_ty E 4, 28, .inl fC)) :: fr) H := hP
          have hD : va_D A ((aY, .inr (1, [.ref aC, .int xc, .int xe, .int xu.1, .int xu.2.1, .int xu.2.2])) :: (aC, .inl (tp_ty E 4, 28, .inl fC)) :: fr) := hD
          exact vx_out (fun x h => (htab x h).elim) hlocks hce hcv hcl (fun t ht hvm => ⟨(xu.1, xu.2.1, xu.2.2), trivial, ⟨rfl, by rw [ht]; exact hP, hD⟩, hS.F ht⟩) hS.2.2 (Nat.le_of_ble_eq_true rfl) (Nat.le_of_ble_eq_true rfl)
        · have hP : va_P (tp_D E) tp_cl ((aY, .inr (1, [.ref aC, .int xc, .int xe, .int xa, .int xw, .int xv])) :: (aC, .inl (tp_ty E 4, 28, .inl fC)) :: fr) H := hP
          have hD : va_D A ((aY, .inr (1, [.ref aC, .int xc, .int xe, .int xa, .int xw, .int xv])) :: (aC, .inl (tp_ty E 4, 28, .inl fC)) :: fr) := hD
          exact vx_ret (W.lret (v := rv12) hx hb hr (fun t ht hW => ⟨⟨_, (), rfl, trivial, by rw [ht]; exact hP, hD⟩, hS.F ht⟩) hS.2.2 d_Y_wordAsNumber_57)
      · refine lv_icmp_ne (tgt := 58) hx hb d_Y_wordAsNumber_40 (by decide) (fun _ => ?_) (fun h => absurd h h4)
        refine lv_aload_n hx hb d_Y_wordAsNumber_58 rfl (lv_at hl 0 rfl) ?_
        refine va_get (D := tp_D E) (ci := 1) (v := .int xw) (C := qR_Y) (T := qF_Y) (N := 6) hx hb htg qi_Y hown hK.1 hP 0 rfl rfl 4 (by decide) (htg _ kl_Y_115) (fun _ h => h) rfl d_Y_wordAsNumber_59 ?_
        refine lv_aload_n hx hb d_Y_wordAsNumber_62 rfl (lv_at hl 0 rfl) ?_
        refine va_get (D := tp_D E) (ci := 1) (v := .int xv) (C := qR_Y) (T := qF_Y) (N := 6) hx hb htg qi_Y hown hK.1 hP 0 rfl rfl 5 (by decide) (htg _ kl_Y_121) (fun _ h => h) rfl d_Y_wordAsNumber_63 ?_
        by_cases h5 : xv ≤ xw
        · refine lv_icmp_ge (tgt := 99) hx hb d_Y_wordAsNumber_66 (by decide) (fun _ => ?_) (fun h => absurd h5 h)
          refine lv_aload_n hx hb d_Y_wordAsNumber_99 rfl (lv_at hl 0 rfl) ?_
          refine lv_aload_n hx hb d_Y_wordAsNumber_100 rfl (lv_at hl 0 rfl) ?_
          refine va_get (D := tp_D E) (ci := 1) (v := .int xw) (C := qR_Y) (T := qF_Y) (N := 6) hx hb htg qi_Y hown hK.1 hP 0 rfl rfl 4 (by decide) (htg _ kl_Y_115) (fun _ h => h) rfl d_Y_wordAsNumber_101 ?_
          refine lv_bipush (v := 10) hx hb d_Y_wordAsNumber_104 (by decide) ?_
          refine lv_bipush (v := 10) hx hb d_Y_wordAsNumber_106 (by decide) ?_
          refine sf_bl (tp_xV (As := [.int xw, .int 10, .int 10]) (rest := []) ⟨hx, hb, hml, hown, htg⟩ (s_Y_digitsFrom l hfl E fr _ aY aC xc xe xa xw xv fC xw 10 10 hv (sf_V0b hv)) (⟨callB_of 3 htg (tp_good0 kc_Y_digitsFrom) rfl rfl rfl (htg _ ki_Y) (htg _ kl_Y_141) ⟨by decide, by decide, by decide +kernel⟩ ⟨Nat.le_of_ble_eq_true rfl, Nat.le_of_ble_eq_true rfl⟩, htg _ km_Y_digitsFrom, htg _ kp_Y_digitsFrom⟩) (va_recv (ci := 1) (q0 := 0) hK.1 hP rfl rfl) hK hP hD hS hA rfl hl.1 rfl (Nat.le_of_ble_eq_true rfl) d_Y_wordAsNumber_108 ⟨Nat.le_of_ble_eq_true rfl, Nat.le_of_ble_eq_true rfl⟩) hD hS hA (fun ce q xu H locs hpx hP hD hS hce hcv hcl => ?_) (fun rv13 u H locs hw hP hD hS => ?_)
          · have hP : va_P (tp_D E) tp_cl ((aY, .inr (1, [.ref aC, .int xc, .int xe, .int xu.1, .int xu.2.1, .int xu.2.2])) :: (aC, .inl (tp_ty E 4, 28, .inl fC)) :: fr) H := hP
            have hD : va_D A ((aY, .inr (1, [.ref aC, .int xc, .int xe, .int xu.1, .int xu.2.1, .int xu.2.2])) :: (aC, .inl (tp_ty E 4, 28, .inl fC)) :: fr) := hD
            exact vx_out (fun x h => (htab x h).elim) hlocks hce hcv hcl (fun t ht hvm => ⟨(xu.1, xu.2.1, xu.2.2), trivial, ⟨rfl, by rw [ht]; exact hP, hD⟩, hS.F ht⟩) hS.2.2 (Nat.le_of_ble_eq_true rfl) (Nat.le_of_ble_eq_true rfl)
          · have hP : va_P (tp_D E) tp_cl ((aY, .inr (1, [.ref aC, .int xc, .int xe, .int xa, .int xw, .int xv])) :: (aC, .inl (tp_ty E 4, 28, .inl fC)) :: fr) H := hP
            have hD : va_D A ((aY, .inr (1, [.ref aC, .int xc, .int xe, .int xa, .int xw, .int xv])) :: (aC, .inl (tp_ty E 4, 28, .inl fC)) :: fr) := hD
            exact vx_ret (W.lret (v := rv13) hx hb hr (fun t ht hW => ⟨⟨_, (), rfl, trivial, by rw [ht]; exact hP, hD⟩, hS.F ht⟩) hS.2.2 d_Y_wordAsNumber_111)
        · refine lv_icmp_ge (tgt := 99) hx hb d_Y_wordAsNumber_66 (by decide) (fun h => absurd h h5) (fun _ => ?_)
          refine lv_aload_n hx hb d_Y_wordAsNumber_69 rfl (lv_at hl 0 rfl) ?_
          refine va_get (D := tp_D E) (ci := 1) (v := .ref aC) (C := qR_Y) (T := qF_Y) (N := 6) hx hb htg qi_Y hown hK.1 hP 0 rfl rfl 0 (by decide) (htg _ kl_Y_9) (fun _ h => h) rfl d_Y_wordAsNumber_70 ?_
          refine lv_aload_n hx hb d_Y_wordAsNumber_73 rfl (lv_at hl 0 rfl) ?_
          refine va_get (D := tp_D E) (ci := 1) (v := .int xw) (C := qR_Y) (T := qF_Y) (N := 6) hx hb htg qi_Y hown hK.1 hP 0 rfl rfl 4 (by decide) (htg _ kl_Y_115) (fun _ h => h) rfl d_Y_wordAsNumber_74 ?_
          refine va_cald (D := tp_D E) hx hb hK.1 hP 1 4 rfl rfl (sf_V1in hv h2).1 d_Y_wordAsNumber_77 ?_
          refine lv_bipush (v := 45) hx hb d_Y_wordAsNumber_78 (by decide) ?_
          by_cases h6 : (fC xw.toNatClampNeg) = 45
          · refine lv_icmp_ne (tgt := 99) hx hb d_Y_wordAsNumber_80 (by decide) (fun h => absurd h6 h) (fun _ => ?_)
            refine lv_aload_n hx hb d_Y_wordAsNumber_83 rfl (lv_at hl 0 rfl) ?_
            refine lv_aload_n hx hb d_Y_wordAsNumber_84 rfl (lv_at hl 0 rfl) ?_
            refine va_get (D := tp_D E) (ci := 1) (v := .int xw) (C := qR_Y) (T := qF_Y) (N := 6) hx hb htg qi_Y hown hK.1 hP 0 rfl rfl 4 (by decide) (htg _ kl_Y_115) (fun _ h => h) rfl d_Y_wordAsNumber_85 ?_
            refine lv_iconst (v := 1) hx hb d_Y_wordAsNumber_88 (by decide) ?_
            refine lv_iadd hx hb d_Y_wordAsNumber_89 ?_
            refine lv_bipush (v := 10) hx hb d_Y_wordAsNumber_90 (by decide) ?_
            refine lv_bipush (v := 10) hx hb d_Y_wordAsNumber_92 (by decide) ?_
            refine sf_bl (tp_xV (As := [.int (xw + 1), .int 10, .int 10]) (rest := []) ⟨hx, hb, hml, hown, htg⟩ (s_Y_digitsFrom l hfl E fr _ aY aC xc xe xa xw xv fC (xw + 1) 10 10 hv (sf_V1b hv)) (⟨callB_of 3 htg (tp_good0 kc_Y_digitsFrom) rfl rfl rfl (htg _ ki_Y) (htg _ kl_Y_141) ⟨by decide, by decide, by decide +kernel⟩ ⟨Nat.le_of_ble_eq_true rfl, Nat.le_of_ble_eq_true rfl⟩, htg _ km_Y_digitsFrom, htg _ kp_Y_digitsFrom⟩) (va_recv (ci := 1) (q0 := 0) hK.1 hP rfl rfl) hK hP hD hS hA rfl hl.1 rfl (Nat.le_of_ble_eq_true rfl) d_Y_wordAsNumber_94 ⟨Nat.le_of_ble_eq_true rfl, Nat.le_of_ble_eq_true rfl⟩) hD hS hA (fun ce q xu H locs hpx hP hD hS hce hcv hcl => ?_) (fun rv14 u H locs hw hP hD hS => ?_)
            · have hP : va_P (tp_D E) tp_cl ((aY, .inr (1, [.ref aC, .int xc, .int xe, .int xu.1, .int xu.2.1, .int xu.2.2])) :: (aC, .inl (tp_ty E 4, 28, .inl fC)) :: fr) H := hP
              have hD : va_D A ((aY, .inr (1, [.ref aC, .int xc, .int xe, .int xu.1, .int xu.2.1, .int xu.2.2])) :: (aC, .inl (tp_ty E 4, 28, .inl fC)) :: fr) := hD
              exact vx_out (fun x h => (htab x h).elim) hlocks hce hcv hcl (fun t ht hvm => ⟨(xu.1, xu.2.1, xu.2.2), trivial, ⟨rfl, by rw [ht]; exact hP, hD⟩, hS.F ht⟩) hS.2.2 (Nat.le_of_ble_eq_true rfl) (Nat.le_of_ble_eq_true rfl)
            · have hP : va_P (tp_D E) tp_cl ((aY, .inr (1, [.ref aC, .int xc, .int xe, .int xa, .int xw, .int xv])) :: (aC, .inl (tp_ty E 4, 28, .inl fC)) :: fr) H := hP
              have hD : va_D A ((aY, .inr (1, [.ref aC, .int xc, .int xe, .int xa, .int xw, .int xv])) :: (aC, .inl (tp_ty E 4, 28, .inl fC)) :: fr) := hD
              refine lv_lneg hx hb d_Y_wordAsNumber_97 ?_
              exact vx_ret (W.lret (v := (-rv14)) hx hb hr (fun t ht hW => ⟨⟨_, (), rfl, trivial, by rw [ht]; exact hP, hD⟩, hS.F ht⟩) hS.2.2 d_Y_wordAsNumber_98)
          · refine lv_icmp_ne (tgt := 99) hx hb d_Y_wordAsNumber_80 (by decide) (fun _ => ?_) (fun h => absurd h h6)
            refine lv_aload_n hx hb d_Y_wordAsNumber_99 rfl (lv_at hl 0 rfl) ?_
            refine lv_aload_n hx hb d_Y_wordAsNumber_100 rfl (lv_at hl 0 rfl) ?_
            refine va_get (D := tp_D E) (ci := 1) (v := .int xw) (C := qR_Y) (T := qF_Y) (N := 6) hx hb htg qi_Y hown hK.1 hP 0 rfl rfl 4 (by decide) (htg _ kl_Y_115) (fun _ h => h) rfl d_Y_wordAsNumber_101 ?_
            refine lv_bipush (v := 10) hx hb d_Y_wordAsNumber_104 (by decide) ?_
            refine lv_bipush (v := 10) hx hb d_Y_wordAsNumber_106 (by decide) ?_
            refine sf_bl (tp_xV (As := [.int xw, .int 10, .int 10]) (rest := []) ⟨hx, hb, hml, hown, htg⟩ (s_Y_digitsFrom l hfl E fr _ aY aC xc xe xa xw xv fC xw 10 10 hv (sf_V0b hv)) (⟨callB_of 3 htg (tp_good0 kc_Y_digitsFrom) rfl rfl rfl (htg _ ki_Y) (htg _ kl_Y_141) ⟨by decide, by decide, by decide +kernel⟩ ⟨Nat.le_of_ble_eq_true rfl, Nat.le_of_ble_eq_true rfl⟩, htg _ km_Y_digitsFrom, htg _ kp_Y_digitsFrom⟩) (va_recv (ci := 1) (q0 := 0) hK.1 hP rfl rfl) hK hP hD hS hA rfl hl.1 rfl (Nat.le_of_ble_eq_true rfl) d_Y_wordAsNumber_108 ⟨Nat.le_of_ble_eq_true rfl, Nat.le_of_ble_eq_true rfl⟩) hD hS hA (fun ce q xu H locs hpx hP hD hS hce hcv hcl => ?_) (fun rv15 u H locs hw hP hD hS => ?_)
            · have hP : va_P (tp_D E) tp_cl ((aY, .inr (1, [.ref aC, .int xc, .int xe, .int xu.1, .int xu.2.1, .int xu.2.2])) :: (aC, .inl (tp_ty E 4, 28, .inl fC)) :: fr) H := hP
              have hD : va_D A ((aY, .inr (1, [.ref aC, .int xc, .int xe, .int xu.1, .int xu.2.1, .int xu.2.2])) :: (aC, .inl (tp_ty E 4, 28, .inl fC)) :: fr) := hD
              exact vx_out (fun x h => (htab x h).elim) hlocks hce hcv hcl (fun t ht hvm => ⟨(xu.1, xu.2.1, xu.2.2), trivial, ⟨rfl, by rw [ht]; exact hP, hD⟩, hS.F ht⟩) hS.2.2 (Nat.le_of_ble_eq_true rfl) (Nat.le_of_ble_eq_true rfl)
            · have hP : va_P (tp_D E) tp_cl ((aY, .inr (1, [.ref aC, .int xc, .int xe, .int xa, .int xw, .int xv])) :: (aC, .inl (tp_ty E 4, 28, .inl fC)) :: fr) H := hP
              have hD : va_D A ((aY, .inr (1, [.ref aC, .int xc, .int xe, .int xa, .int xw, .int xv])) :: (aC, .inl (tp_ty E 4, 28, .inl fC)) :: fr) := hD
              exact vx_ret (W.lret (v := rv15) hx hb hr (fun t ht hW => ⟨⟨_, (), rfl, trivial, by rw [ht]; exact hP, hD⟩, hS.F ht⟩) hS.2.2 d_Y_wordAsNumber_111)
    · refine lv_icmp_ne (tgt := 58) hx hb d_Y_wordAsNumber_24 (by decide) (fun _ => ?_) (fun h => absurd h h3)
      refine lv_aload_n hx hb d_Y_wordAsNumber_58 rfl (lv_at hl 0 rfl) ?_
      refine va_get (D := tp_D E) (ci := 1) (v := .int xw) (C := qR_Y) (T := qF_Y) (N := 6) hx hb htg qi_Y hown hK.1 hP 0 rfl rfl 4 (by decide) (htg _ kl_Y_115) (fun _ h => h) rfl d_Y_wordAsNumber_59 ?_
      refine lv_aload_n hx hb d_Y_wordAsNumber_62 rfl (lv_at hl 0 rfl) ?_
      refine va_get (D := tp_D E) (ci := 1) (v := .int xv) (C := qR_Y) (T := qF_Y) (N := 6) hx hb htg qi_Y hown hK.1 hP 0 rfl rfl 5 (by decide) (htg _ kl_Y_121) (fun _ h => h) rfl d_Y_wordAsNumber_63 ?_
      by_cases h4 : xv ≤ xw
      · refine lv_icmp_ge (tgt := 99) hx hb d_Y_wordAsNumber_66 (by decide) (fun _ => ?_) (fun h => absurd h4 h)
        refine lv_aload_n hx hb d_Y_wordAsNumber_99 rfl (lv_at hl 0 rfl) ?_
        refine lv_aload_n hx hb d_Y_wordAsNumber_100 rfl (lv_at hl 0 rfl) ?_
        refine va_get (D := tp_D E) (ci := 1) (v := .int xw) (C := qR_Y) (T := qF_Y) (N := 6) hx hb htg qi_Y hown hK.1 hP 0 rfl rfl 4 (by decide) (htg _ kl_Y_115) (fun _ h => h) rfl d_Y_wordAsNumber_101 ?_
        refine lv_bipush (v := 10) hx hb d_Y_wordAsNumber_104 (by decide) ?_
        refine lv_bipush (v := 10) hx hb d_Y_wordAsNumber_106 (by decide) ?_
        refine sf_bl (tp_xV (As := [.int xw, .int 10, .int 10]) (rest := []) ⟨hx, hb, hml, hown, htg⟩ (s_Y_digitsFrom l hfl E fr _ aY aC xc xe xa xw xv fC xw 10 10 hv (sf_V0b hv)) (⟨callB_of 3 htg (tp_good0 kc_Y_digitsFrom) rfl rfl rfl (htg _ ki_Y) (htg _ kl_Y_141) ⟨by decide, by decide, by decide +kernel⟩ ⟨Nat.le_of_ble_eq_true rfl, Nat.le_of_ble_eq_true rfl⟩, htg _ km_Y_digitsFrom, htg _ kp_Y_digitsFrom⟩) (va_recv (ci := 1) (q0 := 0) hK.1 hP rfl rfl) hK hP hD hS hA rfl hl.1 rfl (Nat.le_of_ble_eq_true rfl) d_Y_wordAsNumber_108 ⟨Nat.le_of_ble_eq_true rfl, Nat.le_of_ble_eq_true rfl⟩) hD hS hA (fun ce q xu H locs hpx hP hD hS hce hcv hcl => ?_) (fun rv16 u H locs hw hP hD hS => ?_)
        · have hP : va_P (tp_D E) tp_cl ((aY, .inr (1, [.ref aC, .int xc, .int xe, .int xu.1, .int xu.2.1, .int xu.2.2])) :: (aC, .inl (tp_ty E 4, 28, .inl fC)) :: fr) H := hP
          have hD : va_D A ((aY, .inr (1, [.ref aC, .int xc, .int xe, .int xu.1, .int xu.2.1, .int xu.2.2])) :: (aC, .inl (tp_ty E 4, 28, .inl fC)) :: fr) := hD
          exact vx_out (fun x h => (htab x h).elim) hlocks hce hcv hcl (fun t ht hvm => ⟨(xu.1, xu.2.1, xu.2.2), trivial, ⟨rfl, by rw [ht]; exact hP, hD⟩, hS.F ht⟩) hS.2.2 (Nat.le_of_ble_eq_true rfl) (Nat.le_of_ble_eq_true rfl)
        · have hP : va_P (tp_D E) tp_cl ((aY, .inr (1, [.ref aC, .int xc, .int xe, .int xa, .int xw, .int xv])) :: (aC, .inl (tp_ty E 4, 28, .inl fC)) :: fr) H := hP
          have hD : va_D A ((aY, .inr (1, [.ref aC, .int xc, .int xe, .int xa, .int xw, .int xv])) :: (aC, .inl (tp_ty E 4, 28, .inl fC)) :: fr) := hD
          exact vx_ret (W.lret (v := rv16) hx hb hr (fun t ht hW => ⟨⟨_, (), rfl, trivial, by rw [ht]; exact hP, hD⟩, hS.F ht⟩) hS.2.2 d_Y_wordAsNumber_111)
      · refine lv_icmp_ge (tgt := 99) hx hb d_Y_wordAsNumber_66 (by decide) (fun h => absurd h h4) (fun _ => ?_)
        refine lv_aload_n hx hb d_Y_wordAsNumber_69 rfl (lv_at hl 0 rfl) ?_
        refine va_get (D := tp_D E) (ci := 1) (v := .ref aC) (C := qR_Y) (T := qF_Y) (N := 6) hx hb htg qi_Y hown hK.1 hP 0 rfl rfl 0 (by decide) (htg _ kl_Y_9) (fun _ h => h) rfl d_Y_wordAsNumber_70 ?_
        refine lv_aload_n hx hb d_Y_wordAsNumber_73 rfl (lv_at hl 0 rfl) ?_
        refine va_get (D := tp_D E) (ci := 1) (v := .int xw) (C := qR_Y) (T := qF_Y) (N := 6) hx hb htg qi_Y hown hK.1 hP 0 rfl rfl 4 (by decide) (htg _ kl_Y_115) (fun _ h => h) rfl d_Y_wordAsNumber_74 ?_
        refine va_cald (D := tp_D E) hx hb hK.1 hP 1 4 rfl rfl (sf_V1in hv h2).1 d_Y_wordAsNumber_77 ?_
        refine lv_bipush (v := 45) hx hb d_Y_wordAsNumber_78 (by decide) ?_
        by_cases h5 : (fC xw.toNatClampNeg) = 45
        · refine lv_icmp_ne (tgt := 99) hx hb d_Y_wordAsNumber_80 (by decide) (fun h => absurd h5 h) (fun _ => ?_)
          refine lv_aload_n hx hb d_Y_wordAsNumber_83 rfl (lv_at hl 0 rfl) ?_
          refine lv_aload_n hx hb d_Y_wordAsNumber_84 rfl (lv_at hl 0 rfl) ?_
          refine va_get (D := tp_D E) (ci := 1) (v := .int xw) (C := qR_Y) (T := qF_Y) (N := 6) hx hb htg qi_Y hown hK.1 hP 0 rfl rfl 4 (by decide) (htg _ kl_Y_115) (fun _ h => h) rfl d_Y_wordAsNumber_85 ?_
          refine lv_iconst (v := 1) hx hb d_Y_wordAsNumber_88 (by decide) ?_
          refine lv_iadd hx hb d_Y_wordAsNumber_89 ?_
          refine lv_bipush (v := 10) hx hb d_Y_wordAsNumber_90 (by decide) ?_
          refine lv_bipush (v := 10) hx hb d_Y_wordAsNumber_92 (by decide) ?_
          refine sf_bl (tp_xV (As := [.int (xw + 1), .int 10, .int 10]) (rest := []) ⟨hx, hb, hml, hown, htg⟩ (s_Y_digitsFrom l hfl E fr _ aY aC xc xe xa xw xv fC (xw + 1) 10 10 hv (sf_V1b hv)) (⟨callB_of 3 htg (tp_good0 kc_Y_digitsFrom) rfl rfl rfl (htg _ ki_Y) (htg _ kl_Y_141) ⟨by decide, by decide, by decide +kernel⟩ ⟨Nat.le_of_ble_eq_true rfl, Nat.le_of_ble_eq_true rfl⟩, htg _ km_Y_digitsFrom, htg _ kp_Y_digitsFrom⟩) (va_recv (ci := 1) (q0 := 0) hK.1 hP rfl rfl) hK hP hD hS hA rfl hl.1 rfl (Nat.le_of_ble_eq_true rfl) d_Y_wordAsNumber_94 ⟨Nat.le_of_ble_eq_true rfl, Nat.le_of_ble_eq_true rfl⟩) hD hS hA (fun ce q xu H locs hpx hP hD hS hce hcv hcl => ?_) (fun rv17 u H locs hw hP hD hS => ?_)
          · have hP : va_P (tp_D E) tp_cl ((aY, .inr (1, [.ref aC, .int xc, .int xe, .int xu.1, .int xu.2.1, .int xu.2.2])) :: (aC, .inl (tp_ty E 4, 28, .inl fC)) :: fr) H := hP
            have hD : va_D A ((aY, .inr (1, [.ref aC, .int xc, .int xe, .int xu.1, .int xu.2.1, .int xu.2.2])) :: (aC, .inl (tp_ty E 4, 28, .inl fC)) :: fr) := hD
            exact vx_out (fun x h => (htab x h).elim) hlocks hce hcv hcl (fun t ht hvm => ⟨(xu.1, xu.2.1, xu.2.2), trivial, ⟨rfl, by rw [ht]; exact hP, hD⟩, hS.F ht⟩) hS.2.2 (Nat.le_of_ble_eq_true rfl) (Nat.le_of_ble_eq_true rfl)
          · have hP : va_P (tp_D E) tp_cl ((aY, .inr (1, [.ref aC, .int xc, .int xe, .int xa, .int xw, .int xv])) :: (aC, .inl (tp_ty E 4, 28, .inl fC)) :: fr) H := hP
            have hD : va_D A ((aY, .inr (1, [.ref aC, .int xc, .int xe, .int xa, .int xw, .int xv])) :: (aC, .inl (tp_ty E 4, 28, .inl fC)) :: fr) := hD
            refine lv_lneg hx hb d_Y_wordAsNumber_97 ?_
            exact vx_ret (W.lret (v := (-rv17)) hx hb hr (fun t ht hW => ⟨⟨_, (), rfl, trivial, by rw [ht]; exact hP, hD⟩, hS.F ht⟩) hS.2.2 d_Y_wordAsNumber_98)
        · refine lv_icmp_ne (tgt := 99) hx hb d_Y_wordAsNumber_80 (by decide) (fun _ => ?_) (fun h => absurd h h5)
          refine lv_aload_n hx hb d_Y_wordAsNumber_99 rfl (lv_at hl 0 rfl) ?_
          refine lv_aload_n hx hb d_Y_wordAsNumber_100 rfl (lv_at hl 0 rfl) ?_
          refine va_get (D := tp_D E) (ci := 1) (v := .int xw) (C := qR_Y) (T := qF_Y) (N := 6) hx hb htg qi_Y hown hK.1 hP 0 rfl rfl 4 (by decide) (htg _ kl_Y_115) (fun _ h => h) rfl d_Y_wordAsNumber_101 ?_
          refine lv_bipush (v := 10) hx hb d_Y_wordAsNumber_104 (by decide) ?_
          refine lv_bipush (v := 10) hx hb d_Y_wordAsNumber_106 (by decide) ?_
          refine sf_bl (tp_xV (As := [.int xw, .int 10, .int 10]) (rest := []) ⟨hx, hb, hml, hown, htg⟩ (s_Y_digitsFrom l hfl E fr _ aY aC xc xe xa xw xv fC xw 10 10 hv (sf_V0b hv)) (⟨callB_of 3 htg (tp_good0 kc_Y_digitsFrom) rfl rfl rfl (htg _ ki_Y) (htg _ kl_Y_141) ⟨by decide, by decide, by decide +kernel⟩ ⟨Nat.le_of_ble_eq_true rfl, Nat.le_of_ble_eq_true rfl⟩, htg _ km_Y_digitsFrom, htg _ kp_Y_digitsFrom⟩) (va_recv (ci := 1) (q0 := 0) hK.1 hP rfl rfl) hK hP hD hS hA rfl hl.1 rfl (Nat.le_of_ble_eq_true rfl) d_Y_wordAsNumber_108 ⟨Nat.le_of_ble_eq_true rfl, Nat.le_of_ble_eq_true rfl⟩) hD hS hA (fun ce q xu H locs hpx hP hD hS hce hcv hcl => ?_) (fun rv18 u H locs hw hP hD hS => ?_)
          · have hP : va_P (tp_D E) tp_cl ((aY, .inr (1, [.ref aC, .int xc, .int xe, .int xu.1, .int xu.2.1, .int xu.2.2])) :: (aC, .inl (tp_ty E 4, 28, .inl fC)) :: fr) H := hP
            have hD : va_D A ((aY, .inr (1, [.ref aC, .int xc, .int xe, .int xu.1, .int xu.2.1, .int xu.2.2])) :: (aC, .inl (tp_ty E 4, 28, .inl fC)) :: fr) := hD
            exact vx_out (fun x h => (htab x h).elim) hlocks hce hcv hcl (fun t ht hvm => ⟨(xu.1, xu.2.1, xu.2.2), trivial, ⟨rfl, by rw [ht]; exact hP, hD⟩, hS.F ht⟩) hS.2.2 (Nat.le_of_ble_eq_true rfl) (Nat.le_of_ble_eq_true rfl)
          · have hP : va_P (tp_D E) tp_cl ((aY, .inr (1, [.ref aC, .int xc, .int xe, .int xa, .int xw, .int xv])) :: (aC, .inl (tp_ty E 4, 28, .inl fC)) :: fr) H := hP
            have hD : va_D A ((aY, .inr (1, [.ref aC, .int xc, .int xe, .int xa, .int xw, .int xv])) :: (aC, .inl (tp_ty E 4, 28, .inl fC)) :: fr) := hD
            exact vx_ret (W.lret (v := rv18) hx hb hr (fun t ht hW => ⟨⟨_, (), rfl, trivial, by rw [ht]; exact hP, hD⟩, hS.F ht⟩) hS.2.2 d_Y_wordAsNumber_111)
set_option maxHeartbeats 4000000 in
set_option maxRecDepth 100000 in
theorem s_Y_nextNumber (l : Launch) (hfl : l.stackTraces = false) (E : tp_Env) (fr : va_W) (sz : Nat) (aY aC : Nat) (xc xe xa xw xv : Int32) (fC : Nat → Int32) (xl xm : Int64) (hy : sf_Y xe xa) : vx_Met l y_Y_nextNumber w_Y_nextNumber ({ frames := 8, cells := 2, slots := 12, locals := 136 }) (va_Pc [.ref aY, .long xl, .long xm] (tp_in E ((aY, .inr (1, [.ref aC, .int xc, .int xe, .int xa, .int xw, .int xv])) :: (aC, .inl (tp_ty E 4, 28, .inl fC)) :: fr) sz)) (va_Ql (fun r (u : Int32 × Int32 × Int32) => sf_Y xe u.1) (fun u t => tp_out E (va_A ((aY, .inr (1, [.ref aC, .int xc, .int xe, .int xa, .int xw, .int xv])) :: (aC, .inl (tp_ty E 4, 28, .inl fC)) :: fr) sz) ((aY, .inr (1, [.ref aC, .int xc, .int xe, .int u.1, .int u.2.1, .int u.2.2])) :: (aC, .inl (tp_ty E 4, 28, .inl fC)) :: fr) t) (va_A ((aY, .inr (1, [.ref aC, .int xc, .int xe, .int xa, .int xw, .int xv])) :: (aC, .inl (tp_ty E 4, 28, .inl fC)) :: fr) sz)) (vx_X (fun (_ : Int32 × Int32 × Int32) => True) (fun x u t => x = "java/lang/IllegalArgumentException" ∧ tp_out E (va_A ((aY, .inr (1, [.ref aC, .int xc, .int xe, .int xa, .int xw, .int xv])) :: (aC, .inl (tp_ty E 4, 28, .inl fC)) :: fr) sz) ((aY, .inr (1, [.ref aC, .int xc, .int xe, .int u.1, .int u.2.1, .int u.2.2])) :: (aC, .inl (tp_ty E 4, 28, .inl fC)) :: fr) t) (va_A ((aY, .inr (1, [.ref aC, .int xc, .int xe, .int xa, .int xw, .int xv])) :: (aC, .inl (tp_ty E 4, 28, .inl fC)) :: fr) sz)) 2 12 (va_A ((aY, .inr (1, [.ref aC, .int xc, .int xe, .int xa, .int xw, .int xv])) :: (aC, .inl (tp_ty E 4, 28, .inl fC)) :: fr) sz) := by
  refine vx_ofW (cc := b_Y_nextNumber) (maxL := 7) (ret := (some .long)) (by decide) rfl ?_
  intro p e s m args below meth c s₁ B hml htab hv
  obtain ⟨rfl, hsz, hP, hK, hD0⟩ := hv
  have hx := B.exec
  have hb := B.bytes
  have hr := B.returns
  have htg : ∀ w ∈ tp_G, w.before ([.ref aY, .long xl, .long xm] : List Value).toArray s = true := fun w h => atoms_spec (ws := w_Y_nextNumber) B.pre w (List.mem_cons_of_mem _ h)
  have hown : s.vm.findClass "TwoPass$Typed" = some m.cls := findClass_of_methodNamed B.named
  have hlocks := B.notSynchronized
  subst hsz
  have hD := hD0.self (sz := s.heap.size)
  generalize hAe : va_A ((aY, .inr (1, [.ref aC, .int xc, .int xe, .int xa, .int xw, .int xv])) :: (aC, .inl (tp_ty E 4, 28, .inl fC)) :: fr) s.heap.size = A at hD hK ⊢
  have hA : ∀ q : Nat, s.heap.size ≤ q → A q := fun q h => by rw [← hAe]; exact Or.inr h
  have hS : va_S A s.heap s.heap [] := va_S.rf
  have hl := lv_entry ([.ref aY, .long xl, .long xm]) (n := 7) (Nat.le_of_ble_eq_true rfl)
  rw [lg_entry_eq]
  generalize (lg_sl ([.ref aY, .long xl, .long xm]) ++ List.replicate (7 - (lg_sl ([.ref aY, .long xl, .long xm])).length) Slot.unset).toArray = ls at hl ⊢
  have hl : lv_has ls 7 [(0, .ref aY), (1, .long xl), (3, .long xm)] := hl
  refine lv_aload_n hx hb d_Y_nextNumber_0 rfl (lv_at hl 0 rfl) ?_
  refine tp_cv (tp_rV (As := []) (rest := []) ⟨hx, hb, hml, hown, htg⟩ (s_Y_nextWord l E fr _ aY aC xc xe xa xw xv fC hy) (⟨callB_of 0 htg (tp_good0 kc_Y_nextWord) rfl rfl rfl (htg _ ki_Y) (htg _ kl_Y_28) ⟨by decide, by decide, by decide +kernel⟩ ⟨Nat.le_of_ble_eq_true rfl, Nat.le_of_ble_eq_true rfl⟩, htg _ km_Y_nextWord, htg _ kp_Y_nextWord⟩) (va_recv (ci := 1) (q0 := 0) hK.1 hP rfl rfl) hK hP hD hS hA rfl hl.1 rfl (Nat.le_of_ble_eq_true rfl) d_Y_nextNumber_1 ⟨Nat.le_of_ble_eq_true rfl, Nat.le_of_ble_eq_true rfl⟩) hD hS hA (fun u H locs hw hP hD hS => ?_)
  obtain ⟨at19, ws19, we19⟩ := u
  have hw19 : sf_W xe ws19 we19 at19 := hw
  have hP : va_P (tp_D E) tp_cl ((aY, .inr (1, [.ref aC, .int xc, .int xe, .int at19, .int ws19, .int we19])) :: (aC, .inl (tp_ty E 4, 28, .inl fC)) :: fr) H := hP
  have hD : va_D A ((aY, .inr (1, [.ref aC, .int xc, .int xe, .int at19, .int ws19, .int we19])) :: (aC, .inl (tp_ty E 4, 28, .inl fC)) :: fr) := hD
  refine lv_aload_n hx hb d_Y_nextNumber_4 rfl (lv_at hl 0 rfl) ?_
  refine sf_bl (tp_xV (As := []) (rest := []) ⟨hx, hb, hml, hown, htg⟩ (s_Y_wordAsNumber l hfl E fr _ aY aC xc xe at19 ws19 we19 fC (sf_WV hw19)) (⟨callB_of 0 htg (tp_good0 kc_Y_wordAsNumber) rfl rfl rfl (htg _ ki_Y) (htg _ kl_Y_109) ⟨by decide, by decide, by decide +kernel⟩ ⟨Nat.le_of_ble_eq_true rfl, Nat.le_of_ble_eq_true rfl⟩, htg _ km_Y_wordAsNumber, htg _ kp_Y_wordAsNumber⟩) (va_recv (ci := 1) (q0 := 0) hK.1 hP rfl rfl) hK hP hD hS hA rfl hl.1 rfl (Nat.le_of_ble_eq_true rfl) d_Y_nextNumber_5 ⟨Nat.le_of_ble_eq_true rfl, Nat.le_of_ble_eq_true rfl⟩) hD hS hA (fun ce q xu H locs hpx hP hD hS hce hcv hcl => ?_) (fun rv20 u H locs hw hP hD hS => ?_)
  · have hP : va_P (tp_D E) tp_cl ((aY, .inr (1, [.ref aC, .int xc, .int xe, .int xu.1, .int xu.2.1, .int xu.2.2])) :: (aC, .inl (tp_ty E 4, 28, .inl fC)) :: fr) H := hP
    have hD : va_D A ((aY, .inr (1, [.ref aC, .int xc, .int xe, .int xu.1, .int xu.2.1, .int xu.2.2])) :: (aC, .inl (tp_ty E 4, 28, .inl fC)) :: fr) := hD
    exact vx_out (fun x h => (htab x h).elim) hlocks hce hcv hcl (fun t ht hvm => ⟨(xu.1, xu.2.1, xu.2.2), trivial, ⟨rfl, by rw [ht]; exact hP, hD⟩, hS.F ht⟩) hS.2.2 (Nat.le_of_ble_eq_true rfl) (Nat.le_of_ble_eq_true rfl)
  · have hP : va_P (tp_D E) tp_cl ((aY, .inr (1, [.ref aC, .int xc, .int xe, .int at19, .int ws19, .int we19])) :: (aC, .inl (tp_ty E 4, 28, .inl fC)) :: fr) H := hP
    have hD : va_D A ((aY, .inr (1, [.ref aC, .int xc, .int xe, .int at19, .int ws19, .int we19])) :: (aC, .inl (tp_ty E 4, 28, .inl fC)) :: fr) := hD
    refine lv_lstore (lv' := [(5, .long rv20), (0, .ref aY), (1, .long xl), (3, .long xm)]) hx hb d_Y_nextNumber_8 hl (by decide) rfl (fun ls hl => ?_)
    refine lv_lload hx hb d_Y_nextNumber_10 (lv_at hl 0 rfl) ?_
    refine lv_lload_n hx hb d_Y_nextNumber_12 rfl (lv_at hl 2 rfl) ?_
    by_cases h2 : rv20 < xl
    · refine W.lcmp hx hb d_Y_nextNumber_13 ?_
      refine lv_if_lt (tgt := 24) hx hb d_Y_nextNumber_14 (by decide) (fun _ => ?_) (fun h => absurd (tp_lc_lt_t h2) h)
      exact vx_throw0 (own := "TwoPass$Typed") (cls := "java/lang/IllegalArgumentException") (names := ["java/lang/RuntimeException", "java/lang/Exception"]) (ik := 69) (ic := 71) hx hb hfl hown (by decide +kernel) (by decide +kernel) (htg _ kl_Y_69) (htg _ kx_IllegalArgumentException) (kxa_Y_71 htg hK.2.2.2.1) kxg_Y_71 hK.2.1 hK.2.2.1 hS (hl.1.trans hml.symm) d_Y_nextNumber_24 d_Y_nextNumber_27 d_Y_nextNumber_28 d_Y_nextNumber_31 (fun x h => (htab x h).elim) (Nat.le_of_ble_eq_true rfl) (Nat.le_of_ble_eq_true rfl) (Nat.le_of_ble_eq_true rfl) (Nat.le_of_ble_eq_true rfl) hlocks (fun t hvm hz hq => ⟨(at19, ws19, we19), trivial, ⟨rfl, va_P.kept hP (fun k q hk => hq _ (vx_lt hP hk)), hD⟩, ⟨Nat.le_trans hS.1 hz, fun q h1 h2 => (hq q (Nat.lt_of_lt_of_le h1 hS.1)).trans (hS.2.1 q h1 h2)⟩⟩) hS.2.2 (Nat.le_of_ble_eq_true rfl) (Nat.le_of_ble_eq_true rfl)
    · refine W.lcmp hx hb d_Y_nextNumber_13 ?_
      refine lv_if_lt (tgt := 24) hx hb d_Y_nextNumber_14 (by decide) (fun h => absurd h (tp_lc_lt_f h2)) (fun _ => ?_)
      refine lv_lload hx hb d_Y_nextNumber_17 (lv_at hl 0 rfl) ?_
      refine lv_lload_n hx hb d_Y_nextNumber_19 rfl (lv_at hl 3 rfl) ?_
      by_cases h3 : xm < rv20
      · refine W.lcmp hx hb d_Y_nextNumber_20 ?_
        refine lv_if_le (tgt := 32) hx hb d_Y_nextNumber_21 (by decide) (fun h => absurd h (tp_lc_le_f h3)) (fun _ => ?_)
        exact vx_throw0 (own := "TwoPass$Typed") (cls := "java/lang/IllegalArgumentException") (names := ["java/lang/RuntimeException", "java/lang/Exception"]) (ik := 69) (ic := 71) hx hb hfl hown (by decide +kernel) (by decide +kernel) (htg _ kl_Y_69) (htg _ kx_IllegalArgumentException) (kxa_Y_71 htg hK.2.2.2.1) kxg_Y_71 hK.2.1 hK.2.2.1 hS (hl.1.trans hml.symm) d_Y_nextNumber_24 d_Y_nextNumber_27 d_Y_nextNumber_28 d_Y_nextNumber_31 (fun x h => (htab x h).elim) (Nat.le_of_ble_eq_true rfl) (Nat.le_of_ble_eq_true rfl) (Nat.le_of_ble_eq_true rfl) (Nat.le_of_ble_eq_true rfl) hlocks (fun t hvm hz hq => ⟨(at19, ws19, we19), trivial, ⟨rfl, va_P.kept hP (fun k q hk => hq _ (vx_lt hP hk)), hD⟩, ⟨Nat.le_trans hS.1 hz, fun q h1 h2 => (hq q (Nat.lt_of_lt_of_le h1 hS.1)).trans (hS.2.1 q h1 h2)⟩⟩) hS.2.2 (Nat.le_of_ble_eq_true rfl) (Nat.le_of_ble_eq_true rfl)
      · refine W.lcmp hx hb d_Y_nextNumber_20 ?_
        refine lv_if_le (tgt := 32) hx hb d_Y_nextNumber_21 (by decide) (fun _ => ?_) (fun h => absurd (tp_lc_le_t h3) h)
        refine lv_lload hx hb d_Y_nextNumber_32 (lv_at hl 0 rfl) ?_
        exact tp_widen (k := 2) (n := 12) (Nat.le_of_ble_eq_true rfl) (Nat.le_of_ble_eq_true rfl) (vx_ret (W.lret (v := rv20) hx hb hr (fun t ht hW => ⟨⟨_, (at19, ws19, we19), rfl, (sf_WY hw19), by rw [ht]; exact hP, hD⟩, hS.F ht⟩) hS.2.2 d_Y_nextNumber_34))
set_option maxHeartbeats 4000000 in
set_option maxRecDepth 100000 in
theorem s_Y_passMark (l : Launch) (hfl : l.stackTraces = false) (E : tp_Env) (fr : va_W) (sz : Nat) (aY aC : Nat) (xc xe xa xw xv : Int32) (fC : Nat → Int32) (xk : Int32) (hy : sf_Y xe xa) : vx_Met l y_Y_passMark w_Y_passMark ({ frames := 6, cells := 1, slots := 6, locals := 89 }) (va_Pc [.ref aY, .int xk] (tp_in E ((aY, .inr (1, [.ref aC, .int xc, .int xe, .int xa, .int xw, .int xv])) :: (aC, .inl (tp_ty E 4, 28, .inl fC)) :: fr) sz)) (va_Qv (fun (u : Int32 × Int32 × Int32) => sf_Y xe u.1) (fun u t => tp_out E (va_A ((aY, .inr (1, [.ref aC, .int xc, .int xe, .int xa, .int xw, .int xv])) :: (aC, .inl (tp_ty E 4, 28, .inl fC)) :: fr) sz) ((aY, .inr (1, [.ref aC, .int xc, .int xe, .int u.1, .int u.2.1, .int u.2.2])) :: (aC, .inl (tp_ty E 4, 28, .inl fC)) :: fr) t) (va_A ((aY, .inr (1, [.ref aC, .int xc, .int xe, .int xa, .int xw, .int xv])) :: (aC, .inl (tp_ty E 4, 28, .inl fC)) :: fr) sz)) (vx_X (fun (_ : Int32 × Int32 × Int32) => True) (fun x u t => x = "java/lang/IllegalArgumentException" ∧ tp_out E (va_A ((aY, .inr (1, [.ref aC, .int xc, .int xe, .int xa, .int xw, .int xv])) :: (aC, .inl (tp_ty E 4, 28, .inl fC)) :: fr) sz) ((aY, .inr (1, [.ref aC, .int xc, .int xe, .int u.1, .int u.2.1, .int u.2.2])) :: (aC, .inl (tp_ty E 4, 28, .inl fC)) :: fr) t) (va_A ((aY, .inr (1, [.ref aC, .int xc, .int xe, .int xa, .int xw, .int xv])) :: (aC, .inl (tp_ty E 4, 28, .inl fC)) :: fr) sz)) 1 6 (va_A ((aY, .inr (1, [.ref aC, .int xc, .int xe, .int xa, .int xw, .int xv])) :: (aC, .inl (tp_ty E 4, 28, .inl fC)) :: fr) sz) := by
  refine vx_ofW (cc := b_Y_passMark) (maxL := 2) (ret := none) (by decide) rfl ?_
  intro p e s m args below meth c s₁ B hml htab hv
  obtain ⟨rfl, hsz, hP, hK, hD0⟩ := hv
  have hx := B.exec
  have hb := B.bytes
  have hr := B.returns
  have htg : ∀ w ∈ tp_G, w.before ([.ref aY, .int xk] : List Value).toArray s = true := fun w h => atoms_spec (ws := w_Y_passMark) B.pre w (List.mem_cons_of_mem _ h)
  have hown : s.vm.findClass "TwoPass$Typed" = some m.cls := findClass_of_methodNamed B.named
  have hlocks := B.notSynchronized
  subst hsz
  have hD := hD0.self (sz := s.heap.size)
  generalize hAe : va_A ((aY, .inr (1, [.ref aC, .int xc, .int xe, .int xa, .int xw, .int xv])) :: (aC, .inl (tp_ty E 4, 28, .inl fC)) :: fr) s.heap.size = A at hD hK ⊢
  have hA : ∀ q : Nat, s.heap.size ≤ q → A q := fun q h => by rw [← hAe]; exact Or.inr h
  have hS : va_S A s.heap s.heap [] := va_S.rf
  have hl := lv_entry ([.ref aY, .int xk]) (n := 2) (Nat.le_of_ble_eq_true rfl)
  rw [lg_entry_eq]
  generalize (lg_sl ([.ref aY, .int xk]) ++ List.replicate (2 - (lg_sl ([.ref aY, .int xk])).length) Slot.unset).toArray = ls at hl ⊢
  have hl : lv_has ls 2 [(0, .ref aY), (1, .int xk)] := hl
  refine lv_aload_n hx hb d_Y_passMark_0 rfl (lv_at hl 0 rfl) ?_
  refine lv_iload_n hx hb d_Y_passMark_1 rfl (lv_at hl 1 rfl) ?_
  refine tp_ci (tp_rV (As := [.int xk]) (rest := []) ⟨hx, hb, hml, hown, htg⟩ (s_Y_nextIs l E fr _ aY aC xc xe xa xw xv fC xk hy) (⟨callB_of 1 htg (tp_good0 kc_Y_nextIs) rfl rfl rfl (htg _ ki_Y) (htg _ kl_Y_31) ⟨by decide, by decide, by decide +kernel⟩ ⟨Nat.le_of_ble_eq_true rfl, Nat.le_of_ble_eq_true rfl⟩, htg _ km_Y_nextIs, htg _ kp_Y_nextIs⟩) (va_recv (ci := 1) (q0 := 0) hK.1 hP rfl rfl) hK hP hD hS hA rfl hl.1 rfl (Nat.le_of_ble_eq_true rfl) d_Y_passMark_2 ⟨Nat.le_of_ble_eq_true rfl, Nat.le_of_ble_eq_true rfl⟩) hD hS hA (fun ni22 u H locs hw hP hD hS => ?_)
  have hn21 : (ni22 = 1 ∧ ¬ xe ≤ xa) ∨ ni22 = 0 := hw
  have hP : va_P (tp_D E) tp_cl ((aY, .inr (1, [.ref aC, .int xc, .int xe, .int xa, .int xw, .int xv])) :: (aC, .inl (tp_ty E 4, 28, .inl fC)) :: fr) H := hP
  have hD : va_D A ((aY, .inr (1, [.ref aC, .int xc, .int xe, .int xa, .int xw, .int xv])) :: (aC, .inl (tp_ty E 4, 28, .inl fC)) :: fr) := hD
  rcases hn21 with ⟨rfl, hn21l⟩ | rfl
  · refine lv_if_ne (tgt := 16) hx hb d_Y_passMark_5 (by decide) (fun _ => ?_) (fun h => absurd h (by decide))
    refine lv_aload_n hx hb d_Y_passMark_16 rfl (lv_at hl 0 rfl) ?_
    refine lv_dup hx hb d_Y_passMark_17 rfl ?_
    refine va_get (D := tp_D E) (ci := 1) (v := .int xa) (C := qR_Y) (T := qF_Y) (N := 6) hx hb htg qi_Y hown hK.1 hP 0 rfl rfl 3 (by decide) (htg _ kl_Y_22) (fun _ h => h) rfl d_Y_passMark_18 ?_
    refine lv_iconst (v := 1) hx hb d_Y_passMark_21 (by decide) ?_
    refine lv_iadd hx hb d_Y_passMark_22 ?_
    refine va_put (D := tp_D E) (ci := 1) (v := .int (xa + 1)) (ty := .int) (C := qR_Y) (T := qF_Y) (N := 6) hx hb htg qi_Y qt_Y qt_Y_ok qn_Y hown hK.1 hP hD hS 0 rfl rfl 3 (by decide) (htg _ kl_Y_22) (fun _ h => h) rfl (by decide +kernel) rfl rfl (Nat.le_of_ble_eq_true rfl) d_Y_passMark_23 (fun H locs hP hD hS => ?_)
    have hP : va_P (tp_D E) tp_cl ((aY, .inr (1, [.ref aC, .int xc, .int xe, .int (xa + 1), .int xw, .int xv])) :: (aC, .inl (tp_ty E 4, 28, .inl fC)) :: fr) H := hP
    have hD : va_D A ((aY, .inr (1, [.ref aC, .int xc, .int xe, .int (xa + 1), .int xw, .int xv])) :: (aC, .inl (tp_ty E 4, 28, .inl fC)) :: fr) := hD
    refine lv_aload_n hx hb d_Y_passMark_26 rfl (lv_at hl 0 rfl) ?_
    refine tp_cv (tp_rV (As := []) (rest := []) ⟨hx, hb, hml, hown, htg⟩ (s_Y_skipBlanks l E fr _ aY aC xc xe (xa + 1) xw xv fC (sf_Yi hy hn21l)) (⟨callB_of 0 htg (tp_good0 kc_Y_skipBlanks) rfl rfl rfl (htg _ ki_Y) (htg _ kl_Y_112) ⟨by decide, by decide, by decide +kernel⟩ ⟨Nat.le_of_ble_eq_true rfl, Nat.le_of_ble_eq_true rfl⟩, htg _ km_Y_skipBlanks, htg _ kp_Y_skipBlanks⟩) (va_recv (ci := 1) (q0 := 0) hK.1 hP rfl rfl) hK hP hD hS hA rfl hl.1 rfl (Nat.le_of_ble_eq_true rfl) d_Y_passMark_27 ⟨Nat.le_of_ble_eq_true rfl, Nat.le_of_ble_eq_true rfl⟩) hD hS hA (fun at23 H locs hw hP hD hS => ?_)
    obtain ⟨hy24, hy24l⟩ : sf_Y xe at23 ∧ (xa + 1).toInt ≤ at23.toInt := hw
    have hP : va_P (tp_D E) tp_cl ((aY, .inr (1, [.ref aC, .int xc, .int xe, .int at23, .int xw, .int xv])) :: (aC, .inl (tp_ty E 4, 28, .inl fC)) :: fr) H := hP
    have hD : va_D A ((aY, .inr (1, [.ref aC, .int xc, .int xe, .int at23, .int xw, .int xv])) :: (aC, .inl (tp_ty E 4, 28, .inl fC)) :: fr) := hD
    exact tp_widen (k := 1) (n := 6) (Nat.le_of_ble_eq_true rfl) (Nat.le_of_ble_eq_true rfl) (vx_ret (W.vret hx hb hr (fun t ht hW => ⟨⟨(at23, xw, xv), rfl, hy24, by rw [ht]; exact hP, hD⟩, hS.F ht⟩) hS.2.2 d_Y_passMark_30))
  · refine lv_if_ne (tgt := 16) hx hb d_Y_passMark_5 (by decide) (fun h => absurd (by decide) h) (fun _ => ?_)
    exact vx_throw0 (own := "TwoPass$Typed") (cls := "java/lang/IllegalArgumentException") (names := ["java/lang/RuntimeException", "java/lang/Exception"]) (ik := 69) (ic := 71) hx hb hfl hown (by decide +kernel) (by decide +kernel) (htg _ kl_Y_69) (htg _ kx_IllegalArgumentException) (kxa_Y_71 htg hK.2.2.2.1) kxg_Y_71 hK.2.1 hK.2.2.1 hS (hl.1.trans hml.symm) d_Y_passMark_8 d_Y_passMark_11 d_Y_passMark_12 d_Y_passMark_15 (fun x h => (htab x h).elim) (Nat.le_of_ble_eq_true rfl) (Nat.le_of_ble_eq_true rfl) (Nat.le_of_ble_eq_true rfl) (Nat.le_of_ble_eq_true rfl) hlocks (fun t hvm hz hq => ⟨(xa, xw, xv), trivial, ⟨rfl, va_P.kept hP (fun k q hk => hq _ (vx_lt hP hk)), hD⟩, ⟨Nat.le_trans hS.1 hz, fun q h1 h2 => (hq q (Nat.lt_of_lt_of_le h1 hS.1)).trans (hS.2.1 q h1 h2)⟩⟩) hS.2.2 (Nat.le_of_ble_eq_true rfl) (Nat.le_of_ble_eq_true rfl)
set_option maxHeartbeats 4000000 in
set_option maxRecDepth 100000 in
theorem s_Y_wordAsOperation (l : Launch) (hfl : l.stackTraces = false) (E : tp_Env) (fr : va_W) (sz : Nat) (aY aC : Nat) (xc xe xa xw xv : Int32) (fC : Nat → Int32) (hv : sf_V xw xv) : vx_Met l y_Y_wordAsOperation w_Y_wordAsOperation ({ frames := 6, cells := 1, slots := 6, locals := 107 }) (va_Pc [.ref aY] (tp_in E ((aY, .inr (1, [.ref aC, .int xc, .int xe, .int xa, .int xw, .int xv])) :: (aC, .inl (tp_ty E 4, 28, .inl fC)) :: fr) sz)) (va_Qr (fun (u : Nat) => u < 47) (fun u q t => q = (fun (u : Nat) => tp_ad E u) u ∧ tp_out E (va_A ((aY, .inr (1, [.ref aC, .int xc, .int xe, .int xa, .int xw, .int xv])) :: (aC, .inl (tp_ty E 4, 28, .inl fC)) :: fr) sz) ((aY, .inr (1, [.ref aC, .int xc, .int xe, .int xa, .int xw, .int xv])) :: (aC, .inl (tp_ty E 4, 28, .inl fC)) :: fr) t) (va_A ((aY, .inr (1, [.ref aC, .int xc, .int xe, .int xa, .int xw, .int xv])) :: (aC, .inl (tp_ty E 4, 28, .inl fC)) :: fr) sz)) (vx_X (fun (_ : Int32 × Int32 × Int32) => True) (fun x u t => x = "java/lang/IllegalArgumentException" ∧ tp_out E (va_A ((aY, .inr (1, [.ref aC, .int xc, .int xe, .int xa, .int xw, .int xv])) :: (aC, .inl (tp_ty E 4, 28, .inl fC)) :: fr) sz) ((aY, .inr (1, [.ref aC, .int xc, .int xe, .int u.1, .int u.2.1, .int u.2.2])) :: (aC, .inl (tp_ty E 4, 28, .inl fC)) :: fr) t) (va_A ((aY, .inr (1, [.ref aC, .int xc, .int xe, .int xa, .int xw, .int xv])) :: (aC, .inl (tp_ty E 4, 28, .inl fC)) :: fr) sz)) 1 6 (va_A ((aY, .inr (1, [.ref aC, .int xc, .int xe, .int xa, .int xw, .int xv])) :: (aC, .inl (tp_ty E 4, 28, .inl fC)) :: fr) sz) := by
  refine vx_ofW (cc := b_Y_wordAsOperation) (maxL := 2) (ret := (some (.object "TwoPass$Operation"))) (by decide) rfl ?_
  intro p e s m args below meth c s₁ B hml htab hv
  obtain ⟨rfl, hsz, hP, hK, hD0⟩ := hv
  have hx := B.exec
  have hb := B.bytes
  have hr := B.returns
  have htg : ∀ w ∈ tp_G, w.before ([.ref aY] : List Value).toArray s = true := fun w h => atoms_spec (ws := w_Y_wordAsOperation) B.pre w (List.mem_cons_of_mem _ h)
  have hown : s.vm.findClass "TwoPass$Typed" = some m.cls := findClass_of_methodNamed B.named
  have hlocks := B.notSynchronized
  subst hsz
  have hD := hD0.self (sz := s.heap.size)
  generalize hAe : va_A ((aY, .inr (1, [.ref aC, .int xc, .int xe, .int xa, .int xw, .int xv])) :: (aC, .inl (tp_ty E 4, 28, .inl fC)) :: fr) s.heap.size = A at hD hK ⊢
  have hA : ∀ q : Nat, s.heap.size ≤ q → A q := fun q h => by rw [← hAe]; exact Or.inr h
  have hS : va_S A s.heap s.heap [] := va_S.rf
  have hl := lv_entry ([.ref aY]) (n := 2) (Nat.le_of_ble_eq_true rfl)
  rw [lg_entry_eq]
  generalize (lg_sl ([.ref aY]) ++ List.replicate (2 - (lg_sl ([.ref aY])).length) Slot.unset).toArray = ls at hl ⊢
  have hl : lv_has ls 2 [(0, .ref aY)] := hl
  refine lv_iconst (v := 0) hx hb d_Y_wordAsOperation_0 (by decide) ?_
  refine lv_istore_n (lv' := [(1, .int 0), (0, .ref aY)]) hx hb d_Y_wordAsOperation_1 rfl hl (by decide) rfl (fun ls hl => ?_)
  refine tp_loop (fun j ls H locs (k : Int32) => ((0 ≤ k.toInt) ∧ (k.toInt + (j : Int) = 47)) ∧ lv_has ls 2 [(1, .int k), (0, .ref aY)] ∧ va_P (tp_D E) tp_cl ((aY, .inr (1, [.ref aC, .int xc, .int xe, .int xa, .int xw, .int xv])) :: (aC, .inl (tp_ty E 4, 28, .inl fC)) :: fr) H ∧ va_D A ((aY, .inr (1, [.ref aC, .int xc, .int xe, .int xa, .int xw, .int xv])) :: (aC, .inl (tp_ty E 4, 28, .inl fC)) :: fr) ∧ va_S A s.heap H locs) ?_ _ 0 ⟨⟨by decide, show (0 : Int32).toInt + ((47 : Nat) : Int) = 47 from by decide⟩, tp_lvI hl [0, 1] rfl, hP, hD, hS⟩
  intro j k ls H locs hI ih
  obtain ⟨⟨hk0, hj⟩, hl, hP, hD, hS⟩ := hI
  refine lv_iload_n hx hb d_Y_wordAsOperation_2 rfl (lv_at hl 0 rfl) ?_
  refine va_getsN (v := .ref (tp_ad E 101)) hx hb hK.opsZ hS hown (hK.2.2.2.1.use kf_Y_124) (fun _ h => h) d_Y_wordAsOperation_3 ?_
  refine va_tlen (v := 47) hx hb hK.opsT hS (by decide) d_Y_wordAsOperation_6 ?_
  by_cases h2 : 47 ≤ k
  · refine lv_icmp_ge (tgt := 37) hx hb d_Y_wordAsOperation_7 (by decide) (fun _ => ?_) (fun h => absurd h2 h)
    exact vx_throw0 (own := "TwoPass$Typed") (cls := "java/lang/IllegalArgumentException") (names := ["java/lang/RuntimeException", "java/lang/Exception"]) (ik := 69) (ic := 71) hx hb hfl hown (by decide +kernel) (by decide +kernel) (htg _ kl_Y_69) (htg _ kx_IllegalArgumentException) (kxa_Y_71 htg hK.2.2.2.1) kxg_Y_71 hK.2.1 hK.2.2.1 hS (hl.1.trans hml.symm) d_Y_wordAsOperation_37 d_Y_wordAsOperation_40 d_Y_wordAsOperation_41 d_Y_wordAsOperation_44 (fun x h => (htab x h).elim) (Nat.le_of_ble_eq_true rfl) (Nat.le_of_ble_eq_true rfl) (Nat.le_of_ble_eq_true rfl) (Nat.le_of_ble_eq_true rfl) hlocks (fun t hvm hz hq => ⟨(xa, xw, xv), trivial, ⟨rfl, va_P.kept hP (fun k q hk => hq _ (vx_lt hP hk)), hD⟩, ⟨Nat.le_trans hS.1 hz, fun q h1 h2 => (hq q (Nat.lt_of_lt_of_le h1 hS.1)).trans (hS.2.1 q h1 h2)⟩⟩) hS.2.2 (Nat.le_of_ble_eq_true rfl) (Nat.le_of_ble_eq_true rfl)
  · refine lv_icmp_ge (tgt := 37) hx hb d_Y_wordAsOperation_7 (by decide) (fun h => absurd h h2) (fun _ => ?_)
    refine lv_aload_n hx hb d_Y_wordAsOperation_10 rfl (lv_at hl 1 rfl) ?_
    refine va_getsN (v := .ref (tp_ad E 101)) hx hb hK.opsZ hS hown (hK.2.2.2.1.use kf_Y_124) (fun _ h => h) d_Y_wordAsOperation_11 ?_
    refine lv_iload_n hx hb d_Y_wordAsOperation_14 rfl (lv_at hl 0 rfl) ?_
    refine vb_tq (v := .ref (tp_ad E k.toNatClampNeg)) hx hb hK.opsT hS (tp_k47 hk0 h2) rfl d_Y_wordAsOperation_15 ?_
    refine vk_getf (v := .ref (tp_ad E (200 + k.toNatClampNeg))) hx hb (hK.txt (i := k.toNatClampNeg) (tp_n47 hk0 h2)) hS hown (htg _ kl_Y_128) (fun _ h => h) d_Y_wordAsOperation_16 ?_
    refine tp_ci (tp_rV (As := [.ref (tp_ad E (200 + k.toNatClampNeg))]) (rest := []) ⟨hx, hb, hml, hown, htg⟩ (s_Y_wordIs l E fr _ aY aC xc xe xa xw xv fC k.toNatClampNeg (Nat.lt_of_lt_of_le (tp_n47 hk0 h2) (by decide)) hv) (⟨callB_of 1 htg (tp_good0 kc_Y_wordIs) rfl rfl rfl (htg _ ki_Y) (htg _ kl_Y_131) ⟨by decide, by decide, by decide +kernel⟩ ⟨Nat.le_of_ble_eq_true rfl, Nat.le_of_ble_eq_true rfl⟩, htg _ km_Y_wordIs, htg _ kp_Y_wordIs⟩) (va_recv (ci := 1) (q0 := 0) hK.1 hP rfl rfl) hK hP hD hS hA rfl hl.1 rfl (Nat.le_of_ble_eq_true rfl) d_Y_wordAsOperation_19 ⟨Nat.le_of_ble_eq_true rfl, Nat.le_of_ble_eq_true rfl⟩) hD hS hA (fun wi25 u H locs hw hP hD hS => ?_)
    have hP : va_P (tp_D E) tp_cl ((aY, .inr (1, [.ref aC, .int xc, .int xe, .int xa, .int xw, .int xv])) :: (aC, .inl (tp_ty E 4, 28, .inl fC)) :: fr) H := hP
    have hD : va_D A ((aY, .inr (1, [.ref aC, .int xc, .int xe, .int xa, .int xw, .int xv])) :: (aC, .inl (tp_ty E 4, 28, .inl fC)) :: fr) := hD
    by_cases h3 : wi25 = 0
    · refine lv_if_eq (tgt := 31) hx hb d_Y_wordAsOperation_22 (by decide) (fun _ => ?_) (fun h => absurd h3 h)
      refine lv_iinc (k := 0) (v := (k + 1)) (lv' := [(1, .int (k + 1)), (0, .ref aY)]) hx hb d_Y_wordAsOperation_31 hl rfl rfl (by decide) rfl (fun ls hl => ?_)
      refine lv_goto (tgt := 2) hx hb d_Y_wordAsOperation_34 (by decide) ?_
      have hkn := tp_l47 hk0 h2
      have hk1 : (k + 1).toInt = k.toInt + 1 := tp_inc (by omega)
      exact ih (j - 1) (k + 1) ls _ _ (by omega) ⟨⟨by omega, by omega⟩, tp_lvI hl [0, 1] rfl, hP, hD, hS⟩
    · refine lv_if_eq (tgt := 31) hx hb d_Y_wordAsOperation_22 (by decide) (fun h => absurd h h3) (fun _ => ?_)
      refine va_getsN (v := .ref (tp_ad E 101)) hx hb hK.opsZ hS hown (hK.2.2.2.1.use kf_Y_124) (fun _ h => h) d_Y_wordAsOperation_25 ?_
      refine lv_iload_n hx hb d_Y_wordAsOperation_28 rfl (lv_at hl 0 rfl) ?_
      refine vb_tq (v := .ref (tp_ad E k.toNatClampNeg)) hx hb hK.opsT hS (tp_k47 hk0 h2) rfl d_Y_wordAsOperation_29 ?_
      exact tp_widen (k := 1) (n := 6) (Nat.le_of_ble_eq_true rfl) (Nat.le_of_ble_eq_true rfl) (vx_ret (W.aret (v := .ref (tp_ad E k.toNatClampNeg)) hx hb hr (Or.inl ⟨_, rfl⟩) (Or.inr ⟨_, rfl⟩) (fun t ht hW => ⟨⟨k.toNatClampNeg, _, rfl, tp_n47 hk0 h2, rfl, by rw [ht]; exact hP, hD⟩, hS.F ht⟩) hS.2.2 d_Y_wordAsOperation_30))
set_option maxHeartbeats 4000000 in
set_option maxRecDepth 100000 in
theorem s_O_leastNumber (l : Launch) (E : tp_Env) (fr : va_W) (sz : Nat) (i : Nat) (hi : i < 47)  : Met l y_O_leastNumber w_O_leastNumber ({ frames := 0, cells := 0, slots := 0, locals := 0 }) (va_Pc [.ref (tp_ad E i)] (tp_in E fr sz)) (va_Ql (fun r (_ : Unit) => True) (fun _ t => tp_out E (va_A fr sz) (fr) t) (va_A fr sz)) 0 0 (va_A fr sz) := by
  refine Met.ofW (cc := b_O_leastNumber) (maxL := 1) (ret := (some .long)) (by decide) rfl ?_
  intro p e s m args below meth c s₁ B hml hv
  obtain ⟨rfl, hsz, hP, hK, hD0⟩ := hv
  have hx := B.exec
  have hb := B.bytes
  have hr := B.returns
  have htg : ∀ w ∈ tp_G, w.before ([.ref (tp_ad E i)] : List Value).toArray s = true := fun w h => atoms_spec (ws := w_O_leastNumber) B.pre w (List.mem_cons_of_mem _ h)
  have hown : s.vm.findClass "TwoPass$Operation" = some m.cls := findClass_of_methodNamed B.named
  have hlocks := B.notSynchronized
  subst hsz
  have hD := hD0.self (sz := s.heap.size)
  generalize hAe : va_A fr s.heap.size = A at hD hK ⊢
  have hA : ∀ q : Nat, s.heap.size ≤ q → A q := fun q h => by rw [← hAe]; exact Or.inr h
  have hS : va_S A s.heap s.heap [] := va_S.rf
  have hl := lv_entry ([.ref (tp_ad E i)]) (n := 1) (Nat.le_of_ble_eq_true rfl)
  rw [lg_entry_eq]
  generalize (lg_sl ([.ref (tp_ad E i)]) ++ List.replicate (1 - (lg_sl ([.ref (tp_ad E i)])).length) Slot.unset).toArray = ls at hl ⊢
  have hl : lv_has ls 1 [(0, .ref (tp_ad E i))] := hl
  refine lv_aload_n hx hb d_O_leastNumber_0 rfl (lv_at hl 0 rfl) ?_
  refine vk_getf (v := .int (tp_lay.getD i 0)) hx hb (hK.lay (i := i) hi) hS hown (htg _ kl_O_173) (fun _ h => h) d_O_leastNumber_1 ?_
  by_cases h1 : (tp_lay.getD i 0) = 3
  · refine lv_tableIn (off := 56) (tgt := 60) hx hb d_O_leastNumber_4 (by rw [h1]; decide) (by rw [h1]; decide) (by rw [h1]; decide) (by decide) ?_
    refine lv_lconst (v := 0) hx hb d_O_leastNumber_60 (by decide) ?_
    exact W.lret (v := 0) hx hb hr (fun t ht hW => ⟨⟨_, (), rfl, trivial, by rw [ht]; exact hP, hD⟩, hS.F ht⟩) hS.2.2 d_O_leastNumber_61
  · by_cases h2 : (tp_lay.getD i 0) = 4
    · refine lv_tableIn (off := 56) (tgt := 60) hx hb d_O_leastNumber_4 (by rw [h2]; decide) (by rw [h2]; decide) (by rw [h2]; decide) (by decide) ?_
      refine lv_lconst (v := 0) hx hb d_O_leastNumber_60 (by decide) ?_
      exact W.lret (v := 0) hx hb hr (fun t ht hW => ⟨⟨_, (), rfl, trivial, by rw [ht]; exact hP, hD⟩, hS.F ht⟩) hS.2.2 d_O_leastNumber_61
    · by_cases h3 : (tp_lay.getD i 0) = 5
      · refine lv_tableIn (off := 66) (tgt := 70) hx hb d_O_leastNumber_4 (by rw [h3]; decide) (by rw [h3]; decide) (by rw [h3]; decide) (by decide) ?_
        refine lv_ldc2 (v := (-2048)) hx hb hown (htg _ kl_O_184) d_O_leastNumber_70 ?_
        exact W.lret (v := (-2048)) hx hb hr (fun t ht hW => ⟨⟨_, (), rfl, trivial, by rw [ht]; exact hP, hD⟩, hS.F ht⟩) hS.2.2 d_O_leastNumber_73
      · by_cases h4 : (tp_lay.getD i 0) = 6
        · refine lv_tableIn (off := 66) (tgt := 70) hx hb d_O_leastNumber_4 (by rw [h4]; decide) (by rw [h4]; decide) (by rw [h4]; decide) (by decide) ?_
          refine lv_ldc2 (v := (-2048)) hx hb hown (htg _ kl_O_184) d_O_leastNumber_70 ?_
          exact W.lret (v := (-2048)) hx hb hr (fun t ht hW => ⟨⟨_, (), rfl, trivial, by rw [ht]; exact hP, hD⟩, hS.F ht⟩) hS.2.2 d_O_leastNumber_73
        · by_cases h5 : (tp_lay.getD i 0) = 7
          · refine lv_tableIn (off := 66) (tgt := 70) hx hb d_O_leastNumber_4 (by rw [h5]; decide) (by rw [h5]; decide) (by rw [h5]; decide) (by decide) ?_
            refine lv_ldc2 (v := (-2048)) hx hb hown (htg _ kl_O_184) d_O_leastNumber_70 ?_
            exact W.lret (v := (-2048)) hx hb hr (fun t ht hW => ⟨⟨_, (), rfl, trivial, by rw [ht]; exact hP, hD⟩, hS.F ht⟩) hS.2.2 d_O_leastNumber_73
          · by_cases h6 : (tp_lay.getD i 0) = 8
            · refine lv_tableIn (off := 58) (tgt := 62) hx hb d_O_leastNumber_4 (by rw [h6]; decide) (by rw [h6]; decide) (by rw [h6]; decide) (by decide) ?_
              refine lv_ldc2 (v := (-2147483648)) hx hb hown (htg _ kl_O_180) d_O_leastNumber_62 ?_
              exact W.lret (v := (-2147483648)) hx hb hr (fun t ht hW => ⟨⟨_, (), rfl, trivial, by rw [ht]; exact hP, hD⟩, hS.F ht⟩) hS.2.2 d_O_leastNumber_65
            · by_cases h7 : (tp_lay.getD i 0) = 9
              · refine lv_tableIn (off := 66) (tgt := 70) hx hb d_O_leastNumber_4 (by rw [h7]; decide) (by rw [h7]; decide) (by rw [h7]; decide) (by decide) ?_
                refine lv_ldc2 (v := (-2048)) hx hb hown (htg _ kl_O_184) d_O_leastNumber_70 ?_
                exact W.lret (v := (-2048)) hx hb hr (fun t ht hW => ⟨⟨_, (), rfl, trivial, by rw [ht]; exact hP, hD⟩, hS.F ht⟩) hS.2.2 d_O_leastNumber_73
              · by_cases h8 : (tp_lay.getD i 0) = 10
                · refine lv_tableIn (off := 58) (tgt := 62) hx hb d_O_leastNumber_4 (by rw [h8]; decide) (by rw [h8]; decide) (by rw [h8]; decide) (by decide) ?_
                  refine lv_ldc2 (v := (-2147483648)) hx hb hown (htg _ kl_O_180) d_O_leastNumber_62 ?_
                  exact W.lret (v := (-2147483648)) hx hb hr (fun t ht hW => ⟨⟨_, (), rfl, trivial, by rw [ht]; exact hP, hD⟩, hS.F ht⟩) hS.2.2 d_O_leastNumber_65
                · by_cases h9 : (tp_lay.getD i 0) = 11
                  · refine lv_tableIn (off := 62) (tgt := 66) hx hb d_O_leastNumber_4 (by rw [h9]; decide) (by rw [h9]; decide) (by rw [h9]; decide) (by decide) ?_
                    refine lv_ldc2 (v := (-128)) hx hb hown (htg _ kl_O_182) d_O_leastNumber_66 ?_
                    exact W.lret (v := (-128)) hx hb hr (fun t ht hW => ⟨⟨_, (), rfl, trivial, by rw [ht]; exact hP, hD⟩, hS.F ht⟩) hS.2.2 d_O_leastNumber_69
                  · by_cases h10 : (tp_lay.getD i 0) = 12
                    · refine lv_tableIn (off := 56) (tgt := 60) hx hb d_O_leastNumber_4 (by rw [h10]; decide) (by rw [h10]; decide) (by rw [h10]; decide) (by decide) ?_
                      refine lv_lconst (v := 0) hx hb d_O_leastNumber_60 (by decide) ?_
                      exact W.lret (v := 0) hx hb hr (fun t ht hW => ⟨⟨_, (), rfl, trivial, by rw [ht]; exact hP, hD⟩, hS.F ht⟩) hS.2.2 d_O_leastNumber_61
                    · refine lv_tableOut (tgt := 70) hx hb d_O_leastNumber_4 (by have g13 := tp_neI (v := 3) (n := 3) rfl h1; have g14 := tp_neI (v := 4) (n := 4) rfl h2; have g15 := tp_neI (v := 5) (n := 5) rfl h3; have g16 := tp_neI (v := 6) (n := 6) rfl h4; have g17 := tp_neI (v := 7) (n := 7) rfl h5; have g18 := tp_neI (v := 8) (n := 8) rfl h6; have g19 := tp_neI (v := 9) (n := 9) rfl h7; have g20 := tp_neI (v := 10) (n := 10) rfl h8; have g21 := tp_neI (v := 11) (n := 11) rfl h9; have g22 := tp_neI (v := 12) (n := 12) rfl h10; omega) (by decide) ?_
                      refine lv_ldc2 (v := (-2048)) hx hb hown (htg _ kl_O_184) d_O_leastNumber_70 ?_
                      exact W.lret (v := (-2048)) hx hb hr (fun t ht hW => ⟨⟨_, (), rfl, trivial, by rw [ht]; exact hP, hD⟩, hS.F ht⟩) hS.2.2 d_O_leastNumber_73
set_option maxHeartbeats 4000000 in
set_option maxRecDepth 100000 in
theorem s_O_mostNumber (l : Launch) (E : tp_Env) (fr : va_W) (sz : Nat) (i : Nat) (hi : i < 47)  : Met l y_O_mostNumber w_O_mostNumber ({ frames := 0, cells := 0, slots := 0, locals := 0 }) (va_Pc [.ref (tp_ad E i)] (tp_in E fr sz)) (va_Ql (fun r (_ : Unit) => True) (fun _ t => tp_out E (va_A fr sz) (fr) t) (va_A fr sz)) 0 0 (va_A fr sz) := by
  refine Met.ofW (cc := b_O_mostNumber) (maxL := 1) (ret := (some .long)) (by decide) rfl ?_
  intro p e s m args below meth c s₁ B hml hv
  obtain ⟨rfl, hsz, hP, hK, hD0⟩ := hv
  have hx := B.exec
  have hb := B.bytes
  have hr := B.returns
  have htg : ∀ w ∈ tp_G, w.before ([.ref (tp_ad E i)] : List Value).toArray s = true := fun w h => atoms_spec (ws := w_O_mostNumber) B.pre w (List.mem_cons_of_mem _ h)
  have hown : s.vm.findClass "TwoPass$Operation" = some m.cls := findClass_of_methodNamed B.named
  have hlocks := B.notSynchronized
  subst hsz
  have hD := hD0.self (sz := s.heap.size)
  generalize hAe : va_A fr s.heap.size = A at hD hK ⊢
  have hA : ∀ q : Nat, s.heap.size ≤ q → A q := fun q h => by rw [← hAe]; exact Or.inr h
  have hS : va_S A s.heap s.heap [] := va_S.rf
  have hl := lv_entry ([.ref (tp_ad E i)]) (n := 1) (Nat.le_of_ble_eq_true rfl)
  rw [lg_entry_eq]
  generalize (lg_sl ([.ref (tp_ad E i)]) ++ List.replicate (1 - (lg_sl ([.ref (tp_ad E i)])).length) Slot.unset).toArray = ls at hl ⊢
  have hl : lv_has ls 1 [(0, .ref (tp_ad E i))] := hl
  refine lv_aload_n hx hb d_O_mostNumber_0 rfl (lv_at hl 0 rfl) ?_
  refine vk_getf (v := .int (tp_lay.getD i 0)) hx hb (hK.lay (i := i) hi) hS hown (htg _ kl_O_173) (fun _ h => h) d_O_mostNumber_1 ?_
  by_cases h1 : (tp_lay.getD i 0) = 3
  · refine lv_tableIn (off := 56) (tgt := 60) hx hb d_O_mostNumber_4 (by rw [h1]; decide) (by rw [h1]; decide) (by rw [h1]; decide) (by decide) ?_
    refine lv_ldc2 (v := 63) hx hb hown (htg _ kl_O_186) d_O_mostNumber_60 ?_
    exact W.lret (v := 63) hx hb hr (fun t ht hW => ⟨⟨_, (), rfl, trivial, by rw [ht]; exact hP, hD⟩, hS.F ht⟩) hS.2.2 d_O_mostNumber_63
  · by_cases h2 : (tp_lay.getD i 0) = 4
    · refine lv_tableIn (off := 60) (tgt := 64) hx hb d_O_mostNumber_4 (by rw [h2]; decide) (by rw [h2]; decide) (by rw [h2]; decide) (by decide) ?_
      refine lv_ldc2 (v := 1048575) hx hb hown (htg _ kl_O_188) d_O_mostNumber_64 ?_
      exact W.lret (v := 1048575) hx hb hr (fun t ht hW => ⟨⟨_, (), rfl, trivial, by rw [ht]; exact hP, hD⟩, hS.F ht⟩) hS.2.2 d_O_mostNumber_67
    · by_cases h3 : (tp_lay.getD i 0) = 5
      · refine lv_tableIn (off := 80) (tgt := 84) hx hb d_O_mostNumber_4 (by rw [h3]; decide) (by rw [h3]; decide) (by rw [h3]; decide) (by decide) ?_
        refine lv_ldc2 (v := 2047) hx hb hown (htg _ kl_O_198) d_O_mostNumber_84 ?_
        exact W.lret (v := 2047) hx hb hr (fun t ht hW => ⟨⟨_, (), rfl, trivial, by rw [ht]; exact hP, hD⟩, hS.F ht⟩) hS.2.2 d_O_mostNumber_87
      · by_cases h4 : (tp_lay.getD i 0) = 6
        · refine lv_tableIn (off := 80) (tgt := 84) hx hb d_O_mostNumber_4 (by rw [h4]; decide) (by rw [h4]; decide) (by rw [h4]; decide) (by decide) ?_
          refine lv_ldc2 (v := 2047) hx hb hown (htg _ kl_O_198) d_O_mostNumber_84 ?_
          exact W.lret (v := 2047) hx hb hr (fun t ht hW => ⟨⟨_, (), rfl, trivial, by rw [ht]; exact hP, hD⟩, hS.F ht⟩) hS.2.2 d_O_mostNumber_87
        · by_cases h5 : (tp_lay.getD i 0) = 7
          · refine lv_tableIn (off := 80) (tgt := 84) hx hb d_O_mostNumber_4 (by rw [h5]; decide) (by rw [h5]; decide) (by rw [h5]; decide) (by decide) ?_
            refine lv_ldc2 (v := 2047) hx hb hown (htg _ kl_O_198) d_O_mostNumber_84 ?_
            exact W.lret (v := 2047) hx hb hr (fun t ht hW => ⟨⟨_, (), rfl, trivial, by rw [ht]; exact hP, hD⟩, hS.F ht⟩) hS.2.2 d_O_mostNumber_87
          · by_cases h6 : (tp_lay.getD i 0) = 8
            · refine lv_tableIn (off := 68) (tgt := 72) hx hb d_O_mostNumber_4 (by rw [h6]; decide) (by rw [h6]; decide) (by rw [h6]; decide) (by decide) ?_
              refine lv_ldc2 (v := 2147483647) hx hb hown (htg _ kl_O_192) d_O_mostNumber_72 ?_
              exact W.lret (v := 2147483647) hx hb hr (fun t ht hW => ⟨⟨_, (), rfl, trivial, by rw [ht]; exact hP, hD⟩, hS.F ht⟩) hS.2.2 d_O_mostNumber_75
            · by_cases h7 : (tp_lay.getD i 0) = 9
              · refine lv_tableIn (off := 80) (tgt := 84) hx hb d_O_mostNumber_4 (by rw [h7]; decide) (by rw [h7]; decide) (by rw [h7]; decide) (by decide) ?_
                refine lv_ldc2 (v := 2047) hx hb hown (htg _ kl_O_198) d_O_mostNumber_84 ?_
                exact W.lret (v := 2047) hx hb hr (fun t ht hW => ⟨⟨_, (), rfl, trivial, by rw [ht]; exact hP, hD⟩, hS.F ht⟩) hS.2.2 d_O_mostNumber_87
              · by_cases h8 : (tp_lay.getD i 0) = 10
                · refine lv_tableIn (off := 72) (tgt := 76) hx hb d_O_mostNumber_4 (by rw [h8]; decide) (by rw [h8]; decide) (by rw [h8]; decide) (by decide) ?_
                  refine lv_ldc2 (v := 4294967295) hx hb hown (htg _ kl_O_194) d_O_mostNumber_76 ?_
                  exact W.lret (v := 4294967295) hx hb hr (fun t ht hW => ⟨⟨_, (), rfl, trivial, by rw [ht]; exact hP, hD⟩, hS.F ht⟩) hS.2.2 d_O_mostNumber_79
                · by_cases h9 : (tp_lay.getD i 0) = 11
                  · refine lv_tableIn (off := 76) (tgt := 80) hx hb d_O_mostNumber_4 (by rw [h9]; decide) (by rw [h9]; decide) (by rw [h9]; decide) (by decide) ?_
                    refine lv_ldc2 (v := 255) hx hb hown (htg _ kl_O_196) d_O_mostNumber_80 ?_
                    exact W.lret (v := 255) hx hb hr (fun t ht hW => ⟨⟨_, (), rfl, trivial, by rw [ht]; exact hP, hD⟩, hS.F ht⟩) hS.2.2 d_O_mostNumber_83
                  · by_cases h10 : (tp_lay.getD i 0) = 12
                    · refine lv_tableIn (off := 64) (tgt := 68) hx hb d_O_mostNumber_4 (by rw [h10]; decide) (by rw [h10]; decide) (by rw [h10]; decide) (by decide) ?_
                      refine lv_ldc2 (v := 6000) hx hb hown (htg _ kl_O_190) d_O_mostNumber_68 ?_
                      exact W.lret (v := 6000) hx hb hr (fun t ht hW => ⟨⟨_, (), rfl, trivial, by rw [ht]; exact hP, hD⟩, hS.F ht⟩) hS.2.2 d_O_mostNumber_71
                    · refine lv_tableOut (tgt := 84) hx hb d_O_mostNumber_4 (by have g13 := tp_neI (v := 3) (n := 3) rfl h1; have g14 := tp_neI (v := 4) (n := 4) rfl h2; have g15 := tp_neI (v := 5) (n := 5) rfl h3; have g16 := tp_neI (v := 6) (n := 6) rfl h4; have g17 := tp_neI (v := 7) (n := 7) rfl h5; have g18 := tp_neI (v := 8) (n := 8) rfl h6; have g19 := tp_neI (v := 9) (n := 9) rfl h7; have g20 := tp_neI (v := 10) (n := 10) rfl h8; have g21 := tp_neI (v := 11) (n := 11) rfl h9; have g22 := tp_neI (v := 12) (n := 12) rfl h10; omega) (by decide) ?_
                      refine lv_ldc2 (v := 2047) hx hb hown (htg _ kl_O_198) d_O_mostNumber_84 ?_
                      exact W.lret (v := 2047) hx hb hr (fun t ht hW => ⟨⟨_, (), rfl, trivial, by rw [ht]; exact hP, hD⟩, hS.F ht⟩) hS.2.2 d_O_mostNumber_87
set_option maxHeartbeats 4000000 in
set_option maxRecDepth 100000 in
theorem s_Y_wordAsRegister (l : Launch) (hfl : l.stackTraces = false) (E : tp_Env) (fr : va_W) (sz : Nat) (aY aC : Nat) (xc xe xa xw xv : Int32) (fC : Nat → Int32) (hv : sf_V xw xv) : vx_Met l y_Y_wordAsRegister w_Y_wordAsRegister ({ frames := 7, cells := 2, slots := 12, locals := 116 }) (va_Pc [.ref aY] (tp_in E ((aY, .inr (1, [.ref aC, .int xc, .int xe, .int xa, .int xw, .int xv])) :: (aC, .inl (tp_ty E 4, 28, .inl fC)) :: fr) sz)) (va_Qi (fun r (_ : Unit) => True) (fun _ t => tp_out E (va_A ((aY, .inr (1, [.ref aC, .int xc, .int xe, .int xa, .int xw, .int xv])) :: (aC, .inl (tp_ty E 4, 28, .inl fC)) :: fr) sz) ((aY, .inr (1, [.ref aC, .int xc, .int xe, .int xa, .int xw, .int xv])) :: (aC, .inl (tp_ty E 4, 28, .inl fC)) :: fr) t) (va_A ((aY, .inr (1, [.ref aC, .int xc, .int xe, .int xa, .int xw, .int xv])) :: (aC, .inl (tp_ty E 4, 28, .inl fC)) :: fr) sz)) (vx_X (fun (_ : Int32 × Int32 × Int32) => True) (fun x u t => x = "java/lang/IllegalArgumentException" ∧ tp_out E (va_A ((aY, .inr (1, [.ref aC, .int xc, .int xe, .int xa, .int xw, .int xv])) :: (aC, .inl (tp_ty E 4, 28, .inl fC)) :: fr) sz) ((aY, .inr (1, [.ref aC, .int xc, .int xe, .int u.1, .int u.2.1, .int u.2.2])) :: (aC, .inl (tp_ty E 4, 28, .inl fC)) :: fr) t) (va_A ((aY, .inr (1, [.ref aC, .int xc, .int xe, .int xa, .int xw, .int xv])) :: (aC, .inl (tp_ty E 4, 28, .inl fC)) :: fr) sz)) 2 12 (va_A ((aY, .inr (1, [.ref aC, .int xc, .int xe, .int xa, .int xw, .int xv])) :: (aC, .inl (tp_ty E 4, 28, .inl fC)) :: fr) sz) := by
  refine vx_ofW (cc := b_Y_wordAsRegister) (maxL := 4) (ret := (some .int)) (by decide) rfl ?_
  intro p e s m args below meth c s₁ B hml htab hv
  obtain ⟨rfl, hsz, hP, hK, hD0⟩ := hv
  have hx := B.exec
  have hb := B.bytes
  have hr := B.returns
  have htg : ∀ w ∈ tp_G, w.before ([.ref aY] : List Value).toArray s = true := fun w h => atoms_spec (ws := w_Y_wordAsRegister) B.pre w (List.mem_cons_of_mem _ h)
  have hown : s.vm.findClass "TwoPass$Typed" = some m.cls := findClass_of_methodNamed B.named
  have hlocks := B.notSynchronized
  subst hsz
  have hD := hD0.self (sz := s.heap.size)
  generalize hAe : va_A ((aY, .inr (1, [.ref aC, .int xc, .int xe, .int xa, .int xw, .int xv])) :: (aC, .inl (tp_ty E 4, 28, .inl fC)) :: fr) s.heap.size = A at hD hK ⊢
  have hA : ∀ q : Nat, s.heap.size ≤ q → A q := fun q h => by rw [← hAe]; exact Or.inr h
  have hS : va_S A s.heap s.heap [] := va_S.rf
  have hl := lv_entry ([.ref aY]) (n := 4) (Nat.le_of_ble_eq_true rfl)
  rw [lg_entry_eq]
  generalize (lg_sl ([.ref aY]) ++ List.replicate (4 - (lg_sl ([.ref aY])).length) Slot.unset).toArray = ls at hl ⊢
  have hl : lv_has ls 4 [(0, .ref aY)] := hl
  refine lv_aload_n hx hb d_Y_wordAsRegister_0 rfl (lv_at hl 0 rfl) ?_
  refine va_ldcS (q := tp_ad E 294) hx hb hown hK.R.1 d_Y_wordAsRegister_1 ?_
  refine tp_ci (tp_rV (As := [.ref (tp_ad E 294)]) (rest := []) ⟨hx, hb, hml, hown, htg⟩ (s_Y_wordIs l E fr _ aY aC xc xe xa xw xv fC 94 (by decide) hv) (⟨callB_of 1 htg (tp_good0 kc_Y_wordIs) rfl rfl rfl (htg _ ki_Y) (htg _ kl_Y_131) ⟨by decide, by decide, by decide +kernel⟩ ⟨Nat.le_of_ble_eq_true rfl, Nat.le_of_ble_eq_true rfl⟩, htg _ km_Y_wordIs, htg _ kp_Y_wordIs⟩) (va_recv (ci := 1) (q0 := 0) hK.1 hP rfl rfl) hK hP hD hS hA rfl hl.1 rfl (Nat.le_of_ble_eq_true rfl) d_Y_wordAsRegister_3 ⟨Nat.le_of_ble_eq_true rfl, Nat.le_of_ble_eq_true rfl⟩) hD hS hA (fun wi26 u H locs hw hP hD hS => ?_)
  have hP : va_P (tp_D E) tp_cl ((aY, .inr (1, [.ref aC, .int xc, .int xe, .int xa, .int xw, .int xv])) :: (aC, .inl (tp_ty E 4, 28, .inl fC)) :: fr) H := hP
  have hD : va_D A ((aY, .inr (1, [.ref aC, .int xc, .int xe, .int xa, .int xw, .int xv])) :: (aC, .inl (tp_ty E 4, 28, .inl fC)) :: fr) := hD
  by_cases h2 : wi26 = 0
  · refine lv_if_eq (tgt := 11) hx hb d_Y_wordAsRegister_6 (by decide) (fun _ => ?_) (fun h => absurd h2 h)
    refine lv_aload_n hx hb d_Y_wordAsRegister_11 rfl (lv_at hl 0 rfl) ?_
    refine va_ldcS (q := tp_ad E 295) hx hb hown hK.R.2.1 d_Y_wordAsRegister_12 ?_
    refine tp_ci (tp_rV (As := [.ref (tp_ad E 295)]) (rest := []) ⟨hx, hb, hml, hown, htg⟩ (s_Y_wordIs l E fr _ aY aC xc xe xa xw xv fC 95 (by decide) hv) (⟨callB_of 1 htg (tp_good0 kc_Y_wordIs) rfl rfl rfl (htg _ ki_Y) (htg _ kl_Y_131) ⟨by decide, by decide, by decide +kernel⟩ ⟨Nat.le_of_ble_eq_true rfl, Nat.le_of_ble_eq_true rfl⟩, htg _ km_Y_wordIs, htg _ kp_Y_wordIs⟩) (va_recv (ci := 1) (q0 := 0) hK.1 hP rfl rfl) hK hP hD hS hA rfl hl.1 rfl (Nat.le_of_ble_eq_true rfl) d_Y_wordAsRegister_14 ⟨Nat.le_of_ble_eq_true rfl, Nat.le_of_ble_eq_true rfl⟩) hD hS hA (fun wi27 u H locs hw hP hD hS => ?_)
    have hP : va_P (tp_D E) tp_cl ((aY, .inr (1, [.ref aC, .int xc, .int xe, .int xa, .int xw, .int xv])) :: (aC, .inl (tp_ty E 4, 28, .inl fC)) :: fr) H := hP
    have hD : va_D A ((aY, .inr (1, [.ref aC, .int xc, .int xe, .int xa, .int xw, .int xv])) :: (aC, .inl (tp_ty E 4, 28, .inl fC)) :: fr) := hD
    by_cases h3 : wi27 = 0
    · refine lv_if_eq (tgt := 22) hx hb d_Y_wordAsRegister_17 (by decide) (fun _ => ?_) (fun h => absurd h3 h)
      refine lv_aload_n hx hb d_Y_wordAsRegister_22 rfl (lv_at hl 0 rfl) ?_
      refine va_ldcS (q := tp_ad E 296) hx hb hown hK.R.2.2.1 d_Y_wordAsRegister_23 ?_
      refine tp_ci (tp_rV (As := [.ref (tp_ad E 296)]) (rest := []) ⟨hx, hb, hml, hown, htg⟩ (s_Y_wordIs l E fr _ aY aC xc xe xa xw xv fC 96 (by decide) hv) (⟨callB_of 1 htg (tp_good0 kc_Y_wordIs) rfl rfl rfl (htg _ ki_Y) (htg _ kl_Y_131) ⟨by decide, by decide, by decide +kernel⟩ ⟨Nat.le_of_ble_eq_true rfl, Nat.le_of_ble_eq_true rfl⟩, htg _ km_Y_wordIs, htg _ kp_Y_wordIs⟩) (va_recv (ci := 1) (q0 := 0) hK.1 hP rfl rfl) hK hP hD hS hA rfl hl.1 rfl (Nat.le_of_ble_eq_true rfl) d_Y_wordAsRegister_25 ⟨Nat.le_of_ble_eq_true rfl, Nat.le_of_ble_eq_true rfl⟩) hD hS hA (fun wi28 u H locs hw hP hD hS => ?_)
      have hP : va_P (tp_D E) tp_cl ((aY, .inr (1, [.ref aC, .int xc, .int xe, .int xa, .int xw, .int xv])) :: (aC, .inl (tp_ty E 4, 28, .inl fC)) :: fr) H := hP
      have hD : va_D A ((aY, .inr (1, [.ref aC, .int xc, .int xe, .int xa, .int xw, .int xv])) :: (aC, .inl (tp_ty E 4, 28, .inl fC)) :: fr) := hD
      by_cases h4 : wi28 = 0
      · refine lv_if_eq (tgt := 33) hx hb d_Y_wordAsRegister_28 (by decide) (fun _ => ?_) (fun h => absurd h4 h)
        refine lv_aload_n hx hb d_Y_wordAsRegister_33 rfl (lv_at hl 0 rfl) ?_
        refine va_get (D := tp_D E) (ci := 1) (v := .int xw) (C := qR_Y) (T := qF_Y) (N := 6) hx hb htg qi_Y hown hK.1 hP 0 rfl rfl 4 (by decide) (htg _ kl_Y_115) (fun _ h => h) rfl d_Y_wordAsRegister_34 ?_
        refine lv_aload_n hx hb d_Y_wordAsRegister_37 rfl (lv_at hl 0 rfl) ?_
        refine va_get (D := tp_D E) (ci := 1) (v := .int xv) (C := qR_Y) (T := qF_Y) (N := 6) hx hb htg qi_Y hown hK.1 hP 0 rfl rfl 5 (by decide) (htg _ kl_Y_121) (fun _ h => h) rfl d_Y_wordAsRegister_38 ?_
        by_cases h5 : xv ≤ xw
        · refine lv_icmp_ge (tgt := 58) hx hb d_Y_wordAsRegister_41 (by decide) (fun _ => ?_) (fun h => absurd h5 h)
          exact vx_throw0 (own := "TwoPass$Typed") (cls := "java/lang/IllegalArgumentException") (names := ["java/lang/RuntimeException", "java/lang/Exception"]) (ik := 69) (ic := 71) hx hb hfl hown (by decide +kernel) (by decide +kernel) (htg _ kl_Y_69) (htg _ kx_IllegalArgumentException) (kxa_Y_71 htg hK.2.2.2.1) kxg_Y_71 hK.2.1 hK.2.2.1 hS (hl.1.trans hml.symm) d_Y_wordAsRegister_58 d_Y_wordAsRegister_61 d_Y_wordAsRegister_62 d_Y_wordAsRegister_65 (fun x h => (htab x h).elim) (Nat.le_of_ble_eq_true rfl) (Nat.le_of_ble_eq_true rfl) (Nat.le_of_ble_eq_true rfl) (Nat.le_of_ble_eq_true rfl) hlocks (fun t hvm hz hq => ⟨(xa, xw, xv), trivial, ⟨rfl, va_P.kept hP (fun k q hk => hq _ (vx_lt hP hk)), hD⟩, ⟨Nat.le_trans hS.1 hz, fun q h1 h2 => (hq q (Nat.lt_of_lt_of_le h1 hS.1)).trans (hS.2.1 q h1 h2)⟩⟩) hS.2.2 (Nat.le_of_ble_eq_true rfl) (Nat.le_of_ble_eq_true rfl)
        · refine lv_icmp_ge (tgt := 58) hx hb d_Y_wordAsRegister_41 (by decide) (fun h => absurd h h5) (fun _ => ?_)
          refine lv_aload_n hx hb d_Y_wordAsRegister_44 rfl (lv_at hl 0 rfl) ?_
          refine va_get (D := tp_D E) (ci := 1) (v := .ref aC) (C := qR_Y) (T := qF_Y) (N := 6) hx hb htg qi_Y hown hK.1 hP 0 rfl rfl 0 (by decide) (htg _ kl_Y_9) (fun _ h => h) rfl d_Y_wordAsRegister_45 ?_
          refine lv_aload_n hx hb d_Y_wordAsRegister_48 rfl (lv_at hl 0 rfl) ?_
          refine va_get (D := tp_D E) (ci := 1) (v := .int xw) (C := qR_Y) (T := qF_Y) (N := 6) hx hb htg qi_Y hown hK.1 hP 0 rfl rfl 4 (by decide) (htg _ kl_Y_115) (fun _ h => h) rfl d_Y_wordAsRegister_49 ?_
          refine va_cald (D := tp_D E) hx hb hK.1 hP 1 4 rfl rfl (sf_Vin hv h5) d_Y_wordAsRegister_52 ?_
          refine lv_bipush (v := 120) hx hb d_Y_wordAsRegister_53 (by decide) ?_
          by_cases h6 : (fC xw.toNatClampNeg) = 120
          · refine lv_icmp_eq (tgt := 66) hx hb d_Y_wordAsRegister_55 (by decide) (fun _ => ?_) (fun h => absurd h6 h)
            refine lv_aload_n hx hb d_Y_wordAsRegister_66 rfl (lv_at hl 0 rfl) ?_
            refine lv_aload_n hx hb d_Y_wordAsRegister_67 rfl (lv_at hl 0 rfl) ?_
            refine va_get (D := tp_D E) (ci := 1) (v := .int xw) (C := qR_Y) (T := qF_Y) (N := 6) hx hb htg qi_Y hown hK.1 hP 0 rfl rfl 4 (by decide) (htg _ kl_Y_115) (fun _ h => h) rfl d_Y_wordAsRegister_68 ?_
            refine lv_iconst (v := 1) hx hb d_Y_wordAsRegister_71 (by decide) ?_
            refine lv_iadd hx hb d_Y_wordAsRegister_72 ?_
            refine lv_bipush (v := 10) hx hb d_Y_wordAsRegister_73 (by decide) ?_
            refine lv_iconst (v := 2) hx hb d_Y_wordAsRegister_75 (by decide) ?_
            refine sf_bl (tp_xV (As := [.int (xw + 1), .int 10, .int 2]) (rest := []) ⟨hx, hb, hml, hown, htg⟩ (s_Y_digitsFrom l hfl E fr _ aY aC xc xe xa xw xv fC (xw + 1) 10 2 hv (sf_V1b hv)) (⟨callB_of 3 htg (tp_good0 kc_Y_digitsFrom) rfl rfl rfl (htg _ ki_Y) (htg _ kl_Y_141) ⟨by decide, by decide, by decide +kernel⟩ ⟨Nat.le_of_ble_eq_true rfl, Nat.le_of_ble_eq_true rfl⟩, htg _ km_Y_digitsFrom, htg _ kp_Y_digitsFrom⟩) (va_recv (ci := 1) (q0 := 0) hK.1 hP rfl rfl) hK hP hD hS hA rfl hl.1 rfl (Nat.le_of_ble_eq_true rfl) d_Y_wordAsRegister_76 ⟨Nat.le_of_ble_eq_true rfl, Nat.le_of_ble_eq_true rfl⟩) hD hS hA (fun ce q xu H locs hpx hP hD hS hce hcv hcl => ?_) (fun rv29 u H locs hw hP hD hS => ?_)
            · have hP : va_P (tp_D E) tp_cl ((aY, .inr (1, [.ref aC, .int xc, .int xe, .int xu.1, .int xu.2.1, .int xu.2.2])) :: (aC, .inl (tp_ty E 4, 28, .inl fC)) :: fr) H := hP
              have hD : va_D A ((aY, .inr (1, [.ref aC, .int xc, .int xe, .int xu.1, .int xu.2.1, .int xu.2.2])) :: (aC, .inl (tp_ty E 4, 28, .inl fC)) :: fr) := hD
              exact vx_out (fun x h => (htab x h).elim) hlocks hce hcv hcl (fun t ht hvm => ⟨(xu.1, xu.2.1, xu.2.2), trivial, ⟨rfl, by rw [ht]; exact hP, hD⟩, hS.F ht⟩) hS.2.2 (Nat.le_of_ble_eq_true rfl) (Nat.le_of_ble_eq_true rfl)
            · have hP : va_P (tp_D E) tp_cl ((aY, .inr (1, [.ref aC, .int xc, .int xe, .int xa, .int xw, .int xv])) :: (aC, .inl (tp_ty E 4, 28, .inl fC)) :: fr) H := hP
              have hD : va_D A ((aY, .inr (1, [.ref aC, .int xc, .int xe, .int xa, .int xw, .int xv])) :: (aC, .inl (tp_ty E 4, 28, .inl fC)) :: fr) := hD
              refine lv_lstore_n (lv' := [(1, .long rv29), (0, .ref aY)]) hx hb d_Y_wordAsRegister_79 rfl hl (by decide) rfl (fun ls hl => ?_)
              refine lv_lload_n hx hb d_Y_wordAsRegister_80 rfl (lv_at hl 0 rfl) ?_
              refine lv_ldc2 (v := 10) hx hb hown (htg _ kl_Y_145) d_Y_wordAsRegister_81 ?_
              by_cases h7 : rv29 < 10
              · refine W.lcmp hx hb d_Y_wordAsRegister_84 ?_
                refine lv_if_ge (tgt := 105) hx hb d_Y_wordAsRegister_85 (by decide) (fun h => absurd h (tp_lc_ge_f h7)) (fun _ => ?_)
                refine lv_aload_n hx hb d_Y_wordAsRegister_88 rfl (lv_at hl 1 rfl) ?_
                refine va_get (D := tp_D E) (ci := 1) (v := .int xv) (C := qR_Y) (T := qF_Y) (N := 6) hx hb htg qi_Y hown hK.1 hP 0 rfl rfl 5 (by decide) (htg _ kl_Y_121) (fun _ h => h) rfl d_Y_wordAsRegister_89 ?_
                refine lv_aload_n hx hb d_Y_wordAsRegister_92 rfl (lv_at hl 1 rfl) ?_
                refine va_get (D := tp_D E) (ci := 1) (v := .int xw) (C := qR_Y) (T := qF_Y) (N := 6) hx hb htg qi_Y hown hK.1 hP 0 rfl rfl 4 (by decide) (htg _ kl_Y_115) (fun _ h => h) rfl d_Y_wordAsRegister_93 ?_
                refine lv_isub hx hb d_Y_wordAsRegister_96 ?_
                refine lv_iconst (v := 2) hx hb d_Y_wordAsRegister_97 (by decide) ?_
                by_cases h8 : (xv - xw) ≤ 2
                · refine lv_icmp_le (tgt := 105) hx hb d_Y_wordAsRegister_98 (by decide) (fun _ => ?_) (fun h => absurd h8 h)
                  refine lv_iconst (v := 0) hx hb d_Y_wordAsRegister_105 (by decide) ?_
                  refine lv_istore_n (lv' := [(3, .int 0), (1, .long rv29), (0, .ref aY)]) hx hb d_Y_wordAsRegister_106 rfl hl (by decide) rfl (fun ls hl => ?_)
                  refine lv_lload_n hx hb d_Y_wordAsRegister_107 rfl (lv_at hl 1 rfl) ?_
                  refine lv_ldc2 (v := 31) hx hb hown (htg _ kl_Y_147) d_Y_wordAsRegister_108 ?_
                  by_cases h9 : 31 < rv29
                  · refine W.lcmp hx hb d_Y_wordAsRegister_111 ?_
                    refine lv_if_gt (tgt := 119) hx hb d_Y_wordAsRegister_112 (by decide) (fun _ => ?_) (fun h => absurd (tp_lc_gt_t h9) h)
                    exact vx_throw0 (own := "TwoPass$Typed") (cls := "java/lang/IllegalArgumentException") (names := ["java/lang/RuntimeException", "java/lang/Exception"]) (ik := 69) (ic := 71) hx hb hfl hown (by decide +kernel) (by decide +kernel) (htg _ kl_Y_69) (htg _ kx_IllegalArgumentException) (kxa_Y_71 htg hK.2.2.2.1) kxg_Y_71 hK.2.1 hK.2.2.1 hS (hl.1.trans hml.symm) d_Y_wordAsRegister_119 d_Y_wordAsRegister_122 d_Y_wordAsRegister_123 d_Y_wordAsRegister_126 (fun x h => (htab x h).elim) (Nat.le_of_ble_eq_true rfl) (Nat.le_of_ble_eq_true rfl) (Nat.le_of_ble_eq_true rfl) (Nat.le_of_ble_eq_true rfl) hlocks (fun t hvm hz hq => ⟨(xa, xw, xv), trivial, ⟨rfl, va_P.kept hP (fun k q hk => hq _ (vx_lt hP hk)), hD⟩, ⟨Nat.le_trans hS.1 hz, fun q h1 h2 => (hq q (Nat.lt_of_lt_of_le h1 hS.1)).trans (hS.2.1 q h1 h2)⟩⟩) hS.2.2 (Nat.le_of_ble_eq_true rfl) (Nat.le_of_ble_eq_true rfl)
                  · refine W.lcmp hx hb d_Y_wordAsRegister_111 ?_
                    refine lv_if_gt (tgt := 119) hx hb d_Y_wordAsRegister_112 (by decide) (fun h => absurd h (tp_lc_gt_f h9)) (fun _ => ?_)
                    refine lv_iload_n hx hb d_Y_wordAsRegister_115 rfl (lv_at hl 0 rfl) ?_
                    refine lv_if_eq (tgt := 127) hx hb d_Y_wordAsRegister_116 (by decide) (fun _ => ?_) (fun h => absurd (by decide) h)
                    refine lv_lload_n hx hb d_Y_wordAsRegister_127 rfl (lv_at hl 1 rfl) ?_
                    refine lv_l2i (v := rv29.toInt32) hx hb d_Y_wordAsRegister_128 rfl ?_
                    exact tp_widen (k := 2) (n := 12) (Nat.le_of_ble_eq_true rfl) (Nat.le_of_ble_eq_true rfl) (vx_ret (W.iret (v := rv29.toInt32) hx hb hr (fun t ht hW => ⟨⟨_, (), rfl, trivial, by rw [ht]; exact hP, hD⟩, hS.F ht⟩) hS.2.2 d_Y_wordAsRegister_129))
                · refine lv_icmp_le (tgt := 105) hx hb d_Y_wordAsRegister_98 (by decide) (fun h => absurd h h8) (fun _ => ?_)
                  refine lv_iconst (v := 1) hx hb d_Y_wordAsRegister_101 (by decide) ?_
                  refine lv_goto (tgt := 106) hx hb d_Y_wordAsRegister_102 (by decide) ?_
                  refine lv_istore_n (lv' := [(3, .int 1), (1, .long rv29), (0, .ref aY)]) hx hb d_Y_wordAsRegister_106 rfl hl (by decide) rfl (fun ls hl => ?_)
                  refine lv_lload_n hx hb d_Y_wordAsRegister_107 rfl (lv_at hl 1 rfl) ?_
                  refine lv_ldc2 (v := 31) hx hb hown (htg _ kl_Y_147) d_Y_wordAsRegister_108 ?_
                  by_cases h9 : 31 < rv29
                  · refine W.lcmp hx hb d_Y_wordAsRegister_111 ?_
                    refine lv_if_gt (tgt := 119) hx hb d_Y_wordAsRegister_112 (by decide) (fun _ => ?_) (fun h => absurd (tp_lc_gt_t h9) h)
                    exact vx_throw0 (own := "TwoPass$Typed") (cls := "java/lang/IllegalArgumentException") (names := ["java/lang/RuntimeException", "java/lang/Exception"]) (ik := 69) (ic := 71) hx hb hfl hown (by decide +kernel) (by decide +kernel) (htg _ kl_Y_69) (htg _ kx_IllegalArgumentException) (kxa_Y_71 htg hK.2.2.2.1) kxg_Y_71 hK.2.1 hK.2.2.1 hS (hl.1.trans hml.symm) d_Y_wordAsRegister_119 d_Y_wordAsRegister_122 d_Y_wordAsRegister_123 d_Y_wordAsRegister_126 (fun x h => (htab x h).elim) (Nat.le_of_ble_eq_true rfl) (Nat.le_of_ble_eq_true rfl) (Nat.le_of_ble_eq_true rfl) (Nat.le_of_ble_eq_true rfl) hlocks (fun t hvm hz hq => ⟨(xa, xw, xv), trivial, ⟨rfl, va_P.kept hP (fun k q hk => hq _ (vx_lt hP hk)), hD⟩, ⟨Nat.le_trans hS.1 hz, fun q h1 h2 => (hq q (Nat.lt_of_lt_of_le h1 hS.1)).trans (hS.2.1 q h1 h2)⟩⟩) hS.2.2 (Nat.le_of_ble_eq_true rfl) (Nat.le_of_ble_eq_true rfl)
                  · refine W.lcmp hx hb d_Y_wordAsRegister_111 ?_
                    refine lv_if_gt (tgt := 119) hx hb d_Y_wordAsRegister_112 (by decide) (fun h => absurd h (tp_lc_gt_f h9)) (fun _ => ?_)
                    refine lv_iload_n hx hb d_Y_wordAsRegister_115 rfl (lv_at hl 0 rfl) ?_
                    refine lv_if_eq (tgt := 127) hx hb d_Y_wordAsRegister_116 (by decide) (fun h => absurd h (by decide)) (fun _ => ?_)
                    exact vx_throw0 (own := "TwoPass$Typed") (cls := "java/lang/IllegalArgumentException") (names := ["java/lang/RuntimeException", "java/lang/Exception"]) (ik := 69) (ic := 71) hx hb hfl hown (by decide +kernel) (by decide +kernel) (htg _ kl_Y_69) (htg _ kx_IllegalArgumentException) (kxa_Y_71 htg hK.2.2.2.1) kxg_Y_71 hK.2.1 hK.2.2.1 hS (hl.1.trans hml.symm) d_Y_wordAsRegister_119 d_Y_wordAsRegister_122 d_Y_wordAsRegister_123 d_Y_wordAsRegister_126 (fun x h => (htab x h).elim) (Nat.le_of_ble_eq_true rfl) (Nat.le_of_ble_eq_true rfl) (Nat.le_of_ble_eq_true rfl) (Nat.le_of_ble_eq_true rfl) hlocks (fun t hvm hz hq => ⟨(xa, xw, xv), trivial, ⟨rfl, va_P.kept hP (fun k q hk => hq _ (vx_lt hP hk)), hD⟩, ⟨Nat.le_trans hS.1 hz, fun q h1 h2 => (hq q (Nat.lt_of_lt_of_le h1 hS.1)).trans (hS.2.1 q h1 h2)⟩⟩) hS.2.2 (Nat.le_of_ble_eq_true rfl) (Nat.le_of_ble_eq_true rfl)
              · refine W.lcmp hx hb d_Y_wordAsRegister_84 ?_
                refine lv_if_ge (tgt := 105) hx hb d_Y_wordAsRegister_85 (by decide) (fun _ => ?_) (fun h => absurd (tp_lc_ge_t h7) h)
                refine lv_iconst (v := 0) hx hb d_Y_wordAsRegister_105 (by decide) ?_
                refine lv_istore_n (lv' := [(3, .int 0), (1, .long rv29), (0, .ref aY)]) hx hb d_Y_wordAsRegister_106 rfl hl (by decide) rfl (fun ls hl => ?_)
                refine lv_lload_n hx hb d_Y_wordAsRegister_107 rfl (lv_at hl 1 rfl) ?_
                refine lv_ldc2 (v := 31) hx hb hown (htg _ kl_Y_147) d_Y_wordAsRegister_108 ?_
                by_cases h8 : 31 < rv29
                · refine W.lcmp hx hb d_Y_wordAsRegister_111 ?_
                  refine lv_if_gt (tgt := 119) hx hb d_Y_wordAsRegister_112 (by decide) (fun _ => ?_) (fun h => absurd (tp_lc_gt_t h8) h)
                  exact vx_throw0 (own := "TwoPass$Typed") (cls := "java/lang/IllegalArgumentException") (names := ["java/lang/RuntimeException", "java/lang/Exception"]) (ik := 69) (ic := 71) hx hb hfl hown (by decide +kernel) (by decide +kernel) (htg _ kl_Y_69) (htg _ kx_IllegalArgumentException) (kxa_Y_71 htg hK.2.2.2.1) kxg_Y_71 hK.2.1 hK.2.2.1 hS (hl.1.trans hml.symm) d_Y_wordAsRegister_119 d_Y_wordAsRegister_122 d_Y_wordAsRegister_123 d_Y_wordAsRegister_126 (fun x h => (htab x h).elim) (Nat.le_of_ble_eq_true rfl) (Nat.le_of_ble_eq_true rfl) (Nat.le_of_ble_eq_true rfl) (Nat.le_of_ble_eq_true rfl) hlocks (fun t hvm hz hq => ⟨(xa, xw, xv), trivial, ⟨rfl, va_P.kept hP (fun k q hk => hq _ (vx_lt hP hk)), hD⟩, ⟨Nat.le_trans hS.1 hz, fun q h1 h2 => (hq q (Nat.lt_of_lt_of_le h1 hS.1)).trans (hS.2.1 q h1 h2)⟩⟩) hS.2.2 (Nat.le_of_ble_eq_true rfl) (Nat.le_of_ble_eq_true rfl)
                · refine W.lcmp hx hb d_Y_wordAsRegister_111 ?_
                  refine lv_if_gt (tgt := 119) hx hb d_Y_wordAsRegister_112 (by decide) (fun h => absurd h (tp_lc_gt_f h8)) (fun _ => ?_)
                  refine lv_iload_n hx hb d_Y_wordAsRegister_115 rfl (lv_at hl 0 rfl) ?_
                  refine lv_if_eq (tgt := 127) hx hb d_Y_wordAsRegister_116 (by decide) (fun _ => ?_) (fun h => absurd (by decide) h)
                  refine lv_lload_n hx hb d_Y_wordAsRegister_127 rfl (lv_at hl 1 rfl) ?_
                  refine lv_l2i (v := rv29.toInt32) hx hb d_Y_wordAsRegister_128 rfl ?_
                  exact tp_widen (k := 2) (n := 12) (Nat.le_of_ble_eq_true rfl) (Nat.le_of_ble_eq_true rfl) (vx_ret (W.iret (v := rv29.toInt32) hx hb hr (fun t ht hW => ⟨⟨_, (), rfl, trivial, by rw [ht]; exact hP, hD⟩, hS.F ht⟩) hS.2.2 d_Y_wordAsRegister_129))
          · refine lv_icmp_eq (tgt := 66) hx hb d_Y_wordAsRegister_55 (by decide) (fun h => absurd h h6) (fun _ => ?_)
            exact vx_throw0 (own := "TwoPass$Typed") (cls := "java/lang/IllegalArgumentException") (names := ["java/lang/RuntimeException", "java/lang/Exception"]) (ik := 69) (ic := 71) hx hb hfl hown (by decide +kernel) (by decide +kernel) (htg _ kl_Y_69) (htg _ kx_IllegalArgumentException) (kxa_Y_71 htg hK.2.2.2.1) kxg_Y_71 hK.2.1 hK.2.2.1 hS (hl.1.trans hml.symm) d_Y_wordAsRegister_58 d_Y_wordAsRegister_61 d_Y_wordAsRegister_62 d_Y_wordAsRegister_65 (fun x h => (htab x h).elim) (Nat.le_of_ble_eq_true rfl) (Nat.le_of_ble_eq_true rfl) (Nat.le_of_ble_eq_true rfl) (Nat.le_of_ble_eq_true rfl) hlocks (fun t hvm hz hq => ⟨(xa, xw, xv), trivial, ⟨rfl, va_P.kept hP (fun k q hk => hq _ (vx_lt hP hk)), hD⟩, ⟨Nat.le_trans hS.1 hz, fun q h1 h2 => (hq q (Nat.lt_of_lt_of_le h1 hS.1)).trans (hS.2.1 q h1 h2)⟩⟩) hS.2.2 (Nat.le_of_ble_eq_true rfl) (Nat.le_of_ble_eq_true rfl)
      · refine lv_if_eq (tgt := 33) hx hb d_Y_wordAsRegister_28 (by decide) (fun h => absurd h h4) (fun _ => ?_)
        refine lv_iconst (v := 2) hx hb d_Y_wordAsRegister_31 (by decide) ?_
        exact tp_widen (k := 2) (n := 12) (Nat.le_of_ble_eq_true rfl) (Nat.le_of_ble_eq_true rfl) (vx_ret (W.iret (v := 2) hx hb hr (fun t ht hW => ⟨⟨_, (), rfl, trivial, by rw [ht]; exact hP, hD⟩, hS.F ht⟩) hS.2.2 d_Y_wordAsRegister_32))
    · refine lv_if_eq (tgt := 22) hx hb d_Y_wordAsRegister_17 (by decide) (fun h => absurd h h3) (fun _ => ?_)
      refine lv_iconst (v := 1) hx hb d_Y_wordAsRegister_20 (by decide) ?_
      exact tp_widen (k := 2) (n := 12) (Nat.le_of_ble_eq_true rfl) (Nat.le_of_ble_eq_true rfl) (vx_ret (W.iret (v := 1) hx hb hr (fun t ht hW => ⟨⟨_, (), rfl, trivial, by rw [ht]; exact hP, hD⟩, hS.F ht⟩) hS.2.2 d_Y_wordAsRegister_21))
  · refine lv_if_eq (tgt := 11) hx hb d_Y_wordAsRegister_6 (by decide) (fun h => absurd h h2) (fun _ => ?_)
    refine lv_iconst (v := 0) hx hb d_Y_wordAsRegister_9 (by decide) ?_
    exact tp_widen (k := 2) (n := 12) (Nat.le_of_ble_eq_true rfl) (Nat.le_of_ble_eq_true rfl) (vx_ret (W.iret (v := 0) hx hb hr (fun t ht hW => ⟨⟨_, (), rfl, trivial, by rw [ht]; exact hP, hD⟩, hS.F ht⟩) hS.2.2 d_Y_wordAsRegister_10))
set_option maxHeartbeats 4000000 in
set_option maxRecDepth 100000 in
theorem s_Y_nextRegister (l : Launch) (hfl : l.stackTraces = false) (E : tp_Env) (fr : va_W) (sz : Nat) (aY aC : Nat) (xc xe xa xw xv : Int32) (fC : Nat → Int32) (hy : sf_Y xe xa) : vx_Met l y_Y_nextRegister w_Y_nextRegister ({ frames := 8, cells := 2, slots := 12, locals := 139 }) (va_Pc [.ref aY] (tp_in E ((aY, .inr (1, [.ref aC, .int xc, .int xe, .int xa, .int xw, .int xv])) :: (aC, .inl (tp_ty E 4, 28, .inl fC)) :: fr) sz)) (va_Qi (fun r (u : Int32 × Int32 × Int32) => sf_Y xe u.1) (fun u t => tp_out E (va_A ((aY, .inr (1, [.ref aC, .int xc, .int xe, .int xa, .int xw, .int xv])) :: (aC, .inl (tp_ty E 4, 28, .inl fC)) :: fr) sz) ((aY, .inr (1, [.ref aC, .int xc, .int xe, .int u.1, .int u.2.1, .int u.2.2])) :: (aC, .inl (tp_ty E 4, 28, .inl fC)) :: fr) t) (va_A ((aY, .inr (1, [.ref aC, .int xc, .int xe, .int xa, .int xw, .int xv])) :: (aC, .inl (tp_ty E 4, 28, .inl fC)) :: fr) sz)) (vx_X (fun (_ : Int32 × Int32 × Int32) => True) (fun x u t => x = "java/lang/IllegalArgumentException" ∧ tp_out E (va_A ((aY, .inr (1, [.ref aC, .int xc, .int xe, .int xa, .int xw, .int xv])) :: (aC, .inl (tp_ty E 4, 28, .inl fC)) :: fr) sz) ((aY, .inr (1, [.ref aC, .int xc, .int xe, .int u.1, .int u.2.1, .int u.2.2])) :: (aC, .inl (tp_ty E 4, 28, .inl fC)) :: fr) t) (va_A ((aY, .inr (1, [.ref aC, .int xc, .int xe, .int xa, .int xw, .int xv])) :: (aC, .inl (tp_ty E 4, 28, .inl fC)) :: fr) sz)) 2 12 (va_A ((aY, .inr (1, [.ref aC, .int xc, .int xe, .int xa, .int xw, .int xv])) :: (aC, .inl (tp_ty E 4, 28, .inl fC)) :: fr) sz) := by
  refine vx_ofW (cc := b_Y_nextRegister) (maxL := 1) (ret := (some .int)) (by decide) rfl ?_
  intro p e s m args below meth c s₁ B hml htab hv
  obtain ⟨rfl, hsz, hP, hK, hD0⟩ := hv
  have hx := B.exec
  have hb := B.bytes
  have hr := B.returns
  have htg : ∀ w ∈ tp_G, w.before ([.ref aY] : List Value).toArray s = true := fun w h => atoms_spec (ws := w_Y_nextRegister) B.pre w (List.mem_cons_of_mem _ h)
  have hown : s.vm.findClass "TwoPass$Typed" = some m.cls := findClass_of_methodNamed B.named
  have hlocks := B.notSynchronized
  subst hsz
  have hD := hD0.self (sz := s.heap.size)
  generalize hAe : va_A ((aY, .inr (1, [.ref aC, .int xc, .int xe, .int xa, .int xw, .int xv])) :: (aC, .inl (tp_ty E 4, 28, .inl fC)) :: fr) s.heap.size = A at hD hK ⊢
  have hA : ∀ q : Nat, s.heap.size ≤ q → A q := fun q h => by rw [← hAe]; exact Or.inr h
  have hS : va_S A s.heap s.heap [] := va_S.rf
  have hl := lv_entry ([.ref aY]) (n := 1) (Nat.le_of_ble_eq_true rfl)
  rw [lg_entry_eq]
  generalize (lg_sl ([.ref aY]) ++ List.replicate (1 - (lg_sl ([.ref aY])).length) Slot.unset).toArray = ls at hl ⊢
  have hl : lv_has ls 1 [(0, .ref aY)] := hl
  refine lv_aload_n hx hb d_Y_nextRegister_0 rfl (lv_at hl 0 rfl) ?_
  refine tp_cv (tp_rV (As := []) (rest := []) ⟨hx, hb, hml, hown, htg⟩ (s_Y_nextWord l E fr _ aY aC xc xe xa xw xv fC hy) (⟨callB_of 0 htg (tp_good0 kc_Y_nextWord) rfl rfl rfl (htg _ ki_Y) (htg _ kl_Y_28) ⟨by decide, by decide, by decide +kernel⟩ ⟨Nat.le_of_ble_eq_true rfl, Nat.le_of_ble_eq_true rfl⟩, htg _ km_Y_nextWord, htg _ kp_Y_nextWord⟩) (va_recv (ci := 1) (q0 := 0) hK.1 hP rfl rfl) hK hP hD hS hA rfl hl.1 rfl (Nat.le_of_ble_eq_true rfl) d_Y_nextRegister_1 ⟨Nat.le_of_ble_eq_true rfl, Nat.le_of_ble_eq_true rfl⟩) hD hS hA (fun u H locs hw hP hD hS => ?_)
  obtain ⟨at30, ws30, we30⟩ := u
  have hw30 : sf_W xe ws30 we30 at30 := hw
  have hP : va_P (tp_D E) tp_cl ((aY, .inr (1, [.ref aC, .int xc, .int xe, .int at30, .int ws30, .int we30])) :: (aC, .inl (tp_ty E 4, 28, .inl fC)) :: fr) H := hP
  have hD : va_D A ((aY, .inr (1, [.ref aC, .int xc, .int xe, .int at30, .int ws30, .int we30])) :: (aC, .inl (tp_ty E 4, 28, .inl fC)) :: fr) := hD
  refine lv_aload_n hx hb d_Y_nextRegister_4 rfl (lv_at hl 0 rfl) ?_
  refine sf_bi (tp_xV (As := []) (rest := []) ⟨hx, hb, hml, hown, htg⟩ (s_Y_wordAsRegister l hfl E fr _ aY aC xc xe at30 ws30 we30 fC (sf_WV hw30)) (⟨callB_of 0 htg (tp_good0 kc_Y_wordAsRegister) rfl rfl rfl (htg _ ki_Y) (htg _ kl_Y_106) ⟨by decide, by decide, by decide +kernel⟩ ⟨Nat.le_of_ble_eq_true rfl, Nat.le_of_ble_eq_true rfl⟩, htg _ km_Y_wordAsRegister, htg _ kp_Y_wordAsRegister⟩) (va_recv (ci := 1) (q0 := 0) hK.1 hP rfl rfl) hK hP hD hS hA rfl hl.1 rfl (Nat.le_of_ble_eq_true rfl) d_Y_nextRegister_5 ⟨Nat.le_of_ble_eq_true rfl, Nat.le_of_ble_eq_true rfl⟩) hD hS hA (fun ce q xu H locs hpx hP hD hS hce hcv hcl => ?_) (fun rv31 u H locs hw hP hD hS => ?_)
  · have hP : va_P (tp_D E) tp_cl ((aY, .inr (1, [.ref aC, .int xc, .int xe, .int xu.1, .int xu.2.1, .int xu.2.2])) :: (aC, .inl (tp_ty E 4, 28, .inl fC)) :: fr) H := hP
    have hD : va_D A ((aY, .inr (1, [.ref aC, .int xc, .int xe, .int xu.1, .int xu.2.1, .int xu.2.2])) :: (aC, .inl (tp_ty E 4, 28, .inl fC)) :: fr) := hD
    exact vx_out (fun x h => (htab x h).elim) hlocks hce hcv hcl (fun t ht hvm => ⟨(xu.1, xu.2.1, xu.2.2), trivial, ⟨rfl, by rw [ht]; exact hP, hD⟩, hS.F ht⟩) hS.2.2 (Nat.le_of_ble_eq_true rfl) (Nat.le_of_ble_eq_true rfl)
  · have hP : va_P (tp_D E) tp_cl ((aY, .inr (1, [.ref aC, .int xc, .int xe, .int at30, .int ws30, .int we30])) :: (aC, .inl (tp_ty E 4, 28, .inl fC)) :: fr) H := hP
    have hD : va_D A ((aY, .inr (1, [.ref aC, .int xc, .int xe, .int at30, .int ws30, .int we30])) :: (aC, .inl (tp_ty E 4, 28, .inl fC)) :: fr) := hD
    exact vx_ret (W.iret (v := rv31) hx hb hr (fun t ht hW => ⟨⟨_, (at30, ws30, we30), rfl, (sf_WY hw30), by rw [ht]; exact hP, hD⟩, hS.F ht⟩) hS.2.2 d_Y_nextRegister_8)
set_option maxHeartbeats 4000000 in
set_option maxRecDepth 100000 in
theorem s_Y_readOperand (l : Launch) (hfl : l.stackTraces = false) (E : tp_Env) (fr : va_W) (sz : Nat) (aY aC : Nat) (xc xe xa xw xv : Int32) (fC : Nat → Int32) (aN : Nat) (zb : Int32) (zo : Nat) (zd zs zt : Int32) (zn : Int64) (zm zp zf zu zv : Int32) (xk : Int32) (hy : sf_Y xe xa) (hzo : zo < 47) : vx_Met l y_Y_readOperand w_Y_readOperand ({ frames := 9, cells := 2, slots := 12, locals := 162 }) (va_Pc [.ref aY, .ref aN, .int xk] (tp_in E ((aY, .inr (1, [.ref aC, .int xc, .int xe, .int xa, .int xw, .int xv])) :: (aC, .inl (tp_ty E 4, 28, .inl fC)) :: (aN, .inr (3, [.int zb, .ref (tp_ad E zo), .int zd, .int zs, .int zt, .long zn, .int zm, .int zp, .int zf, .int zu, .int zv])) :: fr) sz)) (va_Qv (fun (u : Int32 × Int32 × Int32 × Int32 × Int32 × Int32 × Int64 × Int32) => sf_Y xe u.1) (fun u t => tp_out E (va_A ((aY, .inr (1, [.ref aC, .int xc, .int xe, .int xa, .int xw, .int xv])) :: (aC, .inl (tp_ty E 4, 28, .inl fC)) :: (aN, .inr (3, [.int zb, .ref (tp_ad E zo), .int zd, .int zs, .int zt, .long zn, .int zm, .int zp, .int zf, .int zu, .int zv])) :: fr) sz) ((aY, .inr (1, [.ref aC, .int xc, .int xe, .int u.1, .int u.2.1, .int u.2.2.1])) :: (aC, .inl (tp_ty E 4, 28, .inl fC)) :: (aN, .inr (3, [.int zb, .ref (tp_ad E zo), .int u.2.2.2.1, .int u.2.2.2.2.1, .int u.2.2.2.2.2.1, .long u.2.2.2.2.2.2.1, .int u.2.2.2.2.2.2.2, .int zp, .int zf, .int zu, .int zv])) :: fr) t) (va_A ((aY, .inr (1, [.ref aC, .int xc, .int xe, .int xa, .int xw, .int xv])) :: (aC, .inl (tp_ty E 4, 28, .inl fC)) :: (aN, .inr (3, [.int zb, .ref (tp_ad E zo), .int zd, .int zs, .int zt, .long zn, .int zm, .int zp, .int zf, .int zu, .int zv])) :: fr) sz)) (vx_X (fun (_ : Int32 × Int32 × Int32 × Int32 × Int32 × Int32 × Int64 × Int32) => True) (fun x u t => x = "java/lang/IllegalArgumentException" ∧ tp_out E (va_A ((aY, .inr (1, [.ref aC, .int xc, .int xe, .int xa, .int xw, .int xv])) :: (aC, .inl (tp_ty E 4, 28, .inl fC)) :: (aN, .inr (3, [.int zb, .ref (tp_ad E zo), .int zd, .int zs, .int zt, .long zn, .int zm, .int zp, .int zf, .int zu, .int zv])) :: fr) sz) ((aY, .inr (1, [.ref aC, .int xc, .int xe, .int u.1, .int u.2.1, .int u.2.2.1])) :: (aC, .inl (tp_ty E 4, 28, .inl fC)) :: (aN, .inr (3, [.int zb, .ref (tp_ad E zo), .int u.2.2.2.1, .int u.2.2.2.2.1, .int u.2.2.2.2.2.1, .long u.2.2.2.2.2.2.1, .int u.2.2.2.2.2.2.2, .int zp, .int zf, .int zu, .int zv])) :: fr) t) (va_A ((aY, .inr (1, [.ref aC, .int xc, .int xe, .int xa, .int xw, .int xv])) :: (aC, .inl (tp_ty E 4, 28, .inl fC)) :: (aN, .inr (3, [.int zb, .ref (tp_ad E zo), .int zd, .int zs, .int zt, .long zn, .int zm, .int zp, .int zf, .int zu, .int zv])) :: fr) sz)) 2 12 (va_A ((aY, .inr (1, [.ref aC, .int xc, .int xe, .int xa, .int xw, .int xv])) :: (aC, .inl (tp_ty E 4, 28, .inl fC)) :: (aN, .inr (3, [.int zb, .ref (tp_ad E zo), .int zd, .int zs, .int zt, .long zn, .int zm, .int zp, .int zf, .int zu, .int zv])) :: fr) sz) := by
  refine vx_ofW (cc := b_Y_readOperand) (maxL := 3) (ret := none) (by decide) rfl ?_
  intro p e s m args below meth c s₁ B hml htab hv
  obtain ⟨rfl, hsz, hP, hK, hD0⟩ := hv
  have hx := B.exec
  have hb := B.bytes
  have hr := B.returns
  have htg : ∀ w ∈ tp_G, w.before ([.ref aY, .ref aN, .int xk] : List Value).toArray s = true := fun w h => atoms_spec (ws := w_Y_readOperand) B.pre w (List.mem_cons_of_mem _ h)
  have hown : s.vm.findClass "TwoPass$Typed" = some m.cls := findClass_of_methodNamed B.named
  have hlocks := B.notSynchronized
  subst hsz
  have hD := hD0.self (sz := s.heap.size)
  generalize hAe : va_A ((aY, .inr (1, [.ref aC, .int xc, .int xe, .int xa, .int xw, .int xv])) :: (aC, .inl (tp_ty E 4, 28, .inl fC)) :: (aN, .inr (3, [.int zb, .ref (tp_ad E zo), .int zd, .int zs, .int zt, .long zn, .int zm, .int zp, .int zf, .int zu, .int zv])) :: fr) s.heap.size = A at hD hK ⊢
  have hA : ∀ q : Nat, s.heap.size ≤ q → A q := fun q h => by rw [← hAe]; exact Or.inr h
  have hS : va_S A s.heap s.heap [] := va_S.rf
  have hl := lv_entry ([.ref aY, .ref aN, .int xk]) (n := 3) (Nat.le_of_ble_eq_true rfl)
  rw [lg_entry_eq]
  generalize (lg_sl ([.ref aY, .ref aN, .int xk]) ++ List.replicate (3 - (lg_sl ([.ref aY, .ref aN, .int xk])).length) Slot.unset).toArray = ls at hl ⊢
  have hl : lv_has ls 3 [(0, .ref aY), (1, .ref aN), (2, .int xk)] := hl
  refine lv_iload_n hx hb d_Y_readOperand_0 rfl (lv_at hl 2 rfl) ?_
  by_cases h3 : xk = 100
  · refine lv_lookup (off := 51) (tgt := 52) hx hb d_Y_readOperand_1 (by decide) (by rw [h3]; decide) (by decide) ?_
    refine lv_aload_n hx hb d_Y_readOperand_52 rfl (lv_at hl 1 rfl) ?_
    refine lv_aload_n hx hb d_Y_readOperand_53 rfl (lv_at hl 0 rfl) ?_
    refine sf_bi (tp_xV (As := []) (rest := [.ref aN]) ⟨hx, hb, hml, hown, htg⟩ (s_Y_nextRegister l hfl E ((aN, .inr (3, [.int zb, .ref (tp_ad E zo), .int zd, .int zs, .int zt, .long zn, .int zm, .int zp, .int zf, .int zu, .int zv])) :: fr) _ aY aC xc xe xa xw xv fC hy) (⟨callB_of 0 htg (tp_good0 kc_Y_nextRegister) rfl rfl rfl (htg _ ki_Y) (htg _ kl_Y_72) ⟨by decide, by decide, by decide +kernel⟩ ⟨Nat.le_of_ble_eq_true rfl, Nat.le_of_ble_eq_true rfl⟩, htg _ km_Y_nextRegister, htg _ kp_Y_nextRegister⟩) (va_recv (ci := 1) (q0 := 0) hK.1 hP rfl rfl) hK hP hD hS hA rfl hl.1 rfl (Nat.le_of_ble_eq_true rfl) d_Y_readOperand_54 ⟨Nat.le_of_ble_eq_true rfl, Nat.le_of_ble_eq_true rfl⟩) hD hS hA (fun ce q xu H locs hpx hP hD hS hce hcv hcl => ?_) (fun rv32 u H locs hw hP hD hS => ?_)
    · have hP : va_P (tp_D E) tp_cl ((aY, .inr (1, [.ref aC, .int xc, .int xe, .int xu.1, .int xu.2.1, .int xu.2.2])) :: (aC, .inl (tp_ty E 4, 28, .inl fC)) :: (aN, .inr (3, [.int zb, .ref (tp_ad E zo), .int zd, .int zs, .int zt, .long zn, .int zm, .int zp, .int zf, .int zu, .int zv])) :: fr) H := hP
      have hD : va_D A ((aY, .inr (1, [.ref aC, .int xc, .int xe, .int xu.1, .int xu.2.1, .int xu.2.2])) :: (aC, .inl (tp_ty E 4, 28, .inl fC)) :: (aN, .inr (3, [.int zb, .ref (tp_ad E zo), .int zd, .int zs, .int zt, .long zn, .int zm, .int zp, .int zf, .int zu, .int zv])) :: fr) := hD
      exact vx_out (fun x h => (htab x h).elim) hlocks hce hcv hcl (fun t ht hvm => ⟨(xu.1, xu.2.1, xu.2.2, zd, zs, zt, zn, zm), trivial, ⟨rfl, by rw [ht]; exact hP, hD⟩, hS.F ht⟩) hS.2.2 (Nat.le_of_ble_eq_true rfl) (Nat.le_of_ble_eq_true rfl)
    · obtain ⟨at33, ws33, we33⟩ := u
      have hz33 : sf_Y xe at33 := hw
      have hP : va_P (tp_D E) tp_cl ((aY, .inr (1, [.ref aC, .int xc, .int xe, .int at33, .int ws33, .int we33])) :: (aC, .inl (tp_ty E 4, 28, .inl fC)) :: (aN, .inr (3, [.int zb, .ref (tp_ad E zo), .int zd, .int zs, .int zt, .long zn, .int zm, .int zp, .int zf, .int zu, .int zv])) :: fr) H := hP
      have hD : va_D A ((aY, .inr (1, [.ref aC, .int xc, .int xe, .int at33, .int ws33, .int we33])) :: (aC, .inl (tp_ty E 4, 28, .inl fC)) :: (aN, .inr (3, [.int zb, .ref (tp_ad E zo), .int zd, .int zs, .int zt, .long zn, .int zm, .int zp, .int zf, .int zu, .int zv])) :: fr) := hD
      refine va_put (D := tp_D E) (ci := 3) (v := .int rv32) (ty := .int) (C := qR_N) (T := qF_N) (N := 11) hx hb htg qi_N qt_N qt_N_ok qn_N hown hK.1 hP hD hS 2 rfl rfl 2 (by decide) (htg _ kl_Y_75) (fun _ h => h) rfl (by decide +kernel) rfl rfl (Nat.le_of_ble_eq_true rfl) d_Y_readOperand_57 (fun H locs hP hD hS => ?_)
      have hP : va_P (tp_D E) tp_cl ((aY, .inr (1, [.ref aC, .int xc, .int xe, .int at33, .int ws33, .int we33])) :: (aC, .inl (tp_ty E 4, 28, .inl fC)) :: (aN, .inr (3, [.int zb, .ref (tp_ad E zo), .int rv32, .int zs, .int zt, .long zn, .int zm, .int zp, .int zf, .int zu, .int zv])) :: fr) H := hP
      have hD : va_D A ((aY, .inr (1, [.ref aC, .int xc, .int xe, .int at33, .int ws33, .int we33])) :: (aC, .inl (tp_ty E 4, 28, .inl fC)) :: (aN, .inr (3, [.int zb, .ref (tp_ad E zo), .int rv32, .int zs, .int zt, .long zn, .int zm, .int zp, .int zf, .int zu, .int zv])) :: fr) := hD
      refine lv_goto (tgt := 130) hx hb d_Y_readOperand_60 (by decide) ?_
      exact vx_ret (W.vret hx hb hr (fun t ht hW => ⟨⟨(at33, ws33, we33, rv32, zs, zt, zn, zm), rfl, hz33, by rw [ht]; exact hP, hD⟩, hS.F ht⟩) hS.2.2 d_Y_readOperand_130)
  · by_cases h4 : xk = 105
    · refine lv_lookup (off := 84) (tgt := 85) hx hb d_Y_readOperand_1 (by decide) (by rw [h4]; decide) (by decide) ?_
      refine lv_aload_n hx hb d_Y_readOperand_85 rfl (lv_at hl 1 rfl) ?_
      refine lv_aload_n hx hb d_Y_readOperand_86 rfl (lv_at hl 0 rfl) ?_
      refine lv_aload_n hx hb d_Y_readOperand_87 rfl (lv_at hl 1 rfl) ?_
      refine va_get (D := tp_D E) (ci := 3) (v := .ref (tp_ad E zo)) (C := qR_N) (T := qF_N) (N := 11) hx hb htg qi_N hown hK.1 hP 2 rfl rfl 1 (by decide) (htg _ kl_Y_46) (fun _ h => h) rfl d_Y_readOperand_88 ?_
      refine tp_cl_ (tp_rV (As := []) (rest := [.ref aY, .ref aN]) ⟨hx, hb, hml, hown, htg⟩ (s_O_leastNumber l E ((aY, .inr (1, [.ref aC, .int xc, .int xe, .int xa, .int xw, .int xv])) :: (aC, .inl (tp_ty E 4, 28, .inl fC)) :: (aN, .inr (3, [.int zb, .ref (tp_ad E zo), .int zd, .int zs, .int zt, .long zn, .int zm, .int zp, .int zf, .int zu, .int zv])) :: fr) _ zo hzo ) (⟨callB_of 0 htg (tp_good0 kc_O_leastNumber) rfl rfl rfl (htg _ ki_O) (htg _ kl_Y_84) ⟨by decide, by decide, by decide +kernel⟩ ⟨Nat.le_of_ble_eq_true rfl, Nat.le_of_ble_eq_true rfl⟩, htg _ km_O_leastNumber, htg _ kv_O_O_leastNumber⟩) (hK.opO (i := zo) hzo hS) hK hP hD hS hA rfl hl.1 rfl (Nat.le_of_ble_eq_true rfl) d_Y_readOperand_91 ⟨Nat.le_of_ble_eq_true rfl, Nat.le_of_ble_eq_true rfl⟩) hD hS hA (fun on34 u H locs hw hP hD hS => ?_)
      have hP : va_P (tp_D E) tp_cl ((aY, .inr (1, [.ref aC, .int xc, .int xe, .int xa, .int xw, .int xv])) :: (aC, .inl (tp_ty E 4, 28, .inl fC)) :: (aN, .inr (3, [.int zb, .ref (tp_ad E zo), .int zd, .int zs, .int zt, .long zn, .int zm, .int zp, .int zf, .int zu, .int zv])) :: fr) H := hP
      have hD : va_D A ((aY, .inr (1, [.ref aC, .int xc, .int xe, .int xa, .int xw, .int xv])) :: (aC, .inl (tp_ty E 4, 28, .inl fC)) :: (aN, .inr (3, [.int zb, .ref (tp_ad E zo), .int zd, .int zs, .int zt, .long zn, .int zm, .int zp, .int zf, .int zu, .int zv])) :: fr) := hD
      refine lv_aload_n hx hb d_Y_readOperand_94 rfl (lv_at hl 1 rfl) ?_
      refine va_get (D := tp_D E) (ci := 3) (v := .ref (tp_ad E zo)) (C := qR_N) (T := qF_N) (N := 11) hx hb htg qi_N hown hK.1 hP 2 rfl rfl 1 (by decide) (htg _ kl_Y_46) (fun _ h => h) rfl d_Y_readOperand_95 ?_
      refine tp_cl_ (tp_rV (As := []) (rest := [.long on34, .ref aY, .ref aN]) ⟨hx, hb, hml, hown, htg⟩ (s_O_mostNumber l E ((aY, .inr (1, [.ref aC, .int xc, .int xe, .int xa, .int xw, .int xv])) :: (aC, .inl (tp_ty E 4, 28, .inl fC)) :: (aN, .inr (3, [.int zb, .ref (tp_ad E zo), .int zd, .int zs, .int zt, .long zn, .int zm, .int zp, .int zf, .int zu, .int zv])) :: fr) _ zo hzo ) (⟨callB_of 0 htg (tp_good0 kc_O_mostNumber) rfl rfl rfl (htg _ ki_O) (htg _ kl_Y_88) ⟨by decide, by decide, by decide +kernel⟩ ⟨Nat.le_of_ble_eq_true rfl, Nat.le_of_ble_eq_true rfl⟩, htg _ km_O_mostNumber, htg _ kv_O_O_mostNumber⟩) (hK.opO (i := zo) hzo hS) hK hP hD hS hA rfl hl.1 rfl (Nat.le_of_ble_eq_true rfl) d_Y_readOperand_98 ⟨Nat.le_of_ble_eq_true rfl, Nat.le_of_ble_eq_true rfl⟩) hD hS hA (fun on35 u H locs hw hP hD hS => ?_)
      have hP : va_P (tp_D E) tp_cl ((aY, .inr (1, [.ref aC, .int xc, .int xe, .int xa, .int xw, .int xv])) :: (aC, .inl (tp_ty E 4, 28, .inl fC)) :: (aN, .inr (3, [.int zb, .ref (tp_ad E zo), .int zd, .int zs, .int zt, .long zn, .int zm, .int zp, .int zf, .int zu, .int zv])) :: fr) H := hP
      have hD : va_D A ((aY, .inr (1, [.ref aC, .int xc, .int xe, .int xa, .int xw, .int xv])) :: (aC, .inl (tp_ty E 4, 28, .inl fC)) :: (aN, .inr (3, [.int zb, .ref (tp_ad E zo), .int zd, .int zs, .int zt, .long zn, .int zm, .int zp, .int zf, .int zu, .int zv])) :: fr) := hD
      refine sf_bl (tp_xV (As := [.long on34, .long on35]) (rest := [.ref aN]) ⟨hx, hb, hml, hown, htg⟩ (s_Y_nextNumber l hfl E ((aN, .inr (3, [.int zb, .ref (tp_ad E zo), .int zd, .int zs, .int zt, .long zn, .int zm, .int zp, .int zf, .int zu, .int zv])) :: fr) _ aY aC xc xe xa xw xv fC on34 on35 hy) (⟨callB_of 2 htg (tp_good0 kc_Y_nextNumber) rfl rfl rfl (htg _ ki_Y) (htg _ kl_Y_91) ⟨by decide, by decide, by decide +kernel⟩ ⟨Nat.le_of_ble_eq_true rfl, Nat.le_of_ble_eq_true rfl⟩, htg _ km_Y_nextNumber, htg _ kp_Y_nextNumber⟩) (va_recv (ci := 1) (q0 := 0) hK.1 hP rfl rfl) hK hP hD hS hA rfl hl.1 rfl (Nat.le_of_ble_eq_true rfl) d_Y_readOperand_101 ⟨Nat.le_of_ble_eq_true rfl, Nat.le_of_ble_eq_true rfl⟩) hD hS hA (fun ce q xu H locs hpx hP hD hS hce hcv hcl => ?_) (fun rv36 u H locs hw hP hD hS => ?_)
      · have hP : va_P (tp_D E) tp_cl ((aY, .inr (1, [.ref aC, .int xc, .int xe, .int xu.1, .int xu.2.1, .int xu.2.2])) :: (aC, .inl (tp_ty E 4, 28, .inl fC)) :: (aN, .inr (3, [.int zb, .ref (tp_ad E zo), .int zd, .int zs, .int zt, .long zn, .int zm, .int zp, .int zf, .int zu, .int zv])) :: fr) H := hP
        have hD : va_D A ((aY, .inr (1, [.ref aC, .int xc, .int xe, .int xu.1, .int xu.2.1, .int xu.2.2])) :: (aC, .inl (tp_ty E 4, 28, .inl fC)) :: (aN, .inr (3, [.int zb, .ref (tp_ad E zo), .int zd, .int zs, .int zt, .long zn, .int zm, .int zp, .int zf, .int zu, .int zv])) :: fr) := hD
        exact vx_out (fun x h => (htab x h).elim) hlocks hce hcv hcl (fun t ht hvm => ⟨(xu.1, xu.2.1, xu.2.2, zd, zs, zt, zn, zm), trivial, ⟨rfl, by rw [ht]; exact hP, hD⟩, hS.F ht⟩) hS.2.2 (Nat.le_of_ble_eq_true rfl) (Nat.le_of_ble_eq_true rfl)
      · obtain ⟨at37, ws37, we37⟩ := u
        have hz37 : sf_Y xe at37 := hw
        have hP : va_P (tp_D E) tp_cl ((aY, .inr (1, [.ref aC, .int xc, .int xe, .int at37, .int ws37, .int we37])) :: (aC, .inl (tp_ty E 4, 28, .inl fC)) :: (aN, .inr (3, [.int zb, .ref (tp_ad E zo), .int zd, .int zs, .int zt, .long zn, .int zm, .int zp, .int zf, .int zu, .int zv])) :: fr) H := hP
        have hD : va_D A ((aY, .inr (1, [.ref aC, .int xc, .int xe, .int at37, .int ws37, .int we37])) :: (aC, .inl (tp_ty E 4, 28, .inl fC)) :: (aN, .inr (3, [.int zb, .ref (tp_ad E zo), .int zd, .int zs, .int zt, .long zn, .int zm, .int zp, .int zf, .int zu, .int zv])) :: fr) := hD
        refine va_put (D := tp_D E) (ci := 3) (v := .long rv36) (ty := .long) (C := qR_N) (T := qF_N) (N := 11) hx hb htg qi_N qt_N qt_N_ok qn_N hown hK.1 hP hD hS 2 rfl rfl 5 (by decide) (htg _ kl_Y_95) (fun _ h => h) rfl (by decide +kernel) rfl rfl (Nat.le_of_ble_eq_true rfl) d_Y_readOperand_104 (fun H locs hP hD hS => ?_)
        have hP : va_P (tp_D E) tp_cl ((aY, .inr (1, [.ref aC, .int xc, .int xe, .int at37, .int ws37, .int we37])) :: (aC, .inl (tp_ty E 4, 28, .inl fC)) :: (aN, .inr (3, [.int zb, .ref (tp_ad E zo), .int zd, .int zs, .int zt, .long rv36, .int zm, .int zp, .int zf, .int zu, .int zv])) :: fr) H := hP
        have hD : va_D A ((aY, .inr (1, [.ref aC, .int xc, .int xe, .int at37, .int ws37, .int we37])) :: (aC, .inl (tp_ty E 4, 28, .inl fC)) :: (aN, .inr (3, [.int zb, .ref (tp_ad E zo), .int zd, .int zs, .int zt, .long rv36, .int zm, .int zp, .int zf, .int zu, .int zv])) :: fr) := hD
        refine lv_goto (tgt := 130) hx hb d_Y_readOperand_107 (by decide) ?_
        exact vx_ret (W.vret hx hb hr (fun t ht hW => ⟨⟨(at37, ws37, we37, zd, zs, zt, rv36, zm), rfl, hz37, by rw [ht]; exact hP, hD⟩, hS.F ht⟩) hS.2.2 d_Y_readOperand_130)
    · by_cases h5 : xk = 108
      · refine lv_lookup (off := 109) (tgt := 110) hx hb d_Y_readOperand_1 (by decide) (by rw [h5]; decide) (by decide) ?_
        refine lv_aload_n hx hb d_Y_readOperand_110 rfl (lv_at hl 0 rfl) ?_
        refine tp_cv (tp_rV (As := []) (rest := []) ⟨hx, hb, hml, hown, htg⟩ (s_Y_nextWord l E ((aN, .inr (3, [.int zb, .ref (tp_ad E zo), .int zd, .int zs, .int zt, .long zn, .int zm, .int zp, .int zf, .int zu, .int zv])) :: fr) _ aY aC xc xe xa xw xv fC hy) (⟨callB_of 0 htg (tp_good0 kc_Y_nextWord) rfl rfl rfl (htg _ ki_Y) (htg _ kl_Y_28) ⟨by decide, by decide, by decide +kernel⟩ ⟨Nat.le_of_ble_eq_true rfl, Nat.le_of_ble_eq_true rfl⟩, htg _ km_Y_nextWord, htg _ kp_Y_nextWord⟩) (va_recv (ci := 1) (q0 := 0) hK.1 hP rfl rfl) hK hP hD hS hA rfl hl.1 rfl (Nat.le_of_ble_eq_true rfl) d_Y_readOperand_111 ⟨Nat.le_of_ble_eq_true rfl, Nat.le_of_ble_eq_true rfl⟩) hD hS hA (fun u H locs hw hP hD hS => ?_)
        obtain ⟨at38, ws38, we38⟩ := u
        have hw38 : sf_W xe ws38 we38 at38 := hw
        have hP : va_P (tp_D E) tp_cl ((aY, .inr (1, [.ref aC, .int xc, .int xe, .int at38, .int ws38, .int we38])) :: (aC, .inl (tp_ty E 4, 28, .inl fC)) :: (aN, .inr (3, [.int zb, .ref (tp_ad E zo), .int zd, .int zs, .int zt, .long zn, .int zm, .int zp, .int zf, .int zu, .int zv])) :: fr) H := hP
        have hD : va_D A ((aY, .inr (1, [.ref aC, .int xc, .int xe, .int at38, .int ws38, .int we38])) :: (aC, .inl (tp_ty E 4, 28, .inl fC)) :: (aN, .inr (3, [.int zb, .ref (tp_ad E zo), .int zd, .int zs, .int zt, .long zn, .int zm, .int zp, .int zf, .int zu, .int zv])) :: fr) := hD
        refine lv_aload_n hx hb d_Y_readOperand_114 rfl (lv_at hl 1 rfl) ?_
        refine lv_aload_n hx hb d_Y_readOperand_115 rfl (lv_at hl 0 rfl) ?_
        refine sf_bi (tp_xV (As := []) (rest := [.ref aN]) ⟨hx, hb, hml, hown, htg⟩ (s_Y_wordAsName l hfl E ((aN, .inr (3, [.int zb, .ref (tp_ad E zo), .int zd, .int zs, .int zt, .long zn, .int zm, .int zp, .int zf, .int zu, .int zv])) :: fr) _ aY aC xc xe at38 ws38 we38 fC (sf_WV hw38)) (⟨callB_of 0 htg (tp_good0 kc_Y_wordAsName) rfl rfl rfl (htg _ ki_Y) (htg _ kl_Y_35) ⟨by decide, by decide, by decide +kernel⟩ ⟨Nat.le_of_ble_eq_true rfl, Nat.le_of_ble_eq_true rfl⟩, htg _ km_Y_wordAsName, htg _ kp_Y_wordAsName⟩) (va_recv (ci := 1) (q0 := 0) hK.1 hP rfl rfl) hK hP hD hS hA rfl hl.1 rfl (Nat.le_of_ble_eq_true rfl) d_Y_readOperand_116 ⟨Nat.le_of_ble_eq_true rfl, Nat.le_of_ble_eq_true rfl⟩) hD hS hA (fun ce q xu H locs hpx hP hD hS hce hcv hcl => ?_) (fun rv39 u H locs hw hP hD hS => ?_)
        · have hP : va_P (tp_D E) tp_cl ((aY, .inr (1, [.ref aC, .int xc, .int xe, .int xu.1, .int xu.2.1, .int xu.2.2])) :: (aC, .inl (tp_ty E 4, 28, .inl fC)) :: (aN, .inr (3, [.int zb, .ref (tp_ad E zo), .int zd, .int zs, .int zt, .long zn, .int zm, .int zp, .int zf, .int zu, .int zv])) :: fr) H := hP
          have hD : va_D A ((aY, .inr (1, [.ref aC, .int xc, .int xe, .int xu.1, .int xu.2.1, .int xu.2.2])) :: (aC, .inl (tp_ty E 4, 28, .inl fC)) :: (aN, .inr (3, [.int zb, .ref (tp_ad E zo), .int zd, .int zs, .int zt, .long zn, .int zm, .int zp, .int zf, .int zu, .int zv])) :: fr) := hD
          exact vx_out (fun x h => (htab x h).elim) hlocks hce hcv hcl (fun t ht hvm => ⟨(xu.1, xu.2.1, xu.2.2, zd, zs, zt, zn, zm), trivial, ⟨rfl, by rw [ht]; exact hP, hD⟩, hS.F ht⟩) hS.2.2 (Nat.le_of_ble_eq_true rfl) (Nat.le_of_ble_eq_true rfl)
        · have hP : va_P (tp_D E) tp_cl ((aY, .inr (1, [.ref aC, .int xc, .int xe, .int at38, .int ws38, .int we38])) :: (aC, .inl (tp_ty E 4, 28, .inl fC)) :: (aN, .inr (3, [.int zb, .ref (tp_ad E zo), .int zd, .int zs, .int zt, .long zn, .int zm, .int zp, .int zf, .int zu, .int zv])) :: fr) H := hP
          have hD : va_D A ((aY, .inr (1, [.ref aC, .int xc, .int xe, .int at38, .int ws38, .int we38])) :: (aC, .inl (tp_ty E 4, 28, .inl fC)) :: (aN, .inr (3, [.int zb, .ref (tp_ad E zo), .int zd, .int zs, .int zt, .long zn, .int zm, .int zp, .int zf, .int zu, .int zv])) :: fr) := hD
          refine va_put (D := tp_D E) (ci := 3) (v := .int rv39) (ty := .int) (C := qR_N) (T := qF_N) (N := 11) hx hb htg qi_N qt_N qt_N_ok qn_N hown hK.1 hP hD hS 2 rfl rfl 6 (by decide) (htg _ kl_Y_99) (fun _ h => h) rfl (by decide +kernel) rfl rfl (Nat.le_of_ble_eq_true rfl) d_Y_readOperand_119 (fun H locs hP hD hS => ?_)
          have hP : va_P (tp_D E) tp_cl ((aY, .inr (1, [.ref aC, .int xc, .int xe, .int at38, .int ws38, .int we38])) :: (aC, .inl (tp_ty E 4, 28, .inl fC)) :: (aN, .inr (3, [.int zb, .ref (tp_ad E zo), .int zd, .int zs, .int zt, .long zn, .int rv39, .int zp, .int zf, .int zu, .int zv])) :: fr) H := hP
          have hD : va_D A ((aY, .inr (1, [.ref aC, .int xc, .int xe, .int at38, .int ws38, .int we38])) :: (aC, .inl (tp_ty E 4, 28, .inl fC)) :: (aN, .inr (3, [.int zb, .ref (tp_ad E zo), .int zd, .int zs, .int zt, .long zn, .int rv39, .int zp, .int zf, .int zu, .int zv])) :: fr) := hD
          refine lv_goto (tgt := 130) hx hb d_Y_readOperand_122 (by decide) ?_
          exact tp_widen (k := 2) (n := 12) (Nat.le_of_ble_eq_true rfl) (Nat.le_of_ble_eq_true rfl) (vx_ret (W.vret hx hb hr (fun t ht hW => ⟨⟨(at38, ws38, we38, zd, zs, zt, zn, rv39), rfl, (sf_WY hw38), by rw [ht]; exact hP, hD⟩, hS.F ht⟩) hS.2.2 d_Y_readOperand_130))
      · by_cases h6 : xk = 115
        · refine lv_lookup (off := 62) (tgt := 63) hx hb d_Y_readOperand_1 (by decide) (by rw [h6]; decide) (by decide) ?_
          refine lv_aload_n hx hb d_Y_readOperand_63 rfl (lv_at hl 1 rfl) ?_
          refine lv_aload_n hx hb d_Y_readOperand_64 rfl (lv_at hl 0 rfl) ?_
          refine sf_bi (tp_xV (As := []) (rest := [.ref aN]) ⟨hx, hb, hml, hown, htg⟩ (s_Y_nextRegister l hfl E ((aN, .inr (3, [.int zb, .ref (tp_ad E zo), .int zd, .int zs, .int zt, .long zn, .int zm, .int zp, .int zf, .int zu, .int zv])) :: fr) _ aY aC xc xe xa xw xv fC hy) (⟨callB_of 0 htg (tp_good0 kc_Y_nextRegister) rfl rfl rfl (htg _ ki_Y) (htg _ kl_Y_72) ⟨by decide, by decide, by decide +kernel⟩ ⟨Nat.le_of_ble_eq_true rfl, Nat.le_of_ble_eq_true rfl⟩, htg _ km_Y_nextRegister, htg _ kp_Y_nextRegister⟩) (va_recv (ci := 1) (q0 := 0) hK.1 hP rfl rfl) hK hP hD hS hA rfl hl.1 rfl (Nat.le_of_ble_eq_true rfl) d_Y_readOperand_65 ⟨Nat.le_of_ble_eq_true rfl, Nat.le_of_ble_eq_true rfl⟩) hD hS hA (fun ce q xu H locs hpx hP hD hS hce hcv hcl => ?_) (fun rv40 u H locs hw hP hD hS => ?_)
          · have hP : va_P (tp_D E) tp_cl ((aY, .inr (1, [.ref aC, .int xc, .int xe, .int xu.1, .int xu.2.1, .int xu.2.2])) :: (aC, .inl (tp_ty E 4, 28, .inl fC)) :: (aN, .inr (3, [.int zb, .ref (tp_ad E zo), .int zd, .int zs, .int zt, .long zn, .int zm, .int zp, .int zf, .int zu, .int zv])) :: fr) H := hP
            have hD : va_D A ((aY, .inr (1, [.ref aC, .int xc, .int xe, .int xu.1, .int xu.2.1, .int xu.2.2])) :: (aC, .inl (tp_ty E 4, 28, .inl fC)) :: (aN, .inr (3, [.int zb, .ref (tp_ad E zo), .int zd, .int zs, .int zt, .long zn, .int zm, .int zp, .int zf, .int zu, .int zv])) :: fr) := hD
            exact vx_out (fun x h => (htab x h).elim) hlocks hce hcv hcl (fun t ht hvm => ⟨(xu.1, xu.2.1, xu.2.2, zd, zs, zt, zn, zm), trivial, ⟨rfl, by rw [ht]; exact hP, hD⟩, hS.F ht⟩) hS.2.2 (Nat.le_of_ble_eq_true rfl) (Nat.le_of_ble_eq_true rfl)
          · obtain ⟨at41, ws41, we41⟩ := u
            have hz41 : sf_Y xe at41 := hw
            have hP : va_P (tp_D E) tp_cl ((aY, .inr (1, [.ref aC, .int xc, .int xe, .int at41, .int ws41, .int we41])) :: (aC, .inl (tp_ty E 4, 28, .inl fC)) :: (aN, .inr (3, [.int zb, .ref (tp_ad E zo), .int zd, .int zs, .int zt, .long zn, .int zm, .int zp, .int zf, .int zu, .int zv])) :: fr) H := hP
            have hD : va_D A ((aY, .inr (1, [.ref aC, .int xc, .int xe, .int at41, .int ws41, .int we41])) :: (aC, .inl (tp_ty E 4, 28, .inl fC)) :: (aN, .inr (3, [.int zb, .ref (tp_ad E zo), .int zd, .int zs, .int zt, .long zn, .int zm, .int zp, .int zf, .int zu, .int zv])) :: fr) := hD
            refine va_put (D := tp_D E) (ci := 3) (v := .int rv40) (ty := .int) (C := qR_N) (T := qF_N) (N := 11) hx hb htg qi_N qt_N qt_N_ok qn_N hown hK.1 hP hD hS 2 rfl rfl 3 (by decide) (htg _ kl_Y_78) (fun _ h => h) rfl (by decide +kernel) rfl rfl (Nat.le_of_ble_eq_true rfl) d_Y_readOperand_68 (fun H locs hP hD hS => ?_)
            have hP : va_P (tp_D E) tp_cl ((aY, .inr (1, [.ref aC, .int xc, .int xe, .int at41, .int ws41, .int we41])) :: (aC, .inl (tp_ty E 4, 28, .inl fC)) :: (aN, .inr (3, [.int zb, .ref (tp_ad E zo), .int zd, .int rv40, .int zt, .long zn, .int zm, .int zp, .int zf, .int zu, .int zv])) :: fr) H := hP
            have hD : va_D A ((aY, .inr (1, [.ref aC, .int xc, .int xe, .int at41, .int ws41, .int we41])) :: (aC, .inl (tp_ty E 4, 28, .inl fC)) :: (aN, .inr (3, [.int zb, .ref (tp_ad E zo), .int zd, .int rv40, .int zt, .long zn, .int zm, .int zp, .int zf, .int zu, .int zv])) :: fr) := hD
            refine lv_goto (tgt := 130) hx hb d_Y_readOperand_71 (by decide) ?_
            exact vx_ret (W.vret hx hb hr (fun t ht hW => ⟨⟨(at41, ws41, we41, zd, rv40, zt, zn, zm), rfl, hz41, by rw [ht]; exact hP, hD⟩, hS.F ht⟩) hS.2.2 d_Y_readOperand_130)
        · by_cases h7 : xk = 116
          · refine lv_lookup (off := 73) (tgt := 74) hx hb d_Y_readOperand_1 (by decide) (by rw [h7]; decide) (by decide) ?_
            refine lv_aload_n hx hb d_Y_readOperand_74 rfl (lv_at hl 1 rfl) ?_
            refine lv_aload_n hx hb d_Y_readOperand_75 rfl (lv_at hl 0 rfl) ?_
            refine sf_bi (tp_xV (As := []) (rest := [.ref aN]) ⟨hx, hb, hml, hown, htg⟩ (s_Y_nextRegister l hfl E ((aN, .inr (3, [.int zb, .ref (tp_ad E zo), .int zd, .int zs, .int zt, .long zn, .int zm, .int zp, .int zf, .int zu, .int zv])) :: fr) _ aY aC xc xe xa xw xv fC hy) (⟨callB_of 0 htg (tp_good0 kc_Y_nextRegister) rfl rfl rfl (htg _ ki_Y) (htg _ kl_Y_72) ⟨by decide, by decide, by decide +kernel⟩ ⟨Nat.le_of_ble_eq_true rfl, Nat.le_of_ble_eq_true rfl⟩, htg _ km_Y_nextRegister, htg _ kp_Y_nextRegister⟩) (va_recv (ci := 1) (q0 := 0) hK.1 hP rfl rfl) hK hP hD hS hA rfl hl.1 rfl (Nat.le_of_ble_eq_true rfl) d_Y_readOperand_76 ⟨Nat.le_of_ble_eq_true rfl, Nat.le_of_ble_eq_true rfl⟩) hD hS hA (fun ce q xu H locs hpx hP hD hS hce hcv hcl => ?_) (fun rv42 u H locs hw hP hD hS => ?_)
            · have hP : va_P (tp_D E) tp_cl ((aY, .inr (1, [.ref aC, .int xc, .int xe, .int xu.1, .int xu.2.1, .int xu.2.2])) :: (aC, .inl (tp_ty E 4, 28, .inl fC)) :: (aN, .inr (3, [.int zb, .ref (tp_ad E zo), .int zd, .int zs, .int zt, .long zn, .int zm, .int zp, .int zf, .int zu, .int zv])) :: fr) H := hP
              have hD : va_D A ((aY, .inr (1, [.ref aC, .int xc, .int xe, .int xu.1, .int xu.2.1, .int xu.2.2])) :: (aC, .inl (tp_ty E 4, 28, .inl fC)) :: (aN, .inr (3, [.int zb, .ref (tp_ad E zo), .int zd, .int zs, .int zt, .long zn, .int zm, .int zp, .int zf, .int zu, .int zv])) :: fr) := hD
              exact vx_out (fun x h => (htab x h).elim) hlocks hce hcv hcl (fun t ht hvm => ⟨(xu.1, xu.2.1, xu.2.2, zd, zs, zt, zn, zm), trivial, ⟨rfl, by rw [ht]; exact hP, hD⟩, hS.F ht⟩) hS.2.2 (Nat.le_of_ble_eq_true rfl) (Nat.le_of_ble_eq_true rfl)
            · obtain ⟨at43, ws43, we43⟩ := u
              have hz43 : sf_Y xe at43 := hw
              have hP : va_P (tp_D E) tp_cl ((aY, .inr (1, [.ref aC, .int xc, .int xe, .int at43, .int ws43, .int we43])) :: (aC, .inl (tp_ty E 4, 28, .inl fC)) :: (aN, .inr (3, [.int zb, .ref (tp_ad E zo), .int zd, .int zs, .int zt, .long zn, .int zm, .int zp, .int zf, .int zu, .int zv])) :: fr) H := hP
              have hD : va_D A ((aY, .inr (1, [.ref aC, .int xc, .int xe, .int at43, .int ws43, .int we43])) :: (aC, .inl (tp_ty E 4, 28, .inl fC)) :: (aN, .inr (3, [.int zb, .ref (tp_ad E zo), .int zd, .int zs, .int zt, .long zn, .int zm, .int zp, .int zf, .int zu, .int zv])) :: fr) := hD
              refine va_put (D := tp_D E) (ci := 3) (v := .int rv42) (ty := .int) (C := qR_N) (T := qF_N) (N := 11) hx hb htg qi_N qt_N qt_N_ok qn_N hown hK.1 hP hD hS 2 rfl rfl 4 (by decide) (htg _ kl_Y_81) (fun _ h => h) rfl (by decide +kernel) rfl rfl (Nat.le_of_ble_eq_true rfl) d_Y_readOperand_79 (fun H locs hP hD hS => ?_)
              have hP : va_P (tp_D E) tp_cl ((aY, .inr (1, [.ref aC, .int xc, .int xe, .int at43, .int ws43, .int we43])) :: (aC, .inl (tp_ty E 4, 28, .inl fC)) :: (aN, .inr (3, [.int zb, .ref (tp_ad E zo), .int zd, .int zs, .int rv42, .long zn, .int zm, .int zp, .int zf, .int zu, .int zv])) :: fr) H := hP
              have hD : va_D A ((aY, .inr (1, [.ref aC, .int xc, .int xe, .int at43, .int ws43, .int we43])) :: (aC, .inl (tp_ty E 4, 28, .inl fC)) :: (aN, .inr (3, [.int zb, .ref (tp_ad E zo), .int zd, .int zs, .int rv42, .long zn, .int zm, .int zp, .int zf, .int zu, .int zv])) :: fr) := hD
              refine lv_goto (tgt := 130) hx hb d_Y_readOperand_82 (by decide) ?_
              exact vx_ret (W.vret hx hb hr (fun t ht hW => ⟨⟨(at43, ws43, we43, zd, zs, rv42, zn, zm), rfl, hz43, by rw [ht]; exact hP, hD⟩, hS.F ht⟩) hS.2.2 d_Y_readOperand_130)
          · refine lv_lookup (off := 124) (tgt := 125) hx hb d_Y_readOperand_1 (by decide) (by show (if (100 : Int) = xk.toInt then (51 : Int) else if (105 : Int) = xk.toInt then (84 : Int) else if (108 : Int) = xk.toInt then (109 : Int) else if (115 : Int) = xk.toInt then (62 : Int) else if (116 : Int) = xk.toInt then (73 : Int) else 124) = _; rw [if_neg (fun q => tp_neI (v := 100) (n := 100) rfl h3 q.symm), if_neg (fun q => tp_neI (v := 105) (n := 105) rfl h4 q.symm), if_neg (fun q => tp_neI (v := 108) (n := 108) rfl h5 q.symm), if_neg (fun q => tp_neI (v := 115) (n := 115) rfl h6 q.symm), if_neg (fun q => tp_neI (v := 116) (n := 116) rfl h7 q.symm)]) (by decide) ?_
            refine lv_aload_n hx hb d_Y_readOperand_125 rfl (lv_at hl 0 rfl) ?_
            refine lv_iload_n hx hb d_Y_readOperand_126 rfl (lv_at hl 2 rfl) ?_
            refine sf_bv (tp_xV (As := [.int xk]) (rest := []) ⟨hx, hb, hml, hown, htg⟩ (s_Y_passMark l hfl E ((aN, .inr (3, [.int zb, .ref (tp_ad E zo), .int zd, .int zs, .int zt, .long zn, .int zm, .int zp, .int zf, .int zu, .int zv])) :: fr) _ aY aC xc xe xa xw xv fC xk hy) (⟨callB_of 1 htg (tp_good0 kc_Y_passMark) rfl rfl rfl (htg _ ki_Y) (htg _ kl_Y_102) ⟨by decide, by decide, by decide +kernel⟩ ⟨Nat.le_of_ble_eq_true rfl, Nat.le_of_ble_eq_true rfl⟩, htg _ km_Y_passMark, htg _ kp_Y_passMark⟩) (va_recv (ci := 1) (q0 := 0) hK.1 hP rfl rfl) hK hP hD hS hA rfl hl.1 rfl (Nat.le_of_ble_eq_true rfl) d_Y_readOperand_127 ⟨Nat.le_of_ble_eq_true rfl, Nat.le_of_ble_eq_true rfl⟩) hD hS hA (fun ce q xu H locs hpx hP hD hS hce hcv hcl => ?_) (fun u H locs hw hP hD hS => ?_)
            · have hP : va_P (tp_D E) tp_cl ((aY, .inr (1, [.ref aC, .int xc, .int xe, .int xu.1, .int xu.2.1, .int xu.2.2])) :: (aC, .inl (tp_ty E 4, 28, .inl fC)) :: (aN, .inr (3, [.int zb, .ref (tp_ad E zo), .int zd, .int zs, .int zt, .long zn, .int zm, .int zp, .int zf, .int zu, .int zv])) :: fr) H := hP
              have hD : va_D A ((aY, .inr (1, [.ref aC, .int xc, .int xe, .int xu.1, .int xu.2.1, .int xu.2.2])) :: (aC, .inl (tp_ty E 4, 28, .inl fC)) :: (aN, .inr (3, [.int zb, .ref (tp_ad E zo), .int zd, .int zs, .int zt, .long zn, .int zm, .int zp, .int zf, .int zu, .int zv])) :: fr) := hD
              exact vx_out (fun x h => (htab x h).elim) hlocks hce hcv hcl (fun t ht hvm => ⟨(xu.1, xu.2.1, xu.2.2, zd, zs, zt, zn, zm), trivial, ⟨rfl, by rw [ht]; exact hP, hD⟩, hS.F ht⟩) hS.2.2 (Nat.le_of_ble_eq_true rfl) (Nat.le_of_ble_eq_true rfl)
            · obtain ⟨at45, ws45, we45⟩ := u
              have hz45 : sf_Y xe at45 := hw
              have hP : va_P (tp_D E) tp_cl ((aY, .inr (1, [.ref aC, .int xc, .int xe, .int at45, .int ws45, .int we45])) :: (aC, .inl (tp_ty E 4, 28, .inl fC)) :: (aN, .inr (3, [.int zb, .ref (tp_ad E zo), .int zd, .int zs, .int zt, .long zn, .int zm, .int zp, .int zf, .int zu, .int zv])) :: fr) H := hP
              have hD : va_D A ((aY, .inr (1, [.ref aC, .int xc, .int xe, .int at45, .int ws45, .int we45])) :: (aC, .inl (tp_ty E 4, 28, .inl fC)) :: (aN, .inr (3, [.int zb, .ref (tp_ad E zo), .int zd, .int zs, .int zt, .long zn, .int zm, .int zp, .int zf, .int zu, .int zv])) :: fr) := hD
              exact tp_widen (k := 2) (n := 12) (Nat.le_of_ble_eq_true rfl) (Nat.le_of_ble_eq_true rfl) (vx_ret (W.vret hx hb hr (fun t ht hW => ⟨⟨(at45, ws45, we45, zd, zs, zt, zn, zm), rfl, hz45, by rw [ht]; exact hP, hD⟩, hS.F ht⟩) hS.2.2 d_Y_readOperand_130))
set_option maxHeartbeats 400000 in
set_option maxRecDepth 100000 in
theorem cs_N_init_1 (l : Launch) (E : tp_Env) (fr : va_W) (sz : Nat) (a1 : Nat) (x2 : Int32) (x3 : Int32) (x4 : Int32) (x5 : Int32) (x6 : Int64) (x7 : Int32) (x8 : Int32) (x9 : Int32) (x10 : Int32) (x11 : Int32)  : Met l y_N_init w_N_init ({ frames := 1, cells := 0, slots := 0, locals := 12 }) (va_Pc [.ref a1] (tp_in E ((a1, .inr (3, [.int x2, .null, .int x3, .int x4, .int x5, .long x6, .int x7, .int x8, .int x9, .int x10, .int x11])) :: fr) sz)) (va_Qv (fun (_ : Unit) => True) (fun _ t => tp_out E (va_A ((a1, .inr (3, [.int x2, .null, .int x3, .int x4, .int x5, .long x6, .int x7, .int x8, .int x9, .int x10, .int x11])) :: fr) sz) ((a1, .inr (3, [.int 0, .ref (tp_ad E 0), .int x3, .int x4, .int x5, .long x6, .int 0, .int x8, .int x9, .int x10, .int x11])) :: fr) t) (va_A ((a1, .inr (3, [.int x2, .null, .int x3, .int x4, .int x5, .long x6, .int x7, .int x8, .int x9, .int x10, .int x11])) :: fr) sz)) 0 0 (va_A ((a1, .inr (3, [.int x2, .null, .int x3, .int x4, .int x5, .long x6, .int x7, .int x8, .int x9, .int x10, .int x11])) :: fr) sz) := by
  refine Met.ofW (cc := b_N_init) (maxL := 1) (ret := none) (by decide) rfl ?_
  intro p e s m args below meth c s₁ B hml hv
  obtain ⟨rfl, hsz, hP, hK, hD0⟩ := hv
  have hx := B.exec
  have hb := B.bytes
  have hr := B.returns
  have htg : ∀ w ∈ tp_G, w.before ([.ref a1] : List Value).toArray s = true := fun w h => atoms_spec (ws := w_N_init) B.pre w (List.mem_cons_of_mem _ h)
  have hown : s.vm.findClass "TwoPass$Line" = some m.cls := findClass_of_methodNamed B.named
  have hlocks := B.notSynchronized
  have hin : meth.name = "<init>" := (name_of_methodNamed B.named B.method).1
  subst hsz
  have hD := hD0.self (sz := s.heap.size)
  generalize hAe : va_A ((a1, .inr (3, [.int x2, .null, .int x3, .int x4, .int x5, .long x6, .int x7, .int x8, .int x9, .int x10, .int x11])) :: fr) s.heap.size = A at hD hK ⊢
  have hA : ∀ q : Nat, s.heap.size ≤ q → A q := fun q h => by rw [← hAe]; exact Or.inr h
  have hS : va_S A s.heap s.heap [] := va_S.rf
  have hl := lv_entry ([.ref a1]) (n := 1) (Nat.le_of_ble_eq_true rfl)
  rw [lg_entry_eq]
  generalize (lg_sl ([.ref a1]) ++ List.replicate (1 - (lg_sl ([.ref a1])).length) Slot.unset).toArray = ls at hl ⊢
  have hl : lv_has ls 1 [(0, .ref a1)] := hl
  refine lv_aload_n hx hb d_N_init_0 rfl (lv_at hl 0 rfl) ?_
  refine W.objInit hx hb hown (htg _ kl_N_3) (htg _ km_obj) (htg _ kc_obj) rfl (by rw [hml]; exact hl.1) rfl d_N_init_1 (Nat.le_of_ble_eq_true rfl) (Nat.le_of_ble_eq_true rfl) ?_
  refine W.eq (g2 := F0 m 4 ls []) rfl ?_
  refine lv_aload_n hx hb d_N_init_4 rfl (lv_at hl 0 rfl) ?_
  refine lv_iconst (v := 0) hx hb d_N_init_5 (by decide) ?_
  refine va_put (D := tp_D E) (ci := 3) (v := .int 0) (ty := .int) (C := qR_N) (T := qF_N) (N := 11) hx hb htg qi_N qt_N qt_N_ok qn_N hown hK.1 hP hD hS 0 rfl rfl 0 (by decide) (htg _ kl_N_9) (fun _ h => h) rfl (by decide +kernel) rfl rfl (Nat.le_of_ble_eq_true rfl) d_N_init_6 (fun H locs hP hD hS => ?_)
  have hP : va_P (tp_D E) tp_cl ((a1, .inr (3, [.int 0, .null, .int x3, .int x4, .int x5, .long x6, .int x7, .int x8, .int x9, .int x10, .int x11])) :: fr) H := hP
  have hD : va_D A ((a1, .inr (3, [.int 0, .null, .int x3, .int x4, .int x5, .long x6, .int x7, .int x8, .int x9, .int x10, .int x11])) :: fr) := hD
  refine lv_aload_n hx hb d_N_init_9 rfl (lv_at hl 0 rfl) ?_
  refine va_gets (v := .ref (tp_ad E 0)) hx hb (hK.opZ (i := 0) (by decide)) hS hown (htg _ kl_N_15) (fun _ h => h) d_N_init_10 ?_
  refine va_put (D := tp_D E) (ci := 3) (v := .ref (tp_ad E 0)) (ty := (.object "TwoPass$Operation")) (C := qR_N) (T := qF_N) (N := 11) hx hb htg qi_N qt_N qt_N_ok qn_N hown hK.1 hP hD hS 0 rfl rfl 1 (by decide) (htg _ kl_N_21) (fun _ h => h) rfl (by decide +kernel) rfl rfl (Nat.le_of_ble_eq_true rfl) d_N_init_13 (fun H locs hP hD hS => ?_)
  have hP : va_P (tp_D E) tp_cl ((a1, .inr (3, [.int 0, .ref (tp_ad E 0), .int x3, .int x4, .int x5, .long x6, .int x7, .int x8, .int x9, .int x10, .int x11])) :: fr) H := hP
  have hD : va_D A ((a1, .inr (3, [.int 0, .ref (tp_ad E 0), .int x3, .int x4, .int x5, .long x6, .int x7, .int x8, .int x9, .int x10, .int x11])) :: fr) := hD
  refine lv_aload_n hx hb d_N_init_16 rfl (lv_at hl 0 rfl) ?_
  refine lv_iconst (v := 0) hx hb d_N_init_17 (by decide) ?_
  refine va_put (D := tp_D E) (ci := 3) (v := .int 0) (ty := .int) (C := qR_N) (T := qF_N) (N := 11) hx hb htg qi_N qt_N qt_N_ok qn_N hown hK.1 hP hD hS 0 rfl rfl 6 (by decide) (htg _ kl_N_24) (fun _ h => h) rfl (by decide +kernel) rfl rfl (Nat.le_of_ble_eq_true rfl) d_N_init_18 (fun H locs hP hD hS => ?_)
  have hP : va_P (tp_D E) tp_cl ((a1, .inr (3, [.int 0, .ref (tp_ad E 0), .int x3, .int x4, .int x5, .long x6, .int 0, .int x8, .int x9, .int x10, .int x11])) :: fr) H := hP
  have hD : va_D A ((a1, .inr (3, [.int 0, .ref (tp_ad E 0), .int x3, .int x4, .int x5, .long x6, .int 0, .int x8, .int x9, .int x10, .int x11])) :: fr) := hD
  exact W.vret hx hb hr (fun t ht hW => ⟨⟨(), rfl, trivial, by rw [ht]; exact hP, hD⟩, hS.F ht⟩) hS.2.2 d_N_init_21
set_option maxHeartbeats 4000000 in
set_option maxRecDepth 100000 in
theorem s_Y_read (l : Launch) (hfl : l.stackTraces = false) (E : tp_Env) (fr : va_W) (sz : Nat) (aY aC : Nat) (xc xe xa xw xv : Int32) (fC : Nat → Int32) (hy : sf_Y xe xa) : vx_Met l y_Y_read w_Y_read ({ frames := 10, cells := 20, slots := 125, locals := 184 }) (va_Pc [.ref aY] (tp_in E ((aY, .inr (1, [.ref aC, .int xc, .int xe, .int xa, .int xw, .int xv])) :: (aC, .inl (tp_ty E 4, 28, .inl fC)) :: fr) sz)) (va_Qr (fun (u : Nat × Int32 × Int32 × Int32 × Int32 × Nat × Int32 × Int32 × Int32 × Int64 × Int32) => u.2.2.2.2.2.1 < 47) (fun u q t => q = (fun (u : Nat × Int32 × Int32 × Int32 × Int32 × Nat × Int32 × Int32 × Int32 × Int64 × Int32) => u.1) u ∧ tp_out E (va_A ((aY, .inr (1, [.ref aC, .int xc, .int xe, .int xa, .int xw, .int xv])) :: (aC, .inl (tp_ty E 4, 28, .inl fC)) :: fr) sz) ((u.1, .inr (3, [.int u.2.2.2.2.1, .ref (tp_ad E u.2.2.2.2.2.1), .int u.2.2.2.2.2.2.1, .int u.2.2.2.2.2.2.2.1, .int u.2.2.2.2.2.2.2.2.1, .long u.2.2.2.2.2.2.2.2.2.1, .int u.2.2.2.2.2.2.2.2.2.2, .int 0, .int 0, .int 0, .int 0])) :: (aY, .inr (1, [.ref aC, .int xc, .int xe, .int u.2.1, .int u.2.2.1, .int u.2.2.2.1])) :: (aC, .inl (tp_ty E 4, 28, .inl fC)) :: fr) t) (va_A ((aY, .inr (1, [.ref aC, .int xc, .int xe, .int xa, .int xw, .int xv])) :: (aC, .inl (tp_ty E 4, 28, .inl fC)) :: fr) sz)) (vx_X (fun (_ : Int32 × Int32 × Int32) => True) (fun x u t => x = "java/lang/IllegalArgumentException" ∧ tp_out E (va_A ((aY, .inr (1, [.ref aC, .int xc, .int xe, .int xa, .int xw, .int xv])) :: (aC, .inl (tp_ty E 4, 28, .inl fC)) :: fr) sz) ((aY, .inr (1, [.ref aC, .int xc, .int xe, .int u.1, .int u.2.1, .int u.2.2])) :: (aC, .inl (tp_ty E 4, 28, .inl fC)) :: fr) t) (va_A ((aY, .inr (1, [.ref aC, .int xc, .int xe, .int xa, .int xw, .int xv])) :: (aC, .inl (tp_ty E 4, 28, .inl fC)) :: fr) sz)) 20 125 (va_A ((aY, .inr (1, [.ref aC, .int xc, .int xe, .int xa, .int xw, .int xv])) :: (aC, .inl (tp_ty E 4, 28, .inl fC)) :: fr) sz) := by
  refine vx_ofW (cc := b_Y_read) (maxL := 4) (ret := (some (.object "TwoPass$Line"))) (by decide) rfl ?_
  intro p e s m args below meth c s₁ B hml htab hv
  obtain ⟨rfl, hsz, hP, hK, hD0⟩ := hv
  have hx := B.exec
  have hb := B.bytes
  have hr := B.returns
  have htg : ∀ w ∈ tp_G, w.before ([.ref aY] : List Value).toArray s = true := fun w h => atoms_spec (ws := w_Y_read) B.pre w (List.mem_cons_of_mem _ h)
  have hown : s.vm.findClass "TwoPass$Typed" = some m.cls := findClass_of_methodNamed B.named
  have hlocks := B.notSynchronized
  subst hsz
  have hD := hD0.self (sz := s.heap.size)
  generalize hAe : va_A ((aY, .inr (1, [.ref aC, .int xc, .int xe, .int xa, .int xw, .int xv])) :: (aC, .inl (tp_ty E 4, 28, .inl fC)) :: fr) s.heap.size = A at hD hK ⊢
  have hA : ∀ q : Nat, s.heap.size ≤ q → A q := fun q h => by rw [← hAe]; exact Or.inr h
  have hS : va_S A s.heap s.heap [] := va_S.rf
  have hl := lv_entry ([.ref aY]) (n := 4) (Nat.le_of_ble_eq_true rfl)
  rw [lg_entry_eq]
  generalize (lg_sl ([.ref aY]) ++ List.replicate (4 - (lg_sl ([.ref aY])).length) Slot.unset).toArray = ls at hl ⊢
  have hl : lv_has ls 4 [(0, .ref aY)] := hl
  refine va_new (D := tp_D E) (ci := 3) (fs := [.int 0, .null, .int 0, .int 0, .int 0, .long 0, .int 0, .int 0, .int 0, .int 0, .int 0]) (C := qR_N) (T := qF_N) (N := 11) hx hb htg qi_N qt_N qt_N_ok hown (htg _ kl_Y_25) (htg _ kn_N) (htg _ ki_N) hK.1 hP hD hS hA rfl (by decide +kernel) (Nat.le_of_ble_eq_true rfl) (Nat.le_of_ble_eq_true rfl) d_Y_read_0 (fun q1 H hP hD hS => ?_)
  have hP := tp_frP hP
  have hD := tp_frD hD
  have hP : va_P (tp_D E) tp_cl ((q1, .inr (3, [.int 0, .null, .int 0, .int 0, .int 0, .long 0, .int 0, .int 0, .int 0, .int 0, .int 0])) :: (aY, .inr (1, [.ref aC, .int xc, .int xe, .int xa, .int xw, .int xv])) :: (aC, .inl (tp_ty E 4, 28, .inl fC)) :: fr) H := hP
  have hD : va_D A ((q1, .inr (3, [.int 0, .null, .int 0, .int 0, .int 0, .long 0, .int 0, .int 0, .int 0, .int 0, .int 0])) :: (aY, .inr (1, [.ref aC, .int xc, .int xe, .int xa, .int xw, .int xv])) :: (aC, .inl (tp_ty E 4, 28, .inl fC)) :: fr) := hD
  refine lv_dup hx hb d_Y_read_3 rfl ?_
  refine tp_cv (tp_rIN (As := []) (rest := [.ref q1]) ⟨hx, hb, hml, hown, htg⟩ (cs_N_init_1 l E ((aY, .inr (1, [.ref aC, .int xc, .int xe, .int xa, .int xw, .int xv])) :: (aC, .inl (tp_ty E 4, 28, .inl fC)) :: fr) _ q1 0 0 0 0 0 0 0 0 0 0 ) (⟨va_cnB 0 htg (tp_good0 kc_N_init) rfl rfl rfl (hK.2.2.2.1 _ kb_Y_27) (htg _ ki_N) ⟨by decide, by decide, by decide +kernel⟩ ⟨Nat.le_of_ble_eq_true rfl, Nat.le_of_ble_eq_true rfl⟩, rfl, htg _ km_N_init⟩) hK hP hD hS hA rfl hl.1 rfl (Nat.le_of_ble_eq_true rfl) d_Y_read_4 ⟨Nat.le_of_ble_eq_true rfl, Nat.le_of_ble_eq_true rfl⟩) hD hS hA (fun u H locs _ hP hD hS => ?_)
  have hP : va_P (tp_D E) tp_cl ((q1, .inr (3, [.int 0, .ref (tp_ad E 0), .int 0, .int 0, .int 0, .long 0, .int 0, .int 0, .int 0, .int 0, .int 0])) :: (aY, .inr (1, [.ref aC, .int xc, .int xe, .int xa, .int xw, .int xv])) :: (aC, .inl (tp_ty E 4, 28, .inl fC)) :: fr) H := hP
  have hD : va_D A ((q1, .inr (3, [.int 0, .ref (tp_ad E 0), .int 0, .int 0, .int 0, .long 0, .int 0, .int 0, .int 0, .int 0, .int 0])) :: (aY, .inr (1, [.ref aC, .int xc, .int xe, .int xa, .int xw, .int xv])) :: (aC, .inl (tp_ty E 4, 28, .inl fC)) :: fr) := hD
  refine lv_astore_n (lv' := [(1, .ref q1), (0, .ref aY)]) hx hb d_Y_read_7 rfl hl (by decide) rfl (fun ls hl => ?_)
  refine lv_aload_n hx hb d_Y_read_8 rfl (lv_at hl 1 rfl) ?_
  have hP : va_P (tp_D E) tp_cl ((aC, .inl (tp_ty E 4, 28, .inl fC)) :: (q1, .inr (3, [.int 0, .ref (tp_ad E 0), .int 0, .int 0, .int 0, .long 0, .int 0, .int 0, .int 0, .int 0, .int 0])) :: (aY, .inr (1, [.ref aC, .int xc, .int xe, .int xa, .int xw, .int xv])) :: fr) _ := tp_mvP 2 rfl hP
  have hD : va_D A ((aC, .inl (tp_ty E 4, 28, .inl fC)) :: (q1, .inr (3, [.int 0, .ref (tp_ad E 0), .int 0, .int 0, .int 0, .long 0, .int 0, .int 0, .int 0, .int 0, .int 0])) :: (aY, .inr (1, [.ref aC, .int xc, .int xe, .int xa, .int xw, .int xv])) :: fr) := tp_mvD 2 rfl hD
  have hP : va_P (tp_D E) tp_cl ((aY, .inr (1, [.ref aC, .int xc, .int xe, .int xa, .int xw, .int xv])) :: (aC, .inl (tp_ty E 4, 28, .inl fC)) :: (q1, .inr (3, [.int 0, .ref (tp_ad E 0), .int 0, .int 0, .int 0, .long 0, .int 0, .int 0, .int 0, .int 0, .int 0])) :: fr) _ := tp_mvP 2 rfl hP
  have hD : va_D A ((aY, .inr (1, [.ref aC, .int xc, .int xe, .int xa, .int xw, .int xv])) :: (aC, .inl (tp_ty E 4, 28, .inl fC)) :: (q1, .inr (3, [.int 0, .ref (tp_ad E 0), .int 0, .int 0, .int 0, .long 0, .int 0, .int 0, .int 0, .int 0, .int 0])) :: fr) := tp_mvD 2 rfl hD
  refine tp_cv (tp_rV (As := []) (rest := []) ⟨hx, hb, hml, hown, htg⟩ (s_Y_nextWord l E ((q1, .inr (3, [.int 0, .ref (tp_ad E 0), .int 0, .int 0, .int 0, .long 0, .int 0, .int 0, .int 0, .int 0, .int 0])) :: fr) _ aY aC xc xe xa xw xv fC hy) (⟨callB_of 0 htg (tp_good0 kc_Y_nextWord) rfl rfl rfl (htg _ ki_Y) (htg _ kl_Y_28) ⟨by decide, by decide, by decide +kernel⟩ ⟨Nat.le_of_ble_eq_true rfl, Nat.le_of_ble_eq_true rfl⟩, htg _ km_Y_nextWord, htg _ kp_Y_nextWord⟩) (va_recv (ci := 1) (q0 := 0) hK.1 hP rfl rfl) hK hP hD hS hA rfl hl.1 rfl (Nat.le_of_ble_eq_true rfl) d_Y_read_9 ⟨Nat.le_of_ble_eq_true rfl, Nat.le_of_ble_eq_true rfl⟩) hD hS hA (fun u H locs hw hP hD hS => ?_)
  obtain ⟨at46, ws46, we46⟩ := u
  have hw46 : sf_W xe ws46 we46 at46 := hw
  have hP : va_P (tp_D E) tp_cl ((aY, .inr (1, [.ref aC, .int xc, .int xe, .int at46, .int ws46, .int we46])) :: (aC, .inl (tp_ty E 4, 28, .inl fC)) :: (q1, .inr (3, [.int 0, .ref (tp_ad E 0), .int 0, .int 0, .int 0, .long 0, .int 0, .int 0, .int 0, .int 0, .int 0])) :: fr) H := hP
  have hD : va_D A ((aY, .inr (1, [.ref aC, .int xc, .int xe, .int at46, .int ws46, .int we46])) :: (aC, .inl (tp_ty E 4, 28, .inl fC)) :: (q1, .inr (3, [.int 0, .ref (tp_ad E 0), .int 0, .int 0, .int 0, .long 0, .int 0, .int 0, .int 0, .int 0, .int 0])) :: fr) := hD
  refine lv_aload_n hx hb d_Y_read_12 rfl (lv_at hl 1 rfl) ?_
  refine lv_bipush (v := 58) hx hb d_Y_read_13 (by decide) ?_
  refine tp_ci (tp_rV (As := [.int 58]) (rest := []) ⟨hx, hb, hml, hown, htg⟩ (s_Y_nextIs l E ((q1, .inr (3, [.int 0, .ref (tp_ad E 0), .int 0, .int 0, .int 0, .long 0, .int 0, .int 0, .int 0, .int 0, .int 0])) :: fr) _ aY aC xc xe at46 ws46 we46 fC 58 (sf_WY hw46)) (⟨callB_of 1 htg (tp_good0 kc_Y_nextIs) rfl rfl rfl (htg _ ki_Y) (htg _ kl_Y_31) ⟨by decide, by decide, by decide +kernel⟩ ⟨Nat.le_of_ble_eq_true rfl, Nat.le_of_ble_eq_true rfl⟩, htg _ km_Y_nextIs, htg _ kp_Y_nextIs⟩) (va_recv (ci := 1) (q0 := 0) hK.1 hP rfl rfl) hK hP hD hS hA rfl hl.1 rfl (Nat.le_of_ble_eq_true rfl) d_Y_read_15 ⟨Nat.le_of_ble_eq_true rfl, Nat.le_of_ble_eq_true rfl⟩) hD hS hA (fun ni48 u H locs hw hP hD hS => ?_)
  have hn47 : (ni48 = 1 ∧ ¬ xe ≤ at46) ∨ ni48 = 0 := hw
  have hP : va_P (tp_D E) tp_cl ((aY, .inr (1, [.ref aC, .int xc, .int xe, .int at46, .int ws46, .int we46])) :: (aC, .inl (tp_ty E 4, 28, .inl fC)) :: (q1, .inr (3, [.int 0, .ref (tp_ad E 0), .int 0, .int 0, .int 0, .long 0, .int 0, .int 0, .int 0, .int 0, .int 0])) :: fr) H := hP
  have hD : va_D A ((aY, .inr (1, [.ref aC, .int xc, .int xe, .int at46, .int ws46, .int we46])) :: (aC, .inl (tp_ty E 4, 28, .inl fC)) :: (q1, .inr (3, [.int 0, .ref (tp_ad E 0), .int 0, .int 0, .int 0, .long 0, .int 0, .int 0, .int 0, .int 0, .int 0])) :: fr) := hD
  rcases hn47 with ⟨rfl, hn47l⟩ | rfl
  · refine lv_if_eq (tgt := 43) hx hb d_Y_read_18 (by decide) (fun h => absurd h (by decide)) (fun _ => ?_)
    refine lv_aload_n hx hb d_Y_read_21 rfl (lv_at hl 0 rfl) ?_
    refine lv_aload_n hx hb d_Y_read_22 rfl (lv_at hl 1 rfl) ?_
    refine sf_bi (tp_xV (As := []) (rest := [.ref q1]) ⟨hx, hb, hml, hown, htg⟩ (s_Y_wordAsName l hfl E ((q1, .inr (3, [.int 0, .ref (tp_ad E 0), .int 0, .int 0, .int 0, .long 0, .int 0, .int 0, .int 0, .int 0, .int 0])) :: fr) _ aY aC xc xe at46 ws46 we46 fC (sf_WV hw46)) (⟨callB_of 0 htg (tp_good0 kc_Y_wordAsName) rfl rfl rfl (htg _ ki_Y) (htg _ kl_Y_35) ⟨by decide, by decide, by decide +kernel⟩ ⟨Nat.le_of_ble_eq_true rfl, Nat.le_of_ble_eq_true rfl⟩, htg _ km_Y_wordAsName, htg _ kp_Y_wordAsName⟩) (va_recv (ci := 1) (q0 := 0) hK.1 hP rfl rfl) hK hP hD hS hA rfl hl.1 rfl (Nat.le_of_ble_eq_true rfl) d_Y_read_23 ⟨Nat.le_of_ble_eq_true rfl, Nat.le_of_ble_eq_true rfl⟩) hD hS hA (fun ce q xu H locs hpx hP hD hS hce hcv hcl => ?_) (fun rv49 u H locs hw hP hD hS => ?_)
    · have hP : va_P (tp_D E) tp_cl ((aY, .inr (1, [.ref aC, .int xc, .int xe, .int xu.1, .int xu.2.1, .int xu.2.2])) :: (aC, .inl (tp_ty E 4, 28, .inl fC)) :: (q1, .inr (3, [.int 0, .ref (tp_ad E 0), .int 0, .int 0, .int 0, .long 0, .int 0, .int 0, .int 0, .int 0, .int 0])) :: fr) H := hP
      have hD : va_D A ((aY, .inr (1, [.ref aC, .int xc, .int xe, .int xu.1, .int xu.2.1, .int xu.2.2])) :: (aC, .inl (tp_ty E 4, 28, .inl fC)) :: (q1, .inr (3, [.int 0, .ref (tp_ad E 0), .int 0, .int 0, .int 0, .long 0, .int 0, .int 0, .int 0, .int 0, .int 0])) :: fr) := hD
      have hP : va_P (tp_D E) tp_cl ((aC, .inl (tp_ty E 4, 28, .inl fC)) :: (aY, .inr (1, [.ref aC, .int xc, .int xe, .int xu.1, .int xu.2.1, .int xu.2.2])) :: (q1, .inr (3, [.int 0, .ref (tp_ad E 0), .int 0, .int 0, .int 0, .long 0, .int 0, .int 0, .int 0, .int 0, .int 0])) :: fr) _ := tp_mvP 1 rfl hP
      have hD : va_D A ((aC, .inl (tp_ty E 4, 28, .inl fC)) :: (aY, .inr (1, [.ref aC, .int xc, .int xe, .int xu.1, .int xu.2.1, .int xu.2.2])) :: (q1, .inr (3, [.int 0, .ref (tp_ad E 0), .int 0, .int 0, .int 0, .long 0, .int 0, .int 0, .int 0, .int 0, .int 0])) :: fr) := tp_mvD 1 rfl hD
      have hP : va_P (tp_D E) tp_cl ((aY, .inr (1, [.ref aC, .int xc, .int xe, .int xu.1, .int xu.2.1, .int xu.2.2])) :: (aC, .inl (tp_ty E 4, 28, .inl fC)) :: (q1, .inr (3, [.int 0, .ref (tp_ad E 0), .int 0, .int 0, .int 0, .long 0, .int 0, .int 0, .int 0, .int 0, .int 0])) :: fr) _ := tp_mvP 1 rfl hP
      have hD : va_D A ((aY, .inr (1, [.ref aC, .int xc, .int xe, .int xu.1, .int xu.2.1, .int xu.2.2])) :: (aC, .inl (tp_ty E 4, 28, .inl fC)) :: (q1, .inr (3, [.int 0, .ref (tp_ad E 0), .int 0, .int 0, .int 0, .long 0, .int 0, .int 0, .int 0, .int 0, .int 0])) :: fr) := tp_mvD 1 rfl hD
      have hP : va_P (tp_D E) tp_cl ((q1, .inr (3, [.int 0, .ref (tp_ad E 0), .int 0, .int 0, .int 0, .long 0, .int 0, .int 0, .int 0, .int 0, .int 0])) :: (aY, .inr (1, [.ref aC, .int xc, .int xe, .int xu.1, .int xu.2.1, .int xu.2.2])) :: (aC, .inl (tp_ty E 4, 28, .inl fC)) :: fr) _ := tp_mvP 2 rfl hP
      have hD : va_D A ((q1, .inr (3, [.int 0, .ref (tp_ad E 0), .int 0, .int 0, .int 0, .long 0, .int 0, .int 0, .int 0, .int 0, .int 0])) :: (aY, .inr (1, [.ref aC, .int xc, .int xe, .int xu.1, .int xu.2.1, .int xu.2.2])) :: (aC, .inl (tp_ty E 4, 28, .inl fC)) :: fr) := tp_mvD 2 rfl hD
      exact vx_out (fun x h => (htab x h).elim) hlocks hce hcv hcl (fun t ht hvm => ⟨(xu.1, xu.2.1, xu.2.2), trivial, ⟨rfl, by rw [ht]; exact (tp_tlP hP), (tp_tlD hD)⟩, hS.F ht⟩) hS.2.2 (Nat.le_of_ble_eq_true rfl) (Nat.le_of_ble_eq_true rfl)
    · have hP : va_P (tp_D E) tp_cl ((aY, .inr (1, [.ref aC, .int xc, .int xe, .int at46, .int ws46, .int we46])) :: (aC, .inl (tp_ty E 4, 28, .inl fC)) :: (q1, .inr (3, [.int 0, .ref (tp_ad E 0), .int 0, .int 0, .int 0, .long 0, .int 0, .int 0, .int 0, .int 0, .int 0])) :: fr) H := hP
      have hD : va_D A ((aY, .inr (1, [.ref aC, .int xc, .int xe, .int at46, .int ws46, .int we46])) :: (aC, .inl (tp_ty E 4, 28, .inl fC)) :: (q1, .inr (3, [.int 0, .ref (tp_ad E 0), .int 0, .int 0, .int 0, .long 0, .int 0, .int 0, .int 0, .int 0, .int 0])) :: fr) := hD
      refine va_put (D := tp_D E) (ci := 3) (v := .int rv49) (ty := .int) (C := qR_N) (T := qF_N) (N := 11) hx hb htg qi_N qt_N qt_N_ok qn_N hown hK.1 hP hD hS 2 rfl rfl 0 (by decide) (htg _ kl_Y_39) (fun _ h => h) rfl (by decide +kernel) rfl rfl (Nat.le_of_ble_eq_true rfl) d_Y_read_26 (fun H locs hP hD hS => ?_)
      have hP : va_P (tp_D E) tp_cl ((aY, .inr (1, [.ref aC, .int xc, .int xe, .int at46, .int ws46, .int we46])) :: (aC, .inl (tp_ty E 4, 28, .inl fC)) :: (q1, .inr (3, [.int rv49, .ref (tp_ad E 0), .int 0, .int 0, .int 0, .long 0, .int 0, .int 0, .int 0, .int 0, .int 0])) :: fr) H := hP
      have hD : va_D A ((aY, .inr (1, [.ref aC, .int xc, .int xe, .int at46, .int ws46, .int we46])) :: (aC, .inl (tp_ty E 4, 28, .inl fC)) :: (q1, .inr (3, [.int rv49, .ref (tp_ad E 0), .int 0, .int 0, .int 0, .long 0, .int 0, .int 0, .int 0, .int 0, .int 0])) :: fr) := hD
      refine lv_aload_n hx hb d_Y_read_29 rfl (lv_at hl 1 rfl) ?_
      refine lv_dup hx hb d_Y_read_30 rfl ?_
      refine va_get (D := tp_D E) (ci := 1) (v := .int at46) (C := qR_Y) (T := qF_Y) (N := 6) hx hb htg qi_Y hown hK.1 hP 0 rfl rfl 3 (by decide) (htg _ kl_Y_22) (fun _ h => h) rfl d_Y_read_31 ?_
      refine lv_iconst (v := 1) hx hb d_Y_read_34 (by decide) ?_
      refine lv_iadd hx hb d_Y_read_35 ?_
      refine va_put (D := tp_D E) (ci := 1) (v := .int (at46 + 1)) (ty := .int) (C := qR_Y) (T := qF_Y) (N := 6) hx hb htg qi_Y qt_Y qt_Y_ok qn_Y hown hK.1 hP hD hS 0 rfl rfl 3 (by decide) (htg _ kl_Y_22) (fun _ h => h) rfl (by decide +kernel) rfl rfl (Nat.le_of_ble_eq_true rfl) d_Y_read_36 (fun H locs hP hD hS => ?_)
      have hP : va_P (tp_D E) tp_cl ((aY, .inr (1, [.ref aC, .int xc, .int xe, .int (at46 + 1), .int ws46, .int we46])) :: (aC, .inl (tp_ty E 4, 28, .inl fC)) :: (q1, .inr (3, [.int rv49, .ref (tp_ad E 0), .int 0, .int 0, .int 0, .long 0, .int 0, .int 0, .int 0, .int 0, .int 0])) :: fr) H := hP
      have hD : va_D A ((aY, .inr (1, [.ref aC, .int xc, .int xe, .int (at46 + 1), .int ws46, .int we46])) :: (aC, .inl (tp_ty E 4, 28, .inl fC)) :: (q1, .inr (3, [.int rv49, .ref (tp_ad E 0), .int 0, .int 0, .int 0, .long 0, .int 0, .int 0, .int 0, .int 0, .int 0])) :: fr) := hD
      refine lv_aload_n hx hb d_Y_read_39 rfl (lv_at hl 1 rfl) ?_
      refine tp_cv (tp_rV (As := []) (rest := []) ⟨hx, hb, hml, hown, htg⟩ (s_Y_nextWord l E ((q1, .inr (3, [.int rv49, .ref (tp_ad E 0), .int 0, .int 0, .int 0, .long 0, .int 0, .int 0, .int 0, .int 0, .int 0])) :: fr) _ aY aC xc xe (at46 + 1) ws46 we46 fC (sf_Yi (sf_WY hw46) hn47l)) (⟨callB_of 0 htg (tp_good0 kc_Y_nextWord) rfl rfl rfl (htg _ ki_Y) (htg _ kl_Y_28) ⟨by decide, by decide, by decide +kernel⟩ ⟨Nat.le_of_ble_eq_true rfl, Nat.le_of_ble_eq_true rfl⟩, htg _ km_Y_nextWord, htg _ kp_Y_nextWord⟩) (va_recv (ci := 1) (q0 := 0) hK.1 hP rfl rfl) hK hP hD hS hA rfl hl.1 rfl (Nat.le_of_ble_eq_true rfl) d_Y_read_40 ⟨Nat.le_of_ble_eq_true rfl, Nat.le_of_ble_eq_true rfl⟩) hD hS hA (fun u H locs hw hP hD hS => ?_)
      obtain ⟨at50, ws50, we50⟩ := u
      have hw50 : sf_W xe ws50 we50 at50 := hw
      have hP : va_P (tp_D E) tp_cl ((aY, .inr (1, [.ref aC, .int xc, .int xe, .int at50, .int ws50, .int we50])) :: (aC, .inl (tp_ty E 4, 28, .inl fC)) :: (q1, .inr (3, [.int rv49, .ref (tp_ad E 0), .int 0, .int 0, .int 0, .long 0, .int 0, .int 0, .int 0, .int 0, .int 0])) :: fr) H := hP
      have hD : va_D A ((aY, .inr (1, [.ref aC, .int xc, .int xe, .int at50, .int ws50, .int we50])) :: (aC, .inl (tp_ty E 4, 28, .inl fC)) :: (q1, .inr (3, [.int rv49, .ref (tp_ad E 0), .int 0, .int 0, .int 0, .long 0, .int 0, .int 0, .int 0, .int 0, .int 0])) :: fr) := hD
      refine lv_aload_n hx hb d_Y_read_43 rfl (lv_at hl 0 rfl) ?_
      refine lv_aload_n hx hb d_Y_read_44 rfl (lv_at hl 1 rfl) ?_
      refine sf_br (tp_xV (As := []) (rest := [.ref q1]) ⟨hx, hb, hml, hown, htg⟩ (s_Y_wordAsOperation l hfl E ((q1, .inr (3, [.int rv49, .ref (tp_ad E 0), .int 0, .int 0, .int 0, .long 0, .int 0, .int 0, .int 0, .int 0, .int 0])) :: fr) _ aY aC xc xe at50 ws50 we50 fC (sf_WV hw50)) (⟨callB_of 0 htg (tp_good0 kc_Y_wordAsOperation) rfl rfl rfl (htg _ ki_Y) (htg _ kl_Y_42) ⟨by decide, by decide, by decide +kernel⟩ ⟨Nat.le_of_ble_eq_true rfl, Nat.le_of_ble_eq_true rfl⟩, htg _ km_Y_wordAsOperation, htg _ kp_Y_wordAsOperation⟩) (va_recv (ci := 1) (q0 := 0) hK.1 hP rfl rfl) hK hP hD hS hA rfl hl.1 rfl (Nat.le_of_ble_eq_true rfl) d_Y_read_45 ⟨Nat.le_of_ble_eq_true rfl, Nat.le_of_ble_eq_true rfl⟩) hD hS hA (fun ce q xu H locs hpx hP hD hS hce hcv hcl => ?_) (fun op51 H locs hw hP hD hS => ?_)
      · have hP : va_P (tp_D E) tp_cl ((aY, .inr (1, [.ref aC, .int xc, .int xe, .int xu.1, .int xu.2.1, .int xu.2.2])) :: (aC, .inl (tp_ty E 4, 28, .inl fC)) :: (q1, .inr (3, [.int rv49, .ref (tp_ad E 0), .int 0, .int 0, .int 0, .long 0, .int 0, .int 0, .int 0, .int 0, .int 0])) :: fr) H := hP
        have hD : va_D A ((aY, .inr (1, [.ref aC, .int xc, .int xe, .int xu.1, .int xu.2.1, .int xu.2.2])) :: (aC, .inl (tp_ty E 4, 28, .inl fC)) :: (q1, .inr (3, [.int rv49, .ref (tp_ad E 0), .int 0, .int 0, .int 0, .long 0, .int 0, .int 0, .int 0, .int 0, .int 0])) :: fr) := hD
        have hP : va_P (tp_D E) tp_cl ((aC, .inl (tp_ty E 4, 28, .inl fC)) :: (aY, .inr (1, [.ref aC, .int xc, .int xe, .int xu.1, .int xu.2.1, .int xu.2.2])) :: (q1, .inr (3, [.int rv49, .ref (tp_ad E 0), .int 0, .int 0, .int 0, .long 0, .int 0, .int 0, .int 0, .int 0, .int 0])) :: fr) _ := tp_mvP 1 rfl hP
        have hD : va_D A ((aC, .inl (tp_ty E 4, 28, .inl fC)) :: (aY, .inr (1, [.ref aC, .int xc, .int xe, .int xu.1, .int xu.2.1, .int xu.2.2])) :: (q1, .inr (3, [.int rv49, .ref (tp_ad E 0), .int 0, .int 0, .int 0, .long 0, .int 0, .int 0, .int 0, .int 0, .int 0])) :: fr) := tp_mvD 1 rfl hD
        have hP : va_P (tp_D E) tp_cl ((aY, .inr (1, [.ref aC, .int xc, .int xe, .int xu.1, .int xu.2.1, .int xu.2.2])) :: (aC, .inl (tp_ty E 4, 28, .inl fC)) :: (q1, .inr (3, [.int rv49, .ref (tp_ad E 0), .int 0, .int 0, .int 0, .long 0, .int 0, .int 0, .int 0, .int 0, .int 0])) :: fr) _ := tp_mvP 1 rfl hP
        have hD : va_D A ((aY, .inr (1, [.ref aC, .int xc, .int xe, .int xu.1, .int xu.2.1, .int xu.2.2])) :: (aC, .inl (tp_ty E 4, 28, .inl fC)) :: (q1, .inr (3, [.int rv49, .ref (tp_ad E 0), .int 0, .int 0, .int 0, .long 0, .int 0, .int 0, .int 0, .int 0, .int 0])) :: fr) := tp_mvD 1 rfl hD
        have hP : va_P (tp_D E) tp_cl ((q1, .inr (3, [.int rv49, .ref (tp_ad E 0), .int 0, .int 0, .int 0, .long 0, .int 0, .int 0, .int 0, .int 0, .int 0])) :: (aY, .inr (1, [.ref aC, .int xc, .int xe, .int xu.1, .int xu.2.1, .int xu.2.2])) :: (aC, .inl (tp_ty E 4, 28, .inl fC)) :: fr) _ := tp_mvP 2 rfl hP
        have hD : va_D A ((q1, .inr (3, [.int rv49, .ref (tp_ad E 0), .int 0, .int 0, .int 0, .long 0, .int 0, .int 0, .int 0, .int 0, .int 0])) :: (aY, .inr (1, [.ref aC, .int xc, .int xe, .int xu.1, .int xu.2.1, .int xu.2.2])) :: (aC, .inl (tp_ty E 4, 28, .inl fC)) :: fr) := tp_mvD 2 rfl hD
        exact vx_out (fun x h => (htab x h).elim) hlocks hce hcv hcl (fun t ht hvm => ⟨(xu.1, xu.2.1, xu.2.2), trivial, ⟨rfl, by rw [ht]; exact (tp_tlP hP), (tp_tlD hD)⟩, hS.F ht⟩) hS.2.2 (Nat.le_of_ble_eq_true rfl) (Nat.le_of_ble_eq_true rfl)
      · have hop51 : op51 < 47 := hw
        have hP : va_P (tp_D E) tp_cl ((aY, .inr (1, [.ref aC, .int xc, .int xe, .int at50, .int ws50, .int we50])) :: (aC, .inl (tp_ty E 4, 28, .inl fC)) :: (q1, .inr (3, [.int rv49, .ref (tp_ad E 0), .int 0, .int 0, .int 0, .long 0, .int 0, .int 0, .int 0, .int 0, .int 0])) :: fr) H := hP
        have hD : va_D A ((aY, .inr (1, [.ref aC, .int xc, .int xe, .int at50, .int ws50, .int we50])) :: (aC, .inl (tp_ty E 4, 28, .inl fC)) :: (q1, .inr (3, [.int rv49, .ref (tp_ad E 0), .int 0, .int 0, .int 0, .long 0, .int 0, .int 0, .int 0, .int 0, .int 0])) :: fr) := hD
        refine va_put (D := tp_D E) (ci := 3) (v := .ref (tp_ad E op51)) (ty := (.object "TwoPass$Operation")) (C := qR_N) (T := qF_N) (N := 11) hx hb htg qi_N qt_N qt_N_ok qn_N hown hK.1 hP hD hS 2 rfl rfl 1 (by decide) (htg _ kl_Y_46) (fun _ h => h) rfl (by decide +kernel) rfl rfl (Nat.le_of_ble_eq_true rfl) d_Y_read_48 (fun H locs hP hD hS => ?_)
        have hP : va_P (tp_D E) tp_cl ((aY, .inr (1, [.ref aC, .int xc, .int xe, .int at50, .int ws50, .int we50])) :: (aC, .inl (tp_ty E 4, 28, .inl fC)) :: (q1, .inr (3, [.int rv49, .ref (tp_ad E op51), .int 0, .int 0, .int 0, .long 0, .int 0, .int 0, .int 0, .int 0, .int 0])) :: fr) H := hP
        have hD : va_D A ((aY, .inr (1, [.ref aC, .int xc, .int xe, .int at50, .int ws50, .int we50])) :: (aC, .inl (tp_ty E 4, 28, .inl fC)) :: (q1, .inr (3, [.int rv49, .ref (tp_ad E op51), .int 0, .int 0, .int 0, .long 0, .int 0, .int 0, .int 0, .int 0, .int 0])) :: fr) := hD
        refine lv_aload_n hx hb d_Y_read_51 rfl (lv_at hl 0 rfl) ?_
        refine va_get (D := tp_D E) (ci := 3) (v := .ref (tp_ad E op51)) (C := qR_N) (T := qF_N) (N := 11) hx hb htg qi_N hown hK.1 hP 2 rfl rfl 1 (by decide) (htg _ kl_Y_46) (fun _ h => h) rfl d_Y_read_52 ?_
        refine vk_getf (v := .ref (tp_ad E (200 + (47 + op51)))) hx hb (hK.opr (i := op51) hop51) hS hown (htg _ kl_Y_50) (fun _ h => h) d_Y_read_55 ?_
        refine lv_astore_n (lv' := [(2, .ref (tp_ad E (200 + (47 + op51)))), (1, .ref q1), (0, .ref aY)]) hx hb d_Y_read_58 rfl hl (by decide) rfl (fun ls hl => ?_)
        refine lv_iconst (v := 0) hx hb d_Y_read_59 (by decide) ?_
        refine lv_istore_n (lv' := [(3, .int 0), (2, .ref (tp_ad E (200 + (47 + op51)))), (1, .ref q1), (0, .ref aY)]) hx hb d_Y_read_60 rfl hl (by decide) rfl (fun ls hl => ?_)
        have hl7 := tp_len7 (i := 47 + op51) (by omega)
        refine tp_loopC (fun j ls H locs cells slots (a : Int32 × Int32 × Int32 × Int32 × Int32 × Int32 × Int32 × Int64 × Int32) => sf_S9 (fun (k : Int32) (ya : Int32) (yw : Int32) (yv : Int32) (yd : Int32) (ys : Int32) (yt : Int32) (yn : Int64) (ym : Int32) => ((0 ≤ k.toInt) ∧ (k.toInt + (j : Int) = (tp_len.getD (47 + op51) 0 : Nat)) ∧ (sf_Y xe ya) ∧ (cells + 2 * j ≤ 17 ∧ slots + 12 * j ≤ 107)) ∧ lv_has ls 4 [(3, .int k), (2, .ref (tp_ad E (200 + (47 + op51)))), (1, .ref q1), (0, .ref aY)] ∧ va_P (tp_D E) tp_cl ((aY, .inr (1, [.ref aC, .int xc, .int xe, .int ya, .int yw, .int yv])) :: (aC, .inl (tp_ty E 4, 28, .inl fC)) :: (q1, .inr (3, [.int rv49, .ref (tp_ad E op51), .int yd, .int ys, .int yt, .long yn, .int ym, .int 0, .int 0, .int 0, .int 0])) :: fr) H ∧ va_D A ((aY, .inr (1, [.ref aC, .int xc, .int xe, .int ya, .int yw, .int yv])) :: (aC, .inl (tp_ty E 4, 28, .inl fC)) :: (q1, .inr (3, [.int rv49, .ref (tp_ad E op51), .int yd, .int ys, .int yt, .long yn, .int ym, .int 0, .int 0, .int 0, .int 0])) :: fr) ∧ va_S A s.heap H locs) a) ?_ (tp_len.getD (47 + op51) 0) (0, at50, ws50, we50, 0, 0, 0, 0, 0) ⟨⟨show 0 ≤ (0 : Int32).toInt from by decide, show (0 : Int32).toInt + ((tp_len.getD (47 + op51) 0 : Nat) : Int) = ((tp_len.getD (47 + op51) 0 : Nat) : Int) from by rw [Int32.toInt_zero]; omega, (sf_WY hw50), (fun (h : tp_len.getD (47 + op51) 0 ≤ 7) => show 3 + 2 * (tp_len.getD (47 + op51) 0) ≤ 17 ∧ 23 + 12 * (tp_len.getD (47 + op51) 0) ≤ 107 from ⟨by omega, by omega⟩) hl7⟩, tp_lvI hl [0, 1, 2, 3] rfl, hP, hD, hS⟩
        intro j a ls H locs cells slots hI ih
        obtain ⟨k, ya, yw, yv, yd, ys, yt, yn, ym⟩ := a
        obtain ⟨⟨hk, hj, hya, hrm⟩, hl, hP, hD, hS⟩ : ((0 ≤ k.toInt) ∧ (k.toInt + (j : Int) = (tp_len.getD (47 + op51) 0 : Nat)) ∧ (sf_Y xe ya) ∧ (cells + 2 * j ≤ 17 ∧ slots + 12 * j ≤ 107)) ∧ lv_has ls 4 [(3, .int k), (2, .ref (tp_ad E (200 + (47 + op51)))), (1, .ref q1), (0, .ref aY)] ∧ va_P (tp_D E) tp_cl ((aY, .inr (1, [.ref aC, .int xc, .int xe, .int ya, .int yw, .int yv])) :: (aC, .inl (tp_ty E 4, 28, .inl fC)) :: (q1, .inr (3, [.int rv49, .ref (tp_ad E op51), .int yd, .int ys, .int yt, .long yn, .int ym, .int 0, .int 0, .int 0, .int 0])) :: fr) H ∧ va_D A ((aY, .inr (1, [.ref aC, .int xc, .int xe, .int ya, .int yw, .int yv])) :: (aC, .inl (tp_ty E 4, 28, .inl fC)) :: (q1, .inr (3, [.int rv49, .ref (tp_ad E op51), .int yd, .int ys, .int yt, .long yn, .int ym, .int 0, .int 0, .int 0, .int 0])) :: fr) ∧ va_S A s.heap H locs := hI
        refine lv_iload_n hx hb d_Y_read_61 rfl (lv_at hl 0 rfl) ?_
        refine lv_aload_n hx hb d_Y_read_62 rfl (lv_at hl 1 rfl) ?_
        refine tp_ci (tp_rV (As := []) (rest := [.int k]) ⟨hx, hb, hml, hown, htg⟩ (a_ST_length l E ((aY, .inr (1, [.ref aC, .int xc, .int xe, .int ya, .int yw, .int yv])) :: (aC, .inl (tp_ty E 4, 28, .inl fC)) :: (q1, .inr (3, [.int rv49, .ref (tp_ad E op51), .int yd, .int ys, .int yt, .long yn, .int ym, .int 0, .int 0, .int 0, .int 0])) :: fr) _ (47 + op51) (Nat.lt_of_lt_of_le (Nat.add_lt_add_left hop51 47) (by decide)) ) (⟨callB_of 0 htg (tp_good0 kc_ST_length) rfl rfl rfl (htg _ ki_ST) (htg _ kl_Y_56) ⟨by decide, by decide, by decide +kernel⟩ ⟨Nat.le_of_ble_eq_true rfl, Nat.le_of_ble_eq_true rfl⟩, htg _ km_ST_length, htg _ kv_ST_ST_length⟩) (hK.strO (i := (47 + op51)) (Nat.lt_of_lt_of_le (Nat.add_lt_add_left hop51 47) (by decide)) hS) hK hP hD hS hA rfl hl.1 rfl (Nat.le_of_ble_eq_true rfl) d_Y_read_63 ⟨Nat.le_trans (m := 20) (by omega) (Nat.le_of_ble_eq_true rfl), Nat.le_trans (m := 125) (by omega) (Nat.le_of_ble_eq_true rfl)⟩) hD hS hA (fun r u H locs hw hP hD hS => ?_)
        subst r
        have hP : va_P (tp_D E) tp_cl ((aY, .inr (1, [.ref aC, .int xc, .int xe, .int ya, .int yw, .int yv])) :: (aC, .inl (tp_ty E 4, 28, .inl fC)) :: (q1, .inr (3, [.int rv49, .ref (tp_ad E op51), .int yd, .int ys, .int yt, .long yn, .int ym, .int 0, .int 0, .int 0, .int 0])) :: fr) H := hP
        have hD : va_D A ((aY, .inr (1, [.ref aC, .int xc, .int xe, .int ya, .int yw, .int yv])) :: (aC, .inl (tp_ty E 4, 28, .inl fC)) :: (q1, .inr (3, [.int rv49, .ref (tp_ad E op51), .int yd, .int ys, .int yt, .long yn, .int ym, .int 0, .int 0, .int 0, .int 0])) :: fr) := hD
        by_cases h2 : (Int32.ofNat (tp_len.getD (47 + op51) 0)) ≤ k
        · refine lv_icmp_ge (tgt := 85) hx hb d_Y_read_66 (by decide) (fun _ => ?_) (fun h => absurd h2 h)
          refine lv_aload_n hx hb d_Y_read_85 rfl (lv_at hl 3 rfl) ?_
          refine va_get (D := tp_D E) (ci := 1) (v := .int ya) (C := qR_Y) (T := qF_Y) (N := 6) hx hb htg qi_Y hown hK.1 hP 0 rfl rfl 3 (by decide) (htg _ kl_Y_22) (fun _ h => h) rfl d_Y_read_86 ?_
          refine lv_aload_n hx hb d_Y_read_89 rfl (lv_at hl 3 rfl) ?_
          refine va_get (D := tp_D E) (ci := 1) (v := .int xe) (C := qR_Y) (T := qF_Y) (N := 6) hx hb htg qi_Y hown hK.1 hP 0 rfl rfl 2 (by decide) (htg _ kl_Y_19) (fun _ h => h) rfl d_Y_read_90 ?_
          by_cases h3 : xe ≤ ya
          · refine lv_icmp_ge (tgt := 118) hx hb d_Y_read_93 (by decide) (fun _ => ?_) (fun h => absurd h3 h)
            refine lv_aload_n hx hb d_Y_read_118 rfl (lv_at hl 2 rfl) ?_
            have hP : va_P (tp_D E) tp_cl ((aC, .inl (tp_ty E 4, 28, .inl fC)) :: (aY, .inr (1, [.ref aC, .int xc, .int xe, .int ya, .int yw, .int yv])) :: (q1, .inr (3, [.int rv49, .ref (tp_ad E op51), .int yd, .int ys, .int yt, .long yn, .int ym, .int 0, .int 0, .int 0, .int 0])) :: fr) _ := tp_mvP 1 rfl hP
            have hD : va_D A ((aC, .inl (tp_ty E 4, 28, .inl fC)) :: (aY, .inr (1, [.ref aC, .int xc, .int xe, .int ya, .int yw, .int yv])) :: (q1, .inr (3, [.int rv49, .ref (tp_ad E op51), .int yd, .int ys, .int yt, .long yn, .int ym, .int 0, .int 0, .int 0, .int 0])) :: fr) := tp_mvD 1 rfl hD
            have hP : va_P (tp_D E) tp_cl ((aY, .inr (1, [.ref aC, .int xc, .int xe, .int ya, .int yw, .int yv])) :: (aC, .inl (tp_ty E 4, 28, .inl fC)) :: (q1, .inr (3, [.int rv49, .ref (tp_ad E op51), .int yd, .int ys, .int yt, .long yn, .int ym, .int 0, .int 0, .int 0, .int 0])) :: fr) _ := tp_mvP 1 rfl hP
            have hD : va_D A ((aY, .inr (1, [.ref aC, .int xc, .int xe, .int ya, .int yw, .int yv])) :: (aC, .inl (tp_ty E 4, 28, .inl fC)) :: (q1, .inr (3, [.int rv49, .ref (tp_ad E op51), .int yd, .int ys, .int yt, .long yn, .int ym, .int 0, .int 0, .int 0, .int 0])) :: fr) := tp_mvD 1 rfl hD
            have hP : va_P (tp_D E) tp_cl ((q1, .inr (3, [.int rv49, .ref (tp_ad E op51), .int yd, .int ys, .int yt, .long yn, .int ym, .int 0, .int 0, .int 0, .int 0])) :: (aY, .inr (1, [.ref aC, .int xc, .int xe, .int ya, .int yw, .int yv])) :: (aC, .inl (tp_ty E 4, 28, .inl fC)) :: fr) _ := tp_mvP 2 rfl hP
            have hD : va_D A ((q1, .inr (3, [.int rv49, .ref (tp_ad E op51), .int yd, .int ys, .int yt, .long yn, .int ym, .int 0, .int 0, .int 0, .int 0])) :: (aY, .inr (1, [.ref aC, .int xc, .int xe, .int ya, .int yw, .int yv])) :: (aC, .inl (tp_ty E 4, 28, .inl fC)) :: fr) := tp_mvD 2 rfl hD
            exact tp_widen (k := 20) (n := 125) (by omega) (by omega) (vx_ret (W.aret (v := .ref q1) hx hb hr (Or.inl ⟨_, rfl⟩) (Or.inr ⟨_, rfl⟩) (fun t ht hW => ⟨⟨(q1, ya, yw, yv, rv49, op51, yd, ys, yt, yn, ym), _, rfl, hop51, rfl, by rw [ht]; exact hP, hD⟩, hS.F ht⟩) hS.2.2 d_Y_read_119))
          · refine lv_icmp_ge (tgt := 118) hx hb d_Y_read_93 (by decide) (fun h => absurd h h3) (fun _ => ?_)
            refine lv_aload_n hx hb d_Y_read_96 rfl (lv_at hl 3 rfl) ?_
            refine va_get (D := tp_D E) (ci := 1) (v := .ref aC) (C := qR_Y) (T := qF_Y) (N := 6) hx hb htg qi_Y hown hK.1 hP 0 rfl rfl 0 (by decide) (htg _ kl_Y_9) (fun _ h => h) rfl d_Y_read_97 ?_
            refine lv_aload_n hx hb d_Y_read_100 rfl (lv_at hl 3 rfl) ?_
            refine va_get (D := tp_D E) (ci := 1) (v := .int ya) (C := qR_Y) (T := qF_Y) (N := 6) hx hb htg qi_Y hown hK.1 hP 0 rfl rfl 3 (by decide) (htg _ kl_Y_22) (fun _ h => h) rfl d_Y_read_101 ?_
            refine va_cald (D := tp_D E) hx hb hK.1 hP 1 4 rfl rfl (sf_vin hya h3) d_Y_read_104 ?_
            refine lv_bipush (v := 35) hx hb d_Y_read_105 (by decide) ?_
            by_cases h4 : (fC ya.toNatClampNeg) = 35
            · refine lv_icmp_eq (tgt := 118) hx hb d_Y_read_107 (by decide) (fun _ => ?_) (fun h => absurd h4 h)
              refine lv_aload_n hx hb d_Y_read_118 rfl (lv_at hl 2 rfl) ?_
              have hP : va_P (tp_D E) tp_cl ((aC, .inl (tp_ty E 4, 28, .inl fC)) :: (aY, .inr (1, [.ref aC, .int xc, .int xe, .int ya, .int yw, .int yv])) :: (q1, .inr (3, [.int rv49, .ref (tp_ad E op51), .int yd, .int ys, .int yt, .long yn, .int ym, .int 0, .int 0, .int 0, .int 0])) :: fr) _ := tp_mvP 1 rfl hP
              have hD : va_D A ((aC, .inl (tp_ty E 4, 28, .inl fC)) :: (aY, .inr (1, [.ref aC, .int xc, .int xe, .int ya, .int yw, .int yv])) :: (q1, .inr (3, [.int rv49, .ref (tp_ad E op51), .int yd, .int ys, .int yt, .long yn, .int ym, .int 0, .int 0, .int 0, .int 0])) :: fr) := tp_mvD 1 rfl hD
              have hP : va_P (tp_D E) tp_cl ((aY, .inr (1, [.ref aC, .int xc, .int xe, .int ya, .int yw, .int yv])) :: (aC, .inl (tp_ty E 4, 28, .inl fC)) :: (q1, .inr (3, [.int rv49, .ref (tp_ad E op51), .int yd, .int ys, .int yt, .long yn, .int ym, .int 0, .int 0, .int 0, .int 0])) :: fr) _ := tp_mvP 1 rfl hP
              have hD : va_D A ((aY, .inr (1, [.ref aC, .int xc, .int xe, .int ya, .int yw, .int yv])) :: (aC, .inl (tp_ty E 4, 28, .inl fC)) :: (q1, .inr (3, [.int rv49, .ref (tp_ad E op51), .int yd, .int ys, .int yt, .long yn, .int ym, .int 0, .int 0, .int 0, .int 0])) :: fr) := tp_mvD 1 rfl hD
              have hP : va_P (tp_D E) tp_cl ((q1, .inr (3, [.int rv49, .ref (tp_ad E op51), .int yd, .int ys, .int yt, .long yn, .int ym, .int 0, .int 0, .int 0, .int 0])) :: (aY, .inr (1, [.ref aC, .int xc, .int xe, .int ya, .int yw, .int yv])) :: (aC, .inl (tp_ty E 4, 28, .inl fC)) :: fr) _ := tp_mvP 2 rfl hP
              have hD : va_D A ((q1, .inr (3, [.int rv49, .ref (tp_ad E op51), .int yd, .int ys, .int yt, .long yn, .int ym, .int 0, .int 0, .int 0, .int 0])) :: (aY, .inr (1, [.ref aC, .int xc, .int xe, .int ya, .int yw, .int yv])) :: (aC, .inl (tp_ty E 4, 28, .inl fC)) :: fr) := tp_mvD 2 rfl hD
              exact tp_widen (k := 20) (n := 125) (by omega) (by omega) (vx_ret (W.aret (v := .ref q1) hx hb hr (Or.inl ⟨_, rfl⟩) (Or.inr ⟨_, rfl⟩) (fun t ht hW => ⟨⟨(q1, ya, yw, yv, rv49, op51, yd, ys, yt, yn, ym), _, rfl, hop51, rfl, by rw [ht]; exact hP, hD⟩, hS.F ht⟩) hS.2.2 d_Y_read_119))
            · refine lv_icmp_eq (tgt := 118) hx hb d_Y_read_107 (by decide) (fun h => absurd h h4) (fun _ => ?_)
              have hP : va_P (tp_D E) tp_cl ((aC, .inl (tp_ty E 4, 28, .inl fC)) :: (aY, .inr (1, [.ref aC, .int xc, .int xe, .int ya, .int yw, .int yv])) :: (q1, .inr (3, [.int rv49, .ref (tp_ad E op51), .int yd, .int ys, .int yt, .long yn, .int ym, .int 0, .int 0, .int 0, .int 0])) :: fr) _ := tp_mvP 1 rfl hP
              have hD : va_D A ((aC, .inl (tp_ty E 4, 28, .inl fC)) :: (aY, .inr (1, [.ref aC, .int xc, .int xe, .int ya, .int yw, .int yv])) :: (q1, .inr (3, [.int rv49, .ref (tp_ad E op51), .int yd, .int ys, .int yt, .long yn, .int ym, .int 0, .int 0, .int 0, .int 0])) :: fr) := tp_mvD 1 rfl hD
              have hP : va_P (tp_D E) tp_cl ((aY, .inr (1, [.ref aC, .int xc, .int xe, .int ya, .int yw, .int yv])) :: (aC, .inl (tp_ty E 4, 28, .inl fC)) :: (q1, .inr (3, [.int rv49, .ref (tp_ad E op51), .int yd, .int ys, .int yt, .long yn, .int ym, .int 0, .int 0, .int 0, .int 0])) :: fr) _ := tp_mvP 1 rfl hP
              have hD : va_D A ((aY, .inr (1, [.ref aC, .int xc, .int xe, .int ya, .int yw, .int yv])) :: (aC, .inl (tp_ty E 4, 28, .inl fC)) :: (q1, .inr (3, [.int rv49, .ref (tp_ad E op51), .int yd, .int ys, .int yt, .long yn, .int ym, .int 0, .int 0, .int 0, .int 0])) :: fr) := tp_mvD 1 rfl hD
              have hP : va_P (tp_D E) tp_cl ((q1, .inr (3, [.int rv49, .ref (tp_ad E op51), .int yd, .int ys, .int yt, .long yn, .int ym, .int 0, .int 0, .int 0, .int 0])) :: (aY, .inr (1, [.ref aC, .int xc, .int xe, .int ya, .int yw, .int yv])) :: (aC, .inl (tp_ty E 4, 28, .inl fC)) :: fr) _ := tp_mvP 2 rfl hP
              have hD : va_D A ((q1, .inr (3, [.int rv49, .ref (tp_ad E op51), .int yd, .int ys, .int yt, .long yn, .int ym, .int 0, .int 0, .int 0, .int 0])) :: (aY, .inr (1, [.ref aC, .int xc, .int xe, .int ya, .int yw, .int yv])) :: (aC, .inl (tp_ty E 4, 28, .inl fC)) :: fr) := tp_mvD 2 rfl hD
              exact vx_throw0 (own := "TwoPass$Typed") (cls := "java/lang/IllegalArgumentException") (names := ["java/lang/RuntimeException", "java/lang/Exception"]) (ik := 69) (ic := 71) hx hb hfl hown (by decide +kernel) (by decide +kernel) (htg _ kl_Y_69) (htg _ kx_IllegalArgumentException) (kxa_Y_71 htg hK.2.2.2.1) kxg_Y_71 hK.2.1 hK.2.2.1 hS (hl.1.trans hml.symm) d_Y_read_110 d_Y_read_113 d_Y_read_114 d_Y_read_117 (fun x h => (htab x h).elim) (Nat.le_of_ble_eq_true rfl) (Nat.le_of_ble_eq_true rfl) (Nat.le_trans (m := 20) (by omega) (Nat.le_of_ble_eq_true rfl)) (Nat.le_trans (m := 125) (by omega) (Nat.le_of_ble_eq_true rfl)) hlocks (fun t hvm hz hq => ⟨(ya, yw, yv), trivial, ⟨rfl, va_P.kept (tp_tlP hP) (fun k q hk => hq _ (vx_lt (tp_tlP hP) hk)), (tp_tlD hD)⟩, ⟨Nat.le_trans hS.1 hz, fun q h1 h2 => (hq q (Nat.lt_of_lt_of_le h1 hS.1)).trans (hS.2.1 q h1 h2)⟩⟩) hS.2.2 (by omega) (by omega)
        · refine lv_icmp_ge (tgt := 85) hx hb d_Y_read_66 (by decide) (fun h => absurd h h2) (fun _ => ?_)
          refine lv_aload_n hx hb d_Y_read_69 rfl (lv_at hl 3 rfl) ?_
          refine lv_aload_n hx hb d_Y_read_70 rfl (lv_at hl 2 rfl) ?_
          refine lv_aload_n hx hb d_Y_read_71 rfl (lv_at hl 1 rfl) ?_
          refine lv_iload_n hx hb d_Y_read_72 rfl (lv_at hl 0 rfl) ?_
          refine tp_ci (tp_rV (As := [.int k]) (rest := [.ref q1, .ref aY]) ⟨hx, hb, hml, hown, htg⟩ (a_ST_charAt l E ((aY, .inr (1, [.ref aC, .int xc, .int xe, .int ya, .int yw, .int yv])) :: (aC, .inl (tp_ty E 4, 28, .inl fC)) :: (q1, .inr (3, [.int rv49, .ref (tp_ad E op51), .int yd, .int ys, .int yt, .long yn, .int ym, .int 0, .int 0, .int 0, .int 0])) :: fr) _ (47 + op51) (Nat.lt_of_lt_of_le (Nat.add_lt_add_left hop51 47) (by decide)) k (tp_nn hk) (Int32.not_le.mp h2)) (⟨callB_of 1 htg (tp_good0 kc_ST_charAt) rfl rfl rfl (htg _ ki_ST) (htg _ kl_Y_61) ⟨by decide, by decide, by decide +kernel⟩ ⟨Nat.le_of_ble_eq_true rfl, Nat.le_of_ble_eq_true rfl⟩, htg _ km_ST_charAt, htg _ kv_ST_ST_charAt⟩) (hK.strO (i := (47 + op51)) (Nat.lt_of_lt_of_le (Nat.add_lt_add_left hop51 47) (by decide)) hS) hK hP hD hS hA rfl hl.1 rfl (Nat.le_of_ble_eq_true rfl) d_Y_read_73 ⟨Nat.le_trans (m := 20) (by omega) (Nat.le_of_ble_eq_true rfl), Nat.le_trans (m := 125) (by omega) (Nat.le_of_ble_eq_true rfl)⟩) hD hS hA (fun r u H locs hw hP hD hS => ?_)
          subst r
          have hP : va_P (tp_D E) tp_cl ((aY, .inr (1, [.ref aC, .int xc, .int xe, .int ya, .int yw, .int yv])) :: (aC, .inl (tp_ty E 4, 28, .inl fC)) :: (q1, .inr (3, [.int rv49, .ref (tp_ad E op51), .int yd, .int ys, .int yt, .long yn, .int ym, .int 0, .int 0, .int 0, .int 0])) :: fr) H := hP
          have hD : va_D A ((aY, .inr (1, [.ref aC, .int xc, .int xe, .int ya, .int yw, .int yv])) :: (aC, .inl (tp_ty E 4, 28, .inl fC)) :: (q1, .inr (3, [.int rv49, .ref (tp_ad E op51), .int yd, .int ys, .int yt, .long yn, .int ym, .int 0, .int 0, .int 0, .int 0])) :: fr) := hD
          refine sf_bv (tp_xV (As := [.ref q1, .int ((tp_byt.getD (47 + op51) []).getD k.toNatClampNeg 0)]) (rest := []) ⟨hx, hb, hml, hown, htg⟩ (s_Y_readOperand l hfl E fr _ aY aC xc xe ya yw yv fC q1 rv49 op51 yd ys yt yn ym 0 0 0 0 ((tp_byt.getD (47 + op51) []).getD k.toNatClampNeg 0) hya hop51) (⟨callB_of 2 htg (tp_good0 kc_Y_readOperand) rfl rfl rfl (htg _ ki_Y) (htg _ kl_Y_65) ⟨by decide, by decide, by decide +kernel⟩ ⟨Nat.le_of_ble_eq_true rfl, Nat.le_of_ble_eq_true rfl⟩, htg _ km_Y_readOperand, htg _ kp_Y_readOperand⟩) (va_recv (ci := 1) (q0 := 0) hK.1 hP rfl rfl) hK hP hD hS hA rfl hl.1 rfl (Nat.le_of_ble_eq_true rfl) d_Y_read_76 ⟨Nat.le_trans (m := 20) (by omega) (Nat.le_of_ble_eq_true rfl), Nat.le_trans (m := 125) (by omega) (Nat.le_of_ble_eq_true rfl)⟩) hD hS hA (fun ce q xu H locs hpx hP hD hS hce hcv hcl => ?_) (fun u H locs hw hP hD hS => ?_)
          · have hP : va_P (tp_D E) tp_cl ((aY, .inr (1, [.ref aC, .int xc, .int xe, .int xu.1, .int xu.2.1, .int xu.2.2.1])) :: (aC, .inl (tp_ty E 4, 28, .inl fC)) :: (q1, .inr (3, [.int rv49, .ref (tp_ad E op51), .int xu.2.2.2.1, .int xu.2.2.2.2.1, .int xu.2.2.2.2.2.1, .long xu.2.2.2.2.2.2.1, .int xu.2.2.2.2.2.2.2, .int 0, .int 0, .int 0, .int 0])) :: fr) H := hP
            have hD : va_D A ((aY, .inr (1, [.ref aC, .int xc, .int xe, .int xu.1, .int xu.2.1, .int xu.2.2.1])) :: (aC, .inl (tp_ty E 4, 28, .inl fC)) :: (q1, .inr (3, [.int rv49, .ref (tp_ad E op51), .int xu.2.2.2.1, .int xu.2.2.2.2.1, .int xu.2.2.2.2.2.1, .long xu.2.2.2.2.2.2.1, .int xu.2.2.2.2.2.2.2, .int 0, .int 0, .int 0, .int 0])) :: fr) := hD
            have hP : va_P (tp_D E) tp_cl ((aC, .inl (tp_ty E 4, 28, .inl fC)) :: (aY, .inr (1, [.ref aC, .int xc, .int xe, .int xu.1, .int xu.2.1, .int xu.2.2.1])) :: (q1, .inr (3, [.int rv49, .ref (tp_ad E op51), .int xu.2.2.2.1, .int xu.2.2.2.2.1, .int xu.2.2.2.2.2.1, .long xu.2.2.2.2.2.2.1, .int xu.2.2.2.2.2.2.2, .int 0, .int 0, .int 0, .int 0])) :: fr) _ := tp_mvP 1 rfl hP
            have hD : va_D A ((aC, .inl (tp_ty E 4, 28, .inl fC)) :: (aY, .inr (1, [.ref aC, .int xc, .int xe, .int xu.1, .int xu.2.1, .int xu.2.2.1])) :: (q1, .inr (3, [.int rv49, .ref (tp_ad E op51), .int xu.2.2.2.1, .int xu.2.2.2.2.1, .int xu.2.2.2.2.2.1, .long xu.2.2.2.2.2.2.1, .int xu.2.2.2.2.2.2.2, .int 0, .int 0, .int 0, .int 0])) :: fr) := tp_mvD 1 rfl hD
            have hP : va_P (tp_D E) tp_cl ((aY, .inr (1, [.ref aC, .int xc, .int xe, .int xu.1, .int xu.2.1, .int xu.2.2.1])) :: (aC, .inl (tp_ty E 4, 28, .inl fC)) :: (q1, .inr (3, [.int rv49, .ref (tp_ad E op51), .int xu.2.2.2.1, .int xu.2.2.2.2.1, .int xu.2.2.2.2.2.1, .long xu.2.2.2.2.2.2.1, .int xu.2.2.2.2.2.2.2, .int 0, .int 0, .int 0, .int 0])) :: fr) _ := tp_mvP 1 rfl hP
            have hD : va_D A ((aY, .inr (1, [.ref aC, .int xc, .int xe, .int xu.1, .int xu.2.1, .int xu.2.2.1])) :: (aC, .inl (tp_ty E 4, 28, .inl fC)) :: (q1, .inr (3, [.int rv49, .ref (tp_ad E op51), .int xu.2.2.2.1, .int xu.2.2.2.2.1, .int xu.2.2.2.2.2.1, .long xu.2.2.2.2.2.2.1, .int xu.2.2.2.2.2.2.2, .int 0, .int 0, .int 0, .int 0])) :: fr) := tp_mvD 1 rfl hD
            have hP : va_P (tp_D E) tp_cl ((q1, .inr (3, [.int rv49, .ref (tp_ad E op51), .int xu.2.2.2.1, .int xu.2.2.2.2.1, .int xu.2.2.2.2.2.1, .long xu.2.2.2.2.2.2.1, .int xu.2.2.2.2.2.2.2, .int 0, .int 0, .int 0, .int 0])) :: (aY, .inr (1, [.ref aC, .int xc, .int xe, .int xu.1, .int xu.2.1, .int xu.2.2.1])) :: (aC, .inl (tp_ty E 4, 28, .inl fC)) :: fr) _ := tp_mvP 2 rfl hP
            have hD : va_D A ((q1, .inr (3, [.int rv49, .ref (tp_ad E op51), .int xu.2.2.2.1, .int xu.2.2.2.2.1, .int xu.2.2.2.2.2.1, .long xu.2.2.2.2.2.2.1, .int xu.2.2.2.2.2.2.2, .int 0, .int 0, .int 0, .int 0])) :: (aY, .inr (1, [.ref aC, .int xc, .int xe, .int xu.1, .int xu.2.1, .int xu.2.2.1])) :: (aC, .inl (tp_ty E 4, 28, .inl fC)) :: fr) := tp_mvD 2 rfl hD
            exact vx_out (fun x h => (htab x h).elim) hlocks hce hcv hcl (fun t ht hvm => ⟨(xu.1, xu.2.1, xu.2.2.1), trivial, ⟨rfl, by rw [ht]; exact (tp_tlP hP), (tp_tlD hD)⟩, hS.F ht⟩) hS.2.2 (by omega) (by omega)
          · obtain ⟨at52, ws52, we52, zd52, zs52, zt52, zn52, zm52⟩ := u
            have hz52 : sf_Y xe at52 := hw
            have hP : va_P (tp_D E) tp_cl ((aY, .inr (1, [.ref aC, .int xc, .int xe, .int at52, .int ws52, .int we52])) :: (aC, .inl (tp_ty E 4, 28, .inl fC)) :: (q1, .inr (3, [.int rv49, .ref (tp_ad E op51), .int zd52, .int zs52, .int zt52, .long zn52, .int zm52, .int 0, .int 0, .int 0, .int 0])) :: fr) H := hP
            have hD : va_D A ((aY, .inr (1, [.ref aC, .int xc, .int xe, .int at52, .int ws52, .int we52])) :: (aC, .inl (tp_ty E 4, 28, .inl fC)) :: (q1, .inr (3, [.int rv49, .ref (tp_ad E op51), .int zd52, .int zs52, .int zt52, .long zn52, .int zm52, .int 0, .int 0, .int 0, .int 0])) :: fr) := hD
            refine lv_iinc (k := 0) (v := (k + 1)) (lv' := [(3, .int (k + 1)), (2, .ref (tp_ad E (200 + (47 + op51)))), (1, .ref q1), (0, .ref aY)]) hx hb d_Y_read_79 hl rfl rfl (by decide) rfl (fun ls hl => ?_)
            refine lv_goto (tgt := 61) hx hb d_Y_read_82 (by decide) ?_
            have hlt := (tp_klt hl7 h2)
            have hk1 : (k + 1).toInt = k.toInt + 1 := tp_inc (by omega)
            have hjp : j - 1 < j := by omega
            exact ih (j - 1) (k + 1, at52, ws52, we52, zd52, zs52, zt52, zn52, zm52) ls _ _ _ _ hjp ⟨⟨(by omega : 0 ≤ (k + 1).toInt), (by omega : (k + 1).toInt + ((j - 1 : Nat) : Int) = ((tp_len.getD (47 + op51) 0 : Nat) : Int)), hz52, by constructor <;> omega⟩, tp_lvI hl [0, 1, 2, 3] rfl, hP, hD, hS⟩
  · refine lv_if_eq (tgt := 43) hx hb d_Y_read_18 (by decide) (fun _ => ?_) (fun h => absurd (by decide) h)
    refine lv_aload_n hx hb d_Y_read_43 rfl (lv_at hl 0 rfl) ?_
    refine lv_aload_n hx hb d_Y_read_44 rfl (lv_at hl 1 rfl) ?_
    refine sf_br (tp_xV (As := []) (rest := [.ref q1]) ⟨hx, hb, hml, hown, htg⟩ (s_Y_wordAsOperation l hfl E ((q1, .inr (3, [.int 0, .ref (tp_ad E 0), .int 0, .int 0, .int 0, .long 0, .int 0, .int 0, .int 0, .int 0, .int 0])) :: fr) _ aY aC xc xe at46 ws46 we46 fC (sf_WV hw46)) (⟨callB_of 0 htg (tp_good0 kc_Y_wordAsOperation) rfl rfl rfl (htg _ ki_Y) (htg _ kl_Y_42) ⟨by decide, by decide, by decide +kernel⟩ ⟨Nat.le_of_ble_eq_true rfl, Nat.le_of_ble_eq_true rfl⟩, htg _ km_Y_wordAsOperation, htg _ kp_Y_wordAsOperation⟩) (va_recv (ci := 1) (q0 := 0) hK.1 hP rfl rfl) hK hP hD hS hA rfl hl.1 rfl (Nat.le_of_ble_eq_true rfl) d_Y_read_45 ⟨Nat.le_of_ble_eq_true rfl, Nat.le_of_ble_eq_true rfl⟩) hD hS hA (fun ce q xu H locs hpx hP hD hS hce hcv hcl => ?_) (fun op53 H locs hw hP hD hS => ?_)
    · have hP : va_P (tp_D E) tp_cl ((aY, .inr (1, [.ref aC, .int xc, .int xe, .int xu.1, .int xu.2.1, .int xu.2.2])) :: (aC, .inl (tp_ty E 4, 28, .inl fC)) :: (q1, .inr (3, [.int 0, .ref (tp_ad E 0), .int 0, .int 0, .int 0, .long 0, .int 0, .int 0, .int 0, .int 0, .int 0])) :: fr) H := hP
      have hD : va_D A ((aY, .inr (1, [.ref aC, .int xc, .int xe, .int xu.1, .int xu.2.1, .int xu.2.2])) :: (aC, .inl (tp_ty E 4, 28, .inl fC)) :: (q1, .inr (3, [.int 0, .ref (tp_ad E 0), .int 0, .int 0, .int 0, .long 0, .int 0, .int 0, .int 0, .int 0, .int 0])) :: fr) := hD
      have hP : va_P (tp_D E) tp_cl ((aC, .inl (tp_ty E 4, 28, .inl fC)) :: (aY, .inr (1, [.ref aC, .int xc, .int xe, .int xu.1, .int xu.2.1, .int xu.2.2])) :: (q1, .inr (3, [.int 0, .ref (tp_ad E 0), .int 0, .int 0, .int 0, .long 0, .int 0, .int 0, .int 0, .int 0, .int 0])) :: fr) _ := tp_mvP 1 rfl hP
      have hD : va_D A ((aC, .inl (tp_ty E 4, 28, .inl fC)) :: (aY, .inr (1, [.ref aC, .int xc, .int xe, .int xu.1, .int xu.2.1, .int xu.2.2])) :: (q1, .inr (3, [.int 0, .ref (tp_ad E 0), .int 0, .int 0, .int 0, .long 0, .int 0, .int 0, .int 0, .int 0, .int 0])) :: fr) := tp_mvD 1 rfl hD
      have hP : va_P (tp_D E) tp_cl ((aY, .inr (1, [.ref aC, .int xc, .int xe, .int xu.1, .int xu.2.1, .int xu.2.2])) :: (aC, .inl (tp_ty E 4, 28, .inl fC)) :: (q1, .inr (3, [.int 0, .ref (tp_ad E 0), .int 0, .int 0, .int 0, .long 0, .int 0, .int 0, .int 0, .int 0, .int 0])) :: fr) _ := tp_mvP 1 rfl hP
      have hD : va_D A ((aY, .inr (1, [.ref aC, .int xc, .int xe, .int xu.1, .int xu.2.1, .int xu.2.2])) :: (aC, .inl (tp_ty E 4, 28, .inl fC)) :: (q1, .inr (3, [.int 0, .ref (tp_ad E 0), .int 0, .int 0, .int 0, .long 0, .int 0, .int 0, .int 0, .int 0, .int 0])) :: fr) := tp_mvD 1 rfl hD
      have hP : va_P (tp_D E) tp_cl ((q1, .inr (3, [.int 0, .ref (tp_ad E 0), .int 0, .int 0, .int 0, .long 0, .int 0, .int 0, .int 0, .int 0, .int 0])) :: (aY, .inr (1, [.ref aC, .int xc, .int xe, .int xu.1, .int xu.2.1, .int xu.2.2])) :: (aC, .inl (tp_ty E 4, 28, .inl fC)) :: fr) _ := tp_mvP 2 rfl hP
      have hD : va_D A ((q1, .inr (3, [.int 0, .ref (tp_ad E 0), .int 0, .int 0, .int 0, .long 0, .int 0, .int 0, .int 0, .int 0, .int 0])) :: (aY, .inr (1, [.ref aC, .int xc, .int xe, .int xu.1, .int xu.2.1, .int xu.2.2])) :: (aC, .inl (tp_ty E 4, 28, .inl fC)) :: fr) := tp_mvD 2 rfl hD
      exact vx_out (fun x h => (htab x h).elim) hlocks hce hcv hcl (fun t ht hvm => ⟨(xu.1, xu.2.1, xu.2.2), trivial, ⟨rfl, by rw [ht]; exact (tp_tlP hP), (tp_tlD hD)⟩, hS.F ht⟩) hS.2.2 (Nat.le_of_ble_eq_true rfl) (Nat.le_of_ble_eq_true rfl)
    · have hop53 : op53 < 47 := hw
      have hP : va_P (tp_D E) tp_cl ((aY, .inr (1, [.ref aC, .int xc, .int xe, .int at46, .int ws46, .int we46])) :: (aC, .inl (tp_ty E 4, 28, .inl fC)) :: (q1, .inr (3, [.int 0, .ref (tp_ad E 0), .int 0, .int 0, .int 0, .long 0, .int 0, .int 0, .int 0, .int 0, .int 0])) :: fr) H := hP
      have hD : va_D A ((aY, .inr (1, [.ref aC, .int xc, .int xe, .int at46, .int ws46, .int we46])) :: (aC, .inl (tp_ty E 4, 28, .inl fC)) :: (q1, .inr (3, [.int 0, .ref (tp_ad E 0), .int 0, .int 0, .int 0, .long 0, .int 0, .int 0, .int 0, .int 0, .int 0])) :: fr) := hD
      refine va_put (D := tp_D E) (ci := 3) (v := .ref (tp_ad E op53)) (ty := (.object "TwoPass$Operation")) (C := qR_N) (T := qF_N) (N := 11) hx hb htg qi_N qt_N qt_N_ok qn_N hown hK.1 hP hD hS 2 rfl rfl 1 (by decide) (htg _ kl_Y_46) (fun _ h => h) rfl (by decide +kernel) rfl rfl (Nat.le_of_ble_eq_true rfl) d_Y_read_48 (fun H locs hP hD hS => ?_)
      have hP : va_P (tp_D E) tp_cl ((aY, .inr (1, [.ref aC, .int xc, .int xe, .int at46, .int ws46, .int we46])) :: (aC, .inl (tp_ty E 4, 28, .inl fC)) :: (q1, .inr (3, [.int 0, .ref (tp_ad E op53), .int 0, .int 0, .int 0, .long 0, .int 0, .int 0, .int 0, .int 0, .int 0])) :: fr) H := hP
      have hD : va_D A ((aY, .inr (1, [.ref aC, .int xc, .int xe, .int at46, .int ws46, .int we46])) :: (aC, .inl (tp_ty E 4, 28, .inl fC)) :: (q1, .inr (3, [.int 0, .ref (tp_ad E op53), .int 0, .int 0, .int 0, .long 0, .int 0, .int 0, .int 0, .int 0, .int 0])) :: fr) := hD
      refine lv_aload_n hx hb d_Y_read_51 rfl (lv_at hl 0 rfl) ?_
      refine va_get (D := tp_D E) (ci := 3) (v := .ref (tp_ad E op53)) (C := qR_N) (T := qF_N) (N := 11) hx hb htg qi_N hown hK.1 hP 2 rfl rfl 1 (by decide) (htg _ kl_Y_46) (fun _ h => h) rfl d_Y_read_52 ?_
      refine vk_getf (v := .ref (tp_ad E (200 + (47 + op53)))) hx hb (hK.opr (i := op53) hop53) hS hown (htg _ kl_Y_50) (fun _ h => h) d_Y_read_55 ?_
      refine lv_astore_n (lv' := [(2, .ref (tp_ad E (200 + (47 + op53)))), (1, .ref q1), (0, .ref aY)]) hx hb d_Y_read_58 rfl hl (by decide) rfl (fun ls hl => ?_)
      refine lv_iconst (v := 0) hx hb d_Y_read_59 (by decide) ?_
      refine lv_istore_n (lv' := [(3, .int 0), (2, .ref (tp_ad E (200 + (47 + op53)))), (1, .ref q1), (0, .ref aY)]) hx hb d_Y_read_60 rfl hl (by decide) rfl (fun ls hl => ?_)
      have hl7 := tp_len7 (i := 47 + op53) (by omega)
      refine tp_loopC (fun j ls H locs cells slots (a : Int32 × Int32 × Int32 × Int32 × Int32 × Int32 × Int32 × Int64 × Int32) => sf_S9 (fun (k : Int32) (ya : Int32) (yw : Int32) (yv : Int32) (yd : Int32) (ys : Int32) (yt : Int32) (yn : Int64) (ym : Int32) => ((0 ≤ k.toInt) ∧ (k.toInt + (j : Int) = (tp_len.getD (47 + op53) 0 : Nat)) ∧ (sf_Y xe ya) ∧ (cells + 2 * j ≤ 16 ∧ slots + 12 * j ≤ 101)) ∧ lv_has ls 4 [(3, .int k), (2, .ref (tp_ad E (200 + (47 + op53)))), (1, .ref q1), (0, .ref aY)] ∧ va_P (tp_D E) tp_cl ((aY, .inr (1, [.ref aC, .int xc, .int xe, .int ya, .int yw, .int yv])) :: (aC, .inl (tp_ty E 4, 28, .inl fC)) :: (q1, .inr (3, [.int 0, .ref (tp_ad E op53), .int yd, .int ys, .int yt, .long yn, .int ym, .int 0, .int 0, .int 0, .int 0])) :: fr) H ∧ va_D A ((aY, .inr (1, [.ref aC, .int xc, .int xe, .int ya, .int yw, .int yv])) :: (aC, .inl (tp_ty E 4, 28, .inl fC)) :: (q1, .inr (3, [.int 0, .ref (tp_ad E op53), .int yd, .int ys, .int yt, .long yn, .int ym, .int 0, .int 0, .int 0, .int 0])) :: fr) ∧ va_S A s.heap H locs) a) ?_ (tp_len.getD (47 + op53) 0) (0, at46, ws46, we46, 0, 0, 0, 0, 0) ⟨⟨show 0 ≤ (0 : Int32).toInt from by decide, show (0 : Int32).toInt + ((tp_len.getD (47 + op53) 0 : Nat) : Int) = ((tp_len.getD (47 + op53) 0 : Nat) : Int) from by rw [Int32.toInt_zero]; omega, (sf_WY hw46), (fun (h : tp_len.getD (47 + op53) 0 ≤ 7) => show 2 + 2 * (tp_len.getD (47 + op53) 0) ≤ 16 ∧ 17 + 12 * (tp_len.getD (47 + op53) 0) ≤ 101 from ⟨by omega, by omega⟩) hl7⟩, tp_lvI hl [0, 1, 2, 3] rfl, hP, hD, hS⟩
      intro j a ls H locs cells slots hI ih
      obtain ⟨k, ya, yw, yv, yd, ys, yt, yn, ym⟩ := a
      obtain ⟨⟨hk, hj, hya, hrm⟩, hl, hP, hD, hS⟩ : ((0 ≤ k.toInt) ∧ (k.toInt + (j : Int) = (tp_len.getD (47 + op53) 0 : Nat)) ∧ (sf_Y xe ya) ∧ (cells + 2 * j ≤ 16 ∧ slots + 12 * j ≤ 101)) ∧ lv_has ls 4 [(3, .int k), (2, .ref (tp_ad E (200 + (47 + op53)))), (1, .ref q1), (0, .ref aY)] ∧ va_P (tp_D E) tp_cl ((aY, .inr (1, [.ref aC, .int xc, .int xe, .int ya, .int yw, .int yv])) :: (aC, .inl (tp_ty E 4, 28, .inl fC)) :: (q1, .inr (3, [.int 0, .ref (tp_ad E op53), .int yd, .int ys, .int yt, .long yn, .int ym, .int 0, .int 0, .int 0, .int 0])) :: fr) H ∧ va_D A ((aY, .inr (1, [.ref aC, .int xc, .int xe, .int ya, .int yw, .int yv])) :: (aC, .inl (tp_ty E 4, 28, .inl fC)) :: (q1, .inr (3, [.int 0, .ref (tp_ad E op53), .int yd, .int ys, .int yt, .long yn, .int ym, .int 0, .int 0, .int 0, .int 0])) :: fr) ∧ va_S A s.heap H locs := hI
      refine lv_iload_n hx hb d_Y_read_61 rfl (lv_at hl 0 rfl) ?_
      refine lv_aload_n hx hb d_Y_read_62 rfl (lv_at hl 1 rfl) ?_
      refine tp_ci (tp_rV (As := []) (rest := [.int k]) ⟨hx, hb, hml, hown, htg⟩ (a_ST_length l E ((aY, .inr (1, [.ref aC, .int xc, .int xe, .int ya, .int yw, .int yv])) :: (aC, .inl (tp_ty E 4, 28, .inl fC)) :: (q1, .inr (3, [.int 0, .ref (tp_ad E op53), .int yd, .int ys, .int yt, .long yn, .int ym, .int 0, .int 0, .int 0, .int 0])) :: fr) _ (47 + op53) (Nat.lt_of_lt_of_le (Nat.add_lt_add_left hop53 47) (by decide)) ) (⟨callB_of 0 htg (tp_good0 kc_ST_length) rfl rfl rfl (htg _ ki_ST) (htg _ kl_Y_56) ⟨by decide, by decide, by decide +kernel⟩ ⟨Nat.le_of_ble_eq_true rfl, Nat.le_of_ble_eq_true rfl⟩, htg _ km_ST_length, htg _ kv_ST_ST_length⟩) (hK.strO (i := (47 + op53)) (Nat.lt_of_lt_of_le (Nat.add_lt_add_left hop53 47) (by decide)) hS) hK hP hD hS hA rfl hl.1 rfl (Nat.le_of_ble_eq_true rfl) d_Y_read_63 ⟨Nat.le_trans (m := 19) (by omega) (Nat.le_of_ble_eq_true rfl), Nat.le_trans (m := 119) (by omega) (Nat.le_of_ble_eq_true rfl)⟩) hD hS hA (fun r u H locs hw hP hD hS => ?_)
      subst r
      have hP : va_P (tp_D E) tp_cl ((aY, .inr (1, [.ref aC, .int xc, .int xe, .int ya, .int yw, .int yv])) :: (aC, .inl (tp_ty E 4, 28, .inl fC)) :: (q1, .inr (3, [.int 0, .ref (tp_ad E op53), .int yd, .int ys, .int yt, .long yn, .int ym, .int 0, .int 0, .int 0, .int 0])) :: fr) H := hP
      have hD : va_D A ((aY, .inr (1, [.ref aC, .int xc, .int xe, .int ya, .int yw, .int yv])) :: (aC, .inl (tp_ty E 4, 28, .inl fC)) :: (q1, .inr (3, [.int 0, .ref (tp_ad E op53), .int yd, .int ys, .int yt, .long yn, .int ym, .int 0, .int 0, .int 0, .int 0])) :: fr) := hD
      by_cases h2 : (Int32.ofNat (tp_len.getD (47 + op53) 0)) ≤ k
      · refine lv_icmp_ge (tgt := 85) hx hb d_Y_read_66 (by decide) (fun _ => ?_) (fun h => absurd h2 h)
        refine lv_aload_n hx hb d_Y_read_85 rfl (lv_at hl 3 rfl) ?_
        refine va_get (D := tp_D E) (ci := 1) (v := .int ya) (C := qR_Y) (T := qF_Y) (N := 6) hx hb htg qi_Y hown hK.1 hP 0 rfl rfl 3 (by decide) (htg _ kl_Y_22) (fun _ h => h) rfl d_Y_read_86 ?_
        refine lv_aload_n hx hb d_Y_read_89 rfl (lv_at hl 3 rfl) ?_
        refine va_get (D := tp_D E) (ci := 1) (v := .int xe) (C := qR_Y) (T := qF_Y) (N := 6) hx hb htg qi_Y hown hK.1 hP 0 rfl rfl 2 (by decide) (htg _ kl_Y_19) (fun _ h => h) rfl d_Y_read_90 ?_
        by_cases h3 : xe ≤ ya
        · refine lv_icmp_ge (tgt := 118) hx hb d_Y_read_93 (by decide) (fun _ => ?_) (fun h => absurd h3 h)
          refine lv_aload_n hx hb d_Y_read_118 rfl (lv_at hl 2 rfl) ?_
          have hP : va_P (tp_D E) tp_cl ((aC, .inl (tp_ty E 4, 28, .inl fC)) :: (aY, .inr (1, [.ref aC, .int xc, .int xe, .int ya, .int yw, .int yv])) :: (q1, .inr (3, [.int 0, .ref (tp_ad E op53), .int yd, .int ys, .int yt, .long yn, .int ym, .int 0, .int 0, .int 0, .int 0])) :: fr) _ := tp_mvP 1 rfl hP
          have hD : va_D A ((aC, .inl (tp_ty E 4, 28, .inl fC)) :: (aY, .inr (1, [.ref aC, .int xc, .int xe, .int ya, .int yw, .int yv])) :: (q1, .inr (3, [.int 0, .ref (tp_ad E op53), .int yd, .int ys, .int yt, .long yn, .int ym, .int 0, .int 0, .int 0, .int 0])) :: fr) := tp_mvD 1 rfl hD
          have hP : va_P (tp_D E) tp_cl ((aY, .inr (1, [.ref aC, .int xc, .int xe, .int ya, .int yw, .int yv])) :: (aC, .inl (tp_ty E 4, 28, .inl fC)) :: (q1, .inr (3, [.int 0, .ref (tp_ad E op53), .int yd, .int ys, .int yt, .long yn, .int ym, .int 0, .int 0, .int 0, .int 0])) :: fr) _ := tp_mvP 1 rfl hP
          have hD : va_D A ((aY, .inr (1, [.ref aC, .int xc, .int xe, .int ya, .int yw, .int yv])) :: (aC, .inl (tp_ty E 4, 28, .inl fC)) :: (q1, .inr (3, [.int 0, .ref (tp_ad E op53), .int yd, .int ys, .int yt, .long yn, .int ym, .int 0, .int 0, .int 0, .int 0])) :: fr) := tp_mvD 1 rfl hD
          have hP : va_P (tp_D E) tp_cl ((q1, .inr (3, [.int 0, .ref (tp_ad E op53), .int yd, .int ys, .int yt, .long yn, .int ym, .int 0, .int 0, .int 0, .int 0])) :: (aY, .inr (1, [.ref aC, .int xc, .int xe, .int ya, .int yw, .int yv])) :: (aC, .inl (tp_ty E 4, 28, .inl fC)) :: fr) _ := tp_mvP 2 rfl hP
          have hD : va_D A ((q1, .inr (3, [.int 0, .ref (tp_ad E op53), .int yd, .int ys, .int yt, .long yn, .int ym, .int 0, .int 0, .int 0, .int 0])) :: (aY, .inr (1, [.ref aC, .int xc, .int xe, .int ya, .int yw, .int yv])) :: (aC, .inl (tp_ty E 4, 28, .inl fC)) :: fr) := tp_mvD 2 rfl hD
          exact tp_widen (k := 20) (n := 125) (by omega) (by omega) (vx_ret (W.aret (v := .ref q1) hx hb hr (Or.inl ⟨_, rfl⟩) (Or.inr ⟨_, rfl⟩) (fun t ht hW => ⟨⟨(q1, ya, yw, yv, 0, op53, yd, ys, yt, yn, ym), _, rfl, hop53, rfl, by rw [ht]; exact hP, hD⟩, hS.F ht⟩) hS.2.2 d_Y_read_119))
        · refine lv_icmp_ge (tgt := 118) hx hb d_Y_read_93 (by decide) (fun h => absurd h h3) (fun _ => ?_)
          refine lv_aload_n hx hb d_Y_read_96 rfl (lv_at hl 3 rfl) ?_
          refine va_get (D := tp_D E) (ci := 1) (v := .ref aC) (C := qR_Y) (T := qF_Y) (N := 6) hx hb htg qi_Y hown hK.1 hP 0 rfl rfl 0 (by decide) (htg _ kl_Y_9) (fun _ h => h) rfl d_Y_read_97 ?_
          refine lv_aload_n hx hb d_Y_read_100 rfl (lv_at hl 3 rfl) ?_
          refine va_get (D := tp_D E) (ci := 1) (v := .int ya) (C := qR_Y) (T := qF_Y) (N := 6) hx hb htg qi_Y hown hK.1 hP 0 rfl rfl 3 (by decide) (htg _ kl_Y_22) (fun _ h => h) rfl d_Y_read_101 ?_
          refine va_cald (D := tp_D E) hx hb hK.1 hP 1 4 rfl rfl (sf_vin hya h3) d_Y_read_104 ?_
          refine lv_bipush (v := 35) hx hb d_Y_read_105 (by decide) ?_
          by_cases h4 : (fC ya.toNatClampNeg) = 35
          · refine lv_icmp_eq (tgt := 118) hx hb d_Y_read_107 (by decide) (fun _ => ?_) (fun h => absurd h4 h)
            refine lv_aload_n hx hb d_Y_read_118 rfl (lv_at hl 2 rfl) ?_
            have hP : va_P (tp_D E) tp_cl ((aC, .inl (tp_ty E 4, 28, .inl fC)) :: (aY, .inr (1, [.ref aC, .int xc, .int xe, .int ya, .int yw, .int yv])) :: (q1, .inr (3, [.int 0, .ref (tp_ad E op53), .int yd, .int ys, .int yt, .long yn, .int ym, .int 0, .int 0, .int 0, .int 0])) :: fr) _ := tp_mvP 1 rfl hP
            have hD : va_D A ((aC, .inl (tp_ty E 4, 28, .inl fC)) :: (aY, .inr (1, [.ref aC, .int xc, .int xe, .int ya, .int yw, .int yv])) :: (q1, .inr (3, [.int 0, .ref (tp_ad E op53), .int yd, .int ys, .int yt, .long yn, .int ym, .int 0, .int 0, .int 0, .int 0])) :: fr) := tp_mvD 1 rfl hD
            have hP : va_P (tp_D E) tp_cl ((aY, .inr (1, [.ref aC, .int xc, .int xe, .int ya, .int yw, .int yv])) :: (aC, .inl (tp_ty E 4, 28, .inl fC)) :: (q1, .inr (3, [.int 0, .ref (tp_ad E op53), .int yd, .int ys, .int yt, .long yn, .int ym, .int 0, .int 0, .int 0, .int 0])) :: fr) _ := tp_mvP 1 rfl hP
            have hD : va_D A ((aY, .inr (1, [.ref aC, .int xc, .int xe, .int ya, .int yw, .int yv])) :: (aC, .inl (tp_ty E 4, 28, .inl fC)) :: (q1, .inr (3, [.int 0, .ref (tp_ad E op53), .int yd, .int ys, .int yt, .long yn, .int ym, .int 0, .int 0, .int 0, .int 0])) :: fr) := tp_mvD 1 rfl hD
            have hP : va_P (tp_D E) tp_cl ((q1, .inr (3, [.int 0, .ref (tp_ad E op53), .int yd, .int ys, .int yt, .long yn, .int ym, .int 0, .int 0, .int 0, .int 0])) :: (aY, .inr (1, [.ref aC, .int xc, .int xe, .int ya, .int yw, .int yv])) :: (aC, .inl (tp_ty E 4, 28, .inl fC)) :: fr) _ := tp_mvP 2 rfl hP
            have hD : va_D A ((q1, .inr (3, [.int 0, .ref (tp_ad E op53), .int yd, .int ys, .int yt, .long yn, .int ym, .int 0, .int 0, .int 0, .int 0])) :: (aY, .inr (1, [.ref aC, .int xc, .int xe, .int ya, .int yw, .int yv])) :: (aC, .inl (tp_ty E 4, 28, .inl fC)) :: fr) := tp_mvD 2 rfl hD
            exact tp_widen (k := 20) (n := 125) (by omega) (by omega) (vx_ret (W.aret (v := .ref q1) hx hb hr (Or.inl ⟨_, rfl⟩) (Or.inr ⟨_, rfl⟩) (fun t ht hW => ⟨⟨(q1, ya, yw, yv, 0, op53, yd, ys, yt, yn, ym), _, rfl, hop53, rfl, by rw [ht]; exact hP, hD⟩, hS.F ht⟩) hS.2.2 d_Y_read_119))
          · refine lv_icmp_eq (tgt := 118) hx hb d_Y_read_107 (by decide) (fun h => absurd h h4) (fun _ => ?_)
            have hP : va_P (tp_D E) tp_cl ((aC, .inl (tp_ty E 4, 28, .inl fC)) :: (aY, .inr (1, [.ref aC, .int xc, .int xe, .int ya, .int yw, .int yv])) :: (q1, .inr (3, [.int 0, .ref (tp_ad E op53), .int yd, .int ys, .int yt, .long yn, .int ym, .int 0, .int 0, .int 0, .int 0])) :: fr) _ := tp_mvP 1 rfl hP
            have hD : va_D A ((aC, .inl (tp_ty E 4, 28, .inl fC)) :: (aY, .inr (1, [.ref aC, .int xc, .int xe, .int ya, .int yw, .int yv])) :: (q1, .inr (3, [.int 0, .ref (tp_ad E op53), .int yd, .int ys, .int yt, .long yn, .int ym, .int 0, .int 0, .int 0, .int 0])) :: fr) := tp_mvD 1 rfl hD
            have hP : va_P (tp_D E) tp_cl ((aY, .inr (1, [.ref aC, .int xc, .int xe, .int ya, .int yw, .int yv])) :: (aC, .inl (tp_ty E 4, 28, .inl fC)) :: (q1, .inr (3, [.int 0, .ref (tp_ad E op53), .int yd, .int ys, .int yt, .long yn, .int ym, .int 0, .int 0, .int 0, .int 0])) :: fr) _ := tp_mvP 1 rfl hP
            have hD : va_D A ((aY, .inr (1, [.ref aC, .int xc, .int xe, .int ya, .int yw, .int yv])) :: (aC, .inl (tp_ty E 4, 28, .inl fC)) :: (q1, .inr (3, [.int 0, .ref (tp_ad E op53), .int yd, .int ys, .int yt, .long yn, .int ym, .int 0, .int 0, .int 0, .int 0])) :: fr) := tp_mvD 1 rfl hD
            have hP : va_P (tp_D E) tp_cl ((q1, .inr (3, [.int 0, .ref (tp_ad E op53), .int yd, .int ys, .int yt, .long yn, .int ym, .int 0, .int 0, .int 0, .int 0])) :: (aY, .inr (1, [.ref aC, .int xc, .int xe, .int ya, .int yw, .int yv])) :: (aC, .inl (tp_ty E 4, 28, .inl fC)) :: fr) _ := tp_mvP 2 rfl hP
            have hD : va_D A ((q1, .inr (3, [.int 0, .ref (tp_ad E op53), .int yd, .int ys, .int yt, .long yn, .int ym, .int 0, .int 0, .int 0, .int 0])) :: (aY, .inr (1, [.ref aC, .int xc, .int xe, .int ya, .int yw, .int yv])) :: (aC, .inl (tp_ty E 4, 28, .inl fC)) :: fr) := tp_mvD 2 rfl hD
            exact vx_throw0 (own := "TwoPass$Typed") (cls := "java/lang/IllegalArgumentException") (names := ["java/lang/RuntimeException", "java/lang/Exception"]) (ik := 69) (ic := 71) hx hb hfl hown (by decide +kernel) (by decide +kernel) (htg _ kl_Y_69) (htg _ kx_IllegalArgumentException) (kxa_Y_71 htg hK.2.2.2.1) kxg_Y_71 hK.2.1 hK.2.2.1 hS (hl.1.trans hml.symm) d_Y_read_110 d_Y_read_113 d_Y_read_114 d_Y_read_117 (fun x h => (htab x h).elim) (Nat.le_of_ble_eq_true rfl) (Nat.le_of_ble_eq_true rfl) (Nat.le_trans (m := 19) (by omega) (Nat.le_of_ble_eq_true rfl)) (Nat.le_trans (m := 119) (by omega) (Nat.le_of_ble_eq_true rfl)) hlocks (fun t hvm hz hq => ⟨(ya, yw, yv), trivial, ⟨rfl, va_P.kept (tp_tlP hP) (fun k q hk => hq _ (vx_lt (tp_tlP hP) hk)), (tp_tlD hD)⟩, ⟨Nat.le_trans hS.1 hz, fun q h1 h2 => (hq q (Nat.lt_of_lt_of_le h1 hS.1)).trans (hS.2.1 q h1 h2)⟩⟩) hS.2.2 (by omega) (by omega)
      · refine lv_icmp_ge (tgt := 85) hx hb d_Y_read_66 (by decide) (fun h => absurd h h2) (fun _ => ?_)
        refine lv_aload_n hx hb d_Y_read_69 rfl (lv_at hl 3 rfl) ?_
        refine lv_aload_n hx hb d_Y_read_70 rfl (lv_at hl 2 rfl) ?_
        refine lv_aload_n hx hb d_Y_read_71 rfl (lv_at hl 1 rfl) ?_
        refine lv_iload_n hx hb d_Y_read_72 rfl (lv_at hl 0 rfl) ?_
        refine tp_ci (tp_rV (As := [.int k]) (rest := [.ref q1, .ref aY]) ⟨hx, hb, hml, hown, htg⟩ (a_ST_charAt l E ((aY, .inr (1, [.ref aC, .int xc, .int xe, .int ya, .int yw, .int yv])) :: (aC, .inl (tp_ty E 4, 28, .inl fC)) :: (q1, .inr (3, [.int 0, .ref (tp_ad E op53), .int yd, .int ys, .int yt, .long yn, .int ym, .int 0, .int 0, .int 0, .int 0])) :: fr) _ (47 + op53) (Nat.lt_of_lt_of_le (Nat.add_lt_add_left hop53 47) (by decide)) k (tp_nn hk) (Int32.not_le.mp h2)) (⟨callB_of 1 htg (tp_good0 kc_ST_charAt) rfl rfl rfl (htg _ ki_ST) (htg _ kl_Y_61) ⟨by decide, by decide, by decide +kernel⟩ ⟨Nat.le_of_ble_eq_true rfl, Nat.le_of_ble_eq_true rfl⟩, htg _ km_ST_charAt, htg _ kv_ST_ST_charAt⟩) (hK.strO (i := (47 + op53)) (Nat.lt_of_lt_of_le (Nat.add_lt_add_left hop53 47) (by decide)) hS) hK hP hD hS hA rfl hl.1 rfl (Nat.le_of_ble_eq_true rfl) d_Y_read_73 ⟨Nat.le_trans (m := 19) (by omega) (Nat.le_of_ble_eq_true rfl), Nat.le_trans (m := 119) (by omega) (Nat.le_of_ble_eq_true rfl)⟩) hD hS hA (fun r u H locs hw hP hD hS => ?_)
        subst r
        have hP : va_P (tp_D E) tp_cl ((aY, .inr (1, [.ref aC, .int xc, .int xe, .int ya, .int yw, .int yv])) :: (aC, .inl (tp_ty E 4, 28, .inl fC)) :: (q1, .inr (3, [.int 0, .ref (tp_ad E op53), .int yd, .int ys, .int yt, .long yn, .int ym, .int 0, .int 0, .int 0, .int 0])) :: fr) H := hP
        have hD : va_D A ((aY, .inr (1, [.ref aC, .int xc, .int xe, .int ya, .int yw, .int yv])) :: (aC, .inl (tp_ty E 4, 28, .inl fC)) :: (q1, .inr (3, [.int 0, .ref (tp_ad E op53), .int yd, .int ys, .int yt, .long yn, .int ym, .int 0, .int 0, .int 0, .int 0])) :: fr) := hD
        refine sf_bv (tp_xV (As := [.ref q1, .int ((tp_byt.getD (47 + op53) []).getD k.toNatClampNeg 0)]) (rest := []) ⟨hx, hb, hml, hown, htg⟩ (s_Y_readOperand l hfl E fr _ aY aC xc xe ya yw yv fC q1 0 op53 yd ys yt yn ym 0 0 0 0 ((tp_byt.getD (47 + op53) []).getD k.toNatClampNeg 0) hya hop53) (⟨callB_of 2 htg (tp_good0 kc_Y_readOperand) rfl rfl rfl (htg _ ki_Y) (htg _ kl_Y_65) ⟨by decide, by decide, by decide +kernel⟩ ⟨Nat.le_of_ble_eq_true rfl, Nat.le_of_ble_eq_true rfl⟩, htg _ km_Y_readOperand, htg _ kp_Y_readOperand⟩) (va_recv (ci := 1) (q0 := 0) hK.1 hP rfl rfl) hK hP hD hS hA rfl hl.1 rfl (Nat.le_of_ble_eq_true rfl) d_Y_read_76 ⟨Nat.le_trans (m := 19) (by omega) (Nat.le_of_ble_eq_true rfl), Nat.le_trans (m := 119) (by omega) (Nat.le_of_ble_eq_true rfl)⟩) hD hS hA (fun ce q xu H locs hpx hP hD hS hce hcv hcl => ?_) (fun u H locs hw hP hD hS => ?_)
        · have hP : va_P (tp_D E) tp_cl ((aY, .inr (1, [.ref aC, .int xc, .int xe, .int xu.1, .int xu.2.1, .int xu.2.2.1])) :: (aC, .inl (tp_ty E 4, 28, .inl fC)) :: (q1, .inr (3, [.int 0, .ref (tp_ad E op53), .int xu.2.2.2.1, .int xu.2.2.2.2.1, .int xu.2.2.2.2.2.1, .long xu.2.2.2.2.2.2.1, .int xu.2.2.2.2.2.2.2, .int 0, .int 0, .int 0, .int 0])) :: fr) H := hP
          have hD : va_D A ((aY, .inr (1, [.ref aC, .int xc, .int xe, .int xu.1, .int xu.2.1, .int xu.2.2.1])) :: (aC, .inl (tp_ty E 4, 28, .inl fC)) :: (q1, .inr (3, [.int 0, .ref (tp_ad E op53), .int xu.2.2.2.1, .int xu.2.2.2.2.1, .int xu.2.2.2.2.2.1, .long xu.2.2.2.2.2.2.1, .int xu.2.2.2.2.2.2.2, .int 0, .int 0, .int 0, .int 0])) :: fr) := hD
          have hP : va_P (tp_D E) tp_cl ((aC, .inl (tp_ty E 4, 28, .inl fC)) :: (aY, .inr (1, [.ref aC, .int xc, .int xe, .int xu.1, .int xu.2.1, .int xu.2.2.1])) :: (q1, .inr (3, [.int 0, .ref (tp_ad E op53), .int xu.2.2.2.1, .int xu.2.2.2.2.1, .int xu.2.2.2.2.2.1, .long xu.2.2.2.2.2.2.1, .int xu.2.2.2.2.2.2.2, .int 0, .int 0, .int 0, .int 0])) :: fr) _ := tp_mvP 1 rfl hP
          have hD : va_D A ((aC, .inl (tp_ty E 4, 28, .inl fC)) :: (aY, .inr (1, [.ref aC, .int xc, .int xe, .int xu.1, .int xu.2.1, .int xu.2.2.1])) :: (q1, .inr (3, [.int 0, .ref (tp_ad E op53), .int xu.2.2.2.1, .int xu.2.2.2.2.1, .int xu.2.2.2.2.2.1, .long xu.2.2.2.2.2.2.1, .int xu.2.2.2.2.2.2.2, .int 0, .int 0, .int 0, .int 0])) :: fr) := tp_mvD 1 rfl hD
          have hP : va_P (tp_D E) tp_cl ((aY, .inr (1, [.ref aC, .int xc, .int xe, .int xu.1, .int xu.2.1, .int xu.2.2.1])) :: (aC, .inl (tp_ty E 4, 28, .inl fC)) :: (q1, .inr (3, [.int 0, .ref (tp_ad E op53), .int xu.2.2.2.1, .int xu.2.2.2.2.1, .int xu.2.2.2.2.2.1, .long xu.2.2.2.2.2.2.1, .int xu.2.2.2.2.2.2.2, .int 0, .int 0, .int 0, .int 0])) :: fr) _ := tp_mvP 1 rfl hP
          have hD : va_D A ((aY, .inr (1, [.ref aC, .int xc, .int xe, .int xu.1, .int xu.2.1, .int xu.2.2.1])) :: (aC, .inl (tp_ty E 4, 28, .inl fC)) :: (q1, .inr (3, [.int 0, .ref (tp_ad E op53), .int xu.2.2.2.1, .int xu.2.2.2.2.1, .int xu.2.2.2.2.2.1, .long xu.2.2.2.2.2.2.1, .int xu.2.2.2.2.2.2.2, .int 0, .int 0, .int 0, .int 0])) :: fr) := tp_mvD 1 rfl hD
          have hP : va_P (tp_D E) tp_cl ((q1, .inr (3, [.int 0, .ref (tp_ad E op53), .int xu.2.2.2.1, .int xu.2.2.2.2.1, .int xu.2.2.2.2.2.1, .long xu.2.2.2.2.2.2.1, .int xu.2.2.2.2.2.2.2, .int 0, .int 0, .int 0, .int 0])) :: (aY, .inr (1, [.ref aC, .int xc, .int xe, .int xu.1, .int xu.2.1, .int xu.2.2.1])) :: (aC, .inl (tp_ty E 4, 28, .inl fC)) :: fr) _ := tp_mvP 2 rfl hP
          have hD : va_D A ((q1, .inr (3, [.int 0, .ref (tp_ad E op53), .int xu.2.2.2.1, .int xu.2.2.2.2.1, .int xu.2.2.2.2.2.1, .long xu.2.2.2.2.2.2.1, .int xu.2.2.2.2.2.2.2, .int 0, .int 0, .int 0, .int 0])) :: (aY, .inr (1, [.ref aC, .int xc, .int xe, .int xu.1, .int xu.2.1, .int xu.2.2.1])) :: (aC, .inl (tp_ty E 4, 28, .inl fC)) :: fr) := tp_mvD 2 rfl hD
          exact vx_out (fun x h => (htab x h).elim) hlocks hce hcv hcl (fun t ht hvm => ⟨(xu.1, xu.2.1, xu.2.2.1), trivial, ⟨rfl, by rw [ht]; exact (tp_tlP hP), (tp_tlD hD)⟩, hS.F ht⟩) hS.2.2 (by omega) (by omega)
        · obtain ⟨at54, ws54, we54, zd54, zs54, zt54, zn54, zm54⟩ := u
          have hz54 : sf_Y xe at54 := hw
          have hP : va_P (tp_D E) tp_cl ((aY, .inr (1, [.ref aC, .int xc, .int xe, .int at54, .int ws54, .int we54])) :: (aC, .inl (tp_ty E 4, 28, .inl fC)) :: (q1, .inr (3, [.int 0, .ref (tp_ad E op53), .int zd54, .int zs54, .int zt54, .long zn54, .int zm54, .int 0, .int 0, .int 0, .int 0])) :: fr) H := hP
          have hD : va_D A ((aY, .inr (1, [.ref aC, .int xc, .int xe, .int at54, .int ws54, .int we54])) :: (aC, .inl (tp_ty E 4, 28, .inl fC)) :: (q1, .inr (3, [.int 0, .ref (tp_ad E op53), .int zd54, .int zs54, .int zt54, .long zn54, .int zm54, .int 0, .int 0, .int 0, .int 0])) :: fr) := hD
          refine lv_iinc (k := 0) (v := (k + 1)) (lv' := [(3, .int (k + 1)), (2, .ref (tp_ad E (200 + (47 + op53)))), (1, .ref q1), (0, .ref aY)]) hx hb d_Y_read_79 hl rfl rfl (by decide) rfl (fun ls hl => ?_)
          refine lv_goto (tgt := 61) hx hb d_Y_read_82 (by decide) ?_
          have hlt := (tp_klt hl7 h2)
          have hk1 : (k + 1).toInt = k.toInt + 1 := tp_inc (by omega)
          have hjp : j - 1 < j := by omega
          exact ih (j - 1) (k + 1, at54, ws54, we54, zd54, zs54, zt54, zn54, zm54) ls _ _ _ _ hjp ⟨⟨(by omega : 0 ≤ (k + 1).toInt), (by omega : (k + 1).toInt + ((j - 1 : Nat) : Int) = ((tp_len.getD (47 + op53) 0 : Nat) : Int)), hz54, by constructor <;> omega⟩, tp_lvI hl [0, 1, 2, 3] rfl, hP, hD, hS⟩
set_option maxHeartbeats 4000000 in
set_option maxRecDepth 100000 in
theorem s_AL_elementData (l : Launch) (E : tp_Env) (fr : va_W) (sz : Nat) (aL ae : Nat) (mo n : Int32) (xk : Int32) (qe cap a : Nat) (f : Nat → Option Nat) (hqe : fr[qe]? = some (ae, .inl (tp_ty E 5, cap, .inr (.inr (.inr (.inr f)))))) (hin : vp_in xk cap) (ha : f xk.toNatClampNeg = some a) : Met l y_AL_elementData w_AL_elementData ({ frames := 0, cells := 0, slots := 0, locals := 0 }) (va_Pc [.ref aL, .int xk] (tp_in E ((aL, .inr (5, [.int mo, .ref ae, .int n])) :: fr) sz)) (va_Qr (fun (_ : Unit) => True) (fun u q t => q = (fun (_ : Unit) => a) u ∧ tp_out E (va_A ((aL, .inr (5, [.int mo, .ref ae, .int n])) :: fr) sz) ((aL, .inr (5, [.int mo, .ref ae, .int n])) :: fr) t) (va_A ((aL, .inr (5, [.int mo, .ref ae, .int n])) :: fr) sz)) 0 0 (va_A ((aL, .inr (5, [.int mo, .ref ae, .int n])) :: fr) sz) := by
  refine Met.ofW (cc := b_AL_elementData) (maxL := 2) (ret := (some (.object "java/lang/Object"))) (by decide) rfl ?_
  intro p e s m args below meth c s₁ B hml hv
  obtain ⟨rfl, hsz, hP, hK, hD0⟩ := hv
  have hx := B.exec
  have hb := B.bytes
  have hr := B.returns
  have htg : ∀ w ∈ tp_G, w.before ([.ref aL, .int xk] : List Value).toArray s = true := fun w h => atoms_spec (ws := w_AL_elementData) B.pre w (List.mem_cons_of_mem _ h)
  have hown : s.vm.findClass "java/util/ArrayList" = some m.cls := findClass_of_methodNamed B.named
  have hlocks := B.notSynchronized
  subst hsz
  have hD := hD0.self (sz := s.heap.size)
  generalize hAe : va_A ((aL, .inr (5, [.int mo, .ref ae, .int n])) :: fr) s.heap.size = A at hD hK ⊢
  have hA : ∀ q : Nat, s.heap.size ≤ q → A q := fun q h => by rw [← hAe]; exact Or.inr h
  have hS : va_S A s.heap s.heap [] := va_S.rf
  have hl := lv_entry ([.ref aL, .int xk]) (n := 2) (Nat.le_of_ble_eq_true rfl)
  rw [lg_entry_eq]
  generalize (lg_sl ([.ref aL, .int xk]) ++ List.replicate (2 - (lg_sl ([.ref aL, .int xk])).length) Slot.unset).toArray = ls at hl ⊢
  have hl : lv_has ls 2 [(0, .ref aL), (1, .int xk)] := hl
  refine lv_aload_n hx hb d_AL_elementData_0 rfl (lv_at hl 0 rfl) ?_
  refine va_get (D := tp_D E) (ci := 5) (v := .ref ae) (C := qR_AL) (T := qF_AL) (N := 3) hx hb htg qi_AL hown hK.1 hP 0 rfl rfl 1 (by decide) (htg _ kl_AL_9) (fun _ h => h) rfl d_AL_elementData_1 ?_
  refine lv_iload_n hx hb d_AL_elementData_4 rfl (lv_at hl 1 rfl) ?_
  refine va_aldq (D := tp_D E) hx hb hK.1 hP (qe + 1) 5 hqe rfl hin d_AL_elementData_5 ?_
  refine tp_topr (k := xk.toNatClampNeg) (a := a) rfl ha ?_
  exact W.aret (v := .ref a) hx hb hr (Or.inl ⟨_, rfl⟩) (Or.inr ⟨_, rfl⟩) (fun t ht hW => ⟨⟨(), _, rfl, trivial, rfl, by rw [ht]; exact hP, hD⟩, hS.F ht⟩) hS.2.2 d_AL_elementData_6
set_option maxHeartbeats 4000000 in
set_option maxRecDepth 100000 in
theorem s_OB_checkIndex (l : Launch) (E : tp_Env) (fr : va_W) (sz : Nat) (xk xn : Int32) (h1 : ¬ xk < 0) (h2 : xk < xn) : Met l y_OB_checkIndex w_OB_checkIndex ({ frames := 1, cells := 0, slots := 0, locals := 22 }) (va_Pc [.int xk, .int xn] (tp_in E fr sz)) (va_Qi (fun r (_ : Unit) => r = xk) (fun _ t => tp_out E (va_A fr sz) (fr) t) (va_A fr sz)) 0 0 (va_A fr sz) := by
  refine Met.ofW (cc := b_OB_checkIndex) (maxL := 2) (ret := (some .int)) (by decide) rfl ?_
  intro p e s m args below meth c s₁ B hml hv
  obtain ⟨rfl, hsz, hP, hK, hD0⟩ := hv
  have hx := B.exec
  have hb := B.bytes
  have hr := B.returns
  have htg : ∀ w ∈ tp_G, w.before ([.int xk, .int xn] : List Value).toArray s = true := fun w h => atoms_spec (ws := w_OB_checkIndex) B.pre w (List.mem_cons_of_mem _ h)
  have hown : s.vm.findClass "java/util/Objects" = some m.cls := findClass_of_methodNamed B.named
  have hlocks := B.notSynchronized
  subst hsz
  have hD := hD0.self (sz := s.heap.size)
  generalize hAe : va_A fr s.heap.size = A at hD hK ⊢
  have hA : ∀ q : Nat, s.heap.size ≤ q → A q := fun q h => by rw [← hAe]; exact Or.inr h
  have hS : va_S A s.heap s.heap [] := va_S.rf
  have hl := lv_entry ([.int xk, .int xn]) (n := 2) (Nat.le_of_ble_eq_true rfl)
  rw [lg_entry_eq]
  generalize (lg_sl ([.int xk, .int xn]) ++ List.replicate (2 - (lg_sl ([.int xk, .int xn])).length) Slot.unset).toArray = ls at hl ⊢
  have hl : lv_has ls 2 [(0, .int xk), (1, .int xn)] := hl
  refine lv_iload_n hx hb d_OB_checkIndex_0 rfl (lv_at hl 0 rfl) ?_
  refine lv_iload_n hx hb d_OB_checkIndex_1 rfl (lv_at hl 1 rfl) ?_
  refine lv_null hx hb d_OB_checkIndex_2 ?_
  refine tp_ci (tp_rS (As := [.int xk, .int xn, .null]) (rest := []) ⟨hx, hb, hml, hown, htg⟩ (a_PR_checkIndexN l E fr _ xk xn h1 h2) (⟨callB_of 3 htg (tp_good0 kc_PR_checkIndex) rfl rfl rfl (htg _ ki_PR) (htg _ kl_OB_105) ⟨by decide, by decide, by decide +kernel⟩ ⟨Nat.le_of_ble_eq_true rfl, Nat.le_of_ble_eq_true rfl⟩, htg _ ks_PR_checkIndex⟩) hK hP hD hS hA rfl hl.1 rfl (Nat.le_of_ble_eq_true rfl) d_OB_checkIndex_3 ⟨Nat.le_of_ble_eq_true rfl, Nat.le_of_ble_eq_true rfl⟩) hD hS hA (fun r u H locs hw hP hD hS => ?_)
  subst r
  have hP : va_P (tp_D E) tp_cl (fr) H := hP
  have hD : va_D A (fr) := hD
  exact W.iret (v := xk) hx hb hr (fun t ht hW => ⟨⟨_, (), rfl, rfl, by rw [ht]; exact hP, hD⟩, hS.F ht⟩) hS.2.2 d_OB_checkIndex_6
set_option maxHeartbeats 4000000 in
set_option maxRecDepth 100000 in
theorem s_AL_get (l : Launch) (E : tp_Env) (fr : va_W) (sz : Nat) (aL ae : Nat) (mo n : Int32) (xk : Int32) (hrw : sf_rows E ae n fr) (h1 : ¬ xk < 0) (h2 : xk < n) : Met l y_AL_get w_AL_get ({ frames := 2, cells := 0, slots := 0, locals := 43 }) (va_Pc [.ref aL, .int xk] (tp_in E ((aL, .inr (5, [.int mo, .ref ae, .int n])) :: fr) sz)) (va_Qr (fun (u : Nat) => sf_isl E fr u) (fun u q t => q = (fun (u : Nat) => u) u ∧ tp_out E (va_A ((aL, .inr (5, [.int mo, .ref ae, .int n])) :: fr) sz) ((aL, .inr (5, [.int mo, .ref ae, .int n])) :: fr) t) (va_A ((aL, .inr (5, [.int mo, .ref ae, .int n])) :: fr) sz)) 0 0 (va_A ((aL, .inr (5, [.int mo, .ref ae, .int n])) :: fr) sz) := by
  refine Met.ofW (cc := b_AL_get) (maxL := 2) (ret := (some (.object "java/lang/Object"))) (by decide) rfl ?_
  intro p e s m args below meth c s₁ B hml hv
  obtain ⟨rfl, hsz, hP, hK, hD0⟩ := hv
  have hx := B.exec
  have hb := B.bytes
  have hr := B.returns
  have htg : ∀ w ∈ tp_G, w.before ([.ref aL, .int xk] : List Value).toArray s = true := fun w h => atoms_spec (ws := w_AL_get) B.pre w (List.mem_cons_of_mem _ h)
  have hown : s.vm.findClass "java/util/ArrayList" = some m.cls := findClass_of_methodNamed B.named
  have hlocks := B.notSynchronized
  subst hsz
  have hD := hD0.self (sz := s.heap.size)
  generalize hAe : va_A ((aL, .inr (5, [.int mo, .ref ae, .int n])) :: fr) s.heap.size = A at hD hK ⊢
  have hA : ∀ q : Nat, s.heap.size ≤ q → A q := fun q h => by rw [← hAe]; exact Or.inr h
  have hS : va_S A s.heap s.heap [] := va_S.rf
  have hl := lv_entry ([.ref aL, .int xk]) (n := 2) (Nat.le_of_ble_eq_true rfl)
  rw [lg_entry_eq]
  generalize (lg_sl ([.ref aL, .int xk]) ++ List.replicate (2 - (lg_sl ([.ref aL, .int xk])).length) Slot.unset).toArray = ls at hl ⊢
  have hl : lv_has ls 2 [(0, .ref aL), (1, .int xk)] := hl
  obtain ⟨qe, cap, f, a, hqe, hin, ha, hisl⟩ := sf_own hrw h1 h2
  refine lv_iload_n hx hb d_AL_get_0 rfl (lv_at hl 1 rfl) ?_
  refine lv_aload_n hx hb d_AL_get_1 rfl (lv_at hl 0 rfl) ?_
  refine va_get (D := tp_D E) (ci := 5) (v := .int n) (C := qR_AL) (T := qF_AL) (N := 3) hx hb htg qi_AL hown hK.1 hP 0 rfl rfl 2 (by decide) (htg _ kl_AL_48) (fun _ h => h) rfl d_AL_get_2 ?_
  refine tp_ci (tp_rS (As := [.int xk, .int n]) (rest := []) ⟨hx, hb, hml, hown, htg⟩ (s_OB_checkIndex l E ((aL, .inr (5, [.int mo, .ref ae, .int n])) :: fr) _ xk n h1 h2) (⟨callB_of 2 htg (tp_good0 kc_OB_checkIndex) rfl rfl rfl (htg _ ki_OB) (htg _ kl_AL_118) ⟨by decide, by decide, by decide +kernel⟩ ⟨Nat.le_of_ble_eq_true rfl, Nat.le_of_ble_eq_true rfl⟩, htg _ ks_OB_checkIndex⟩) hK hP hD hS hA rfl hl.1 rfl (Nat.le_of_ble_eq_true rfl) d_AL_get_5 ⟨Nat.le_of_ble_eq_true rfl, Nat.le_of_ble_eq_true rfl⟩) hD hS hA (fun r u H locs hw hP hD hS => ?_)
  subst r
  have hP : va_P (tp_D E) tp_cl ((aL, .inr (5, [.int mo, .ref ae, .int n])) :: fr) H := hP
  have hD : va_D A ((aL, .inr (5, [.int mo, .ref ae, .int n])) :: fr) := hD
  refine lv_pop hx hb d_AL_get_8 rfl ?_
  refine lv_aload_n hx hb d_AL_get_9 rfl (lv_at hl 0 rfl) ?_
  refine lv_iload_n hx hb d_AL_get_10 rfl (lv_at hl 1 rfl) ?_
  refine tp_cr (tp_rV (As := [.int xk]) (rest := []) ⟨hx, hb, hml, hown, htg⟩ (s_AL_elementData l E fr _ aL ae mo n xk qe cap a f hqe hin ha) (⟨callB_of 1 htg (tp_good0 kc_AL_elementData) rfl rfl rfl (htg _ ki_AL) (htg _ kl_AL_123) ⟨by decide, by decide, by decide +kernel⟩ ⟨Nat.le_of_ble_eq_true rfl, Nat.le_of_ble_eq_true rfl⟩, htg _ km_AL_elementData, htg _ kv_AL_AL_elementData⟩) (va_recv (ci := 5) (q0 := 0) hK.1 hP rfl rfl) hK hP hD hS hA rfl hl.1 rfl (Nat.le_of_ble_eq_true rfl) d_AL_get_11 ⟨Nat.le_of_ble_eq_true rfl, Nat.le_of_ble_eq_true rfl⟩) hD hS hA (fun u H locs hw hP hD hS => ?_)
  have hP : va_P (tp_D E) tp_cl ((aL, .inr (5, [.int mo, .ref ae, .int n])) :: fr) H := hP
  have hD : va_D A ((aL, .inr (5, [.int mo, .ref ae, .int n])) :: fr) := hD
  exact W.aret (v := .ref a) hx hb hr (Or.inl ⟨_, rfl⟩) (Or.inr ⟨_, rfl⟩) (fun t ht hW => ⟨⟨a, _, rfl, hisl, rfl, by rw [ht]; exact hP, hD⟩, hS.F ht⟩) hS.2.2 d_AL_get_14
set_option maxHeartbeats 4000000 in
set_option maxRecDepth 100000 in
theorem s_AL_size (l : Launch) (E : tp_Env) (fr : va_W) (sz : Nat) (aL ae : Nat) (mo n : Int32)  : Met l y_AL_size w_AL_size ({ frames := 0, cells := 0, slots := 0, locals := 0 }) (va_Pc [.ref aL] (tp_in E ((aL, .inr (5, [.int mo, .ref ae, .int n])) :: fr) sz)) (va_Qi (fun r (_ : Unit) => r = n) (fun _ t => tp_out E (va_A ((aL, .inr (5, [.int mo, .ref ae, .int n])) :: fr) sz) ((aL, .inr (5, [.int mo, .ref ae, .int n])) :: fr) t) (va_A ((aL, .inr (5, [.int mo, .ref ae, .int n])) :: fr) sz)) 0 0 (va_A ((aL, .inr (5, [.int mo, .ref ae, .int n])) :: fr) sz) := by
  refine Met.ofW (cc := b_AL_size) (maxL := 1) (ret := (some .int)) (by decide) rfl ?_
  intro p e s m args below meth c s₁ B hml hv
  obtain ⟨rfl, hsz, hP, hK, hD0⟩ := hv
  have hx := B.exec
  have hb := B.bytes
  have hr := B.returns
  have htg : ∀ w ∈ tp_G, w.before ([.ref aL] : List Value).toArray s = true := fun w h => atoms_spec (ws := w_AL_size) B.pre w (List.mem_cons_of_mem _ h)
  have hown : s.vm.findClass "java/util/ArrayList" = some m.cls := findClass_of_methodNamed B.named
  have hlocks := B.notSynchronized
  subst hsz
  have hD := hD0.self (sz := s.heap.size)
  generalize hAe : va_A ((aL, .inr (5, [.int mo, .ref ae, .int n])) :: fr) s.heap.size = A at hD hK ⊢
  have hA : ∀ q : Nat, s.heap.size ≤ q → A q := fun q h => by rw [← hAe]; exact Or.inr h
  have hS : va_S A s.heap s.heap [] := va_S.rf
  have hl := lv_entry ([.ref aL]) (n := 1) (Nat.le_of_ble_eq_true rfl)
  rw [lg_entry_eq]
  generalize (lg_sl ([.ref aL]) ++ List.replicate (1 - (lg_sl ([.ref aL])).length) Slot.unset).toArray = ls at hl ⊢
  have hl : lv_has ls 1 [(0, .ref aL)] := hl
  refine lv_aload_n hx hb d_AL_size_0 rfl (lv_at hl 0 rfl) ?_
  refine va_get (D := tp_D E) (ci := 5) (v := .int n) (C := qR_AL) (T := qF_AL) (N := 3) hx hb htg qi_AL hown hK.1 hP 0 rfl rfl 2 (by decide) (htg _ kl_AL_48) (fun _ h => h) rfl d_AL_size_1 ?_
  exact W.iret (v := n) hx hb hr (fun t ht hW => ⟨⟨_, (), rfl, rfl, by rw [ht]; exact hP, hD⟩, hS.F ht⟩) hS.2.2 d_AL_size_4
set_option maxHeartbeats 4000000 in
set_option maxRecDepth 100000 in
theorem s_S_count (l : Launch) (E : tp_Env) (fr : va_W) (sz : Nat) (aS aL ae : Nat) (mo n : Int32)  : Met l y_S_count w_S_count ({ frames := 1, cells := 0, slots := 0, locals := 20 }) (va_Pc [.ref aS] (tp_in E ((aS, .inr (2, [.ref aL])) :: (aL, .inr (5, [.int mo, .ref ae, .int n])) :: fr) sz)) (va_Qi (fun r (_ : Unit) => r = n) (fun _ t => tp_out E (va_A ((aS, .inr (2, [.ref aL])) :: (aL, .inr (5, [.int mo, .ref ae, .int n])) :: fr) sz) ((aS, .inr (2, [.ref aL])) :: (aL, .inr (5, [.int mo, .ref ae, .int n])) :: fr) t) (va_A ((aS, .inr (2, [.ref aL])) :: (aL, .inr (5, [.int mo, .ref ae, .int n])) :: fr) sz)) 0 0 (va_A ((aS, .inr (2, [.ref aL])) :: (aL, .inr (5, [.int mo, .ref ae, .int n])) :: fr) sz) := by
  refine Met.ofW (cc := b_S_count) (maxL := 1) (ret := (some .int)) (by decide) rfl ?_
  intro p e s m args below meth c s₁ B hml hv
  obtain ⟨rfl, hsz, hP, hK, hD0⟩ := hv
  have hx := B.exec
  have hb := B.bytes
  have hr := B.returns
  have htg : ∀ w ∈ tp_G, w.before ([.ref aS] : List Value).toArray s = true := fun w h => atoms_spec (ws := w_S_count) B.pre w (List.mem_cons_of_mem _ h)
  have hown : s.vm.findClass "TwoPass$Source" = some m.cls := findClass_of_methodNamed B.named
  have hlocks := B.notSynchronized
  subst hsz
  have hD := hD0.self (sz := s.heap.size)
  generalize hAe : va_A ((aS, .inr (2, [.ref aL])) :: (aL, .inr (5, [.int mo, .ref ae, .int n])) :: fr) s.heap.size = A at hD hK ⊢
  have hA : ∀ q : Nat, s.heap.size ≤ q → A q := fun q h => by rw [← hAe]; exact Or.inr h
  have hS : va_S A s.heap s.heap [] := va_S.rf
  have hl := lv_entry ([.ref aS]) (n := 1) (Nat.le_of_ble_eq_true rfl)
  rw [lg_entry_eq]
  generalize (lg_sl ([.ref aS]) ++ List.replicate (1 - (lg_sl ([.ref aS])).length) Slot.unset).toArray = ls at hl ⊢
  have hl : lv_has ls 1 [(0, .ref aS)] := hl
  refine lv_aload_n hx hb d_S_count_0 rfl (lv_at hl 0 rfl) ?_
  refine va_get (D := tp_D E) (ci := 2) (v := .ref aL) (C := qR_S) (T := qF_S) (N := 1) hx hb htg qi_S hown hK.1 hP 0 rfl rfl 0 (by decide) (htg _ kl_S_12) (fun _ h => h) rfl d_S_count_1 ?_
  have hP : va_P (tp_D E) tp_cl ((aL, .inr (5, [.int mo, .ref ae, .int n])) :: (aS, .inr (2, [.ref aL])) :: fr) _ := tp_mvP 1 rfl hP
  have hD : va_D A ((aL, .inr (5, [.int mo, .ref ae, .int n])) :: (aS, .inr (2, [.ref aL])) :: fr) := tp_mvD 1 rfl hD
  refine tp_ci (tp_rV (As := []) (rest := []) ⟨hx, hb, hml, hown, htg⟩ (s_AL_size l E ((aS, .inr (2, [.ref aL])) :: fr) _ aL ae mo n ) (⟨callB_of 0 htg (tp_good0 kc_AL_size) rfl rfl rfl (htg _ ki_AL) (htg _ kl_S_18) ⟨by decide, by decide, by decide +kernel⟩ ⟨Nat.le_of_ble_eq_true rfl, Nat.le_of_ble_eq_true rfl⟩, htg _ km_AL_size, htg _ kv_AL_AL_size⟩) (va_recv (ci := 5) (q0 := 0) hK.1 hP rfl rfl) hK hP hD hS hA rfl hl.1 rfl (Nat.le_of_ble_eq_true rfl) d_S_count_4 ⟨Nat.le_of_ble_eq_true rfl, Nat.le_of_ble_eq_true rfl⟩) hD hS hA (fun r u H locs hw hP hD hS => ?_)
  subst r
  have hP : va_P (tp_D E) tp_cl ((aL, .inr (5, [.int mo, .ref ae, .int n])) :: (aS, .inr (2, [.ref aL])) :: fr) H := hP
  have hD : va_D A ((aL, .inr (5, [.int mo, .ref ae, .int n])) :: (aS, .inr (2, [.ref aL])) :: fr) := hD
  have hP : va_P (tp_D E) tp_cl ((aL, .inr (5, [.int mo, .ref ae, .int n])) :: (aS, .inr (2, [.ref aL])) :: fr) _ := tp_mvP 0 rfl hP
  have hD : va_D A ((aL, .inr (5, [.int mo, .ref ae, .int n])) :: (aS, .inr (2, [.ref aL])) :: fr) := tp_mvD 0 rfl hD
  have hP : va_P (tp_D E) tp_cl ((aS, .inr (2, [.ref aL])) :: (aL, .inr (5, [.int mo, .ref ae, .int n])) :: fr) _ := tp_mvP 1 rfl hP
  have hD : va_D A ((aS, .inr (2, [.ref aL])) :: (aL, .inr (5, [.int mo, .ref ae, .int n])) :: fr) := tp_mvD 1 rfl hD
  exact W.iret (v := n) hx hb hr (fun t ht hW => ⟨⟨_, (), rfl, rfl, by rw [ht]; exact hP, hD⟩, hS.F ht⟩) hS.2.2 d_S_count_7
set_option maxHeartbeats 4000000 in
set_option maxRecDepth 100000 in
theorem s_S_labelled (l : Launch) (E : tp_Env) (fr : va_W) (sz : Nat) (aS aL ae : Nat) (mo n : Int32) (xn : Int32) (hrw : sf_rows E ae n fr) : Met l y_S_labelled w_S_labelled ({ frames := 3, cells := 0, slots := 0, locals := 64 }) (va_Pc [.ref aS, .int xn] (tp_in E ((aS, .inr (2, [.ref aL])) :: (aL, .inr (5, [.int mo, .ref ae, .int n])) :: fr) sz)) (va_Qi (fun r (_ : Unit) => r = -1 ∨ (¬ r < 0 ∧ r < n)) (fun _ t => tp_out E (va_A ((aS, .inr (2, [.ref aL])) :: (aL, .inr (5, [.int mo, .ref ae, .int n])) :: fr) sz) ((aS, .inr (2, [.ref aL])) :: (aL, .inr (5, [.int mo, .ref ae, .int n])) :: fr) t) (va_A ((aS, .inr (2, [.ref aL])) :: (aL, .inr (5, [.int mo, .ref ae, .int n])) :: fr) sz)) 0 0 (va_A ((aS, .inr (2, [.ref aL])) :: (aL, .inr (5, [.int mo, .ref ae, .int n])) :: fr) sz) := by
  refine Met.ofW (cc := b_S_labelled) (maxL := 3) (ret := (some .int)) (by decide) rfl ?_
  intro p e s m args below meth c s₁ B hml hv
  obtain ⟨rfl, hsz, hP, hK, hD0⟩ := hv
  have hx := B.exec
  have hb := B.bytes
  have hr := B.returns
  have htg : ∀ w ∈ tp_G, w.before ([.ref aS, .int xn] : List Value).toArray s = true := fun w h => atoms_spec (ws := w_S_labelled) B.pre w (List.mem_cons_of_mem _ h)
  have hown : s.vm.findClass "TwoPass$Source" = some m.cls := findClass_of_methodNamed B.named
  have hlocks := B.notSynchronized
  subst hsz
  have hD := hD0.self (sz := s.heap.size)
  generalize hAe : va_A ((aS, .inr (2, [.ref aL])) :: (aL, .inr (5, [.int mo, .ref ae, .int n])) :: fr) s.heap.size = A at hD hK ⊢
  have hA : ∀ q : Nat, s.heap.size ≤ q → A q := fun q h => by rw [← hAe]; exact Or.inr h
  have hS : va_S A s.heap s.heap [] := va_S.rf
  have hl := lv_entry ([.ref aS, .int xn]) (n := 3) (Nat.le_of_ble_eq_true rfl)
  rw [lg_entry_eq]
  generalize (lg_sl ([.ref aS, .int xn]) ++ List.replicate (3 - (lg_sl ([.ref aS, .int xn])).length) Slot.unset).toArray = ls at hl ⊢
  have hl : lv_has ls 3 [(0, .ref aS), (1, .int xn)] := hl
  refine lv_iconst (v := 0) hx hb d_S_labelled_0 (by decide) ?_
  refine lv_istore_n (lv' := [(2, .int 0), (0, .ref aS), (1, .int xn)]) hx hb d_S_labelled_1 rfl hl (by decide) rfl (fun ls hl => ?_)
  refine tp_loop (fun j ls H locs (k : Int32) => ((0 ≤ k.toInt) ∧ (k.toInt + (j : Int) = n.toInt)) ∧ lv_has ls 3 [(2, .int k), (0, .ref aS), (1, .int xn)] ∧ va_P (tp_D E) tp_cl ((aS, .inr (2, [.ref aL])) :: (aL, .inr (5, [.int mo, .ref ae, .int n])) :: fr) H ∧ va_D A ((aS, .inr (2, [.ref aL])) :: (aL, .inr (5, [.int mo, .ref ae, .int n])) :: fr) ∧ va_S A s.heap H locs) ?_ _ 0 ⟨⟨by decide, sf_kj (sf_nb hrw).1⟩, tp_lvI hl [0, 1, 2] rfl, hP, hD, hS⟩
  intro j k ls H locs hI ih
  obtain ⟨⟨hk, hj⟩, hl, hP, hD, hS⟩ := hI
  refine lv_iload_n hx hb d_S_labelled_2 rfl (lv_at hl 0 rfl) ?_
  refine lv_aload_n hx hb d_S_labelled_3 rfl (lv_at hl 1 rfl) ?_
  refine va_get (D := tp_D E) (ci := 2) (v := .ref aL) (C := qR_S) (T := qF_S) (N := 1) hx hb htg qi_S hown hK.1 hP 0 rfl rfl 0 (by decide) (htg _ kl_S_12) (fun _ h => h) rfl d_S_labelled_4 ?_
  have hP : va_P (tp_D E) tp_cl ((aL, .inr (5, [.int mo, .ref ae, .int n])) :: (aS, .inr (2, [.ref aL])) :: fr) _ := tp_mvP 1 rfl hP
  have hD : va_D A ((aL, .inr (5, [.int mo, .ref ae, .int n])) :: (aS, .inr (2, [.ref aL])) :: fr) := tp_mvD 1 rfl hD
  refine tp_ci (tp_rV (As := []) (rest := [.int k]) ⟨hx, hb, hml, hown, htg⟩ (s_AL_size l E ((aS, .inr (2, [.ref aL])) :: fr) _ aL ae mo n ) (⟨callB_of 0 htg (tp_good0 kc_AL_size) rfl rfl rfl (htg _ ki_AL) (htg _ kl_S_18) ⟨by decide, by decide, by decide +kernel⟩ ⟨Nat.le_of_ble_eq_true rfl, Nat.le_of_ble_eq_true rfl⟩, htg _ km_AL_size, htg _ kv_AL_AL_size⟩) (va_recv (ci := 5) (q0 := 0) hK.1 hP rfl rfl) hK hP hD hS hA rfl hl.1 rfl (Nat.le_of_ble_eq_true rfl) d_S_labelled_7 ⟨Nat.le_of_ble_eq_true rfl, Nat.le_of_ble_eq_true rfl⟩) hD hS hA (fun r u H locs hw hP hD hS => ?_)
  subst r
  have hP : va_P (tp_D E) tp_cl ((aL, .inr (5, [.int mo, .ref ae, .int n])) :: (aS, .inr (2, [.ref aL])) :: fr) H := hP
  have hD : va_D A ((aL, .inr (5, [.int mo, .ref ae, .int n])) :: (aS, .inr (2, [.ref aL])) :: fr) := hD
  by_cases h2 : n ≤ k
  · refine lv_icmp_ge (tgt := 39) hx hb d_S_labelled_10 (by decide) (fun _ => ?_) (fun h => absurd h2 h)
    refine lv_iconst (v := (-1)) hx hb d_S_labelled_39 (by decide) ?_
    have hP : va_P (tp_D E) tp_cl ((aL, .inr (5, [.int mo, .ref ae, .int n])) :: (aS, .inr (2, [.ref aL])) :: fr) _ := tp_mvP 0 rfl hP
    have hD : va_D A ((aL, .inr (5, [.int mo, .ref ae, .int n])) :: (aS, .inr (2, [.ref aL])) :: fr) := tp_mvD 0 rfl hD
    have hP : va_P (tp_D E) tp_cl ((aS, .inr (2, [.ref aL])) :: (aL, .inr (5, [.int mo, .ref ae, .int n])) :: fr) _ := tp_mvP 1 rfl hP
    have hD : va_D A ((aS, .inr (2, [.ref aL])) :: (aL, .inr (5, [.int mo, .ref ae, .int n])) :: fr) := tp_mvD 1 rfl hD
    exact W.iret (v := (-1)) hx hb hr (fun t ht hW => ⟨⟨_, (), rfl, Or.inl rfl, by rw [ht]; exact hP, hD⟩, hS.F ht⟩) hS.2.2 d_S_labelled_40
  · refine lv_icmp_ge (tgt := 39) hx hb d_S_labelled_10 (by decide) (fun h => absurd h h2) (fun _ => ?_)
    refine lv_aload_n hx hb d_S_labelled_13 rfl (lv_at hl 1 rfl) ?_
    refine va_get (D := tp_D E) (ci := 2) (v := .ref aL) (C := qR_S) (T := qF_S) (N := 1) hx hb htg qi_S hown hK.1 hP 1 rfl rfl 0 (by decide) (htg _ kl_S_12) (fun _ h => h) rfl d_S_labelled_14 ?_
    refine lv_iload_n hx hb d_S_labelled_17 rfl (lv_at hl 0 rfl) ?_
    refine tp_cr (tp_rV (As := [.int k]) (rest := []) ⟨hx, hb, hml, hown, htg⟩ (s_AL_get l E ((aS, .inr (2, [.ref aL])) :: fr) _ aL ae mo n k (sf_rows.cons hrw) (tp_nn hk) (Int32.not_le.mp h2)) (⟨callB_of 1 htg (tp_good0 kc_AL_get) rfl rfl rfl (htg _ ki_AL) (htg _ kl_S_22) ⟨by decide, by decide, by decide +kernel⟩ ⟨Nat.le_of_ble_eq_true rfl, Nat.le_of_ble_eq_true rfl⟩, htg _ km_AL_get, htg _ kv_AL_AL_get⟩) (va_recv (ci := 5) (q0 := 0) hK.1 hP rfl rfl) hK hP hD hS hA rfl hl.1 rfl (Nat.le_of_ble_eq_true rfl) d_S_labelled_18 ⟨Nat.le_of_ble_eq_true rfl, Nat.le_of_ble_eq_true rfl⟩) hD hS hA (fun g55 H locs hw hP hD hS => ?_)
    have hisg55 : sf_isl E ((aS, .inr (2, [.ref aL])) :: fr) g55 := hw
    have hisg55 : sf_isl E fr g55 := (sf_isl.un (fun _ h => by cases h) hisg55)
    obtain ⟨q56, vs56, hq56, zb56, zo56, zd56, zs56, zt56, zn56, zm56, zp56, zf56, zu56, zv56, ⟨ho56, hfa56⟩, rfl⟩ := id hisg55
    have hP : va_P (tp_D E) tp_cl ((aL, .inr (5, [.int mo, .ref ae, .int n])) :: (aS, .inr (2, [.ref aL])) :: fr) H := hP
    have hD : va_D A ((aL, .inr (5, [.int mo, .ref ae, .int n])) :: (aS, .inr (2, [.ref aL])) :: fr) := hD
    refine va_castE (nm := qR_N) hx hb hown (htg _ kl_S_26) (va_recv (ci := 3) (q0 := (q56 + 2)) hK.1 hP rfl hq56) d_S_labelled_21 ?_
    refine va_get (D := tp_D E) (ci := 3) (v := .int zb56) (C := qR_N) (T := qF_N) (N := 11) hx hb htg qi_N hown hK.1 hP (q56 + 2) hq56 rfl 0 (by decide) (htg _ kl_S_28) (fun _ h => h) rfl d_S_labelled_24 ?_
    refine lv_iload_n hx hb d_S_labelled_27 rfl (lv_at hl 2 rfl) ?_
    by_cases h3 : zb56 = xn
    · refine lv_icmp_ne (tgt := 33) hx hb d_S_labelled_28 (by decide) (fun h => absurd h3 h) (fun _ => ?_)
      refine lv_iload_n hx hb d_S_labelled_31 rfl (lv_at hl 0 rfl) ?_
      have hP : va_P (tp_D E) tp_cl ((aL, .inr (5, [.int mo, .ref ae, .int n])) :: (aS, .inr (2, [.ref aL])) :: fr) _ := tp_mvP 0 rfl hP
      have hD : va_D A ((aL, .inr (5, [.int mo, .ref ae, .int n])) :: (aS, .inr (2, [.ref aL])) :: fr) := tp_mvD 0 rfl hD
      have hP : va_P (tp_D E) tp_cl ((aS, .inr (2, [.ref aL])) :: (aL, .inr (5, [.int mo, .ref ae, .int n])) :: fr) _ := tp_mvP 1 rfl hP
      have hD : va_D A ((aS, .inr (2, [.ref aL])) :: (aL, .inr (5, [.int mo, .ref ae, .int n])) :: fr) := tp_mvD 1 rfl hD
      exact W.iret (v := k) hx hb hr (fun t ht hW => ⟨⟨_, (), rfl, Or.inr ⟨(tp_nn hk), (Int32.not_le.mp h2)⟩, by rw [ht]; exact hP, hD⟩, hS.F ht⟩) hS.2.2 d_S_labelled_32
    · refine lv_icmp_ne (tgt := 33) hx hb d_S_labelled_28 (by decide) (fun _ => ?_) (fun h => absurd h h3)
      refine lv_iinc (k := 0) (v := (k + 1)) (lv' := [(2, .int (k + 1)), (0, .ref aS), (1, .int xn)]) hx hb d_S_labelled_33 hl rfl rfl (by decide) rfl (fun ls hl => ?_)
      refine lv_goto (tgt := 2) hx hb d_S_labelled_36 (by decide) ?_
      have hP : va_P (tp_D E) tp_cl ((aL, .inr (5, [.int mo, .ref ae, .int n])) :: (aS, .inr (2, [.ref aL])) :: fr) _ := tp_mvP 0 rfl hP
      have hD : va_D A ((aL, .inr (5, [.int mo, .ref ae, .int n])) :: (aS, .inr (2, [.ref aL])) :: fr) := tp_mvD 0 rfl hD
      have hP : va_P (tp_D E) tp_cl ((aS, .inr (2, [.ref aL])) :: (aL, .inr (5, [.int mo, .ref ae, .int n])) :: fr) _ := tp_mvP 1 rfl hP
      have hD : va_D A ((aS, .inr (2, [.ref aL])) :: (aL, .inr (5, [.int mo, .ref ae, .int n])) :: fr) := tp_mvD 1 rfl hD
      exact ih (j - 1) (k + 1) ls _ _ (sf_jp h2 hj) ⟨⟨sf_k0 hk (Int.le_trans (sf_nb hrw).2 (by decide)) h2, sf_kd hk (Int.le_trans (sf_nb hrw).2 (by decide)) h2 hj⟩, tp_lvI hl [0, 1, 2] rfl, hP, hD, hS⟩
set_option maxHeartbeats 4000000 in
set_option maxRecDepth 100000 in
theorem s_S_gives (l : Launch) (E : tp_Env) (fr : va_W) (sz : Nat) (aS aL ae : Nat) (mo n : Int32) (xn : Int32) (hrw : sf_rows E ae n fr) : Met l y_S_gives w_S_gives ({ frames := 3, cells := 0, slots := 0, locals := 64 }) (va_Pc [.ref aS, .int xn] (tp_in E ((aS, .inr (2, [.ref aL])) :: (aL, .inr (5, [.int mo, .ref ae, .int n])) :: fr) sz)) (va_Qi (fun r (_ : Unit) => True) (fun _ t => tp_out E (va_A ((aS, .inr (2, [.ref aL])) :: (aL, .inr (5, [.int mo, .ref ae, .int n])) :: fr) sz) ((aS, .inr (2, [.ref aL])) :: (aL, .inr (5, [.int mo, .ref ae, .int n])) :: fr) t) (va_A ((aS, .inr (2, [.ref aL])) :: (aL, .inr (5, [.int mo, .ref ae, .int n])) :: fr) sz)) 0 0 (va_A ((aS, .inr (2, [.ref aL])) :: (aL, .inr (5, [.int mo, .ref ae, .int n])) :: fr) sz) := by
  refine Met.ofW (cc := b_S_gives) (maxL := 3) (ret := (some .boolean)) (by decide) rfl ?_
  intro p e s m args below meth c s₁ B hml hv
  obtain ⟨rfl, hsz, hP, hK, hD0⟩ := hv
  have hx := B.exec
  have hb := B.bytes
  have hr := B.returns
  have htg : ∀ w ∈ tp_G, w.before ([.ref aS, .int xn] : List Value).toArray s = true := fun w h => atoms_spec (ws := w_S_gives) B.pre w (List.mem_cons_of_mem _ h)
  have hown : s.vm.findClass "TwoPass$Source" = some m.cls := findClass_of_methodNamed B.named
  have hlocks := B.notSynchronized
  subst hsz
  have hD := hD0.self (sz := s.heap.size)
  generalize hAe : va_A ((aS, .inr (2, [.ref aL])) :: (aL, .inr (5, [.int mo, .ref ae, .int n])) :: fr) s.heap.size = A at hD hK ⊢
  have hA : ∀ q : Nat, s.heap.size ≤ q → A q := fun q h => by rw [← hAe]; exact Or.inr h
  have hS : va_S A s.heap s.heap [] := va_S.rf
  have hl := lv_entry ([.ref aS, .int xn]) (n := 3) (Nat.le_of_ble_eq_true rfl)
  rw [lg_entry_eq]
  generalize (lg_sl ([.ref aS, .int xn]) ++ List.replicate (3 - (lg_sl ([.ref aS, .int xn])).length) Slot.unset).toArray = ls at hl ⊢
  have hl : lv_has ls 3 [(0, .ref aS), (1, .int xn)] := hl
  refine lv_iconst (v := 0) hx hb d_S_gives_0 (by decide) ?_
  refine lv_istore_n (lv' := [(2, .int 0), (0, .ref aS), (1, .int xn)]) hx hb d_S_gives_1 rfl hl (by decide) rfl (fun ls hl => ?_)
  refine tp_loop (fun j ls H locs (k : Int32) => ((0 ≤ k.toInt) ∧ (k.toInt + (j : Int) = n.toInt)) ∧ lv_has ls 3 [(2, .int k), (0, .ref aS), (1, .int xn)] ∧ va_P (tp_D E) tp_cl ((aS, .inr (2, [.ref aL])) :: (aL, .inr (5, [.int mo, .ref ae, .int n])) :: fr) H ∧ va_D A ((aS, .inr (2, [.ref aL])) :: (aL, .inr (5, [.int mo, .ref ae, .int n])) :: fr) ∧ va_S A s.heap H locs) ?_ _ 0 ⟨⟨by decide, sf_kj (sf_nb hrw).1⟩, tp_lvI hl [0, 1, 2] rfl, hP, hD, hS⟩
  intro j k ls H locs hI ih
  obtain ⟨⟨hk, hj⟩, hl, hP, hD, hS⟩ := hI
  refine lv_iload_n hx hb d_S_gives_2 rfl (lv_at hl 0 rfl) ?_
  refine lv_aload_n hx hb d_S_gives_3 rfl (lv_at hl 1 rfl) ?_
  refine va_get (D := tp_D E) (ci := 2) (v := .ref aL) (C := qR_S) (T := qF_S) (N := 1) hx hb htg qi_S hown hK.1 hP 0 rfl rfl 0 (by decide) (htg _ kl_S_12) (fun _ h => h) rfl d_S_gives_4 ?_
  have hP : va_P (tp_D E) tp_cl ((aL, .inr (5, [.int mo, .ref ae, .int n])) :: (aS, .inr (2, [.ref aL])) :: fr) _ := tp_mvP 1 rfl hP
  have hD : va_D A ((aL, .inr (5, [.int mo, .ref ae, .int n])) :: (aS, .inr (2, [.ref aL])) :: fr) := tp_mvD 1 rfl hD
  refine tp_ci (tp_rV (As := []) (rest := [.int k]) ⟨hx, hb, hml, hown, htg⟩ (s_AL_size l E ((aS, .inr (2, [.ref aL])) :: fr) _ aL ae mo n ) (⟨callB_of 0 htg (tp_good0 kc_AL_size) rfl rfl rfl (htg _ ki_AL) (htg _ kl_S_18) ⟨by decide, by decide, by decide +kernel⟩ ⟨Nat.le_of_ble_eq_true rfl, Nat.le_of_ble_eq_true rfl⟩, htg _ km_AL_size, htg _ kv_AL_AL_size⟩) (va_recv (ci := 5) (q0 := 0) hK.1 hP rfl rfl) hK hP hD hS hA rfl hl.1 rfl (Nat.le_of_ble_eq_true rfl) d_S_gives_7 ⟨Nat.le_of_ble_eq_true rfl, Nat.le_of_ble_eq_true rfl⟩) hD hS hA (fun r u H locs hw hP hD hS => ?_)
  subst r
  have hP : va_P (tp_D E) tp_cl ((aL, .inr (5, [.int mo, .ref ae, .int n])) :: (aS, .inr (2, [.ref aL])) :: fr) H := hP
  have hD : va_D A ((aL, .inr (5, [.int mo, .ref ae, .int n])) :: (aS, .inr (2, [.ref aL])) :: fr) := hD
  by_cases h2 : n ≤ k
  · refine lv_icmp_ge (tgt := 61) hx hb d_S_gives_10 (by decide) (fun _ => ?_) (fun h => absurd h2 h)
    refine lv_iconst (v := 0) hx hb d_S_gives_61 (by decide) ?_
    have hP : va_P (tp_D E) tp_cl ((aL, .inr (5, [.int mo, .ref ae, .int n])) :: (aS, .inr (2, [.ref aL])) :: fr) _ := tp_mvP 0 rfl hP
    have hD : va_D A ((aL, .inr (5, [.int mo, .ref ae, .int n])) :: (aS, .inr (2, [.ref aL])) :: fr) := tp_mvD 0 rfl hD
    have hP : va_P (tp_D E) tp_cl ((aS, .inr (2, [.ref aL])) :: (aL, .inr (5, [.int mo, .ref ae, .int n])) :: fr) _ := tp_mvP 1 rfl hP
    have hD : va_D A ((aS, .inr (2, [.ref aL])) :: (aL, .inr (5, [.int mo, .ref ae, .int n])) :: fr) := tp_mvD 1 rfl hD
    exact W.zret (v := 0) hx hb hr rfl (fun t ht hW => ⟨⟨_, (), rfl, trivial, by rw [ht]; exact hP, hD⟩, hS.F ht⟩) hS.2.2 d_S_gives_62
  · refine lv_icmp_ge (tgt := 61) hx hb d_S_gives_10 (by decide) (fun h => absurd h h2) (fun _ => ?_)
    refine lv_aload_n hx hb d_S_gives_13 rfl (lv_at hl 1 rfl) ?_
    refine va_get (D := tp_D E) (ci := 2) (v := .ref aL) (C := qR_S) (T := qF_S) (N := 1) hx hb htg qi_S hown hK.1 hP 1 rfl rfl 0 (by decide) (htg _ kl_S_12) (fun _ h => h) rfl d_S_gives_14 ?_
    refine lv_iload_n hx hb d_S_gives_17 rfl (lv_at hl 0 rfl) ?_
    refine tp_cr (tp_rV (As := [.int k]) (rest := []) ⟨hx, hb, hml, hown, htg⟩ (s_AL_get l E ((aS, .inr (2, [.ref aL])) :: fr) _ aL ae mo n k (sf_rows.cons hrw) (tp_nn hk) (Int32.not_le.mp h2)) (⟨callB_of 1 htg (tp_good0 kc_AL_get) rfl rfl rfl (htg _ ki_AL) (htg _ kl_S_22) ⟨by decide, by decide, by decide +kernel⟩ ⟨Nat.le_of_ble_eq_true rfl, Nat.le_of_ble_eq_true rfl⟩, htg _ km_AL_get, htg _ kv_AL_AL_get⟩) (va_recv (ci := 5) (q0 := 0) hK.1 hP rfl rfl) hK hP hD hS hA rfl hl.1 rfl (Nat.le_of_ble_eq_true rfl) d_S_gives_18 ⟨Nat.le_of_ble_eq_true rfl, Nat.le_of_ble_eq_true rfl⟩) hD hS hA (fun g57 H locs hw hP hD hS => ?_)
    have hisg57 : sf_isl E ((aS, .inr (2, [.ref aL])) :: fr) g57 := hw
    have hisg57 : sf_isl E fr g57 := (sf_isl.un (fun _ h => by cases h) hisg57)
    obtain ⟨q58, vs58, hq58, zb58, zo58, zd58, zs58, zt58, zn58, zm58, zp58, zf58, zu58, zv58, ⟨ho58, hfa58⟩, rfl⟩ := id hisg57
    have hP : va_P (tp_D E) tp_cl ((aL, .inr (5, [.int mo, .ref ae, .int n])) :: (aS, .inr (2, [.ref aL])) :: fr) H := hP
    have hD : va_D A ((aL, .inr (5, [.int mo, .ref ae, .int n])) :: (aS, .inr (2, [.ref aL])) :: fr) := hD
    refine va_castE (nm := qR_N) hx hb hown (htg _ kl_S_26) (va_recv (ci := 3) (q0 := (q58 + 2)) hK.1 hP rfl hq58) d_S_gives_21 ?_
    refine va_get (D := tp_D E) (ci := 3) (v := .ref (tp_ad E zo58)) (C := qR_N) (T := qF_N) (N := 11) hx hb htg qi_N hown hK.1 hP (q58 + 2) hq58 rfl 1 (by decide) (htg _ kl_S_32) (fun _ h => h) rfl d_S_gives_24 ?_
    refine vk_getf (v := .int (tp_lay.getD zo58 0)) hx hb (hK.lay (i := zo58) ho58) hS hown (htg _ kl_S_36) (fun _ h => h) d_S_gives_27 ?_
    refine lv_bipush (v := 13) hx hb d_S_gives_30 (by decide) ?_
    by_cases h3 : (tp_lay.getD zo58 0) = 13
    · refine lv_icmp_ne (tgt := 55) hx hb d_S_gives_32 (by decide) (fun h => absurd h3 h) (fun _ => ?_)
      refine lv_aload_n hx hb d_S_gives_35 rfl (lv_at hl 1 rfl) ?_
      refine va_get (D := tp_D E) (ci := 2) (v := .ref aL) (C := qR_S) (T := qF_S) (N := 1) hx hb htg qi_S hown hK.1 hP 1 rfl rfl 0 (by decide) (htg _ kl_S_12) (fun _ h => h) rfl d_S_gives_36 ?_
      refine lv_iload_n hx hb d_S_gives_39 rfl (lv_at hl 0 rfl) ?_
      refine tp_cr (tp_rV (As := [.int k]) (rest := []) ⟨hx, hb, hml, hown, htg⟩ (s_AL_get l E ((aS, .inr (2, [.ref aL])) :: fr) _ aL ae mo n k (sf_rows.cons hrw) (tp_nn hk) (Int32.not_le.mp h2)) (⟨callB_of 1 htg (tp_good0 kc_AL_get) rfl rfl rfl (htg _ ki_AL) (htg _ kl_S_22) ⟨by decide, by decide, by decide +kernel⟩ ⟨Nat.le_of_ble_eq_true rfl, Nat.le_of_ble_eq_true rfl⟩, htg _ km_AL_get, htg _ kv_AL_AL_get⟩) (va_recv (ci := 5) (q0 := 0) hK.1 hP rfl rfl) hK hP hD hS hA rfl hl.1 rfl (Nat.le_of_ble_eq_true rfl) d_S_gives_40 ⟨Nat.le_of_ble_eq_true rfl, Nat.le_of_ble_eq_true rfl⟩) hD hS hA (fun g59 H locs hw hP hD hS => ?_)
      have hisg59 : sf_isl E ((aS, .inr (2, [.ref aL])) :: fr) g59 := hw
      have hisg59 : sf_isl E fr g59 := (sf_isl.un (fun _ h => by cases h) hisg59)
      obtain ⟨q60, vs60, hq60, zb60, zo60, zd60, zs60, zt60, zn60, zm60, zp60, zf60, zu60, zv60, ⟨ho60, hfa60⟩, rfl⟩ := id hisg59
      have hP : va_P (tp_D E) tp_cl ((aL, .inr (5, [.int mo, .ref ae, .int n])) :: (aS, .inr (2, [.ref aL])) :: fr) H := hP
      have hD : va_D A ((aL, .inr (5, [.int mo, .ref ae, .int n])) :: (aS, .inr (2, [.ref aL])) :: fr) := hD
      refine va_castE (nm := qR_N) hx hb hown (htg _ kl_S_26) (va_recv (ci := 3) (q0 := (q60 + 2)) hK.1 hP rfl hq60) d_S_gives_43 ?_
      refine va_get (D := tp_D E) (ci := 3) (v := .int zm60) (C := qR_N) (T := qF_N) (N := 11) hx hb htg qi_N hown hK.1 hP (q60 + 2) hq60 rfl 6 (by decide) (htg _ kl_S_41) (fun _ h => h) rfl d_S_gives_46 ?_
      refine lv_iload_n hx hb d_S_gives_49 rfl (lv_at hl 2 rfl) ?_
      by_cases h4 : zm60 = xn
      · refine lv_icmp_ne (tgt := 55) hx hb d_S_gives_50 (by decide) (fun h => absurd h4 h) (fun _ => ?_)
        refine lv_iconst (v := 1) hx hb d_S_gives_53 (by decide) ?_
        have hP : va_P (tp_D E) tp_cl ((aL, .inr (5, [.int mo, .ref ae, .int n])) :: (aS, .inr (2, [.ref aL])) :: fr) _ := tp_mvP 0 rfl hP
        have hD : va_D A ((aL, .inr (5, [.int mo, .ref ae, .int n])) :: (aS, .inr (2, [.ref aL])) :: fr) := tp_mvD 0 rfl hD
        have hP : va_P (tp_D E) tp_cl ((aS, .inr (2, [.ref aL])) :: (aL, .inr (5, [.int mo, .ref ae, .int n])) :: fr) _ := tp_mvP 1 rfl hP
        have hD : va_D A ((aS, .inr (2, [.ref aL])) :: (aL, .inr (5, [.int mo, .ref ae, .int n])) :: fr) := tp_mvD 1 rfl hD
        exact W.zret (v := 1) hx hb hr rfl (fun t ht hW => ⟨⟨_, (), rfl, trivial, by rw [ht]; exact hP, hD⟩, hS.F ht⟩) hS.2.2 d_S_gives_54
      · refine lv_icmp_ne (tgt := 55) hx hb d_S_gives_50 (by decide) (fun _ => ?_) (fun h => absurd h h4)
        refine lv_iinc (k := 0) (v := (k + 1)) (lv' := [(2, .int (k + 1)), (0, .ref aS), (1, .int xn)]) hx hb d_S_gives_55 hl rfl rfl (by decide) rfl (fun ls hl => ?_)
        refine lv_goto (tgt := 2) hx hb d_S_gives_58 (by decide) ?_
        have hP : va_P (tp_D E) tp_cl ((aL, .inr (5, [.int mo, .ref ae, .int n])) :: (aS, .inr (2, [.ref aL])) :: fr) _ := tp_mvP 0 rfl hP
        have hD : va_D A ((aL, .inr (5, [.int mo, .ref ae, .int n])) :: (aS, .inr (2, [.ref aL])) :: fr) := tp_mvD 0 rfl hD
        have hP : va_P (tp_D E) tp_cl ((aS, .inr (2, [.ref aL])) :: (aL, .inr (5, [.int mo, .ref ae, .int n])) :: fr) _ := tp_mvP 1 rfl hP
        have hD : va_D A ((aS, .inr (2, [.ref aL])) :: (aL, .inr (5, [.int mo, .ref ae, .int n])) :: fr) := tp_mvD 1 rfl hD
        exact ih (j - 1) (k + 1) ls _ _ (sf_jp h2 hj) ⟨⟨sf_k0 hk (Int.le_trans (sf_nb hrw).2 (by decide)) h2, sf_kd hk (Int.le_trans (sf_nb hrw).2 (by decide)) h2 hj⟩, tp_lvI hl [0, 1, 2] rfl, hP, hD, hS⟩
    · refine lv_icmp_ne (tgt := 55) hx hb d_S_gives_32 (by decide) (fun _ => ?_) (fun h => absurd h h3)
      refine lv_iinc (k := 0) (v := (k + 1)) (lv' := [(2, .int (k + 1)), (0, .ref aS), (1, .int xn)]) hx hb d_S_gives_55 hl rfl rfl (by decide) rfl (fun ls hl => ?_)
      refine lv_goto (tgt := 2) hx hb d_S_gives_58 (by decide) ?_
      have hP : va_P (tp_D E) tp_cl ((aL, .inr (5, [.int mo, .ref ae, .int n])) :: (aS, .inr (2, [.ref aL])) :: fr) _ := tp_mvP 0 rfl hP
      have hD : va_D A ((aL, .inr (5, [.int mo, .ref ae, .int n])) :: (aS, .inr (2, [.ref aL])) :: fr) := tp_mvD 0 rfl hD
      have hP : va_P (tp_D E) tp_cl ((aS, .inr (2, [.ref aL])) :: (aL, .inr (5, [.int mo, .ref ae, .int n])) :: fr) _ := tp_mvP 1 rfl hP
      have hD : va_D A ((aS, .inr (2, [.ref aL])) :: (aL, .inr (5, [.int mo, .ref ae, .int n])) :: fr) := tp_mvD 1 rfl hD
      exact ih (j - 1) (k + 1) ls _ _ (sf_jp h2 hj) ⟨⟨sf_k0 hk (Int.le_trans (sf_nb hrw).2 (by decide)) h2, sf_kd hk (Int.le_trans (sf_nb hrw).2 (by decide)) h2 hj⟩, tp_lvI hl [0, 1, 2] rfl, hP, hD, hS⟩
set_option maxHeartbeats 4000000 in
set_option maxRecDepth 100000 in
theorem s_S_row (l : Launch) (E : tp_Env) (fr : va_W) (sz : Nat) (aS aL ae : Nat) (mo n : Int32) (xk : Int32) (hrw : sf_rows E ae n fr) (h1 : ¬ xk < 0) (h2 : xk < n) : Met l y_S_row w_S_row ({ frames := 3, cells := 0, slots := 0, locals := 64 }) (va_Pc [.ref aS, .int xk] (tp_in E ((aS, .inr (2, [.ref aL])) :: (aL, .inr (5, [.int mo, .ref ae, .int n])) :: fr) sz)) (va_Qr (fun (u : Nat) => sf_isl E fr u) (fun u q t => q = (fun (u : Nat) => u) u ∧ tp_out E (va_A ((aS, .inr (2, [.ref aL])) :: (aL, .inr (5, [.int mo, .ref ae, .int n])) :: fr) sz) ((aS, .inr (2, [.ref aL])) :: (aL, .inr (5, [.int mo, .ref ae, .int n])) :: fr) t) (va_A ((aS, .inr (2, [.ref aL])) :: (aL, .inr (5, [.int mo, .ref ae, .int n])) :: fr) sz)) 0 0 (va_A ((aS, .inr (2, [.ref aL])) :: (aL, .inr (5, [.int mo, .ref ae, .int n])) :: fr) sz) := by
  refine Met.ofW (cc := b_S_row) (maxL := 2) (ret := (some (.object "TwoPass$Line"))) (by decide) rfl ?_
  intro p e s m args below meth c s₁ B hml hv
  obtain ⟨rfl, hsz, hP, hK, hD0⟩ := hv
  have hx := B.exec
  have hb := B.bytes
  have hr := B.returns
  have htg : ∀ w ∈ tp_G, w.before ([.ref aS, .int xk] : List Value).toArray s = true := fun w h => atoms_spec (ws := w_S_row) B.pre w (List.mem_cons_of_mem _ h)
  have hown : s.vm.findClass "TwoPass$Source" = some m.cls := findClass_of_methodNamed B.named
  have hlocks := B.notSynchronized
  subst hsz
  have hD := hD0.self (sz := s.heap.size)
  generalize hAe : va_A ((aS, .inr (2, [.ref aL])) :: (aL, .inr (5, [.int mo, .ref ae, .int n])) :: fr) s.heap.size = A at hD hK ⊢
  have hA : ∀ q : Nat, s.heap.size ≤ q → A q := fun q h => by rw [← hAe]; exact Or.inr h
  have hS : va_S A s.heap s.heap [] := va_S.rf
  have hl := lv_entry ([.ref aS, .int xk]) (n := 2) (Nat.le_of_ble_eq_true rfl)
  rw [lg_entry_eq]
  generalize (lg_sl ([.ref aS, .int xk]) ++ List.replicate (2 - (lg_sl ([.ref aS, .int xk])).length) Slot.unset).toArray = ls at hl ⊢
  have hl : lv_has ls 2 [(0, .ref aS), (1, .int xk)] := hl
  refine lv_aload_n hx hb d_S_row_0 rfl (lv_at hl 0 rfl) ?_
  refine va_get (D := tp_D E) (ci := 2) (v := .ref aL) (C := qR_S) (T := qF_S) (N := 1) hx hb htg qi_S hown hK.1 hP 0 rfl rfl 0 (by decide) (htg _ kl_S_12) (fun _ h => h) rfl d_S_row_1 ?_
  refine lv_iload_n hx hb d_S_row_4 rfl (lv_at hl 1 rfl) ?_
  have hP : va_P (tp_D E) tp_cl ((aL, .inr (5, [.int mo, .ref ae, .int n])) :: (aS, .inr (2, [.ref aL])) :: fr) _ := tp_mvP 1 rfl hP
  have hD : va_D A ((aL, .inr (5, [.int mo, .ref ae, .int n])) :: (aS, .inr (2, [.ref aL])) :: fr) := tp_mvD 1 rfl hD
  refine tp_cr (tp_rV (As := [.int xk]) (rest := []) ⟨hx, hb, hml, hown, htg⟩ (s_AL_get l E ((aS, .inr (2, [.ref aL])) :: fr) _ aL ae mo n xk (sf_rows.cons hrw) h1 h2) (⟨callB_of 1 htg (tp_good0 kc_AL_get) rfl rfl rfl (htg _ ki_AL) (htg _ kl_S_22) ⟨by decide, by decide, by decide +kernel⟩ ⟨Nat.le_of_ble_eq_true rfl, Nat.le_of_ble_eq_true rfl⟩, htg _ km_AL_get, htg _ kv_AL_AL_get⟩) (va_recv (ci := 5) (q0 := 0) hK.1 hP rfl rfl) hK hP hD hS hA rfl hl.1 rfl (Nat.le_of_ble_eq_true rfl) d_S_row_5 ⟨Nat.le_of_ble_eq_true rfl, Nat.le_of_ble_eq_true rfl⟩) hD hS hA (fun g61 H locs hw hP hD hS => ?_)
  have hisg61 : sf_isl E ((aS, .inr (2, [.ref aL])) :: fr) g61 := hw
  have hisg61 : sf_isl E fr g61 := (sf_isl.un (fun _ h => by cases h) hisg61)
  obtain ⟨q62, vs62, hq62, zb62, zo62, zd62, zs62, zt62, zn62, zm62, zp62, zf62, zu62, zv62, ⟨ho62, hfa62⟩, rfl⟩ := id hisg61
  have hP : va_P (tp_D E) tp_cl ((aL, .inr (5, [.int mo, .ref ae, .int n])) :: (aS, .inr (2, [.ref aL])) :: fr) H := hP
  have hD : va_D A ((aL, .inr (5, [.int mo, .ref ae, .int n])) :: (aS, .inr (2, [.ref aL])) :: fr) := hD
  refine va_castE (nm := qR_N) hx hb hown (htg _ kl_S_26) (va_recv (ci := 3) (q0 := (q62 + 2)) hK.1 hP rfl hq62) d_S_row_8 ?_
  have hP : va_P (tp_D E) tp_cl ((aL, .inr (5, [.int mo, .ref ae, .int n])) :: (aS, .inr (2, [.ref aL])) :: fr) _ := tp_mvP 0 rfl hP
  have hD : va_D A ((aL, .inr (5, [.int mo, .ref ae, .int n])) :: (aS, .inr (2, [.ref aL])) :: fr) := tp_mvD 0 rfl hD
  have hP : va_P (tp_D E) tp_cl ((aS, .inr (2, [.ref aL])) :: (aL, .inr (5, [.int mo, .ref ae, .int n])) :: fr) _ := tp_mvP 1 rfl hP
  have hD : va_D A ((aS, .inr (2, [.ref aL])) :: (aL, .inr (5, [.int mo, .ref ae, .int n])) :: fr) := tp_mvD 1 rfl hD
  exact W.aret (v := .ref g61) hx hb hr (Or.inl ⟨_, rfl⟩) (Or.inr ⟨_, rfl⟩) (fun t ht hW => ⟨⟨g61, _, rfl, hisg61, rfl, by rw [ht]; exact hP, hD⟩, hS.F ht⟩) hS.2.2 d_S_row_11
set_option maxHeartbeats 4000000 in
set_option maxRecDepth 100000 in
theorem s_C_fitsImmediate (l : Launch) (E : tp_Env) (fr : va_W) (sz : Nat) (x0 : Int64)  : Met l y_C_fitsImmediate w_C_fitsImmediate ({ frames := 0, cells := 0, slots := 0, locals := 0 }) (va_Pc [.long x0] (tp_in E fr sz)) (va_Qi (fun r (_ : Unit) => True) (fun _ t => tp_out E (va_A fr sz) (fr) t) (va_A fr sz)) 0 0 (va_A fr sz) := by
  refine Met.ofW (cc := b_C_fitsImmediate) (maxL := 2) (ret := (some .boolean)) (by decide) rfl ?_
  intro p e s m args below meth c s₁ B hml hv
  obtain ⟨rfl, hsz, hP, hK, hD0⟩ := hv
  have hx := B.exec
  have hb := B.bytes
  have hr := B.returns
  have htg : ∀ w ∈ tp_G, w.before ([.long x0] : List Value).toArray s = true := fun w h => atoms_spec (ws := w_C_fitsImmediate) B.pre w (List.mem_cons_of_mem _ h)
  have hown : s.vm.findClass "TwoPass$Code" = some m.cls := findClass_of_methodNamed B.named
  have hlocks := B.notSynchronized
  subst hsz
  have hD := hD0.self (sz := s.heap.size)
  generalize hAe : va_A fr s.heap.size = A at hD hK ⊢
  have hA : ∀ q : Nat, s.heap.size ≤ q → A q := fun q h => by rw [← hAe]; exact Or.inr h
  have hS : va_S A s.heap s.heap [] := va_S.rf
  have hl := lv_entry ([.long x0]) (n := 2) (Nat.le_of_ble_eq_true rfl)
  rw [lg_entry_eq]
  generalize (lg_sl ([.long x0]) ++ List.replicate (2 - (lg_sl ([.long x0])).length) Slot.unset).toArray = ls at hl ⊢
  have hl : lv_has ls 2 [(0, .long x0)] := hl
  refine lv_lload_n hx hb d_C_fitsImmediate_0 rfl (lv_at hl 0 rfl) ?_
  refine lv_ldc2 (v := (-2048)) hx hb hown (htg _ kl_C_42) d_C_fitsImmediate_1 ?_
  by_cases h1 : x0 < (-2048)
  · refine W.lcmp hx hb d_C_fitsImmediate_4 ?_
    refine lv_if_lt (tgt := 20) hx hb d_C_fitsImmediate_5 (by decide) (fun _ => ?_) (fun h => absurd (tp_lc_lt_t h1) h)
    refine lv_iconst (v := 0) hx hb d_C_fitsImmediate_20 (by decide) ?_
    exact W.zret (v := 0) hx hb hr rfl (fun t ht hW => ⟨⟨_, (), rfl, trivial, by rw [ht]; exact hP, hD⟩, hS.F ht⟩) hS.2.2 d_C_fitsImmediate_21
  · refine W.lcmp hx hb d_C_fitsImmediate_4 ?_
    refine lv_if_lt (tgt := 20) hx hb d_C_fitsImmediate_5 (by decide) (fun h => absurd h (tp_lc_lt_f h1)) (fun _ => ?_)
    refine lv_lload_n hx hb d_C_fitsImmediate_8 rfl (lv_at hl 0 rfl) ?_
    refine lv_ldc2 (v := 2047) hx hb hown (htg _ kl_C_44) d_C_fitsImmediate_9 ?_
    by_cases h2 : 2047 < x0
    · refine W.lcmp hx hb d_C_fitsImmediate_12 ?_
      refine lv_if_gt (tgt := 20) hx hb d_C_fitsImmediate_13 (by decide) (fun _ => ?_) (fun h => absurd (tp_lc_gt_t h2) h)
      refine lv_iconst (v := 0) hx hb d_C_fitsImmediate_20 (by decide) ?_
      exact W.zret (v := 0) hx hb hr rfl (fun t ht hW => ⟨⟨_, (), rfl, trivial, by rw [ht]; exact hP, hD⟩, hS.F ht⟩) hS.2.2 d_C_fitsImmediate_21
    · refine W.lcmp hx hb d_C_fitsImmediate_12 ?_
      refine lv_if_gt (tgt := 20) hx hb d_C_fitsImmediate_13 (by decide) (fun h => absurd h (tp_lc_gt_f h2)) (fun _ => ?_)
      refine lv_iconst (v := 1) hx hb d_C_fitsImmediate_16 (by decide) ?_
      refine lv_goto (tgt := 21) hx hb d_C_fitsImmediate_17 (by decide) ?_
      exact W.zret (v := 1) hx hb hr rfl (fun t ht hW => ⟨⟨_, (), rfl, trivial, by rw [ht]; exact hP, hD⟩, hS.F ht⟩) hS.2.2 d_C_fitsImmediate_21
set_option maxHeartbeats 4000000 in
set_option maxRecDepth 100000 in
theorem s_C_lowPart (l : Launch) (E : tp_Env) (fr : va_W) (sz : Nat) (x0 : Int32)  : Met l y_C_lowPart w_C_lowPart ({ frames := 0, cells := 0, slots := 0, locals := 0 }) (va_Pc [.int x0] (tp_in E fr sz)) (va_Qi (fun r (_ : Unit) => True) (fun _ t => tp_out E (va_A fr sz) (fr) t) (va_A fr sz)) 0 0 (va_A fr sz) := by
  refine Met.ofW (cc := b_C_lowPart) (maxL := 1) (ret := (some .int)) (by decide) rfl ?_
  intro p e s m args below meth c s₁ B hml hv
  obtain ⟨rfl, hsz, hP, hK, hD0⟩ := hv
  have hx := B.exec
  have hb := B.bytes
  have hr := B.returns
  have htg : ∀ w ∈ tp_G, w.before ([.int x0] : List Value).toArray s = true := fun w h => atoms_spec (ws := w_C_lowPart) B.pre w (List.mem_cons_of_mem _ h)
  have hown : s.vm.findClass "TwoPass$Code" = some m.cls := findClass_of_methodNamed B.named
  have hlocks := B.notSynchronized
  subst hsz
  have hD := hD0.self (sz := s.heap.size)
  generalize hAe : va_A fr s.heap.size = A at hD hK ⊢
  have hA : ∀ q : Nat, s.heap.size ≤ q → A q := fun q h => by rw [← hAe]; exact Or.inr h
  have hS : va_S A s.heap s.heap [] := va_S.rf
  have hl := lv_entry ([.int x0]) (n := 1) (Nat.le_of_ble_eq_true rfl)
  rw [lg_entry_eq]
  generalize (lg_sl ([.int x0]) ++ List.replicate (1 - (lg_sl ([.int x0])).length) Slot.unset).toArray = ls at hl ⊢
  have hl : lv_has ls 1 [(0, .int x0)] := hl
  refine lv_iload_n hx hb d_C_lowPart_0 rfl (lv_at hl 0 rfl) ?_
  refine lv_bipush (v := 20) hx hb d_C_lowPart_1 (by decide) ?_
  refine lv_ishl hx hb d_C_lowPart_3 ?_
  refine lv_bipush (v := 20) hx hb d_C_lowPart_4 (by decide) ?_
  refine lv_ishr hx hb d_C_lowPart_6 ?_
  exact W.iret (v := ((x0 <<< (20 &&& 31 : Int32)) >>> (20 &&& 31 : Int32))) hx hb hr (fun t ht hW => ⟨⟨_, (), rfl, trivial, by rw [ht]; exact hP, hD⟩, hS.F ht⟩) hS.2.2 d_C_lowPart_7
set_option maxHeartbeats 4000000 in
set_option maxRecDepth 100000 in
theorem s_C_highPart (l : Launch) (E : tp_Env) (fr : va_W) (sz : Nat) (x0 : Int32)  : Met l y_C_highPart w_C_highPart ({ frames := 1, cells := 0, slots := 0, locals := 20 }) (va_Pc [.int x0] (tp_in E fr sz)) (va_Qi (fun r (_ : Unit) => True) (fun _ t => tp_out E (va_A fr sz) (fr) t) (va_A fr sz)) 0 0 (va_A fr sz) := by
  refine Met.ofW (cc := b_C_highPart) (maxL := 1) (ret := (some .int)) (by decide) rfl ?_
  intro p e s m args below meth c s₁ B hml hv
  obtain ⟨rfl, hsz, hP, hK, hD0⟩ := hv
  have hx := B.exec
  have hb := B.bytes
  have hr := B.returns
  have htg : ∀ w ∈ tp_G, w.before ([.int x0] : List Value).toArray s = true := fun w h => atoms_spec (ws := w_C_highPart) B.pre w (List.mem_cons_of_mem _ h)
  have hown : s.vm.findClass "TwoPass$Code" = some m.cls := findClass_of_methodNamed B.named
  have hlocks := B.notSynchronized
  subst hsz
  have hD := hD0.self (sz := s.heap.size)
  generalize hAe : va_A fr s.heap.size = A at hD hK ⊢
  have hA : ∀ q : Nat, s.heap.size ≤ q → A q := fun q h => by rw [← hAe]; exact Or.inr h
  have hS : va_S A s.heap s.heap [] := va_S.rf
  have hl := lv_entry ([.int x0]) (n := 1) (Nat.le_of_ble_eq_true rfl)
  rw [lg_entry_eq]
  generalize (lg_sl ([.int x0]) ++ List.replicate (1 - (lg_sl ([.int x0])).length) Slot.unset).toArray = ls at hl ⊢
  have hl : lv_has ls 1 [(0, .int x0)] := hl
  refine lv_iload_n hx hb d_C_highPart_0 rfl (lv_at hl 0 rfl) ?_
  refine lv_iload_n hx hb d_C_highPart_1 rfl (lv_at hl 0 rfl) ?_
  refine tp_ci (tp_rS (As := [.int x0]) (rest := [.int x0]) ⟨hx, hb, hml, hown, htg⟩ (s_C_lowPart l E fr _ x0 ) (⟨callB_of 1 htg (tp_good0 kc_C_lowPart) rfl rfl rfl (htg _ ki_C) (htg _ kl_C_46) ⟨by decide, by decide, by decide +kernel⟩ ⟨Nat.le_of_ble_eq_true rfl, Nat.le_of_ble_eq_true rfl⟩, htg _ ks_C_lowPart⟩) hK hP hD hS hA rfl hl.1 rfl (Nat.le_of_ble_eq_true rfl) d_C_highPart_2 ⟨Nat.le_of_ble_eq_true rfl, Nat.le_of_ble_eq_true rfl⟩) hD hS hA (fun pv63 u H locs hw hP hD hS => ?_)
  have hP : va_P (tp_D E) tp_cl (fr) H := hP
  have hD : va_D A (fr) := hD
  refine lv_isub hx hb d_C_highPart_5 ?_
  refine lv_bipush (v := 12) hx hb d_C_highPart_6 (by decide) ?_
  refine lv_iushr (v := ((x0 - pv63).toUInt32 >>> (Int32.toUInt32 12 &&& Int32.toUInt32 31)).toInt32) hx hb d_C_highPart_8 rfl ?_
  exact W.iret (v := ((x0 - pv63).toUInt32 >>> (Int32.toUInt32 12 &&& Int32.toUInt32 31)).toInt32) hx hb hr (fun t ht hW => ⟨⟨_, (), rfl, trivial, by rw [ht]; exact hP, hD⟩, hS.F ht⟩) hS.2.2 d_C_highPart_9
set_option maxHeartbeats 4000000 in
set_option maxRecDepth 100000 in
theorem s_C_bits (l : Launch) (E : tp_Env) (fr : va_W) (sz : Nat) (x0 : Int32) (x1 : Int32) (x2 : Int32)  : Met l y_C_bits w_C_bits ({ frames := 0, cells := 0, slots := 0, locals := 0 }) (va_Pc [.int x0, .int x1, .int x2] (tp_in E fr sz)) (va_Qi (fun r (_ : Unit) => True) (fun _ t => tp_out E (va_A fr sz) (fr) t) (va_A fr sz)) 0 0 (va_A fr sz) := by
  refine Met.ofW (cc := b_C_bits) (maxL := 3) (ret := (some .int)) (by decide) rfl ?_
  intro p e s m args below meth c s₁ B hml hv
  obtain ⟨rfl, hsz, hP, hK, hD0⟩ := hv
  have hx := B.exec
  have hb := B.bytes
  have hr := B.returns
  have htg : ∀ w ∈ tp_G, w.before ([.int x0, .int x1, .int x2] : List Value).toArray s = true := fun w h => atoms_spec (ws := w_C_bits) B.pre w (List.mem_cons_of_mem _ h)
  have hown : s.vm.findClass "TwoPass$Code" = some m.cls := findClass_of_methodNamed B.named
  have hlocks := B.notSynchronized
  subst hsz
  have hD := hD0.self (sz := s.heap.size)
  generalize hAe : va_A fr s.heap.size = A at hD hK ⊢
  have hA : ∀ q : Nat, s.heap.size ≤ q → A q := fun q h => by rw [← hAe]; exact Or.inr h
  have hS : va_S A s.heap s.heap [] := va_S.rf
  have hl := lv_entry ([.int x0, .int x1, .int x2]) (n := 3) (Nat.le_of_ble_eq_true rfl)
  rw [lg_entry_eq]
  generalize (lg_sl ([.int x0, .int x1, .int x2]) ++ List.replicate (3 - (lg_sl ([.int x0, .int x1, .int x2])).length) Slot.unset).toArray = ls at hl ⊢
  have hl : lv_has ls 3 [(0, .int x0), (1, .int x1), (2, .int x2)] := hl
  refine lv_iload_n hx hb d_C_bits_0 rfl (lv_at hl 0 rfl) ?_
  refine lv_iload_n hx hb d_C_bits_1 rfl (lv_at hl 1 rfl) ?_
  refine lv_iushr (v := (x0.toUInt32 >>> (Int32.toUInt32 x1 &&& Int32.toUInt32 31)).toInt32) hx hb d_C_bits_2 rfl ?_
  refine lv_iconst (v := 1) hx hb d_C_bits_3 (by decide) ?_
  refine lv_iload_n hx hb d_C_bits_4 rfl (lv_at hl 2 rfl) ?_
  refine lv_ishl hx hb d_C_bits_5 ?_
  refine lv_iconst (v := 1) hx hb d_C_bits_6 (by decide) ?_
  refine lv_isub hx hb d_C_bits_7 ?_
  refine lv_iand hx hb d_C_bits_8 ?_
  exact W.iret (v := ((x0.toUInt32 >>> (Int32.toUInt32 x1 &&& Int32.toUInt32 31)).toInt32 &&& (((1 : Int32) <<< (x2 &&& 31 : Int32)) - 1))) hx hb hr (fun t ht hW => ⟨⟨_, (), rfl, trivial, by rw [ht]; exact hP, hD⟩, hS.F ht⟩) hS.2.2 d_C_bits_9
set_option maxHeartbeats 4000000 in
set_option maxRecDepth 100000 in
theorem s_C_numberBits (l : Launch) (E : tp_Env) (fr : va_W) (sz : Nat) (x0 : Int32) (x1 : Int32)  : Met l y_C_numberBits w_C_numberBits ({ frames := 1, cells := 0, slots := 0, locals := 22 }) (va_Pc [.int x0, .int x1] (tp_in E fr sz)) (va_Qi (fun r (_ : Unit) => True) (fun _ t => tp_out E (va_A fr sz) (fr) t) (va_A fr sz)) 0 0 (va_A fr sz) := by
  refine Met.ofW (cc := b_C_numberBits) (maxL := 2) (ret := (some .int)) (by decide) rfl ?_
  intro p e s m args below meth c s₁ B hml hv
  obtain ⟨rfl, hsz, hP, hK, hD0⟩ := hv
  have hx := B.exec
  have hb := B.bytes
  have hr := B.returns
  have htg : ∀ w ∈ tp_G, w.before ([.int x0, .int x1] : List Value).toArray s = true := fun w h => atoms_spec (ws := w_C_numberBits) B.pre w (List.mem_cons_of_mem _ h)
  have hown : s.vm.findClass "TwoPass$Code" = some m.cls := findClass_of_methodNamed B.named
  have hlocks := B.notSynchronized
  subst hsz
  have hD := hD0.self (sz := s.heap.size)
  generalize hAe : va_A fr s.heap.size = A at hD hK ⊢
  have hA : ∀ q : Nat, s.heap.size ≤ q → A q := fun q h => by rw [← hAe]; exact Or.inr h
  have hS : va_S A s.heap s.heap [] := va_S.rf
  have hl := lv_entry ([.int x0, .int x1]) (n := 2) (Nat.le_of_ble_eq_true rfl)
  rw [lg_entry_eq]
  generalize (lg_sl ([.int x0, .int x1]) ++ List.replicate (2 - (lg_sl ([.int x0, .int x1])).length) Slot.unset).toArray = ls at hl ⊢
  have hl : lv_has ls 2 [(0, .int x0), (1, .int x1)] := hl
  refine lv_iload_n hx hb d_C_numberBits_0 rfl (lv_at hl 0 rfl) ?_
  by_cases h1 : x0 = 2
  · refine lv_tableIn (off := 39) (tgt := 40) hx hb d_C_numberBits_1 (by rw [h1]; decide) (by rw [h1]; decide) (by rw [h1]; decide) (by decide) ?_
    refine lv_iload_n hx hb d_C_numberBits_40 rfl (lv_at hl 1 rfl) ?_
    refine lv_bipush (v := 20) hx hb d_C_numberBits_41 (by decide) ?_
    refine lv_ishl hx hb d_C_numberBits_43 ?_
    exact W.iret (v := (x1 <<< (20 &&& 31 : Int32))) hx hb hr (fun t ht hW => ⟨⟨_, (), rfl, trivial, by rw [ht]; exact hP, hD⟩, hS.F ht⟩) hS.2.2 d_C_numberBits_44
  · by_cases h2 : x0 = 3
    · refine lv_tableIn (off := 39) (tgt := 40) hx hb d_C_numberBits_1 (by rw [h2]; decide) (by rw [h2]; decide) (by rw [h2]; decide) (by decide) ?_
      refine lv_iload_n hx hb d_C_numberBits_40 rfl (lv_at hl 1 rfl) ?_
      refine lv_bipush (v := 20) hx hb d_C_numberBits_41 (by decide) ?_
      refine lv_ishl hx hb d_C_numberBits_43 ?_
      exact W.iret (v := (x1 <<< (20 &&& 31 : Int32))) hx hb hr (fun t ht hW => ⟨⟨_, (), rfl, trivial, by rw [ht]; exact hP, hD⟩, hS.F ht⟩) hS.2.2 d_C_numberBits_44
    · by_cases h3 : x0 = 4
      · refine lv_tableIn (off := 44) (tgt := 45) hx hb d_C_numberBits_1 (by rw [h3]; decide) (by rw [h3]; decide) (by rw [h3]; decide) (by decide) ?_
        refine lv_iload_n hx hb d_C_numberBits_45 rfl (lv_at hl 1 rfl) ?_
        refine lv_bipush (v := 12) hx hb d_C_numberBits_46 (by decide) ?_
        refine lv_ishl hx hb d_C_numberBits_48 ?_
        exact W.iret (v := (x1 <<< (12 &&& 31 : Int32))) hx hb hr (fun t ht hW => ⟨⟨_, (), rfl, trivial, by rw [ht]; exact hP, hD⟩, hS.F ht⟩) hS.2.2 d_C_numberBits_49
      · by_cases h4 : x0 = 5
        · refine lv_tableIn (off := 49) (tgt := 50) hx hb d_C_numberBits_1 (by rw [h4]; decide) (by rw [h4]; decide) (by rw [h4]; decide) (by decide) ?_
          refine lv_iload_n hx hb d_C_numberBits_50 rfl (lv_at hl 1 rfl) ?_
          refine lv_iconst (v := 0) hx hb d_C_numberBits_51 (by decide) ?_
          refine lv_iconst (v := 5) hx hb d_C_numberBits_52 (by decide) ?_
          refine tp_ci (tp_rS (As := [.int x1, .int 0, .int 5]) (rest := []) ⟨hx, hb, hml, hown, htg⟩ (s_C_bits l E fr _ x1 0 5 ) (⟨callB_of 3 htg (tp_good0 kc_C_bits) rfl rfl rfl (htg _ ki_C) (htg _ kl_C_24) ⟨by decide, by decide, by decide +kernel⟩ ⟨Nat.le_of_ble_eq_true rfl, Nat.le_of_ble_eq_true rfl⟩, htg _ ks_C_bits⟩) hK hP hD hS hA rfl hl.1 rfl (Nat.le_of_ble_eq_true rfl) d_C_numberBits_53 ⟨Nat.le_of_ble_eq_true rfl, Nat.le_of_ble_eq_true rfl⟩) hD hS hA (fun pv64 u H locs hw hP hD hS => ?_)
          have hP : va_P (tp_D E) tp_cl (fr) H := hP
          have hD : va_D A (fr) := hD
          refine lv_bipush (v := 7) hx hb d_C_numberBits_56 (by decide) ?_
          refine lv_ishl hx hb d_C_numberBits_58 ?_
          refine lv_iload_n hx hb d_C_numberBits_59 rfl (lv_at hl 1 rfl) ?_
          refine lv_iconst (v := 5) hx hb d_C_numberBits_60 (by decide) ?_
          refine lv_bipush (v := 7) hx hb d_C_numberBits_61 (by decide) ?_
          refine tp_ci (tp_rS (As := [.int x1, .int 5, .int 7]) (rest := [.int (pv64 <<< (7 &&& 31 : Int32))]) ⟨hx, hb, hml, hown, htg⟩ (s_C_bits l E fr _ x1 5 7 ) (⟨callB_of 3 htg (tp_good0 kc_C_bits) rfl rfl rfl (htg _ ki_C) (htg _ kl_C_24) ⟨by decide, by decide, by decide +kernel⟩ ⟨Nat.le_of_ble_eq_true rfl, Nat.le_of_ble_eq_true rfl⟩, htg _ ks_C_bits⟩) hK hP hD hS hA rfl hl.1 rfl (Nat.le_of_ble_eq_true rfl) d_C_numberBits_63 ⟨Nat.le_of_ble_eq_true rfl, Nat.le_of_ble_eq_true rfl⟩) hD hS hA (fun pv65 u H locs hw hP hD hS => ?_)
          have hP : va_P (tp_D E) tp_cl (fr) H := hP
          have hD : va_D A (fr) := hD
          refine lv_bipush (v := 25) hx hb d_C_numberBits_66 (by decide) ?_
          refine lv_ishl hx hb d_C_numberBits_68 ?_
          refine lv_ior hx hb d_C_numberBits_69 ?_
          exact W.iret (v := ((pv64 <<< (7 &&& 31 : Int32)) ||| (pv65 <<< (25 &&& 31 : Int32)))) hx hb hr (fun t ht hW => ⟨⟨_, (), rfl, trivial, by rw [ht]; exact hP, hD⟩, hS.F ht⟩) hS.2.2 d_C_numberBits_70
        · by_cases h5 : x0 = 6
          · refine lv_tableIn (off := 70) (tgt := 71) hx hb d_C_numberBits_1 (by rw [h5]; decide) (by rw [h5]; decide) (by rw [h5]; decide) (by decide) ?_
            refine lv_iload_n hx hb d_C_numberBits_71 rfl (lv_at hl 1 rfl) ?_
            refine lv_iconst (v := 1) hx hb d_C_numberBits_72 (by decide) ?_
            refine lv_iconst (v := 4) hx hb d_C_numberBits_73 (by decide) ?_
            refine tp_ci (tp_rS (As := [.int x1, .int 1, .int 4]) (rest := []) ⟨hx, hb, hml, hown, htg⟩ (s_C_bits l E fr _ x1 1 4 ) (⟨callB_of 3 htg (tp_good0 kc_C_bits) rfl rfl rfl (htg _ ki_C) (htg _ kl_C_24) ⟨by decide, by decide, by decide +kernel⟩ ⟨Nat.le_of_ble_eq_true rfl, Nat.le_of_ble_eq_true rfl⟩, htg _ ks_C_bits⟩) hK hP hD hS hA rfl hl.1 rfl (Nat.le_of_ble_eq_true rfl) d_C_numberBits_74 ⟨Nat.le_of_ble_eq_true rfl, Nat.le_of_ble_eq_true rfl⟩) hD hS hA (fun pv66 u H locs hw hP hD hS => ?_)
            have hP : va_P (tp_D E) tp_cl (fr) H := hP
            have hD : va_D A (fr) := hD
            refine lv_bipush (v := 8) hx hb d_C_numberBits_77 (by decide) ?_
            refine lv_ishl hx hb d_C_numberBits_79 ?_
            refine lv_iload_n hx hb d_C_numberBits_80 rfl (lv_at hl 1 rfl) ?_
            refine lv_iconst (v := 5) hx hb d_C_numberBits_81 (by decide) ?_
            refine lv_bipush (v := 6) hx hb d_C_numberBits_82 (by decide) ?_
            refine tp_ci (tp_rS (As := [.int x1, .int 5, .int 6]) (rest := [.int (pv66 <<< (8 &&& 31 : Int32))]) ⟨hx, hb, hml, hown, htg⟩ (s_C_bits l E fr _ x1 5 6 ) (⟨callB_of 3 htg (tp_good0 kc_C_bits) rfl rfl rfl (htg _ ki_C) (htg _ kl_C_24) ⟨by decide, by decide, by decide +kernel⟩ ⟨Nat.le_of_ble_eq_true rfl, Nat.le_of_ble_eq_true rfl⟩, htg _ ks_C_bits⟩) hK hP hD hS hA rfl hl.1 rfl (Nat.le_of_ble_eq_true rfl) d_C_numberBits_84 ⟨Nat.le_of_ble_eq_true rfl, Nat.le_of_ble_eq_true rfl⟩) hD hS hA (fun pv67 u H locs hw hP hD hS => ?_)
            have hP : va_P (tp_D E) tp_cl (fr) H := hP
            have hD : va_D A (fr) := hD
            refine lv_bipush (v := 25) hx hb d_C_numberBits_87 (by decide) ?_
            refine lv_ishl hx hb d_C_numberBits_89 ?_
            refine lv_ior hx hb d_C_numberBits_90 ?_
            refine lv_iload_n hx hb d_C_numberBits_91 rfl (lv_at hl 1 rfl) ?_
            refine lv_bipush (v := 11) hx hb d_C_numberBits_92 (by decide) ?_
            refine lv_iconst (v := 1) hx hb d_C_numberBits_94 (by decide) ?_
            refine tp_ci (tp_rS (As := [.int x1, .int 11, .int 1]) (rest := [.int ((pv66 <<< (8 &&& 31 : Int32)) ||| (pv67 <<< (25 &&& 31 : Int32)))]) ⟨hx, hb, hml, hown, htg⟩ (s_C_bits l E fr _ x1 11 1 ) (⟨callB_of 3 htg (tp_good0 kc_C_bits) rfl rfl rfl (htg _ ki_C) (htg _ kl_C_24) ⟨by decide, by decide, by decide +kernel⟩ ⟨Nat.le_of_ble_eq_true rfl, Nat.le_of_ble_eq_true rfl⟩, htg _ ks_C_bits⟩) hK hP hD hS hA rfl hl.1 rfl (Nat.le_of_ble_eq_true rfl) d_C_numberBits_95 ⟨Nat.le_of_ble_eq_true rfl, Nat.le_of_ble_eq_true rfl⟩) hD hS hA (fun pv68 u H locs hw hP hD hS => ?_)
            have hP : va_P (tp_D E) tp_cl (fr) H := hP
            have hD : va_D A (fr) := hD
            refine lv_bipush (v := 7) hx hb d_C_numberBits_98 (by decide) ?_
            refine lv_ishl hx hb d_C_numberBits_100 ?_
            refine lv_ior hx hb d_C_numberBits_101 ?_
            refine lv_iload_n hx hb d_C_numberBits_102 rfl (lv_at hl 1 rfl) ?_
            refine lv_bipush (v := 12) hx hb d_C_numberBits_103 (by decide) ?_
            refine lv_iconst (v := 1) hx hb d_C_numberBits_105 (by decide) ?_
            refine tp_ci (tp_rS (As := [.int x1, .int 12, .int 1]) (rest := [.int (((pv66 <<< (8 &&& 31 : Int32)) ||| (pv67 <<< (25 &&& 31 : Int32))) ||| (pv68 <<< (7 &&& 31 : Int32)))]) ⟨hx, hb, hml, hown, htg⟩ (s_C_bits l E fr _ x1 12 1 ) (⟨callB_of 3 htg (tp_good0 kc_C_bits) rfl rfl rfl (htg _ ki_C) (htg _ kl_C_24) ⟨by decide, by decide, by decide +kernel⟩ ⟨Nat.le_of_ble_eq_true rfl, Nat.le_of_ble_eq_true rfl⟩, htg _ ks_C_bits⟩) hK hP hD hS hA rfl hl.1 rfl (Nat.le_of_ble_eq_true rfl) d_C_numberBits_106 ⟨Nat.le_of_ble_eq_true rfl, Nat.le_of_ble_eq_true rfl⟩) hD hS hA (fun pv69 u H locs hw hP hD hS => ?_)
            have hP : va_P (tp_D E) tp_cl (fr) H := hP
            have hD : va_D A (fr) := hD
            refine lv_bipush (v := 31) hx hb d_C_numberBits_109 (by decide) ?_
            refine lv_ishl hx hb d_C_numberBits_111 ?_
            refine lv_ior hx hb d_C_numberBits_112 ?_
            exact W.iret (v := ((((pv66 <<< (8 &&& 31 : Int32)) ||| (pv67 <<< (25 &&& 31 : Int32))) ||| (pv68 <<< (7 &&& 31 : Int32))) ||| (pv69 <<< (31 &&& 31 : Int32)))) hx hb hr (fun t ht hW => ⟨⟨_, (), rfl, trivial, by rw [ht]; exact hP, hD⟩, hS.F ht⟩) hS.2.2 d_C_numberBits_113
          · by_cases h6 : x0 = 7
            · refine lv_tableIn (off := 113) (tgt := 114) hx hb d_C_numberBits_1 (by rw [h6]; decide) (by rw [h6]; decide) (by rw [h6]; decide) (by decide) ?_
              refine lv_iload_n hx hb d_C_numberBits_114 rfl (lv_at hl 1 rfl) ?_
              refine lv_iconst (v := 1) hx hb d_C_numberBits_115 (by decide) ?_
              refine lv_bipush (v := 10) hx hb d_C_numberBits_116 (by decide) ?_
              refine tp_ci (tp_rS (As := [.int x1, .int 1, .int 10]) (rest := []) ⟨hx, hb, hml, hown, htg⟩ (s_C_bits l E fr _ x1 1 10 ) (⟨callB_of 3 htg (tp_good0 kc_C_bits) rfl rfl rfl (htg _ ki_C) (htg _ kl_C_24) ⟨by decide, by decide, by decide +kernel⟩ ⟨Nat.le_of_ble_eq_true rfl, Nat.le_of_ble_eq_true rfl⟩, htg _ ks_C_bits⟩) hK hP hD hS hA rfl hl.1 rfl (Nat.le_of_ble_eq_true rfl) d_C_numberBits_118 ⟨Nat.le_of_ble_eq_true rfl, Nat.le_of_ble_eq_true rfl⟩) hD hS hA (fun pv70 u H locs hw hP hD hS => ?_)
              have hP : va_P (tp_D E) tp_cl (fr) H := hP
              have hD : va_D A (fr) := hD
              refine lv_bipush (v := 21) hx hb d_C_numberBits_121 (by decide) ?_
              refine lv_ishl hx hb d_C_numberBits_123 ?_
              refine lv_iload_n hx hb d_C_numberBits_124 rfl (lv_at hl 1 rfl) ?_
              refine lv_bipush (v := 11) hx hb d_C_numberBits_125 (by decide) ?_
              refine lv_iconst (v := 1) hx hb d_C_numberBits_127 (by decide) ?_
              refine tp_ci (tp_rS (As := [.int x1, .int 11, .int 1]) (rest := [.int (pv70 <<< (21 &&& 31 : Int32))]) ⟨hx, hb, hml, hown, htg⟩ (s_C_bits l E fr _ x1 11 1 ) (⟨callB_of 3 htg (tp_good0 kc_C_bits) rfl rfl rfl (htg _ ki_C) (htg _ kl_C_24) ⟨by decide, by decide, by decide +kernel⟩ ⟨Nat.le_of_ble_eq_true rfl, Nat.le_of_ble_eq_true rfl⟩, htg _ ks_C_bits⟩) hK hP hD hS hA rfl hl.1 rfl (Nat.le_of_ble_eq_true rfl) d_C_numberBits_128 ⟨Nat.le_of_ble_eq_true rfl, Nat.le_of_ble_eq_true rfl⟩) hD hS hA (fun pv71 u H locs hw hP hD hS => ?_)
              have hP : va_P (tp_D E) tp_cl (fr) H := hP
              have hD : va_D A (fr) := hD
              refine lv_bipush (v := 20) hx hb d_C_numberBits_131 (by decide) ?_
              refine lv_ishl hx hb d_C_numberBits_133 ?_
              refine lv_ior hx hb d_C_numberBits_134 ?_
              refine lv_iload_n hx hb d_C_numberBits_135 rfl (lv_at hl 1 rfl) ?_
              refine lv_bipush (v := 12) hx hb d_C_numberBits_136 (by decide) ?_
              refine lv_bipush (v := 8) hx hb d_C_numberBits_138 (by decide) ?_
              refine tp_ci (tp_rS (As := [.int x1, .int 12, .int 8]) (rest := [.int ((pv70 <<< (21 &&& 31 : Int32)) ||| (pv71 <<< (20 &&& 31 : Int32)))]) ⟨hx, hb, hml, hown, htg⟩ (s_C_bits l E fr _ x1 12 8 ) (⟨callB_of 3 htg (tp_good0 kc_C_bits) rfl rfl rfl (htg _ ki_C) (htg _ kl_C_24) ⟨by decide, by decide, by decide +kernel⟩ ⟨Nat.le_of_ble_eq_true rfl, Nat.le_of_ble_eq_true rfl⟩, htg _ ks_C_bits⟩) hK hP hD hS hA rfl hl.1 rfl (Nat.le_of_ble_eq_true rfl) d_C_numberBits_140 ⟨Nat.le_of_ble_eq_true rfl, Nat.le_of_ble_eq_true rfl⟩) hD hS hA (fun pv72 u H locs hw hP hD hS => ?_)
              have hP : va_P (tp_D E) tp_cl (fr) H := hP
              have hD : va_D A (fr) := hD
              refine lv_bipush (v := 12) hx hb d_C_numberBits_143 (by decide) ?_
              refine lv_ishl hx hb d_C_numberBits_145 ?_
              refine lv_ior hx hb d_C_numberBits_146 ?_
              refine lv_iload_n hx hb d_C_numberBits_147 rfl (lv_at hl 1 rfl) ?_
              refine lv_bipush (v := 20) hx hb d_C_numberBits_148 (by decide) ?_
              refine lv_iconst (v := 1) hx hb d_C_numberBits_150 (by decide) ?_
              refine tp_ci (tp_rS (As := [.int x1, .int 20, .int 1]) (rest := [.int (((pv70 <<< (21 &&& 31 : Int32)) ||| (pv71 <<< (20 &&& 31 : Int32))) ||| (pv72 <<< (12 &&& 31 : Int32)))]) ⟨hx, hb, hml, hown, htg⟩ (s_C_bits l E fr _ x1 20 1 ) (⟨callB_of 3 htg (tp_good0 kc_C_bits) rfl rfl rfl (htg _ ki_C) (htg _ kl_C_24) ⟨by decide, by decide, by decide +kernel⟩ ⟨Nat.le_of_ble_eq_true rfl, Nat.le_of_ble_eq_true rfl⟩, htg _ ks_C_bits⟩) hK hP hD hS hA rfl hl.1 rfl (Nat.le_of_ble_eq_true rfl) d_C_numberBits_151 ⟨Nat.le_of_ble_eq_true rfl, Nat.le_of_ble_eq_true rfl⟩) hD hS hA (fun pv73 u H locs hw hP hD hS => ?_)
              have hP : va_P (tp_D E) tp_cl (fr) H := hP
              have hD : va_D A (fr) := hD
              refine lv_bipush (v := 31) hx hb d_C_numberBits_154 (by decide) ?_
              refine lv_ishl hx hb d_C_numberBits_156 ?_
              refine lv_ior hx hb d_C_numberBits_157 ?_
              exact W.iret (v := ((((pv70 <<< (21 &&& 31 : Int32)) ||| (pv71 <<< (20 &&& 31 : Int32))) ||| (pv72 <<< (12 &&& 31 : Int32))) ||| (pv73 <<< (31 &&& 31 : Int32)))) hx hb hr (fun t ht hW => ⟨⟨_, (), rfl, trivial, by rw [ht]; exact hP, hD⟩, hS.F ht⟩) hS.2.2 d_C_numberBits_158
            · refine lv_tableOut (tgt := 159) hx hb d_C_numberBits_1 (by have g12 := tp_neI (v := 2) (n := 2) rfl h1; have g13 := tp_neI (v := 3) (n := 3) rfl h2; have g14 := tp_neI (v := 4) (n := 4) rfl h3; have g15 := tp_neI (v := 5) (n := 5) rfl h4; have g16 := tp_neI (v := 6) (n := 6) rfl h5; have g17 := tp_neI (v := 7) (n := 7) rfl h6; omega) (by decide) ?_
              refine lv_iconst (v := 0) hx hb d_C_numberBits_159 (by decide) ?_
              exact W.iret (v := 0) hx hb hr (fun t ht hW => ⟨⟨_, (), rfl, trivial, by rw [ht]; exact hP, hD⟩, hS.F ht⟩) hS.2.2 d_C_numberBits_160
set_option maxHeartbeats 4000000 in
set_option maxRecDepth 100000 in
theorem s_C_instruction (l : Launch) (E : tp_Env) (fr : va_W) (sz : Nat) (x0 : Nat) (hx0 : x0 < 47) (x1 : Int32) (x2 : Int32) (x3 : Int32) (x4 : Int32)  : Met l y_C_instruction w_C_instruction ({ frames := 2, cells := 0, slots := 0, locals := 43 }) (va_Pc [.ref (tp_ad E x0), .int x1, .int x2, .int x3, .int x4] (tp_in E fr sz)) (va_Qi (fun r (_ : Unit) => True) (fun _ t => tp_out E (va_A fr sz) (fr) t) (va_A fr sz)) 0 0 (va_A fr sz) := by
  refine Met.ofW (cc := b_C_instruction) (maxL := 5) (ret := (some .int)) (by decide) rfl ?_
  intro p e s m args below meth c s₁ B hml hv
  obtain ⟨rfl, hsz, hP, hK, hD0⟩ := hv
  have hx := B.exec
  have hb := B.bytes
  have hr := B.returns
  have htg : ∀ w ∈ tp_G, w.before ([.ref (tp_ad E x0), .int x1, .int x2, .int x3, .int x4] : List Value).toArray s = true := fun w h => atoms_spec (ws := w_C_instruction) B.pre w (List.mem_cons_of_mem _ h)
  have hown : s.vm.findClass "TwoPass$Code" = some m.cls := findClass_of_methodNamed B.named
  have hlocks := B.notSynchronized
  subst hsz
  have hD := hD0.self (sz := s.heap.size)
  generalize hAe : va_A fr s.heap.size = A at hD hK ⊢
  have hA : ∀ q : Nat, s.heap.size ≤ q → A q := fun q h => by rw [← hAe]; exact Or.inr h
  have hS : va_S A s.heap s.heap [] := va_S.rf
  have hl := lv_entry ([.ref (tp_ad E x0), .int x1, .int x2, .int x3, .int x4]) (n := 5) (Nat.le_of_ble_eq_true rfl)
  rw [lg_entry_eq]
  generalize (lg_sl ([.ref (tp_ad E x0), .int x1, .int x2, .int x3, .int x4]) ++ List.replicate (5 - (lg_sl ([.ref (tp_ad E x0), .int x1, .int x2, .int x3, .int x4])).length) Slot.unset).toArray = ls at hl ⊢
  have hl : lv_has ls 5 [(0, .ref (tp_ad E x0)), (1, .int x1), (2, .int x2), (3, .int x3), (4, .int x4)] := hl
  refine lv_aload_n hx hb d_C_instruction_0 rfl (lv_at hl 0 rfl) ?_
  refine vk_getf (v := .int (tp_cod.getD x0 0)) hx hb (hK.cod (i := x0) hx0) hS hown (htg _ kl_C_9) (fun _ h => h) d_C_instruction_1 ?_
  refine lv_iload_n hx hb d_C_instruction_4 rfl (lv_at hl 1 rfl) ?_
  refine lv_bipush (v := 7) hx hb d_C_instruction_5 (by decide) ?_
  refine lv_ishl hx hb d_C_instruction_7 ?_
  refine lv_ior hx hb d_C_instruction_8 ?_
  refine lv_iload_n hx hb d_C_instruction_9 rfl (lv_at hl 2 rfl) ?_
  refine lv_bipush (v := 15) hx hb d_C_instruction_10 (by decide) ?_
  refine lv_ishl hx hb d_C_instruction_12 ?_
  refine lv_ior hx hb d_C_instruction_13 ?_
  refine lv_iload_n hx hb d_C_instruction_14 rfl (lv_at hl 3 rfl) ?_
  refine lv_bipush (v := 20) hx hb d_C_instruction_15 (by decide) ?_
  refine lv_ishl hx hb d_C_instruction_17 ?_
  refine lv_ior hx hb d_C_instruction_18 ?_
  refine lv_aload_n hx hb d_C_instruction_19 rfl (lv_at hl 0 rfl) ?_
  refine vk_getf (v := .int (tp_lay.getD x0 0)) hx hb (hK.lay (i := x0) hx0) hS hown (htg _ kl_C_15) (fun _ h => h) d_C_instruction_20 ?_
  refine lv_iload hx hb d_C_instruction_23 (lv_at hl 4 rfl) ?_
  refine tp_ci (tp_rS (As := [.int (tp_lay.getD x0 0), .int x4]) (rest := [.int ((((tp_cod.getD x0 0) ||| (x1 <<< (7 &&& 31 : Int32))) ||| (x2 <<< (15 &&& 31 : Int32))) ||| (x3 <<< (20 &&& 31 : Int32)))]) ⟨hx, hb, hml, hown, htg⟩ (s_C_numberBits l E fr _ (tp_lay.getD x0 0) x4 ) (⟨callB_of 2 htg (tp_good0 kc_C_numberBits) rfl rfl rfl (htg _ ki_C) (htg _ kl_C_18) ⟨by decide, by decide, by decide +kernel⟩ ⟨Nat.le_of_ble_eq_true rfl, Nat.le_of_ble_eq_true rfl⟩, htg _ ks_C_numberBits⟩) hK hP hD hS hA rfl hl.1 rfl (Nat.le_of_ble_eq_true rfl) d_C_instruction_25 ⟨Nat.le_of_ble_eq_true rfl, Nat.le_of_ble_eq_true rfl⟩) hD hS hA (fun pv74 u H locs hw hP hD hS => ?_)
  have hP : va_P (tp_D E) tp_cl (fr) H := hP
  have hD : va_D A (fr) := hD
  refine lv_ior hx hb d_C_instruction_28 ?_
  exact W.iret (v := (((((tp_cod.getD x0 0) ||| (x1 <<< (7 &&& 31 : Int32))) ||| (x2 <<< (15 &&& 31 : Int32))) ||| (x3 <<< (20 &&& 31 : Int32))) ||| pv74)) hx hb hr (fun t ht hW => ⟨⟨_, (), rfl, trivial, by rw [ht]; exact hP, hD⟩, hS.F ht⟩) hS.2.2 d_C_instruction_29
set_option maxHeartbeats 4000000 in
set_option maxRecDepth 100000 in
theorem s_T_aligned (l : Launch) (E : tp_Env) (fr : va_W) (sz : Nat) (x0 : Int32)  : Met l y_T_aligned w_T_aligned ({ frames := 0, cells := 0, slots := 0, locals := 0 }) (va_Pc [.int x0] (tp_in E fr sz)) (va_Qi (fun r (_ : Unit) => True) (fun _ t => tp_out E (va_A fr sz) (fr) t) (va_A fr sz)) 0 0 (va_A fr sz) := by
  refine Met.ofW (cc := b_T_aligned) (maxL := 1) (ret := (some .int)) (by decide) rfl ?_
  intro p e s m args below meth c s₁ B hml hv
  obtain ⟨rfl, hsz, hP, hK, hD0⟩ := hv
  have hx := B.exec
  have hb := B.bytes
  have hr := B.returns
  have htg : ∀ w ∈ tp_G, w.before ([.int x0] : List Value).toArray s = true := fun w h => atoms_spec (ws := w_T_aligned) B.pre w (List.mem_cons_of_mem _ h)
  have hown : s.vm.findClass "TwoPass" = some m.cls := findClass_of_methodNamed B.named
  have hlocks := B.notSynchronized
  subst hsz
  have hD := hD0.self (sz := s.heap.size)
  generalize hAe : va_A fr s.heap.size = A at hD hK ⊢
  have hA : ∀ q : Nat, s.heap.size ≤ q → A q := fun q h => by rw [← hAe]; exact Or.inr h
  have hS : va_S A s.heap s.heap [] := va_S.rf
  have hl := lv_entry ([.int x0]) (n := 1) (Nat.le_of_ble_eq_true rfl)
  rw [lg_entry_eq]
  generalize (lg_sl ([.int x0]) ++ List.replicate (1 - (lg_sl ([.int x0])).length) Slot.unset).toArray = ls at hl ⊢
  have hl : lv_has ls 1 [(0, .int x0)] := hl
  refine lv_iload_n hx hb d_T_aligned_0 rfl (lv_at hl 0 rfl) ?_
  refine lv_iconst (v := 3) hx hb d_T_aligned_1 (by decide) ?_
  refine lv_iadd hx hb d_T_aligned_2 ?_
  refine lv_bipush (v := (-4)) hx hb d_T_aligned_3 (by decide) ?_
  refine lv_iand hx hb d_T_aligned_5 ?_
  exact W.iret (v := ((x0 + 3) &&& (-4))) hx hb hr (fun t ht hW => ⟨⟨_, (), rfl, trivial, by rw [ht]; exact hP, hD⟩, hS.F ht⟩) hS.2.2 d_T_aligned_6
set_option maxHeartbeats 4000000 in
set_option maxRecDepth 100000 in
theorem s_T_reaches (l : Launch) (E : tp_Env) (fr : va_W) (sz : Nat) (x0 : Int32)  : Met l y_T_reaches w_T_reaches ({ frames := 0, cells := 0, slots := 0, locals := 0 }) (va_Pc [.int x0] (tp_in E fr sz)) (va_Qi (fun r (_ : Unit) => True) (fun _ t => tp_out E (va_A fr sz) (fr) t) (va_A fr sz)) 0 0 (va_A fr sz) := by
  refine Met.ofW (cc := b_T_reaches) (maxL := 1) (ret := (some .boolean)) (by decide) rfl ?_
  intro p e s m args below meth c s₁ B hml hv
  obtain ⟨rfl, hsz, hP, hK, hD0⟩ := hv
  have hx := B.exec
  have hb := B.bytes
  have hr := B.returns
  have htg : ∀ w ∈ tp_G, w.before ([.int x0] : List Value).toArray s = true := fun w h => atoms_spec (ws := w_T_reaches) B.pre w (List.mem_cons_of_mem _ h)
  have hown : s.vm.findClass "TwoPass" = some m.cls := findClass_of_methodNamed B.named
  have hlocks := B.notSynchronized
  subst hsz
  have hD := hD0.self (sz := s.heap.size)
  generalize hAe : va_A fr s.heap.size = A at hD hK ⊢
  have hA : ∀ q : Nat, s.heap.size ≤ q → A q := fun q h => by rw [← hAe]; exact Or.inr h
  have hS : va_S A s.heap s.heap [] := va_S.rf
  have hl := lv_entry ([.int x0]) (n := 1) (Nat.le_of_ble_eq_true rfl)
  rw [lg_entry_eq]
  generalize (lg_sl ([.int x0]) ++ List.replicate (1 - (lg_sl ([.int x0])).length) Slot.unset).toArray = ls at hl ⊢
  have hl : lv_has ls 1 [(0, .int x0)] := hl
  refine lv_iload_n hx hb d_T_reaches_0 rfl (lv_at hl 0 rfl) ?_
  refine lv_sipush (v := (-4096)) hx hb d_T_reaches_1 (by decide) ?_
  by_cases h1 : x0 < (-4096)
  · refine lv_icmp_lt (tgt := 18) hx hb d_T_reaches_4 (by decide) (fun _ => ?_) (fun h => absurd h1 h)
    refine lv_iconst (v := 0) hx hb d_T_reaches_18 (by decide) ?_
    exact W.zret (v := 0) hx hb hr rfl (fun t ht hW => ⟨⟨_, (), rfl, trivial, by rw [ht]; exact hP, hD⟩, hS.F ht⟩) hS.2.2 d_T_reaches_19
  · refine lv_icmp_lt (tgt := 18) hx hb d_T_reaches_4 (by decide) (fun h => absurd h h1) (fun _ => ?_)
    refine lv_iload_n hx hb d_T_reaches_7 rfl (lv_at hl 0 rfl) ?_
    refine lv_sipush (v := 4094) hx hb d_T_reaches_8 (by decide) ?_
    by_cases h2 : 4094 < x0
    · refine lv_icmp_gt (tgt := 18) hx hb d_T_reaches_11 (by decide) (fun _ => ?_) (fun h => absurd h2 h)
      refine lv_iconst (v := 0) hx hb d_T_reaches_18 (by decide) ?_
      exact W.zret (v := 0) hx hb hr rfl (fun t ht hW => ⟨⟨_, (), rfl, trivial, by rw [ht]; exact hP, hD⟩, hS.F ht⟩) hS.2.2 d_T_reaches_19
    · refine lv_icmp_gt (tgt := 18) hx hb d_T_reaches_11 (by decide) (fun h => absurd h h2) (fun _ => ?_)
      refine lv_iconst (v := 1) hx hb d_T_reaches_14 (by decide) ?_
      refine lv_goto (tgt := 19) hx hb d_T_reaches_15 (by decide) ?_
      exact W.zret (v := 1) hx hb hr rfl (fun t ht hW => ⟨⟨_, (), rfl, trivial, by rw [ht]; exact hP, hD⟩, hS.F ht⟩) hS.2.2 d_T_reaches_19
set_option maxHeartbeats 4000000 in
set_option maxRecDepth 100000 in
theorem s_N_size (l : Launch) (E : tp_Env) (fr : va_W) (sz : Nat) (a : Nat) (hil : sf_isl E fr a) : Met l y_N_size w_N_size ({ frames := 1, cells := 0, slots := 0, locals := 21 }) (va_Pc [.ref a] (tp_in E fr sz)) (va_Qi (fun r (_ : Unit) => True) (fun _ t => tp_out E (va_A fr sz) (fr) t) (va_A fr sz)) 0 0 (va_A fr sz) := by
  refine Met.ofW (cc := b_N_size) (maxL := 1) (ret := (some .int)) (by decide) rfl ?_
  intro p e s m args below meth c s₁ B hml hv
  obtain ⟨rfl, hsz, hP, hK, hD0⟩ := hv
  have hx := B.exec
  have hb := B.bytes
  have hr := B.returns
  have htg : ∀ w ∈ tp_G, w.before ([.ref a] : List Value).toArray s = true := fun w h => atoms_spec (ws := w_N_size) B.pre w (List.mem_cons_of_mem _ h)
  have hown : s.vm.findClass "TwoPass$Line" = some m.cls := findClass_of_methodNamed B.named
  have hlocks := B.notSynchronized
  subst hsz
  have hD := hD0.self (sz := s.heap.size)
  generalize hAe : va_A fr s.heap.size = A at hD hK ⊢
  have hA : ∀ q : Nat, s.heap.size ≤ q → A q := fun q h => by rw [← hAe]; exact Or.inr h
  have hS : va_S A s.heap s.heap [] := va_S.rf
  have hl := lv_entry ([.ref a]) (n := 1) (Nat.le_of_ble_eq_true rfl)
  rw [lg_entry_eq]
  generalize (lg_sl ([.ref a]) ++ List.replicate (1 - (lg_sl ([.ref a])).length) Slot.unset).toArray = ls at hl ⊢
  have hl : lv_has ls 1 [(0, .ref a)] := hl
  obtain ⟨q0, vs0, hq0, zb0, zo0, zd0, zs0, zt0, zn0, zm0, zp0, zf0, zu0, zv0, ⟨ho0, hfa0⟩, rfl⟩ := id hil
  refine lv_aload_n hx hb d_N_size_0 rfl (lv_at hl 0 rfl) ?_
  refine va_get (D := tp_D E) (ci := 3) (v := .ref (tp_ad E zo0)) (C := qR_N) (T := qF_N) (N := 11) hx hb htg qi_N hown hK.1 hP (q0 + 0) hq0 rfl 1 (by decide) (htg _ kl_N_21) (fun _ h => h) rfl d_N_size_1 ?_
  refine vk_getf (v := .int (tp_lay.getD zo0 0)) hx hb (hK.lay (i := zo0) ho0) hS hown (htg _ kl_N_27) (fun _ h => h) d_N_size_4 ?_
  by_cases h1 : (tp_lay.getD zo0 0) = 0
  · refine lv_tableIn (off := 69) (tgt := 76) hx hb d_N_size_7 (by rw [h1]; decide) (by rw [h1]; decide) (by rw [h1]; decide) (by decide) ?_
    refine lv_iconst (v := 0) hx hb d_N_size_76 (by decide) ?_
    exact W.iret (v := 0) hx hb hr (fun t ht hW => ⟨⟨_, (), rfl, trivial, by rw [ht]; exact hP, hD⟩, hS.F ht⟩) hS.2.2 d_N_size_77
  · by_cases h2 : (tp_lay.getD zo0 0) = 1
    · refine lv_tableIn (off := 124) (tgt := 131) hx hb d_N_size_7 (by rw [h2]; decide) (by rw [h2]; decide) (by rw [h2]; decide) (by decide) ?_
      refine lv_iconst (v := 4) hx hb d_N_size_131 (by decide) ?_
      exact W.iret (v := 4) hx hb hr (fun t ht hW => ⟨⟨_, (), rfl, trivial, by rw [ht]; exact hP, hD⟩, hS.F ht⟩) hS.2.2 d_N_size_132
    · by_cases h3 : (tp_lay.getD zo0 0) = 2
      · refine lv_tableIn (off := 124) (tgt := 131) hx hb d_N_size_7 (by rw [h3]; decide) (by rw [h3]; decide) (by rw [h3]; decide) (by decide) ?_
        refine lv_iconst (v := 4) hx hb d_N_size_131 (by decide) ?_
        exact W.iret (v := 4) hx hb hr (fun t ht hW => ⟨⟨_, (), rfl, trivial, by rw [ht]; exact hP, hD⟩, hS.F ht⟩) hS.2.2 d_N_size_132
      · by_cases h4 : (tp_lay.getD zo0 0) = 3
        · refine lv_tableIn (off := 124) (tgt := 131) hx hb d_N_size_7 (by rw [h4]; decide) (by rw [h4]; decide) (by rw [h4]; decide) (by decide) ?_
          refine lv_iconst (v := 4) hx hb d_N_size_131 (by decide) ?_
          exact W.iret (v := 4) hx hb hr (fun t ht hW => ⟨⟨_, (), rfl, trivial, by rw [ht]; exact hP, hD⟩, hS.F ht⟩) hS.2.2 d_N_size_132
        · by_cases h5 : (tp_lay.getD zo0 0) = 4
          · refine lv_tableIn (off := 124) (tgt := 131) hx hb d_N_size_7 (by rw [h5]; decide) (by rw [h5]; decide) (by rw [h5]; decide) (by decide) ?_
            refine lv_iconst (v := 4) hx hb d_N_size_131 (by decide) ?_
            exact W.iret (v := 4) hx hb hr (fun t ht hW => ⟨⟨_, (), rfl, trivial, by rw [ht]; exact hP, hD⟩, hS.F ht⟩) hS.2.2 d_N_size_132
          · by_cases h6 : (tp_lay.getD zo0 0) = 5
            · refine lv_tableIn (off := 124) (tgt := 131) hx hb d_N_size_7 (by rw [h6]; decide) (by rw [h6]; decide) (by rw [h6]; decide) (by decide) ?_
              refine lv_iconst (v := 4) hx hb d_N_size_131 (by decide) ?_
              exact W.iret (v := 4) hx hb hr (fun t ht hW => ⟨⟨_, (), rfl, trivial, by rw [ht]; exact hP, hD⟩, hS.F ht⟩) hS.2.2 d_N_size_132
            · by_cases h7 : (tp_lay.getD zo0 0) = 6
              · refine lv_tableIn (off := 79) (tgt := 86) hx hb d_N_size_7 (by rw [h7]; decide) (by rw [h7]; decide) (by rw [h7]; decide) (by decide) ?_
                refine lv_aload_n hx hb d_N_size_86 rfl (lv_at hl 0 rfl) ?_
                refine va_get (D := tp_D E) (ci := 3) (v := .int zf0) (C := qR_N) (T := qF_N) (N := 11) hx hb htg qi_N hown hK.1 hP (q0 + 0) hq0 rfl 8 (by decide) (htg _ kl_N_34) (fun _ h => h) rfl d_N_size_87 ?_
                by_cases h8 : zf0 = 0
                · refine lv_if_eq (tgt := 98) hx hb d_N_size_90 (by decide) (fun _ => ?_) (fun h => absurd h8 h)
                  refine lv_iconst (v := 4) hx hb d_N_size_98 (by decide) ?_
                  exact W.iret (v := 4) hx hb hr (fun t ht hW => ⟨⟨_, (), rfl, trivial, by rw [ht]; exact hP, hD⟩, hS.F ht⟩) hS.2.2 d_N_size_99
                · refine lv_if_eq (tgt := 98) hx hb d_N_size_90 (by decide) (fun h => absurd h h8) (fun _ => ?_)
                  refine lv_bipush (v := 8) hx hb d_N_size_93 (by decide) ?_
                  refine lv_goto (tgt := 99) hx hb d_N_size_95 (by decide) ?_
                  exact W.iret (v := 8) hx hb hr (fun t ht hW => ⟨⟨_, (), rfl, trivial, by rw [ht]; exact hP, hD⟩, hS.F ht⟩) hS.2.2 d_N_size_99
              · by_cases h8 : (tp_lay.getD zo0 0) = 7
                · refine lv_tableIn (off := 124) (tgt := 131) hx hb d_N_size_7 (by rw [h8]; decide) (by rw [h8]; decide) (by rw [h8]; decide) (by decide) ?_
                  refine lv_iconst (v := 4) hx hb d_N_size_131 (by decide) ?_
                  exact W.iret (v := 4) hx hb hr (fun t ht hW => ⟨⟨_, (), rfl, trivial, by rw [ht]; exact hP, hD⟩, hS.F ht⟩) hS.2.2 d_N_size_132
                · by_cases h9 : (tp_lay.getD zo0 0) = 8
                  · refine lv_tableIn (off := 93) (tgt := 100) hx hb d_N_size_7 (by rw [h9]; decide) (by rw [h9]; decide) (by rw [h9]; decide) (by decide) ?_
                    refine lv_aload_n hx hb d_N_size_100 rfl (lv_at hl 0 rfl) ?_
                    refine va_get (D := tp_D E) (ci := 3) (v := .long zn0) (C := qR_N) (T := qF_N) (N := 11) hx hb htg qi_N hown hK.1 hP (q0 + 0) hq0 rfl 5 (by decide) (htg _ kl_N_30) (fun _ h => h) rfl d_N_size_101 ?_
                    refine tp_ci (tp_rS (As := [.long zn0]) (rest := []) ⟨hx, hb, hml, hown, htg⟩ (s_C_fitsImmediate l E fr _ zn0 ) (⟨callB_of 1 htg (tp_good0 kc_C_fitsImmediate) rfl rfl rfl (htg _ ki_C) (htg _ kl_N_38) ⟨by decide, by decide, by decide +kernel⟩ ⟨Nat.le_of_ble_eq_true rfl, Nat.le_of_ble_eq_true rfl⟩, htg _ ks_C_fitsImmediate⟩) hK hP hD hS hA rfl hl.1 rfl (Nat.le_of_ble_eq_true rfl) d_N_size_104 ⟨Nat.le_of_ble_eq_true rfl, Nat.le_of_ble_eq_true rfl⟩) hD hS hA (fun pv75 u H locs hw hP hD hS => ?_)
                    have hP : va_P (tp_D E) tp_cl (fr) H := hP
                    have hD : va_D A (fr) := hD
                    by_cases h10 : pv75 = 0
                    · refine lv_if_ne (tgt := 121) hx hb d_N_size_107 (by decide) (fun h => absurd h10 h) (fun _ => ?_)
                      refine lv_aload_n hx hb d_N_size_110 rfl (lv_at hl 0 rfl) ?_
                      refine va_get (D := tp_D E) (ci := 3) (v := .long zn0) (C := qR_N) (T := qF_N) (N := 11) hx hb htg qi_N hown hK.1 hP (q0 + 0) hq0 rfl 5 (by decide) (htg _ kl_N_30) (fun _ h => h) rfl d_N_size_111 ?_
                      refine lv_l2i (v := zn0.toInt32) hx hb d_N_size_114 rfl ?_
                      refine tp_ci (tp_rS (As := [.int zn0.toInt32]) (rest := []) ⟨hx, hb, hml, hown, htg⟩ (s_C_lowPart l E fr _ zn0.toInt32 ) (⟨callB_of 1 htg (tp_good0 kc_C_lowPart) rfl rfl rfl (htg _ ki_C) (htg _ kl_N_44) ⟨by decide, by decide, by decide +kernel⟩ ⟨Nat.le_of_ble_eq_true rfl, Nat.le_of_ble_eq_true rfl⟩, htg _ ks_C_lowPart⟩) hK hP hD hS hA rfl hl.1 rfl (Nat.le_of_ble_eq_true rfl) d_N_size_115 ⟨Nat.le_of_ble_eq_true rfl, Nat.le_of_ble_eq_true rfl⟩) hD hS hA (fun pv76 u H locs hw hP hD hS => ?_)
                      have hP : va_P (tp_D E) tp_cl (fr) H := hP
                      have hD : va_D A (fr) := hD
                      by_cases h11 : pv76 = 0
                      · refine lv_if_ne (tgt := 125) hx hb d_N_size_118 (by decide) (fun h => absurd h11 h) (fun _ => ?_)
                        refine lv_iconst (v := 4) hx hb d_N_size_121 (by decide) ?_
                        refine lv_goto (tgt := 127) hx hb d_N_size_122 (by decide) ?_
                        exact W.iret (v := 4) hx hb hr (fun t ht hW => ⟨⟨_, (), rfl, trivial, by rw [ht]; exact hP, hD⟩, hS.F ht⟩) hS.2.2 d_N_size_127
                      · refine lv_if_ne (tgt := 125) hx hb d_N_size_118 (by decide) (fun _ => ?_) (fun h => absurd h h11)
                        refine lv_bipush (v := 8) hx hb d_N_size_125 (by decide) ?_
                        exact W.iret (v := 8) hx hb hr (fun t ht hW => ⟨⟨_, (), rfl, trivial, by rw [ht]; exact hP, hD⟩, hS.F ht⟩) hS.2.2 d_N_size_127
                    · refine lv_if_ne (tgt := 121) hx hb d_N_size_107 (by decide) (fun _ => ?_) (fun h => absurd h h10)
                      refine lv_iconst (v := 4) hx hb d_N_size_121 (by decide) ?_
                      refine lv_goto (tgt := 127) hx hb d_N_size_122 (by decide) ?_
                      exact W.iret (v := 4) hx hb hr (fun t ht hW => ⟨⟨_, (), rfl, trivial, by rw [ht]; exact hP, hD⟩, hS.F ht⟩) hS.2.2 d_N_size_127
                  · by_cases h10 : (tp_lay.getD zo0 0) = 9
                    · refine lv_tableIn (off := 121) (tgt := 128) hx hb d_N_size_7 (by rw [h10]; decide) (by rw [h10]; decide) (by rw [h10]; decide) (by decide) ?_
                      refine lv_bipush (v := 8) hx hb d_N_size_128 (by decide) ?_
                      exact W.iret (v := 8) hx hb hr (fun t ht hW => ⟨⟨_, (), rfl, trivial, by rw [ht]; exact hP, hD⟩, hS.F ht⟩) hS.2.2 d_N_size_130
                    · by_cases h11 : (tp_lay.getD zo0 0) = 10
                      · refine lv_tableIn (off := 124) (tgt := 131) hx hb d_N_size_7 (by rw [h11]; decide) (by rw [h11]; decide) (by rw [h11]; decide) (by decide) ?_
                        refine lv_iconst (v := 4) hx hb d_N_size_131 (by decide) ?_
                        exact W.iret (v := 4) hx hb hr (fun t ht hW => ⟨⟨_, (), rfl, trivial, by rw [ht]; exact hP, hD⟩, hS.F ht⟩) hS.2.2 d_N_size_132
                      · by_cases h12 : (tp_lay.getD zo0 0) = 11
                        · refine lv_tableIn (off := 71) (tgt := 78) hx hb d_N_size_7 (by rw [h12]; decide) (by rw [h12]; decide) (by rw [h12]; decide) (by decide) ?_
                          refine lv_iconst (v := 1) hx hb d_N_size_78 (by decide) ?_
                          exact W.iret (v := 1) hx hb hr (fun t ht hW => ⟨⟨_, (), rfl, trivial, by rw [ht]; exact hP, hD⟩, hS.F ht⟩) hS.2.2 d_N_size_79
                        · by_cases h13 : (tp_lay.getD zo0 0) = 12
                          · refine lv_tableIn (off := 73) (tgt := 80) hx hb d_N_size_7 (by rw [h13]; decide) (by rw [h13]; decide) (by rw [h13]; decide) (by decide) ?_
                            refine lv_aload_n hx hb d_N_size_80 rfl (lv_at hl 0 rfl) ?_
                            refine va_get (D := tp_D E) (ci := 3) (v := .long zn0) (C := qR_N) (T := qF_N) (N := 11) hx hb htg qi_N hown hK.1 hP (q0 + 0) hq0 rfl 5 (by decide) (htg _ kl_N_30) (fun _ h => h) rfl d_N_size_81 ?_
                            refine lv_l2i (v := zn0.toInt32) hx hb d_N_size_84 rfl ?_
                            exact W.iret (v := zn0.toInt32) hx hb hr (fun t ht hW => ⟨⟨_, (), rfl, trivial, by rw [ht]; exact hP, hD⟩, hS.F ht⟩) hS.2.2 d_N_size_85
                          · by_cases h14 : (tp_lay.getD zo0 0) = 13
                            · refine lv_tableIn (off := 69) (tgt := 76) hx hb d_N_size_7 (by rw [h14]; decide) (by rw [h14]; decide) (by rw [h14]; decide) (by decide) ?_
                              refine lv_iconst (v := 0) hx hb d_N_size_76 (by decide) ?_
                              exact W.iret (v := 0) hx hb hr (fun t ht hW => ⟨⟨_, (), rfl, trivial, by rw [ht]; exact hP, hD⟩, hS.F ht⟩) hS.2.2 d_N_size_77
                            · refine lv_tableOut (tgt := 131) hx hb d_N_size_7 (by have g10 := tp_neI (v := 0) (n := 0) rfl h1; have g11 := tp_neI (v := 1) (n := 1) rfl h2; have g12 := tp_neI (v := 2) (n := 2) rfl h3; have g13 := tp_neI (v := 3) (n := 3) rfl h4; have g14 := tp_neI (v := 4) (n := 4) rfl h5; have g15 := tp_neI (v := 5) (n := 5) rfl h6; have g16 := tp_neI (v := 6) (n := 6) rfl h7; have g17 := tp_neI (v := 7) (n := 7) rfl h8; have g18 := tp_neI (v := 8) (n := 8) rfl h9; have g19 := tp_neI (v := 9) (n := 9) rfl h10; have g20 := tp_neI (v := 10) (n := 10) rfl h11; have g21 := tp_neI (v := 11) (n := 11) rfl h12; have g22 := tp_neI (v := 12) (n := 12) rfl h13; have g23 := tp_neI (v := 13) (n := 13) rfl h14; omega) (by decide) ?_
                              refine lv_iconst (v := 4) hx hb d_N_size_131 (by decide) ?_
                              exact W.iret (v := 4) hx hb hr (fun t ht hW => ⟨⟨_, (), rfl, trivial, by rw [ht]; exact hP, hD⟩, hS.F ht⟩) hS.2.2 d_N_size_132
set_option maxHeartbeats 4000000 in
set_option maxRecDepth 100000 in
theorem s_N_byteAt (l : Launch) (E : tp_Env) (fr : va_W) (sz : Nat) (a : Nat) (xk : Int32) (hil : sf_isl E fr a) : Met l y_N_byteAt w_N_byteAt ({ frames := 0, cells := 0, slots := 0, locals := 0 }) (va_Pc [.ref a, .int xk] (tp_in E fr sz)) (va_Qi (fun r (_ : Unit) => True) (fun _ t => tp_out E (va_A fr sz) (fr) t) (va_A fr sz)) 0 0 (va_A fr sz) := by
  refine Met.ofW (cc := b_N_byteAt) (maxL := 3) (ret := (some .int)) (by decide) rfl ?_
  intro p e s m args below meth c s₁ B hml hv
  obtain ⟨rfl, hsz, hP, hK, hD0⟩ := hv
  have hx := B.exec
  have hb := B.bytes
  have hr := B.returns
  have htg : ∀ w ∈ tp_G, w.before ([.ref a, .int xk] : List Value).toArray s = true := fun w h => atoms_spec (ws := w_N_byteAt) B.pre w (List.mem_cons_of_mem _ h)
  have hown : s.vm.findClass "TwoPass$Line" = some m.cls := findClass_of_methodNamed B.named
  have hlocks := B.notSynchronized
  subst hsz
  have hD := hD0.self (sz := s.heap.size)
  generalize hAe : va_A fr s.heap.size = A at hD hK ⊢
  have hA : ∀ q : Nat, s.heap.size ≤ q → A q := fun q h => by rw [← hAe]; exact Or.inr h
  have hS : va_S A s.heap s.heap [] := va_S.rf
  have hl := lv_entry ([.ref a, .int xk]) (n := 3) (Nat.le_of_ble_eq_true rfl)
  rw [lg_entry_eq]
  generalize (lg_sl ([.ref a, .int xk]) ++ List.replicate (3 - (lg_sl ([.ref a, .int xk])).length) Slot.unset).toArray = ls at hl ⊢
  have hl : lv_has ls 3 [(0, .ref a), (1, .int xk)] := hl
  obtain ⟨q0, vs0, hq0, zb0, zo0, zd0, zs0, zt0, zn0, zm0, zp0, zf0, zu0, zv0, ⟨ho0, hfa0⟩, rfl⟩ := id hil
  refine lv_iload_n hx hb d_N_byteAt_0 rfl (lv_at hl 1 rfl) ?_
  refine lv_iconst (v := 4) hx hb d_N_byteAt_1 (by decide) ?_
  by_cases h1 : 4 ≤ xk
  · refine lv_icmp_ge (tgt := 12) hx hb d_N_byteAt_2 (by decide) (fun _ => ?_) (fun h => absurd h1 h)
    refine lv_iload_n hx hb d_N_byteAt_12 rfl (lv_at hl 1 rfl) ?_
    refine lv_bipush (v := 8) hx hb d_N_byteAt_13 (by decide) ?_
    by_cases h2 : 8 ≤ xk
    · refine lv_icmp_ge (tgt := 25) hx hb d_N_byteAt_15 (by decide) (fun _ => ?_) (fun h => absurd h2 h)
      refine lv_iconst (v := 0) hx hb d_N_byteAt_25 (by decide) ?_
      refine lv_istore_n (lv' := [(2, .int 0), (0, .ref a), (1, .int xk)]) hx hb d_N_byteAt_26 rfl hl (by decide) rfl (fun ls hl => ?_)
      refine lv_iload_n hx hb d_N_byteAt_27 rfl (lv_at hl 0 rfl) ?_
      refine lv_bipush (v := 8) hx hb d_N_byteAt_28 (by decide) ?_
      refine lv_iload_n hx hb d_N_byteAt_30 rfl (lv_at hl 2 rfl) ?_
      refine lv_iconst (v := 3) hx hb d_N_byteAt_31 (by decide) ?_
      refine lv_iand hx hb d_N_byteAt_32 ?_
      refine lv_imul hx hb d_N_byteAt_33 ?_
      refine lv_iushr (v := ((0 : Int32).toUInt32 >>> (Int32.toUInt32 (8 * (xk &&& 3)) &&& Int32.toUInt32 31)).toInt32) hx hb d_N_byteAt_34 rfl ?_
      refine lv_sipush (v := 255) hx hb d_N_byteAt_35 (by decide) ?_
      refine lv_iand hx hb d_N_byteAt_38 ?_
      exact W.iret (v := (((0 : Int32).toUInt32 >>> (Int32.toUInt32 (8 * (xk &&& 3)) &&& Int32.toUInt32 31)).toInt32 &&& 255)) hx hb hr (fun t ht hW => ⟨⟨_, (), rfl, trivial, by rw [ht]; exact hP, hD⟩, hS.F ht⟩) hS.2.2 d_N_byteAt_39
    · refine lv_icmp_ge (tgt := 25) hx hb d_N_byteAt_15 (by decide) (fun h => absurd h h2) (fun _ => ?_)
      refine lv_aload_n hx hb d_N_byteAt_18 rfl (lv_at hl 0 rfl) ?_
      refine va_get (D := tp_D E) (ci := 3) (v := .int zv0) (C := qR_N) (T := qF_N) (N := 11) hx hb htg qi_N hown hK.1 hP (q0 + 0) hq0 rfl 10 (by decide) (htg _ kl_N_51) (fun _ h => h) rfl d_N_byteAt_19 ?_
      refine lv_goto (tgt := 26) hx hb d_N_byteAt_22 (by decide) ?_
      refine lv_istore_n (lv' := [(2, .int zv0), (0, .ref a), (1, .int xk)]) hx hb d_N_byteAt_26 rfl hl (by decide) rfl (fun ls hl => ?_)
      refine lv_iload_n hx hb d_N_byteAt_27 rfl (lv_at hl 0 rfl) ?_
      refine lv_bipush (v := 8) hx hb d_N_byteAt_28 (by decide) ?_
      refine lv_iload_n hx hb d_N_byteAt_30 rfl (lv_at hl 2 rfl) ?_
      refine lv_iconst (v := 3) hx hb d_N_byteAt_31 (by decide) ?_
      refine lv_iand hx hb d_N_byteAt_32 ?_
      refine lv_imul hx hb d_N_byteAt_33 ?_
      refine lv_iushr (v := (zv0.toUInt32 >>> (Int32.toUInt32 (8 * (xk &&& 3)) &&& Int32.toUInt32 31)).toInt32) hx hb d_N_byteAt_34 rfl ?_
      refine lv_sipush (v := 255) hx hb d_N_byteAt_35 (by decide) ?_
      refine lv_iand hx hb d_N_byteAt_38 ?_
      exact W.iret (v := ((zv0.toUInt32 >>> (Int32.toUInt32 (8 * (xk &&& 3)) &&& Int32.toUInt32 31)).toInt32 &&& 255)) hx hb hr (fun t ht hW => ⟨⟨_, (), rfl, trivial, by rw [ht]; exact hP, hD⟩, hS.F ht⟩) hS.2.2 d_N_byteAt_39
  · refine lv_icmp_ge (tgt := 12) hx hb d_N_byteAt_2 (by decide) (fun h => absurd h h1) (fun _ => ?_)
    refine lv_aload_n hx hb d_N_byteAt_5 rfl (lv_at hl 0 rfl) ?_
    refine va_get (D := tp_D E) (ci := 3) (v := .int zu0) (C := qR_N) (T := qF_N) (N := 11) hx hb htg qi_N hown hK.1 hP (q0 + 0) hq0 rfl 9 (by decide) (htg _ kl_N_48) (fun _ h => h) rfl d_N_byteAt_6 ?_
    refine lv_goto (tgt := 26) hx hb d_N_byteAt_9 (by decide) ?_
    refine lv_istore_n (lv' := [(2, .int zu0), (0, .ref a), (1, .int xk)]) hx hb d_N_byteAt_26 rfl hl (by decide) rfl (fun ls hl => ?_)
    refine lv_iload_n hx hb d_N_byteAt_27 rfl (lv_at hl 0 rfl) ?_
    refine lv_bipush (v := 8) hx hb d_N_byteAt_28 (by decide) ?_
    refine lv_iload_n hx hb d_N_byteAt_30 rfl (lv_at hl 2 rfl) ?_
    refine lv_iconst (v := 3) hx hb d_N_byteAt_31 (by decide) ?_
    refine lv_iand hx hb d_N_byteAt_32 ?_
    refine lv_imul hx hb d_N_byteAt_33 ?_
    refine lv_iushr (v := (zu0.toUInt32 >>> (Int32.toUInt32 (8 * (xk &&& 3)) &&& Int32.toUInt32 31)).toInt32) hx hb d_N_byteAt_34 rfl ?_
    refine lv_sipush (v := 255) hx hb d_N_byteAt_35 (by decide) ?_
    refine lv_iand hx hb d_N_byteAt_38 ?_
    exact W.iret (v := ((zu0.toUInt32 >>> (Int32.toUInt32 (8 * (xk &&& 3)) &&& Int32.toUInt32 31)).toInt32 &&& 255)) hx hb hr (fun t ht hW => ⟨⟨_, (), rfl, trivial, by rw [ht]; exact hP, hD⟩, hS.F ht⟩) hS.2.2 d_N_byteAt_39
set_option maxHeartbeats 4000000 in
set_option maxRecDepth 100000 in
theorem s_O_putsInstruction (l : Launch) (E : tp_Env) (fr : va_W) (sz : Nat) (i : Nat) (hi : i < 47)  : Met l y_O_putsInstruction w_O_putsInstruction ({ frames := 0, cells := 0, slots := 0, locals := 0 }) (va_Pc [.ref (tp_ad E i)] (tp_in E fr sz)) (va_Qi (fun r (_ : Unit) => True) (fun _ t => tp_out E (va_A fr sz) (fr) t) (va_A fr sz)) 0 0 (va_A fr sz) := by
  refine Met.ofW (cc := b_O_putsInstruction) (maxL := 1) (ret := (some .boolean)) (by decide) rfl ?_
  intro p e s m args below meth c s₁ B hml hv
  obtain ⟨rfl, hsz, hP, hK, hD0⟩ := hv
  have hx := B.exec
  have hb := B.bytes
  have hr := B.returns
  have htg : ∀ w ∈ tp_G, w.before ([.ref (tp_ad E i)] : List Value).toArray s = true := fun w h => atoms_spec (ws := w_O_putsInstruction) B.pre w (List.mem_cons_of_mem _ h)
  have hown : s.vm.findClass "TwoPass$Operation" = some m.cls := findClass_of_methodNamed B.named
  have hlocks := B.notSynchronized
  subst hsz
  have hD := hD0.self (sz := s.heap.size)
  generalize hAe : va_A fr s.heap.size = A at hD hK ⊢
  have hA : ∀ q : Nat, s.heap.size ≤ q → A q := fun q h => by rw [← hAe]; exact Or.inr h
  have hS : va_S A s.heap s.heap [] := va_S.rf
  have hl := lv_entry ([.ref (tp_ad E i)]) (n := 1) (Nat.le_of_ble_eq_true rfl)
  rw [lg_entry_eq]
  generalize (lg_sl ([.ref (tp_ad E i)]) ++ List.replicate (1 - (lg_sl ([.ref (tp_ad E i)])).length) Slot.unset).toArray = ls at hl ⊢
  have hl : lv_has ls 1 [(0, .ref (tp_ad E i))] := hl
  refine lv_aload_n hx hb d_O_putsInstruction_0 rfl (lv_at hl 0 rfl) ?_
  refine vk_getf (v := .int (tp_lay.getD i 0)) hx hb (hK.lay (i := i) hi) hS hown (htg _ kl_O_173) (fun _ h => h) d_O_putsInstruction_1 ?_
  refine lv_iconst (v := 1) hx hb d_O_putsInstruction_4 (by decide) ?_
  by_cases h1 : (tp_lay.getD i 0) < 1
  · refine lv_icmp_lt (tgt := 21) hx hb d_O_putsInstruction_5 (by decide) (fun _ => ?_) (fun h => absurd h1 h)
    refine lv_iconst (v := 0) hx hb d_O_putsInstruction_21 (by decide) ?_
    exact W.zret (v := 0) hx hb hr rfl (fun t ht hW => ⟨⟨_, (), rfl, trivial, by rw [ht]; exact hP, hD⟩, hS.F ht⟩) hS.2.2 d_O_putsInstruction_22
  · refine lv_icmp_lt (tgt := 21) hx hb d_O_putsInstruction_5 (by decide) (fun h => absurd h h1) (fun _ => ?_)
    refine lv_aload_n hx hb d_O_putsInstruction_8 rfl (lv_at hl 0 rfl) ?_
    refine vk_getf (v := .int (tp_lay.getD i 0)) hx hb (hK.lay (i := i) hi) hS hown (htg _ kl_O_173) (fun _ h => h) d_O_putsInstruction_9 ?_
    refine lv_bipush (v := 9) hx hb d_O_putsInstruction_12 (by decide) ?_
    by_cases h2 : 9 < (tp_lay.getD i 0)
    · refine lv_icmp_gt (tgt := 21) hx hb d_O_putsInstruction_14 (by decide) (fun _ => ?_) (fun h => absurd h2 h)
      refine lv_iconst (v := 0) hx hb d_O_putsInstruction_21 (by decide) ?_
      exact W.zret (v := 0) hx hb hr rfl (fun t ht hW => ⟨⟨_, (), rfl, trivial, by rw [ht]; exact hP, hD⟩, hS.F ht⟩) hS.2.2 d_O_putsInstruction_22
    · refine lv_icmp_gt (tgt := 21) hx hb d_O_putsInstruction_14 (by decide) (fun h => absurd h h2) (fun _ => ?_)
      refine lv_iconst (v := 1) hx hb d_O_putsInstruction_17 (by decide) ?_
      refine lv_goto (tgt := 22) hx hb d_O_putsInstruction_18 (by decide) ?_
      exact W.zret (v := 1) hx hb hr rfl (fun t ht hW => ⟨⟨_, (), rfl, trivial, by rw [ht]; exact hP, hD⟩, hS.F ht⟩) hS.2.2 d_O_putsInstruction_22
set_option maxHeartbeats 4000000 in
set_option maxRecDepth 100000 in
theorem s_O_hasWay (l : Launch) (E : tp_Env) (fr : va_W) (sz : Nat) (i : Nat) (hi : i < 47)  : Met l y_O_hasWay w_O_hasWay ({ frames := 0, cells := 0, slots := 0, locals := 0 }) (va_Pc [.ref (tp_ad E i)] (tp_in E fr sz)) (va_Qi (fun r (_ : Unit) => True) (fun _ t => tp_out E (va_A fr sz) (fr) t) (va_A fr sz)) 0 0 (va_A fr sz) := by
  refine Met.ofW (cc := b_O_hasWay) (maxL := 1) (ret := (some .boolean)) (by decide) rfl ?_
  intro p e s m args below meth c s₁ B hml hv
  obtain ⟨rfl, hsz, hP, hK, hD0⟩ := hv
  have hx := B.exec
  have hb := B.bytes
  have hr := B.returns
  have htg : ∀ w ∈ tp_G, w.before ([.ref (tp_ad E i)] : List Value).toArray s = true := fun w h => atoms_spec (ws := w_O_hasWay) B.pre w (List.mem_cons_of_mem _ h)
  have hown : s.vm.findClass "TwoPass$Operation" = some m.cls := findClass_of_methodNamed B.named
  have hlocks := B.notSynchronized
  subst hsz
  have hD := hD0.self (sz := s.heap.size)
  generalize hAe : va_A fr s.heap.size = A at hD hK ⊢
  have hA : ∀ q : Nat, s.heap.size ≤ q → A q := fun q h => by rw [← hAe]; exact Or.inr h
  have hS : va_S A s.heap s.heap [] := va_S.rf
  have hl := lv_entry ([.ref (tp_ad E i)]) (n := 1) (Nat.le_of_ble_eq_true rfl)
  rw [lg_entry_eq]
  generalize (lg_sl ([.ref (tp_ad E i)]) ++ List.replicate (1 - (lg_sl ([.ref (tp_ad E i)])).length) Slot.unset).toArray = ls at hl ⊢
  have hl : lv_has ls 1 [(0, .ref (tp_ad E i))] := hl
  refine lv_aload_n hx hb d_O_hasWay_0 rfl (lv_at hl 0 rfl) ?_
  refine vk_getf (v := .int (tp_lay.getD i 0)) hx hb (hK.lay (i := i) hi) hS hown (htg _ kl_O_173) (fun _ h => h) d_O_hasWay_1 ?_
  refine lv_bipush (v := 6) hx hb d_O_hasWay_4 (by decide) ?_
  by_cases h1 : (tp_lay.getD i 0) = 6
  · refine lv_icmp_eq (tgt := 18) hx hb d_O_hasWay_6 (by decide) (fun _ => ?_) (fun h => absurd h1 h)
    refine lv_iconst (v := 1) hx hb d_O_hasWay_18 (by decide) ?_
    refine lv_goto (tgt := 23) hx hb d_O_hasWay_19 (by decide) ?_
    exact W.zret (v := 1) hx hb hr rfl (fun t ht hW => ⟨⟨_, (), rfl, trivial, by rw [ht]; exact hP, hD⟩, hS.F ht⟩) hS.2.2 d_O_hasWay_23
  · refine lv_icmp_eq (tgt := 18) hx hb d_O_hasWay_6 (by decide) (fun h => absurd h h1) (fun _ => ?_)
    refine lv_aload_n hx hb d_O_hasWay_9 rfl (lv_at hl 0 rfl) ?_
    refine vk_getf (v := .int (tp_lay.getD i 0)) hx hb (hK.lay (i := i) hi) hS hown (htg _ kl_O_173) (fun _ h => h) d_O_hasWay_10 ?_
    refine lv_bipush (v := 7) hx hb d_O_hasWay_13 (by decide) ?_
    by_cases h2 : (tp_lay.getD i 0) = 7
    · refine lv_icmp_ne (tgt := 22) hx hb d_O_hasWay_15 (by decide) (fun h => absurd h2 h) (fun _ => ?_)
      refine lv_iconst (v := 1) hx hb d_O_hasWay_18 (by decide) ?_
      refine lv_goto (tgt := 23) hx hb d_O_hasWay_19 (by decide) ?_
      exact W.zret (v := 1) hx hb hr rfl (fun t ht hW => ⟨⟨_, (), rfl, trivial, by rw [ht]; exact hP, hD⟩, hS.F ht⟩) hS.2.2 d_O_hasWay_23
    · refine lv_icmp_ne (tgt := 22) hx hb d_O_hasWay_15 (by decide) (fun _ => ?_) (fun h => absurd h h2)
      refine lv_iconst (v := 0) hx hb d_O_hasWay_22 (by decide) ?_
      exact W.zret (v := 0) hx hb hr rfl (fun t ht hW => ⟨⟨_, (), rfl, trivial, by rw [ht]; exact hP, hD⟩, hS.F ht⟩) hS.2.2 d_O_hasWay_23
set_option maxHeartbeats 4000000 in
set_option maxRecDepth 100000 in
theorem s_N_encodeConstant (l : Launch) (E : tp_Env) (fr : va_W) (sz : Nat) (a : Nat) (xk : Int32) (hil : sf_isl E fr a) : Met l y_N_encodeConstant w_N_encodeConstant ({ frames := 3, cells := 0, slots := 0, locals := 67 }) (va_Pc [.ref a, .int xk] (tp_in E fr sz)) (va_Qv (fun (u : va_W) => sf_ch E fr u) (fun u t => tp_out E (va_A fr sz) u t) (va_A fr sz)) 0 0 (va_A fr sz) := by
  refine Met.ofW (cc := b_N_encodeConstant) (maxL := 2) (ret := none) (by decide) rfl ?_
  intro p e s m args below meth c s₁ B hml hv
  obtain ⟨rfl, hsz, hP, hK, hD0⟩ := hv
  have hx := B.exec
  have hb := B.bytes
  have hr := B.returns
  have htg : ∀ w ∈ tp_G, w.before ([.ref a, .int xk] : List Value).toArray s = true := fun w h => atoms_spec (ws := w_N_encodeConstant) B.pre w (List.mem_cons_of_mem _ h)
  have hown : s.vm.findClass "TwoPass$Line" = some m.cls := findClass_of_methodNamed B.named
  have hlocks := B.notSynchronized
  subst hsz
  have hD := hD0.self (sz := s.heap.size)
  generalize hAe : va_A fr s.heap.size = A at hD hK ⊢
  have hA : ∀ q : Nat, s.heap.size ≤ q → A q := fun q h => by rw [← hAe]; exact Or.inr h
  have hS : va_S A s.heap s.heap [] := va_S.rf
  have hl := lv_entry ([.ref a, .int xk]) (n := 2) (Nat.le_of_ble_eq_true rfl)
  rw [lg_entry_eq]
  generalize (lg_sl ([.ref a, .int xk]) ++ List.replicate (2 - (lg_sl ([.ref a, .int xk])).length) Slot.unset).toArray = ls at hl ⊢
  have hl : lv_has ls 2 [(0, .ref a), (1, .int xk)] := hl
  obtain ⟨q0, vs0, hq0, zb0, zo0, zd0, zs0, zt0, zn0, zm0, zp0, zf0, zu0, zv0, ⟨ho0, hfa0⟩, rfl⟩ := id hil
  refine lv_iload_n hx hb d_N_encodeConstant_0 rfl (lv_at hl 1 rfl) ?_
  refine lv_i2l (v := xk.toInt64) hx hb d_N_encodeConstant_1 rfl ?_
  refine tp_ci (tp_rS (As := [.long xk.toInt64]) (rest := []) ⟨hx, hb, hml, hown, htg⟩ (s_C_fitsImmediate l E fr _ xk.toInt64 ) (⟨callB_of 1 htg (tp_good0 kc_C_fitsImmediate) rfl rfl rfl (htg _ ki_C) (htg _ kl_N_38) ⟨by decide, by decide, by decide +kernel⟩ ⟨Nat.le_of_ble_eq_true rfl, Nat.le_of_ble_eq_true rfl⟩, htg _ ks_C_fitsImmediate⟩) hK hP hD hS hA rfl hl.1 rfl (Nat.le_of_ble_eq_true rfl) d_N_encodeConstant_2 ⟨Nat.le_of_ble_eq_true rfl, Nat.le_of_ble_eq_true rfl⟩) hD hS hA (fun pv77 u H locs hw hP hD hS => ?_)
  have hP : va_P (tp_D E) tp_cl (fr) H := hP
  have hD : va_D A (fr) := hD
  by_cases h1 : pv77 = 0
  · refine lv_if_eq (tgt := 28) hx hb d_N_encodeConstant_5 (by decide) (fun _ => ?_) (fun h => absurd h1 h)
    refine lv_aload_n hx hb d_N_encodeConstant_28 rfl (lv_at hl 0 rfl) ?_
    refine va_gets (v := .ref (tp_ad E 20)) hx hb (hK.opZ (i := 20) (by decide)) hS hown (htg _ kl_N_70) (fun _ h => h) d_N_encodeConstant_29 ?_
    refine lv_aload_n hx hb d_N_encodeConstant_32 rfl (lv_at hl 0 rfl) ?_
    refine va_get (D := tp_D E) (ci := 3) (v := .int zd0) (C := qR_N) (T := qF_N) (N := 11) hx hb htg qi_N hown hK.1 hP (q0 + 0) hq0 rfl 2 (by decide) (htg _ kl_N_54) (fun _ h => h) rfl d_N_encodeConstant_33 ?_
    refine lv_iconst (v := 0) hx hb d_N_encodeConstant_36 (by decide) ?_
    refine lv_iconst (v := 0) hx hb d_N_encodeConstant_37 (by decide) ?_
    refine lv_iload_n hx hb d_N_encodeConstant_38 rfl (lv_at hl 1 rfl) ?_
    refine tp_ci (tp_rS (As := [.int xk]) (rest := [.int 0, .int 0, .int zd0, .ref (tp_ad E 20), .ref a]) ⟨hx, hb, hml, hown, htg⟩ (s_C_highPart l E fr _ xk ) (⟨callB_of 1 htg (tp_good0 kc_C_highPart) rfl rfl rfl (htg _ ki_C) (htg _ kl_N_73) ⟨by decide, by decide, by decide +kernel⟩ ⟨Nat.le_of_ble_eq_true rfl, Nat.le_of_ble_eq_true rfl⟩, htg _ ks_C_highPart⟩) hK hP hD hS hA rfl hl.1 rfl (Nat.le_of_ble_eq_true rfl) d_N_encodeConstant_39 ⟨Nat.le_of_ble_eq_true rfl, Nat.le_of_ble_eq_true rfl⟩) hD hS hA (fun pv78 u H locs hw hP hD hS => ?_)
    have hP : va_P (tp_D E) tp_cl (fr) H := hP
    have hD : va_D A (fr) := hD
    refine tp_ci (tp_rS (As := [.ref (tp_ad E 20), .int zd0, .int 0, .int 0, .int pv78]) (rest := [.ref a]) ⟨hx, hb, hml, hown, htg⟩ (s_C_instruction l E fr _ 20 (by decide) zd0 0 0 pv78 ) (⟨callB_of 5 htg (tp_good0 kc_C_instruction) rfl rfl rfl (htg _ ki_C) (htg _ kl_N_63) ⟨by decide, by decide, by decide +kernel⟩ ⟨Nat.le_of_ble_eq_true rfl, Nat.le_of_ble_eq_true rfl⟩, htg _ ks_C_instruction⟩) hK hP hD hS hA rfl hl.1 rfl (Nat.le_of_ble_eq_true rfl) d_N_encodeConstant_42 ⟨Nat.le_of_ble_eq_true rfl, Nat.le_of_ble_eq_true rfl⟩) hD hS hA (fun pv79 u H locs hw hP hD hS => ?_)
    have hP : va_P (tp_D E) tp_cl (fr) H := hP
    have hD : va_D A (fr) := hD
    refine va_put (D := tp_D E) (ci := 3) (v := .int pv79) (ty := .int) (C := qR_N) (T := qF_N) (N := 11) hx hb htg qi_N qt_N qt_N_ok qn_N hown hK.1 hP hD hS (q0 + 0) hq0 rfl 9 (by decide) (htg _ kl_N_48) (fun _ h => h) rfl (by decide +kernel) rfl rfl (Nat.le_of_ble_eq_true rfl) d_N_encodeConstant_45 (fun H locs hP hD hS => ?_)
    have hP : va_P (tp_D E) tp_cl (fr.set q0 (a, .inr (3, [.int zb0, .ref (tp_ad E zo0), .int zd0, .int zs0, .int zt0, .long zn0, .int zm0, .int zp0, .int zf0, .int pv79, .int zv0]))) H := hP
    have hD : va_D A (fr.set q0 (a, .inr (3, [.int zb0, .ref (tp_ad E zo0), .int zd0, .int zs0, .int zt0, .long zn0, .int zm0, .int zp0, .int zf0, .int pv79, .int zv0]))) := hD
    obtain ⟨fr80, hfr80⟩ : ∃ x : va_W, x = fr.set q0 (a, .inr (3, [.int zb0, .ref (tp_ad E zo0), .int zd0, .int zs0, .int zt0, .long zn0, .int zm0, .int zp0, .int zf0, .int pv79, .int zv0])) := ⟨_, rfl⟩
    rw [← hfr80] at hP hD
    have hq80 : fr80[q0]? = some (a, .inr (3, [.int zb0, .ref (tp_ad E zo0), .int zd0, .int zs0, .int zt0, .long zn0, .int zm0, .int zp0, .int zf0, .int pv79, .int zv0])) := by rw [hfr80]; exact sf_setq hq0
    have hc80 : sf_ch E fr fr80 := by rw [hfr80]; exact sf_ch.put hq0 ⟨_, _, _, _, _, _, _, _, _, _, _, ⟨ho0, hfa0⟩, rfl⟩ ⟨_, _, _, _, _, _, _, _, _, _, _, ⟨ho0, hfa0⟩, rfl⟩
    refine lv_aload_n hx hb d_N_encodeConstant_48 rfl (lv_at hl 0 rfl) ?_
    refine va_gets (v := .ref (tp_ad E 16)) hx hb (hK.opZ (i := 16) (by decide)) hS hown (htg _ kl_N_83) (fun _ h => h) d_N_encodeConstant_49 ?_
    refine lv_aload_n hx hb d_N_encodeConstant_52 rfl (lv_at hl 0 rfl) ?_
    refine va_get (D := tp_D E) (ci := 3) (v := .int zd0) (C := qR_N) (T := qF_N) (N := 11) hx hb htg qi_N hown hK.1 hP (q0 + 0) hq80 rfl 2 (by decide) (htg _ kl_N_54) (fun _ h => h) rfl d_N_encodeConstant_53 ?_
    refine lv_aload_n hx hb d_N_encodeConstant_56 rfl (lv_at hl 0 rfl) ?_
    refine va_get (D := tp_D E) (ci := 3) (v := .int zd0) (C := qR_N) (T := qF_N) (N := 11) hx hb htg qi_N hown hK.1 hP (q0 + 0) hq80 rfl 2 (by decide) (htg _ kl_N_54) (fun _ h => h) rfl d_N_encodeConstant_57 ?_
    refine lv_iconst (v := 0) hx hb d_N_encodeConstant_60 (by decide) ?_
    refine lv_iload_n hx hb d_N_encodeConstant_61 rfl (lv_at hl 1 rfl) ?_
    refine tp_ci (tp_rS (As := [.int xk]) (rest := [.int 0, .int zd0, .int zd0, .ref (tp_ad E 16), .ref a]) ⟨hx, hb, hml, hown, htg⟩ (s_C_lowPart l E fr80 _ xk ) (⟨callB_of 1 htg (tp_good0 kc_C_lowPart) rfl rfl rfl (htg _ ki_C) (htg _ kl_N_44) ⟨by decide, by decide, by decide +kernel⟩ ⟨Nat.le_of_ble_eq_true rfl, Nat.le_of_ble_eq_true rfl⟩, htg _ ks_C_lowPart⟩) hK hP hD hS hA rfl hl.1 rfl (Nat.le_of_ble_eq_true rfl) d_N_encodeConstant_62 ⟨Nat.le_of_ble_eq_true rfl, Nat.le_of_ble_eq_true rfl⟩) hD hS hA (fun pv81 u H locs hw hP hD hS => ?_)
    have hP : va_P (tp_D E) tp_cl (fr80) H := hP
    have hD : va_D A (fr80) := hD
    refine tp_ci (tp_rS (As := [.ref (tp_ad E 16), .int zd0, .int zd0, .int 0, .int pv81]) (rest := [.ref a]) ⟨hx, hb, hml, hown, htg⟩ (s_C_instruction l E fr80 _ 16 (by decide) zd0 zd0 0 pv81 ) (⟨callB_of 5 htg (tp_good0 kc_C_instruction) rfl rfl rfl (htg _ ki_C) (htg _ kl_N_63) ⟨by decide, by decide, by decide +kernel⟩ ⟨Nat.le_of_ble_eq_true rfl, Nat.le_of_ble_eq_true rfl⟩, htg _ ks_C_instruction⟩) hK hP hD hS hA rfl hl.1 rfl (Nat.le_of_ble_eq_true rfl) d_N_encodeConstant_65 ⟨Nat.le_of_ble_eq_true rfl, Nat.le_of_ble_eq_true rfl⟩) hD hS hA (fun pv82 u H locs hw hP hD hS => ?_)
    have hP : va_P (tp_D E) tp_cl (fr80) H := hP
    have hD : va_D A (fr80) := hD
    refine va_put (D := tp_D E) (ci := 3) (v := .int pv82) (ty := .int) (C := qR_N) (T := qF_N) (N := 11) hx hb htg qi_N qt_N qt_N_ok qn_N hown hK.1 hP hD hS (q0 + 0) hq80 rfl 10 (by decide) (htg _ kl_N_51) (fun _ h => h) rfl (by decide +kernel) rfl rfl (Nat.le_of_ble_eq_true rfl) d_N_encodeConstant_68 (fun H locs hP hD hS => ?_)
    have hP : va_P (tp_D E) tp_cl (fr80.set q0 (a, .inr (3, [.int zb0, .ref (tp_ad E zo0), .int zd0, .int zs0, .int zt0, .long zn0, .int zm0, .int zp0, .int zf0, .int pv79, .int pv82]))) H := hP
    have hD : va_D A (fr80.set q0 (a, .inr (3, [.int zb0, .ref (tp_ad E zo0), .int zd0, .int zs0, .int zt0, .long zn0, .int zm0, .int zp0, .int zf0, .int pv79, .int pv82]))) := hD
    obtain ⟨fr83, hfr83⟩ : ∃ x : va_W, x = fr80.set q0 (a, .inr (3, [.int zb0, .ref (tp_ad E zo0), .int zd0, .int zs0, .int zt0, .long zn0, .int zm0, .int zp0, .int zf0, .int pv79, .int pv82])) := ⟨_, rfl⟩
    rw [← hfr83] at hP hD
    have hq83 : fr83[q0]? = some (a, .inr (3, [.int zb0, .ref (tp_ad E zo0), .int zd0, .int zs0, .int zt0, .long zn0, .int zm0, .int zp0, .int zf0, .int pv79, .int pv82])) := by rw [hfr83]; exact sf_setq hq80
    have hc83 : sf_ch E fr80 fr83 := by rw [hfr83]; exact sf_ch.put hq80 ⟨_, _, _, _, _, _, _, _, _, _, _, ⟨ho0, hfa0⟩, rfl⟩ ⟨_, _, _, _, _, _, _, _, _, _, _, ⟨ho0, hfa0⟩, rfl⟩
    exact W.vret hx hb hr (fun t ht hW => ⟨⟨fr83, rfl, (hc80.trans hc83), by rw [ht]; exact hP, hD⟩, hS.F ht⟩) hS.2.2 d_N_encodeConstant_71
  · refine lv_if_eq (tgt := 28) hx hb d_N_encodeConstant_5 (by decide) (fun h => absurd h h1) (fun _ => ?_)
    refine lv_aload_n hx hb d_N_encodeConstant_8 rfl (lv_at hl 0 rfl) ?_
    refine va_gets (v := .ref (tp_ad E 11)) hx hb (hK.opZ (i := 11) (by decide)) hS hown (htg _ kl_N_76) (fun _ h => h) d_N_encodeConstant_9 ?_
    refine lv_aload_n hx hb d_N_encodeConstant_12 rfl (lv_at hl 0 rfl) ?_
    refine va_get (D := tp_D E) (ci := 3) (v := .int zd0) (C := qR_N) (T := qF_N) (N := 11) hx hb htg qi_N hown hK.1 hP (q0 + 0) hq0 rfl 2 (by decide) (htg _ kl_N_54) (fun _ h => h) rfl d_N_encodeConstant_13 ?_
    refine lv_iconst (v := 0) hx hb d_N_encodeConstant_16 (by decide) ?_
    refine lv_iconst (v := 0) hx hb d_N_encodeConstant_17 (by decide) ?_
    refine lv_iload_n hx hb d_N_encodeConstant_18 rfl (lv_at hl 1 rfl) ?_
    refine tp_ci (tp_rS (As := [.ref (tp_ad E 11), .int zd0, .int 0, .int 0, .int xk]) (rest := [.ref a]) ⟨hx, hb, hml, hown, htg⟩ (s_C_instruction l E fr _ 11 (by decide) zd0 0 0 xk ) (⟨callB_of 5 htg (tp_good0 kc_C_instruction) rfl rfl rfl (htg _ ki_C) (htg _ kl_N_63) ⟨by decide, by decide, by decide +kernel⟩ ⟨Nat.le_of_ble_eq_true rfl, Nat.le_of_ble_eq_true rfl⟩, htg _ ks_C_instruction⟩) hK hP hD hS hA rfl hl.1 rfl (Nat.le_of_ble_eq_true rfl) d_N_encodeConstant_19 ⟨Nat.le_of_ble_eq_true rfl, Nat.le_of_ble_eq_true rfl⟩) hD hS hA (fun pv84 u H locs hw hP hD hS => ?_)
    have hP : va_P (tp_D E) tp_cl (fr) H := hP
    have hD : va_D A (fr) := hD
    refine va_put (D := tp_D E) (ci := 3) (v := .int pv84) (ty := .int) (C := qR_N) (T := qF_N) (N := 11) hx hb htg qi_N qt_N qt_N_ok qn_N hown hK.1 hP hD hS (q0 + 0) hq0 rfl 9 (by decide) (htg _ kl_N_48) (fun _ h => h) rfl (by decide +kernel) rfl rfl (Nat.le_of_ble_eq_true rfl) d_N_encodeConstant_22 (fun H locs hP hD hS => ?_)
    have hP : va_P (tp_D E) tp_cl (fr.set q0 (a, .inr (3, [.int zb0, .ref (tp_ad E zo0), .int zd0, .int zs0, .int zt0, .long zn0, .int zm0, .int zp0, .int zf0, .int pv84, .int zv0]))) H := hP
    have hD : va_D A (fr.set q0 (a, .inr (3, [.int zb0, .ref (tp_ad E zo0), .int zd0, .int zs0, .int zt0, .long zn0, .int zm0, .int zp0, .int zf0, .int pv84, .int zv0]))) := hD
    obtain ⟨fr85, hfr85⟩ : ∃ x : va_W, x = fr.set q0 (a, .inr (3, [.int zb0, .ref (tp_ad E zo0), .int zd0, .int zs0, .int zt0, .long zn0, .int zm0, .int zp0, .int zf0, .int pv84, .int zv0])) := ⟨_, rfl⟩
    rw [← hfr85] at hP hD
    have hq85 : fr85[q0]? = some (a, .inr (3, [.int zb0, .ref (tp_ad E zo0), .int zd0, .int zs0, .int zt0, .long zn0, .int zm0, .int zp0, .int zf0, .int pv84, .int zv0])) := by rw [hfr85]; exact sf_setq hq0
    have hc85 : sf_ch E fr fr85 := by rw [hfr85]; exact sf_ch.put hq0 ⟨_, _, _, _, _, _, _, _, _, _, _, ⟨ho0, hfa0⟩, rfl⟩ ⟨_, _, _, _, _, _, _, _, _, _, _, ⟨ho0, hfa0⟩, rfl⟩
    refine lv_goto (tgt := 71) hx hb d_N_encodeConstant_25 (by decide) ?_
    exact W.vret hx hb hr (fun t ht hW => ⟨⟨fr85, rfl, hc85, by rw [ht]; exact hP, hD⟩, hS.F ht⟩) hS.2.2 d_N_encodeConstant_71
set_option maxHeartbeats 4000000 in
set_option maxRecDepth 100000 in
theorem s_N_encodeWay (l : Launch) (E : tp_Env) (fr : va_W) (sz : Nat) (a : Nat) (xk : Int32) (hil : sf_isl E fr a) : Met l y_N_encodeWay w_N_encodeWay ({ frames := 3, cells := 0, slots := 0, locals := 67 }) (va_Pc [.ref a, .int xk] (tp_in E fr sz)) (va_Qv (fun (u : va_W) => sf_ch E fr u) (fun u t => tp_out E (va_A fr sz) u t) (va_A fr sz)) 0 0 (va_A fr sz) := by
  refine Met.ofW (cc := b_N_encodeWay) (maxL := 2) (ret := none) (by decide) rfl ?_
  intro p e s m args below meth c s₁ B hml hv
  obtain ⟨rfl, hsz, hP, hK, hD0⟩ := hv
  have hx := B.exec
  have hb := B.bytes
  have hr := B.returns
  have htg : ∀ w ∈ tp_G, w.before ([.ref a, .int xk] : List Value).toArray s = true := fun w h => atoms_spec (ws := w_N_encodeWay) B.pre w (List.mem_cons_of_mem _ h)
  have hown : s.vm.findClass "TwoPass$Line" = some m.cls := findClass_of_methodNamed B.named
  have hlocks := B.notSynchronized
  subst hsz
  have hD := hD0.self (sz := s.heap.size)
  generalize hAe : va_A fr s.heap.size = A at hD hK ⊢
  have hA : ∀ q : Nat, s.heap.size ≤ q → A q := fun q h => by rw [← hAe]; exact Or.inr h
  have hS : va_S A s.heap s.heap [] := va_S.rf
  have hl := lv_entry ([.ref a, .int xk]) (n := 2) (Nat.le_of_ble_eq_true rfl)
  rw [lg_entry_eq]
  generalize (lg_sl ([.ref a, .int xk]) ++ List.replicate (2 - (lg_sl ([.ref a, .int xk])).length) Slot.unset).toArray = ls at hl ⊢
  have hl : lv_has ls 2 [(0, .ref a), (1, .int xk)] := hl
  obtain ⟨q0, vs0, hq0, zb0, zo0, zd0, zs0, zt0, zn0, zm0, zp0, zf0, zu0, zv0, ⟨ho0, hfa0⟩, rfl⟩ := id hil
  refine lv_aload_n hx hb d_N_encodeWay_0 rfl (lv_at hl 0 rfl) ?_
  refine va_get (D := tp_D E) (ci := 3) (v := .int zf0) (C := qR_N) (T := qF_N) (N := 11) hx hb htg qi_N hown hK.1 hP (q0 + 0) hq0 rfl 8 (by decide) (htg _ kl_N_34) (fun _ h => h) rfl d_N_encodeWay_1 ?_
  by_cases h1 : zf0 = 0
  · refine lv_if_eq (tgt := 55) hx hb d_N_encodeWay_4 (by decide) (fun _ => ?_) (fun h => absurd h1 h)
    refine lv_aload_n hx hb d_N_encodeWay_55 rfl (lv_at hl 0 rfl) ?_
    refine lv_aload_n hx hb d_N_encodeWay_56 rfl (lv_at hl 0 rfl) ?_
    refine va_get (D := tp_D E) (ci := 3) (v := .ref (tp_ad E zo0)) (C := qR_N) (T := qF_N) (N := 11) hx hb htg qi_N hown hK.1 hP (q0 + 0) hq0 rfl 1 (by decide) (htg _ kl_N_21) (fun _ h => h) rfl d_N_encodeWay_57 ?_
    refine lv_aload_n hx hb d_N_encodeWay_60 rfl (lv_at hl 0 rfl) ?_
    refine va_get (D := tp_D E) (ci := 3) (v := .int zd0) (C := qR_N) (T := qF_N) (N := 11) hx hb htg qi_N hown hK.1 hP (q0 + 0) hq0 rfl 2 (by decide) (htg _ kl_N_54) (fun _ h => h) rfl d_N_encodeWay_61 ?_
    refine lv_aload_n hx hb d_N_encodeWay_64 rfl (lv_at hl 0 rfl) ?_
    refine va_get (D := tp_D E) (ci := 3) (v := .int zs0) (C := qR_N) (T := qF_N) (N := 11) hx hb htg qi_N hown hK.1 hP (q0 + 0) hq0 rfl 3 (by decide) (htg _ kl_N_57) (fun _ h => h) rfl d_N_encodeWay_65 ?_
    refine lv_aload_n hx hb d_N_encodeWay_68 rfl (lv_at hl 0 rfl) ?_
    refine va_get (D := tp_D E) (ci := 3) (v := .int zt0) (C := qR_N) (T := qF_N) (N := 11) hx hb htg qi_N hown hK.1 hP (q0 + 0) hq0 rfl 4 (by decide) (htg _ kl_N_60) (fun _ h => h) rfl d_N_encodeWay_69 ?_
    refine lv_iload_n hx hb d_N_encodeWay_72 rfl (lv_at hl 1 rfl) ?_
    refine tp_ci (tp_rS (As := [.ref (tp_ad E zo0), .int zd0, .int zs0, .int zt0, .int xk]) (rest := [.ref a]) ⟨hx, hb, hml, hown, htg⟩ (s_C_instruction l E fr _ zo0 ho0 zd0 zs0 zt0 xk ) (⟨callB_of 5 htg (tp_good0 kc_C_instruction) rfl rfl rfl (htg _ ki_C) (htg _ kl_N_63) ⟨by decide, by decide, by decide +kernel⟩ ⟨Nat.le_of_ble_eq_true rfl, Nat.le_of_ble_eq_true rfl⟩, htg _ ks_C_instruction⟩) hK hP hD hS hA rfl hl.1 rfl (Nat.le_of_ble_eq_true rfl) d_N_encodeWay_73 ⟨Nat.le_of_ble_eq_true rfl, Nat.le_of_ble_eq_true rfl⟩) hD hS hA (fun pv86 u H locs hw hP hD hS => ?_)
    have hP : va_P (tp_D E) tp_cl (fr) H := hP
    have hD : va_D A (fr) := hD
    refine va_put (D := tp_D E) (ci := 3) (v := .int pv86) (ty := .int) (C := qR_N) (T := qF_N) (N := 11) hx hb htg qi_N qt_N qt_N_ok qn_N hown hK.1 hP hD hS (q0 + 0) hq0 rfl 9 (by decide) (htg _ kl_N_48) (fun _ h => h) rfl (by decide +kernel) rfl rfl (Nat.le_of_ble_eq_true rfl) d_N_encodeWay_76 (fun H locs hP hD hS => ?_)
    have hP : va_P (tp_D E) tp_cl (fr.set q0 (a, .inr (3, [.int zb0, .ref (tp_ad E zo0), .int zd0, .int zs0, .int zt0, .long zn0, .int zm0, .int zp0, .int zf0, .int pv86, .int zv0]))) H := hP
    have hD : va_D A (fr.set q0 (a, .inr (3, [.int zb0, .ref (tp_ad E zo0), .int zd0, .int zs0, .int zt0, .long zn0, .int zm0, .int zp0, .int zf0, .int pv86, .int zv0]))) := hD
    obtain ⟨fr87, hfr87⟩ : ∃ x : va_W, x = fr.set q0 (a, .inr (3, [.int zb0, .ref (tp_ad E zo0), .int zd0, .int zs0, .int zt0, .long zn0, .int zm0, .int zp0, .int zf0, .int pv86, .int zv0])) := ⟨_, rfl⟩
    rw [← hfr87] at hP hD
    have hq87 : fr87[q0]? = some (a, .inr (3, [.int zb0, .ref (tp_ad E zo0), .int zd0, .int zs0, .int zt0, .long zn0, .int zm0, .int zp0, .int zf0, .int pv86, .int zv0])) := by rw [hfr87]; exact sf_setq hq0
    have hc87 : sf_ch E fr fr87 := by rw [hfr87]; exact sf_ch.put hq0 ⟨_, _, _, _, _, _, _, _, _, _, _, ⟨ho0, hfa0⟩, rfl⟩ ⟨_, _, _, _, _, _, _, _, _, _, _, ⟨ho0, hfa0⟩, rfl⟩
    exact W.vret hx hb hr (fun t ht hW => ⟨⟨fr87, rfl, hc87, by rw [ht]; exact hP, hD⟩, hS.F ht⟩) hS.2.2 d_N_encodeWay_79
  · refine lv_if_eq (tgt := 55) hx hb d_N_encodeWay_4 (by decide) (fun h => absurd h h1) (fun _ => ?_)
    refine lv_aload_n hx hb d_N_encodeWay_7 rfl (lv_at hl 0 rfl) ?_
    refine lv_aload_n hx hb d_N_encodeWay_8 rfl (lv_at hl 0 rfl) ?_
    refine va_get (D := tp_D E) (ci := 3) (v := .ref (tp_ad E zo0)) (C := qR_N) (T := qF_N) (N := 11) hx hb htg qi_N hown hK.1 hP (q0 + 0) hq0 rfl 1 (by decide) (htg _ kl_N_21) (fun _ h => h) rfl d_N_encodeWay_9 ?_
    refine lv_aload_n hx hb d_N_encodeWay_12 rfl (lv_at hl 0 rfl) ?_
    refine va_get (D := tp_D E) (ci := 3) (v := .int zd0) (C := qR_N) (T := qF_N) (N := 11) hx hb htg qi_N hown hK.1 hP (q0 + 0) hq0 rfl 2 (by decide) (htg _ kl_N_54) (fun _ h => h) rfl d_N_encodeWay_13 ?_
    refine lv_aload_n hx hb d_N_encodeWay_16 rfl (lv_at hl 0 rfl) ?_
    refine va_get (D := tp_D E) (ci := 3) (v := .int zs0) (C := qR_N) (T := qF_N) (N := 11) hx hb htg qi_N hown hK.1 hP (q0 + 0) hq0 rfl 3 (by decide) (htg _ kl_N_57) (fun _ h => h) rfl d_N_encodeWay_17 ?_
    refine lv_aload_n hx hb d_N_encodeWay_20 rfl (lv_at hl 0 rfl) ?_
    refine va_get (D := tp_D E) (ci := 3) (v := .int zt0) (C := qR_N) (T := qF_N) (N := 11) hx hb htg qi_N hown hK.1 hP (q0 + 0) hq0 rfl 4 (by decide) (htg _ kl_N_60) (fun _ h => h) rfl d_N_encodeWay_21 ?_
    refine lv_bipush (v := 8) hx hb d_N_encodeWay_24 (by decide) ?_
    refine tp_ci (tp_rS (As := [.ref (tp_ad E zo0), .int zd0, .int zs0, .int zt0, .int 8]) (rest := [.ref a]) ⟨hx, hb, hml, hown, htg⟩ (s_C_instruction l E fr _ zo0 ho0 zd0 zs0 zt0 8 ) (⟨callB_of 5 htg (tp_good0 kc_C_instruction) rfl rfl rfl (htg _ ki_C) (htg _ kl_N_63) ⟨by decide, by decide, by decide +kernel⟩ ⟨Nat.le_of_ble_eq_true rfl, Nat.le_of_ble_eq_true rfl⟩, htg _ ks_C_instruction⟩) hK hP hD hS hA rfl hl.1 rfl (Nat.le_of_ble_eq_true rfl) d_N_encodeWay_26 ⟨Nat.le_of_ble_eq_true rfl, Nat.le_of_ble_eq_true rfl⟩) hD hS hA (fun pv88 u H locs hw hP hD hS => ?_)
    have hP : va_P (tp_D E) tp_cl (fr) H := hP
    have hD : va_D A (fr) := hD
    refine lv_sipush (v := 4096) hx hb d_N_encodeWay_29 (by decide) ?_
    refine lv_ixor hx hb d_N_encodeWay_32 ?_
    refine va_put (D := tp_D E) (ci := 3) (v := .int (pv88 ^^^ 4096)) (ty := .int) (C := qR_N) (T := qF_N) (N := 11) hx hb htg qi_N qt_N qt_N_ok qn_N hown hK.1 hP hD hS (q0 + 0) hq0 rfl 9 (by decide) (htg _ kl_N_48) (fun _ h => h) rfl (by decide +kernel) rfl rfl (Nat.le_of_ble_eq_true rfl) d_N_encodeWay_33 (fun H locs hP hD hS => ?_)
    have hP : va_P (tp_D E) tp_cl (fr.set q0 (a, .inr (3, [.int zb0, .ref (tp_ad E zo0), .int zd0, .int zs0, .int zt0, .long zn0, .int zm0, .int zp0, .int zf0, .int (pv88 ^^^ 4096), .int zv0]))) H := hP
    have hD : va_D A (fr.set q0 (a, .inr (3, [.int zb0, .ref (tp_ad E zo0), .int zd0, .int zs0, .int zt0, .long zn0, .int zm0, .int zp0, .int zf0, .int (pv88 ^^^ 4096), .int zv0]))) := hD
    obtain ⟨fr89, hfr89⟩ : ∃ x : va_W, x = fr.set q0 (a, .inr (3, [.int zb0, .ref (tp_ad E zo0), .int zd0, .int zs0, .int zt0, .long zn0, .int zm0, .int zp0, .int zf0, .int (pv88 ^^^ 4096), .int zv0])) := ⟨_, rfl⟩
    rw [← hfr89] at hP hD
    have hq89 : fr89[q0]? = some (a, .inr (3, [.int zb0, .ref (tp_ad E zo0), .int zd0, .int zs0, .int zt0, .long zn0, .int zm0, .int zp0, .int zf0, .int (pv88 ^^^ 4096), .int zv0])) := by rw [hfr89]; exact sf_setq hq0
    have hc89 : sf_ch E fr fr89 := by rw [hfr89]; exact sf_ch.put hq0 ⟨_, _, _, _, _, _, _, _, _, _, _, ⟨ho0, hfa0⟩, rfl⟩ ⟨_, _, _, _, _, _, _, _, _, _, _, ⟨ho0, hfa0⟩, rfl⟩
    refine lv_aload_n hx hb d_N_encodeWay_36 rfl (lv_at hl 0 rfl) ?_
    refine va_gets (v := .ref (tp_ad E 32)) hx hb (hK.opZ (i := 32) (by decide)) hS hown (htg _ kl_N_67) (fun _ h => h) d_N_encodeWay_37 ?_
    refine lv_iconst (v := 0) hx hb d_N_encodeWay_40 (by decide) ?_
    refine lv_iconst (v := 0) hx hb d_N_encodeWay_41 (by decide) ?_
    refine lv_iconst (v := 0) hx hb d_N_encodeWay_42 (by decide) ?_
    refine lv_iload_n hx hb d_N_encodeWay_43 rfl (lv_at hl 1 rfl) ?_
    refine lv_iconst (v := 4) hx hb d_N_encodeWay_44 (by decide) ?_
    refine lv_isub hx hb d_N_encodeWay_45 ?_
    refine tp_ci (tp_rS (As := [.ref (tp_ad E 32), .int 0, .int 0, .int 0, .int (xk - 4)]) (rest := [.ref a]) ⟨hx, hb, hml, hown, htg⟩ (s_C_instruction l E fr89 _ 32 (by decide) 0 0 0 (xk - 4) ) (⟨callB_of 5 htg (tp_good0 kc_C_instruction) rfl rfl rfl (htg _ ki_C) (htg _ kl_N_63) ⟨by decide, by decide, by decide +kernel⟩ ⟨Nat.le_of_ble_eq_true rfl, Nat.le_of_ble_eq_true rfl⟩, htg _ ks_C_instruction⟩) hK hP hD hS hA rfl hl.1 rfl (Nat.le_of_ble_eq_true rfl) d_N_encodeWay_46 ⟨Nat.le_of_ble_eq_true rfl, Nat.le_of_ble_eq_true rfl⟩) hD hS hA (fun pv90 u H locs hw hP hD hS => ?_)
    have hP : va_P (tp_D E) tp_cl (fr89) H := hP
    have hD : va_D A (fr89) := hD
    refine va_put (D := tp_D E) (ci := 3) (v := .int pv90) (ty := .int) (C := qR_N) (T := qF_N) (N := 11) hx hb htg qi_N qt_N qt_N_ok qn_N hown hK.1 hP hD hS (q0 + 0) hq89 rfl 10 (by decide) (htg _ kl_N_51) (fun _ h => h) rfl (by decide +kernel) rfl rfl (Nat.le_of_ble_eq_true rfl) d_N_encodeWay_49 (fun H locs hP hD hS => ?_)
    have hP : va_P (tp_D E) tp_cl (fr89.set q0 (a, .inr (3, [.int zb0, .ref (tp_ad E zo0), .int zd0, .int zs0, .int zt0, .long zn0, .int zm0, .int zp0, .int zf0, .int (pv88 ^^^ 4096), .int pv90]))) H := hP
    have hD : va_D A (fr89.set q0 (a, .inr (3, [.int zb0, .ref (tp_ad E zo0), .int zd0, .int zs0, .int zt0, .long zn0, .int zm0, .int zp0, .int zf0, .int (pv88 ^^^ 4096), .int pv90]))) := hD
    obtain ⟨fr91, hfr91⟩ : ∃ x : va_W, x = fr89.set q0 (a, .inr (3, [.int zb0, .ref (tp_ad E zo0), .int zd0, .int zs0, .int zt0, .long zn0, .int zm0, .int zp0, .int zf0, .int (pv88 ^^^ 4096), .int pv90])) := ⟨_, rfl⟩
    rw [← hfr91] at hP hD
    have hq91 : fr91[q0]? = some (a, .inr (3, [.int zb0, .ref (tp_ad E zo0), .int zd0, .int zs0, .int zt0, .long zn0, .int zm0, .int zp0, .int zf0, .int (pv88 ^^^ 4096), .int pv90])) := by rw [hfr91]; exact sf_setq hq89
    have hc91 : sf_ch E fr89 fr91 := by rw [hfr91]; exact sf_ch.put hq89 ⟨_, _, _, _, _, _, _, _, _, _, _, ⟨ho0, hfa0⟩, rfl⟩ ⟨_, _, _, _, _, _, _, _, _, _, _, ⟨ho0, hfa0⟩, rfl⟩
    refine lv_goto (tgt := 79) hx hb d_N_encodeWay_52 (by decide) ?_
    exact W.vret hx hb hr (fun t ht hW => ⟨⟨fr91, rfl, (hc89.trans hc91), by rw [ht]; exact hP, hD⟩, hS.F ht⟩) hS.2.2 d_N_encodeWay_79
