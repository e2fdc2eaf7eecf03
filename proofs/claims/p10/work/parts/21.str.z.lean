set_option maxHeartbeats 4000000 in
set_option maxRecDepth 100000 in
theorem a_ST_coder (l : Launch) (E : tp_Env) (fr : va_W) (sz : Nat) (i : Nat) (hi : i < 97)  : Met l y_ST_coder w_ST_coder ({ frames := 0, cells := 0, slots := 0, locals := 0 }) (va_Pc [.ref (tp_ad E (200 + i))] (tp_in E fr sz)) (va_Qi (fun r (_ : Unit) => r = 0) (fun _ t => tp_out E (va_A fr sz) fr t) (va_A fr sz)) 0 0 (va_A fr sz) := by
  refine Met.ofW (cc := b_ST_coder) (maxL := 1) (ret := (some .byte)) (by decide) rfl ?_
  intro p e s m args below meth c s₁ B hml hv
  obtain ⟨rfl, hsz, hP, hK, hD0⟩ := hv
  have hx := B.exec
  have hb := B.bytes
  have hr := B.returns
  have htg : ∀ w ∈ tp_G, w.before ([.ref (tp_ad E (200 + i))] : List Value).toArray s = true := fun w h => atoms_spec (ws := w_ST_coder) B.pre w (List.mem_cons_of_mem _ h)
  have hown : s.vm.findClass "java/lang/String" = some m.cls := findClass_of_methodNamed B.named
  have hlocks := B.notSynchronized
  subst hsz
  have hD := hD0.self (sz := s.heap.size)
  generalize hAe : va_A fr s.heap.size = A at hD hK ⊢
  have hA : ∀ q : Nat, s.heap.size ≤ q → A q := fun q h => by rw [← hAe]; exact Or.inr h
  have hS : va_S A s.heap s.heap [] := va_S.rf
  have hl := lv_entry ([.ref (tp_ad E (200 + i))]) (n := 1) (Nat.le_of_ble_eq_true rfl)
  rw [lg_entry_eq]
  generalize (lg_sl ([.ref (tp_ad E (200 + i))]) ++ List.replicate (1 - (lg_sl ([.ref (tp_ad E (200 + i))])).length) Slot.unset).toArray = ls at hl ⊢
  have hl : lv_has ls 1 [(0, .ref (tp_ad E (200 + i)))] := hl
  refine va_gets (v := .int 1) hx hb hK.C.1 hS hown (htg _ kl_ST_38) (fun _ h => h) d_ST_coder_0 ?_
  refine lv_if_eq (tgt := 13) hx hb d_ST_coder_3 (by decide) (fun h => absurd h (by decide)) (fun _ => ?_)
  refine lv_aload_n hx hb d_ST_coder_6 rfl (lv_at hl 0 rfl) ?_
  refine vk_getf (v := .int 0) hx hb (hK.strC (i := i) hi) hS hown (htg _ kl_ST_15) (fun _ h => h) d_ST_coder_7 ?_
  refine lv_goto (tgt := 14) hx hb d_ST_coder_10 (by decide) ?_
  exact W.zret (v := 0) hx hb hr rfl (fun t ht hW => ⟨⟨_, (), rfl, rfl, by rw [ht]; exact hP, hD⟩, hS.F ht⟩) hS.2.2 d_ST_coder_14
set_option maxHeartbeats 4000000 in
set_option maxRecDepth 100000 in
theorem a_ST_length (l : Launch) (E : tp_Env) (fr : va_W) (sz : Nat) (i : Nat) (hi : i < 97)  : Met l y_ST_length w_ST_length ({ frames := 1, cells := 0, slots := 0, locals := 20 }) (va_Pc [.ref (tp_ad E (200 + i))] (tp_in E fr sz)) (va_Qi (fun r (_ : Unit) => r = Int32.ofNat (tp_len.getD i 0)) (fun _ t => tp_out E (va_A fr sz) fr t) (va_A fr sz)) 0 0 (va_A fr sz) := by
  refine Met.ofW (cc := b_ST_length) (maxL := 1) (ret := (some .int)) (by decide) rfl ?_
  intro p e s m args below meth c s₁ B hml hv
  obtain ⟨rfl, hsz, hP, hK, hD0⟩ := hv
  have hx := B.exec
  have hb := B.bytes
  have hr := B.returns
  have htg : ∀ w ∈ tp_G, w.before ([.ref (tp_ad E (200 + i))] : List Value).toArray s = true := fun w h => atoms_spec (ws := w_ST_length) B.pre w (List.mem_cons_of_mem _ h)
  have hown : s.vm.findClass "java/lang/String" = some m.cls := findClass_of_methodNamed B.named
  have hlocks := B.notSynchronized
  subst hsz
  have hD := hD0.self (sz := s.heap.size)
  generalize hAe : va_A fr s.heap.size = A at hD hK ⊢
  have hA : ∀ q : Nat, s.heap.size ≤ q → A q := fun q h => by rw [← hAe]; exact Or.inr h
  have hS : va_S A s.heap s.heap [] := va_S.rf
  have hl := lv_entry ([.ref (tp_ad E (200 + i))]) (n := 1) (Nat.le_of_ble_eq_true rfl)
  rw [lg_entry_eq]
  generalize (lg_sl ([.ref (tp_ad E (200 + i))]) ++ List.replicate (1 - (lg_sl ([.ref (tp_ad E (200 + i))])).length) Slot.unset).toArray = ls at hl ⊢
  have hl : lv_has ls 1 [(0, .ref (tp_ad E (200 + i)))] := hl
  refine lv_aload_n hx hb d_ST_length_0 rfl (lv_at hl 0 rfl) ?_
  refine vk_getf (v := .ref (tp_ad E (400 + i))) hx hb (hK.strV (i := i) hi) hS hown (htg _ kl_ST_9) (fun _ h => h) d_ST_length_1 ?_
  refine va_tlen (v := (Int32.ofNat (tp_len.getD i 0))) hx hb (hK.strT (i := i) hi) hS rfl d_ST_length_4 ?_
  refine lv_aload_n hx hb d_ST_length_5 rfl (lv_at hl 0 rfl) ?_
  refine tp_ci (tp_rV (As := []) (rest := [.int (Int32.ofNat (tp_len.getD i 0))]) ⟨hx, hb, hml, hown, htg⟩ (a_ST_coder l E fr _ i hi ) (⟨callB_of 0 htg (tp_good0 kc_ST_coder) rfl rfl rfl (htg _ ki_ST) (htg _ kl_ST_335) ⟨by decide, by decide, by decide +kernel⟩ ⟨Nat.le_of_ble_eq_true rfl, Nat.le_of_ble_eq_true rfl⟩, htg _ km_ST_coder, htg _ kv_ST_ST_coder⟩) (hK.strO (i := i) hi hS) hK hP hD hS hA rfl hl.1 rfl (Nat.le_of_ble_eq_true rfl) d_ST_length_6 ⟨Nat.le_of_ble_eq_true rfl, Nat.le_of_ble_eq_true rfl⟩) hD hS hA (fun r u H locs hw hP hD hS => ?_)
  subst r
  have hP : va_P (tp_D E) tp_cl (fr) H := hP
  have hD : va_D A (fr) := hD
  refine lv_ishr hx hb d_ST_length_9 ?_
  exact W.iret (v := ((Int32.ofNat (tp_len.getD i 0)) >>> (0 &&& 31 : Int32))) hx hb hr (fun t ht hW => ⟨⟨_, (), rfl, tp_shr0, by rw [ht]; exact hP, hD⟩, hS.F ht⟩) hS.2.2 d_ST_length_10
set_option maxHeartbeats 4000000 in
set_option maxRecDepth 100000 in
theorem a_ST_isLatin1 (l : Launch) (E : tp_Env) (fr : va_W) (sz : Nat) (i : Nat) (hi : i < 97)  : Met l y_ST_isLatin1 w_ST_isLatin1 ({ frames := 0, cells := 0, slots := 0, locals := 0 }) (va_Pc [.ref (tp_ad E (200 + i))] (tp_in E fr sz)) (va_Qi (fun r (_ : Unit) => r = 1) (fun _ t => tp_out E (va_A fr sz) fr t) (va_A fr sz)) 0 0 (va_A fr sz) := by
  refine Met.ofW (cc := b_ST_isLatin1) (maxL := 1) (ret := (some .boolean)) (by decide) rfl ?_
  intro p e s m args below meth c s₁ B hml hv
  obtain ⟨rfl, hsz, hP, hK, hD0⟩ := hv
  have hx := B.exec
  have hb := B.bytes
  have hr := B.returns
  have htg : ∀ w ∈ tp_G, w.before ([.ref (tp_ad E (200 + i))] : List Value).toArray s = true := fun w h => atoms_spec (ws := w_ST_isLatin1) B.pre w (List.mem_cons_of_mem _ h)
  have hown : s.vm.findClass "java/lang/String" = some m.cls := findClass_of_methodNamed B.named
  have hlocks := B.notSynchronized
  subst hsz
  have hD := hD0.self (sz := s.heap.size)
  generalize hAe : va_A fr s.heap.size = A at hD hK ⊢
  have hA : ∀ q : Nat, s.heap.size ≤ q → A q := fun q h => by rw [← hAe]; exact Or.inr h
  have hS : va_S A s.heap s.heap [] := va_S.rf
  have hl := lv_entry ([.ref (tp_ad E (200 + i))]) (n := 1) (Nat.le_of_ble_eq_true rfl)
  rw [lg_entry_eq]
  generalize (lg_sl ([.ref (tp_ad E (200 + i))]) ++ List.replicate (1 - (lg_sl ([.ref (tp_ad E (200 + i))])).length) Slot.unset).toArray = ls at hl ⊢
  have hl : lv_has ls 1 [(0, .ref (tp_ad E (200 + i)))] := hl
  refine va_gets (v := .int 1) hx hb hK.C.1 hS hown (htg _ kl_ST_38) (fun _ h => h) d_ST_isLatin1_0 ?_
  refine lv_if_eq (tgt := 17) hx hb d_ST_isLatin1_3 (by decide) (fun h => absurd h (by decide)) (fun _ => ?_)
  refine lv_aload_n hx hb d_ST_isLatin1_6 rfl (lv_at hl 0 rfl) ?_
  refine vk_getf (v := .int 0) hx hb (hK.strC (i := i) hi) hS hown (htg _ kl_ST_15) (fun _ h => h) d_ST_isLatin1_7 ?_
  refine lv_if_ne (tgt := 17) hx hb d_ST_isLatin1_10 (by decide) (fun h => absurd (by decide) h) (fun _ => ?_)
  refine lv_iconst (v := 1) hx hb d_ST_isLatin1_13 (by decide) ?_
  refine lv_goto (tgt := 18) hx hb d_ST_isLatin1_14 (by decide) ?_
  exact W.zret (v := 1) hx hb hr rfl (fun t ht hW => ⟨⟨_, (), rfl, rfl, by rw [ht]; exact hP, hD⟩, hS.F ht⟩) hS.2.2 d_ST_isLatin1_18
set_option maxHeartbeats 4000000 in
set_option maxRecDepth 100000 in
theorem a_PR_checkIndex (l : Launch) (E : tp_Env) (fr : va_W) (sz : Nat) (qf : Nat) (xk xn : Int32) (h1 : ¬ xk < 0) (h2 : xk < xn) : Met l y_PR_checkIndex w_PR_checkIndex ({ frames := 0, cells := 0, slots := 0, locals := 0 }) (va_Pc [.int xk, .int xn, .ref qf] (tp_in E fr sz)) (va_Qi (fun r (_ : Unit) => r = xk) (fun _ t => tp_out E (va_A fr sz) fr t) (va_A fr sz)) 0 0 (va_A fr sz) := by
  refine Met.ofW (cc := b_PR_checkIndex) (maxL := 3) (ret := (some .int)) (by decide) rfl ?_
  intro p e s m args below meth c s₁ B hml hv
  obtain ⟨rfl, hsz, hP, hK, hD0⟩ := hv
  have hx := B.exec
  have hb := B.bytes
  have hr := B.returns
  have htg : ∀ w ∈ tp_G, w.before ([.int xk, .int xn, .ref qf] : List Value).toArray s = true := fun w h => atoms_spec (ws := w_PR_checkIndex) B.pre w (List.mem_cons_of_mem _ h)
  have hown : s.vm.findClass "jdk/internal/util/Preconditions" = some m.cls := findClass_of_methodNamed B.named
  have hlocks := B.notSynchronized
  subst hsz
  have hD := hD0.self (sz := s.heap.size)
  generalize hAe : va_A fr s.heap.size = A at hD hK ⊢
  have hA : ∀ q : Nat, s.heap.size ≤ q → A q := fun q h => by rw [← hAe]; exact Or.inr h
  have hS : va_S A s.heap s.heap [] := va_S.rf
  have hl := lv_entry ([.int xk, .int xn, .ref qf]) (n := 3) (Nat.le_of_ble_eq_true rfl)
  rw [lg_entry_eq]
  generalize (lg_sl ([.int xk, .int xn, .ref qf]) ++ List.replicate (3 - (lg_sl ([.int xk, .int xn, .ref qf])).length) Slot.unset).toArray = ls at hl ⊢
  have hl : lv_has ls 3 [(0, .int xk), (1, .int xn), (2, .ref qf)] := hl
  refine lv_iload_n hx hb d_PR_checkIndex_0 rfl (lv_at hl 0 rfl) ?_
  refine lv_if_lt (tgt := 9) hx hb d_PR_checkIndex_1 (by decide) (fun h => absurd h h1) (fun _ => ?_)
  refine lv_iload_n hx hb d_PR_checkIndex_4 rfl (lv_at hl 0 rfl) ?_
  refine lv_iload_n hx hb d_PR_checkIndex_5 rfl (lv_at hl 1 rfl) ?_
  refine lv_icmp_lt (tgt := 16) hx hb d_PR_checkIndex_6 (by decide) (fun _ => ?_) (fun h => absurd h2 h)
  refine lv_iload_n hx hb d_PR_checkIndex_16 rfl (lv_at hl 0 rfl) ?_
  exact W.iret (v := xk) hx hb hr (fun t ht hW => ⟨⟨_, (), rfl, rfl, by rw [ht]; exact hP, hD⟩, hS.F ht⟩) hS.2.2 d_PR_checkIndex_17
set_option maxHeartbeats 4000000 in
set_option maxRecDepth 100000 in
theorem a_PR_checkIndexN (l : Launch) (E : tp_Env) (fr : va_W) (sz : Nat) (xk xn : Int32) (h1 : ¬ xk < 0) (h2 : xk < xn) : Met l y_PR_checkIndex w_PR_checkIndex ({ frames := 0, cells := 0, slots := 0, locals := 0 }) (va_Pc [.int xk, .int xn, .null] (tp_in E fr sz)) (va_Qi (fun r (_ : Unit) => r = xk) (fun _ t => tp_out E (va_A fr sz) fr t) (va_A fr sz)) 0 0 (va_A fr sz) := by
  refine Met.ofW (cc := b_PR_checkIndex) (maxL := 3) (ret := (some .int)) (by decide) rfl ?_
  intro p e s m args below meth c s₁ B hml hv
  obtain ⟨rfl, hsz, hP, hK, hD0⟩ := hv
  have hx := B.exec
  have hb := B.bytes
  have hr := B.returns
  have htg : ∀ w ∈ tp_G, w.before ([.int xk, .int xn, .null] : List Value).toArray s = true := fun w h => atoms_spec (ws := w_PR_checkIndex) B.pre w (List.mem_cons_of_mem _ h)
  have hown : s.vm.findClass "jdk/internal/util/Preconditions" = some m.cls := findClass_of_methodNamed B.named
  have hlocks := B.notSynchronized
  subst hsz
  have hD := hD0.self (sz := s.heap.size)
  generalize hAe : va_A fr s.heap.size = A at hD hK ⊢
  have hA : ∀ q : Nat, s.heap.size ≤ q → A q := fun q h => by rw [← hAe]; exact Or.inr h
  have hS : va_S A s.heap s.heap [] := va_S.rf
  have hl := lv_entry ([.int xk, .int xn, .null]) (n := 3) (Nat.le_of_ble_eq_true rfl)
  rw [lg_entry_eq]
  generalize (lg_sl ([.int xk, .int xn, .null]) ++ List.replicate (3 - (lg_sl ([.int xk, .int xn, .null])).length) Slot.unset).toArray = ls at hl ⊢
  have hl : lv_has ls 3 [(0, .int xk), (1, .int xn), (2, .null)] := hl
  refine lv_iload_n hx hb d_PR_checkIndex_0 rfl (lv_at hl 0 rfl) ?_
  refine lv_if_lt (tgt := 9) hx hb d_PR_checkIndex_1 (by decide) (fun h => absurd h h1) (fun _ => ?_)
  refine lv_iload_n hx hb d_PR_checkIndex_4 rfl (lv_at hl 0 rfl) ?_
  refine lv_iload_n hx hb d_PR_checkIndex_5 rfl (lv_at hl 1 rfl) ?_
  refine lv_icmp_lt (tgt := 16) hx hb d_PR_checkIndex_6 (by decide) (fun _ => ?_) (fun h => absurd h2 h)
  refine lv_iload_n hx hb d_PR_checkIndex_16 rfl (lv_at hl 0 rfl) ?_
  exact W.iret (v := xk) hx hb hr (fun t ht hW => ⟨⟨_, (), rfl, rfl, by rw [ht]; exact hP, hD⟩, hS.F ht⟩) hS.2.2 d_PR_checkIndex_17
set_option maxHeartbeats 4000000 in
set_option maxRecDepth 100000 in
theorem a_ST_checkIndex (l : Launch) (E : tp_Env) (fr : va_W) (sz : Nat) (xk xn : Int32) (h1 : ¬ xk < 0) (h2 : xk < xn) : Met l y_ST_checkIndex w_ST_checkIndex ({ frames := 1, cells := 0, slots := 0, locals := 22 }) (va_Pc [.int xk, .int xn] (tp_in E fr sz)) (va_Qv (fun (_ : Unit) => True) (fun _ t => tp_out E (va_A fr sz) fr t) (va_A fr sz)) 0 0 (va_A fr sz) := by
  refine Met.ofW (cc := b_ST_checkIndex) (maxL := 2) (ret := none) (by decide) rfl ?_
  intro p e s m args below meth c s₁ B hml hv
  obtain ⟨rfl, hsz, hP, hK, hD0⟩ := hv
  have hx := B.exec
  have hb := B.bytes
  have hr := B.returns
  have htg : ∀ w ∈ tp_G, w.before ([.int xk, .int xn] : List Value).toArray s = true := fun w h => atoms_spec (ws := w_ST_checkIndex) B.pre w (List.mem_cons_of_mem _ h)
  have hown : s.vm.findClass "java/lang/String" = some m.cls := findClass_of_methodNamed B.named
  have hlocks := B.notSynchronized
  subst hsz
  have hD := hD0.self (sz := s.heap.size)
  generalize hAe : va_A fr s.heap.size = A at hD hK ⊢
  have hA : ∀ q : Nat, s.heap.size ≤ q → A q := fun q h => by rw [← hAe]; exact Or.inr h
  have hS : va_S A s.heap s.heap [] := va_S.rf
  have hl := lv_entry ([.int xk, .int xn]) (n := 2) (Nat.le_of_ble_eq_true rfl)
  rw [lg_entry_eq]
  generalize (lg_sl ([.int xk, .int xn]) ++ List.replicate (2 - (lg_sl ([.int xk, .int xn])).length) Slot.unset).toArray = ls at hl ⊢
  have hl : lv_has ls 2 [(0, .int xk), (1, .int xn)] := hl
  refine lv_iload_n hx hb d_ST_checkIndex_0 rfl (lv_at hl 0 rfl) ?_
  refine lv_iload_n hx hb d_ST_checkIndex_1 rfl (lv_at hl 1 rfl) ?_
  rcases hK.fmtZ with hZf | ⟨qf, hZf⟩
  · refine va_gets (v := .null) hx hb hZf hS hown (htg _ kl_ST_1053) (fun _ h => h) d_ST_checkIndex_2 ?_
    refine tp_ci (tp_rS (As := [.int xk, .int xn, .null]) (rest := []) ⟨hx, hb, hml, hown, htg⟩ (a_PR_checkIndexN l E fr _ xk xn h1 h2) (⟨callB_of 3 htg (tp_good0 kc_PR_checkIndex) rfl rfl rfl (htg _ ki_PR) (htg _ kl_ST_1059) ⟨by decide, by decide, by decide +kernel⟩ ⟨Nat.le_of_ble_eq_true rfl, Nat.le_of_ble_eq_true rfl⟩, htg _ ks_PR_checkIndex⟩) hK hP hD hS hA rfl hl.1 rfl (Nat.le_of_ble_eq_true rfl) d_ST_checkIndex_5 ⟨Nat.le_of_ble_eq_true rfl, Nat.le_of_ble_eq_true rfl⟩) hD hS hA (fun r u H locs hw hP hD hS => ?_)
    subst r
    have hP : va_P (tp_D E) tp_cl (fr) H := hP
    have hD : va_D A (fr) := hD
    refine lv_pop hx hb d_ST_checkIndex_8 rfl ?_
    exact W.vret hx hb hr (fun t ht hW => ⟨⟨(), rfl, trivial, by rw [ht]; exact hP, hD⟩, hS.F ht⟩) hS.2.2 d_ST_checkIndex_9
  · refine va_gets (v := .ref qf) hx hb hZf hS hown (htg _ kl_ST_1053) (fun _ h => h) d_ST_checkIndex_2 ?_
    refine tp_ci (tp_rS (As := [.int xk, .int xn, .ref qf]) (rest := []) ⟨hx, hb, hml, hown, htg⟩ (a_PR_checkIndex l E fr _ qf xk xn h1 h2) (⟨callB_of 3 htg (tp_good0 kc_PR_checkIndex) rfl rfl rfl (htg _ ki_PR) (htg _ kl_ST_1059) ⟨by decide, by decide, by decide +kernel⟩ ⟨Nat.le_of_ble_eq_true rfl, Nat.le_of_ble_eq_true rfl⟩, htg _ ks_PR_checkIndex⟩) hK hP hD hS hA rfl hl.1 rfl (Nat.le_of_ble_eq_true rfl) d_ST_checkIndex_5 ⟨Nat.le_of_ble_eq_true rfl, Nat.le_of_ble_eq_true rfl⟩) hD hS hA (fun r u H locs hw hP hD hS => ?_)
    subst r
    have hP : va_P (tp_D E) tp_cl (fr) H := hP
    have hD : va_D A (fr) := hD
    refine lv_pop hx hb d_ST_checkIndex_8 rfl ?_
    exact W.vret hx hb hr (fun t ht hW => ⟨⟨(), rfl, trivial, by rw [ht]; exact hP, hD⟩, hS.F ht⟩) hS.2.2 d_ST_checkIndex_9
set_option maxHeartbeats 4000000 in
set_option maxRecDepth 100000 in
theorem a_SL_charAt (l : Launch) (E : tp_Env) (fr : va_W) (sz : Nat) (i : Nat) (hi : i < 97) (xk : Int32) (h1 : ¬ xk < 0) (h2 : xk < (Int32.ofNat (tp_len.getD i 0))) : Met l y_SL_charAt w_SL_charAt ({ frames := 2, cells := 0, slots := 0, locals := 43 }) (va_Pc [.ref (tp_ad E (400 + i)), .int xk] (tp_in E fr sz)) (va_Qi (fun r (_ : Unit) => r = ((tp_byt.getD i []).getD xk.toNatClampNeg 0)) (fun _ t => tp_out E (va_A fr sz) fr t) (va_A fr sz)) 0 0 (va_A fr sz) := by
  refine Met.ofW (cc := b_SL_charAt) (maxL := 2) (ret := (some .char)) (by decide) rfl ?_
  intro p e s m args below meth c s₁ B hml hv
  obtain ⟨rfl, hsz, hP, hK, hD0⟩ := hv
  have hx := B.exec
  have hb := B.bytes
  have hr := B.returns
  have htg : ∀ w ∈ tp_G, w.before ([.ref (tp_ad E (400 + i)), .int xk] : List Value).toArray s = true := fun w h => atoms_spec (ws := w_SL_charAt) B.pre w (List.mem_cons_of_mem _ h)
  have hown : s.vm.findClass "java/lang/StringLatin1" = some m.cls := findClass_of_methodNamed B.named
  have hlocks := B.notSynchronized
  subst hsz
  have hD := hD0.self (sz := s.heap.size)
  generalize hAe : va_A fr s.heap.size = A at hD hK ⊢
  have hA : ∀ q : Nat, s.heap.size ≤ q → A q := fun q h => by rw [← hAe]; exact Or.inr h
  have hS : va_S A s.heap s.heap [] := va_S.rf
  have hl := lv_entry ([.ref (tp_ad E (400 + i)), .int xk]) (n := 2) (Nat.le_of_ble_eq_true rfl)
  rw [lg_entry_eq]
  generalize (lg_sl ([.ref (tp_ad E (400 + i)), .int xk]) ++ List.replicate (2 - (lg_sl ([.ref (tp_ad E (400 + i)), .int xk])).length) Slot.unset).toArray = ls at hl ⊢
  have hl : lv_has ls 2 [(0, .ref (tp_ad E (400 + i))), (1, .int xk)] := hl
  refine lv_iload_n hx hb d_SL_charAt_0 rfl (lv_at hl 1 rfl) ?_
  refine lv_aload_n hx hb d_SL_charAt_1 rfl (lv_at hl 0 rfl) ?_
  refine va_tlen (v := (Int32.ofNat (tp_len.getD i 0))) hx hb (hK.strT (i := i) hi) hS rfl d_SL_charAt_2 ?_
  refine tp_cv (tp_rS (As := [.int xk, .int (Int32.ofNat (tp_len.getD i 0))]) (rest := []) ⟨hx, hb, hml, hown, htg⟩ (a_ST_checkIndex l E fr _ xk (Int32.ofNat (tp_len.getD i 0)) h1 h2) (⟨callB_of 2 htg (tp_good0 kc_ST_checkIndex) rfl rfl rfl (htg _ ki_ST) (htg _ kl_SL_9) ⟨by decide, by decide, by decide +kernel⟩ ⟨Nat.le_of_ble_eq_true rfl, Nat.le_of_ble_eq_true rfl⟩, htg _ ks_ST_checkIndex⟩) hK hP hD hS hA rfl hl.1 rfl (Nat.le_of_ble_eq_true rfl) d_SL_charAt_3 ⟨Nat.le_of_ble_eq_true rfl, Nat.le_of_ble_eq_true rfl⟩) hD hS hA (fun u H locs hw hP hD hS => ?_)
  have hP : va_P (tp_D E) tp_cl (fr) H := hP
  have hD : va_D A (fr) := hD
  refine lv_aload_n hx hb d_SL_charAt_6 rfl (lv_at hl 0 rfl) ?_
  refine lv_iload_n hx hb d_SL_charAt_7 rfl (lv_at hl 1 rfl) ?_
  refine va_tb (v := .int ((tp_byt.getD i []).getD xk.toNatClampNeg 0)) hx hb (hK.strT (i := i) hi) hS (tp_vinl hi h1 h2) rfl d_SL_charAt_8 ?_
  refine lv_sipush (v := 255) hx hb d_SL_charAt_9 (by decide) ?_
  refine lv_iand hx hb d_SL_charAt_12 ?_
  refine lv_i2c (v := ((((tp_byt.getD i []).getD xk.toNatClampNeg 0) &&& 255).toUInt32 % 65536).toInt32) hx hb d_SL_charAt_13 rfl ?_
  refine tp_topi (v := ((tp_byt.getD i []).getD xk.toNatClampNeg 0)) (tp_asc hi) ?_
  exact W.zret (v := ((tp_byt.getD i []).getD xk.toNatClampNeg 0)) hx hb hr (tp_nch hi) (fun t ht hW => ⟨⟨_, (), rfl, rfl, by rw [ht]; exact hP, hD⟩, hS.F ht⟩) hS.2.2 d_SL_charAt_14
set_option maxHeartbeats 4000000 in
set_option maxRecDepth 100000 in
theorem a_ST_charAt (l : Launch) (E : tp_Env) (fr : va_W) (sz : Nat) (i : Nat) (hi : i < 97) (xk : Int32) (h1 : ¬ xk < 0) (h2 : xk < (Int32.ofNat (tp_len.getD i 0))) : Met l y_ST_charAt w_ST_charAt ({ frames := 3, cells := 0, slots := 0, locals := 64 }) (va_Pc [.ref (tp_ad E (200 + i)), .int xk] (tp_in E fr sz)) (va_Qi (fun r (_ : Unit) => r = ((tp_byt.getD i []).getD xk.toNatClampNeg 0)) (fun _ t => tp_out E (va_A fr sz) fr t) (va_A fr sz)) 0 0 (va_A fr sz) := by
  refine Met.ofW (cc := b_ST_charAt) (maxL := 2) (ret := (some .char)) (by decide) rfl ?_
  intro p e s m args below meth c s₁ B hml hv
  obtain ⟨rfl, hsz, hP, hK, hD0⟩ := hv
  have hx := B.exec
  have hb := B.bytes
  have hr := B.returns
  have htg : ∀ w ∈ tp_G, w.before ([.ref (tp_ad E (200 + i)), .int xk] : List Value).toArray s = true := fun w h => atoms_spec (ws := w_ST_charAt) B.pre w (List.mem_cons_of_mem _ h)
  have hown : s.vm.findClass "java/lang/String" = some m.cls := findClass_of_methodNamed B.named
  have hlocks := B.notSynchronized
  subst hsz
  have hD := hD0.self (sz := s.heap.size)
  generalize hAe : va_A fr s.heap.size = A at hD hK ⊢
  have hA : ∀ q : Nat, s.heap.size ≤ q → A q := fun q h => by rw [← hAe]; exact Or.inr h
  have hS : va_S A s.heap s.heap [] := va_S.rf
  have hl := lv_entry ([.ref (tp_ad E (200 + i)), .int xk]) (n := 2) (Nat.le_of_ble_eq_true rfl)
  rw [lg_entry_eq]
  generalize (lg_sl ([.ref (tp_ad E (200 + i)), .int xk]) ++ List.replicate (2 - (lg_sl ([.ref (tp_ad E (200 + i)), .int xk])).length) Slot.unset).toArray = ls at hl ⊢
  have hl : lv_has ls 2 [(0, .ref (tp_ad E (200 + i))), (1, .int xk)] := hl
  refine lv_aload_n hx hb d_ST_charAt_0 rfl (lv_at hl 0 rfl) ?_
  refine tp_ci (tp_rV (As := []) (rest := []) ⟨hx, hb, hml, hown, htg⟩ (a_ST_isLatin1 l E fr _ i hi ) (⟨callB_of 0 htg (tp_good0 kc_ST_isLatin1) rfl rfl rfl (htg _ ki_ST) (htg _ kl_ST_492) ⟨by decide, by decide, by decide +kernel⟩ ⟨Nat.le_of_ble_eq_true rfl, Nat.le_of_ble_eq_true rfl⟩, htg _ km_ST_isLatin1, htg _ kv_ST_ST_isLatin1⟩) (hK.strO (i := i) hi hS) hK hP hD hS hA rfl hl.1 rfl (Nat.le_of_ble_eq_true rfl) d_ST_charAt_1 ⟨Nat.le_of_ble_eq_true rfl, Nat.le_of_ble_eq_true rfl⟩) hD hS hA (fun r u H locs hw hP hD hS => ?_)
  subst r
  have hP : va_P (tp_D E) tp_cl (fr) H := hP
  have hD : va_D A (fr) := hD
  refine lv_if_eq (tgt := 16) hx hb d_ST_charAt_4 (by decide) (fun h => absurd h (by decide)) (fun _ => ?_)
  refine lv_aload_n hx hb d_ST_charAt_7 rfl (lv_at hl 0 rfl) ?_
  refine vk_getf (v := .ref (tp_ad E (400 + i))) hx hb (hK.strV (i := i) hi) hS hown (htg _ kl_ST_9) (fun _ h => h) d_ST_charAt_8 ?_
  refine lv_iload_n hx hb d_ST_charAt_11 rfl (lv_at hl 1 rfl) ?_
  refine tp_ci (tp_rS (As := [.ref (tp_ad E (400 + i)), .int xk]) (rest := []) ⟨hx, hb, hml, hown, htg⟩ (a_SL_charAt l E fr _ i hi xk h1 h2) (⟨callB_of 2 htg (tp_good0 kc_SL_charAt) rfl rfl rfl (htg _ ki_SL) (htg _ kl_ST_495) ⟨by decide, by decide, by decide +kernel⟩ ⟨Nat.le_of_ble_eq_true rfl, Nat.le_of_ble_eq_true rfl⟩, htg _ ks_SL_charAt⟩) hK hP hD hS hA rfl hl.1 rfl (Nat.le_of_ble_eq_true rfl) d_ST_charAt_12 ⟨Nat.le_of_ble_eq_true rfl, Nat.le_of_ble_eq_true rfl⟩) hD hS hA (fun r u H locs hw hP hD hS => ?_)
  subst r
  have hP : va_P (tp_D E) tp_cl (fr) H := hP
  have hD : va_D A (fr) := hD
  exact W.zret (v := ((tp_byt.getD i []).getD xk.toNatClampNeg 0)) hx hb hr (tp_nch hi) (fun t ht hW => ⟨⟨_, (), rfl, rfl, by rw [ht]; exact hP, hD⟩, hS.F ht⟩) hS.2.2 d_ST_charAt_15
set_option maxHeartbeats 4000000 in
set_option maxRecDepth 100000 in
theorem a_AU_newLength (l : Launch) (E : tp_Env) (fr : va_W) (sz : Nat) (xa : Int32) (hle : xa ≤ 18) : Met l y_AU_newLength w_AU_newLength ({ frames := 1, cells := 0, slots := 0, locals := 21 }) (va_Pc [.int 16, .int xa, .int 18] (tp_in E fr sz)) (va_Qi (fun r (_ : Unit) => r = 34) (fun _ t => tp_out E (va_A fr sz) fr t) (va_A fr sz)) 0 0 (va_A fr sz) := by
  refine Met.ofW (cc := b_AU_newLength) (maxL := 4) (ret := (some .int)) (by decide) rfl ?_
  intro p e s m args below meth c s₁ B hml hv
  obtain ⟨rfl, hsz, hP, hK, hD0⟩ := hv
  have hx := B.exec
  have hb := B.bytes
  have hr := B.returns
  have htg : ∀ w ∈ tp_G, w.before ([.int 16, .int xa, .int 18] : List Value).toArray s = true := fun w h => atoms_spec (ws := w_AU_newLength) B.pre w (List.mem_cons_of_mem _ h)
  have hown : s.vm.findClass "jdk/internal/util/ArraysSupport" = some m.cls := findClass_of_methodNamed B.named
  have hlocks := B.notSynchronized
  subst hsz
  have hD := hD0.self (sz := s.heap.size)
  generalize hAe : va_A fr s.heap.size = A at hD hK ⊢
  have hA : ∀ q : Nat, s.heap.size ≤ q → A q := fun q h => by rw [← hAe]; exact Or.inr h
  have hS : va_S A s.heap s.heap [] := va_S.rf
  have hl := lv_entry ([.int 16, .int xa, .int 18]) (n := 4) (Nat.le_of_ble_eq_true rfl)
  rw [lg_entry_eq]
  generalize (lg_sl ([.int 16, .int xa, .int 18]) ++ List.replicate (4 - (lg_sl ([.int 16, .int xa, .int 18])).length) Slot.unset).toArray = ls at hl ⊢
  have hl : lv_has ls 4 [(0, .int 16), (1, .int xa), (2, .int 18)] := hl
  refine lv_iload_n hx hb d_AU_newLength_0 rfl (lv_at hl 0 rfl) ?_
  refine lv_iload_n hx hb d_AU_newLength_1 rfl (lv_at hl 1 rfl) ?_
  refine lv_iload_n hx hb d_AU_newLength_2 rfl (lv_at hl 2 rfl) ?_
  refine va_mmax hx hb (by rw [hml]; exact hl.1.symm) hown (htg _ kl_AU_194) (htg _ ks_MA_max) (htg _ ki_MA) (htg _ kc_MA_max) (Nat.le_of_ble_eq_true rfl) (Nat.le_of_ble_eq_true rfl) (Nat.le_of_ble_eq_true rfl) (Nat.le_of_ble_eq_true rfl) d_AU_newLength_3 ?_
  refine tp_topi (v := 18) (tp_maxr hle) ?_
  refine lv_iadd hx hb d_AU_newLength_6 ?_
  refine tp_topi (v := 34) (by decide) ?_
  refine lv_istore_n (lv' := [(3, .int 34), (0, .int 16), (1, .int xa), (2, .int 18)]) hx hb d_AU_newLength_7 rfl hl (by decide) rfl (fun ls hl => ?_)
  refine lv_iconst (v := 0) hx hb d_AU_newLength_8 (by decide) ?_
  refine lv_iload_n hx hb d_AU_newLength_9 rfl (lv_at hl 0 rfl) ?_
  refine lv_icmp_ge (tgt := 21) hx hb d_AU_newLength_10 (by decide) (fun h => absurd h (by decide)) (fun _ => ?_)
  refine lv_iload_n hx hb d_AU_newLength_13 rfl (lv_at hl 0 rfl) ?_
  refine lv_ldc (v := 2147483639) hx hb hown (htg _ kl_AU_200) d_AU_newLength_14 ?_
  refine lv_icmp_gt (tgt := 21) hx hb d_AU_newLength_16 (by decide) (fun h => absurd h (by decide)) (fun _ => ?_)
  refine lv_iload_n hx hb d_AU_newLength_19 rfl (lv_at hl 0 rfl) ?_
  exact W.iret (v := 34) hx hb hr (fun t ht hW => ⟨⟨_, (), rfl, rfl, by rw [ht]; exact hP, hD⟩, hS.F ht⟩) hS.2.2 d_AU_newLength_20
set_option maxHeartbeats 4000000 in
set_option maxRecDepth 100000 in
theorem a_AS_newCapacity (l : Launch) (E : tp_Env) (fr : va_W) (sz : Nat) (aB ab : Nat) (xm xc : Int32) (mn : Int32) (fb : Nat → Int32) (hm : 0 ≤ mn.toInt ∧ mn.toInt ≤ 34) : Met l y_AS_newCapacity w_AS_newCapacity ({ frames := 2, cells := 0, slots := 0, locals := 44 }) (va_Pc [.ref aB, .int mn] (tp_in E ((aB, .inr (6, [.ref ab, .int 0, .int xm, .int xc])) :: (ab, .inl (tp_ty E 3, 16, .inl fb)) :: fr) sz)) (va_Qi (fun r (_ : Unit) => r = 34) (fun _ t => tp_out E (va_A ((aB, .inr (6, [.ref ab, .int 0, .int xm, .int xc])) :: (ab, .inl (tp_ty E 3, 16, .inl fb)) :: fr) sz) ((aB, .inr (6, [.ref ab, .int 0, .int xm, .int xc])) :: (ab, .inl (tp_ty E 3, 16, .inl fb)) :: fr) t) (va_A ((aB, .inr (6, [.ref ab, .int 0, .int xm, .int xc])) :: (ab, .inl (tp_ty E 3, 16, .inl fb)) :: fr) sz)) 0 0 (va_A ((aB, .inr (6, [.ref ab, .int 0, .int xm, .int xc])) :: (ab, .inl (tp_ty E 3, 16, .inl fb)) :: fr) sz) := by
  refine Met.ofW (cc := b_AS_newCapacity) (maxL := 6) (ret := (some .int)) (by decide) rfl ?_
  intro p e s m args below meth c s₁ B hml hv
  obtain ⟨rfl, hsz, hP, hK, hD0⟩ := hv
  have hx := B.exec
  have hb := B.bytes
  have hr := B.returns
  have htg : ∀ w ∈ tp_G, w.before ([.ref aB, .int mn] : List Value).toArray s = true := fun w h => atoms_spec (ws := w_AS_newCapacity) B.pre w (List.mem_cons_of_mem _ h)
  have hown : s.vm.findClass "java/lang/AbstractStringBuilder" = some m.cls := findClass_of_methodNamed B.named
  have hlocks := B.notSynchronized
  subst hsz
  have hD := hD0.self (sz := s.heap.size)
  generalize hAe : va_A ((aB, .inr (6, [.ref ab, .int 0, .int xm, .int xc])) :: (ab, .inl (tp_ty E 3, 16, .inl fb)) :: fr) s.heap.size = A at hD hK ⊢
  have hA : ∀ q : Nat, s.heap.size ≤ q → A q := fun q h => by rw [← hAe]; exact Or.inr h
  have hS : va_S A s.heap s.heap [] := va_S.rf
  have hl := lv_entry ([.ref aB, .int mn]) (n := 6) (Nat.le_of_ble_eq_true rfl)
  rw [lg_entry_eq]
  generalize (lg_sl ([.ref aB, .int mn]) ++ List.replicate (6 - (lg_sl ([.ref aB, .int mn])).length) Slot.unset).toArray = ls at hl ⊢
  have hl : lv_has ls 6 [(0, .ref aB), (1, .int mn)] := hl
  refine lv_aload_n hx hb d_AS_newCapacity_0 rfl (lv_at hl 0 rfl) ?_
  refine va_get (D := tp_D E) (ci := 6) (v := .ref ab) (C := qR_SB) (T := qF_SB) (N := 4) hx hb htg qi_SB hown hK.1 hP 0 rfl rfl 0 (by decide) (htg _ kl_AS_15) (fun _ h => h) rfl d_AS_newCapacity_1 ?_
  refine va_alen (D := tp_D E) (v := 16) hx hb hK.1 hP 1 3 rfl rfl rfl d_AS_newCapacity_4 ?_
  refine lv_istore_n (lv' := [(2, .int 16), (0, .ref aB), (1, .int mn)]) hx hb d_AS_newCapacity_5 rfl hl (by decide) rfl (fun ls hl => ?_)
  refine lv_iload_n hx hb d_AS_newCapacity_6 rfl (lv_at hl 2 rfl) ?_
  refine lv_aload_n hx hb d_AS_newCapacity_7 rfl (lv_at hl 1 rfl) ?_
  refine va_get (D := tp_D E) (ci := 6) (v := .int 0) (C := qR_SB) (T := qF_SB) (N := 4) hx hb htg qi_SB hown hK.1 hP 0 rfl rfl 1 (by decide) (htg _ kl_AS_22) (fun _ h => h) rfl d_AS_newCapacity_8 ?_
  refine lv_ishl hx hb d_AS_newCapacity_11 ?_
  refine lv_istore_n (lv' := [(3, .int (mn <<< (0 &&& 31 : Int32))), (2, .int 16), (0, .ref aB), (1, .int mn)]) hx hb d_AS_newCapacity_12 rfl hl (by decide) rfl (fun ls hl => ?_)
  refine lv_iload_n hx hb d_AS_newCapacity_13 rfl (lv_at hl 0 rfl) ?_
  refine lv_iload_n hx hb d_AS_newCapacity_14 rfl (lv_at hl 1 rfl) ?_
  refine lv_isub hx hb d_AS_newCapacity_15 ?_
  refine lv_istore (lv' := [(4, .int ((mn <<< (0 &&& 31 : Int32)) - 16)), (3, .int (mn <<< (0 &&& 31 : Int32))), (2, .int 16), (0, .ref aB), (1, .int mn)]) hx hb d_AS_newCapacity_16 hl (by decide) rfl (fun ls hl => ?_)
  refine lv_iload_n hx hb d_AS_newCapacity_18 rfl (lv_at hl 2 rfl) ?_
  refine lv_iload hx hb d_AS_newCapacity_19 (lv_at hl 0 rfl) ?_
  refine lv_iload_n hx hb d_AS_newCapacity_21 rfl (lv_at hl 2 rfl) ?_
  refine lv_iconst (v := 2) hx hb d_AS_newCapacity_22 (by decide) ?_
  refine lv_aload_n hx hb d_AS_newCapacity_23 rfl (lv_at hl 3 rfl) ?_
  refine va_get (D := tp_D E) (ci := 6) (v := .int 0) (C := qR_SB) (T := qF_SB) (N := 4) hx hb htg qi_SB hown hK.1 hP 0 rfl rfl 1 (by decide) (htg _ kl_AS_22) (fun _ h => h) rfl d_AS_newCapacity_24 ?_
  refine lv_ishl hx hb d_AS_newCapacity_27 ?_
  refine tp_topi (v := 2) (by decide) ?_
  refine lv_iadd hx hb d_AS_newCapacity_28 ?_
  refine tp_topi (v := 18) (by decide) ?_
  refine tp_ci (tp_rS (As := [.int 16, .int ((mn <<< (0 &&& 31 : Int32)) - 16), .int 18]) (rest := []) ⟨hx, hb, hml, hown, htg⟩ (a_AU_newLength l E ((aB, .inr (6, [.ref ab, .int 0, .int xm, .int xc])) :: (ab, .inl (tp_ty E 3, 16, .inl fb)) :: fr) _ ((mn <<< (0 &&& 31 : Int32)) - 16) (tp_g18 hm)) (⟨callB_of 3 htg (tp_good0 kc_AU_newLength) rfl rfl rfl (htg _ ki_AU) (htg _ kl_AS_114) ⟨by decide, by decide, by decide +kernel⟩ ⟨Nat.le_of_ble_eq_true rfl, Nat.le_of_ble_eq_true rfl⟩, htg _ ks_AU_newLength⟩) hK hP hD hS hA rfl hl.1 rfl (Nat.le_of_ble_eq_true rfl) d_AS_newCapacity_29 ⟨Nat.le_of_ble_eq_true rfl, Nat.le_of_ble_eq_true rfl⟩) hD hS hA (fun r u H locs hw hP hD hS => ?_)
  subst r
  have hP : va_P (tp_D E) tp_cl ((aB, .inr (6, [.ref ab, .int 0, .int xm, .int xc])) :: (ab, .inl (tp_ty E 3, 16, .inl fb)) :: fr) H := hP
  have hD : va_D A ((aB, .inr (6, [.ref ab, .int 0, .int xm, .int xc])) :: (ab, .inl (tp_ty E 3, 16, .inl fb)) :: fr) := hD
  refine lv_istore (lv' := [(5, .int 34), (4, .int ((mn <<< (0 &&& 31 : Int32)) - 16)), (3, .int (mn <<< (0 &&& 31 : Int32))), (2, .int 16), (0, .ref aB), (1, .int mn)]) hx hb d_AS_newCapacity_32 hl (by decide) rfl (fun ls hl => ?_)
  refine lv_iload hx hb d_AS_newCapacity_34 (lv_at hl 0 rfl) ?_
  refine lv_ldc (v := 2147483647) hx hb hown (htg _ kl_AS_39) d_AS_newCapacity_36 ?_
  refine lv_icmp_ne (tgt := 51) hx hb d_AS_newCapacity_38 (by decide) (fun _ => ?_) (fun h => absurd h (by decide))
  refine lv_iload hx hb d_AS_newCapacity_51 (lv_at hl 0 rfl) ?_
  refine lv_aload_n hx hb d_AS_newCapacity_53 rfl (lv_at hl 4 rfl) ?_
  refine va_get (D := tp_D E) (ci := 6) (v := .int 0) (C := qR_SB) (T := qF_SB) (N := 4) hx hb htg qi_SB hown hK.1 hP 0 rfl rfl 1 (by decide) (htg _ kl_AS_22) (fun _ h => h) rfl d_AS_newCapacity_54 ?_
  refine lv_ishr hx hb d_AS_newCapacity_57 ?_
  refine tp_topi (v := 34) (by decide) ?_
  exact W.iret (v := 34) hx hb hr (fun t ht hW => ⟨⟨_, (), rfl, rfl, by rw [ht]; exact hP, hD⟩, hS.F ht⟩) hS.2.2 d_AS_newCapacity_58
set_option maxHeartbeats 4000000 in
set_option maxRecDepth 100000 in
theorem a_AR_copyOf (l : Launch) (E : tp_Env) (fr : va_W) (sz : Nat) (ab : Nat) (fb : Nat → Int32) (hf : tp_fit fb) : Met l y_AR_copyOf_0 w_AR_copyOf_0 ({ frames := 1, cells := 1, slots := 34, locals := 100 }) (va_Pc [.ref ab, .int 34] (tp_in E ((ab, .inl (tp_ty E 3, 16, .inl fb)) :: fr) sz)) (va_Qr (fun (u : Nat × (Nat → Int32)) => tp_fit u.2) (fun u q t => q = (fun (u : Nat × (Nat → Int32)) => u.1) u ∧ tp_out E (va_A ((ab, .inl (tp_ty E 3, 16, .inl fb)) :: fr) sz) ((u.1, .inl (tp_ty E 3, 34, .inl u.2)) :: (ab, .inl (tp_ty E 3, 16, .inl fb)) :: fr) t) (va_A ((ab, .inl (tp_ty E 3, 16, .inl fb)) :: fr) sz)) 1 34 (va_A ((ab, .inl (tp_ty E 3, 16, .inl fb)) :: fr) sz) := by
  refine Met.ofW (cc := b_AR_copyOf_0) (maxL := 3) (ret := (some (.array .byte))) (by decide) rfl ?_
  intro p e s m args below meth c s₁ B hml hv
  obtain ⟨rfl, hsz, hP, hK, hD0⟩ := hv
  have hx := B.exec
  have hb := B.bytes
  have hr := B.returns
  have htg : ∀ w ∈ tp_G, w.before ([.ref ab, .int 34] : List Value).toArray s = true := fun w h => atoms_spec (ws := w_AR_copyOf_0) B.pre w (List.mem_cons_of_mem _ h)
  have hown : s.vm.findClass "java/util/Arrays" = some m.cls := findClass_of_methodNamed B.named
  have hlocks := B.notSynchronized
  subst hsz
  have hD := hD0.self (sz := s.heap.size)
  generalize hAe : va_A ((ab, .inl (tp_ty E 3, 16, .inl fb)) :: fr) s.heap.size = A at hD hK ⊢
  have hA : ∀ q : Nat, s.heap.size ≤ q → A q := fun q h => by rw [← hAe]; exact Or.inr h
  have hS : va_S A s.heap s.heap [] := va_S.rf
  have hl := lv_entry ([.ref ab, .int 34]) (n := 3) (Nat.le_of_ble_eq_true rfl)
  rw [lg_entry_eq]
  generalize (lg_sl ([.ref ab, .int 34]) ++ List.replicate (3 - (lg_sl ([.ref ab, .int 34])).length) Slot.unset).toArray = ls at hl ⊢
  have hl : lv_has ls 3 [(0, .ref ab), (1, .int 34)] := hl
  refine lv_iload_n hx hb d_AR_copyOf_0_0 rfl (lv_at hl 1 rfl) ?_
  refine lv_aload_n hx hb d_AR_copyOf_0_1 rfl (lv_at hl 0 rfl) ?_
  refine va_alen (D := tp_D E) (v := 16) hx hb hK.1 hP 0 3 rfl rfl rfl d_AR_copyOf_0_2 ?_
  refine lv_icmp_ne (tgt := 14) hx hb d_AR_copyOf_0_3 (by decide) (fun _ => ?_) (fun h => absurd h (by decide))
  refine lv_iload_n hx hb d_AR_copyOf_0_14 rfl (lv_at hl 1 rfl) ?_
  refine tp_newa 3 (atype := .byte) (ty := .byte) (a0 := (34, .inl (fun _ => 0))) (N' := 34) hx hb (htg _ kar_B) rfl rfl (fun _ h => by cases h) hK hP hD hS hA (fun _ => rfl) (by decide) (by decide) (by decide) (Nat.le_of_ble_eq_true rfl) (Nat.le_of_ble_eq_true rfl) d_AR_copyOf_0_15 (fun q1 H hP hD hS => ?_)
  have hP : va_P (tp_D E) tp_cl ((q1, .inl (tp_ty E 3, 34, .inl (fun _ => 0))) :: (ab, .inl (tp_ty E 3, 16, .inl fb)) :: fr) H := hP
  have hD : va_D A ((q1, .inl (tp_ty E 3, 34, .inl (fun _ => 0))) :: (ab, .inl (tp_ty E 3, 16, .inl fb)) :: fr) := hD
  refine lv_astore_n (lv' := [(2, .ref q1), (0, .ref ab), (1, .int 34)]) hx hb d_AR_copyOf_0_17 rfl hl (by decide) rfl (fun ls hl => ?_)
  refine lv_aload_n hx hb d_AR_copyOf_0_18 rfl (lv_at hl 1 rfl) ?_
  refine lv_iconst (v := 0) hx hb d_AR_copyOf_0_19 (by decide) ?_
  refine lv_aload_n hx hb d_AR_copyOf_0_20 rfl (lv_at hl 0 rfl) ?_
  refine lv_iconst (v := 0) hx hb d_AR_copyOf_0_21 (by decide) ?_
  refine lv_aload_n hx hb d_AR_copyOf_0_22 rfl (lv_at hl 1 rfl) ?_
  refine va_alen (D := tp_D E) (v := 16) hx hb hK.1 hP 1 3 rfl rfl rfl d_AR_copyOf_0_23 ?_
  refine lv_iload_n hx hb d_AR_copyOf_0_24 rfl (lv_at hl 2 rfl) ?_
  refine va_mmin hx hb (by rw [hml]; exact hl.1.symm) hown (htg _ kl_AR_304) (htg _ ks_MA_min) (htg _ ki_MA) (htg _ kc_MA_min) (Nat.le_of_ble_eq_true rfl) (Nat.le_of_ble_eq_true rfl) (Nat.le_of_ble_eq_true rfl) (Nat.le_of_ble_eq_true rfl) d_AR_copyOf_0_25 ?_
  refine tp_topi (v := 16) (by decide) ?_
  refine va_copyi (ty := .byte) hx hb (by rw [hml]; exact hl.1.symm) hown (htg _ kl_AR_150) (htg _ kny_copy) (htg _ kns_copy) (htg _ ki_SY) hK.1 hP hD hS 1 0 3 3 rfl rfl rfl rfl rfl (by decide) (by decide) (by decide) (by decide) (by decide) (fun i _ => hf _) (Nat.le_of_ble_eq_true rfl) (Nat.le_of_ble_eq_true rfl) d_AR_copyOf_0_28 (fun H locs hP hD hS => ?_)
  have hP : va_P (tp_D E) tp_cl ((q1, .inl (tp_ty E 3, 34, .inl (va_cpy fb (fun _ => 0) 0 0 16))) :: (ab, .inl (tp_ty E 3, 16, .inl fb)) :: fr) H := hP
  have hD : va_D A ((q1, .inl (tp_ty E 3, 34, .inl (va_cpy fb (fun _ => 0) 0 0 16))) :: (ab, .inl (tp_ty E 3, 16, .inl fb)) :: fr) := hD
  refine lv_aload_n hx hb d_AR_copyOf_0_31 rfl (lv_at hl 0 rfl) ?_
  exact W.aret (v := .ref q1) hx hb hr (Or.inr ⟨_, rfl⟩) (Or.inr ⟨_, rfl⟩) (fun t ht hW => ⟨⟨(q1, (va_cpy fb (fun _ => 0) 0 0 16)), _, rfl, tp_fitcpy hf tp_fit0, rfl, by rw [ht]; exact hP, hD⟩, hS.F ht⟩) hS.2.2 d_AR_copyOf_0_32
set_option maxHeartbeats 4000000 in
set_option maxRecDepth 100000 in
theorem a_AS_ensure (l : Launch) (E : tp_Env) (fr : va_W) (sz : Nat) (aB ab : Nat) (xm xc : Int32) (mn : Int32) (nb : Nat) (fb : Nat → Int32) (hn : nb = 16 ∨ nb = 34) (hm : 0 ≤ mn.toInt ∧ mn.toInt ≤ 34) (hf : tp_fit fb) : Met l y_AS_ensureCapacityInternal w_AS_ensureCapacityInternal ({ frames := 3, cells := 1, slots := 34, locals := 122 }) (va_Pc [.ref aB, .int mn] (tp_in E ((aB, .inr (6, [.ref ab, .int 0, .int xm, .int xc])) :: (ab, .inl (tp_ty E 3, nb, .inl fb)) :: fr) sz)) (va_Qv (fun (u : Nat × Nat × (Nat → Int32)) => (u.2.1 = 16 ∨ u.2.1 = 34) ∧ mn.toInt ≤ (u.2.1 : Int) ∧ tp_fit u.2.2) (fun u t => tp_out E (va_A ((aB, .inr (6, [.ref ab, .int 0, .int xm, .int xc])) :: (ab, .inl (tp_ty E 3, nb, .inl fb)) :: fr) sz) ((aB, .inr (6, [.ref u.1, .int 0, .int xm, .int xc])) :: (u.1, .inl (tp_ty E 3, u.2.1, .inl u.2.2)) :: fr) t) (va_A ((aB, .inr (6, [.ref ab, .int 0, .int xm, .int xc])) :: (ab, .inl (tp_ty E 3, nb, .inl fb)) :: fr) sz)) 1 34 (va_A ((aB, .inr (6, [.ref ab, .int 0, .int xm, .int xc])) :: (ab, .inl (tp_ty E 3, nb, .inl fb)) :: fr) sz) := by
  refine Met.ofW (cc := b_AS_ensureCapacityInternal) (maxL := 3) (ret := none) (by decide) rfl ?_
  intro p e s m args below meth c s₁ B hml hv
  obtain ⟨rfl, hsz, hP, hK, hD0⟩ := hv
  have hx := B.exec
  have hb := B.bytes
  have hr := B.returns
  have htg : ∀ w ∈ tp_G, w.before ([.ref aB, .int mn] : List Value).toArray s = true := fun w h => atoms_spec (ws := w_AS_ensureCapacityInternal) B.pre w (List.mem_cons_of_mem _ h)
  have hown : s.vm.findClass "java/lang/AbstractStringBuilder" = some m.cls := findClass_of_methodNamed B.named
  have hlocks := B.notSynchronized
  subst hsz
  have hD := hD0.self (sz := s.heap.size)
  generalize hAe : va_A ((aB, .inr (6, [.ref ab, .int 0, .int xm, .int xc])) :: (ab, .inl (tp_ty E 3, nb, .inl fb)) :: fr) s.heap.size = A at hD hK ⊢
  have hA : ∀ q : Nat, s.heap.size ≤ q → A q := fun q h => by rw [← hAe]; exact Or.inr h
  have hS : va_S A s.heap s.heap [] := va_S.rf
  have hl := lv_entry ([.ref aB, .int mn]) (n := 3) (Nat.le_of_ble_eq_true rfl)
  rw [lg_entry_eq]
  generalize (lg_sl ([.ref aB, .int mn]) ++ List.replicate (3 - (lg_sl ([.ref aB, .int mn])).length) Slot.unset).toArray = ls at hl ⊢
  have hl : lv_has ls 3 [(0, .ref aB), (1, .int mn)] := hl
  rcases hn with rfl | rfl
  · refine lv_aload_n hx hb d_AS_ensureCapacityInternal_0 rfl (lv_at hl 0 rfl) ?_
    refine va_get (D := tp_D E) (ci := 6) (v := .ref ab) (C := qR_SB) (T := qF_SB) (N := 4) hx hb htg qi_SB hown hK.1 hP 0 rfl rfl 0 (by decide) (htg _ kl_AS_15) (fun _ h => h) rfl d_AS_ensureCapacityInternal_1 ?_
    refine va_alen (D := tp_D E) (v := 16) hx hb hK.1 hP 1 3 rfl rfl rfl d_AS_ensureCapacityInternal_4 ?_
    refine lv_aload_n hx hb d_AS_ensureCapacityInternal_5 rfl (lv_at hl 0 rfl) ?_
    refine va_get (D := tp_D E) (ci := 6) (v := .int 0) (C := qR_SB) (T := qF_SB) (N := 4) hx hb htg qi_SB hown hK.1 hP 0 rfl rfl 1 (by decide) (htg _ kl_AS_22) (fun _ h => h) rfl d_AS_ensureCapacityInternal_6 ?_
    refine lv_ishr hx hb d_AS_ensureCapacityInternal_9 ?_
    refine tp_topi (v := 16) (by decide) ?_
    refine lv_istore_n (lv' := [(2, .int 16), (0, .ref aB), (1, .int mn)]) hx hb d_AS_ensureCapacityInternal_10 rfl hl (by decide) rfl (fun ls hl => ?_)
    refine lv_iload_n hx hb d_AS_ensureCapacityInternal_11 rfl (lv_at hl 2 rfl) ?_
    refine lv_iload_n hx hb d_AS_ensureCapacityInternal_12 rfl (lv_at hl 0 rfl) ?_
    refine lv_isub hx hb d_AS_ensureCapacityInternal_13 ?_
    by_cases h1 : (mn - 16) ≤ 0
    · refine lv_if_le (tgt := 38) hx hb d_AS_ensureCapacityInternal_14 (by decide) (fun _ => ?_) (fun h => absurd h1 h)
      exact tp_widen (k := 1) (n := 34) (Nat.le_of_ble_eq_true rfl) (Nat.le_of_ble_eq_true rfl) (W.vret hx hb hr (fun t ht hW => ⟨⟨(ab, 16, fb), rfl, ⟨Or.inl rfl, tp_le16 hm h1, hf⟩, by rw [ht]; exact hP, hD⟩, hS.F ht⟩) hS.2.2 d_AS_ensureCapacityInternal_38)
    · refine lv_if_le (tgt := 38) hx hb d_AS_ensureCapacityInternal_14 (by decide) (fun h => absurd h h1) (fun _ => ?_)
      refine lv_aload_n hx hb d_AS_ensureCapacityInternal_17 rfl (lv_at hl 1 rfl) ?_
      refine lv_aload_n hx hb d_AS_ensureCapacityInternal_18 rfl (lv_at hl 1 rfl) ?_
      refine va_get (D := tp_D E) (ci := 6) (v := .ref ab) (C := qR_SB) (T := qF_SB) (N := 4) hx hb htg qi_SB hown hK.1 hP 0 rfl rfl 0 (by decide) (htg _ kl_AS_15) (fun _ h => h) rfl d_AS_ensureCapacityInternal_19 ?_
      refine lv_aload_n hx hb d_AS_ensureCapacityInternal_22 rfl (lv_at hl 1 rfl) ?_
      refine lv_iload_n hx hb d_AS_ensureCapacityInternal_23 rfl (lv_at hl 2 rfl) ?_
      refine tp_ci (tp_rV (As := [.int mn]) (rest := [.ref ab, .ref aB]) ⟨hx, hb, hml, hown, htg⟩ (a_AS_newCapacity l E fr _ aB ab xm xc mn fb hm) (⟨callB_of 1 htg (tp_good0 kc_AS_newCapacity) rfl rfl rfl (htg _ ki_AS) (htg _ kl_AS_104) ⟨by decide, by decide, by decide +kernel⟩ ⟨Nat.le_of_ble_eq_true rfl, Nat.le_of_ble_eq_true rfl⟩, htg _ km_AS_newCapacity, htg _ kv_SB_AS_newCapacity⟩) (va_recv (ci := 6) (q0 := 0) hK.1 hP rfl rfl) hK hP hD hS hA rfl hl.1 rfl (Nat.le_of_ble_eq_true rfl) d_AS_ensureCapacityInternal_24 ⟨Nat.le_of_ble_eq_true rfl, Nat.le_of_ble_eq_true rfl⟩) hD hS hA (fun r u H locs hw hP hD hS => ?_)
      subst r
      have hP : va_P (tp_D E) tp_cl ((aB, .inr (6, [.ref ab, .int 0, .int xm, .int xc])) :: (ab, .inl (tp_ty E 3, 16, .inl fb)) :: fr) H := hP
      have hD : va_D A ((aB, .inr (6, [.ref ab, .int 0, .int xm, .int xc])) :: (ab, .inl (tp_ty E 3, 16, .inl fb)) :: fr) := hD
      refine lv_aload_n hx hb d_AS_ensureCapacityInternal_27 rfl (lv_at hl 1 rfl) ?_
      refine va_get (D := tp_D E) (ci := 6) (v := .int 0) (C := qR_SB) (T := qF_SB) (N := 4) hx hb htg qi_SB hown hK.1 hP 0 rfl rfl 1 (by decide) (htg _ kl_AS_22) (fun _ h => h) rfl d_AS_ensureCapacityInternal_28 ?_
      refine lv_ishl hx hb d_AS_ensureCapacityInternal_31 ?_
      refine tp_topi (v := 34) (by decide) ?_
      have hP : va_P (tp_D E) tp_cl ((ab, .inl (tp_ty E 3, 16, .inl fb)) :: (aB, .inr (6, [.ref ab, .int 0, .int xm, .int xc])) :: fr) _ := tp_mvP 1 rfl hP
      have hD : va_D A ((ab, .inl (tp_ty E 3, 16, .inl fb)) :: (aB, .inr (6, [.ref ab, .int 0, .int xm, .int xc])) :: fr) := tp_mvD 1 rfl hD
      refine tp_cr (tp_rS (As := [.ref ab, .int 34]) (rest := [.ref aB]) ⟨hx, hb, hml, hown, htg⟩ (a_AR_copyOf l E ((aB, .inr (6, [.ref ab, .int 0, .int xm, .int xc])) :: fr) _ ab fb hf) (⟨callB_of 2 htg (tp_good0 kc_AR_copyOf_0) rfl rfl rfl (htg _ ki_AR) (htg _ kl_AS_108) ⟨by decide, by decide, by decide +kernel⟩ ⟨Nat.le_of_ble_eq_true rfl, Nat.le_of_ble_eq_true rfl⟩, htg _ ks_AR_copyOf_0⟩) hK hP hD hS hA rfl hl.1 rfl (Nat.le_of_ble_eq_true rfl) d_AS_ensureCapacityInternal_32 ⟨Nat.le_of_ble_eq_true rfl, Nat.le_of_ble_eq_true rfl⟩) hD hS hA (fun u H locs hw hP hD hS => ?_)
      obtain ⟨q1, gq1⟩ := u
      have hfq1 : tp_fit gq1 := hw
      have hP : va_P (tp_D E) tp_cl ((q1, .inl (tp_ty E 3, 34, .inl gq1)) :: (ab, .inl (tp_ty E 3, 16, .inl fb)) :: (aB, .inr (6, [.ref ab, .int 0, .int xm, .int xc])) :: fr) H := hP
      have hD : va_D A ((q1, .inl (tp_ty E 3, 34, .inl gq1)) :: (ab, .inl (tp_ty E 3, 16, .inl fb)) :: (aB, .inr (6, [.ref ab, .int 0, .int xm, .int xc])) :: fr) := hD
      refine va_put (D := tp_D E) (ci := 6) (v := .ref q1) (ty := (.array .byte)) (C := qR_SB) (T := qF_SB) (N := 4) hx hb htg qi_SB qt_SB qt_SB_ok qn_SB hown hK.1 hP hD hS 2 rfl rfl 0 (by decide) (htg _ kl_AS_15) (fun _ h => h) rfl (by decide +kernel) rfl rfl (Nat.le_of_ble_eq_true rfl) d_AS_ensureCapacityInternal_35 (fun H locs hP hD hS => ?_)
      have hP : va_P (tp_D E) tp_cl ((q1, .inl (tp_ty E 3, 34, .inl gq1)) :: (ab, .inl (tp_ty E 3, 16, .inl fb)) :: (aB, .inr (6, [.ref q1, .int 0, .int xm, .int xc])) :: fr) H := hP
      have hD : va_D A ((q1, .inl (tp_ty E 3, 34, .inl gq1)) :: (ab, .inl (tp_ty E 3, 16, .inl fb)) :: (aB, .inr (6, [.ref q1, .int 0, .int xm, .int xc])) :: fr) := hD
      have hP : va_P (tp_D E) tp_cl ((q1, .inl (tp_ty E 3, 34, .inl gq1)) :: (ab, .inl (tp_ty E 3, 16, .inl fb)) :: (aB, .inr (6, [.ref q1, .int 0, .int xm, .int xc])) :: fr) _ := tp_mvP 0 rfl hP
      have hD : va_D A ((q1, .inl (tp_ty E 3, 34, .inl gq1)) :: (ab, .inl (tp_ty E 3, 16, .inl fb)) :: (aB, .inr (6, [.ref q1, .int 0, .int xm, .int xc])) :: fr) := tp_mvD 0 rfl hD
      have hP : va_P (tp_D E) tp_cl ((aB, .inr (6, [.ref q1, .int 0, .int xm, .int xc])) :: (q1, .inl (tp_ty E 3, 34, .inl gq1)) :: (ab, .inl (tp_ty E 3, 16, .inl fb)) :: fr) _ := tp_mvP 2 rfl hP
      have hD : va_D A ((aB, .inr (6, [.ref q1, .int 0, .int xm, .int xc])) :: (q1, .inl (tp_ty E 3, 34, .inl gq1)) :: (ab, .inl (tp_ty E 3, 16, .inl fb)) :: fr) := tp_mvD 2 rfl hD
      have hP : va_P (tp_D E) tp_cl ((ab, .inl (tp_ty E 3, 16, .inl fb)) :: (aB, .inr (6, [.ref q1, .int 0, .int xm, .int xc])) :: (q1, .inl (tp_ty E 3, 34, .inl gq1)) :: fr) _ := tp_mvP 2 rfl hP
      have hD : va_D A ((ab, .inl (tp_ty E 3, 16, .inl fb)) :: (aB, .inr (6, [.ref q1, .int 0, .int xm, .int xc])) :: (q1, .inl (tp_ty E 3, 34, .inl gq1)) :: fr) := tp_mvD 2 rfl hD
      exact W.vret hx hb hr (fun t ht hW => ⟨⟨(q1, 34, gq1), rfl, ⟨Or.inr rfl, hm.2, hfq1⟩, by rw [ht]; exact (tp_tlP hP), (tp_tlD hD)⟩, hS.F ht⟩) hS.2.2 d_AS_ensureCapacityInternal_38
  · refine lv_aload_n hx hb d_AS_ensureCapacityInternal_0 rfl (lv_at hl 0 rfl) ?_
    refine va_get (D := tp_D E) (ci := 6) (v := .ref ab) (C := qR_SB) (T := qF_SB) (N := 4) hx hb htg qi_SB hown hK.1 hP 0 rfl rfl 0 (by decide) (htg _ kl_AS_15) (fun _ h => h) rfl d_AS_ensureCapacityInternal_1 ?_
    refine va_alen (D := tp_D E) (v := 34) hx hb hK.1 hP 1 3 rfl rfl rfl d_AS_ensureCapacityInternal_4 ?_
    refine lv_aload_n hx hb d_AS_ensureCapacityInternal_5 rfl (lv_at hl 0 rfl) ?_
    refine va_get (D := tp_D E) (ci := 6) (v := .int 0) (C := qR_SB) (T := qF_SB) (N := 4) hx hb htg qi_SB hown hK.1 hP 0 rfl rfl 1 (by decide) (htg _ kl_AS_22) (fun _ h => h) rfl d_AS_ensureCapacityInternal_6 ?_
    refine lv_ishr hx hb d_AS_ensureCapacityInternal_9 ?_
    refine tp_topi (v := 34) (by decide) ?_
    refine lv_istore_n (lv' := [(2, .int 34), (0, .ref aB), (1, .int mn)]) hx hb d_AS_ensureCapacityInternal_10 rfl hl (by decide) rfl (fun ls hl => ?_)
    refine lv_iload_n hx hb d_AS_ensureCapacityInternal_11 rfl (lv_at hl 2 rfl) ?_
    refine lv_iload_n hx hb d_AS_ensureCapacityInternal_12 rfl (lv_at hl 0 rfl) ?_
    refine lv_isub hx hb d_AS_ensureCapacityInternal_13 ?_
    refine lv_if_le (tgt := 38) hx hb d_AS_ensureCapacityInternal_14 (by decide) (fun _ => ?_) (fun h => absurd (tp_m34 hm) h)
    exact tp_widen (k := 1) (n := 34) (Nat.le_of_ble_eq_true rfl) (Nat.le_of_ble_eq_true rfl) (W.vret hx hb hr (fun t ht hW => ⟨⟨(ab, 34, fb), rfl, ⟨Or.inr rfl, hm.2, hf⟩, by rw [ht]; exact hP, hD⟩, hS.F ht⟩) hS.2.2 d_AS_ensureCapacityInternal_38)
set_option maxHeartbeats 400000 in
set_option maxRecDepth 100000 in
theorem c_AS_isLatin1_1 (l : Launch) (E : tp_Env) (fr : va_W) (sz : Nat) (a1 : Nat) (a2 : Nat) (x3 : Int32) (x4 : Int32) (x5 : Int32) (h1 : x3 = 0) : Met l y_AS_isLatin1 w_AS_isLatin1 ({ frames := 0, cells := 0, slots := 0, locals := 0 }) (va_Pc [.ref a1] (tp_in E ((a1, .inr (6, [.ref a2, .int x3, .int x4, .int x5])) :: fr) sz)) (va_Qi (fun r (_ : Unit) => r = 1) (fun _ t => tp_out E (va_A ((a1, .inr (6, [.ref a2, .int x3, .int x4, .int x5])) :: fr) sz) ((a1, .inr (6, [.ref a2, .int x3, .int x4, .int x5])) :: fr) t) (va_A ((a1, .inr (6, [.ref a2, .int x3, .int x4, .int x5])) :: fr) sz)) 0 0 (va_A ((a1, .inr (6, [.ref a2, .int x3, .int x4, .int x5])) :: fr) sz) := by
  refine Met.ofW (cc := b_AS_isLatin1) (maxL := 1) (ret := (some .boolean)) (by decide) rfl ?_
  intro p e s m args below meth c s₁ B hml hv
  obtain ⟨rfl, hsz, hP, hK, hD0⟩ := hv
  have hx := B.exec
  have hb := B.bytes
  have hr := B.returns
  have htg : ∀ w ∈ tp_G, w.before ([.ref a1] : List Value).toArray s = true := fun w h => atoms_spec (ws := w_AS_isLatin1) B.pre w (List.mem_cons_of_mem _ h)
  have hown : s.vm.findClass "java/lang/AbstractStringBuilder" = some m.cls := findClass_of_methodNamed B.named
  have hlocks := B.notSynchronized
  subst hsz
  have hD := hD0.self (sz := s.heap.size)
  generalize hAe : va_A ((a1, .inr (6, [.ref a2, .int x3, .int x4, .int x5])) :: fr) s.heap.size = A at hD hK ⊢
  have hA : ∀ q : Nat, s.heap.size ≤ q → A q := fun q h => by rw [← hAe]; exact Or.inr h
  have hS : va_S A s.heap s.heap [] := va_S.rf
  have hl := lv_entry ([.ref a1]) (n := 1) (Nat.le_of_ble_eq_true rfl)
  rw [lg_entry_eq]
  generalize (lg_sl ([.ref a1]) ++ List.replicate (1 - (lg_sl ([.ref a1])).length) Slot.unset).toArray = ls at hl ⊢
  have hl : lv_has ls 1 [(0, .ref a1)] := hl
  refine va_gets (v := .int 1) hx hb hK.C.1 hS hown (htg _ kl_AS_18) (fun _ h => h) d_AS_isLatin1_0 ?_
  refine lv_if_eq (tgt := 17) hx hb d_AS_isLatin1_3 (by decide) (fun h => absurd h (by decide)) (fun _ => ?_)
  refine lv_aload_n hx hb d_AS_isLatin1_6 rfl (lv_at hl 0 rfl) ?_
  refine va_get (D := tp_D E) (ci := 6) (v := .int x3) (C := qR_SB) (T := qF_SB) (N := 4) hx hb htg qi_SB hown hK.1 hP 0 rfl rfl 1 (by decide) (htg _ kl_AS_22) (fun _ h => h) rfl d_AS_isLatin1_7 ?_
  refine lv_if_ne (tgt := 17) hx hb d_AS_isLatin1_10 (by decide) (fun h => absurd h1 h) (fun _ => ?_)
  refine lv_iconst (v := 1) hx hb d_AS_isLatin1_13 (by decide) ?_
  refine lv_goto (tgt := 18) hx hb d_AS_isLatin1_14 (by decide) ?_
  exact W.zret (v := 1) hx hb hr rfl (fun t ht hW => ⟨⟨_, (), rfl, rfl, by rw [ht]; exact hP, hD⟩, hS.F ht⟩) hS.2.2 d_AS_isLatin1_18
set_option maxHeartbeats 400000 in
set_option maxRecDepth 100000 in
theorem c_SL_canEncode_1 (l : Launch) (E : tp_Env) (fr : va_W) (sz : Nat) (x1 : Int32) (h1 : ¬ 255 < x1) : Met l y_SL_canEncode w_SL_canEncode ({ frames := 0, cells := 0, slots := 0, locals := 0 }) (va_Pc [.int x1] (tp_in E fr sz)) (va_Qi (fun r (_ : Unit) => r = 1) (fun _ t => tp_out E (va_A fr sz) fr t) (va_A fr sz)) 0 0 (va_A fr sz) := by
  refine Met.ofW (cc := b_SL_canEncode) (maxL := 1) (ret := (some .boolean)) (by decide) rfl ?_
  intro p e s m args below meth c s₁ B hml hv
  obtain ⟨rfl, hsz, hP, hK, hD0⟩ := hv
  have hx := B.exec
  have hb := B.bytes
  have hr := B.returns
  have htg : ∀ w ∈ tp_G, w.before ([.int x1] : List Value).toArray s = true := fun w h => atoms_spec (ws := w_SL_canEncode) B.pre w (List.mem_cons_of_mem _ h)
  have hown : s.vm.findClass "java/lang/StringLatin1" = some m.cls := findClass_of_methodNamed B.named
  have hlocks := B.notSynchronized
  subst hsz
  have hD := hD0.self (sz := s.heap.size)
  generalize hAe : va_A fr s.heap.size = A at hD hK ⊢
  have hA : ∀ q : Nat, s.heap.size ≤ q → A q := fun q h => by rw [← hAe]; exact Or.inr h
  have hS : va_S A s.heap s.heap [] := va_S.rf
  have hl := lv_entry ([.int x1]) (n := 1) (Nat.le_of_ble_eq_true rfl)
  rw [lg_entry_eq]
  generalize (lg_sl ([.int x1]) ++ List.replicate (1 - (lg_sl ([.int x1])).length) Slot.unset).toArray = ls at hl ⊢
  have hl : lv_has ls 1 [(0, .int x1)] := hl
  refine lv_iload_n hx hb d_SL_canEncode_0 rfl (lv_at hl 0 rfl) ?_
  refine lv_sipush (v := 255) hx hb d_SL_canEncode_1 (by decide) ?_
  refine lv_icmp_gt (tgt := 11) hx hb d_SL_canEncode_4 (by decide) (fun h => absurd h h1) (fun _ => ?_)
  refine lv_iconst (v := 1) hx hb d_SL_canEncode_7 (by decide) ?_
  refine lv_goto (tgt := 12) hx hb d_SL_canEncode_8 (by decide) ?_
  exact W.zret (v := 1) hx hb hr rfl (fun t ht hW => ⟨⟨_, (), rfl, rfl, by rw [ht]; exact hP, hD⟩, hS.F ht⟩) hS.2.2 d_SL_canEncode_12
set_option maxHeartbeats 4000000 in
set_option maxRecDepth 100000 in
theorem a_AS_appC (l : Launch) (E : tp_Env) (fr : va_W) (sz : Nat) (aB ab : Nat) (xm xc : Int32) (nb : Nat) (fb : Nat → Int32) (xk : Int32) (hn : nb = 16 ∨ nb = 34) (hf : tp_fit fb) (hc : 0 ≤ xc.toInt ∧ xc.toInt < 34) (h1 : ¬ 255 < xk) : Met l y_AS_append_0 w_AS_append_0 ({ frames := 4, cells := 1, slots := 34, locals := 144 }) (va_Pc [.ref aB, .int xk] (tp_in E ((aB, .inr (6, [.ref ab, .int 0, .int xm, .int xc])) :: (ab, .inl (tp_ty E 3, nb, .inl fb)) :: fr) sz)) (va_Qr (fun (u : Nat × Nat × (Nat → Int32)) => (u.2.1 = 16 ∨ u.2.1 = 34) ∧ tp_fit u.2.2) (fun u q t => q = (fun (_ : Nat × Nat × (Nat → Int32)) => aB) u ∧ tp_out E (va_A ((aB, .inr (6, [.ref ab, .int 0, .int xm, .int xc])) :: (ab, .inl (tp_ty E 3, nb, .inl fb)) :: fr) sz) ((aB, .inr (6, [.ref u.1, .int 0, .int xm, .int (xc + 1)])) :: (u.1, .inl (tp_ty E 3, u.2.1, .inl u.2.2)) :: fr) t) (va_A ((aB, .inr (6, [.ref ab, .int 0, .int xm, .int xc])) :: (ab, .inl (tp_ty E 3, nb, .inl fb)) :: fr) sz)) 1 34 (va_A ((aB, .inr (6, [.ref ab, .int 0, .int xm, .int xc])) :: (ab, .inl (tp_ty E 3, nb, .inl fb)) :: fr) sz) := by
  refine Met.ofW (cc := b_AS_append_0) (maxL := 2) (ret := (some (.object "java/lang/AbstractStringBuilder"))) (by decide) rfl ?_
  intro p e s m args below meth c s₁ B hml hv
  obtain ⟨rfl, hsz, hP, hK, hD0⟩ := hv
  have hx := B.exec
  have hb := B.bytes
  have hr := B.returns
  have htg : ∀ w ∈ tp_G, w.before ([.ref aB, .int xk] : List Value).toArray s = true := fun w h => atoms_spec (ws := w_AS_append_0) B.pre w (List.mem_cons_of_mem _ h)
  have hown : s.vm.findClass "java/lang/AbstractStringBuilder" = some m.cls := findClass_of_methodNamed B.named
  have hlocks := B.notSynchronized
  subst hsz
  have hD := hD0.self (sz := s.heap.size)
  generalize hAe : va_A ((aB, .inr (6, [.ref ab, .int 0, .int xm, .int xc])) :: (ab, .inl (tp_ty E 3, nb, .inl fb)) :: fr) s.heap.size = A at hD hK ⊢
  have hA : ∀ q : Nat, s.heap.size ≤ q → A q := fun q h => by rw [← hAe]; exact Or.inr h
  have hS : va_S A s.heap s.heap [] := va_S.rf
  have hl := lv_entry ([.ref aB, .int xk]) (n := 2) (Nat.le_of_ble_eq_true rfl)
  rw [lg_entry_eq]
  generalize (lg_sl ([.ref aB, .int xk]) ++ List.replicate (2 - (lg_sl ([.ref aB, .int xk])).length) Slot.unset).toArray = ls at hl ⊢
  have hl : lv_has ls 2 [(0, .ref aB), (1, .int xk)] := hl
  refine lv_aload_n hx hb d_AS_append_0_0 rfl (lv_at hl 0 rfl) ?_
  refine lv_aload_n hx hb d_AS_append_0_1 rfl (lv_at hl 0 rfl) ?_
  refine va_get (D := tp_D E) (ci := 6) (v := .int xc) (C := qR_SB) (T := qF_SB) (N := 4) hx hb htg qi_SB hown hK.1 hP 0 rfl rfl 3 (by decide) (htg _ kl_AS_79) (fun _ h => h) rfl d_AS_append_0_2 ?_
  refine lv_iconst (v := 1) hx hb d_AS_append_0_5 (by decide) ?_
  refine lv_iadd hx hb d_AS_append_0_6 ?_
  refine tp_cv (tp_rV (As := [.int (xc + 1)]) (rest := []) ⟨hx, hb, hml, hown, htg⟩ (a_AS_ensure l E fr _ aB ab xm xc (xc + 1) nb fb hn (tp_c1 hc) hf) (⟨callB_of 1 htg (tp_good0 kc_AS_ensureCapacityInternal) rfl rfl rfl (htg _ ki_AS) (htg _ kl_AS_100) ⟨by decide, by decide, by decide +kernel⟩ ⟨Nat.le_of_ble_eq_true rfl, Nat.le_of_ble_eq_true rfl⟩, htg _ km_AS_ensureCapacityInternal, htg _ kv_SB_AS_ensureCapacityInternal⟩) (va_recv (ci := 6) (q0 := 0) hK.1 hP rfl rfl) hK hP hD hS hA rfl hl.1 rfl (Nat.le_of_ble_eq_true rfl) d_AS_append_0_7 ⟨Nat.le_of_ble_eq_true rfl, Nat.le_of_ble_eq_true rfl⟩) hD hS hA (fun u H locs hw hP hD hS => ?_)
  obtain ⟨eq1, nq1, fq1⟩ := u
  obtain ⟨hnq1, hmq1, hfq1⟩ : (nq1 = 16 ∨ nq1 = 34) ∧ (xc + 1).toInt ≤ (nq1 : Int) ∧ tp_fit fq1 := hw
  have hP : va_P (tp_D E) tp_cl ((aB, .inr (6, [.ref eq1, .int 0, .int xm, .int xc])) :: (eq1, .inl (tp_ty E 3, nq1, .inl fq1)) :: fr) H := hP
  have hD : va_D A ((aB, .inr (6, [.ref eq1, .int 0, .int xm, .int xc])) :: (eq1, .inl (tp_ty E 3, nq1, .inl fq1)) :: fr) := hD
  refine lv_aload_n hx hb d_AS_append_0_10 rfl (lv_at hl 0 rfl) ?_
  refine tp_ci (tp_rV (As := []) (rest := []) ⟨hx, hb, hml, hown, htg⟩ (c_AS_isLatin1_1 l E ((eq1, .inl (tp_ty E 3, nq1, .inl fq1)) :: fr) _ aB eq1 0 xm xc (by decide)) (⟨callB_of 0 htg (tp_good0 kc_AS_isLatin1) rfl rfl rfl (htg _ ki_AS) (htg _ kl_AS_83) ⟨by decide, by decide, by decide +kernel⟩ ⟨Nat.le_of_ble_eq_true rfl, Nat.le_of_ble_eq_true rfl⟩, htg _ km_AS_isLatin1, htg _ kv_SB_AS_isLatin1⟩) (va_recv (ci := 6) (q0 := 0) hK.1 hP rfl rfl) hK hP hD hS hA rfl hl.1 rfl (Nat.le_of_ble_eq_true rfl) d_AS_append_0_11 ⟨Nat.le_of_ble_eq_true rfl, Nat.le_of_ble_eq_true rfl⟩) hD hS hA (fun r u H locs hw hP hD hS => ?_)
  subst r
  have hP : va_P (tp_D E) tp_cl ((aB, .inr (6, [.ref eq1, .int 0, .int xm, .int xc])) :: (eq1, .inl (tp_ty E 3, nq1, .inl fq1)) :: fr) H := hP
  have hD : va_D A ((aB, .inr (6, [.ref eq1, .int 0, .int xm, .int xc])) :: (eq1, .inl (tp_ty E 3, nq1, .inl fq1)) :: fr) := hD
  refine lv_if_eq (tgt := 45) hx hb d_AS_append_0_14 (by decide) (fun h => absurd h (by decide)) (fun _ => ?_)
  refine lv_iload_n hx hb d_AS_append_0_17 rfl (lv_at hl 1 rfl) ?_
  refine tp_ci (tp_rS (As := [.int xk]) (rest := []) ⟨hx, hb, hml, hown, htg⟩ (c_SL_canEncode_1 l E ((aB, .inr (6, [.ref eq1, .int 0, .int xm, .int xc])) :: (eq1, .inl (tp_ty E 3, nq1, .inl fq1)) :: fr) _ xk h1) (⟨callB_of 1 htg (tp_good0 kc_SL_canEncode) rfl rfl rfl (htg _ ki_SL) (htg _ kl_AS_191) ⟨by decide, by decide, by decide +kernel⟩ ⟨Nat.le_of_ble_eq_true rfl, Nat.le_of_ble_eq_true rfl⟩, htg _ ks_SL_canEncode⟩) hK hP hD hS hA rfl hl.1 rfl (Nat.le_of_ble_eq_true rfl) d_AS_append_0_18 ⟨Nat.le_of_ble_eq_true rfl, Nat.le_of_ble_eq_true rfl⟩) hD hS hA (fun r u H locs hw hP hD hS => ?_)
  subst r
  have hP : va_P (tp_D E) tp_cl ((aB, .inr (6, [.ref eq1, .int 0, .int xm, .int xc])) :: (eq1, .inl (tp_ty E 3, nq1, .inl fq1)) :: fr) H := hP
  have hD : va_D A ((aB, .inr (6, [.ref eq1, .int 0, .int xm, .int xc])) :: (eq1, .inl (tp_ty E 3, nq1, .inl fq1)) :: fr) := hD
  refine lv_if_eq (tgt := 45) hx hb d_AS_append_0_21 (by decide) (fun h => absurd h (by decide)) (fun _ => ?_)
  refine lv_aload_n hx hb d_AS_append_0_24 rfl (lv_at hl 0 rfl) ?_
  refine va_get (D := tp_D E) (ci := 6) (v := .ref eq1) (C := qR_SB) (T := qF_SB) (N := 4) hx hb htg qi_SB hown hK.1 hP 0 rfl rfl 0 (by decide) (htg _ kl_AS_15) (fun _ h => h) rfl d_AS_append_0_25 ?_
  refine lv_aload_n hx hb d_AS_append_0_28 rfl (lv_at hl 0 rfl) ?_
  refine lv_dup hx hb d_AS_append_0_29 rfl ?_
  refine va_get (D := tp_D E) (ci := 6) (v := .int xc) (C := qR_SB) (T := qF_SB) (N := 4) hx hb htg qi_SB hown hK.1 hP 0 rfl rfl 3 (by decide) (htg _ kl_AS_79) (fun _ h => h) rfl d_AS_append_0_30 ?_
  refine lv_dup_x1 hx hb d_AS_append_0_33 rfl rfl ?_
  refine lv_iconst (v := 1) hx hb d_AS_append_0_34 (by decide) ?_
  refine lv_iadd hx hb d_AS_append_0_35 ?_
  refine va_put (D := tp_D E) (ci := 6) (v := .int (xc + 1)) (ty := .int) (C := qR_SB) (T := qF_SB) (N := 4) hx hb htg qi_SB qt_SB qt_SB_ok qn_SB hown hK.1 hP hD hS 0 rfl rfl 3 (by decide) (htg _ kl_AS_79) (fun _ h => h) rfl (by decide +kernel) rfl rfl (Nat.le_of_ble_eq_true rfl) d_AS_append_0_36 (fun H locs hP hD hS => ?_)
  have hP : va_P (tp_D E) tp_cl ((aB, .inr (6, [.ref eq1, .int 0, .int xm, .int (xc + 1)])) :: (eq1, .inl (tp_ty E 3, nq1, .inl fq1)) :: fr) H := hP
  have hD : va_D A ((aB, .inr (6, [.ref eq1, .int 0, .int xm, .int (xc + 1)])) :: (eq1, .inl (tp_ty E 3, nq1, .inl fq1)) :: fr) := hD
  refine lv_iload_n hx hb d_AS_append_0_39 rfl (lv_at hl 1 rfl) ?_
  refine lv_i2b (v := xk.toInt8.toInt32) hx hb d_AS_append_0_40 rfl ?_
  refine va_bast (D := tp_D E) hx hb hK.1 hP hD hS 1 3 rfl rfl (tp_vc hc hmq1) d_AS_append_0_41 (fun H locs hP hD hS => ?_)
  have hP : va_P (tp_D E) tp_cl ((aB, .inr (6, [.ref eq1, .int 0, .int xm, .int (xc + 1)])) :: (eq1, .inl (tp_ty E 3, nq1, .inl (upd fq1 xc.toNatClampNeg (vp_nar .byte xk.toInt8.toInt32)))) :: fr) H := hP
  have hD : va_D A ((aB, .inr (6, [.ref eq1, .int 0, .int xm, .int (xc + 1)])) :: (eq1, .inl (tp_ty E 3, nq1, .inl (upd fq1 xc.toNatClampNeg (vp_nar .byte xk.toInt8.toInt32)))) :: fr) := hD
  refine lv_goto (tgt := 75) hx hb d_AS_append_0_42 (by decide) ?_
  refine lv_aload_n hx hb d_AS_append_0_75 rfl (lv_at hl 0 rfl) ?_
  exact W.aret (v := .ref aB) hx hb hr (Or.inl ⟨_, rfl⟩) (Or.inr ⟨_, rfl⟩) (fun t ht hW => ⟨⟨(eq1, nq1, (upd fq1 xc.toNatClampNeg (vp_nar .byte xk.toInt8.toInt32))), _, rfl, ⟨hnq1, tp_fitst hfq1⟩, rfl, by rw [ht]; exact hP, hD⟩, hS.F ht⟩) hS.2.2 d_AS_append_0_76
set_option maxHeartbeats 4000000 in
set_option maxRecDepth 100000 in
theorem a_SB_appC (l : Launch) (E : tp_Env) (fr : va_W) (sz : Nat) (aB ab : Nat) (xm xc : Int32) (nb : Nat) (fb : Nat → Int32) (xk : Int32) (hn : nb = 16 ∨ nb = 34) (hf : tp_fit fb) (hc : 0 ≤ xc.toInt ∧ xc.toInt < 34) (h1 : ¬ 255 < xk) : Met l y_SB_append_0 w_SB_append_0 ({ frames := 5, cells := 1, slots := 34, locals := 165 }) (va_Pc [.ref aB, .int xk] (tp_in E ((aB, .inr (6, [.ref ab, .int 0, .int xm, .int xc])) :: (ab, .inl (tp_ty E 3, nb, .inl fb)) :: fr) sz)) (va_Qr (fun (u : Nat × Nat × (Nat → Int32)) => (u.2.1 = 16 ∨ u.2.1 = 34) ∧ tp_fit u.2.2) (fun u q t => q = (fun (_ : Nat × Nat × (Nat → Int32)) => aB) u ∧ tp_out E (va_A ((aB, .inr (6, [.ref ab, .int 0, .int xm, .int xc])) :: (ab, .inl (tp_ty E 3, nb, .inl fb)) :: fr) sz) ((aB, .inr (6, [.ref u.1, .int 0, .int xm, .int (xc + 1)])) :: (u.1, .inl (tp_ty E 3, u.2.1, .inl u.2.2)) :: fr) t) (va_A ((aB, .inr (6, [.ref ab, .int 0, .int xm, .int xc])) :: (ab, .inl (tp_ty E 3, nb, .inl fb)) :: fr) sz)) 1 34 (va_A ((aB, .inr (6, [.ref ab, .int 0, .int xm, .int xc])) :: (ab, .inl (tp_ty E 3, nb, .inl fb)) :: fr) sz) := by
  refine Met.ofW (cc := b_SB_append_0) (maxL := 2) (ret := (some (.object "java/lang/StringBuilder"))) (by decide) rfl ?_
  intro p e s m args below meth c s₁ B hml hv
  obtain ⟨rfl, hsz, hP, hK, hD0⟩ := hv
  have hx := B.exec
  have hb := B.bytes
  have hr := B.returns
  have htg : ∀ w ∈ tp_G, w.before ([.ref aB, .int xk] : List Value).toArray s = true := fun w h => atoms_spec (ws := w_SB_append_0) B.pre w (List.mem_cons_of_mem _ h)
  have hown : s.vm.findClass "java/lang/StringBuilder" = some m.cls := findClass_of_methodNamed B.named
  have hlocks := B.notSynchronized
  subst hsz
  have hD := hD0.self (sz := s.heap.size)
  generalize hAe : va_A ((aB, .inr (6, [.ref ab, .int 0, .int xm, .int xc])) :: (ab, .inl (tp_ty E 3, nb, .inl fb)) :: fr) s.heap.size = A at hD hK ⊢
  have hA : ∀ q : Nat, s.heap.size ≤ q → A q := fun q h => by rw [← hAe]; exact Or.inr h
  have hS : va_S A s.heap s.heap [] := va_S.rf
  have hl := lv_entry ([.ref aB, .int xk]) (n := 2) (Nat.le_of_ble_eq_true rfl)
  rw [lg_entry_eq]
  generalize (lg_sl ([.ref aB, .int xk]) ++ List.replicate (2 - (lg_sl ([.ref aB, .int xk])).length) Slot.unset).toArray = ls at hl ⊢
  have hl : lv_has ls 2 [(0, .ref aB), (1, .int xk)] := hl
  refine lv_aload_n hx hb d_SB_append_0_0 rfl (lv_at hl 0 rfl) ?_
  refine lv_iload_n hx hb d_SB_append_0_1 rfl (lv_at hl 1 rfl) ?_
  refine tp_cr (tp_rU (As := [.int xk]) (rest := []) ⟨hx, hb, hml, hown, htg⟩ (a_AS_appC l E fr _ aB ab xm xc nb fb xk hn hf hc h1) (tp_cwU 1 htg kc_AS_append_0 (htg _ kl_SB_50) (htg _ kq_AS_append_0) (htg _ kz_SB) (htg _ km_AS_append_0) (htg _ ki_AS) ⟨by decide, by decide +kernel⟩ ⟨Nat.le_of_ble_eq_true rfl, Nat.le_of_ble_eq_true rfl⟩) (va_recv (ci := 6) (q0 := 0) hK.1 hP rfl rfl) (hK.1.1 6 _ rfl).2 hK hP hD hS hA rfl hl.1 rfl (Nat.le_of_ble_eq_true rfl) d_SB_append_0_2 ⟨Nat.le_of_ble_eq_true rfl, Nat.le_of_ble_eq_true rfl⟩) hD hS hA (fun u H locs hw hP hD hS => ?_)
  obtain ⟨eq1, nq1, fq1⟩ := u
  obtain ⟨hnq1, hfq1⟩ : (nq1 = 16 ∨ nq1 = 34) ∧ tp_fit fq1 := hw
  have hP : va_P (tp_D E) tp_cl ((aB, .inr (6, [.ref eq1, .int 0, .int xm, .int (xc + 1)])) :: (eq1, .inl (tp_ty E 3, nq1, .inl fq1)) :: fr) H := hP
  have hD : va_D A ((aB, .inr (6, [.ref eq1, .int 0, .int xm, .int (xc + 1)])) :: (eq1, .inl (tp_ty E 3, nq1, .inl fq1)) :: fr) := hD
  refine lv_pop hx hb d_SB_append_0_5 rfl ?_
  refine lv_aload_n hx hb d_SB_append_0_6 rfl (lv_at hl 0 rfl) ?_
  exact W.aret (v := .ref aB) hx hb hr (Or.inl ⟨_, rfl⟩) (Or.inr ⟨_, rfl⟩) (fun t ht hW => ⟨⟨(eq1, nq1, fq1), _, rfl, ⟨hnq1, hfq1⟩, rfl, by rw [ht]; exact hP, hD⟩, hS.F ht⟩) hS.2.2 d_SB_append_0_7
