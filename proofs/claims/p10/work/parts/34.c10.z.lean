set_option maxHeartbeats 4000000 in
set_option maxRecDepth 100000 in
theorem s_L_type (l : Launch) (hfl : l.stackTraces = false) (E : tp_Env) (fr : va_W) (sz : Nat) (aT aS aB : Nat) (xl xg : Int32) (aY aC : Nat) (xc xe xa xw xv : Int32) (fC : Nat → Int32) (xb : Int64) (xn : Int32) (hxc : 0 ≤ xc.toInt ∧ xc.toInt ≤ 28) : Met l y_L_type w_L_type ({ frames := 7, cells := 1, slots := 6, locals := 114 }) (va_Pc [.ref aT, .long xb, .int xn] (tp_in E ((aT, .inr (0, [.ref aY, .ref aS, .ref aB, .int xl, .int xg])) :: (aY, .inr (1, [.ref aC, .int xc, .int xe, .int xa, .int xw, .int xv])) :: (aC, .inl (tp_ty E 4, 28, .inl fC)) :: fr) sz)) (va_Qi (fun r (u : Int32 × (Nat → Int32)) => (r = 0 ∧ tp_valT xb xn ∧ (xc + xn) ≤ 28 ∧ u.1.toInt = xc.toInt + xn.toInt) ∨ (r = 1 ∧ (¬ tp_valT xb xn) ∧ u.1 = xc) ∨ (r = 2 ∧ tp_valT xb xn ∧ (¬ (xc + xn) ≤ 28) ∧ u.1 = xc)) (fun u t => tp_out E (va_A ((aT, .inr (0, [.ref aY, .ref aS, .ref aB, .int xl, .int xg])) :: (aY, .inr (1, [.ref aC, .int xc, .int xe, .int xa, .int xw, .int xv])) :: (aC, .inl (tp_ty E 4, 28, .inl fC)) :: fr) sz) ((aT, .inr (0, [.ref aY, .ref aS, .ref aB, .int xl, .int xg])) :: (aY, .inr (1, [.ref aC, .int u.1, .int xe, .int xa, .int xw, .int xv])) :: (aC, .inl (tp_ty E 4, 28, .inl u.2)) :: fr) t) (va_A ((aT, .inr (0, [.ref aY, .ref aS, .ref aB, .int xl, .int xg])) :: (aY, .inr (1, [.ref aC, .int xc, .int xe, .int xa, .int xw, .int xv])) :: (aC, .inl (tp_ty E 4, 28, .inl fC)) :: fr) sz)) 1 6 (va_A ((aT, .inr (0, [.ref aY, .ref aS, .ref aB, .int xl, .int xg])) :: (aY, .inr (1, [.ref aC, .int xc, .int xe, .int xa, .int xw, .int xv])) :: (aC, .inl (tp_ty E 4, 28, .inl fC)) :: fr) sz) := by
  refine va_MetW (cc := b_L_type) (maxL := 5) (ret := (some .int)) (hh := [(0, 6, 9, 13), (0, 6, 13, 15)]) (by decide) rfl ?_
  intro p e s m args below meth c s₁ B hml hv
  obtain ⟨rfl, hsz, hP, hK, hD0⟩ := hv
  have hx := B.exec
  have hb := B.bytes
  have hr := B.returns
  have htab : c.exceptionTable.toList = tableOf [(0, 6, 9, 13), (0, 6, 13, 15)] := vx_table (x := y_L_type) B (atoms_spec (ws := w_L_type) B.pre _ List.mem_cons_self)
  have htg : ∀ w ∈ tp_G, w.before ([.ref aT, .long xb, .int xn] : List Value).toArray s = true := fun w h => atoms_spec (ws := w_L_type) B.pre w (List.mem_cons_of_mem _ h)
  have hown : s.vm.findClass "TwoPassLaw" = some m.cls := findClass_of_methodNamed B.named
  have hlocks := B.notSynchronized
  subst hsz
  have hD := hD0.self (sz := s.heap.size)
  generalize hAe : va_A ((aT, .inr (0, [.ref aY, .ref aS, .ref aB, .int xl, .int xg])) :: (aY, .inr (1, [.ref aC, .int xc, .int xe, .int xa, .int xw, .int xv])) :: (aC, .inl (tp_ty E 4, 28, .inl fC)) :: fr) s.heap.size = A at hD hK ⊢
  have hA : ∀ q : Nat, s.heap.size ≤ q → A q := fun q h => by rw [← hAe]; exact Or.inr h
  have hS : va_S A s.heap s.heap [] := va_S.rf
  have hl := lv_entry ([.ref aT, .long xb, .int xn]) (n := 5) (Nat.le_of_ble_eq_true rfl)
  rw [lg_entry_eq]
  generalize (lg_sl ([.ref aT, .long xb, .int xn]) ++ List.replicate (5 - (lg_sl ([.ref aT, .long xb, .int xn])).length) Slot.unset).toArray = ls at hl ⊢
  have hl : lv_has ls 5 [(0, .ref aT), (1, .long xb), (3, .int xn)] := hl
  refine lv_aload_n hx hb d_L_type_0 rfl (lv_at hl 0 rfl) ?_
  refine lv_lload_n hx hb d_L_type_1 rfl (lv_at hl 1 rfl) ?_
  refine lv_iload_n hx hb d_L_type_2 rfl (lv_at hl 2 rfl) ?_
  refine sf_bv (tp_xV (As := [.long xb, .int xn]) (rest := []) ⟨hx, hb, hml, hown, htg⟩ (s_T_type l hfl E fr _ aT aS aB xl xg aY aC xc xe xa xw xv fC xn xb hxc) (⟨callB_of 2 htg (tp_good0 kc_T_type) rfl rfl rfl (htg _ ki_T) (htg _ kl_L_7) ⟨by decide, by decide, by decide +kernel⟩ ⟨Nat.le_of_ble_eq_true rfl, Nat.le_of_ble_eq_true rfl⟩, htg _ km_T_type, htg _ kv_T_T_type⟩) (va_recv (ci := 0) (q0 := 0) hK.1 hP rfl rfl) hK hP hD hS hA rfl hl.1 rfl (Nat.le_of_ble_eq_true rfl) d_L_type_3 ⟨Nat.le_of_ble_eq_true rfl, Nat.le_of_ble_eq_true rfl⟩) hD hS hA (fun ce q xu H locs hpx hP hD hS hce hcv hcl => ?_) (fun u H locs hw hP hD hS => ?_)
  · rcases hpx with ⟨rfl, hpv⟩ | ⟨rfl, hpv⟩
    · have hP : va_P (tp_D E) tp_cl ((aT, .inr (0, [.ref aY, .ref aS, .ref aB, .int xl, .int xg])) :: (aY, .inr (1, [.ref aC, .int xc, .int xe, .int xa, .int xw, .int xv])) :: (aC, .inl (tp_ty E 4, 28, .inl fC)) :: fr) H := hP
      have hD : va_D A ((aT, .inr (0, [.ref aY, .ref aS, .ref aB, .int xl, .int xg])) :: (aY, .inr (1, [.ref aC, .int xc, .int xe, .int xa, .int xw, .int xv])) :: (aC, .inl (tp_ty E 4, 28, .inl fC)) :: fr) := hD
      refine vx_catch (own := "TwoPassLaw") (name := "java/lang/IllegalArgumentException") hown [] ⟨0, 6, 9, 13⟩ (tableOf [(0, 6, 13, 15)]) htab (fun _ h => by cases h) rfl (by decide) (htg _ kl_L_13) (hK.2.2.2.1.use kct_IllegalArgumentException) hce hcv hcl ?_
      refine lv_astore (lv' := [(4, .ref q), (0, .ref aT), (1, .long xb), (3, .int xn)]) hx hb d_L_type_9 hl (by decide) rfl (fun ls hl => ?_)
      refine lv_iconst (v := 1) hx hb d_L_type_11 (by decide) ?_
      exact W.iret (v := 1) hx hb hr (fun t ht hW => ⟨⟨_, (xc, fC), rfl, Or.inr (Or.inl ⟨rfl, hpv, rfl⟩), by rw [ht]; exact hP, hD⟩, hS.F ht⟩) hS.2.2 d_L_type_12
    · have hP : va_P (tp_D E) tp_cl ((aT, .inr (0, [.ref aY, .ref aS, .ref aB, .int xl, .int xg])) :: (aY, .inr (1, [.ref aC, .int xc, .int xe, .int xa, .int xw, .int xv])) :: (aC, .inl (tp_ty E 4, 28, .inl fC)) :: fr) H := hP
      have hD : va_D A ((aT, .inr (0, [.ref aY, .ref aS, .ref aB, .int xl, .int xg])) :: (aY, .inr (1, [.ref aC, .int xc, .int xe, .int xa, .int xw, .int xv])) :: (aC, .inl (tp_ty E 4, 28, .inl fC)) :: fr) := hD
      refine vx_catch (own := "TwoPassLaw") (name := "java/lang/IllegalStateException") hown [⟨0, 6, 9, 13⟩] ⟨0, 6, 13, 15⟩ (tableOf []) htab (fun z hz => by simp only [List.mem_cons, List.not_mem_nil, or_false] at hz; rcases hz with rfl; exact Or.inr ⟨by decide, _, htg _ kl_L_13, hK.R.2.2.2.2.1⟩) rfl (by decide) (htg _ kl_L_15) (hK.2.2.2.1.use kct_IllegalStateException) hce hcv hcl ?_
      refine lv_astore (lv' := [(4, .ref q), (0, .ref aT), (1, .long xb), (3, .int xn)]) hx hb d_L_type_13 hl (by decide) rfl (fun ls hl => ?_)
      refine lv_iconst (v := 2) hx hb d_L_type_15 (by decide) ?_
      exact W.iret (v := 2) hx hb hr (fun t ht hW => ⟨⟨_, (xc, fC), rfl, Or.inr (Or.inr ⟨rfl, hpv.1, hpv.2, rfl⟩), by rw [ht]; exact hP, hD⟩, hS.F ht⟩) hS.2.2 d_L_type_16
  · obtain ⟨c2, f2⟩ := u
    obtain ⟨hv1, hv2, hv3⟩ : (tp_valT xb xn) ∧ ((xc + xn) ≤ 28) ∧ (c2.toInt = xc.toInt + xn.toInt) := hw
    have hP : va_P (tp_D E) tp_cl ((aT, .inr (0, [.ref aY, .ref aS, .ref aB, .int xl, .int xg])) :: (aY, .inr (1, [.ref aC, .int c2, .int xe, .int xa, .int xw, .int xv])) :: (aC, .inl (tp_ty E 4, 28, .inl f2)) :: fr) H := hP
    have hD : va_D A ((aT, .inr (0, [.ref aY, .ref aS, .ref aB, .int xl, .int xg])) :: (aY, .inr (1, [.ref aC, .int c2, .int xe, .int xa, .int xw, .int xv])) :: (aC, .inl (tp_ty E 4, 28, .inl f2)) :: fr) := hD
    refine lv_goto (tgt := 17) hx hb d_L_type_6 (by decide) ?_
    refine lv_iconst (v := 0) hx hb d_L_type_17 (by decide) ?_
    exact W.iret (v := 0) hx hb hr (fun t ht hW => ⟨⟨_, (c2, f2), rfl, Or.inl ⟨rfl, hv1, hv2, hv3⟩, by rw [ht]; exact hP, hD⟩, hS.F ht⟩) hS.2.2 d_L_type_18
set_option maxHeartbeats 4000000 in
set_option maxRecDepth 100000 in
theorem s_L_line (l : Launch) (hfl : l.stackTraces = false) (E : tp_Env) (fr : va_W) (sz : Nat) (aT aY aS aB aS0 aS1 aL0 aL1 e0 e1 : Nat) (xl xg mo0 n0 mo1 n1 : Int32) (fS : Nat → Option Nat) (aC : Nat) (xc xe xa xw xv : Int32) (fC : Nat → Int32) (aO : Nat) (fO : Nat → Int64) (xm : Int32) (hs0 : fS 0 = some aS0) (hs1 : fS 1 = some aS1) (htw : sf_two E e0 n0 e1 n1 fr) (hxc : 0 ≤ xc.toInt ∧ xc.toInt ≤ 28) : Met l y_L_line w_L_line ({ frames := 12, cells := 22, slots := 153, locals := 254 }) (va_Pc [.ref aT, .int xm, .ref aO] (tp_in E ((aT, .inr (0, [.ref aY, .ref aS, .ref aB, .int xl, .int xg])) :: (aS, .inl (tp_ty E 6, 2, .inr (.inr (.inr (.inr fS))))) :: (aS0, .inr (2, [.ref aL0])) :: (aS1, .inr (2, [.ref aL1])) :: (aL0, .inr (5, [.int mo0, .ref e0, .int n0])) :: (aL1, .inr (5, [.int mo1, .ref e1, .int n1])) :: (aY, .inr (1, [.ref aC, .int xc, .int xe, .int xa, .int xw, .int xv])) :: (aC, .inl (tp_ty E 4, 28, .inl fC)) :: (aO, .inl (tp_ty E 1, 1, .inr (.inl fO))) :: fr) sz)) (va_Qi (fun r (u : (va_W × (Int32 × Nat × Int32) × (Int32 × Nat × Int32)) × (Int32 × Int32 × Int32) × Int32 × (Nat → Int64)) => sf_ev E fr u.1.1 ∧ sf_two E u.1.2.1.2.1 u.1.2.1.2.2 u.1.2.2.2.1 u.1.2.2.2.2 u.1.1) (fun u t => tp_out E (va_A ((aT, .inr (0, [.ref aY, .ref aS, .ref aB, .int xl, .int xg])) :: (aS, .inl (tp_ty E 6, 2, .inr (.inr (.inr (.inr fS))))) :: (aS0, .inr (2, [.ref aL0])) :: (aS1, .inr (2, [.ref aL1])) :: (aL0, .inr (5, [.int mo0, .ref e0, .int n0])) :: (aL1, .inr (5, [.int mo1, .ref e1, .int n1])) :: (aY, .inr (1, [.ref aC, .int xc, .int xe, .int xa, .int xw, .int xv])) :: (aC, .inl (tp_ty E 4, 28, .inl fC)) :: (aO, .inl (tp_ty E 1, 1, .inr (.inl fO))) :: fr) sz) ((aT, .inr (0, [.ref aY, .ref aS, .ref aB, .int u.2.2.1, .int xg])) :: (aS, .inl (tp_ty E 6, 2, .inr (.inr (.inr (.inr fS))))) :: (aS0, .inr (2, [.ref aL0])) :: (aS1, .inr (2, [.ref aL1])) :: (aL0, .inr (5, [.int u.1.2.1.1, .ref u.1.2.1.2.1, .int u.1.2.1.2.2])) :: (aL1, .inr (5, [.int u.1.2.2.1, .ref u.1.2.2.2.1, .int u.1.2.2.2.2])) :: (aY, .inr (1, [.ref aC, .int 0, .int xc, .int u.2.1.1, .int u.2.1.2.1, .int u.2.1.2.2])) :: (aC, .inl (tp_ty E 4, 28, .inl fC)) :: (aO, .inl (tp_ty E 1, 1, .inr (.inl u.2.2.2))) :: u.1.1) t) (va_A ((aT, .inr (0, [.ref aY, .ref aS, .ref aB, .int xl, .int xg])) :: (aS, .inl (tp_ty E 6, 2, .inr (.inr (.inr (.inr fS))))) :: (aS0, .inr (2, [.ref aL0])) :: (aS1, .inr (2, [.ref aL1])) :: (aL0, .inr (5, [.int mo0, .ref e0, .int n0])) :: (aL1, .inr (5, [.int mo1, .ref e1, .int n1])) :: (aY, .inr (1, [.ref aC, .int xc, .int xe, .int xa, .int xw, .int xv])) :: (aC, .inl (tp_ty E 4, 28, .inl fC)) :: (aO, .inl (tp_ty E 1, 1, .inr (.inl fO))) :: fr) sz)) 22 153 (va_A ((aT, .inr (0, [.ref aY, .ref aS, .ref aB, .int xl, .int xg])) :: (aS, .inl (tp_ty E 6, 2, .inr (.inr (.inr (.inr fS))))) :: (aS0, .inr (2, [.ref aL0])) :: (aS1, .inr (2, [.ref aL1])) :: (aL0, .inr (5, [.int mo0, .ref e0, .int n0])) :: (aL1, .inr (5, [.int mo1, .ref e1, .int n1])) :: (aY, .inr (1, [.ref aC, .int xc, .int xe, .int xa, .int xw, .int xv])) :: (aC, .inl (tp_ty E 4, 28, .inl fC)) :: (aO, .inl (tp_ty E 1, 1, .inr (.inl fO))) :: fr) sz) := by
  refine va_MetW (cc := b_L_line) (maxL := 4) (ret := (some .int)) (hh := [(0, 9, 12, 13), (0, 9, 15, 15)]) (by decide) rfl ?_
  intro p e s m args below meth c s₁ B hml hv
  obtain ⟨rfl, hsz, hP, hK, hD0⟩ := hv
  have hx := B.exec
  have hb := B.bytes
  have hr := B.returns
  have htab : c.exceptionTable.toList = tableOf [(0, 9, 12, 13), (0, 9, 15, 15)] := vx_table (x := y_L_line) B (atoms_spec (ws := w_L_line) B.pre _ List.mem_cons_self)
  have htg : ∀ w ∈ tp_G, w.before ([.ref aT, .int xm, .ref aO] : List Value).toArray s = true := fun w h => atoms_spec (ws := w_L_line) B.pre w (List.mem_cons_of_mem _ h)
  have hown : s.vm.findClass "TwoPassLaw" = some m.cls := findClass_of_methodNamed B.named
  have hlocks := B.notSynchronized
  subst hsz
  have hD := hD0.self (sz := s.heap.size)
  generalize hAe : va_A ((aT, .inr (0, [.ref aY, .ref aS, .ref aB, .int xl, .int xg])) :: (aS, .inl (tp_ty E 6, 2, .inr (.inr (.inr (.inr fS))))) :: (aS0, .inr (2, [.ref aL0])) :: (aS1, .inr (2, [.ref aL1])) :: (aL0, .inr (5, [.int mo0, .ref e0, .int n0])) :: (aL1, .inr (5, [.int mo1, .ref e1, .int n1])) :: (aY, .inr (1, [.ref aC, .int xc, .int xe, .int xa, .int xw, .int xv])) :: (aC, .inl (tp_ty E 4, 28, .inl fC)) :: (aO, .inl (tp_ty E 1, 1, .inr (.inl fO))) :: fr) s.heap.size = A at hD hK ⊢
  have hA : ∀ q : Nat, s.heap.size ≤ q → A q := fun q h => by rw [← hAe]; exact Or.inr h
  have hS : va_S A s.heap s.heap [] := va_S.rf
  have hl := lv_entry ([.ref aT, .int xm, .ref aO]) (n := 4) (Nat.le_of_ble_eq_true rfl)
  rw [lg_entry_eq]
  generalize (lg_sl ([.ref aT, .int xm, .ref aO]) ++ List.replicate (4 - (lg_sl ([.ref aT, .int xm, .ref aO])).length) Slot.unset).toArray = ls at hl ⊢
  have hl : lv_has ls 4 [(0, .ref aT), (1, .int xm), (2, .ref aO)] := hl
  have hr0 := htw.1
  have hr1 := htw.2.1
  have htw0 := htw.1
  have htw1 := htw.2.1
  refine lv_aload_n hx hb d_L_line_0 rfl (lv_at hl 2 rfl) ?_
  refine lv_iconst (v := 0) hx hb d_L_line_1 (by decide) ?_
  refine lv_aload_n hx hb d_L_line_2 rfl (lv_at hl 0 rfl) ?_
  refine lv_iload_n hx hb d_L_line_3 rfl (lv_at hl 1 rfl) ?_
  refine sf_bi (tp_xV (As := [.int xm]) (rest := [.int 0, .ref aO]) ⟨hx, hb, hml, hown, htg⟩ (s_T_line l hfl E ((aO, .inl (tp_ty E 1, 1, .inr (.inl fO))) :: fr) _ aT aY aS aB aS0 aS1 aL0 aL1 e0 e1 xl xg mo0 n0 mo1 n1 fS aC xc xe xa xw xv fC xm hs0 hs1 (sf_two.cons htw) hxc) (⟨callB_of 1 htg (tp_good0 kc_T_line) rfl rfl rfl (htg _ ki_T) (htg _ kl_L_17) ⟨by decide, by decide, by decide +kernel⟩ ⟨Nat.le_of_ble_eq_true rfl, Nat.le_of_ble_eq_true rfl⟩, htg _ km_T_line, htg _ kv_T_T_line⟩) (va_recv (ci := 0) (q0 := 0) hK.1 hP rfl rfl) hK hP hD hS hA rfl hl.1 rfl (Nat.le_of_ble_eq_true rfl) d_L_line_4 ⟨Nat.le_of_ble_eq_true rfl, Nat.le_of_ble_eq_true rfl⟩) hD hS hA (fun ce q xu H locs hpx hP hD hS hce hcv hcl => ?_) (fun rl u H locs hw hP hD hS => ?_)
  · obtain ⟨nx, at_, ws_, we_⟩ := xu
    rcases hpx with hpx | hpx <;> (have hpx : nx = _ := hpx; subst hpx)
    · have hP : va_P (tp_D E) tp_cl ((aT, .inr (0, [.ref aY, .ref aS, .ref aB, .int xl, .int xg])) :: (aS, .inl (tp_ty E 6, 2, .inr (.inr (.inr (.inr fS))))) :: (aS0, .inr (2, [.ref aL0])) :: (aS1, .inr (2, [.ref aL1])) :: (aL0, .inr (5, [.int mo0, .ref e0, .int n0])) :: (aL1, .inr (5, [.int mo1, .ref e1, .int n1])) :: (aY, .inr (1, [.ref aC, .int 0, .int xc, .int at_, .int ws_, .int we_])) :: (aC, .inl (tp_ty E 4, 28, .inl fC)) :: (aO, .inl (tp_ty E 1, 1, .inr (.inl fO))) :: fr) H := hP
      have hD : va_D A ((aT, .inr (0, [.ref aY, .ref aS, .ref aB, .int xl, .int xg])) :: (aS, .inl (tp_ty E 6, 2, .inr (.inr (.inr (.inr fS))))) :: (aS0, .inr (2, [.ref aL0])) :: (aS1, .inr (2, [.ref aL1])) :: (aL0, .inr (5, [.int mo0, .ref e0, .int n0])) :: (aL1, .inr (5, [.int mo1, .ref e1, .int n1])) :: (aY, .inr (1, [.ref aC, .int 0, .int xc, .int at_, .int ws_, .int we_])) :: (aC, .inl (tp_ty E 4, 28, .inl fC)) :: (aO, .inl (tp_ty E 1, 1, .inr (.inl fO))) :: fr) := hD
      refine vx_catch (own := "TwoPassLaw") (name := "java/lang/IllegalArgumentException") hown [] ⟨0, 9, 12, 13⟩ (tableOf [(0, 9, 15, 15)]) htab (fun _ h => by cases h) rfl (by decide) (htg _ kl_L_13) (hK.2.2.2.1.use kct_IllegalArgumentException) hce hcv hcl ?_
      refine lv_astore_n (lv' := [(3, .ref q), (0, .ref aT), (1, .int xm), (2, .ref aO)]) hx hb d_L_line_12 rfl hl (by decide) rfl (fun ls hl => ?_)
      refine lv_iconst (v := 1) hx hb d_L_line_13 (by decide) ?_
      exact W.iret (v := 1) hx hb hr (fun t ht hW => ⟨⟨_, ((fr, (mo0, e0, n0), (mo1, e1, n1)), (at_, ws_, we_), xl, fO), rfl, ⟨sf_ev.rf, htw⟩, by rw [ht]; exact hP, hD⟩, hS.F ht⟩) hS.2.2 d_L_line_14
    · have hP : va_P (tp_D E) tp_cl ((aT, .inr (0, [.ref aY, .ref aS, .ref aB, .int xl, .int xg])) :: (aS, .inl (tp_ty E 6, 2, .inr (.inr (.inr (.inr fS))))) :: (aS0, .inr (2, [.ref aL0])) :: (aS1, .inr (2, [.ref aL1])) :: (aL0, .inr (5, [.int mo0, .ref e0, .int n0])) :: (aL1, .inr (5, [.int mo1, .ref e1, .int n1])) :: (aY, .inr (1, [.ref aC, .int 0, .int xc, .int at_, .int ws_, .int we_])) :: (aC, .inl (tp_ty E 4, 28, .inl fC)) :: (aO, .inl (tp_ty E 1, 1, .inr (.inl fO))) :: fr) H := hP
      have hD : va_D A ((aT, .inr (0, [.ref aY, .ref aS, .ref aB, .int xl, .int xg])) :: (aS, .inl (tp_ty E 6, 2, .inr (.inr (.inr (.inr fS))))) :: (aS0, .inr (2, [.ref aL0])) :: (aS1, .inr (2, [.ref aL1])) :: (aL0, .inr (5, [.int mo0, .ref e0, .int n0])) :: (aL1, .inr (5, [.int mo1, .ref e1, .int n1])) :: (aY, .inr (1, [.ref aC, .int 0, .int xc, .int at_, .int ws_, .int we_])) :: (aC, .inl (tp_ty E 4, 28, .inl fC)) :: (aO, .inl (tp_ty E 1, 1, .inr (.inl fO))) :: fr) := hD
      refine vx_catch (own := "TwoPassLaw") (name := "java/lang/IllegalStateException") hown [⟨0, 9, 12, 13⟩] ⟨0, 9, 15, 15⟩ (tableOf []) htab (fun z hz => by simp only [List.mem_cons, List.not_mem_nil, or_false] at hz; rcases hz with rfl; exact Or.inr ⟨by decide, _, htg _ kl_L_13, hK.R.2.2.2.2.1⟩) rfl (by decide) (htg _ kl_L_15) (hK.2.2.2.1.use kct_IllegalStateException) hce hcv hcl ?_
      refine lv_astore_n (lv' := [(3, .ref q), (0, .ref aT), (1, .int xm), (2, .ref aO)]) hx hb d_L_line_15 rfl hl (by decide) rfl (fun ls hl => ?_)
      refine lv_iconst (v := 2) hx hb d_L_line_16 (by decide) ?_
      exact W.iret (v := 2) hx hb hr (fun t ht hW => ⟨⟨_, ((fr, (mo0, e0, n0), (mo1, e1, n1)), (at_, ws_, we_), xl, fO), rfl, ⟨sf_ev.rf, htw⟩, by rw [ht]; exact hP, hD⟩, hS.F ht⟩) hS.2.2 d_L_line_17
  · obtain ⟨⟨gu, ⟨m0_, q0_, c0_⟩, ⟨m1_, q1_, c1_⟩⟩, at_, ws_, we_⟩ := u
    obtain ⟨hev, htw2⟩ : (sf_ev E ((aO, .inl (tp_ty E 1, 1, .inr (.inl fO))) :: fr) gu) ∧ (sf_two E q0_ c0_ q1_ c1_ gu) := hw
    obtain ⟨pre, Z, hgu, hev2⟩ := sf_evY (Y := [(aO, .inl (tp_ty E 1, 1, .inr (.inl fO)))]) (fr := fr) (sf_nmJ sf_nm0) hev
    subst hgu
    have htw3 := sf_twoY (Y := [(aO, .inl (tp_ty E 1, 1, .inr (.inl fO)))]) (sf_nmJ sf_nm0) htw2
    have hP := sf_swP (X := [(aT, .inr (0, [.ref aY, .ref aS, .ref aB, .int 0, .int xg])), (aS, .inl (tp_ty E 6, 2, .inr (.inr (.inr (.inr fS))))), (aS0, .inr (2, [.ref aL0])), (aS1, .inr (2, [.ref aL1])), (aL0, .inr (5, [.int m0_, .ref q0_, .int c0_])), (aL1, .inr (5, [.int m1_, .ref q1_, .int c1_])), (aY, .inr (1, [.ref aC, .int 0, .int xc, .int at_, .int ws_, .int we_])), (aC, .inl (tp_ty E 4, 28, .inl fC))]) (P := pre) (Y := [(aO, .inl (tp_ty E 1, 1, .inr (.inl fO)))]) (Z := Z) hP
    have hD := sf_swD (X := [(aT, .inr (0, [.ref aY, .ref aS, .ref aB, .int 0, .int xg])), (aS, .inl (tp_ty E 6, 2, .inr (.inr (.inr (.inr fS))))), (aS0, .inr (2, [.ref aL0])), (aS1, .inr (2, [.ref aL1])), (aL0, .inr (5, [.int m0_, .ref q0_, .int c0_])), (aL1, .inr (5, [.int m1_, .ref q1_, .int c1_])), (aY, .inr (1, [.ref aC, .int 0, .int xc, .int at_, .int ws_, .int we_])), (aC, .inl (tp_ty E 4, 28, .inl fC))]) (P := pre) (Y := [(aO, .inl (tp_ty E 1, 1, .inr (.inl fO)))]) (Z := Z) hD
    have hP : va_P (tp_D E) tp_cl ((aT, .inr (0, [.ref aY, .ref aS, .ref aB, .int 0, .int xg])) :: (aS, .inl (tp_ty E 6, 2, .inr (.inr (.inr (.inr fS))))) :: (aS0, .inr (2, [.ref aL0])) :: (aS1, .inr (2, [.ref aL1])) :: (aL0, .inr (5, [.int m0_, .ref q0_, .int c0_])) :: (aL1, .inr (5, [.int m1_, .ref q1_, .int c1_])) :: (aY, .inr (1, [.ref aC, .int 0, .int xc, .int at_, .int ws_, .int we_])) :: (aC, .inl (tp_ty E 4, 28, .inl fC)) :: (aO, .inl (tp_ty E 1, 1, .inr (.inl fO))) :: (pre ++ Z)) H := hP
    have hD : va_D A ((aT, .inr (0, [.ref aY, .ref aS, .ref aB, .int 0, .int xg])) :: (aS, .inl (tp_ty E 6, 2, .inr (.inr (.inr (.inr fS))))) :: (aS0, .inr (2, [.ref aL0])) :: (aS1, .inr (2, [.ref aL1])) :: (aL0, .inr (5, [.int m0_, .ref q0_, .int c0_])) :: (aL1, .inr (5, [.int m1_, .ref q1_, .int c1_])) :: (aY, .inr (1, [.ref aC, .int 0, .int xc, .int at_, .int ws_, .int we_])) :: (aC, .inl (tp_ty E 4, 28, .inl fC)) :: (aO, .inl (tp_ty E 1, 1, .inr (.inl fO))) :: (pre ++ Z)) := hD
    refine lv_i2l (v := rl.toInt64) hx hb d_L_line_7 rfl ?_
    refine va_last (D := tp_D E) hx hb hK.1 hP hD hS 8 1 rfl rfl (by unfold vp_in; decide) d_L_line_8 (fun H locs hP hD hS => ?_)
    have hP : va_P (tp_D E) tp_cl ((aT, .inr (0, [.ref aY, .ref aS, .ref aB, .int 0, .int xg])) :: (aS, .inl (tp_ty E 6, 2, .inr (.inr (.inr (.inr fS))))) :: (aS0, .inr (2, [.ref aL0])) :: (aS1, .inr (2, [.ref aL1])) :: (aL0, .inr (5, [.int m0_, .ref q0_, .int c0_])) :: (aL1, .inr (5, [.int m1_, .ref q1_, .int c1_])) :: (aY, .inr (1, [.ref aC, .int 0, .int xc, .int at_, .int ws_, .int we_])) :: (aC, .inl (tp_ty E 4, 28, .inl fC)) :: (aO, .inl (tp_ty E 1, 1, .inr (.inl (vp_updL fO 0 rl.toInt64)))) :: (pre ++ Z)) H := hP
    have hD : va_D A ((aT, .inr (0, [.ref aY, .ref aS, .ref aB, .int 0, .int xg])) :: (aS, .inl (tp_ty E 6, 2, .inr (.inr (.inr (.inr fS))))) :: (aS0, .inr (2, [.ref aL0])) :: (aS1, .inr (2, [.ref aL1])) :: (aL0, .inr (5, [.int m0_, .ref q0_, .int c0_])) :: (aL1, .inr (5, [.int m1_, .ref q1_, .int c1_])) :: (aY, .inr (1, [.ref aC, .int 0, .int xc, .int at_, .int ws_, .int we_])) :: (aC, .inl (tp_ty E 4, 28, .inl fC)) :: (aO, .inl (tp_ty E 1, 1, .inr (.inl (vp_updL fO 0 rl.toInt64)))) :: (pre ++ Z)) := hD
    refine lv_goto (tgt := 18) hx hb d_L_line_9 (by decide) ?_
    refine lv_iconst (v := 0) hx hb d_L_line_18 (by decide) ?_
    exact W.iret (v := 0) hx hb hr (fun t ht hW => ⟨⟨_, (((pre ++ Z), (m0_, q0_, c0_), (m1_, q1_, c1_)), (at_, ws_, we_), 0, (vp_updL fO 0 rl.toInt64)), rfl, ⟨hev2, htw3⟩, by rw [ht]; exact hP, hD⟩, hS.F ht⟩) hS.2.2 d_L_line_19
set_option maxHeartbeats 4000000 in
set_option maxRecDepth 100000 in
theorem s_L_clear (l : Launch) (hfl : l.stackTraces = false) (E : tp_Env) (fr : va_W) (sz : Nat) (aT aY aS aB aS0 aS1 aL0 aL1 e0 e1 : Nat) (xl xg mo0 n0 mo1 n1 : Int32) (fS : Nat → Option Nat) (xm : Int32) (hs0 : fS 0 = some aS0) (hs1 : fS 1 = some aS1) (htw : sf_two E e0 n0 e1 n1 fr) : Met l y_L_clear w_L_clear ({ frames := 8, cells := 1, slots := 6, locals := 130 }) (va_Pc [.ref aT, .int xm] (tp_in E ((aT, .inr (0, [.ref aY, .ref aS, .ref aB, .int xl, .int xg])) :: (aS, .inl (tp_ty E 6, 2, .inr (.inr (.inr (.inr fS))))) :: (aS0, .inr (2, [.ref aL0])) :: (aS1, .inr (2, [.ref aL1])) :: (aL0, .inr (5, [.int mo0, .ref e0, .int n0])) :: (aL1, .inr (5, [.int mo1, .ref e1, .int n1])) :: fr) sz)) (va_Qi (fun r (u : (va_W × (Int32 × Nat × Int32) × (Int32 × Nat × Int32)) × Int32) => ((r = 0 ∧ (xm = 0 ∨ xm = 1)) ∨ (r = 1 ∧ ¬ (xm = 0 ∨ xm = 1))) ∧ sf_ev E fr u.1.1 ∧ sf_two E u.1.2.1.2.1 u.1.2.1.2.2 u.1.2.2.2.1 u.1.2.2.2.2 u.1.1) (fun u t => tp_out E (va_A ((aT, .inr (0, [.ref aY, .ref aS, .ref aB, .int xl, .int xg])) :: (aS, .inl (tp_ty E 6, 2, .inr (.inr (.inr (.inr fS))))) :: (aS0, .inr (2, [.ref aL0])) :: (aS1, .inr (2, [.ref aL1])) :: (aL0, .inr (5, [.int mo0, .ref e0, .int n0])) :: (aL1, .inr (5, [.int mo1, .ref e1, .int n1])) :: fr) sz) ((aT, .inr (0, [.ref aY, .ref aS, .ref aB, .int u.2, .int xg])) :: (aS, .inl (tp_ty E 6, 2, .inr (.inr (.inr (.inr fS))))) :: (aS0, .inr (2, [.ref aL0])) :: (aS1, .inr (2, [.ref aL1])) :: (aL0, .inr (5, [.int u.1.2.1.1, .ref u.1.2.1.2.1, .int u.1.2.1.2.2])) :: (aL1, .inr (5, [.int u.1.2.2.1, .ref u.1.2.2.2.1, .int u.1.2.2.2.2])) :: u.1.1) t) (va_A ((aT, .inr (0, [.ref aY, .ref aS, .ref aB, .int xl, .int xg])) :: (aS, .inl (tp_ty E 6, 2, .inr (.inr (.inr (.inr fS))))) :: (aS0, .inr (2, [.ref aL0])) :: (aS1, .inr (2, [.ref aL1])) :: (aL0, .inr (5, [.int mo0, .ref e0, .int n0])) :: (aL1, .inr (5, [.int mo1, .ref e1, .int n1])) :: fr) sz)) 1 6 (va_A ((aT, .inr (0, [.ref aY, .ref aS, .ref aB, .int xl, .int xg])) :: (aS, .inl (tp_ty E 6, 2, .inr (.inr (.inr (.inr fS))))) :: (aS0, .inr (2, [.ref aL0])) :: (aS1, .inr (2, [.ref aL1])) :: (aL0, .inr (5, [.int mo0, .ref e0, .int n0])) :: (aL1, .inr (5, [.int mo1, .ref e1, .int n1])) :: fr) sz) := by
  refine va_MetW (cc := b_L_clear) (maxL := 3) (ret := (some .int)) (hh := [(0, 5, 8, 13)]) (by decide) rfl ?_
  intro p e s m args below meth c s₁ B hml hv
  obtain ⟨rfl, hsz, hP, hK, hD0⟩ := hv
  have hx := B.exec
  have hb := B.bytes
  have hr := B.returns
  have htab : c.exceptionTable.toList = tableOf [(0, 5, 8, 13)] := vx_table (x := y_L_clear) B (atoms_spec (ws := w_L_clear) B.pre _ List.mem_cons_self)
  have htg : ∀ w ∈ tp_G, w.before ([.ref aT, .int xm] : List Value).toArray s = true := fun w h => atoms_spec (ws := w_L_clear) B.pre w (List.mem_cons_of_mem _ h)
  have hown : s.vm.findClass "TwoPassLaw" = some m.cls := findClass_of_methodNamed B.named
  have hlocks := B.notSynchronized
  subst hsz
  have hD := hD0.self (sz := s.heap.size)
  generalize hAe : va_A ((aT, .inr (0, [.ref aY, .ref aS, .ref aB, .int xl, .int xg])) :: (aS, .inl (tp_ty E 6, 2, .inr (.inr (.inr (.inr fS))))) :: (aS0, .inr (2, [.ref aL0])) :: (aS1, .inr (2, [.ref aL1])) :: (aL0, .inr (5, [.int mo0, .ref e0, .int n0])) :: (aL1, .inr (5, [.int mo1, .ref e1, .int n1])) :: fr) s.heap.size = A at hD hK ⊢
  have hA : ∀ q : Nat, s.heap.size ≤ q → A q := fun q h => by rw [← hAe]; exact Or.inr h
  have hS : va_S A s.heap s.heap [] := va_S.rf
  have hl := lv_entry ([.ref aT, .int xm]) (n := 3) (Nat.le_of_ble_eq_true rfl)
  rw [lg_entry_eq]
  generalize (lg_sl ([.ref aT, .int xm]) ++ List.replicate (3 - (lg_sl ([.ref aT, .int xm])).length) Slot.unset).toArray = ls at hl ⊢
  have hl : lv_has ls 3 [(0, .ref aT), (1, .int xm)] := hl
  have hr0 := htw.1
  have hr1 := htw.2.1
  have htw0 := htw.1
  have htw1 := htw.2.1
  refine lv_aload_n hx hb d_L_clear_0 rfl (lv_at hl 0 rfl) ?_
  refine lv_iload_n hx hb d_L_clear_1 rfl (lv_at hl 1 rfl) ?_
  refine sf_bv (tp_xV (As := [.int xm]) (rest := []) ⟨hx, hb, hml, hown, htg⟩ (s_T_clear l hfl E fr _ aT aY aS aB aS0 aS1 aL0 aL1 e0 e1 xl xg mo0 n0 mo1 n1 fS xm hs0 hs1 htw) (⟨callB_of 1 htg (tp_good0 kc_T_clear) rfl rfl rfl (htg _ ki_T) (htg _ kl_L_21) ⟨by decide, by decide, by decide +kernel⟩ ⟨Nat.le_of_ble_eq_true rfl, Nat.le_of_ble_eq_true rfl⟩, htg _ km_T_clear, htg _ kv_T_T_clear⟩) (va_recv (ci := 0) (q0 := 0) hK.1 hP rfl rfl) hK hP hD hS hA rfl hl.1 rfl (Nat.le_of_ble_eq_true rfl) d_L_clear_2 ⟨Nat.le_of_ble_eq_true rfl, Nat.le_of_ble_eq_true rfl⟩) hD hS hA (fun ce q xu H locs hpx hP hD hS hce hcv hcl => ?_) (fun u H locs hw hP hD hS => ?_)
  · have hpn := hpx.2
    have hpx : xu = 0 := hpx.1
    subst hpx
    have hP : va_P (tp_D E) tp_cl ((aT, .inr (0, [.ref aY, .ref aS, .ref aB, .int xl, .int xg])) :: (aS, .inl (tp_ty E 6, 2, .inr (.inr (.inr (.inr fS))))) :: (aS0, .inr (2, [.ref aL0])) :: (aS1, .inr (2, [.ref aL1])) :: (aL0, .inr (5, [.int mo0, .ref e0, .int n0])) :: (aL1, .inr (5, [.int mo1, .ref e1, .int n1])) :: fr) H := hP
    have hD : va_D A ((aT, .inr (0, [.ref aY, .ref aS, .ref aB, .int xl, .int xg])) :: (aS, .inl (tp_ty E 6, 2, .inr (.inr (.inr (.inr fS))))) :: (aS0, .inr (2, [.ref aL0])) :: (aS1, .inr (2, [.ref aL1])) :: (aL0, .inr (5, [.int mo0, .ref e0, .int n0])) :: (aL1, .inr (5, [.int mo1, .ref e1, .int n1])) :: fr) := hD
    refine vx_catch (own := "TwoPassLaw") (name := "java/lang/IllegalArgumentException") hown [] ⟨0, 5, 8, 13⟩ (tableOf []) htab (fun _ h => by cases h) rfl (by decide) (htg _ kl_L_13) (hK.2.2.2.1.use kct_IllegalArgumentException) hce hcv hcl ?_
    refine lv_astore_n (lv' := [(2, .ref q), (0, .ref aT), (1, .int xm)]) hx hb d_L_clear_8 rfl hl (by decide) rfl (fun ls hl => ?_)
    refine lv_iconst (v := 1) hx hb d_L_clear_9 (by decide) ?_
    exact W.iret (v := 1) hx hb hr (fun t ht hW => ⟨⟨_, ((fr, (mo0, e0, n0), (mo1, e1, n1)), xl), rfl, ⟨Or.inr ⟨rfl, hpn⟩, sf_ev.rf, htw⟩, by rw [ht]; exact hP, hD⟩, hS.F ht⟩) hS.2.2 d_L_clear_10
  · obtain ⟨gu, ⟨m0_, q0_, c0_⟩, ⟨m1_, q1_, c1_⟩⟩ := u
    obtain ⟨hxm, hev, htw2⟩ : (xm = 0 ∨ xm = 1) ∧ (sf_ev E fr gu) ∧ (sf_two E q0_ c0_ q1_ c1_ gu) := hw
    have hP : va_P (tp_D E) tp_cl ((aT, .inr (0, [.ref aY, .ref aS, .ref aB, .int 0, .int xg])) :: (aS, .inl (tp_ty E 6, 2, .inr (.inr (.inr (.inr fS))))) :: (aS0, .inr (2, [.ref aL0])) :: (aS1, .inr (2, [.ref aL1])) :: (aL0, .inr (5, [.int m0_, .ref q0_, .int c0_])) :: (aL1, .inr (5, [.int m1_, .ref q1_, .int c1_])) :: gu) H := hP
    have hD : va_D A ((aT, .inr (0, [.ref aY, .ref aS, .ref aB, .int 0, .int xg])) :: (aS, .inl (tp_ty E 6, 2, .inr (.inr (.inr (.inr fS))))) :: (aS0, .inr (2, [.ref aL0])) :: (aS1, .inr (2, [.ref aL1])) :: (aL0, .inr (5, [.int m0_, .ref q0_, .int c0_])) :: (aL1, .inr (5, [.int m1_, .ref q1_, .int c1_])) :: gu) := hD
    refine lv_goto (tgt := 11) hx hb d_L_clear_5 (by decide) ?_
    refine lv_iconst (v := 0) hx hb d_L_clear_11 (by decide) ?_
    exact W.iret (v := 0) hx hb hr (fun t ht hW => ⟨⟨_, ((gu, (m0_, q0_, c0_), (m1_, q1_, c1_)), 0), rfl, ⟨Or.inl ⟨rfl, hxm⟩, hev, htw2⟩, by rw [ht]; exact hP, hD⟩, hS.F ht⟩) hS.2.2 d_L_clear_12
set_option maxHeartbeats 4000000 in
set_option maxRecDepth 100000 in
theorem s_L_link (l : Launch) (hfl : l.stackTraces = false) (E : tp_Env) (fr : va_W) (sz : Nat) (aT aY aS aB aS0 aS1 aL0 aL1 e0 e1 : Nat) (xl xg mo0 n0 mo1 n1 : Int32) (fS : Nat → Option Nat) (aO : Nat) (fO : Nat → Int64) (hs0 : fS 0 = some aS0) (hs1 : fS 1 = some aS1) (htw : sf_two E e0 n0 e1 n1 fr) : Met l y_L_link w_L_link ({ frames := 9, cells := 34, slots := 204, locals := 199 }) (va_Pc [.ref aT, .ref aO] (tp_in E ((aT, .inr (0, [.ref aY, .ref aS, .ref aB, .int xl, .int xg])) :: (aS, .inl (tp_ty E 6, 2, .inr (.inr (.inr (.inr fS))))) :: (aS0, .inr (2, [.ref aL0])) :: (aS1, .inr (2, [.ref aL1])) :: (aL0, .inr (5, [.int mo0, .ref e0, .int n0])) :: (aL1, .inr (5, [.int mo1, .ref e1, .int n1])) :: (aO, .inl (tp_ty E 1, 1, .inr (.inl fO))) :: fr) sz)) (va_Qi (fun r (u : va_W × Int32 × Int32 × (Nat → Int64)) => sf_ch E fr u.1) (fun u t => tp_out E (va_A ((aT, .inr (0, [.ref aY, .ref aS, .ref aB, .int xl, .int xg])) :: (aS, .inl (tp_ty E 6, 2, .inr (.inr (.inr (.inr fS))))) :: (aS0, .inr (2, [.ref aL0])) :: (aS1, .inr (2, [.ref aL1])) :: (aL0, .inr (5, [.int mo0, .ref e0, .int n0])) :: (aL1, .inr (5, [.int mo1, .ref e1, .int n1])) :: (aO, .inl (tp_ty E 1, 1, .inr (.inl fO))) :: fr) sz) ((aT, .inr (0, [.ref aY, .ref aS, .ref aB, .int u.2.1, .int u.2.2.1])) :: (aS, .inl (tp_ty E 6, 2, .inr (.inr (.inr (.inr fS))))) :: (aS0, .inr (2, [.ref aL0])) :: (aS1, .inr (2, [.ref aL1])) :: (aL0, .inr (5, [.int mo0, .ref e0, .int n0])) :: (aL1, .inr (5, [.int mo1, .ref e1, .int n1])) :: (aO, .inl (tp_ty E 1, 1, .inr (.inl u.2.2.2))) :: u.1) t) (va_A ((aT, .inr (0, [.ref aY, .ref aS, .ref aB, .int xl, .int xg])) :: (aS, .inl (tp_ty E 6, 2, .inr (.inr (.inr (.inr fS))))) :: (aS0, .inr (2, [.ref aL0])) :: (aS1, .inr (2, [.ref aL1])) :: (aL0, .inr (5, [.int mo0, .ref e0, .int n0])) :: (aL1, .inr (5, [.int mo1, .ref e1, .int n1])) :: (aO, .inl (tp_ty E 1, 1, .inr (.inl fO))) :: fr) sz)) 34 204 (va_A ((aT, .inr (0, [.ref aY, .ref aS, .ref aB, .int xl, .int xg])) :: (aS, .inl (tp_ty E 6, 2, .inr (.inr (.inr (.inr fS))))) :: (aS0, .inr (2, [.ref aL0])) :: (aS1, .inr (2, [.ref aL1])) :: (aL0, .inr (5, [.int mo0, .ref e0, .int n0])) :: (aL1, .inr (5, [.int mo1, .ref e1, .int n1])) :: (aO, .inl (tp_ty E 1, 1, .inr (.inl fO))) :: fr) sz) := by
  refine va_MetW (cc := b_L_link) (maxL := 3) (ret := (some .int)) (hh := [(0, 8, 11, 29), (0, 8, 14, 15), (0, 8, 17, 31)]) (by decide) rfl ?_
  intro p e s m args below meth c s₁ B hml hv
  obtain ⟨rfl, hsz, hP, hK, hD0⟩ := hv
  have hx := B.exec
  have hb := B.bytes
  have hr := B.returns
  have htab : c.exceptionTable.toList = tableOf [(0, 8, 11, 29), (0, 8, 14, 15), (0, 8, 17, 31)] := vx_table (x := y_L_link) B (atoms_spec (ws := w_L_link) B.pre _ List.mem_cons_self)
  have htg : ∀ w ∈ tp_G, w.before ([.ref aT, .ref aO] : List Value).toArray s = true := fun w h => atoms_spec (ws := w_L_link) B.pre w (List.mem_cons_of_mem _ h)
  have hown : s.vm.findClass "TwoPassLaw" = some m.cls := findClass_of_methodNamed B.named
  have hlocks := B.notSynchronized
  subst hsz
  have hD := hD0.self (sz := s.heap.size)
  generalize hAe : va_A ((aT, .inr (0, [.ref aY, .ref aS, .ref aB, .int xl, .int xg])) :: (aS, .inl (tp_ty E 6, 2, .inr (.inr (.inr (.inr fS))))) :: (aS0, .inr (2, [.ref aL0])) :: (aS1, .inr (2, [.ref aL1])) :: (aL0, .inr (5, [.int mo0, .ref e0, .int n0])) :: (aL1, .inr (5, [.int mo1, .ref e1, .int n1])) :: (aO, .inl (tp_ty E 1, 1, .inr (.inl fO))) :: fr) s.heap.size = A at hD hK ⊢
  have hA : ∀ q : Nat, s.heap.size ≤ q → A q := fun q h => by rw [← hAe]; exact Or.inr h
  have hS : va_S A s.heap s.heap [] := va_S.rf
  have hl := lv_entry ([.ref aT, .ref aO]) (n := 3) (Nat.le_of_ble_eq_true rfl)
  rw [lg_entry_eq]
  generalize (lg_sl ([.ref aT, .ref aO]) ++ List.replicate (3 - (lg_sl ([.ref aT, .ref aO])).length) Slot.unset).toArray = ls at hl ⊢
  have hl : lv_has ls 3 [(0, .ref aT), (1, .ref aO)] := hl
  have hr0 := htw.1
  have hr1 := htw.2.1
  have htw0 := htw.1
  have htw1 := htw.2.1
  refine lv_aload_n hx hb d_L_link_0 rfl (lv_at hl 1 rfl) ?_
  refine lv_iconst (v := 0) hx hb d_L_link_1 (by decide) ?_
  refine lv_aload_n hx hb d_L_link_2 rfl (lv_at hl 0 rfl) ?_
  refine sf_bi (tp_xV (As := []) (rest := [.int 0, .ref aO]) ⟨hx, hb, hml, hown, htg⟩ (s_T_link l hfl E ((aO, .inl (tp_ty E 1, 1, .inr (.inl fO))) :: fr) _ aT aY aS aB aS0 aS1 aL0 aL1 e0 e1 xl xg mo0 n0 mo1 n1 fS hs0 hs1 (sf_rows.cons hr0) (sf_rows.cons hr1)) (⟨callB_of 0 htg (tp_good0 kc_T_link) rfl rfl rfl (htg _ ki_T) (htg _ kl_L_25) ⟨by decide, by decide, by decide +kernel⟩ ⟨Nat.le_of_ble_eq_true rfl, Nat.le_of_ble_eq_true rfl⟩, htg _ km_T_link, htg _ kv_T_T_link⟩) (va_recv (ci := 0) (q0 := 0) hK.1 hP rfl rfl) hK hP hD hS hA rfl hl.1 rfl (Nat.le_of_ble_eq_true rfl) d_L_link_3 ⟨Nat.le_of_ble_eq_true rfl, Nat.le_of_ble_eq_true rfl⟩) hD hS hA (fun ce q xu H locs hpx hP hD hS hce hcv hcl => ?_) (fun rl u H locs hw hP hD hS => ?_)
  · obtain ⟨nx, gu, lg⟩ := xu
    have hc := hpx.2
    have hpx := hpx.1
    rcases hpx with hpx | hpx | hpx <;> (have hpx : nx = _ := hpx; subst hpx)
    · obtain ⟨gz, hgz, hch⟩ := sf_ch.un (fun _ h => by cases h) hc
      subst hgz
      have hP : va_P (tp_D E) tp_cl ((aT, .inr (0, [.ref aY, .ref aS, .ref aB, .int 0, .int lg])) :: (aS, .inl (tp_ty E 6, 2, .inr (.inr (.inr (.inr fS))))) :: (aS0, .inr (2, [.ref aL0])) :: (aS1, .inr (2, [.ref aL1])) :: (aL0, .inr (5, [.int mo0, .ref e0, .int n0])) :: (aL1, .inr (5, [.int mo1, .ref e1, .int n1])) :: (aO, .inl (tp_ty E 1, 1, .inr (.inl fO))) :: gz) H := hP
      have hD : va_D A ((aT, .inr (0, [.ref aY, .ref aS, .ref aB, .int 0, .int lg])) :: (aS, .inl (tp_ty E 6, 2, .inr (.inr (.inr (.inr fS))))) :: (aS0, .inr (2, [.ref aL0])) :: (aS1, .inr (2, [.ref aL1])) :: (aL0, .inr (5, [.int mo0, .ref e0, .int n0])) :: (aL1, .inr (5, [.int mo1, .ref e1, .int n1])) :: (aO, .inl (tp_ty E 1, 1, .inr (.inl fO))) :: gz) := hD
      refine vx_catch (own := "TwoPassLaw") (name := "java/lang/IllegalStateException") hown [⟨0, 8, 11, 29⟩] ⟨0, 8, 14, 15⟩ (tableOf [(0, 8, 17, 31)]) htab (fun z hz => by simp only [List.mem_cons, List.not_mem_nil, or_false] at hz; rcases hz with rfl; exact Or.inr ⟨by decide, _, htg _ kl_L_29, hK.R.2.2.2.2.2.1⟩) rfl (by decide) (htg _ kl_L_15) (hK.2.2.2.1.use kct_IllegalStateException) hce hcv hcl ?_
      refine lv_astore_n (lv' := [(2, .ref q), (0, .ref aT), (1, .ref aO)]) hx hb d_L_link_14 rfl hl (by decide) rfl (fun ls hl => ?_)
      refine lv_iconst (v := 2) hx hb d_L_link_15 (by decide) ?_
      exact W.iret (v := 2) hx hb hr (fun t ht hW => ⟨⟨_, (gz, 0, lg, fO), rfl, hch, by rw [ht]; exact hP, hD⟩, hS.F ht⟩) hS.2.2 d_L_link_16
    · obtain ⟨gz, hgz, hch⟩ := sf_ch.un (fun _ h => by cases h) hc
      subst hgz
      have hP : va_P (tp_D E) tp_cl ((aT, .inr (0, [.ref aY, .ref aS, .ref aB, .int 0, .int lg])) :: (aS, .inl (tp_ty E 6, 2, .inr (.inr (.inr (.inr fS))))) :: (aS0, .inr (2, [.ref aL0])) :: (aS1, .inr (2, [.ref aL1])) :: (aL0, .inr (5, [.int mo0, .ref e0, .int n0])) :: (aL1, .inr (5, [.int mo1, .ref e1, .int n1])) :: (aO, .inl (tp_ty E 1, 1, .inr (.inl fO))) :: gz) H := hP
      have hD : va_D A ((aT, .inr (0, [.ref aY, .ref aS, .ref aB, .int 0, .int lg])) :: (aS, .inl (tp_ty E 6, 2, .inr (.inr (.inr (.inr fS))))) :: (aS0, .inr (2, [.ref aL0])) :: (aS1, .inr (2, [.ref aL1])) :: (aL0, .inr (5, [.int mo0, .ref e0, .int n0])) :: (aL1, .inr (5, [.int mo1, .ref e1, .int n1])) :: (aO, .inl (tp_ty E 1, 1, .inr (.inl fO))) :: gz) := hD
      refine vx_catch (own := "TwoPassLaw") (name := "java/util/NoSuchElementException") hown [] ⟨0, 8, 11, 29⟩ (tableOf [(0, 8, 14, 15), (0, 8, 17, 31)]) htab (fun _ h => by cases h) rfl (by decide) (htg _ kl_L_29) (hK.2.2.2.1.use kct_NoSuchElementException) hce hcv hcl ?_
      refine lv_astore_n (lv' := [(2, .ref q), (0, .ref aT), (1, .ref aO)]) hx hb d_L_link_11 rfl hl (by decide) rfl (fun ls hl => ?_)
      refine lv_iconst (v := 1) hx hb d_L_link_12 (by decide) ?_
      exact W.iret (v := 1) hx hb hr (fun t ht hW => ⟨⟨_, (gz, 0, lg, fO), rfl, hch, by rw [ht]; exact hP, hD⟩, hS.F ht⟩) hS.2.2 d_L_link_13
    · obtain ⟨gz, hgz, hch⟩ := sf_ch.un (fun _ h => by cases h) hc
      subst hgz
      have hP : va_P (tp_D E) tp_cl ((aT, .inr (0, [.ref aY, .ref aS, .ref aB, .int 0, .int lg])) :: (aS, .inl (tp_ty E 6, 2, .inr (.inr (.inr (.inr fS))))) :: (aS0, .inr (2, [.ref aL0])) :: (aS1, .inr (2, [.ref aL1])) :: (aL0, .inr (5, [.int mo0, .ref e0, .int n0])) :: (aL1, .inr (5, [.int mo1, .ref e1, .int n1])) :: (aO, .inl (tp_ty E 1, 1, .inr (.inl fO))) :: gz) H := hP
      have hD : va_D A ((aT, .inr (0, [.ref aY, .ref aS, .ref aB, .int 0, .int lg])) :: (aS, .inl (tp_ty E 6, 2, .inr (.inr (.inr (.inr fS))))) :: (aS0, .inr (2, [.ref aL0])) :: (aS1, .inr (2, [.ref aL1])) :: (aL0, .inr (5, [.int mo0, .ref e0, .int n0])) :: (aL1, .inr (5, [.int mo1, .ref e1, .int n1])) :: (aO, .inl (tp_ty E 1, 1, .inr (.inl fO))) :: gz) := hD
      refine vx_catch (own := "TwoPassLaw") (name := "java/lang/UnsupportedOperationException") hown [⟨0, 8, 11, 29⟩, ⟨0, 8, 14, 15⟩] ⟨0, 8, 17, 31⟩ (tableOf []) htab (fun z hz => by simp only [List.mem_cons, List.not_mem_nil, or_false] at hz; rcases hz with rfl | rfl <;> first | exact Or.inr ⟨by decide, _, htg _ kl_L_29, hK.R.2.2.2.2.2.2.1⟩ | exact Or.inr ⟨by decide, _, htg _ kl_L_15, hK.R.2.2.2.2.2.2.2.1⟩) rfl (by decide) (htg _ kl_L_31) (hK.2.2.2.1.use kct_UnsupportedOperationException) hce hcv hcl ?_
      refine lv_astore_n (lv' := [(2, .ref q), (0, .ref aT), (1, .ref aO)]) hx hb d_L_link_17 rfl hl (by decide) rfl (fun ls hl => ?_)
      refine lv_iconst (v := 3) hx hb d_L_link_18 (by decide) ?_
      exact W.iret (v := 3) hx hb hr (fun t ht hW => ⟨⟨_, (gz, 0, lg, fO), rfl, hch, by rw [ht]; exact hP, hD⟩, hS.F ht⟩) hS.2.2 d_L_link_19
  · obtain ⟨gu, lg⟩ := u
    have hc : sf_ch E ((aO, .inl (tp_ty E 1, 1, .inr (.inl fO))) :: fr) gu := hw
    obtain ⟨gz, hgz, hch⟩ := sf_ch.un (fun _ h => by cases h) hc
    subst hgz
    have hP : va_P (tp_D E) tp_cl ((aT, .inr (0, [.ref aY, .ref aS, .ref aB, .int 1, .int lg])) :: (aS, .inl (tp_ty E 6, 2, .inr (.inr (.inr (.inr fS))))) :: (aS0, .inr (2, [.ref aL0])) :: (aS1, .inr (2, [.ref aL1])) :: (aL0, .inr (5, [.int mo0, .ref e0, .int n0])) :: (aL1, .inr (5, [.int mo1, .ref e1, .int n1])) :: (aO, .inl (tp_ty E 1, 1, .inr (.inl fO))) :: gz) H := hP
    have hD : va_D A ((aT, .inr (0, [.ref aY, .ref aS, .ref aB, .int 1, .int lg])) :: (aS, .inl (tp_ty E 6, 2, .inr (.inr (.inr (.inr fS))))) :: (aS0, .inr (2, [.ref aL0])) :: (aS1, .inr (2, [.ref aL1])) :: (aL0, .inr (5, [.int mo0, .ref e0, .int n0])) :: (aL1, .inr (5, [.int mo1, .ref e1, .int n1])) :: (aO, .inl (tp_ty E 1, 1, .inr (.inl fO))) :: gz) := hD
    refine lv_i2l (v := rl.toInt64) hx hb d_L_link_6 rfl ?_
    refine va_last (D := tp_D E) hx hb hK.1 hP hD hS 6 1 rfl rfl (by unfold vp_in; decide) d_L_link_7 (fun H locs hP hD hS => ?_)
    have hP : va_P (tp_D E) tp_cl ((aT, .inr (0, [.ref aY, .ref aS, .ref aB, .int 1, .int lg])) :: (aS, .inl (tp_ty E 6, 2, .inr (.inr (.inr (.inr fS))))) :: (aS0, .inr (2, [.ref aL0])) :: (aS1, .inr (2, [.ref aL1])) :: (aL0, .inr (5, [.int mo0, .ref e0, .int n0])) :: (aL1, .inr (5, [.int mo1, .ref e1, .int n1])) :: (aO, .inl (tp_ty E 1, 1, .inr (.inl (vp_updL fO 0 rl.toInt64)))) :: gz) H := hP
    have hD : va_D A ((aT, .inr (0, [.ref aY, .ref aS, .ref aB, .int 1, .int lg])) :: (aS, .inl (tp_ty E 6, 2, .inr (.inr (.inr (.inr fS))))) :: (aS0, .inr (2, [.ref aL0])) :: (aS1, .inr (2, [.ref aL1])) :: (aL0, .inr (5, [.int mo0, .ref e0, .int n0])) :: (aL1, .inr (5, [.int mo1, .ref e1, .int n1])) :: (aO, .inl (tp_ty E 1, 1, .inr (.inl (vp_updL fO 0 rl.toInt64)))) :: gz) := hD
    refine lv_goto (tgt := 20) hx hb d_L_link_8 (by decide) ?_
    refine lv_iconst (v := 0) hx hb d_L_link_20 (by decide) ?_
    exact W.iret (v := 0) hx hb hr (fun t ht hW => ⟨⟨_, (gz, 1, lg, (vp_updL fO 0 rl.toInt64)), rfl, hch, by rw [ht]; exact hP, hD⟩, hS.F ht⟩) hS.2.2 d_L_link_21
set_option maxHeartbeats 4000000 in
set_option maxRecDepth 100000 in
theorem s_L_far (l : Launch) (hfl : l.stackTraces = false) (E : tp_Env) (fr : va_W) (sz : Nat) (aT aY aS aB aS0 aS1 aL0 aL1 e0 e1 : Nat) (xl xg mo0 n0 mo1 n1 : Int32) (fS : Nat → Option Nat) (aO : Nat) (fO : Nat → Int64) (hs0 : fS 0 = some aS0) (hs1 : fS 1 = some aS1) (htw : sf_two E e0 n0 e1 n1 fr) : Met l y_L_far w_L_far ({ frames := 8, cells := 1, slots := 6, locals := 132 }) (va_Pc [.ref aT, .ref aO] (tp_in E ((aT, .inr (0, [.ref aY, .ref aS, .ref aB, .int xl, .int xg])) :: (aS, .inl (tp_ty E 6, 2, .inr (.inr (.inr (.inr fS))))) :: (aS0, .inr (2, [.ref aL0])) :: (aS1, .inr (2, [.ref aL1])) :: (aL0, .inr (5, [.int mo0, .ref e0, .int n0])) :: (aL1, .inr (5, [.int mo1, .ref e1, .int n1])) :: (aO, .inl (tp_ty E 1, 1, .inr (.inl fO))) :: fr) sz)) (va_Qi (fun r (u : Nat → Int64) => True) (fun u t => tp_out E (va_A ((aT, .inr (0, [.ref aY, .ref aS, .ref aB, .int xl, .int xg])) :: (aS, .inl (tp_ty E 6, 2, .inr (.inr (.inr (.inr fS))))) :: (aS0, .inr (2, [.ref aL0])) :: (aS1, .inr (2, [.ref aL1])) :: (aL0, .inr (5, [.int mo0, .ref e0, .int n0])) :: (aL1, .inr (5, [.int mo1, .ref e1, .int n1])) :: (aO, .inl (tp_ty E 1, 1, .inr (.inl fO))) :: fr) sz) ((aT, .inr (0, [.ref aY, .ref aS, .ref aB, .int xl, .int xg])) :: (aS, .inl (tp_ty E 6, 2, .inr (.inr (.inr (.inr fS))))) :: (aS0, .inr (2, [.ref aL0])) :: (aS1, .inr (2, [.ref aL1])) :: (aL0, .inr (5, [.int mo0, .ref e0, .int n0])) :: (aL1, .inr (5, [.int mo1, .ref e1, .int n1])) :: (aO, .inl (tp_ty E 1, 1, .inr (.inl u))) :: fr) t) (va_A ((aT, .inr (0, [.ref aY, .ref aS, .ref aB, .int xl, .int xg])) :: (aS, .inl (tp_ty E 6, 2, .inr (.inr (.inr (.inr fS))))) :: (aS0, .inr (2, [.ref aL0])) :: (aS1, .inr (2, [.ref aL1])) :: (aL0, .inr (5, [.int mo0, .ref e0, .int n0])) :: (aL1, .inr (5, [.int mo1, .ref e1, .int n1])) :: (aO, .inl (tp_ty E 1, 1, .inr (.inl fO))) :: fr) sz)) 1 6 (va_A ((aT, .inr (0, [.ref aY, .ref aS, .ref aB, .int xl, .int xg])) :: (aS, .inl (tp_ty E 6, 2, .inr (.inr (.inr (.inr fS))))) :: (aS0, .inr (2, [.ref aL0])) :: (aS1, .inr (2, [.ref aL1])) :: (aL0, .inr (5, [.int mo0, .ref e0, .int n0])) :: (aL1, .inr (5, [.int mo1, .ref e1, .int n1])) :: (aO, .inl (tp_ty E 1, 1, .inr (.inl fO))) :: fr) sz) := by
  refine va_MetW (cc := b_L_far) (maxL := 3) (ret := (some .int)) (hh := [(0, 8, 11, 15)]) (by decide) rfl ?_
  intro p e s m args below meth c s₁ B hml hv
  obtain ⟨rfl, hsz, hP, hK, hD0⟩ := hv
  have hx := B.exec
  have hb := B.bytes
  have hr := B.returns
  have htab : c.exceptionTable.toList = tableOf [(0, 8, 11, 15)] := vx_table (x := y_L_far) B (atoms_spec (ws := w_L_far) B.pre _ List.mem_cons_self)
  have htg : ∀ w ∈ tp_G, w.before ([.ref aT, .ref aO] : List Value).toArray s = true := fun w h => atoms_spec (ws := w_L_far) B.pre w (List.mem_cons_of_mem _ h)
  have hown : s.vm.findClass "TwoPassLaw" = some m.cls := findClass_of_methodNamed B.named
  have hlocks := B.notSynchronized
  subst hsz
  have hD := hD0.self (sz := s.heap.size)
  generalize hAe : va_A ((aT, .inr (0, [.ref aY, .ref aS, .ref aB, .int xl, .int xg])) :: (aS, .inl (tp_ty E 6, 2, .inr (.inr (.inr (.inr fS))))) :: (aS0, .inr (2, [.ref aL0])) :: (aS1, .inr (2, [.ref aL1])) :: (aL0, .inr (5, [.int mo0, .ref e0, .int n0])) :: (aL1, .inr (5, [.int mo1, .ref e1, .int n1])) :: (aO, .inl (tp_ty E 1, 1, .inr (.inl fO))) :: fr) s.heap.size = A at hD hK ⊢
  have hA : ∀ q : Nat, s.heap.size ≤ q → A q := fun q h => by rw [← hAe]; exact Or.inr h
  have hS : va_S A s.heap s.heap [] := va_S.rf
  have hl := lv_entry ([.ref aT, .ref aO]) (n := 3) (Nat.le_of_ble_eq_true rfl)
  rw [lg_entry_eq]
  generalize (lg_sl ([.ref aT, .ref aO]) ++ List.replicate (3 - (lg_sl ([.ref aT, .ref aO])).length) Slot.unset).toArray = ls at hl ⊢
  have hl : lv_has ls 3 [(0, .ref aT), (1, .ref aO)] := hl
  have hr0 := htw.1
  have hr1 := htw.2.1
  have htw0 := htw.1
  have htw1 := htw.2.1
  refine lv_aload_n hx hb d_L_far_0 rfl (lv_at hl 1 rfl) ?_
  refine lv_iconst (v := 0) hx hb d_L_far_1 (by decide) ?_
  refine lv_aload_n hx hb d_L_far_2 rfl (lv_at hl 0 rfl) ?_
  refine sf_bi (tp_xV (As := []) (rest := [.int 0, .ref aO]) ⟨hx, hb, hml, hown, htg⟩ (s_T_far l hfl E ((aO, .inl (tp_ty E 1, 1, .inr (.inl fO))) :: fr) _ aT aY aS aB aS0 aS1 aL0 aL1 e0 e1 xl xg mo0 n0 mo1 n1 fS hs0 hs1 (sf_rows.cons hr0) (sf_rows.cons hr1)) (⟨callB_of 0 htg (tp_good0 kc_T_far) rfl rfl rfl (htg _ ki_T) (htg _ kl_L_33) ⟨by decide, by decide, by decide +kernel⟩ ⟨Nat.le_of_ble_eq_true rfl, Nat.le_of_ble_eq_true rfl⟩, htg _ km_T_far, htg _ kv_T_T_far⟩) (va_recv (ci := 0) (q0 := 0) hK.1 hP rfl rfl) hK hP hD hS hA rfl hl.1 rfl (Nat.le_of_ble_eq_true rfl) d_L_far_3 ⟨Nat.le_of_ble_eq_true rfl, Nat.le_of_ble_eq_true rfl⟩) hD hS hA (fun ce q xu H locs hpx hP hD hS hce hcv hcl => ?_) (fun rl u H locs hw hP hD hS => ?_)
  · have hP : va_P (tp_D E) tp_cl ((aT, .inr (0, [.ref aY, .ref aS, .ref aB, .int xl, .int xg])) :: (aS, .inl (tp_ty E 6, 2, .inr (.inr (.inr (.inr fS))))) :: (aS0, .inr (2, [.ref aL0])) :: (aS1, .inr (2, [.ref aL1])) :: (aL0, .inr (5, [.int mo0, .ref e0, .int n0])) :: (aL1, .inr (5, [.int mo1, .ref e1, .int n1])) :: (aO, .inl (tp_ty E 1, 1, .inr (.inl fO))) :: fr) H := hP
    have hD : va_D A ((aT, .inr (0, [.ref aY, .ref aS, .ref aB, .int xl, .int xg])) :: (aS, .inl (tp_ty E 6, 2, .inr (.inr (.inr (.inr fS))))) :: (aS0, .inr (2, [.ref aL0])) :: (aS1, .inr (2, [.ref aL1])) :: (aL0, .inr (5, [.int mo0, .ref e0, .int n0])) :: (aL1, .inr (5, [.int mo1, .ref e1, .int n1])) :: (aO, .inl (tp_ty E 1, 1, .inr (.inl fO))) :: fr) := hD
    refine vx_catch (own := "TwoPassLaw") (name := "java/lang/IllegalStateException") hown [] ⟨0, 8, 11, 15⟩ (tableOf []) htab (fun _ h => by cases h) rfl (by decide) (htg _ kl_L_15) (hK.2.2.2.1.use kct_IllegalStateException) hce hcv hcl ?_
    refine lv_astore_n (lv' := [(2, .ref q), (0, .ref aT), (1, .ref aO)]) hx hb d_L_far_11 rfl hl (by decide) rfl (fun ls hl => ?_)
    refine lv_iconst (v := 1) hx hb d_L_far_12 (by decide) ?_
    exact W.iret (v := 1) hx hb hr (fun t ht hW => ⟨⟨_, fO, rfl, trivial, by rw [ht]; exact hP, hD⟩, hS.F ht⟩) hS.2.2 d_L_far_13
  · have hP : va_P (tp_D E) tp_cl ((aT, .inr (0, [.ref aY, .ref aS, .ref aB, .int xl, .int xg])) :: (aS, .inl (tp_ty E 6, 2, .inr (.inr (.inr (.inr fS))))) :: (aS0, .inr (2, [.ref aL0])) :: (aS1, .inr (2, [.ref aL1])) :: (aL0, .inr (5, [.int mo0, .ref e0, .int n0])) :: (aL1, .inr (5, [.int mo1, .ref e1, .int n1])) :: (aO, .inl (tp_ty E 1, 1, .inr (.inl fO))) :: fr) H := hP
    have hD : va_D A ((aT, .inr (0, [.ref aY, .ref aS, .ref aB, .int xl, .int xg])) :: (aS, .inl (tp_ty E 6, 2, .inr (.inr (.inr (.inr fS))))) :: (aS0, .inr (2, [.ref aL0])) :: (aS1, .inr (2, [.ref aL1])) :: (aL0, .inr (5, [.int mo0, .ref e0, .int n0])) :: (aL1, .inr (5, [.int mo1, .ref e1, .int n1])) :: (aO, .inl (tp_ty E 1, 1, .inr (.inl fO))) :: fr) := hD
    refine lv_i2l (v := rl.toInt64) hx hb d_L_far_6 rfl ?_
    refine va_last (D := tp_D E) hx hb hK.1 hP hD hS 6 1 rfl rfl (by unfold vp_in; decide) d_L_far_7 (fun H locs hP hD hS => ?_)
    have hP : va_P (tp_D E) tp_cl ((aT, .inr (0, [.ref aY, .ref aS, .ref aB, .int xl, .int xg])) :: (aS, .inl (tp_ty E 6, 2, .inr (.inr (.inr (.inr fS))))) :: (aS0, .inr (2, [.ref aL0])) :: (aS1, .inr (2, [.ref aL1])) :: (aL0, .inr (5, [.int mo0, .ref e0, .int n0])) :: (aL1, .inr (5, [.int mo1, .ref e1, .int n1])) :: (aO, .inl (tp_ty E 1, 1, .inr (.inl (vp_updL fO 0 rl.toInt64)))) :: fr) H := hP
    have hD : va_D A ((aT, .inr (0, [.ref aY, .ref aS, .ref aB, .int xl, .int xg])) :: (aS, .inl (tp_ty E 6, 2, .inr (.inr (.inr (.inr fS))))) :: (aS0, .inr (2, [.ref aL0])) :: (aS1, .inr (2, [.ref aL1])) :: (aL0, .inr (5, [.int mo0, .ref e0, .int n0])) :: (aL1, .inr (5, [.int mo1, .ref e1, .int n1])) :: (aO, .inl (tp_ty E 1, 1, .inr (.inl (vp_updL fO 0 rl.toInt64)))) :: fr) := hD
    refine lv_goto (tgt := 14) hx hb d_L_far_8 (by decide) ?_
    refine lv_iconst (v := 0) hx hb d_L_far_14 (by decide) ?_
    exact W.iret (v := 0) hx hb hr (fun t ht hW => ⟨⟨_, (vp_updL fO 0 rl.toInt64), rfl, trivial, by rw [ht]; exact hP, hD⟩, hS.F ht⟩) hS.2.2 d_L_far_15
set_option maxHeartbeats 4000000 in
set_option maxRecDepth 100000 in
theorem s_L_image (l : Launch) (hfl : l.stackTraces = false) (E : tp_Env) (fr : va_W) (sz : Nat) (aT aY aS aB aS0 aS1 aL0 aL1 e0 e1 : Nat) (xl xg mo0 n0 mo1 n1 : Int32) (fS : Nat → Option Nat) (aO : Nat) (fO : Nat → Int64) (xi : Int32) (hs0 : fS 0 = some aS0) (hs1 : fS 1 = some aS1) (htw : sf_two E e0 n0 e1 n1 fr) : Met l y_L_image w_L_image ({ frames := 8, cells := 2, slots := 12, locals := 133 }) (va_Pc [.ref aT, .int xi, .ref aO] (tp_in E ((aT, .inr (0, [.ref aY, .ref aS, .ref aB, .int xl, .int xg])) :: (aS, .inl (tp_ty E 6, 2, .inr (.inr (.inr (.inr fS))))) :: (aS0, .inr (2, [.ref aL0])) :: (aS1, .inr (2, [.ref aL1])) :: (aL0, .inr (5, [.int mo0, .ref e0, .int n0])) :: (aL1, .inr (5, [.int mo1, .ref e1, .int n1])) :: (aO, .inl (tp_ty E 1, 1, .inr (.inl fO))) :: fr) sz)) (va_Qi (fun r (u : Nat → Int64) => True) (fun u t => tp_out E (va_A ((aT, .inr (0, [.ref aY, .ref aS, .ref aB, .int xl, .int xg])) :: (aS, .inl (tp_ty E 6, 2, .inr (.inr (.inr (.inr fS))))) :: (aS0, .inr (2, [.ref aL0])) :: (aS1, .inr (2, [.ref aL1])) :: (aL0, .inr (5, [.int mo0, .ref e0, .int n0])) :: (aL1, .inr (5, [.int mo1, .ref e1, .int n1])) :: (aO, .inl (tp_ty E 1, 1, .inr (.inl fO))) :: fr) sz) ((aT, .inr (0, [.ref aY, .ref aS, .ref aB, .int xl, .int xg])) :: (aS, .inl (tp_ty E 6, 2, .inr (.inr (.inr (.inr fS))))) :: (aS0, .inr (2, [.ref aL0])) :: (aS1, .inr (2, [.ref aL1])) :: (aL0, .inr (5, [.int mo0, .ref e0, .int n0])) :: (aL1, .inr (5, [.int mo1, .ref e1, .int n1])) :: (aO, .inl (tp_ty E 1, 1, .inr (.inl u))) :: fr) t) (va_A ((aT, .inr (0, [.ref aY, .ref aS, .ref aB, .int xl, .int xg])) :: (aS, .inl (tp_ty E 6, 2, .inr (.inr (.inr (.inr fS))))) :: (aS0, .inr (2, [.ref aL0])) :: (aS1, .inr (2, [.ref aL1])) :: (aL0, .inr (5, [.int mo0, .ref e0, .int n0])) :: (aL1, .inr (5, [.int mo1, .ref e1, .int n1])) :: (aO, .inl (tp_ty E 1, 1, .inr (.inl fO))) :: fr) sz)) 2 12 (va_A ((aT, .inr (0, [.ref aY, .ref aS, .ref aB, .int xl, .int xg])) :: (aS, .inl (tp_ty E 6, 2, .inr (.inr (.inr (.inr fS))))) :: (aS0, .inr (2, [.ref aL0])) :: (aS1, .inr (2, [.ref aL1])) :: (aL0, .inr (5, [.int mo0, .ref e0, .int n0])) :: (aL1, .inr (5, [.int mo1, .ref e1, .int n1])) :: (aO, .inl (tp_ty E 1, 1, .inr (.inl fO))) :: fr) sz) := by
  refine va_MetW (cc := b_L_image) (maxL := 4) (ret := (some .int)) (hh := [(0, 9, 12, 15), (0, 9, 15, 39)]) (by decide) rfl ?_
  intro p e s m args below meth c s₁ B hml hv
  obtain ⟨rfl, hsz, hP, hK, hD0⟩ := hv
  have hx := B.exec
  have hb := B.bytes
  have hr := B.returns
  have htab : c.exceptionTable.toList = tableOf [(0, 9, 12, 15), (0, 9, 15, 39)] := vx_table (x := y_L_image) B (atoms_spec (ws := w_L_image) B.pre _ List.mem_cons_self)
  have htg : ∀ w ∈ tp_G, w.before ([.ref aT, .int xi, .ref aO] : List Value).toArray s = true := fun w h => atoms_spec (ws := w_L_image) B.pre w (List.mem_cons_of_mem _ h)
  have hown : s.vm.findClass "TwoPassLaw" = some m.cls := findClass_of_methodNamed B.named
  have hlocks := B.notSynchronized
  subst hsz
  have hD := hD0.self (sz := s.heap.size)
  generalize hAe : va_A ((aT, .inr (0, [.ref aY, .ref aS, .ref aB, .int xl, .int xg])) :: (aS, .inl (tp_ty E 6, 2, .inr (.inr (.inr (.inr fS))))) :: (aS0, .inr (2, [.ref aL0])) :: (aS1, .inr (2, [.ref aL1])) :: (aL0, .inr (5, [.int mo0, .ref e0, .int n0])) :: (aL1, .inr (5, [.int mo1, .ref e1, .int n1])) :: (aO, .inl (tp_ty E 1, 1, .inr (.inl fO))) :: fr) s.heap.size = A at hD hK ⊢
  have hA : ∀ q : Nat, s.heap.size ≤ q → A q := fun q h => by rw [← hAe]; exact Or.inr h
  have hS : va_S A s.heap s.heap [] := va_S.rf
  have hl := lv_entry ([.ref aT, .int xi, .ref aO]) (n := 4) (Nat.le_of_ble_eq_true rfl)
  rw [lg_entry_eq]
  generalize (lg_sl ([.ref aT, .int xi, .ref aO]) ++ List.replicate (4 - (lg_sl ([.ref aT, .int xi, .ref aO])).length) Slot.unset).toArray = ls at hl ⊢
  have hl : lv_has ls 4 [(0, .ref aT), (1, .int xi), (2, .ref aO)] := hl
  have hr0 := htw.1
  have hr1 := htw.2.1
  have htw0 := htw.1
  have htw1 := htw.2.1
  refine lv_aload_n hx hb d_L_image_0 rfl (lv_at hl 2 rfl) ?_
  refine lv_iconst (v := 0) hx hb d_L_image_1 (by decide) ?_
  refine lv_aload_n hx hb d_L_image_2 rfl (lv_at hl 0 rfl) ?_
  refine lv_iload_n hx hb d_L_image_3 rfl (lv_at hl 1 rfl) ?_
  refine sf_bi (tp_xV (As := [.int xi]) (rest := [.int 0, .ref aO]) ⟨hx, hb, hml, hown, htg⟩ (s_T_image l hfl E ((aO, .inl (tp_ty E 1, 1, .inr (.inl fO))) :: fr) _ aT aY aS aB aS0 aS1 aL0 aL1 e0 e1 xl xg mo0 n0 mo1 n1 fS xi hs0 hs1 (sf_rows.cons hr0) (sf_rows.cons hr1)) (⟨callB_of 1 htg (tp_good0 kc_T_image) rfl rfl rfl (htg _ ki_T) (htg _ kl_L_36) ⟨by decide, by decide, by decide +kernel⟩ ⟨Nat.le_of_ble_eq_true rfl, Nat.le_of_ble_eq_true rfl⟩, htg _ km_T_image, htg _ kv_T_T_image⟩) (va_recv (ci := 0) (q0 := 0) hK.1 hP rfl rfl) hK hP hD hS hA rfl hl.1 rfl (Nat.le_of_ble_eq_true rfl) d_L_image_4 ⟨Nat.le_of_ble_eq_true rfl, Nat.le_of_ble_eq_true rfl⟩) hD hS hA (fun ce q xu H locs hpx hP hD hS hce hcv hcl => ?_) (fun rl u H locs hw hP hD hS => ?_)
  · rcases hpx with hpx | hpx <;> (have hpx : xu = _ := hpx; subst hpx)
    · have hP : va_P (tp_D E) tp_cl ((aT, .inr (0, [.ref aY, .ref aS, .ref aB, .int xl, .int xg])) :: (aS, .inl (tp_ty E 6, 2, .inr (.inr (.inr (.inr fS))))) :: (aS0, .inr (2, [.ref aL0])) :: (aS1, .inr (2, [.ref aL1])) :: (aL0, .inr (5, [.int mo0, .ref e0, .int n0])) :: (aL1, .inr (5, [.int mo1, .ref e1, .int n1])) :: (aO, .inl (tp_ty E 1, 1, .inr (.inl fO))) :: fr) H := hP
      have hD : va_D A ((aT, .inr (0, [.ref aY, .ref aS, .ref aB, .int xl, .int xg])) :: (aS, .inl (tp_ty E 6, 2, .inr (.inr (.inr (.inr fS))))) :: (aS0, .inr (2, [.ref aL0])) :: (aS1, .inr (2, [.ref aL1])) :: (aL0, .inr (5, [.int mo0, .ref e0, .int n0])) :: (aL1, .inr (5, [.int mo1, .ref e1, .int n1])) :: (aO, .inl (tp_ty E 1, 1, .inr (.inl fO))) :: fr) := hD
      refine vx_catch (own := "TwoPassLaw") (name := "java/lang/IllegalStateException") hown [] ⟨0, 9, 12, 15⟩ (tableOf [(0, 9, 15, 39)]) htab (fun _ h => by cases h) rfl (by decide) (htg _ kl_L_15) (hK.2.2.2.1.use kct_IllegalStateException) hce hcv hcl ?_
      refine lv_astore_n (lv' := [(3, .ref q), (0, .ref aT), (1, .int xi), (2, .ref aO)]) hx hb d_L_image_12 rfl hl (by decide) rfl (fun ls hl => ?_)
      refine lv_iconst (v := 1) hx hb d_L_image_13 (by decide) ?_
      exact W.iret (v := 1) hx hb hr (fun t ht hW => ⟨⟨_, fO, rfl, trivial, by rw [ht]; exact hP, hD⟩, hS.F ht⟩) hS.2.2 d_L_image_14
    · have hP : va_P (tp_D E) tp_cl ((aT, .inr (0, [.ref aY, .ref aS, .ref aB, .int xl, .int xg])) :: (aS, .inl (tp_ty E 6, 2, .inr (.inr (.inr (.inr fS))))) :: (aS0, .inr (2, [.ref aL0])) :: (aS1, .inr (2, [.ref aL1])) :: (aL0, .inr (5, [.int mo0, .ref e0, .int n0])) :: (aL1, .inr (5, [.int mo1, .ref e1, .int n1])) :: (aO, .inl (tp_ty E 1, 1, .inr (.inl fO))) :: fr) H := hP
      have hD : va_D A ((aT, .inr (0, [.ref aY, .ref aS, .ref aB, .int xl, .int xg])) :: (aS, .inl (tp_ty E 6, 2, .inr (.inr (.inr (.inr fS))))) :: (aS0, .inr (2, [.ref aL0])) :: (aS1, .inr (2, [.ref aL1])) :: (aL0, .inr (5, [.int mo0, .ref e0, .int n0])) :: (aL1, .inr (5, [.int mo1, .ref e1, .int n1])) :: (aO, .inl (tp_ty E 1, 1, .inr (.inl fO))) :: fr) := hD
      refine vx_catch (own := "TwoPassLaw") (name := "java/lang/IndexOutOfBoundsException") hown [⟨0, 9, 12, 15⟩] ⟨0, 9, 15, 39⟩ (tableOf []) htab (fun z hz => by simp only [List.mem_cons, List.not_mem_nil, or_false] at hz; rcases hz with rfl; exact Or.inr ⟨by decide, _, htg _ kl_L_15, hK.R.2.2.2.2.2.2.2.2⟩) rfl (by decide) (htg _ kl_L_39) (hK.2.2.2.1.use kct_IndexOutOfBoundsException) hce hcv hcl ?_
      refine lv_astore_n (lv' := [(3, .ref q), (0, .ref aT), (1, .int xi), (2, .ref aO)]) hx hb d_L_image_15 rfl hl (by decide) rfl (fun ls hl => ?_)
      refine lv_iconst (v := 2) hx hb d_L_image_16 (by decide) ?_
      exact W.iret (v := 2) hx hb hr (fun t ht hW => ⟨⟨_, fO, rfl, trivial, by rw [ht]; exact hP, hD⟩, hS.F ht⟩) hS.2.2 d_L_image_17
  · have hP : va_P (tp_D E) tp_cl ((aT, .inr (0, [.ref aY, .ref aS, .ref aB, .int xl, .int xg])) :: (aS, .inl (tp_ty E 6, 2, .inr (.inr (.inr (.inr fS))))) :: (aS0, .inr (2, [.ref aL0])) :: (aS1, .inr (2, [.ref aL1])) :: (aL0, .inr (5, [.int mo0, .ref e0, .int n0])) :: (aL1, .inr (5, [.int mo1, .ref e1, .int n1])) :: (aO, .inl (tp_ty E 1, 1, .inr (.inl fO))) :: fr) H := hP
    have hD : va_D A ((aT, .inr (0, [.ref aY, .ref aS, .ref aB, .int xl, .int xg])) :: (aS, .inl (tp_ty E 6, 2, .inr (.inr (.inr (.inr fS))))) :: (aS0, .inr (2, [.ref aL0])) :: (aS1, .inr (2, [.ref aL1])) :: (aL0, .inr (5, [.int mo0, .ref e0, .int n0])) :: (aL1, .inr (5, [.int mo1, .ref e1, .int n1])) :: (aO, .inl (tp_ty E 1, 1, .inr (.inl fO))) :: fr) := hD
    refine lv_i2l (v := rl.toInt64) hx hb d_L_image_7 rfl ?_
    refine va_last (D := tp_D E) hx hb hK.1 hP hD hS 6 1 rfl rfl (by unfold vp_in; decide) d_L_image_8 (fun H locs hP hD hS => ?_)
    have hP : va_P (tp_D E) tp_cl ((aT, .inr (0, [.ref aY, .ref aS, .ref aB, .int xl, .int xg])) :: (aS, .inl (tp_ty E 6, 2, .inr (.inr (.inr (.inr fS))))) :: (aS0, .inr (2, [.ref aL0])) :: (aS1, .inr (2, [.ref aL1])) :: (aL0, .inr (5, [.int mo0, .ref e0, .int n0])) :: (aL1, .inr (5, [.int mo1, .ref e1, .int n1])) :: (aO, .inl (tp_ty E 1, 1, .inr (.inl (vp_updL fO 0 rl.toInt64)))) :: fr) H := hP
    have hD : va_D A ((aT, .inr (0, [.ref aY, .ref aS, .ref aB, .int xl, .int xg])) :: (aS, .inl (tp_ty E 6, 2, .inr (.inr (.inr (.inr fS))))) :: (aS0, .inr (2, [.ref aL0])) :: (aS1, .inr (2, [.ref aL1])) :: (aL0, .inr (5, [.int mo0, .ref e0, .int n0])) :: (aL1, .inr (5, [.int mo1, .ref e1, .int n1])) :: (aO, .inl (tp_ty E 1, 1, .inr (.inl (vp_updL fO 0 rl.toInt64)))) :: fr) := hD
    refine lv_goto (tgt := 18) hx hb d_L_image_9 (by decide) ?_
    refine lv_iconst (v := 0) hx hb d_L_image_18 (by decide) ?_
    exact W.iret (v := 0) hx hb hr (fun t ht hW => ⟨⟨_, (vp_updL fO 0 rl.toInt64), rfl, trivial, by rw [ht]; exact hP, hD⟩, hS.F ht⟩) hS.2.2 d_L_image_19
set_option maxHeartbeats 4000000 in
set_option maxRecDepth 100000 in
theorem s_L_place (l : Launch) (hfl : l.stackTraces = false) (E : tp_Env) (fr : va_W) (sz : Nat) (aT aY aS aB aS0 aS1 aL0 aL1 e0 e1 : Nat) (xl xg mo0 n0 mo1 n1 : Int32) (fS : Nat → Option Nat) (aO : Nat) (fO : Nat → Int64) (xm xk : Int32) (hs0 : fS 0 = some aS0) (hs1 : fS 1 = some aS1) (htw : sf_two E e0 n0 e1 n1 fr) : Met l y_L_place w_L_place ({ frames := 8, cells := 2, slots := 12, locals := 131 }) (va_Pc [.ref aT, .int xm, .int xk, .ref aO] (tp_in E ((aT, .inr (0, [.ref aY, .ref aS, .ref aB, .int xl, .int xg])) :: (aS, .inl (tp_ty E 6, 2, .inr (.inr (.inr (.inr fS))))) :: (aS0, .inr (2, [.ref aL0])) :: (aS1, .inr (2, [.ref aL1])) :: (aL0, .inr (5, [.int mo0, .ref e0, .int n0])) :: (aL1, .inr (5, [.int mo1, .ref e1, .int n1])) :: (aO, .inl (tp_ty E 1, 1, .inr (.inl fO))) :: fr) sz)) (va_Qi (fun r (u : Nat → Int64) => True) (fun u t => tp_out E (va_A ((aT, .inr (0, [.ref aY, .ref aS, .ref aB, .int xl, .int xg])) :: (aS, .inl (tp_ty E 6, 2, .inr (.inr (.inr (.inr fS))))) :: (aS0, .inr (2, [.ref aL0])) :: (aS1, .inr (2, [.ref aL1])) :: (aL0, .inr (5, [.int mo0, .ref e0, .int n0])) :: (aL1, .inr (5, [.int mo1, .ref e1, .int n1])) :: (aO, .inl (tp_ty E 1, 1, .inr (.inl fO))) :: fr) sz) ((aT, .inr (0, [.ref aY, .ref aS, .ref aB, .int xl, .int xg])) :: (aS, .inl (tp_ty E 6, 2, .inr (.inr (.inr (.inr fS))))) :: (aS0, .inr (2, [.ref aL0])) :: (aS1, .inr (2, [.ref aL1])) :: (aL0, .inr (5, [.int mo0, .ref e0, .int n0])) :: (aL1, .inr (5, [.int mo1, .ref e1, .int n1])) :: (aO, .inl (tp_ty E 1, 1, .inr (.inl u))) :: fr) t) (va_A ((aT, .inr (0, [.ref aY, .ref aS, .ref aB, .int xl, .int xg])) :: (aS, .inl (tp_ty E 6, 2, .inr (.inr (.inr (.inr fS))))) :: (aS0, .inr (2, [.ref aL0])) :: (aS1, .inr (2, [.ref aL1])) :: (aL0, .inr (5, [.int mo0, .ref e0, .int n0])) :: (aL1, .inr (5, [.int mo1, .ref e1, .int n1])) :: (aO, .inl (tp_ty E 1, 1, .inr (.inl fO))) :: fr) sz)) 2 12 (va_A ((aT, .inr (0, [.ref aY, .ref aS, .ref aB, .int xl, .int xg])) :: (aS, .inl (tp_ty E 6, 2, .inr (.inr (.inr (.inr fS))))) :: (aS0, .inr (2, [.ref aL0])) :: (aS1, .inr (2, [.ref aL1])) :: (aL0, .inr (5, [.int mo0, .ref e0, .int n0])) :: (aL1, .inr (5, [.int mo1, .ref e1, .int n1])) :: (aO, .inl (tp_ty E 1, 1, .inr (.inl fO))) :: fr) sz) := by
  refine va_MetW (cc := b_L_place) (maxL := 5) (ret := (some .int)) (hh := [(0, 10, 13, 15), (0, 10, 17, 39)]) (by decide) rfl ?_
  intro p e s m args below meth c s₁ B hml hv
  obtain ⟨rfl, hsz, hP, hK, hD0⟩ := hv
  have hx := B.exec
  have hb := B.bytes
  have hr := B.returns
  have htab : c.exceptionTable.toList = tableOf [(0, 10, 13, 15), (0, 10, 17, 39)] := vx_table (x := y_L_place) B (atoms_spec (ws := w_L_place) B.pre _ List.mem_cons_self)
  have htg : ∀ w ∈ tp_G, w.before ([.ref aT, .int xm, .int xk, .ref aO] : List Value).toArray s = true := fun w h => atoms_spec (ws := w_L_place) B.pre w (List.mem_cons_of_mem _ h)
  have hown : s.vm.findClass "TwoPassLaw" = some m.cls := findClass_of_methodNamed B.named
  have hlocks := B.notSynchronized
  subst hsz
  have hD := hD0.self (sz := s.heap.size)
  generalize hAe : va_A ((aT, .inr (0, [.ref aY, .ref aS, .ref aB, .int xl, .int xg])) :: (aS, .inl (tp_ty E 6, 2, .inr (.inr (.inr (.inr fS))))) :: (aS0, .inr (2, [.ref aL0])) :: (aS1, .inr (2, [.ref aL1])) :: (aL0, .inr (5, [.int mo0, .ref e0, .int n0])) :: (aL1, .inr (5, [.int mo1, .ref e1, .int n1])) :: (aO, .inl (tp_ty E 1, 1, .inr (.inl fO))) :: fr) s.heap.size = A at hD hK ⊢
  have hA : ∀ q : Nat, s.heap.size ≤ q → A q := fun q h => by rw [← hAe]; exact Or.inr h
  have hS : va_S A s.heap s.heap [] := va_S.rf
  have hl := lv_entry ([.ref aT, .int xm, .int xk, .ref aO]) (n := 5) (Nat.le_of_ble_eq_true rfl)
  rw [lg_entry_eq]
  generalize (lg_sl ([.ref aT, .int xm, .int xk, .ref aO]) ++ List.replicate (5 - (lg_sl ([.ref aT, .int xm, .int xk, .ref aO])).length) Slot.unset).toArray = ls at hl ⊢
  have hl : lv_has ls 5 [(0, .ref aT), (1, .int xm), (2, .int xk), (3, .ref aO)] := hl
  have hr0 := htw.1
  have hr1 := htw.2.1
  have htw0 := htw.1
  have htw1 := htw.2.1
  refine lv_aload_n hx hb d_L_place_0 rfl (lv_at hl 3 rfl) ?_
  refine lv_iconst (v := 0) hx hb d_L_place_1 (by decide) ?_
  refine lv_aload_n hx hb d_L_place_2 rfl (lv_at hl 0 rfl) ?_
  refine lv_iload_n hx hb d_L_place_3 rfl (lv_at hl 1 rfl) ?_
  refine lv_iload_n hx hb d_L_place_4 rfl (lv_at hl 2 rfl) ?_
  refine sf_bi (tp_xV (As := [.int xm, .int xk]) (rest := [.int 0, .ref aO]) ⟨hx, hb, hml, hown, htg⟩ (s_T_place l hfl E ((aO, .inl (tp_ty E 1, 1, .inr (.inl fO))) :: fr) _ aT aY aS aB aS0 aS1 aL0 aL1 e0 e1 xl xg mo0 n0 mo1 n1 fS xm xk hs0 hs1 (sf_rows.cons hr0) (sf_rows.cons hr1)) (⟨callB_of 2 htg (tp_good0 kc_T_place) rfl rfl rfl (htg _ ki_T) (htg _ kl_L_41) ⟨by decide, by decide, by decide +kernel⟩ ⟨Nat.le_of_ble_eq_true rfl, Nat.le_of_ble_eq_true rfl⟩, htg _ km_T_place, htg _ kv_T_T_place⟩) (va_recv (ci := 0) (q0 := 0) hK.1 hP rfl rfl) hK hP hD hS hA rfl hl.1 rfl (Nat.le_of_ble_eq_true rfl) d_L_place_5 ⟨Nat.le_of_ble_eq_true rfl, Nat.le_of_ble_eq_true rfl⟩) hD hS hA (fun ce q xu H locs hpx hP hD hS hce hcv hcl => ?_) (fun rl u H locs hw hP hD hS => ?_)
  · rcases hpx with hpx | hpx <;> (have hpx : xu = _ := hpx; subst hpx)
    · have hP : va_P (tp_D E) tp_cl ((aT, .inr (0, [.ref aY, .ref aS, .ref aB, .int xl, .int xg])) :: (aS, .inl (tp_ty E 6, 2, .inr (.inr (.inr (.inr fS))))) :: (aS0, .inr (2, [.ref aL0])) :: (aS1, .inr (2, [.ref aL1])) :: (aL0, .inr (5, [.int mo0, .ref e0, .int n0])) :: (aL1, .inr (5, [.int mo1, .ref e1, .int n1])) :: (aO, .inl (tp_ty E 1, 1, .inr (.inl fO))) :: fr) H := hP
      have hD : va_D A ((aT, .inr (0, [.ref aY, .ref aS, .ref aB, .int xl, .int xg])) :: (aS, .inl (tp_ty E 6, 2, .inr (.inr (.inr (.inr fS))))) :: (aS0, .inr (2, [.ref aL0])) :: (aS1, .inr (2, [.ref aL1])) :: (aL0, .inr (5, [.int mo0, .ref e0, .int n0])) :: (aL1, .inr (5, [.int mo1, .ref e1, .int n1])) :: (aO, .inl (tp_ty E 1, 1, .inr (.inl fO))) :: fr) := hD
      refine vx_catch (own := "TwoPassLaw") (name := "java/lang/IllegalStateException") hown [] ⟨0, 10, 13, 15⟩ (tableOf [(0, 10, 17, 39)]) htab (fun _ h => by cases h) rfl (by decide) (htg _ kl_L_15) (hK.2.2.2.1.use kct_IllegalStateException) hce hcv hcl ?_
      refine lv_astore (lv' := [(4, .ref q), (0, .ref aT), (1, .int xm), (2, .int xk), (3, .ref aO)]) hx hb d_L_place_13 hl (by decide) rfl (fun ls hl => ?_)
      refine lv_iconst (v := 1) hx hb d_L_place_15 (by decide) ?_
      exact W.iret (v := 1) hx hb hr (fun t ht hW => ⟨⟨_, fO, rfl, trivial, by rw [ht]; exact hP, hD⟩, hS.F ht⟩) hS.2.2 d_L_place_16
    · have hP : va_P (tp_D E) tp_cl ((aT, .inr (0, [.ref aY, .ref aS, .ref aB, .int xl, .int xg])) :: (aS, .inl (tp_ty E 6, 2, .inr (.inr (.inr (.inr fS))))) :: (aS0, .inr (2, [.ref aL0])) :: (aS1, .inr (2, [.ref aL1])) :: (aL0, .inr (5, [.int mo0, .ref e0, .int n0])) :: (aL1, .inr (5, [.int mo1, .ref e1, .int n1])) :: (aO, .inl (tp_ty E 1, 1, .inr (.inl fO))) :: fr) H := hP
      have hD : va_D A ((aT, .inr (0, [.ref aY, .ref aS, .ref aB, .int xl, .int xg])) :: (aS, .inl (tp_ty E 6, 2, .inr (.inr (.inr (.inr fS))))) :: (aS0, .inr (2, [.ref aL0])) :: (aS1, .inr (2, [.ref aL1])) :: (aL0, .inr (5, [.int mo0, .ref e0, .int n0])) :: (aL1, .inr (5, [.int mo1, .ref e1, .int n1])) :: (aO, .inl (tp_ty E 1, 1, .inr (.inl fO))) :: fr) := hD
      refine vx_catch (own := "TwoPassLaw") (name := "java/lang/IndexOutOfBoundsException") hown [⟨0, 10, 13, 15⟩] ⟨0, 10, 17, 39⟩ (tableOf []) htab (fun z hz => by simp only [List.mem_cons, List.not_mem_nil, or_false] at hz; rcases hz with rfl; exact Or.inr ⟨by decide, _, htg _ kl_L_15, hK.R.2.2.2.2.2.2.2.2⟩) rfl (by decide) (htg _ kl_L_39) (hK.2.2.2.1.use kct_IndexOutOfBoundsException) hce hcv hcl ?_
      refine lv_astore (lv' := [(4, .ref q), (0, .ref aT), (1, .int xm), (2, .int xk), (3, .ref aO)]) hx hb d_L_place_17 hl (by decide) rfl (fun ls hl => ?_)
      refine lv_iconst (v := 2) hx hb d_L_place_19 (by decide) ?_
      exact W.iret (v := 2) hx hb hr (fun t ht hW => ⟨⟨_, fO, rfl, trivial, by rw [ht]; exact hP, hD⟩, hS.F ht⟩) hS.2.2 d_L_place_20
  · have hP : va_P (tp_D E) tp_cl ((aT, .inr (0, [.ref aY, .ref aS, .ref aB, .int xl, .int xg])) :: (aS, .inl (tp_ty E 6, 2, .inr (.inr (.inr (.inr fS))))) :: (aS0, .inr (2, [.ref aL0])) :: (aS1, .inr (2, [.ref aL1])) :: (aL0, .inr (5, [.int mo0, .ref e0, .int n0])) :: (aL1, .inr (5, [.int mo1, .ref e1, .int n1])) :: (aO, .inl (tp_ty E 1, 1, .inr (.inl fO))) :: fr) H := hP
    have hD : va_D A ((aT, .inr (0, [.ref aY, .ref aS, .ref aB, .int xl, .int xg])) :: (aS, .inl (tp_ty E 6, 2, .inr (.inr (.inr (.inr fS))))) :: (aS0, .inr (2, [.ref aL0])) :: (aS1, .inr (2, [.ref aL1])) :: (aL0, .inr (5, [.int mo0, .ref e0, .int n0])) :: (aL1, .inr (5, [.int mo1, .ref e1, .int n1])) :: (aO, .inl (tp_ty E 1, 1, .inr (.inl fO))) :: fr) := hD
    refine lv_i2l (v := rl.toInt64) hx hb d_L_place_8 rfl ?_
    refine va_last (D := tp_D E) hx hb hK.1 hP hD hS 6 1 rfl rfl (by unfold vp_in; decide) d_L_place_9 (fun H locs hP hD hS => ?_)
    have hP : va_P (tp_D E) tp_cl ((aT, .inr (0, [.ref aY, .ref aS, .ref aB, .int xl, .int xg])) :: (aS, .inl (tp_ty E 6, 2, .inr (.inr (.inr (.inr fS))))) :: (aS0, .inr (2, [.ref aL0])) :: (aS1, .inr (2, [.ref aL1])) :: (aL0, .inr (5, [.int mo0, .ref e0, .int n0])) :: (aL1, .inr (5, [.int mo1, .ref e1, .int n1])) :: (aO, .inl (tp_ty E 1, 1, .inr (.inl (vp_updL fO 0 rl.toInt64)))) :: fr) H := hP
    have hD : va_D A ((aT, .inr (0, [.ref aY, .ref aS, .ref aB, .int xl, .int xg])) :: (aS, .inl (tp_ty E 6, 2, .inr (.inr (.inr (.inr fS))))) :: (aS0, .inr (2, [.ref aL0])) :: (aS1, .inr (2, [.ref aL1])) :: (aL0, .inr (5, [.int mo0, .ref e0, .int n0])) :: (aL1, .inr (5, [.int mo1, .ref e1, .int n1])) :: (aO, .inl (tp_ty E 1, 1, .inr (.inl (vp_updL fO 0 rl.toInt64)))) :: fr) := hD
    refine lv_goto (tgt := 21) hx hb d_L_place_10 (by decide) ?_
    refine lv_iconst (v := 0) hx hb d_L_place_21 (by decide) ?_
    exact W.iret (v := 0) hx hb hr (fun t ht hW => ⟨⟨_, (vp_updL fO 0 rl.toInt64), rfl, trivial, by rw [ht]; exact hP, hD⟩, hS.F ht⟩) hS.2.2 d_L_place_22
set_option maxHeartbeats 4000000 in
set_option maxRecDepth 100000 in
theorem s_L_lines (l : Launch) (hfl : l.stackTraces = false) (E : tp_Env) (fr : va_W) (sz : Nat) (aT aY aS aB aS0 aS1 aL0 aL1 e0 e1 : Nat) (xl xg mo0 n0 mo1 n1 : Int32) (fS : Nat → Option Nat) (aO : Nat) (fO : Nat → Int64) (xm : Int32) (hs0 : fS 0 = some aS0) (hs1 : fS 1 = some aS1) (htw : sf_two E e0 n0 e1 n1 fr) : Met l y_L_lines w_L_lines ({ frames := 8, cells := 1, slots := 6, locals := 130 }) (va_Pc [.ref aT, .int xm, .ref aO] (tp_in E ((aT, .inr (0, [.ref aY, .ref aS, .ref aB, .int xl, .int xg])) :: (aS, .inl (tp_ty E 6, 2, .inr (.inr (.inr (.inr fS))))) :: (aS0, .inr (2, [.ref aL0])) :: (aS1, .inr (2, [.ref aL1])) :: (aL0, .inr (5, [.int mo0, .ref e0, .int n0])) :: (aL1, .inr (5, [.int mo1, .ref e1, .int n1])) :: (aO, .inl (tp_ty E 1, 1, .inr (.inl fO))) :: fr) sz)) (va_Qi (fun r (u : Nat → Int64) => True) (fun u t => tp_out E (va_A ((aT, .inr (0, [.ref aY, .ref aS, .ref aB, .int xl, .int xg])) :: (aS, .inl (tp_ty E 6, 2, .inr (.inr (.inr (.inr fS))))) :: (aS0, .inr (2, [.ref aL0])) :: (aS1, .inr (2, [.ref aL1])) :: (aL0, .inr (5, [.int mo0, .ref e0, .int n0])) :: (aL1, .inr (5, [.int mo1, .ref e1, .int n1])) :: (aO, .inl (tp_ty E 1, 1, .inr (.inl fO))) :: fr) sz) ((aT, .inr (0, [.ref aY, .ref aS, .ref aB, .int xl, .int xg])) :: (aS, .inl (tp_ty E 6, 2, .inr (.inr (.inr (.inr fS))))) :: (aS0, .inr (2, [.ref aL0])) :: (aS1, .inr (2, [.ref aL1])) :: (aL0, .inr (5, [.int mo0, .ref e0, .int n0])) :: (aL1, .inr (5, [.int mo1, .ref e1, .int n1])) :: (aO, .inl (tp_ty E 1, 1, .inr (.inl u))) :: fr) t) (va_A ((aT, .inr (0, [.ref aY, .ref aS, .ref aB, .int xl, .int xg])) :: (aS, .inl (tp_ty E 6, 2, .inr (.inr (.inr (.inr fS))))) :: (aS0, .inr (2, [.ref aL0])) :: (aS1, .inr (2, [.ref aL1])) :: (aL0, .inr (5, [.int mo0, .ref e0, .int n0])) :: (aL1, .inr (5, [.int mo1, .ref e1, .int n1])) :: (aO, .inl (tp_ty E 1, 1, .inr (.inl fO))) :: fr) sz)) 1 6 (va_A ((aT, .inr (0, [.ref aY, .ref aS, .ref aB, .int xl, .int xg])) :: (aS, .inl (tp_ty E 6, 2, .inr (.inr (.inr (.inr fS))))) :: (aS0, .inr (2, [.ref aL0])) :: (aS1, .inr (2, [.ref aL1])) :: (aL0, .inr (5, [.int mo0, .ref e0, .int n0])) :: (aL1, .inr (5, [.int mo1, .ref e1, .int n1])) :: (aO, .inl (tp_ty E 1, 1, .inr (.inl fO))) :: fr) sz) := by
  refine va_MetW (cc := b_L_lines) (maxL := 4) (ret := (some .int)) (hh := [(0, 9, 12, 13)]) (by decide) rfl ?_
  intro p e s m args below meth c s₁ B hml hv
  obtain ⟨rfl, hsz, hP, hK, hD0⟩ := hv
  have hx := B.exec
  have hb := B.bytes
  have hr := B.returns
  have htab : c.exceptionTable.toList = tableOf [(0, 9, 12, 13)] := vx_table (x := y_L_lines) B (atoms_spec (ws := w_L_lines) B.pre _ List.mem_cons_self)
  have htg : ∀ w ∈ tp_G, w.before ([.ref aT, .int xm, .ref aO] : List Value).toArray s = true := fun w h => atoms_spec (ws := w_L_lines) B.pre w (List.mem_cons_of_mem _ h)
  have hown : s.vm.findClass "TwoPassLaw" = some m.cls := findClass_of_methodNamed B.named
  have hlocks := B.notSynchronized
  subst hsz
  have hD := hD0.self (sz := s.heap.size)
  generalize hAe : va_A ((aT, .inr (0, [.ref aY, .ref aS, .ref aB, .int xl, .int xg])) :: (aS, .inl (tp_ty E 6, 2, .inr (.inr (.inr (.inr fS))))) :: (aS0, .inr (2, [.ref aL0])) :: (aS1, .inr (2, [.ref aL1])) :: (aL0, .inr (5, [.int mo0, .ref e0, .int n0])) :: (aL1, .inr (5, [.int mo1, .ref e1, .int n1])) :: (aO, .inl (tp_ty E 1, 1, .inr (.inl fO))) :: fr) s.heap.size = A at hD hK ⊢
  have hA : ∀ q : Nat, s.heap.size ≤ q → A q := fun q h => by rw [← hAe]; exact Or.inr h
  have hS : va_S A s.heap s.heap [] := va_S.rf
  have hl := lv_entry ([.ref aT, .int xm, .ref aO]) (n := 4) (Nat.le_of_ble_eq_true rfl)
  rw [lg_entry_eq]
  generalize (lg_sl ([.ref aT, .int xm, .ref aO]) ++ List.replicate (4 - (lg_sl ([.ref aT, .int xm, .ref aO])).length) Slot.unset).toArray = ls at hl ⊢
  have hl : lv_has ls 4 [(0, .ref aT), (1, .int xm), (2, .ref aO)] := hl
  have hr0 := htw.1
  have hr1 := htw.2.1
  have htw0 := htw.1
  have htw1 := htw.2.1
  refine lv_aload_n hx hb d_L_lines_0 rfl (lv_at hl 2 rfl) ?_
  refine lv_iconst (v := 0) hx hb d_L_lines_1 (by decide) ?_
  refine lv_aload_n hx hb d_L_lines_2 rfl (lv_at hl 0 rfl) ?_
  refine lv_iload_n hx hb d_L_lines_3 rfl (lv_at hl 1 rfl) ?_
  refine sf_bi (tp_xV (As := [.int xm]) (rest := [.int 0, .ref aO]) ⟨hx, hb, hml, hown, htg⟩ (s_T_lines l hfl E ((aO, .inl (tp_ty E 1, 1, .inr (.inl fO))) :: fr) _ aT aY aS aB aS0 aS1 aL0 aL1 e0 e1 xl xg mo0 n0 mo1 n1 fS xm hs0 hs1 (sf_rows.cons hr0) (sf_rows.cons hr1)) (⟨callB_of 1 htg (tp_good0 kc_T_lines) rfl rfl rfl (htg _ ki_T) (htg _ kl_L_51) ⟨by decide, by decide, by decide +kernel⟩ ⟨Nat.le_of_ble_eq_true rfl, Nat.le_of_ble_eq_true rfl⟩, htg _ km_T_lines, htg _ kv_T_T_lines⟩) (va_recv (ci := 0) (q0 := 0) hK.1 hP rfl rfl) hK hP hD hS hA rfl hl.1 rfl (Nat.le_of_ble_eq_true rfl) d_L_lines_4 ⟨Nat.le_of_ble_eq_true rfl, Nat.le_of_ble_eq_true rfl⟩) hD hS hA (fun ce q xu H locs hpx hP hD hS hce hcv hcl => ?_) (fun rl u H locs hw hP hD hS => ?_)
  · have hpx : xu = 0 := hpx
    subst hpx
    have hP : va_P (tp_D E) tp_cl ((aT, .inr (0, [.ref aY, .ref aS, .ref aB, .int xl, .int xg])) :: (aS, .inl (tp_ty E 6, 2, .inr (.inr (.inr (.inr fS))))) :: (aS0, .inr (2, [.ref aL0])) :: (aS1, .inr (2, [.ref aL1])) :: (aL0, .inr (5, [.int mo0, .ref e0, .int n0])) :: (aL1, .inr (5, [.int mo1, .ref e1, .int n1])) :: (aO, .inl (tp_ty E 1, 1, .inr (.inl fO))) :: fr) H := hP
    have hD : va_D A ((aT, .inr (0, [.ref aY, .ref aS, .ref aB, .int xl, .int xg])) :: (aS, .inl (tp_ty E 6, 2, .inr (.inr (.inr (.inr fS))))) :: (aS0, .inr (2, [.ref aL0])) :: (aS1, .inr (2, [.ref aL1])) :: (aL0, .inr (5, [.int mo0, .ref e0, .int n0])) :: (aL1, .inr (5, [.int mo1, .ref e1, .int n1])) :: (aO, .inl (tp_ty E 1, 1, .inr (.inl fO))) :: fr) := hD
    refine vx_catch (own := "TwoPassLaw") (name := "java/lang/IllegalArgumentException") hown [] ⟨0, 9, 12, 13⟩ (tableOf []) htab (fun _ h => by cases h) rfl (by decide) (htg _ kl_L_13) (hK.2.2.2.1.use kct_IllegalArgumentException) hce hcv hcl ?_
    refine lv_astore_n (lv' := [(3, .ref q), (0, .ref aT), (1, .int xm), (2, .ref aO)]) hx hb d_L_lines_12 rfl hl (by decide) rfl (fun ls hl => ?_)
    refine lv_iconst (v := 1) hx hb d_L_lines_13 (by decide) ?_
    exact W.iret (v := 1) hx hb hr (fun t ht hW => ⟨⟨_, fO, rfl, trivial, by rw [ht]; exact hP, hD⟩, hS.F ht⟩) hS.2.2 d_L_lines_14
  · have hP : va_P (tp_D E) tp_cl ((aT, .inr (0, [.ref aY, .ref aS, .ref aB, .int xl, .int xg])) :: (aS, .inl (tp_ty E 6, 2, .inr (.inr (.inr (.inr fS))))) :: (aS0, .inr (2, [.ref aL0])) :: (aS1, .inr (2, [.ref aL1])) :: (aL0, .inr (5, [.int mo0, .ref e0, .int n0])) :: (aL1, .inr (5, [.int mo1, .ref e1, .int n1])) :: (aO, .inl (tp_ty E 1, 1, .inr (.inl fO))) :: fr) H := hP
    have hD : va_D A ((aT, .inr (0, [.ref aY, .ref aS, .ref aB, .int xl, .int xg])) :: (aS, .inl (tp_ty E 6, 2, .inr (.inr (.inr (.inr fS))))) :: (aS0, .inr (2, [.ref aL0])) :: (aS1, .inr (2, [.ref aL1])) :: (aL0, .inr (5, [.int mo0, .ref e0, .int n0])) :: (aL1, .inr (5, [.int mo1, .ref e1, .int n1])) :: (aO, .inl (tp_ty E 1, 1, .inr (.inl fO))) :: fr) := hD
    refine lv_i2l (v := rl.toInt64) hx hb d_L_lines_7 rfl ?_
    refine va_last (D := tp_D E) hx hb hK.1 hP hD hS 6 1 rfl rfl (by unfold vp_in; decide) d_L_lines_8 (fun H locs hP hD hS => ?_)
    have hP : va_P (tp_D E) tp_cl ((aT, .inr (0, [.ref aY, .ref aS, .ref aB, .int xl, .int xg])) :: (aS, .inl (tp_ty E 6, 2, .inr (.inr (.inr (.inr fS))))) :: (aS0, .inr (2, [.ref aL0])) :: (aS1, .inr (2, [.ref aL1])) :: (aL0, .inr (5, [.int mo0, .ref e0, .int n0])) :: (aL1, .inr (5, [.int mo1, .ref e1, .int n1])) :: (aO, .inl (tp_ty E 1, 1, .inr (.inl (vp_updL fO 0 rl.toInt64)))) :: fr) H := hP
    have hD : va_D A ((aT, .inr (0, [.ref aY, .ref aS, .ref aB, .int xl, .int xg])) :: (aS, .inl (tp_ty E 6, 2, .inr (.inr (.inr (.inr fS))))) :: (aS0, .inr (2, [.ref aL0])) :: (aS1, .inr (2, [.ref aL1])) :: (aL0, .inr (5, [.int mo0, .ref e0, .int n0])) :: (aL1, .inr (5, [.int mo1, .ref e1, .int n1])) :: (aO, .inl (tp_ty E 1, 1, .inr (.inl (vp_updL fO 0 rl.toInt64)))) :: fr) := hD
    refine lv_goto (tgt := 15) hx hb d_L_lines_9 (by decide) ?_
    refine lv_iconst (v := 0) hx hb d_L_lines_15 (by decide) ?_
    exact W.iret (v := 0) hx hb hr (fun t ht hW => ⟨⟨_, (vp_updL fO 0 rl.toInt64), rfl, trivial, by rw [ht]; exact hP, hD⟩, hS.F ht⟩) hS.2.2 d_L_lines_16
