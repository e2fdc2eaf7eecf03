set_option maxHeartbeats 4000000 in
set_option maxRecDepth 100000 in
theorem c_T_isModule (l : Launch) (E : tp_Env) (fr : va_W) (sz : Nat) (k : Int32) : Met l y_T_isModule w_T_isModule ({ frames := 0, cells := 0, slots := 0, locals := 0 }) (va_Pc [.int k] (tp_in E fr sz)) (va_Qi (fun r (_ : Unit) => r = if 0 ≤ k ∧ k < 2 then 1 else 0) (fun _ t => tp_out E (va_A fr sz) fr t) (va_A fr sz)) 0 0 (va_A fr sz) := by
  refine Met.ofW (cc := b_T_isModule) (maxL := 1) (ret := some .boolean) (by decide) rfl ?_
  intro p e s m args below meth c s₁ B hml hv
  obtain ⟨rfl, hsz, hP, hK, hD0⟩ := hv
  have hx := B.exec
  have hb := B.bytes
  have hr := B.returns
  have hlocks := B.notSynchronized
  subst hsz
  have hD := hD0.self (sz := s.heap.size)
  have hl := lv_entry ([.int k]) (n := 1) (Nat.le_of_ble_eq_true rfl)
  rw [lg_entry_eq]
  generalize (lg_sl ([.int k]) ++ List.replicate (1 - (lg_sl ([.int k])).length) Slot.unset).toArray = ls at hl ⊢
  have hl : lv_has ls 1 [(0, .int k)] := hl
  refine lv_iload_n hx hb d_T_isModule_0 rfl (lv_at hl 0 rfl) ?_
  refine lv_if_lt hx hb d_T_isModule_1 (by decide) (fun h1 => ?_) (fun h1 => ?_)
  · refine lv_iconst (v := 0) hx hb d_T_isModule_13 (by decide) ?_
    exact W.zret (v := 0) hx hb hr rfl (fun t ht hW => ⟨⟨0, (), rfl, by rw [if_neg (fun h => absurd h.1 (Int32.not_le.mpr h1))], by rw [ht]; exact hP, hD⟩, va_S.rf.F ht⟩) va_S.rf.2.2 d_T_isModule_14
  · refine lv_iload_n hx hb d_T_isModule_4 rfl (lv_at hl 0 rfl) ?_
    refine lv_iconst (v := 2) hx hb d_T_isModule_5 (by decide) ?_
    refine lv_icmp_ge hx hb d_T_isModule_6 (by decide) (fun h2 => ?_) (fun h2 => ?_)
    · refine lv_iconst (v := 0) hx hb d_T_isModule_13 (by decide) ?_
      exact W.zret (v := 0) hx hb hr rfl (fun t ht hW => ⟨⟨0, (), rfl, by rw [if_neg (fun h => absurd h.2 (Int32.not_lt.mpr h2))], by rw [ht]; exact hP, hD⟩, va_S.rf.F ht⟩) va_S.rf.2.2 d_T_isModule_14
    · refine lv_iconst (v := 1) hx hb d_T_isModule_9 (by decide) ?_
      refine lv_goto hx hb d_T_isModule_10 (tgt := 14) (by decide) ?_
      exact W.zret (v := 1) hx hb hr rfl (fun t ht hW => ⟨⟨1, (), rfl, by rw [if_pos ⟨Int32.not_lt.mp h1, Int32.not_le.mp h2⟩], by rw [ht]; exact hP, hD⟩, va_S.rf.F ht⟩) va_S.rf.2.2 d_T_isModule_14
