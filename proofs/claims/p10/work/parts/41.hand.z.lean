/-! THE CLAIM OUT OF ONE WALK OF THE LAW'S BODY. Your part is whole_start (and what it stands on); all else here is the same for every law, but numbers. -/
def R_law : String := "TwoPassLaw"
def lw_P (b : Addr) (xs : List Int32) (args : Array Value) (s : State) : Prop := args = #[.ref b] ∧ s.IntsAt b xs ∧ xs.length ≤ 2048 ∧ (Jvm.Cond.and given_1 narrow_1).before args s = true
def lw_Q (_ : Array Value) (s : State) (o : Outcome) (t : State) : Prop := o = .returned (some (.int 1)) ∧ Framed s o t [] 601024 7293034
def lw_Z (below : List Frame) (a : Array Value) (s : State) : State → Prop := fun t => ∃ o, t.status = .running ∧ Ended t below o ∧ lw_Q a s o t
/-- the law's own end, with 1 on the stack, nothing written that was there before, its room as the claim has it -/
theorem lw_ret {p : Program} {l : Launch} {e : Env} {s : State} {m : MethodId} {below : List Frame} {meth : Method} {c : Code} {b : Nat} (hx : p.tables.exec = Jvm.exec) (hb : c.code = code) (hr : meth.sig.returnType = ret) (hlocks : meth.locks = false) {pc : Nat} {H : Heap} {ls : Array Slot} (hdg : decode code pc = .ok (.ireturn, 1)) : W p l e room_1 s m #[Value.ref b] below meth c H [] 601024 7293034 (lw_Z below #[Value.ref b] s) (F0 m pc ls [.int 1]) := by
  intro T hT X
  obtain ⟨fs, hret, hrun, hended, hW, hframe⟩ := X.leave (v := some (.int 1)) (hlocks := hlocks) (fun h => by rw [hr] at h; cases h)
  have hmeth' : T.vm.method? m = some meth := X.method'
  refine ⟨T.setFrames fs, ?_, .returned (some (.int 1)), hrun, hended, rfl, ⟨_, rfl⟩, hW, hframe⟩
  jvm_step X.here [X.here.top, hx, hb, hdg, hmeth', hr, ret, narrow_b1]
  (try refine ⟨rfl, ?_⟩); (try refine ⟨rfl, ?_⟩)
  first | (intro acts; rw [hret _ acts rfl rfl rfl]) | rw [hret _ _ rfl rfl rfl]
  exact Steps.refl _
/-- what holds at the law's entry: the machine, the code, the tables' words (any of lw_tbl by 'hts w (by decide +kernel)'), the script of L ints xs at the cell b, what the Statement gives of the start (any of its parts by flat_of_before) -/
def lw_At (p : Program) (s : State) (m : MethodId) (meth : Method) (c : Code) (b L : Nat) (xs : Nat → Int32) : Prop :=
  p.tables.exec = Jvm.exec ∧ c.code = code ∧ meth.sig.returnType = ret ∧ c.maxLocals = 7 ∧ s.vm.findClass R_law = some m.cls ∧ (∀ w ∈ lw_tbl, w.before #[Value.ref b] s = true) ∧ va_X b L xs s s.heap ∧ b < s.heap.size ∧ meth.locks = false ∧ (Jvm.Cond.and given_1 narrow_1).before #[Value.ref b] s = true
section TPV
variable {p : Program} {l : Launch} {e : Env} {R : Room} {s : State} {m : MethodId} {args : Array Value} {below : List Frame} {meth : Method} {c : Code} {H : Heap} {locs : List Loc} {cells slots : Nat}
variable {y : MethodName} {bytes cc : ByteArray} {maxL nL mc ms n index pc : Nat} {ret : Option FieldType} {ws : List Cond} {rm : Room} {Ts : List Cond} {own : String} {As rest st0 : List Value} {ls : Array Slot} {E : tp_Env} {A : Nat → Prop} {Wc : va_W} {hh : List (Nat × Nat × Nat × Nat)}
theorem tp_cwSW (n : Nat) (htg : ∀ w ∈ tp_G, w.before args s = true) (hc : Cond.codeWith y bytes maxL ret hh ∈ tp_G) (h1 : (Cond.methodLink own index y).before args s = true) (h2 : (Cond.static y).before args s = true) (h5 : (Cond.initialized y.cls).before args s = true)
    (hd : y.cls ≠ "java/lang/invoke/MethodHandle" ∧ y.cls ≠ "java/lang/invoke/VarHandle" ∧ (parseMethodDescriptor y.desc).map (fun d => d.parameters.length) = some n) (hR : rm.frames + 1 ≤ R.frames ∧ 8 + (maxL + 11) + rm.locals ≤ R.locals) : vx_CSW R s args own index y bytes maxL ret hh (Cond.codeWith y bytes maxL ret hh :: tp_G) rm rm.cells rm.slots n := by
  refine ⟨⟨rfl, rfl, hR.1, hR.2, pay_in htg (tp_good0 hc), List.mem_cons_self⟩, htg _ hc, h5, ⟨hd.1, hd.2.1⟩, fun sig h => ?_, h1, h2⟩
  have h2 := hd.2.2
  rw [h] at h2
  exact (Option.some.inj h2).symm
theorem tp_rSW {Qc : Array Value → State → Outcome → State → Prop} {free : Addr → Prop} (F : CallFix p m c cc nL s args Ts own) (hM : Met l y ws rm (va_Pc As (tp_in E Wc H.size)) Qc mc ms free) (cw : vx_CSW R s args own index y bytes maxL ret hh ws rm mc ms n) (hK : tp_K E A s s.heap) (hP : va_P (tp_D E) tp_cl Wc H) (hD : va_D A Wc) (hS : va_S A s.heap H locs) (hA : ∀ q, s.heap.size ≤ q → A q) (hn : As.length = n) (hsize : ls.size = nL) (hst : st0 = As.reverse ++ rest) (hW : (rest.map fun v => v.category).sum ≤ 8) (hdg : decode cc pc = .ok (.invokestatic index, 3)) (hf : cells + mc ≤ R.cells ∧ slots + ms ≤ R.slots) :
    va_Run p l e R s m args below meth c H locs cells slots mc ms (F0 m pc ls st0) rest (Qc (As).toArray) free := vx_runSW F hM cw ⟨tp_blind, fun U hU hW => ⟨rfl, tp_mk hK hP hD hS hA hU hW⟩⟩ rfl hn hsize hst (lv_room hW) hdg hf
end TPV
/-- some of a world's cells, in any order -/
theorem tp_pickP {D : va_G} {cl : List vw_C} {H : Heap} {l l' fr : va_W} (h : va_P D cl (l ++ fr) H) (ix : List Nat) (e : l'.map some = ix.map (fun i => l[i]?)) : va_P D cl (l' ++ fr) H := by
  intro k q hk
  by_cases hlt : k < l'.length
  · rw [List.getElem?_append_left hlt] at hk
    have h1 : some q ∈ ix.map (fun i => l[i]?) := by rw [← e]; exact List.mem_map.mpr ⟨q, List.mem_of_getElem? hk, rfl⟩
    obtain ⟨i, -, hi⟩ := List.mem_map.mp h1
    have hil : i < l.length := (List.getElem?_eq_some_iff.mp hi).1
    exact h i q (by rw [List.getElem?_append_left hil]; exact hi)
  · rw [List.getElem?_append_right (by omega)] at hk
    exact h (l.length + (k - l'.length)) q (by rw [List.getElem?_append_right (by omega), Nat.add_sub_cancel_left]; exact hk)
theorem tp_pickD {A : Nat → Prop} {l l' fr : va_W} (h : va_D A (l ++ fr)) (ix : List Nat) (e : l'.map some = ix.map (fun i => l[i]?)) (hn : ix.Nodup) : va_D A (l' ++ fr) := by
  have hlen : l'.length = ix.length := by
    have := congrArg List.length e
    simpa using this
  have look : ∀ (k : Nat) (q : Nat × va_E), (l' ++ fr)[k]? = some q → ∃ k', (l ++ fr)[k']? = some q ∧ ((k < l'.length ∧ ix[k]? = some k' ∧ k' < l.length) ∨ (l'.length ≤ k ∧ k' = l.length + (k - l'.length))) := by
    intro k q hk
    by_cases hlt : k < l'.length
    · rw [List.getElem?_append_left hlt] at hk
      have h1 : (l'.map some)[k]? = some (some q) := by rw [List.getElem?_map, hk]; rfl
      rw [e, List.getElem?_map] at h1
      obtain ⟨i, hi, hi2⟩ := Option.map_eq_some_iff.mp h1
      have hil : i < l.length := (List.getElem?_eq_some_iff.mp hi2).1
      exact ⟨i, by rw [List.getElem?_append_left hil]; exact hi2, Or.inl ⟨hlt, hi, hil⟩⟩
    · rw [List.getElem?_append_right (by omega)] at hk
      exact ⟨l.length + (k - l'.length), by rw [List.getElem?_append_right (by omega), Nat.add_sub_cancel_left]; exact hk, Or.inr ⟨by omega, rfl⟩⟩
  refine ⟨fun i j p q hi hj hpq => ?_, fun k q hk => ?_⟩
  · obtain ⟨i', hi', ei⟩ := look i p hi
    obtain ⟨j', hj', ej⟩ := look j q hj
    have e0 := h.1 i' j' p q hi' hj' hpq
    rcases ei with ⟨a1, a2, a3⟩ | ⟨a1, a2⟩ <;> rcases ej with ⟨b1, b2, b3⟩ | ⟨b1, b2⟩
    · subst e0
      obtain ⟨hi1, hi2⟩ := List.getElem?_eq_some_iff.mp a2
      obtain ⟨hj1, hj2⟩ := List.getElem?_eq_some_iff.mp b2
      have hp := List.pairwise_iff_getElem.mp hn
      rcases Nat.lt_trichotomy i j with hlt | heq | hlt
      · exact absurd (hi2.trans hj2.symm) (hp i j hi1 hj1 hlt)
      · exact heq
      · exact absurd (hj2.trans hi2.symm) (hp j i hj1 hi1 hlt)
    · omega
    · omega
    · omega
  · obtain ⟨k', hk', -⟩ := look k q hk
    exact h.2 k' q hk'
theorem tp_tyok {b : Int64} {n t : Int32} (h : (t = 0 ∧ tp_valM b n) ∨ (t = 1 ∧ ¬ tp_valM b n)) (hv : tp_valT b n) : t = 0 := h.elim (fun q => q.1) (fun q => absurd ((tp_valTM b n).mp hv) q.2)
theorem tp_tyno {b : Int64} {n t : Int32} (h : (t = 0 ∧ tp_valM b n) ∨ (t = 1 ∧ ¬ tp_valM b n)) (hv : ¬ tp_valT b n) : t = 1 := h.elim (fun q => absurd ((tp_valTM b n).mpr q.2) hv) (fun q => q.1)
def tp_MS (xw : Int32) (f_names : Nat → Int64) (f_forms : Nat → Int32) (t r : Int32) : Prop := (t = 1 ∧ tp_mhit xw f_forms (-1)) ∨ (t = 0 ∧ ∃ ko : Int32, tp_mhit xw f_forms ko ∧ 0 ≤ ko.toInt ∧ r.toInt = (tp_nr (f_names ko.toNatClampNeg) 8 : Nat) + (tp_lm ((f_forms ko.toNatClampNeg) / 100000) xw : Nat))
theorem tp_shok {xw t r n : Int32} {u : Nat} {fN : Nat → Int64} {fF : Nat → Int32} (h : tp_MS xw fN fF t r) (hu : tp_hit xw u) (h0 : ¬ u = 0) (hl : n.toInt = (tp_lenT u xw : Nat)) (hF : ∀ i : Nat, i < 33 → fF i = tp_forms.getD i 0) (hN : ∀ i : Nat, i < 33 → fN i = tp_names.getD i 0) : t = 0 ∧ n = r := by
  rcases h with ⟨-, hm⟩ | ⟨ht, ko, hm, hk, hr⟩
  · rcases tp_showEq hu hm hF with ⟨q, -⟩ | ⟨-, q, -⟩
    · exact absurd q h0
    · exact absurd q (by decide)
  · refine ⟨ht, Int32.toInt_inj.mp ?_⟩
    rcases tp_showEq hu hm hF with ⟨q, -⟩ | ⟨-, q1, q2, q3⟩
    · exact absurd q h0
    · have h5 : ko.toNatClampNeg < 33 := by show ko.toInt.toNat < 33; omega
      rw [hl, hr, hF _ h5, hN _ h5, q3, tp_lenEq xw _ h5]
      push_cast
      rfl
theorem tp_shno {xw t r : Int32} {fN : Nat → Int64} {fF : Nat → Int32} (h : tp_MS xw fN fF t r) (hu : tp_hit xw 0) (hF : ∀ i : Nat, i < 33 → fF i = tp_forms.getD i 0) : t = 1 := by
  rcases h with ⟨ht, -⟩ | ⟨-, ko, hm, hk, -⟩
  · exact ht
  · rcases tp_showEq hu hm hF with ⟨-, q⟩ | ⟨q, -⟩
    · rw [q] at hk; exact absurd hk (by decide)
    · exact absurd rfl q
theorem tp_m01 {x : Int32} (h1 : ¬ x < 0) (h2 : ¬ 2 ≤ x) : x = 0 ∨ x = 1 := by
  by_cases h : x = 0
  · exact Or.inl h
  · exact Or.inr (tp_one h1 h2 h)
theorem tp_L3 {L : Nat} (h : L < 4) : ((Int32.ofNat L) - 4) < 0 := by
  have e : (Int32.ofNat L).toInt = L := tp_ofn (by omega)
  rw [Int32.lt_iff_toInt_lt, tp_subI (by rw [e, show (4 : Int32).toInt = 4 from rfl]; omega) (by rw [e, show (4 : Int32).toInt = 4 from rfl]; omega), e, show (4 : Int32).toInt = 4 from rfl, Int32.toInt_zero]
  omega
