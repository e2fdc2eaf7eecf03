/-! The worlds of this proof: an environment (class numbers, slots, array classes), a list of cells in front of a frame of any others. A contract takes the whole world and gives the whole world back. -/
abbrev tp_Env : Type := (Nat → ClassId) × (Nat → Nat → Nat) × (Nat → ClassId)
abbrev tp_D (E : tp_Env) : va_G := (E.1, E.2.1)
abbrev tp_tys (E : tp_Env) : List (ClassId × FieldType) := [(E.2.2 0, .int), (E.2.2 1, .long), (E.2.2 2, .boolean), (E.2.2 3, .byte), (E.2.2 4, .char), (E.2.2 5, .object "java/lang/Object"), (E.2.2 6, .object "TwoPass$Source")]
/-- what holds of the tables, and of the cells outside A -/
def tp_K (E : tp_Env) (A : Nat → Prop) (U : State) (H : Heap) : Prop := va_K (tp_D E) tp_cl (tp_tys E) U ∧
  vx_Zq Bundle.tN "UNASSIGNED_STACK" Bundle.steD A U H ∧ vx_Zq Bundle.tN "SUPPRESSED_SENTINEL" Bundle.listD A U H
theorem tp_K.moved {E : tp_Env} {A : Nat → Prop} {u U : State} {H : Heap} (hvm : u.vm.Alike U.vm) (h : tp_K E A u H) : tp_K E A U H := ⟨va_K.moved hvm h.1, vx_Zq.moved hvm h.2.1, vx_Zq.moved hvm h.2.2⟩
theorem tp_K.kept {E : tp_Env} {A : Nat → Prop} {U : State} {H H1 : Heap} (h : tp_K E A U H) (hq : ∀ a : Nat, a < H.size → ¬ A a → H1[a]? = H[a]?) : tp_K E A U H1 := ⟨h.1, vx_Zq.kept h.2.1 hq, vx_Zq.kept h.2.2 hq⟩
theorem tp_K.narrow {E : tp_Env} {A B : Nat → Prop} {U : State} {H : Heap} (h : tp_K E A U H) (hAB : ∀ q, B q → A q) : tp_K E B U H := ⟨h.1, vx_Zq.narrow h.2.1 hAB, vx_Zq.narrow h.2.2 hAB⟩
/-- the start of a contract, and its end -/
def tp_in (E : tp_Env) (W : va_W) (sz : Nat) (U : State) : Prop := U.heap.size = sz ∧ va_P (tp_D E) tp_cl W U.heap ∧ tp_K E (va_A W sz) U U.heap ∧ va_D (fun _ => True) W
def tp_out (E : tp_Env) (A : Nat → Prop) (W : va_W) (t : State) : Prop := va_P (tp_D E) tp_cl W t.heap ∧ va_D A W
theorem tp_blind {E : tp_Env} {W : va_W} {sz : Nat} {As : List Value} : FrameBlind (va_Pc As (tp_in E W sz)) := fun a U g mk q => by
  obtain ⟨q0, q1, qP, qK, qD⟩ := q
  exact ⟨q0, q1, qP, tp_K.moved (u := U) (U := U.calling g mk a) (Vm.Alike.refl U.vm) qK, qD⟩
theorem tp_AA {A : Nat → Prop} {W : va_W} {H0 H : Heap} {locs : List Loc} (hD : va_D A W) (hS : va_S A H0 H locs) (hA : ∀ q, H0.size ≤ q → A q) : ∀ q, va_A W H.size q → A q := fun q h => by
  rcases h with ⟨k, e, hk⟩ | h
  · exact hD.2 k _ hk
  · exact hA q (Nat.le_trans hS.1 h)
theorem tp_mk {E : tp_Env} {A : Nat → Prop} {W : va_W} {s U : State} {H : Heap} {locs : List Loc} (hK : tp_K E A s s.heap) (hP : va_P (tp_D E) tp_cl W H) (hD : va_D A W) (hS : va_S A s.heap H locs) (hA : ∀ q, s.heap.size ≤ q → A q) (hU : U.heap = H) (hW : s.WarmedH U.vm) : tp_in E W H.size U := by
  refine ⟨by rw [hU], by rw [hU]; exact hP, ?_, hD.weaken (fun _ _ _ _ => trivial)⟩
  rw [hU]
  exact tp_K.moved hW.alike ((hK.kept hS.2.1).narrow (tp_AA hD hS hA))
section TPC
variable {p : Program} {l : Launch} {e : Env} {R : Room} {s : State} {m : MethodId} {args : Array Value} {below : List Frame} {meth : Method} {c : Code} {H : Heap} {locs : List Loc} {cells slots : Nat} {Q : State → Prop}
variable {y : MethodName} {bytes cc : ByteArray} {maxL nL mc ms n index pc : Nat} {ret : Option FieldType} {ws : List Cond} {rm : Room} {Ts : List Cond} {own C : String} {b : Addr} {As rest st0 : List Value} {ls : Array Slot} {E : tp_Env} {A : Nat → Prop} {Wc : va_W}
theorem tp_topi {x v : Int32} (h : x = v) (k : W p l e R s m args below meth c H locs cells slots Q (F0 m pc ls (.int v :: rest))) : W p l e R s m args below meth c H locs cells slots Q (F0 m pc ls (.int x :: rest)) := h ▸ k
/-- a static call with an int (or boolean ..) answer -/
theorem tp_cSi {S : Type} {post : Int32 → S → Prop} {Wo : S → va_W} (F : CallFix p m c cc nL s args Ts own)
    (hM : Met l y ws rm (va_Pc As (tp_in E Wc H.size)) (va_Qi post (fun u t => tp_out E (va_A Wc H.size) (Wo u) t) (va_A Wc H.size)) mc ms (va_A Wc H.size))
    (cw : CallB R s args own index y bytes maxL ret ws rm mc ms n ∧ (Cond.static y).before args s = true)
    (hK : tp_K E A s s.heap) (hP : va_P (tp_D E) tp_cl Wc H) (hD : va_D A Wc) (hS : va_S A s.heap H locs) (hA : ∀ q, s.heap.size ≤ q → A q)
    (hn : As.length = n) (hsize : ls.size = nL) (hst : st0 = As.reverse ++ rest) (hW : (rest.map fun v => v.category).sum ≤ 8) (hdg : decode cc pc = .ok (.invokestatic index, 3)) (hf : cells + mc ≤ R.cells ∧ slots + ms ≤ R.slots)
    (kk : ∀ (r : Int32) (u : S) (H1 : Heap) (locs1 : List Loc), post r u → va_P (tp_D E) tp_cl (Wo u) H1 → va_D A (Wo u) → va_S A s.heap H1 locs1 → W p l e R s m args below meth c H1 locs1 (cells + mc) (slots + ms) Q (F0 m (pc + 3) ls (.int r :: rest))) :
    W p l e R s m args below meth c H locs cells slots Q (F0 m pc ls st0) := by
  have hFc := tp_AA hD hS hA
  refine va_calli (va_runS F hM cw ⟨tp_blind, fun U hU hW => ⟨rfl, tp_mk hK hP hD hS hA hU hW⟩⟩ rfl hn hsize hst (lv_room hW) hdg hf) hS (fun q _ h => hFc q h) hFc (fun r u t H1 locs1 ht _ hp hB _ _ hS1 => ?_)
  obtain ⟨hP1, hD1⟩ := hB
  rw [ht] at hP1
  exact kk r u H1 locs1 hp hP1 (hD1.weaken (fun _ _ _ h => hFc _ h)) hS1
end TPC
