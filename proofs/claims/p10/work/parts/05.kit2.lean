/-! loops and joins; cells left out of a world; numbers -/
section TPL
variable {p : Program} {l : Launch} {e : Env} {R : Room} {s : State} {m : MethodId} {args : Array Value} {below : List Frame} {meth : Method} {c : Code} {H : Heap} {locs : List Loc} {cells slots : Nat} {Q : State → Prop}
variable {pc : Nat} {ls : Array Slot} {st : List Value}
theorem tp_loop {α : Type} (I : Nat → Array Slot → Heap → List Loc → α → Prop)
    (step : ∀ (j : Nat) (a : α) (ls : Array Slot) (H : Heap) (locs : List Loc), I j ls H locs a → (∀ (i : Nat) (a' : α) (ls' : Array Slot) (H' : Heap) (locs' : List Loc), i < j → I i ls' H' locs' a' → W p l e R s m args below meth c H' locs' cells slots Q (F0 m pc ls' st)) → W p l e R s m args below meth c H locs cells slots Q (F0 m pc ls st))
    (j0 : Nat) (a0 : α) (h0 : I j0 ls H locs a0) : W p l e R s m args below meth c H locs cells slots Q (F0 m pc ls st) := by
  have key : ∀ (j : Nat) (a : α) (ls : Array Slot) (H : Heap) (locs : List Loc), I j ls H locs a → W p l e R s m args below meth c H locs cells slots Q (F0 m pc ls st) := by
    intro j
    induction j using Nat.strongRecOn with
    | _ j ih => exact fun a ls H locs hI => step j a ls H locs hI (fun i a' ls' H' locs' hij hI' => ih i hij a' ls' H' locs' hI')
  exact key j0 a0 ls H locs h0
theorem tp_loop2 {α β : Type} (I : Nat → Array Slot → Heap → List Loc → α → β → Prop)
    (step : ∀ (j : Nat) (a : α) (b : β) (ls : Array Slot) (H : Heap) (locs : List Loc), I j ls H locs a b → (∀ (i : Nat) (a' : α) (b' : β) (ls' : Array Slot) (H' : Heap) (locs' : List Loc), i < j → I i ls' H' locs' a' b' → W p l e R s m args below meth c H' locs' cells slots Q (F0 m pc ls' st)) → W p l e R s m args below meth c H locs cells slots Q (F0 m pc ls st))
    (j0 : Nat) (a0 : α) (b0 : β) (h0 : I j0 ls H locs a0 b0) : W p l e R s m args below meth c H locs cells slots Q (F0 m pc ls st) :=
  tp_loop (α := α × β) (fun j ls H locs a => I j ls H locs a.1 a.2) (fun j a ls H locs hI ih => step j a.1 a.2 ls H locs hI (fun i a' b' ls' H' locs' hij hI' => ih i (a', b') ls' H' locs' hij hI')) j0 (a0, b0) h0
theorem tp_loop3 {α β γ : Type} (I : Nat → Array Slot → Heap → List Loc → α → β → γ → Prop)
    (step : ∀ (j : Nat) (a : α) (b : β) (g : γ) (ls : Array Slot) (H : Heap) (locs : List Loc), I j ls H locs a b g → (∀ (i : Nat) (a' : α) (b' : β) (g' : γ) (ls' : Array Slot) (H' : Heap) (locs' : List Loc), i < j → I i ls' H' locs' a' b' g' → W p l e R s m args below meth c H' locs' cells slots Q (F0 m pc ls' st)) → W p l e R s m args below meth c H locs cells slots Q (F0 m pc ls st))
    (j0 : Nat) (a0 : α) (b0 : β) (g0 : γ) (h0 : I j0 ls H locs a0 b0 g0) : W p l e R s m args below meth c H locs cells slots Q (F0 m pc ls st) :=
  tp_loop (α := α × β × γ) (fun j ls H locs a => I j ls H locs a.1 a.2.1 a.2.2) (fun j a ls H locs hI ih => step j a.1 a.2.1 a.2.2 ls H locs hI (fun i a' b' g' ls' H' locs' hij hI' => ih i (a', b', g') ls' H' locs' hij hI')) j0 (a0, b0, g0) h0
theorem tp_join {α : Type} {pc' : Nat} (I : Array Slot → Heap → List Loc → α → Prop) (hJ : ∀ (a : α) (ls : Array Slot) (H : Heap) (locs : List Loc), I ls H locs a → W p l e R s m args below meth c H locs cells slots Q (F0 m pc' ls []))
    (hK : (∀ (a : α) (ls : Array Slot) (H : Heap) (locs : List Loc), I ls H locs a → W p l e R s m args below meth c H locs cells slots Q (F0 m pc' ls [])) → W p l e R s m args below meth c H locs cells slots Q (F0 m pc ls st)) : W p l e R s m args below meth c H locs cells slots Q (F0 m pc ls st) := hK hJ
theorem tp_join2 {α β : Type} {pc' : Nat} (I : Array Slot → Heap → List Loc → α → β → Prop) (hJ : ∀ (a : α) (b : β) (ls : Array Slot) (H : Heap) (locs : List Loc), I ls H locs a b → W p l e R s m args below meth c H locs cells slots Q (F0 m pc' ls []))
    (hK : (∀ (a : α) (b : β) (ls : Array Slot) (H : Heap) (locs : List Loc), I ls H locs a b → W p l e R s m args below meth c H locs cells slots Q (F0 m pc' ls [])) → W p l e R s m args below meth c H locs cells slots Q (F0 m pc ls st)) : W p l e R s m args below meth c H locs cells slots Q (F0 m pc ls st) := hK hJ
theorem tp_join3 {α β γ : Type} {pc' : Nat} (I : Array Slot → Heap → List Loc → α → β → γ → Prop) (hJ : ∀ (a : α) (b : β) (g : γ) (ls : Array Slot) (H : Heap) (locs : List Loc), I ls H locs a b g → W p l e R s m args below meth c H locs cells slots Q (F0 m pc' ls []))
    (hK : (∀ (a : α) (b : β) (g : γ) (ls : Array Slot) (H : Heap) (locs : List Loc), I ls H locs a b g → W p l e R s m args below meth c H locs cells slots Q (F0 m pc' ls [])) → W p l e R s m args below meth c H locs cells slots Q (F0 m pc ls st)) : W p l e R s m args below meth c H locs cells slots Q (F0 m pc ls st) := hK hJ
theorem tp_loopC {α : Type} (I : Nat → Array Slot → Heap → List Loc → Nat → Nat → α → Prop)
    (step : ∀ (j : Nat) (a : α) (ls : Array Slot) (H : Heap) (locs : List Loc) (cells slots : Nat), I j ls H locs cells slots a → (∀ (i : Nat) (a' : α) (ls' : Array Slot) (H' : Heap) (locs' : List Loc) (cells' slots' : Nat), i < j → I i ls' H' locs' cells' slots' a' → W p l e R s m args below meth c H' locs' cells' slots' Q (F0 m pc ls' st)) → W p l e R s m args below meth c H locs cells slots Q (F0 m pc ls st))
    (j0 : Nat) (a0 : α) (h0 : I j0 ls H locs cells slots a0) : W p l e R s m args below meth c H locs cells slots Q (F0 m pc ls st) := by
  have key : ∀ (j : Nat) (a : α) (ls : Array Slot) (H : Heap) (locs : List Loc) (cells slots : Nat), I j ls H locs cells slots a → W p l e R s m args below meth c H locs cells slots Q (F0 m pc ls st) := by
    intro j
    induction j using Nat.strongRecOn with
    | _ j ih => exact fun a ls H locs cells slots hI => step j a ls H locs cells slots hI (fun i a' ls' H' locs' cells' slots' hij hI' => ih i hij a' ls' H' locs' cells' slots' hI')
  exact key j0 a0 ls H locs cells slots h0
theorem tp_widen {g : JFrame} {k n : Nat} (h1 : cells ≤ k) (h2 : slots ≤ n) (kk : W p l e R s m args below meth c H locs k n Q g) : W p l e R s m args below meth c H locs cells slots Q g := fun T hT X => kk T hT (stand_widen X h1 h2)
end TPL
theorem tp_lvI {ls : Array Slot} {n : Nat} {L L' : List (Nat × Value)} (h : lv_has ls n L) (ix : List Nat) (e : L'.map some = ix.map (fun i => L[i]?)) : lv_has ls n L' := by
  refine ⟨h.1, h.2.1, fun q hq => ?_⟩
  have h1 : some q ∈ ix.map (fun i => L[i]?) := by rw [← e]; exact List.mem_map.mpr ⟨q, hq, rfl⟩
  obtain ⟨i, -, hi⟩ := List.mem_map.mp h1
  exact h.2.2 q (List.mem_of_getElem? hi)
theorem tp_tlP {D : va_G} {cl : List vw_C} {W : va_W} {H : Heap} {c : Nat × va_E} (h : va_P D cl (c :: W) H) : va_P D cl W H := fun k q hk => h (k + 1) q hk
theorem tp_tlD {A : Nat → Prop} {W : va_W} {c : Nat × va_E} (h : va_D A (c :: W)) : va_D A W :=
  ⟨fun i j p q hi hj hpq => Nat.succ.inj (h.1 (i + 1) (j + 1) p q hi hj hpq), fun k q hk => h.2 (k + 1) q hk⟩
/-- the second cell left out -/
theorem tp_oneP {D : va_G} {cl : List vw_C} {W : va_W} {H : Heap} {c d : Nat × va_E} (h : va_P D cl (c :: d :: W) H) : va_P D cl (c :: W) H := fun k q hk => by
  cases k with
  | zero => exact h 0 q hk
  | succ k => exact h (k + 2) q hk
theorem tp_oneD {A : Nat → Prop} {W : va_W} {c d : Nat × va_E} (h : va_D A (c :: d :: W)) : va_D A (c :: W) := by
  have look : ∀ (i : Nat) (q : Nat × va_E), (c :: W)[i]? = some q → (c :: d :: W)[if i = 0 then 0 else i + 1]? = some q := by
    intro i q hi
    cases i with
    | zero => exact hi
    | succ i => exact hi
  refine ⟨fun i j p q hi hj hpq => ?_, fun k q hk => h.2 _ q (look k q hk)⟩
  have e := h.1 _ _ p q (look i p hi) (look j q hj) hpq
  by_cases h1 : i = 0 <;> by_cases h2 : j = 0 <;> simp only [h1, h2, if_true, if_false] at e ⊢ <;> omega
theorem tp_maxr {a b : Int32} (h : a ≤ b) : (if a < b then b else a) = b := by
  by_cases q : a < b
  · rw [if_pos q]
  · rw [if_neg q]
    rw [Int32.le_iff_toInt_le] at h
    rw [Int32.lt_iff_toInt_lt] at q
    exact Int32.toInt_inj.mp (by omega)
/-- a private method of a superclass is itself selected -/
theorem tp_selP {C : String} {x y : MethodName} {args : Array Value} {s : State} (hx : (Cond.selects C x x).before args s = true) (hc : x.cls = y.cls) (hy : y.cls ≠ "java/lang/invoke/MethodHandle" ∧ y.cls ≠ "java/lang/invoke/VarHandle") (hpriv : (Cond.privateMethod y).before args s = true) (hinst : (Cond.instanceMethod y).before args s = true) : (Cond.selects C y y).before args s = true := by
  obtain ⟨c, r, m, h1, -, h3, -, mk, h5, h6⟩ := Cond.selects_spec hx
  obtain ⟨mk2, methM, hnamed, hmethM, -, -⟩ := Cond.instanceMethod_spec hinst
  have hfound : s.methodFound? y.cls y.name y.desc = some mk2 := State.methodFound?_of_named hnamed hy
  have e1 := findClass_of_methodNamed h3
  have e2 := findClass_of_methodNamed hnamed
  rw [hc] at e1
  have hcls : mk2.cls = m.cls := Option.some.inj (e2.symm.trans e1)
  have hsel : selectMethod {} s.vm c mk2 = .method mk2 := selectMethod_private hmethM (Cond.privateMethod_at hpriv mk2 methM hnamed hmethM)
  simp only [Cond.before, Cond.holds, Cond.value, h1, hfound, hnamed, hsel, hcls, h5]
  simp; exact h6
