/-! a call that answers or throws, both roads gone on with -/
section TPB
variable {p : Program} {l : Launch} {e : Env} {R : Room} {s : State} {m : MethodId} {args : Array Value} {below : List Frame} {meth : Method} {c : Code} {H : Heap} {locs : List Loc} {cells slots : Nat} {Q : State → Prop}
variable {mc ms pc : Nat} {rest st0 : List Value} {ls : Array Slot} {E : tp_Env} {A : Nat → Prop} {Wc : va_W}
theorem tp_bv {X : String} {P PX : Prop} {Wo Wx : va_W} {a : Array Value} (hr : vx_Run p l e R s m args below meth c H locs cells slots mc ms (F0 m pc ls st0) rest (va_Qv (fun (_ : Unit) => P) (fun _ t => tp_out E (va_A Wc H.size) Wo t) (va_A Wc H.size) a) (vx_X (fun (_ : Unit) => PX) (fun x _ t => x = X ∧ tp_out E (va_A Wc H.size) Wx t) (va_A Wc H.size)) (va_A Wc H.size))
    (hD : va_D A Wc) (hS : va_S A s.heap H locs) (hA : ∀ q, s.heap.size ≤ q → A q)
    (kx : ∀ (ce : Cell) (q : Addr) (H1 : Heap) (locs1 : List Loc), PX → va_P (tp_D E) tp_cl Wx H1 → va_D A Wx → va_S A s.heap H1 locs1 → H1[q]? = some ce → ce.vm = .none → s.vm.findClass X = some ce.cls → vx_W p l e R s m args below meth c H1 locs1 (cells + mc) (slots + ms) Q (F0 m pc ls rest) q)
    (kk : ∀ (H1 : Heap) (locs1 : List Loc), P → va_P (tp_D E) tp_cl Wo H1 → va_D A Wo → va_S A s.heap H1 locs1 → W p l e R s m args below meth c H1 locs1 (cells + mc) (slots + ms) Q (F0 m (pc + 3) ls rest)) :
    W p l e R s m args below meth c H locs cells slots Q (F0 m pc ls st0) := by
  have hFc := tp_AA hD hS hA
  refine vx_callv hr hS (fun q _ h => hFc q h) hFc (fun q _ h => hFc q h) (fun x ce q u t H1 locs1 ht _ hpx hB _ _ hS1 hce hcv hcl => ?_) (fun u t H1 locs1 ht _ hp hB _ _ hS1 => ?_)
  · obtain ⟨rfl, hP1, hD1⟩ := hB
    rw [ht] at hP1
    exact kx ce q H1 locs1 hpx hP1 (hD1.weaken (fun _ _ _ h => hFc _ h)) hS1 hce hcv hcl
  · obtain ⟨hP1, hD1⟩ := hB
    rw [ht] at hP1
    exact kk H1 locs1 hp hP1 (hD1.weaken (fun _ _ _ h => hFc _ h)) hS1
theorem tp_bi {X : String} {S : Type} {P : Int32 → S → Prop} {PX : Prop} {Wo Wx : va_W} {a : Array Value} (hr : vx_Run p l e R s m args below meth c H locs cells slots mc ms (F0 m pc ls st0) rest (va_Qi P (fun _ t => tp_out E (va_A Wc H.size) Wo t) (va_A Wc H.size) a) (vx_X (fun (_ : Unit) => PX) (fun x _ t => x = X ∧ tp_out E (va_A Wc H.size) Wx t) (va_A Wc H.size)) (va_A Wc H.size))
    (hD : va_D A Wc) (hS : va_S A s.heap H locs) (hA : ∀ q, s.heap.size ≤ q → A q)
    (kx : ∀ (ce : Cell) (q : Addr) (H1 : Heap) (locs1 : List Loc), PX → va_P (tp_D E) tp_cl Wx H1 → va_D A Wx → va_S A s.heap H1 locs1 → H1[q]? = some ce → ce.vm = .none → s.vm.findClass X = some ce.cls → vx_W p l e R s m args below meth c H1 locs1 (cells + mc) (slots + ms) Q (F0 m pc ls rest) q)
    (kk : ∀ (r : Int32) (u : S) (H1 : Heap) (locs1 : List Loc), P r u → va_P (tp_D E) tp_cl Wo H1 → va_D A Wo → va_S A s.heap H1 locs1 → W p l e R s m args below meth c H1 locs1 (cells + mc) (slots + ms) Q (F0 m (pc + 3) ls (.int r :: rest))) :
    W p l e R s m args below meth c H locs cells slots Q (F0 m pc ls st0) := by
  have hFc := tp_AA hD hS hA
  refine vx_calli hr hS (fun q _ h => hFc q h) hFc (fun q _ h => hFc q h) (fun x ce q u t H1 locs1 ht _ hpx hB _ _ hS1 hce hcv hcl => ?_) (fun r u t H1 locs1 ht _ hp hB _ _ hS1 => ?_)
  · obtain ⟨rfl, hP1, hD1⟩ := hB
    rw [ht] at hP1
    exact kx ce q H1 locs1 hpx hP1 (hD1.weaken (fun _ _ _ h => hFc _ h)) hS1 hce hcv hcl
  · obtain ⟨hP1, hD1⟩ := hB
    rw [ht] at hP1
    exact kk r u H1 locs1 hp hP1 (hD1.weaken (fun _ _ _ h => hFc _ h)) hS1
end TPB
