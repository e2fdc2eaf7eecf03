/-! all-state safety: numbers -/
def sf_Y (xe xa : Int32) : Prop := 0 ≤ xa.toInt ∧ xa.toInt ≤ xe.toInt ∧ xe.toInt ≤ 28
theorem sf_j {xe xa : Int32} (h : sf_Y xe xa) : xa.toInt + (((xe.toInt - xa.toInt).toNat : Nat) : Int) = xe.toInt := by
  obtain ⟨h1, h2, h3⟩ := h
  omega
theorem sf_lt {a b : Int32} (h : ¬ b ≤ a) : a.toInt < b.toInt := Int32.lt_iff_toInt_lt.mp (Int32.not_le.mp h)
theorem sf_vin {xe k : Int32} (h : sf_Y xe k) (hl : ¬ xe ≤ k) : vp_in k 28 := by
  obtain ⟨h1, h2, h3⟩ := h
  have := sf_lt hl
  exact vp_in_iff.mpr ⟨h1, by omega⟩
theorem sf_i1 {xe k : Int32} (h : sf_Y xe k) (hl : ¬ xe ≤ k) : (k + 1).toInt = k.toInt + 1 := by
  obtain ⟨h1, h2, h3⟩ := h
  have := sf_lt hl
  exact tp_inc (by omega)
theorem sf_Yi {xe k : Int32} (h : sf_Y xe k) (hl : ¬ xe ≤ k) : sf_Y xe (k + 1) := by
  have e := sf_i1 h hl
  have := sf_lt hl
  obtain ⟨h1, h2, h3⟩ := h
  exact ⟨by omega, by omega, h3⟩
theorem sf_le1 {xe k : Int32} {n : Int} (h : sf_Y xe k) (hl : ¬ xe ≤ k) (h0 : n ≤ k.toInt) : n ≤ (k + 1).toInt := by
  have e := sf_i1 h hl
  omega
theorem sf_jd {xe k : Int32} {j : Nat} (h : sf_Y xe k) (hl : ¬ xe ≤ k) (hj : k.toInt + (j : Int) = xe.toInt) : (k + 1).toInt + ((j - 1 : Nat) : Int) = xe.toInt := by
  have e := sf_i1 h hl
  have := sf_lt hl
  omega
theorem sf_jp {xe k : Int32} {j : Nat} (hl : ¬ xe ≤ k) (hj : k.toInt + (j : Int) = xe.toInt) : j - 1 < j := by
  have := sf_lt hl
  omega
def sf_W (xe ws we xa : Int32) : Prop := 0 ≤ ws.toInt ∧ ws.toInt ≤ we.toInt ∧ we.toInt ≤ xa.toInt ∧ xa.toInt ≤ xe.toInt ∧ xe.toInt ≤ 28
theorem sf_Wmk {xe a1 k a2 : Int32} (h1 : sf_Y xe a1) (h2 : a1.toInt ≤ k.toInt) (h3 : k.toInt ≤ a2.toInt) (h4 : sf_Y xe a2) : sf_W xe a1 k a2 := by
  obtain ⟨q1, q2, q3⟩ := h1
  obtain ⟨q4, q5, q6⟩ := h4
  exact ⟨q1, h2, h3, q5, q6⟩
theorem sf_WY {xe a1 k a2 : Int32} (h : sf_W xe a1 k a2) : sf_Y xe a2 := by
  obtain ⟨q1, q2, q3, q4, q5⟩ := h
  exact ⟨by omega, q4, q5⟩
/-- a word's bounds -/
def sf_V (ws we : Int32) : Prop := 0 ≤ ws.toInt ∧ ws.toInt ≤ we.toInt ∧ we.toInt ≤ 28
theorem sf_WV {xe a1 k a2 : Int32} (h : sf_W xe a1 k a2) : sf_V a1 k := by
  obtain ⟨q1, q2, q3, q4, q5⟩ := h
  exact ⟨q1, q2, by omega⟩
theorem sf_Vj {ws we : Int32} (h : sf_V ws we) : ws.toInt + (((we.toInt - ws.toInt).toNat : Nat) : Int) = we.toInt := by
  obtain ⟨h1, h2, h3⟩ := h
  omega
theorem sf_Vk {ws we k : Int32} (h : sf_V k we) (hl : ¬ we ≤ k) : vp_in k 28 := by
  obtain ⟨h1, h2, h3⟩ := h
  have := sf_lt hl
  exact vp_in_iff.mpr ⟨h1, by omega⟩
theorem sf_Vi {we k : Int32} (h : sf_V k we) (hl : ¬ we ≤ k) : sf_V (k + 1) we := by
  have := sf_lt hl
  obtain ⟨h1, h2, h3⟩ := h
  have e : (k + 1).toInt = k.toInt + 1 := tp_inc (by omega)
  exact ⟨by omega, by omega, h3⟩
theorem sf_Vd {we k : Int32} {j : Nat} (h : sf_V k we) (hl : ¬ we ≤ k) (hj : k.toInt + (j : Int) = we.toInt) : (k + 1).toInt + ((j - 1 : Nat) : Int) = we.toInt := by
  have := sf_lt hl
  obtain ⟨h1, h2, h3⟩ := h
  have e : (k + 1).toInt = k.toInt + 1 := tp_inc (by omega)
  omega
section SFB
variable {p : Program} {l : Launch} {e : Env} {R : Room} {s : State} {m : MethodId} {args : Array Value} {below : List Frame} {meth : Method} {c : Code} {H : Heap} {locs : List Loc} {cells slots : Nat} {Q : State → Prop}
variable {mc ms pc : Nat} {rest st0 : List Value} {ls : Array Slot} {E : tp_Env} {A : Nat → Prop} {Wc : va_W}
/-- a call that answers or throws: both roads, each with its own end -/
theorem sf_bv {S SX : Type} {post : S → Prop} {px : SX → Prop} {Wo : S → va_W} {Xn : SX → String} {Wx : SX → va_W} {a : Array Value} (hr : vx_Run p l e R s m args below meth c H locs cells slots mc ms (F0 m pc ls st0) rest (va_Qv post (fun u t => tp_out E (va_A Wc H.size) (Wo u) t) (va_A Wc H.size) a) (vx_X px (fun x u t => x = Xn u ∧ tp_out E (va_A Wc H.size) (Wx u) t) (va_A Wc H.size)) (va_A Wc H.size))
    (hD : va_D A Wc) (hS : va_S A s.heap H locs) (hA : ∀ q, s.heap.size ≤ q → A q)
    (kx : ∀ (ce : Cell) (q : Addr) (u : SX) (H1 : Heap) (locs1 : List Loc), px u → va_P (tp_D E) tp_cl (Wx u) H1 → va_D A (Wx u) → va_S A s.heap H1 locs1 → H1[q]? = some ce → ce.vm = .none → s.vm.findClass (Xn u) = some ce.cls → vx_W p l e R s m args below meth c H1 locs1 (cells + mc) (slots + ms) Q (F0 m pc ls rest) q)
    (kk : ∀ (u : S) (H1 : Heap) (locs1 : List Loc), post u → va_P (tp_D E) tp_cl (Wo u) H1 → va_D A (Wo u) → va_S A s.heap H1 locs1 → W p l e R s m args below meth c H1 locs1 (cells + mc) (slots + ms) Q (F0 m (pc + 3) ls rest)) :
    W p l e R s m args below meth c H locs cells slots Q (F0 m pc ls st0) := by
  have hFc := tp_AA hD hS hA
  refine vx_callv hr hS (fun q _ h => hFc q h) hFc (fun q _ h => hFc q h) (fun x ce q u t H1 locs1 ht _ hpx hB _ _ hS1 hce hcv hcl => ?_) (fun u t H1 locs1 ht _ hp hB _ _ hS1 => ?_)
  · obtain ⟨rfl, hP1, hD1⟩ := hB
    rw [ht] at hP1
    exact kx ce q u H1 locs1 hpx hP1 (hD1.weaken (fun _ _ _ h => hFc _ h)) hS1 hce hcv hcl
  · obtain ⟨hP1, hD1⟩ := hB
    rw [ht] at hP1
    exact kk u H1 locs1 hp hP1 (hD1.weaken (fun _ _ _ h => hFc _ h)) hS1
theorem sf_callr {H0 : Heap} {A0 A1 : Nat → Prop} {free : Addr → Prop} {a : Array Value} {S SX : Type} {post : S → Prop} {px : SX → Prop} {B : S → Nat → State → Prop} {BX : String → SX → State → Prop} {AX : Nat → Prop} (hr : vx_Run p l e R s m args below meth c H locs cells slots mc ms (F0 m pc ls st0) rest (va_Qr post B A1 a) (vx_X px BX AX) free) (hS : va_S A0 H0 H locs) (hA : ∀ q, q < H.size → A1 q → A0 q) (hf : ∀ q, free q → A0 q) (hAX : ∀ q, q < H.size → AX q → A0 q)
    (kx : ∀ (E : String) (ce : Cell) (q9 : Addr) (u : SX) (t : State) (H1 : Heap) (locs1 : List Loc), t.heap = H1 → s.vm.Alike t.vm → px u → BX E u t → H.size ≤ H1.size → (∀ q : Nat, q < H.size → ¬ AX q → H1[q]? = H[q]?) → va_S A0 H0 H1 locs1 → H1[q9]? = some ce → ce.vm = .none → s.vm.findClass E = some ce.cls → vx_W p l e R s m args below meth c H1 locs1 (cells + mc) (slots + ms) Q (F0 m pc ls rest) q9)
    (kk : ∀ (u : S) (r : Nat) (t : State) (H1 : Heap) (locs1 : List Loc), t.heap = H1 → s.vm.Alike t.vm → post u → B u r t → H.size ≤ H1.size → (∀ q : Nat, q < H.size → ¬ A1 q → H1[q]? = H[q]?) → va_S A0 H0 H1 locs1 → W p l e R s m args below meth c H1 locs1 (cells + mc) (slots + ms) Q (F0 m (pc + 3) ls (.ref r :: rest))) : W p l e R s m args below meth c H locs cells slots Q (F0 m pc ls st0) := by
  intro T hT X
  rcases hr T hT X with ⟨v, st₀, t, T', L, h0, X', hL, e1, e2, ⟨⟨u, r, hv, hp, hb⟩, hF⟩, st⟩ | ⟨q, st₀, t, T', L, E, ce, h0, X', hL, e1, e2, ⟨u, hp, hb, hF⟩, hce, hcv, hcl, st⟩
  · cases hv
    obtain ⟨k1, k2, k3⟩ := vx_keep h0 e1 hS hA hf hL hF
    obtain ⟨t2, a1, b1⟩ := kk u r t T'.heap (locs ++ L) e1.symm (by rw [← e2]; exact X'.warmed.alike) hp hb k1 k2 k3 T' rfl X'
    exact ⟨t2, st t2 a1, b1⟩
  · obtain ⟨k1, k2, k3⟩ := vx_keep h0 e1 hS hAX hf hL hF
    obtain ⟨t2, a1, b1⟩ := kx E ce q u t T'.heap (locs ++ L) e1.symm (by rw [← e2]; exact X'.warmed.alike) hp hb k1 k2 k3 (by rw [e1]; exact hce) hcv hcl T' rfl X'
    exact ⟨t2, st.trans a1, b1⟩
theorem sf_br {S SX : Type} {post : S → Prop} {fa : S → Nat} {px : SX → Prop} {Wo : S → va_W} {Xn : SX → String} {Wx : SX → va_W} {a : Array Value} (hr : vx_Run p l e R s m args below meth c H locs cells slots mc ms (F0 m pc ls st0) rest (va_Qr post (fun u q t => q = fa u ∧ tp_out E (va_A Wc H.size) (Wo u) t) (va_A Wc H.size) a) (vx_X px (fun x u t => x = Xn u ∧ tp_out E (va_A Wc H.size) (Wx u) t) (va_A Wc H.size)) (va_A Wc H.size))
    (hD : va_D A Wc) (hS : va_S A s.heap H locs) (hA : ∀ q, s.heap.size ≤ q → A q)
    (kx : ∀ (ce : Cell) (q : Addr) (u : SX) (H1 : Heap) (locs1 : List Loc), px u → va_P (tp_D E) tp_cl (Wx u) H1 → va_D A (Wx u) → va_S A s.heap H1 locs1 → H1[q]? = some ce → ce.vm = .none → s.vm.findClass (Xn u) = some ce.cls → vx_W p l e R s m args below meth c H1 locs1 (cells + mc) (slots + ms) Q (F0 m pc ls rest) q)
    (kk : ∀ (u : S) (H1 : Heap) (locs1 : List Loc), post u → va_P (tp_D E) tp_cl (Wo u) H1 → va_D A (Wo u) → va_S A s.heap H1 locs1 → W p l e R s m args below meth c H1 locs1 (cells + mc) (slots + ms) Q (F0 m (pc + 3) ls (.ref (fa u) :: rest))) :
    W p l e R s m args below meth c H locs cells slots Q (F0 m pc ls st0) := by
  have hFc := tp_AA hD hS hA
  refine sf_callr hr hS (fun q _ h => hFc q h) hFc (fun q _ h => hFc q h) (fun x ce q u t H1 locs1 ht _ hpx hB _ _ hS1 hce hcv hcl => ?_) (fun u r t H1 locs1 ht _ hp hB _ _ hS1 => ?_)
  · obtain ⟨rfl, hP1, hD1⟩ := hB
    rw [ht] at hP1
    exact kx ce q u H1 locs1 hpx hP1 (hD1.weaken (fun _ _ _ h => hFc _ h)) hS1 hce hcv hcl
  · obtain ⟨rfl, hP1, hD1⟩ := hB
    rw [ht] at hP1
    exact kk u H1 locs1 hp hP1 (hD1.weaken (fun _ _ _ h => hFc _ h)) hS1
theorem sf_bi {S SX : Type} {post : Int32 → S → Prop} {px : SX → Prop} {Wo : S → va_W} {Xn : SX → String} {Wx : SX → va_W} {a : Array Value} (hr : vx_Run p l e R s m args below meth c H locs cells slots mc ms (F0 m pc ls st0) rest (va_Qi post (fun u t => tp_out E (va_A Wc H.size) (Wo u) t) (va_A Wc H.size) a) (vx_X px (fun x u t => x = Xn u ∧ tp_out E (va_A Wc H.size) (Wx u) t) (va_A Wc H.size)) (va_A Wc H.size))
    (hD : va_D A Wc) (hS : va_S A s.heap H locs) (hA : ∀ q, s.heap.size ≤ q → A q)
    (kx : ∀ (ce : Cell) (q : Addr) (u : SX) (H1 : Heap) (locs1 : List Loc), px u → va_P (tp_D E) tp_cl (Wx u) H1 → va_D A (Wx u) → va_S A s.heap H1 locs1 → H1[q]? = some ce → ce.vm = .none → s.vm.findClass (Xn u) = some ce.cls → vx_W p l e R s m args below meth c H1 locs1 (cells + mc) (slots + ms) Q (F0 m pc ls rest) q)
    (kk : ∀ (r : Int32) (u : S) (H1 : Heap) (locs1 : List Loc), post r u → va_P (tp_D E) tp_cl (Wo u) H1 → va_D A (Wo u) → va_S A s.heap H1 locs1 → W p l e R s m args below meth c H1 locs1 (cells + mc) (slots + ms) Q (F0 m (pc + 3) ls (.int r :: rest))) :
    W p l e R s m args below meth c H locs cells slots Q (F0 m pc ls st0) := by
  have hFc := tp_AA hD hS hA
  refine vx_calli hr hS (fun q _ h => hFc q h) hFc (fun q _ h => hFc q h) (fun x ce q u t H1 locs1 ht _ hpx hB _ _ hS1 hce hcv hcl => ?_) (fun r u t H1 locs1 ht _ hp hB _ _ hS1 => ?_)
  · obtain ⟨rfl, hP1, hD1⟩ := hB
    rw [ht] at hP1
    exact kx ce q u H1 locs1 hpx hP1 (hD1.weaken (fun _ _ _ h => hFc _ h)) hS1 hce hcv hcl
  · obtain ⟨hP1, hD1⟩ := hB
    rw [ht] at hP1
    exact kk r u H1 locs1 hp hP1 (hD1.weaken (fun _ _ _ h => hFc _ h)) hS1
theorem sf_bl {S SX : Type} {post : Int64 → S → Prop} {px : SX → Prop} {Wo : S → va_W} {Xn : SX → String} {Wx : SX → va_W} {a : Array Value} (hr : vx_Run p l e R s m args below meth c H locs cells slots mc ms (F0 m pc ls st0) rest (va_Ql post (fun u t => tp_out E (va_A Wc H.size) (Wo u) t) (va_A Wc H.size) a) (vx_X px (fun x u t => x = Xn u ∧ tp_out E (va_A Wc H.size) (Wx u) t) (va_A Wc H.size)) (va_A Wc H.size))
    (hD : va_D A Wc) (hS : va_S A s.heap H locs) (hA : ∀ q, s.heap.size ≤ q → A q)
    (kx : ∀ (ce : Cell) (q : Addr) (u : SX) (H1 : Heap) (locs1 : List Loc), px u → va_P (tp_D E) tp_cl (Wx u) H1 → va_D A (Wx u) → va_S A s.heap H1 locs1 → H1[q]? = some ce → ce.vm = .none → s.vm.findClass (Xn u) = some ce.cls → vx_W p l e R s m args below meth c H1 locs1 (cells + mc) (slots + ms) Q (F0 m pc ls rest) q)
    (kk : ∀ (r : Int64) (u : S) (H1 : Heap) (locs1 : List Loc), post r u → va_P (tp_D E) tp_cl (Wo u) H1 → va_D A (Wo u) → va_S A s.heap H1 locs1 → W p l e R s m args below meth c H1 locs1 (cells + mc) (slots + ms) Q (F0 m (pc + 3) ls (.long r :: rest))) :
    W p l e R s m args below meth c H locs cells slots Q (F0 m pc ls st0) := by
  have hFc := tp_AA hD hS hA
  refine vx_calll hr hS (fun q _ h => hFc q h) hFc (fun q _ h => hFc q h) (fun x ce q u t H1 locs1 ht _ hpx hB _ _ hS1 hce hcv hcl => ?_) (fun r u t H1 locs1 ht _ hp hB _ _ hS1 => ?_)
  · obtain ⟨rfl, hP1, hD1⟩ := hB
    rw [ht] at hP1
    exact kx ce q u H1 locs1 hpx hP1 (hD1.weaken (fun _ _ _ h => hFc _ h)) hS1 hce hcv hcl
  · obtain ⟨hP1, hD1⟩ := hB
    rw [ht] at hP1
    exact kk r u H1 locs1 hp hP1 (hD1.weaken (fun _ _ _ h => hFc _ h)) hS1
end SFB
theorem sf_from {xw xv xf : Int32} (hv : sf_V xw xv) (h0 : 0 ≤ xf.toInt ∧ xf.toInt ≤ 30) (h : ¬ (xv - xf) < 1) : sf_V xf xv := by
  obtain ⟨h1, h2, h3⟩ := hv
  have e : (xv - xf).toInt = xv.toInt - xf.toInt := tp_subI (by omega) (by omega)
  have h4 := Int32.le_iff_toInt_le.mp (Int32.not_lt.mp h)
  rw [e, show (1 : Int32).toInt = 1 from rfl] at h4
  exact ⟨h0.1, by omega, h3⟩
theorem sf_wi {xw xv k n : Int32} (hv : sf_V xw xv) (h1 : n = (xv - xw)) (hk : 0 ≤ k.toInt) (h2 : ¬ n ≤ k) : vp_in (xw + k) 28 := by
  obtain ⟨q1, q2, q3⟩ := hv
  have e : (xv - xw).toInt = xv.toInt - xw.toInt := tp_subI (by omega) (by omega)
  have h3 := sf_lt h2
  rw [h1, e] at h3
  have e2 : (xw + k).toInt = xw.toInt + k.toInt := tp_addI (by omega) (by omega)
  exact vp_in_iff.mpr ⟨by omega, by omega⟩
theorem sf_len {i : Nat} (hi : i < 97) : (Int32.ofNat (tp_len.getD i 0)).toInt ≤ 7 ∧ 0 ≤ (Int32.ofNat (tp_len.getD i 0)).toInt := by
  have h : ∀ i : Nat, i < 97 → tp_len.getD i 0 ≤ 7 := by decide +kernel
  rw [tp_ofn (Nat.le_trans (h i hi) (by decide))]
  have := h i hi
  exact ⟨by omega, by omega⟩
theorem sf_kj {n : Int32} (h0 : 0 ≤ n.toInt) : (0 : Int32).toInt + ((n.toInt.toNat : Nat) : Int) = n.toInt := by
  rw [Int32.toInt_zero]
  omega
theorem sf_ki {n k : Int32} (hk : 0 ≤ k.toInt) (hn : n.toInt ≤ 1000) (hl : ¬ n ≤ k) : (k + 1).toInt = k.toInt + 1 := by
  have := sf_lt hl
  exact tp_inc (by omega)
theorem sf_k0 {n k : Int32} (hk : 0 ≤ k.toInt) (hn : n.toInt ≤ 1000) (hl : ¬ n ≤ k) : 0 ≤ (k + 1).toInt := by
  have e := sf_ki hk hn hl
  omega
theorem sf_kd {n k : Int32} {j : Nat} (hk : 0 ≤ k.toInt) (hn : n.toInt ≤ 1000) (hl : ¬ n ≤ k) (hj : k.toInt + (j : Int) = n.toInt) : (k + 1).toInt + ((j - 1 : Nat) : Int) = n.toInt := by
  have e := sf_ki hk hn hl
  have := sf_lt hl
  omega
theorem sf_Vin {xw xv : Int32} (h : sf_V xw xv) (hl : ¬ xv ≤ xw) : vp_in xw 28 := by
  obtain ⟨h1, h2, h3⟩ := h
  have := sf_lt hl
  exact vp_in_iff.mpr ⟨h1, by omega⟩
theorem sf_V1 {xw xv : Int32} (h : sf_V xw xv) : (xw + 1).toInt = xw.toInt + 1 := by
  obtain ⟨h1, h2, h3⟩ := h
  exact tp_inc (by omega)
theorem sf_V1in {xw xv : Int32} (h : sf_V xw xv) (hl : ¬ xv ≤ (xw + 1)) : vp_in xw 28 ∧ vp_in (xw + 1) 28 := by
  have e := sf_V1 h
  obtain ⟨h1, h2, h3⟩ := h
  have := sf_lt hl
  exact ⟨vp_in_iff.mpr ⟨h1, by omega⟩, vp_in_iff.mpr ⟨by omega, by omega⟩⟩
theorem sf_V1b {xw xv : Int32} (h : sf_V xw xv) : 0 ≤ (xw + 1).toInt ∧ (xw + 1).toInt ≤ 30 := by
  have e := sf_V1 h
  obtain ⟨h1, h2, h3⟩ := h
  exact ⟨by omega, by omega⟩
theorem sf_V2b {xw xv : Int32} (h : sf_V xw xv) : 0 ≤ (xw + 2).toInt ∧ (xw + 2).toInt ≤ 30 := by
  obtain ⟨h1, h2, h3⟩ := h
  have e : (xw + 2).toInt = xw.toInt + (2 : Int32).toInt := tp_addI (by rw [show (2 : Int32).toInt = 2 from rfl]; omega) (by rw [show (2 : Int32).toInt = 2 from rfl]; omega)
  rw [e, show (2 : Int32).toInt = 2 from rfl]
  exact ⟨by omega, by omega⟩
theorem sf_V0b {xw xv : Int32} (h : sf_V xw xv) : 0 ≤ xw.toInt ∧ xw.toInt ≤ 30 := by
  obtain ⟨h1, h2, h3⟩ := h
  exact ⟨h1, by omega⟩
abbrev sf_S2 {α0 α1 : Type} (f : α0 → α1 → Prop) (a : α0 × α1) : Prop := f a.1 a.2
abbrev sf_S3 {α0 α1 α2 : Type} (f : α0 → α1 → α2 → Prop) (a : α0 × α1 × α2) : Prop := f a.1 a.2.1 a.2.2
abbrev sf_S4 {α0 α1 α2 α3 : Type} (f : α0 → α1 → α2 → α3 → Prop) (a : α0 × α1 × α2 × α3) : Prop := f a.1 a.2.1 a.2.2.1 a.2.2.2
abbrev sf_S5 {α0 α1 α2 α3 α4 : Type} (f : α0 → α1 → α2 → α3 → α4 → Prop) (a : α0 × α1 × α2 × α3 × α4) : Prop := f a.1 a.2.1 a.2.2.1 a.2.2.2.1 a.2.2.2.2
abbrev sf_S6 {α0 α1 α2 α3 α4 α5 : Type} (f : α0 → α1 → α2 → α3 → α4 → α5 → Prop) (a : α0 × α1 × α2 × α3 × α4 × α5) : Prop := f a.1 a.2.1 a.2.2.1 a.2.2.2.1 a.2.2.2.2.1 a.2.2.2.2.2
abbrev sf_S7 {α0 α1 α2 α3 α4 α5 α6 : Type} (f : α0 → α1 → α2 → α3 → α4 → α5 → α6 → Prop) (a : α0 × α1 × α2 × α3 × α4 × α5 × α6) : Prop := f a.1 a.2.1 a.2.2.1 a.2.2.2.1 a.2.2.2.2.1 a.2.2.2.2.2.1 a.2.2.2.2.2.2
abbrev sf_S8 {α0 α1 α2 α3 α4 α5 α6 α7 : Type} (f : α0 → α1 → α2 → α3 → α4 → α5 → α6 → α7 → Prop) (a : α0 × α1 × α2 × α3 × α4 × α5 × α6 × α7) : Prop := f a.1 a.2.1 a.2.2.1 a.2.2.2.1 a.2.2.2.2.1 a.2.2.2.2.2.1 a.2.2.2.2.2.2.1 a.2.2.2.2.2.2.2
abbrev sf_S9 {α0 α1 α2 α3 α4 α5 α6 α7 α8 : Type} (f : α0 → α1 → α2 → α3 → α4 → α5 → α6 → α7 → α8 → Prop) (a : α0 × α1 × α2 × α3 × α4 × α5 × α6 × α7 × α8) : Prop := f a.1 a.2.1 a.2.2.1 a.2.2.2.1 a.2.2.2.2.1 a.2.2.2.2.2.1 a.2.2.2.2.2.2.1 a.2.2.2.2.2.2.2.1 a.2.2.2.2.2.2.2.2
abbrev sf_S10 {α0 α1 α2 α3 α4 α5 α6 α7 α8 α9 : Type} (f : α0 → α1 → α2 → α3 → α4 → α5 → α6 → α7 → α8 → α9 → Prop) (a : α0 × α1 × α2 × α3 × α4 × α5 × α6 × α7 × α8 × α9) : Prop := f a.1 a.2.1 a.2.2.1 a.2.2.2.1 a.2.2.2.2.1 a.2.2.2.2.2.1 a.2.2.2.2.2.2.1 a.2.2.2.2.2.2.2.1 a.2.2.2.2.2.2.2.2.1 a.2.2.2.2.2.2.2.2.2
abbrev sf_S11 {α0 α1 α2 α3 α4 α5 α6 α7 α8 α9 α10 : Type} (f : α0 → α1 → α2 → α3 → α4 → α5 → α6 → α7 → α8 → α9 → α10 → Prop) (a : α0 × α1 × α2 × α3 × α4 × α5 × α6 × α7 × α8 × α9 × α10) : Prop := f a.1 a.2.1 a.2.2.1 a.2.2.2.1 a.2.2.2.2.1 a.2.2.2.2.2.1 a.2.2.2.2.2.2.1 a.2.2.2.2.2.2.2.1 a.2.2.2.2.2.2.2.2.1 a.2.2.2.2.2.2.2.2.2.1 a.2.2.2.2.2.2.2.2.2.2
abbrev sf_S12 {α0 α1 α2 α3 α4 α5 α6 α7 α8 α9 α10 α11 : Type} (f : α0 → α1 → α2 → α3 → α4 → α5 → α6 → α7 → α8 → α9 → α10 → α11 → Prop) (a : α0 × α1 × α2 × α3 × α4 × α5 × α6 × α7 × α8 × α9 × α10 × α11) : Prop := f a.1 a.2.1 a.2.2.1 a.2.2.2.1 a.2.2.2.2.1 a.2.2.2.2.2.1 a.2.2.2.2.2.2.1 a.2.2.2.2.2.2.2.1 a.2.2.2.2.2.2.2.2.1 a.2.2.2.2.2.2.2.2.2.1 a.2.2.2.2.2.2.2.2.2.2.1 a.2.2.2.2.2.2.2.2.2.2.2
abbrev sf_S13 {α0 α1 α2 α3 α4 α5 α6 α7 α8 α9 α10 α11 α12 : Type} (f : α0 → α1 → α2 → α3 → α4 → α5 → α6 → α7 → α8 → α9 → α10 → α11 → α12 → Prop) (a : α0 × α1 × α2 × α3 × α4 × α5 × α6 × α7 × α8 × α9 × α10 × α11 × α12) : Prop := f a.1 a.2.1 a.2.2.1 a.2.2.2.1 a.2.2.2.2.1 a.2.2.2.2.2.1 a.2.2.2.2.2.2.1 a.2.2.2.2.2.2.2.1 a.2.2.2.2.2.2.2.2.1 a.2.2.2.2.2.2.2.2.2.1 a.2.2.2.2.2.2.2.2.2.2.1 a.2.2.2.2.2.2.2.2.2.2.2.1 a.2.2.2.2.2.2.2.2.2.2.2.2
abbrev sf_S14 {α0 α1 α2 α3 α4 α5 α6 α7 α8 α9 α10 α11 α12 α13 : Type} (f : α0 → α1 → α2 → α3 → α4 → α5 → α6 → α7 → α8 → α9 → α10 → α11 → α12 → α13 → Prop) (a : α0 × α1 × α2 × α3 × α4 × α5 × α6 × α7 × α8 × α9 × α10 × α11 × α12 × α13) : Prop := f a.1 a.2.1 a.2.2.1 a.2.2.2.1 a.2.2.2.2.1 a.2.2.2.2.2.1 a.2.2.2.2.2.2.1 a.2.2.2.2.2.2.2.1 a.2.2.2.2.2.2.2.2.1 a.2.2.2.2.2.2.2.2.2.1 a.2.2.2.2.2.2.2.2.2.2.1 a.2.2.2.2.2.2.2.2.2.2.2.1 a.2.2.2.2.2.2.2.2.2.2.2.2.1 a.2.2.2.2.2.2.2.2.2.2.2.2.2
section SFL
variable {p : Program} {l : Launch} {e : Env} {R : Room} {s : State} {m : MethodId} {args : Array Value} {below : List Frame} {meth : Method} {c : Code} {H : Heap} {locs : List Loc} {cells slots : Nat} {Q : State → Prop}
variable {pc : Nat} {ls : Array Slot} {st : List Value}
theorem tp_loop4 {α0 α1 α2 α3 : Type} (I : Nat → Array Slot → Heap → List Loc → α0 → α1 → α2 → α3 → Prop)
    (step : ∀ (j : Nat) (x0 : α0) (x1 : α1) (x2 : α2) (x3 : α3) (ls : Array Slot) (H : Heap) (locs : List Loc), I j ls H locs x0 x1 x2 x3 → (∀ (i : Nat) (y0 : α0) (y1 : α1) (y2 : α2) (y3 : α3) (ls' : Array Slot) (H' : Heap) (locs' : List Loc), i < j → I i ls' H' locs' y0 y1 y2 y3 → W p l e R s m args below meth c H' locs' cells slots Q (F0 m pc ls' st)) → W p l e R s m args below meth c H locs cells slots Q (F0 m pc ls st))
    (j0 : Nat) (x0 : α0) (x1 : α1) (x2 : α2) (x3 : α3) (h0 : I j0 ls H locs x0 x1 x2 x3) : W p l e R s m args below meth c H locs cells slots Q (F0 m pc ls st) :=
  tp_loop (α := α0 × α1 × α2 × α3) (fun j ls H locs a => I j ls H locs a.1 a.2.1 a.2.2.1 a.2.2.2) (fun j a ls H locs hI ih => step j a.1 a.2.1 a.2.2.1 a.2.2.2 ls H locs hI (fun i y0 y1 y2 y3 ls' H' locs' hij hI' => ih i (y0, y1, y2, y3) ls' H' locs' hij hI')) j0 (x0, x1, x2, x3) h0
theorem tp_join4 {α0 α1 α2 α3 : Type} {pc' : Nat} (I : Array Slot → Heap → List Loc → α0 → α1 → α2 → α3 → Prop) (hJ : ∀ (x0 : α0) (x1 : α1) (x2 : α2) (x3 : α3) (ls : Array Slot) (H : Heap) (locs : List Loc), I ls H locs x0 x1 x2 x3 → W p l e R s m args below meth c H locs cells slots Q (F0 m pc' ls [])) (hK : (∀ (x0 : α0) (x1 : α1) (x2 : α2) (x3 : α3) (ls : Array Slot) (H : Heap) (locs : List Loc), I ls H locs x0 x1 x2 x3 → W p l e R s m args below meth c H locs cells slots Q (F0 m pc' ls [])) → W p l e R s m args below meth c H locs cells slots Q (F0 m pc ls st)) : W p l e R s m args below meth c H locs cells slots Q (F0 m pc ls st) := hK hJ
theorem tp_loop5 {α0 α1 α2 α3 α4 : Type} (I : Nat → Array Slot → Heap → List Loc → α0 → α1 → α2 → α3 → α4 → Prop)
    (step : ∀ (j : Nat) (x0 : α0) (x1 : α1) (x2 : α2) (x3 : α3) (x4 : α4) (ls : Array Slot) (H : Heap) (locs : List Loc), I j ls H locs x0 x1 x2 x3 x4 → (∀ (i : Nat) (y0 : α0) (y1 : α1) (y2 : α2) (y3 : α3) (y4 : α4) (ls' : Array Slot) (H' : Heap) (locs' : List Loc), i < j → I i ls' H' locs' y0 y1 y2 y3 y4 → W p l e R s m args below meth c H' locs' cells slots Q (F0 m pc ls' st)) → W p l e R s m args below meth c H locs cells slots Q (F0 m pc ls st))
    (j0 : Nat) (x0 : α0) (x1 : α1) (x2 : α2) (x3 : α3) (x4 : α4) (h0 : I j0 ls H locs x0 x1 x2 x3 x4) : W p l e R s m args below meth c H locs cells slots Q (F0 m pc ls st) :=
  tp_loop (α := α0 × α1 × α2 × α3 × α4) (fun j ls H locs a => I j ls H locs a.1 a.2.1 a.2.2.1 a.2.2.2.1 a.2.2.2.2) (fun j a ls H locs hI ih => step j a.1 a.2.1 a.2.2.1 a.2.2.2.1 a.2.2.2.2 ls H locs hI (fun i y0 y1 y2 y3 y4 ls' H' locs' hij hI' => ih i (y0, y1, y2, y3, y4) ls' H' locs' hij hI')) j0 (x0, x1, x2, x3, x4) h0
theorem tp_join5 {α0 α1 α2 α3 α4 : Type} {pc' : Nat} (I : Array Slot → Heap → List Loc → α0 → α1 → α2 → α3 → α4 → Prop) (hJ : ∀ (x0 : α0) (x1 : α1) (x2 : α2) (x3 : α3) (x4 : α4) (ls : Array Slot) (H : Heap) (locs : List Loc), I ls H locs x0 x1 x2 x3 x4 → W p l e R s m args below meth c H locs cells slots Q (F0 m pc' ls [])) (hK : (∀ (x0 : α0) (x1 : α1) (x2 : α2) (x3 : α3) (x4 : α4) (ls : Array Slot) (H : Heap) (locs : List Loc), I ls H locs x0 x1 x2 x3 x4 → W p l e R s m args below meth c H locs cells slots Q (F0 m pc' ls [])) → W p l e R s m args below meth c H locs cells slots Q (F0 m pc ls st)) : W p l e R s m args below meth c H locs cells slots Q (F0 m pc ls st) := hK hJ
theorem tp_loop6 {α0 α1 α2 α3 α4 α5 : Type} (I : Nat → Array Slot → Heap → List Loc → α0 → α1 → α2 → α3 → α4 → α5 → Prop)
    (step : ∀ (j : Nat) (x0 : α0) (x1 : α1) (x2 : α2) (x3 : α3) (x4 : α4) (x5 : α5) (ls : Array Slot) (H : Heap) (locs : List Loc), I j ls H locs x0 x1 x2 x3 x4 x5 → (∀ (i : Nat) (y0 : α0) (y1 : α1) (y2 : α2) (y3 : α3) (y4 : α4) (y5 : α5) (ls' : Array Slot) (H' : Heap) (locs' : List Loc), i < j → I i ls' H' locs' y0 y1 y2 y3 y4 y5 → W p l e R s m args below meth c H' locs' cells slots Q (F0 m pc ls' st)) → W p l e R s m args below meth c H locs cells slots Q (F0 m pc ls st))
    (j0 : Nat) (x0 : α0) (x1 : α1) (x2 : α2) (x3 : α3) (x4 : α4) (x5 : α5) (h0 : I j0 ls H locs x0 x1 x2 x3 x4 x5) : W p l e R s m args below meth c H locs cells slots Q (F0 m pc ls st) :=
  tp_loop (α := α0 × α1 × α2 × α3 × α4 × α5) (fun j ls H locs a => I j ls H locs a.1 a.2.1 a.2.2.1 a.2.2.2.1 a.2.2.2.2.1 a.2.2.2.2.2) (fun j a ls H locs hI ih => step j a.1 a.2.1 a.2.2.1 a.2.2.2.1 a.2.2.2.2.1 a.2.2.2.2.2 ls H locs hI (fun i y0 y1 y2 y3 y4 y5 ls' H' locs' hij hI' => ih i (y0, y1, y2, y3, y4, y5) ls' H' locs' hij hI')) j0 (x0, x1, x2, x3, x4, x5) h0
theorem tp_join6 {α0 α1 α2 α3 α4 α5 : Type} {pc' : Nat} (I : Array Slot → Heap → List Loc → α0 → α1 → α2 → α3 → α4 → α5 → Prop) (hJ : ∀ (x0 : α0) (x1 : α1) (x2 : α2) (x3 : α3) (x4 : α4) (x5 : α5) (ls : Array Slot) (H : Heap) (locs : List Loc), I ls H locs x0 x1 x2 x3 x4 x5 → W p l e R s m args below meth c H locs cells slots Q (F0 m pc' ls [])) (hK : (∀ (x0 : α0) (x1 : α1) (x2 : α2) (x3 : α3) (x4 : α4) (x5 : α5) (ls : Array Slot) (H : Heap) (locs : List Loc), I ls H locs x0 x1 x2 x3 x4 x5 → W p l e R s m args below meth c H locs cells slots Q (F0 m pc' ls [])) → W p l e R s m args below meth c H locs cells slots Q (F0 m pc ls st)) : W p l e R s m args below meth c H locs cells slots Q (F0 m pc ls st) := hK hJ
theorem tp_loop7 {α0 α1 α2 α3 α4 α5 α6 : Type} (I : Nat → Array Slot → Heap → List Loc → α0 → α1 → α2 → α3 → α4 → α5 → α6 → Prop)
    (step : ∀ (j : Nat) (x0 : α0) (x1 : α1) (x2 : α2) (x3 : α3) (x4 : α4) (x5 : α5) (x6 : α6) (ls : Array Slot) (H : Heap) (locs : List Loc), I j ls H locs x0 x1 x2 x3 x4 x5 x6 → (∀ (i : Nat) (y0 : α0) (y1 : α1) (y2 : α2) (y3 : α3) (y4 : α4) (y5 : α5) (y6 : α6) (ls' : Array Slot) (H' : Heap) (locs' : List Loc), i < j → I i ls' H' locs' y0 y1 y2 y3 y4 y5 y6 → W p l e R s m args below meth c H' locs' cells slots Q (F0 m pc ls' st)) → W p l e R s m args below meth c H locs cells slots Q (F0 m pc ls st))
    (j0 : Nat) (x0 : α0) (x1 : α1) (x2 : α2) (x3 : α3) (x4 : α4) (x5 : α5) (x6 : α6) (h0 : I j0 ls H locs x0 x1 x2 x3 x4 x5 x6) : W p l e R s m args below meth c H locs cells slots Q (F0 m pc ls st) :=
  tp_loop (α := α0 × α1 × α2 × α3 × α4 × α5 × α6) (fun j ls H locs a => I j ls H locs a.1 a.2.1 a.2.2.1 a.2.2.2.1 a.2.2.2.2.1 a.2.2.2.2.2.1 a.2.2.2.2.2.2) (fun j a ls H locs hI ih => step j a.1 a.2.1 a.2.2.1 a.2.2.2.1 a.2.2.2.2.1 a.2.2.2.2.2.1 a.2.2.2.2.2.2 ls H locs hI (fun i y0 y1 y2 y3 y4 y5 y6 ls' H' locs' hij hI' => ih i (y0, y1, y2, y3, y4, y5, y6) ls' H' locs' hij hI')) j0 (x0, x1, x2, x3, x4, x5, x6) h0
theorem tp_join7 {α0 α1 α2 α3 α4 α5 α6 : Type} {pc' : Nat} (I : Array Slot → Heap → List Loc → α0 → α1 → α2 → α3 → α4 → α5 → α6 → Prop) (hJ : ∀ (x0 : α0) (x1 : α1) (x2 : α2) (x3 : α3) (x4 : α4) (x5 : α5) (x6 : α6) (ls : Array Slot) (H : Heap) (locs : List Loc), I ls H locs x0 x1 x2 x3 x4 x5 x6 → W p l e R s m args below meth c H locs cells slots Q (F0 m pc' ls [])) (hK : (∀ (x0 : α0) (x1 : α1) (x2 : α2) (x3 : α3) (x4 : α4) (x5 : α5) (x6 : α6) (ls : Array Slot) (H : Heap) (locs : List Loc), I ls H locs x0 x1 x2 x3 x4 x5 x6 → W p l e R s m args below meth c H locs cells slots Q (F0 m pc' ls [])) → W p l e R s m args below meth c H locs cells slots Q (F0 m pc ls st)) : W p l e R s m args below meth c H locs cells slots Q (F0 m pc ls st) := hK hJ
theorem tp_loop8 {α0 α1 α2 α3 α4 α5 α6 α7 : Type} (I : Nat → Array Slot → Heap → List Loc → α0 → α1 → α2 → α3 → α4 → α5 → α6 → α7 → Prop)
    (step : ∀ (j : Nat) (x0 : α0) (x1 : α1) (x2 : α2) (x3 : α3) (x4 : α4) (x5 : α5) (x6 : α6) (x7 : α7) (ls : Array Slot) (H : Heap) (locs : List Loc), I j ls H locs x0 x1 x2 x3 x4 x5 x6 x7 → (∀ (i : Nat) (y0 : α0) (y1 : α1) (y2 : α2) (y3 : α3) (y4 : α4) (y5 : α5) (y6 : α6) (y7 : α7) (ls' : Array Slot) (H' : Heap) (locs' : List Loc), i < j → I i ls' H' locs' y0 y1 y2 y3 y4 y5 y6 y7 → W p l e R s m args below meth c H' locs' cells slots Q (F0 m pc ls' st)) → W p l e R s m args below meth c H locs cells slots Q (F0 m pc ls st))
    (j0 : Nat) (x0 : α0) (x1 : α1) (x2 : α2) (x3 : α3) (x4 : α4) (x5 : α5) (x6 : α6) (x7 : α7) (h0 : I j0 ls H locs x0 x1 x2 x3 x4 x5 x6 x7) : W p l e R s m args below meth c H locs cells slots Q (F0 m pc ls st) :=
  tp_loop (α := α0 × α1 × α2 × α3 × α4 × α5 × α6 × α7) (fun j ls H locs a => I j ls H locs a.1 a.2.1 a.2.2.1 a.2.2.2.1 a.2.2.2.2.1 a.2.2.2.2.2.1 a.2.2.2.2.2.2.1 a.2.2.2.2.2.2.2) (fun j a ls H locs hI ih => step j a.1 a.2.1 a.2.2.1 a.2.2.2.1 a.2.2.2.2.1 a.2.2.2.2.2.1 a.2.2.2.2.2.2.1 a.2.2.2.2.2.2.2 ls H locs hI (fun i y0 y1 y2 y3 y4 y5 y6 y7 ls' H' locs' hij hI' => ih i (y0, y1, y2, y3, y4, y5, y6, y7) ls' H' locs' hij hI')) j0 (x0, x1, x2, x3, x4, x5, x6, x7) h0
theorem tp_join8 {α0 α1 α2 α3 α4 α5 α6 α7 : Type} {pc' : Nat} (I : Array Slot → Heap → List Loc → α0 → α1 → α2 → α3 → α4 → α5 → α6 → α7 → Prop) (hJ : ∀ (x0 : α0) (x1 : α1) (x2 : α2) (x3 : α3) (x4 : α4) (x5 : α5) (x6 : α6) (x7 : α7) (ls : Array Slot) (H : Heap) (locs : List Loc), I ls H locs x0 x1 x2 x3 x4 x5 x6 x7 → W p l e R s m args below meth c H locs cells slots Q (F0 m pc' ls [])) (hK : (∀ (x0 : α0) (x1 : α1) (x2 : α2) (x3 : α3) (x4 : α4) (x5 : α5) (x6 : α6) (x7 : α7) (ls : Array Slot) (H : Heap) (locs : List Loc), I ls H locs x0 x1 x2 x3 x4 x5 x6 x7 → W p l e R s m args below meth c H locs cells slots Q (F0 m pc' ls [])) → W p l e R s m args below meth c H locs cells slots Q (F0 m pc ls st)) : W p l e R s m args below meth c H locs cells slots Q (F0 m pc ls st) := hK hJ
theorem tp_loop9 {α0 α1 α2 α3 α4 α5 α6 α7 α8 : Type} (I : Nat → Array Slot → Heap → List Loc → α0 → α1 → α2 → α3 → α4 → α5 → α6 → α7 → α8 → Prop)
    (step : ∀ (j : Nat) (x0 : α0) (x1 : α1) (x2 : α2) (x3 : α3) (x4 : α4) (x5 : α5) (x6 : α6) (x7 : α7) (x8 : α8) (ls : Array Slot) (H : Heap) (locs : List Loc), I j ls H locs x0 x1 x2 x3 x4 x5 x6 x7 x8 → (∀ (i : Nat) (y0 : α0) (y1 : α1) (y2 : α2) (y3 : α3) (y4 : α4) (y5 : α5) (y6 : α6) (y7 : α7) (y8 : α8) (ls' : Array Slot) (H' : Heap) (locs' : List Loc), i < j → I i ls' H' locs' y0 y1 y2 y3 y4 y5 y6 y7 y8 → W p l e R s m args below meth c H' locs' cells slots Q (F0 m pc ls' st)) → W p l e R s m args below meth c H locs cells slots Q (F0 m pc ls st))
    (j0 : Nat) (x0 : α0) (x1 : α1) (x2 : α2) (x3 : α3) (x4 : α4) (x5 : α5) (x6 : α6) (x7 : α7) (x8 : α8) (h0 : I j0 ls H locs x0 x1 x2 x3 x4 x5 x6 x7 x8) : W p l e R s m args below meth c H locs cells slots Q (F0 m pc ls st) :=
  tp_loop (α := α0 × α1 × α2 × α3 × α4 × α5 × α6 × α7 × α8) (fun j ls H locs a => I j ls H locs a.1 a.2.1 a.2.2.1 a.2.2.2.1 a.2.2.2.2.1 a.2.2.2.2.2.1 a.2.2.2.2.2.2.1 a.2.2.2.2.2.2.2.1 a.2.2.2.2.2.2.2.2) (fun j a ls H locs hI ih => step j a.1 a.2.1 a.2.2.1 a.2.2.2.1 a.2.2.2.2.1 a.2.2.2.2.2.1 a.2.2.2.2.2.2.1 a.2.2.2.2.2.2.2.1 a.2.2.2.2.2.2.2.2 ls H locs hI (fun i y0 y1 y2 y3 y4 y5 y6 y7 y8 ls' H' locs' hij hI' => ih i (y0, y1, y2, y3, y4, y5, y6, y7, y8) ls' H' locs' hij hI')) j0 (x0, x1, x2, x3, x4, x5, x6, x7, x8) h0
theorem tp_join9 {α0 α1 α2 α3 α4 α5 α6 α7 α8 : Type} {pc' : Nat} (I : Array Slot → Heap → List Loc → α0 → α1 → α2 → α3 → α4 → α5 → α6 → α7 → α8 → Prop) (hJ : ∀ (x0 : α0) (x1 : α1) (x2 : α2) (x3 : α3) (x4 : α4) (x5 : α5) (x6 : α6) (x7 : α7) (x8 : α8) (ls : Array Slot) (H : Heap) (locs : List Loc), I ls H locs x0 x1 x2 x3 x4 x5 x6 x7 x8 → W p l e R s m args below meth c H locs cells slots Q (F0 m pc' ls [])) (hK : (∀ (x0 : α0) (x1 : α1) (x2 : α2) (x3 : α3) (x4 : α4) (x5 : α5) (x6 : α6) (x7 : α7) (x8 : α8) (ls : Array Slot) (H : Heap) (locs : List Loc), I ls H locs x0 x1 x2 x3 x4 x5 x6 x7 x8 → W p l e R s m args below meth c H locs cells slots Q (F0 m pc' ls [])) → W p l e R s m args below meth c H locs cells slots Q (F0 m pc ls st)) : W p l e R s m args below meth c H locs cells slots Q (F0 m pc ls st) := hK hJ
theorem tp_loop10 {α0 α1 α2 α3 α4 α5 α6 α7 α8 α9 : Type} (I : Nat → Array Slot → Heap → List Loc → α0 → α1 → α2 → α3 → α4 → α5 → α6 → α7 → α8 → α9 → Prop)
    (step : ∀ (j : Nat) (x0 : α0) (x1 : α1) (x2 : α2) (x3 : α3) (x4 : α4) (x5 : α5) (x6 : α6) (x7 : α7) (x8 : α8) (x9 : α9) (ls : Array Slot) (H : Heap) (locs : List Loc), I j ls H locs x0 x1 x2 x3 x4 x5 x6 x7 x8 x9 → (∀ (i : Nat) (y0 : α0) (y1 : α1) (y2 : α2) (y3 : α3) (y4 : α4) (y5 : α5) (y6 : α6) (y7 : α7) (y8 : α8) (y9 : α9) (ls' : Array Slot) (H' : Heap) (locs' : List Loc), i < j → I i ls' H' locs' y0 y1 y2 y3 y4 y5 y6 y7 y8 y9 → W p l e R s m args below meth c H' locs' cells slots Q (F0 m pc ls' st)) → W p l e R s m args below meth c H locs cells slots Q (F0 m pc ls st))
    (j0 : Nat) (x0 : α0) (x1 : α1) (x2 : α2) (x3 : α3) (x4 : α4) (x5 : α5) (x6 : α6) (x7 : α7) (x8 : α8) (x9 : α9) (h0 : I j0 ls H locs x0 x1 x2 x3 x4 x5 x6 x7 x8 x9) : W p l e R s m args below meth c H locs cells slots Q (F0 m pc ls st) :=
  tp_loop (α := α0 × α1 × α2 × α3 × α4 × α5 × α6 × α7 × α8 × α9) (fun j ls H locs a => I j ls H locs a.1 a.2.1 a.2.2.1 a.2.2.2.1 a.2.2.2.2.1 a.2.2.2.2.2.1 a.2.2.2.2.2.2.1 a.2.2.2.2.2.2.2.1 a.2.2.2.2.2.2.2.2.1 a.2.2.2.2.2.2.2.2.2) (fun j a ls H locs hI ih => step j a.1 a.2.1 a.2.2.1 a.2.2.2.1 a.2.2.2.2.1 a.2.2.2.2.2.1 a.2.2.2.2.2.2.1 a.2.2.2.2.2.2.2.1 a.2.2.2.2.2.2.2.2.1 a.2.2.2.2.2.2.2.2.2 ls H locs hI (fun i y0 y1 y2 y3 y4 y5 y6 y7 y8 y9 ls' H' locs' hij hI' => ih i (y0, y1, y2, y3, y4, y5, y6, y7, y8, y9) ls' H' locs' hij hI')) j0 (x0, x1, x2, x3, x4, x5, x6, x7, x8, x9) h0
theorem tp_join10 {α0 α1 α2 α3 α4 α5 α6 α7 α8 α9 : Type} {pc' : Nat} (I : Array Slot → Heap → List Loc → α0 → α1 → α2 → α3 → α4 → α5 → α6 → α7 → α8 → α9 → Prop) (hJ : ∀ (x0 : α0) (x1 : α1) (x2 : α2) (x3 : α3) (x4 : α4) (x5 : α5) (x6 : α6) (x7 : α7) (x8 : α8) (x9 : α9) (ls : Array Slot) (H : Heap) (locs : List Loc), I ls H locs x0 x1 x2 x3 x4 x5 x6 x7 x8 x9 → W p l e R s m args below meth c H locs cells slots Q (F0 m pc' ls [])) (hK : (∀ (x0 : α0) (x1 : α1) (x2 : α2) (x3 : α3) (x4 : α4) (x5 : α5) (x6 : α6) (x7 : α7) (x8 : α8) (x9 : α9) (ls : Array Slot) (H : Heap) (locs : List Loc), I ls H locs x0 x1 x2 x3 x4 x5 x6 x7 x8 x9 → W p l e R s m args below meth c H locs cells slots Q (F0 m pc' ls [])) → W p l e R s m args below meth c H locs cells slots Q (F0 m pc ls st)) : W p l e R s m args below meth c H locs cells slots Q (F0 m pc ls st) := hK hJ
theorem tp_join11 {α0 α1 α2 α3 α4 α5 α6 α7 α8 α9 α10 : Type} {pc' : Nat} (I : Array Slot → Heap → List Loc → α0 → α1 → α2 → α3 → α4 → α5 → α6 → α7 → α8 → α9 → α10 → Prop) (hJ : ∀ (x0 : α0) (x1 : α1) (x2 : α2) (x3 : α3) (x4 : α4) (x5 : α5) (x6 : α6) (x7 : α7) (x8 : α8) (x9 : α9) (x10 : α10) (ls : Array Slot) (H : Heap) (locs : List Loc), I ls H locs x0 x1 x2 x3 x4 x5 x6 x7 x8 x9 x10 → W p l e R s m args below meth c H locs cells slots Q (F0 m pc' ls [])) (hK : (∀ (x0 : α0) (x1 : α1) (x2 : α2) (x3 : α3) (x4 : α4) (x5 : α5) (x6 : α6) (x7 : α7) (x8 : α8) (x9 : α9) (x10 : α10) (ls : Array Slot) (H : Heap) (locs : List Loc), I ls H locs x0 x1 x2 x3 x4 x5 x6 x7 x8 x9 x10 → W p l e R s m args below meth c H locs cells slots Q (F0 m pc' ls [])) → W p l e R s m args below meth c H locs cells slots Q (F0 m pc ls st)) : W p l e R s m args below meth c H locs cells slots Q (F0 m pc ls st) := hK hJ
theorem tp_join12 {α0 α1 α2 α3 α4 α5 α6 α7 α8 α9 α10 α11 : Type} {pc' : Nat} (I : Array Slot → Heap → List Loc → α0 → α1 → α2 → α3 → α4 → α5 → α6 → α7 → α8 → α9 → α10 → α11 → Prop) (hJ : ∀ (x0 : α0) (x1 : α1) (x2 : α2) (x3 : α3) (x4 : α4) (x5 : α5) (x6 : α6) (x7 : α7) (x8 : α8) (x9 : α9) (x10 : α10) (x11 : α11) (ls : Array Slot) (H : Heap) (locs : List Loc), I ls H locs x0 x1 x2 x3 x4 x5 x6 x7 x8 x9 x10 x11 → W p l e R s m args below meth c H locs cells slots Q (F0 m pc' ls [])) (hK : (∀ (x0 : α0) (x1 : α1) (x2 : α2) (x3 : α3) (x4 : α4) (x5 : α5) (x6 : α6) (x7 : α7) (x8 : α8) (x9 : α9) (x10 : α10) (x11 : α11) (ls : Array Slot) (H : Heap) (locs : List Loc), I ls H locs x0 x1 x2 x3 x4 x5 x6 x7 x8 x9 x10 x11 → W p l e R s m args below meth c H locs cells slots Q (F0 m pc' ls [])) → W p l e R s m args below meth c H locs cells slots Q (F0 m pc ls st)) : W p l e R s m args below meth c H locs cells slots Q (F0 m pc ls st) := hK hJ
theorem tp_join13 {α0 α1 α2 α3 α4 α5 α6 α7 α8 α9 α10 α11 α12 : Type} {pc' : Nat} (I : Array Slot → Heap → List Loc → α0 → α1 → α2 → α3 → α4 → α5 → α6 → α7 → α8 → α9 → α10 → α11 → α12 → Prop) (hJ : ∀ (x0 : α0) (x1 : α1) (x2 : α2) (x3 : α3) (x4 : α4) (x5 : α5) (x6 : α6) (x7 : α7) (x8 : α8) (x9 : α9) (x10 : α10) (x11 : α11) (x12 : α12) (ls : Array Slot) (H : Heap) (locs : List Loc), I ls H locs x0 x1 x2 x3 x4 x5 x6 x7 x8 x9 x10 x11 x12 → W p l e R s m args below meth c H locs cells slots Q (F0 m pc' ls [])) (hK : (∀ (x0 : α0) (x1 : α1) (x2 : α2) (x3 : α3) (x4 : α4) (x5 : α5) (x6 : α6) (x7 : α7) (x8 : α8) (x9 : α9) (x10 : α10) (x11 : α11) (x12 : α12) (ls : Array Slot) (H : Heap) (locs : List Loc), I ls H locs x0 x1 x2 x3 x4 x5 x6 x7 x8 x9 x10 x11 x12 → W p l e R s m args below meth c H locs cells slots Q (F0 m pc' ls [])) → W p l e R s m args below meth c H locs cells slots Q (F0 m pc ls st)) : W p l e R s m args below meth c H locs cells slots Q (F0 m pc ls st) := hK hJ
end SFL
/-! lines of a module: cells of the frame, by their places -/
def sf_line (E : tp_Env) (vs : List Value) : Prop := ∃ (lb : Int32) (o : Nat) (d s t : Int32) (nu : Int64) (nm st fa w1 w2 : Int32), (o < 47 ∧ (fa = 0 ∨ fa = 1)) ∧ vs = [.int lb, .ref (tp_ad E o), .int d, .int s, .int t, .long nu, .int nm, .int st, .int fa, .int w1, .int w2]
def sf_isl (E : tp_Env) (fr : va_W) (a : Nat) : Prop := ∃ (q : Nat) (vs : List Value), fr[q]? = some (a, .inr (3, vs)) ∧ sf_line E vs
def sf_rows (E : tp_Env) (e : Nat) (n : Int32) (fr : va_W) : Prop := (e = tp_ad E 100 ∧ n = 0) ∨ ∃ (q cap : Nat) (f : Nat → Option Nat), fr[q]? = some (e, .inl (tp_ty E 5, cap, .inr (.inr (.inr (.inr f))))) ∧ (0 ≤ n.toInt ∧ n.toInt ≤ 16 ∧ n.toInt ≤ (cap : Int)) ∧ (cap = 10 ∨ cap = 15 ∨ cap = 22) ∧ ∀ k : Nat, k < n.toInt.toNat → ∃ a : Nat, f k = some a ∧ sf_isl E fr a
def sf_ch (E : tp_Env) (fr fr' : va_W) : Prop := ∀ i : Nat, fr'[i]? = fr[i]? ∨ ∃ (a : Nat) (vs vs' : List Value), fr[i]? = some (a, .inr (3, vs)) ∧ fr'[i]? = some (a, .inr (3, vs')) ∧ sf_line E vs ∧ sf_line E vs'
theorem sf_ch.rf {E : tp_Env} {fr : va_W} : sf_ch E fr fr := fun _ => Or.inl rfl
theorem sf_ch.trans {E : tp_Env} {f g h : va_W} (h1 : sf_ch E f g) (h2 : sf_ch E g h) : sf_ch E f h := fun i => by
  rcases h1 i with e1 | ⟨a, vs, vs', q1, q2, q3, q4⟩
  · rcases h2 i with e2 | ⟨b, ws, ws', p1, p2, p3, p4⟩
    · exact Or.inl (e2.trans e1)
    · exact Or.inr ⟨b, ws, ws', e1.symm.trans p1, p2, p3, p4⟩
  · rcases h2 i with e2 | ⟨b, ws, ws', p1, p2, p3, p4⟩
    · exact Or.inr ⟨a, vs, vs', q1, e2.trans q2, q3, q4⟩
    · cases q2.symm.trans p1
      exact Or.inr ⟨a, vs, ws', q1, p2, q3, p4⟩
theorem sf_setq {fr : va_W} {q : Nat} {x y : Nat × va_E} (h : fr[q]? = some x) : (fr.set q y)[q]? = some y := by
  have hl := (List.getElem?_eq_some_iff.mp h).1
  rw [List.getElem?_set_self hl]
theorem sf_ch.put {E : tp_Env} {fr : va_W} {q a : Nat} {vs vs' : List Value} (hq : fr[q]? = some (a, .inr (3, vs))) (h : sf_line E vs) (h' : sf_line E vs') : sf_ch E fr (fr.set q (a, .inr (3, vs'))) := fun i => by
  by_cases e : q = i
  · subst e
    exact Or.inr ⟨a, vs, vs', hq, sf_setq hq, h, h'⟩
  · exact Or.inl (List.getElem?_set_ne e)
theorem sf_isl.ch {E : tp_Env} {fr fr' : va_W} {a : Nat} (hc : sf_ch E fr fr') (h : sf_isl E fr a) : sf_isl E fr' a := by
  obtain ⟨q, vs, h1, h2⟩ := h
  rcases hc q with e | ⟨b, ws, ws', p1, p2, p3, p4⟩
  · exact ⟨q, vs, e.trans h1, h2⟩
  · cases h1.symm.trans p1
    exact ⟨q, ws', p2, p4⟩
theorem sf_rows.ch {E : tp_Env} {fr fr' : va_W} {e : Nat} {n : Int32} (hc : sf_ch E fr fr') (h : sf_rows E e n fr) : sf_rows E e n fr' := by
  rcases h with h | ⟨q, cap, f, h1, h2, h3, h4⟩
  · exact Or.inl h
  · refine Or.inr ⟨q, cap, f, ?_, h2, h3, fun k hk => ?_⟩
    · rcases hc q with e1 | ⟨b, ws, ws', p1, -⟩
      · exact e1.trans h1
      · cases h1.symm.trans p1
    · obtain ⟨a, g1, g2⟩ := h4 k hk
      exact ⟨a, g1, g2.ch hc⟩
theorem sf_isl.cons {E : tp_Env} {fr : va_W} {a : Nat} {c : Nat × va_E} (h : sf_isl E fr a) : sf_isl E (c :: fr) a := by
  obtain ⟨q, vs, h1, h2⟩ := h
  exact ⟨q + 1, vs, h1, h2⟩
theorem sf_rows.cons {E : tp_Env} {fr : va_W} {e : Nat} {n : Int32} {c : Nat × va_E} (h : sf_rows E e n fr) : sf_rows E e n (c :: fr) := by
  rcases h with h | ⟨q, cap, f, h1, h2, h3, h4⟩
  · exact Or.inl h
  · exact Or.inr ⟨q + 1, cap, f, h1, h2, h3, fun k hk => (h4 k hk).elim fun a g => ⟨a, g.1, g.2.cons⟩⟩
/-- a row that is there: the list has an array of its own -/
theorem sf_own {E : tp_Env} {fr : va_W} {e : Nat} {n k : Int32} (h : sf_rows E e n fr) (h0 : ¬ k < 0) (h1 : k < n) : ∃ (q cap : Nat) (f : Nat → Option Nat) (a : Nat), fr[q]? = some (e, .inl (tp_ty E 5, cap, .inr (.inr (.inr (.inr f))))) ∧ vp_in k cap ∧ f k.toNatClampNeg = some a ∧ sf_isl E fr a := by
  have g0 : 0 ≤ k.toInt := by
    have := Int32.le_iff_toInt_le.mp (Int32.not_lt.mp h0)
    rwa [Int32.toInt_zero] at this
  have g1 := Int32.lt_iff_toInt_lt.mp h1
  rcases h with ⟨-, rfl⟩ | ⟨q, cap, f, q1, q2, q3, q4⟩
  · rw [Int32.toInt_zero] at g1
    omega
  · obtain ⟨a, p1, p2⟩ := q4 k.toNatClampNeg (by show k.toInt.toNat < n.toInt.toNat; omega)
    exact ⟨q, cap, f, a, q1, vp_in_iff.mpr ⟨g0, by omega⟩, p1, p2⟩
theorem sf_nb {E : tp_Env} {fr : va_W} {e : Nat} {n : Int32} (h : sf_rows E e n fr) : 0 ≤ n.toInt ∧ n.toInt ≤ 16 := by
  rcases h with ⟨-, rfl⟩ | ⟨q, cap, f, q1, q2, q3, q4⟩
  · exact ⟨by decide, by decide⟩
  · exact ⟨q2.1, q2.2.1⟩
theorem sf_isl.un {E : tp_Env} {fr : va_W} {a : Nat} {c : Nat × va_E} (hc : ∀ vs : List Value, c.2 = .inr (3, vs) → False) (h : sf_isl E (c :: fr) a) : sf_isl E fr a := by
  obtain ⟨q, vs, h1, h2⟩ := h
  cases q with
  | zero => cases h1; exact (hc vs rfl).elim
  | succ q => exact ⟨q, vs, h1, h2⟩
/-- a cell that is no line stays in front -/
theorem sf_ch.un {E : tp_Env} {fr u : va_W} {c : Nat × va_E} (hc : ∀ vs : List Value, c.2 = .inr (3, vs) → False) (h : sf_ch E (c :: fr) u) : ∃ fr' : va_W, u = c :: fr' ∧ sf_ch E fr fr' := by
  have h0 : u[0]? = some c := by
    rcases h 0 with e | ⟨a, vs, vs', q1, -⟩
    · exact e
    · cases q1
      exact (hc vs rfl).elim
  cases u with
  | nil => cases h0
  | cons d fr' =>
    cases h0
    exact ⟨fr', rfl, fun i => h (i + 1)⟩
theorem sf_nm1 {r : Int32} (h : ¬ r < 0) : ¬ r = -1 := fun e => h (by rw [e]; decide)
theorem tp_K.opO {E : tp_Env} {A : Nat → Prop} {s : State} {H : Heap} {locs : List Loc} {i : Nat} (h : tp_K E A s s.heap) (hi : i < 47) (hS : va_S A s.heap H locs) : ∃ cell : Cell, H[tp_ad E i]? = some cell ∧ cell.vm.isStatics = false ∧ s.vm.findClass "TwoPass$Operation" = some cell.cls := by
  obtain ⟨cell, h1, h2, h3, -⟩ := va_O.kept (h.C.2.2.2.1.1.1 i hi).2.1 hS.2.1
  exact ⟨cell, h1, h2, h3⟩
theorem sf_nb01 {v : Int32} (h : v = 0 ∨ v = 1) : narrow .boolean (.int v) = .int v := by
  rcases h with rfl | rfl <;> rfl
theorem sf_le32 {r : Int32} (h : ¬ 32 < r) : r.toInt ≤ 32 := by
  have := Int32.le_iff_toInt_le.mp (Int32.not_lt.mp h)
  rwa [show (32 : Int32).toInt = 32 from rfl] at this
def sf_xn (n : Nat) : String := match n with
  | 0 => "java/lang/IllegalArgumentException"
  | 1 => "java/lang/IllegalStateException"
  | 2 => "java/util/NoSuchElementException"
  | 3 => "java/lang/UnsupportedOperationException"
  | _ => "java/lang/IndexOutOfBoundsException"
theorem sf_nb16 {E : tp_Env} {fr : va_W} {e : Nat} {n : Int32} (h : sf_rows E e n fr) : n.toInt.toNat ≤ 16 := by
  have := sf_nb h
  omega
theorem sf_mod {m : Int32} (h0 : ¬ m < 0) (h1 : ¬ 2 ≤ m) : m = 0 ∨ m = 1 := by
  have g0 := Int32.le_iff_toInt_le.mp (Int32.not_lt.mp h0)
  have g1 := Int32.lt_iff_toInt_lt.mp (Int32.not_le.mp h1)
  rw [Int32.toInt_zero] at g0
  rw [show (2 : Int32).toInt = 2 from rfl] at g1
  have h : m.toInt = 0 ∨ m.toInt = 1 := by omega
  rcases h with h | h
  · exact Or.inl (Int32.toInt_inj.mp (by rw [h]; rfl))
  · exact Or.inr (Int32.toInt_inj.mp (by rw [h]; rfl))
theorem sf_nomod {m : Int32} (h : m < 0 ∨ 2 ≤ m) : ¬ (m = 0 ∨ m = 1) := by
  rintro (rfl | rfl)
  · rcases h with h | h
    · exact absurd h (by decide)
    · exact absurd h (by decide)
  · rcases h with h | h
    · exact absurd h (by decide)
    · exact absurd h (by decide)
theorem sf_setid {fr : va_W} {q : Nat} {x : Nat × va_E} (h : fr[q]? = some x) : fr.set q x = fr := by
  obtain ⟨hl, hx⟩ := List.getElem?_eq_some_iff.mp h
  rw [← hx]
  exact List.set_getElem_self hl
theorem sf_set2 {fr g : va_W} {q : Nat} {x y : Nat × va_E} (h : g = fr.set q x) : g.set q y = fr.set q y := by
  rw [h, List.set_set]
theorem sf_kcap {n k : Int32} {cap : Nat} (hk : 0 ≤ k.toInt) (hn : n.toInt ≤ (cap : Int)) (h : ¬ n ≤ k) : vp_in k cap := by
  have := sf_lt h
  exact vp_in_iff.mpr ⟨hk, by omega⟩
abbrev sf_ar (E : tp_Env) (cap : Nat) (f : Nat → Option Nat) : va_E := .inl (tp_ty E 5, cap, .inr (.inr (.inr (.inr f))))
/-- the cells that the class may change among the others: lines, and lists' arrays -/
def sf_mine (E : tp_Env) (c : Nat × va_E) : Prop := (∃ vs : List Value, c.2 = .inr (3, vs)) ∨ ∃ (cap : Nat) (f : Nat → Option Nat), c.2 = sf_ar E cap f
def sf_ev (E : tp_Env) (fr u : va_W) : Prop := ∃ pre mid : va_W, u = pre ++ mid ∧ ∀ i : Nat, mid[i]? = fr[i]? ∨ ∃ c c' : Nat × va_E, fr[i]? = some c ∧ mid[i]? = some c' ∧ sf_mine E c
theorem sf_ev.rf {E : tp_Env} {fr : va_W} : sf_ev E fr fr := ⟨[], fr, rfl, fun _ => Or.inl rfl⟩
theorem sf_ev.ch {E : tp_Env} {fr u : va_W} (h : sf_ch E fr u) : sf_ev E fr u := ⟨[], u, rfl, fun i => (h i).imp id fun ⟨a, vs, vs', h1, h2, _, _⟩ => ⟨_, _, h1, h2, Or.inl ⟨vs, rfl⟩⟩⟩
theorem sf_ev.pre {E : tp_Env} {fr u : va_W} (p : va_W) (h : sf_ev E fr u) : sf_ev E fr (p ++ u) := by
  obtain ⟨pre, mid, rfl, h⟩ := h
  exact ⟨p ++ pre, mid, (List.append_assoc p pre mid).symm, h⟩
theorem sf_ev.arr {E : tp_Env} {fr : va_W} {q e cap : Nat} {f : Nat → Option Nat} {y : va_E} (h : fr[q]? = some (e, sf_ar E cap f)) : sf_ev E fr (fr.set q (e, y)) := ⟨[], _, rfl, fun i => by
  by_cases hi : q = i
  · subst hi
    exact Or.inr ⟨_, _, h, sf_setq h, Or.inr ⟨cap, f, rfl⟩⟩
  · exact Or.inl (List.getElem?_set_ne hi)⟩
def sf_two (E : tp_Env) (e0 : Nat) (n0 : Int32) (e1 : Nat) (n1 : Int32) (fr : va_W) : Prop := sf_rows E e0 n0 fr ∧ sf_rows E e1 n1 fr ∧ (e0 = e1 → e0 = tp_ad E 100 ∧ n0 = 0 ∧ n1 = 0)
theorem sf_isl.set {E : tp_Env} {fr : va_W} {q e cap a : Nat} {f : Nat → Option Nat} {y : va_E} (h : fr[q]? = some (e, sf_ar E cap f)) (hl : sf_isl E fr a) : sf_isl E (fr.set q (e, y)) a := by
  obtain ⟨k, vs, h1, h2⟩ := hl
  refine ⟨k, vs, ?_, h2⟩
  rw [List.getElem?_set_ne (fun e => ?_)]
  · exact h1
  · subst e
    cases h.symm.trans h1
theorem sf_rows.set {E : tp_Env} {fr : va_W} {q e e' cap : Nat} {n : Int32} {f : Nat → Option Nat} {y : va_E} (h : fr[q]? = some (e, sf_ar E cap f)) (hne : e ≠ e') (hr : sf_rows E e' n fr) : sf_rows E e' n (fr.set q (e, y)) := by
  rcases hr with hr | ⟨k, cap', g, h1, h2, h3, h4⟩
  · exact Or.inl hr
  · refine Or.inr ⟨k, cap', g, ?_, h2, h3, fun i hi => (h4 i hi).elim fun a ha => ⟨a, ha.1, ha.2.set h⟩⟩
    rw [List.getElem?_set_ne (fun e1 => ?_)]
    · exact h1
    · subst e1
      cases h.symm.trans h1
      exact hne rfl
theorem sf_rows.clr {E : tp_Env} {fr : va_W} {q e cap : Nat} {f g : Nat → Option Nat} (h : fr[q]? = some (e, sf_ar E cap f)) (hc : cap = 10 ∨ cap = 15 ∨ cap = 22) : sf_rows E e 0 (fr.set q (e, sf_ar E cap g)) :=
  Or.inr ⟨q, cap, g, sf_setq h, ⟨by decide, by decide, by rw [Int32.toInt_zero]; omega⟩, hc, fun k hk => absurd hk (by rw [Int32.toInt_zero]; exact Nat.not_lt_zero k)⟩
theorem sf_two.clr0 {E : tp_Env} {fr : va_W} {q e0 e1 cap : Nat} {n0 n1 : Int32} {f g : Nat → Option Nat} (ht : sf_two E e0 n0 e1 n1 fr) (h : fr[q]? = some (e0, sf_ar E cap f)) (hc : cap = 10 ∨ cap = 15 ∨ cap = 22) : sf_two E e0 0 e1 n1 (fr.set q (e0, sf_ar E cap g)) := by
  obtain ⟨h0, h1, h2⟩ := ht
  by_cases he : e0 = e1
  · obtain ⟨z1, z2, z3⟩ := h2 he
    exact ⟨sf_rows.clr h hc, Or.inl ⟨he ▸ z1, z3⟩, fun _ => ⟨z1, rfl, z3⟩⟩
  · exact ⟨sf_rows.clr h hc, h1.set h he, fun e => absurd e he⟩
theorem sf_two.clr1 {E : tp_Env} {fr : va_W} {q e0 e1 cap : Nat} {n0 n1 : Int32} {f g : Nat → Option Nat} (ht : sf_two E e0 n0 e1 n1 fr) (h : fr[q]? = some (e1, sf_ar E cap f)) (hc : cap = 10 ∨ cap = 15 ∨ cap = 22) : sf_two E e0 n0 e1 0 (fr.set q (e1, sf_ar E cap g)) := by
  obtain ⟨h0, h1, h2⟩ := ht
  by_cases he : e0 = e1
  · obtain ⟨z1, z2, z3⟩ := h2 he
    exact ⟨Or.inl ⟨z1, z2⟩, sf_rows.clr h hc, fun _ => ⟨z1, z2, rfl⟩⟩
  · exact ⟨h0.set h (fun e => he e.symm), sf_rows.clr h hc, fun e => absurd e he⟩
theorem sf_arv {s : State} {D : va_G} {cl : List vw_C} {ws : va_W} {H : Heap} {cA : ClassId} {a : Nat} {x : vp_A} (h : va_RA s cA (.object "java/lang/Object")) (hP : va_P D cl ws H) (q0 : Nat) (ha : ws[q0]? = some (a, .inl (cA, x))) : ∃ cell : Cell, H[a]? = some cell ∧ cell.vm.isStatics = false ∧ s.vm.findClass "[Ljava/lang/Object;" = some cell.cls := by
  have hvm0 : (vp_cell cA x).vm = .none := by
    obtain ⟨n, f | f | f | f | f⟩ := x <;> rfl
  have hcl0 : (vp_cell cA x).cls = cA := by
    obtain ⟨n, f | f | f | f | f⟩ := x <;> rfl
  exact ⟨vp_cell cA x, hP q0 _ ha, by rw [hvm0]; rfl, by rw [hcl0]; exact va_nmO h rfl⟩
theorem sf_hel {s : State} {E : tp_Env} {tys : List (ClassId × FieldType)} {ws : va_W} {H : Heap} {c : Nat} {f : Nat → Option Nat} (hK : va_K (tp_D E) tp_cl tys s) (hP : va_P (tp_D E) tp_cl ws H) (hli : ∀ k : Nat, k < c → ∃ a : Nat, f k = some a ∧ sf_isl E ws a) {sp n : Int32} (hs : sp.toNatClampNeg = 0 := by decide) (hn : n.toNatClampNeg = c := by decide) : ∀ i : Nat, i < n.toNatClampNeg → ∀ y : Nat, f (sp.toNatClampNeg + i) = some y → ∃ cellV : Cell, H[y]? = some cellV ∧ cellV.vm.isStatics = false ∧ s.vm.findClass "TwoPass$Line" = some cellV.cls := fun i hi y hy => by
  rw [hn] at hi
  rw [hs, Nat.zero_add] at hy
  obtain ⟨a, h1, q, vs, h2, -⟩ := hli i hi
  cases h1.symm.trans hy
  exact va_recv (ci := 3) (q0 := q) hK hP rfl h2
theorem sf_hasg {s : State} {args : Array Value} (h : (Cond.castable "TwoPass$Line" "java/lang/Object").before args s = true) : ∀ comp c0 : ClassId, s.vm.findClass "java/lang/Object" = some comp → s.vm.findClass "TwoPass$Line" = some c0 → s.vm.assignable c0 comp = true := fun comp c0 h1 h2 => by
  obtain ⟨c, t, g1, g2, g3⟩ := Cond.castable_spec h
  cases h2.symm.trans g1
  cases h1.symm.trans g2
  exact g3
theorem sf_lic {E : tp_Env} {fr : va_W} {c : Nat} {f : Nat → Option Nat} {x : Nat × va_E} (h : ∀ k : Nat, k < c → ∃ a : Nat, f k = some a ∧ sf_isl E fr a) : ∀ k : Nat, k < c → ∃ a : Nat, f k = some a ∧ sf_isl E (x :: fr) a := fun k hk => (h k hk).elim fun a ha => ⟨a, ha.1, ha.2.cons⟩
theorem sf_cpy0 {f g : Nat → Option Nat} {n k : Nat} (h : k < n) : va_cpy f g 0 0 n k = f k := by
  unfold va_cpy
  rw [if_pos ⟨Nat.zero_le k, by omega⟩, Nat.zero_add, Nat.sub_zero]
theorem sf_necap {n : Int32} {cap : Nat} (h : 0 ≤ n.toInt ∧ n.toInt < (cap : Int) ∧ cap ≤ 22) : ¬ n = (Int32.ofNat cap) := fun e => by
  have e2 : n.toInt = (cap : Int) := by rw [e]; exact tp_ofn (by omega)
  omega
theorem sf_incap {n : Int32} {cap : Nat} (h : 0 ≤ n.toInt ∧ n.toInt < (cap : Int) ∧ cap ≤ 22) : vp_in n cap := vp_in_iff.mpr ⟨h.1, h.2.1⟩
theorem sf_Y0 {c : Int32} (h : 0 ≤ c.toInt ∧ c.toInt ≤ 28) : sf_Y c 0 := by
  have h0 := Int32.toInt_zero
  exact ⟨by omega, by omega, by omega⟩
theorem sf_lt16 {n : Int32} (h : n < 16) : n.toInt < 16 := by
  have := Int32.lt_iff_toInt_lt.mp h
  rwa [show (16 : Int32).toInt = 16 from rfl] at this
theorem sf_room10 {n : Int32} (h : 0 ≤ n.toInt ∧ n.toInt ≤ ((10 : Nat) : Int) ∧ n.toInt ≤ 16) (hne : ¬ n = 10) : 0 ≤ n.toInt ∧ n.toInt < ((10 : Nat) : Int) ∧ 10 ≤ 22 := by
  have : ¬ n.toInt = 10 := fun e => hne (Int32.toInt_inj.mp (by rw [e]; rfl))
  omega
theorem sf_room15 {n : Int32} (h : 0 ≤ n.toInt ∧ n.toInt ≤ ((15 : Nat) : Int) ∧ n.toInt ≤ 16) (hne : ¬ n = 15) : 0 ≤ n.toInt ∧ n.toInt < ((15 : Nat) : Int) ∧ 15 ≤ 22 := by
  have : ¬ n.toInt = 15 := fun e => hne (Int32.toInt_inj.mp (by rw [e]; rfl))
  omega
theorem sf_room22 {n : Int32} (h : 0 ≤ n.toInt ∧ n.toInt ≤ ((22 : Nat) : Int) ∧ n.toInt ≤ 16) (hl : n < 16) : 0 ≤ n.toInt ∧ n.toInt < ((22 : Nat) : Int) ∧ 22 ≤ 22 := by
  have := sf_lt16 hl
  omega
theorem sf_newne {E : tp_Env} {A : Nat → Prop} {W fr : va_W} {q e : Nat} {x : va_E} {n : Int32} (hT : ¬ A (tp_ad E 100)) (hD : va_D A W) (i : Nat) (hi : W[i]? = some (q, x)) (hr : sf_rows E e n fr) (sh : Nat) (hsh : ∀ (k : Nat) (y : Nat × va_E), fr[k]? = some y → W[k + sh]? = some y) (hlt : i < sh) : q ≠ e := by
  rintro rfl
  rcases hr with ⟨rfl, -⟩ | ⟨k, cap, f, h1, -⟩
  · exact hT (hD.2 i _ hi)
  · have := hD.1 i (k + sh) _ _ hi (hsh k _ h1) rfl
    omega
theorem sf_rows.new {E : tp_Env} {fr : va_W} {q c2 c qn : Nat} {n : Int32} {g : Nat → Option Nat} {vs : List Value} (h1 : c2 = 10 ∨ c2 = 15 ∨ c2 = 22) (h2 : n.toInt = ((c + 1 : Nat) : Int)) (h3 : c + 1 ≤ 16) (h4 : c + 1 ≤ c2) (hold : ∀ k : Nat, k < c → ∃ a : Nat, g k = some a ∧ sf_isl E fr a) (hnew : g c = some qn) (hl : sf_line E vs) : sf_rows E q n ((q, sf_ar E c2 g) :: (qn, .inr (3, vs)) :: fr) := by
  refine Or.inr ⟨0, c2, g, rfl, ⟨by omega, by omega, by omega⟩, h1, fun k hk => ?_⟩
  rw [h2] at hk
  by_cases e : k = c
  · subst e
    exact ⟨qn, hnew, 1, vs, rfl, hl⟩
  · obtain ⟨a, p1, p2⟩ := hold k (by omega)
    exact ⟨a, p1, p2.cons.cons⟩
theorem sf_two.new0 {E : tp_Env} {fr : va_W} {q c2 c qn e0 e1 : Nat} {n n0 n1 : Int32} {g : Nat → Option Nat} {vs : List Value} (ht : sf_two E e0 n0 e1 n1 fr) (h1 : c2 = 10 ∨ c2 = 15 ∨ c2 = 22) (h2 : n.toInt = ((c + 1 : Nat) : Int)) (h3 : c + 1 ≤ 16) (h4 : c + 1 ≤ c2) (hold : ∀ k : Nat, k < c → ∃ a : Nat, g k = some a ∧ sf_isl E fr a) (hnew : g c = some qn) (hl : sf_line E vs) (hne : q ≠ e1) : sf_two E q n e1 n1 ((q, sf_ar E c2 g) :: (qn, .inr (3, vs)) :: fr) :=
  ⟨sf_rows.new h1 h2 h3 h4 hold hnew hl, ht.2.1.cons.cons, fun e => absurd e hne⟩
theorem sf_two.new1 {E : tp_Env} {fr : va_W} {q c2 c qn e0 e1 : Nat} {n n0 n1 : Int32} {g : Nat → Option Nat} {vs : List Value} (ht : sf_two E e0 n0 e1 n1 fr) (h1 : c2 = 10 ∨ c2 = 15 ∨ c2 = 22) (h2 : n.toInt = ((c + 1 : Nat) : Int)) (h3 : c + 1 ≤ 16) (h4 : c + 1 ≤ c2) (hold : ∀ k : Nat, k < c → ∃ a : Nat, g k = some a ∧ sf_isl E fr a) (hnew : g c = some qn) (hl : sf_line E vs) (hne : q ≠ e0) : sf_two E e0 n0 q n ((q, sf_ar E c2 g) :: (qn, .inr (3, vs)) :: fr) :=
  ⟨ht.1.cons.cons, sf_rows.new h1 h2 h3 h4 hold hnew hl, fun e => absurd e.symm hne⟩
theorem sf_rows.add {E : tp_Env} {fr : va_W} {q e cap qn : Nat} {n : Int32} {f : Nat → Option Nat} {vs : List Value} (h : fr[q]? = some (e, sf_ar E cap f)) (hc : cap = 10 ∨ cap = 15 ∨ cap = 22) (hn : 0 ≤ n.toInt ∧ n.toInt < (cap : Int) ∧ cap ≤ 22) (h16 : n.toInt < 16) (hro : ∀ k : Nat, k < n.toInt.toNat → ∃ a : Nat, f k = some a ∧ sf_isl E fr a) (hl : sf_line E vs) : sf_rows E e (n + 1) ((qn, .inr (3, vs)) :: fr.set q (e, sf_ar E cap (va_up f n.toNatClampNeg (some qn)))) := by
  have e1 : (n + 1).toInt = n.toInt + 1 := tp_inc (by omega)
  refine Or.inr ⟨q + 1, cap, _, sf_setq h, ⟨by omega, by omega, by omega⟩, hc, fun k hk => ?_⟩
  have e2 : n.toNatClampNeg = n.toInt.toNat := rfl
  by_cases e : k = n.toNatClampNeg
  · subst e
    exact ⟨qn, va_up_self _ _ _, 0, vs, rfl, hl⟩
  · obtain ⟨a, p1, p2⟩ := hro k (by omega)
    exact ⟨a, (va_up_ne _ _ e).trans p1, (p2.set h).cons⟩
theorem sf_two.add0 {E : tp_Env} {fr : va_W} {q e0 e1 cap qn : Nat} {n0 n1 : Int32} {f : Nat → Option Nat} {vs : List Value} (ht : sf_two E e0 n0 e1 n1 fr) (h : fr[q]? = some (e0, sf_ar E cap f)) (h100 : e0 ≠ tp_ad E 100) (hc : cap = 10 ∨ cap = 15 ∨ cap = 22) (hn : 0 ≤ n0.toInt ∧ n0.toInt < (cap : Int) ∧ cap ≤ 22) (_h : n0.toInt ≤ 16) (h16 : n0.toInt < 16) (hro : ∀ k : Nat, k < n0.toInt.toNat → ∃ a : Nat, f k = some a ∧ sf_isl E fr a) (hl : sf_line E vs) : sf_two E e0 (n0 + 1) e1 n1 ((qn, .inr (3, vs)) :: fr.set q (e0, sf_ar E cap (va_up f n0.toNatClampNeg (some qn)))) := by
  have hne : e0 ≠ e1 := fun e => h100 (ht.2.2 e).1
  exact ⟨sf_rows.add h hc hn h16 hro hl, (ht.2.1.set h hne).cons, fun e => absurd e hne⟩
theorem sf_two.add1 {E : tp_Env} {fr : va_W} {q e0 e1 cap qn : Nat} {n0 n1 : Int32} {f : Nat → Option Nat} {vs : List Value} (ht : sf_two E e0 n0 e1 n1 fr) (h : fr[q]? = some (e1, sf_ar E cap f)) (h100 : e1 ≠ tp_ad E 100) (hc : cap = 10 ∨ cap = 15 ∨ cap = 22) (hn : 0 ≤ n1.toInt ∧ n1.toInt < (cap : Int) ∧ cap ≤ 22) (_h : n1.toInt ≤ 16) (h16 : n1.toInt < 16) (hro : ∀ k : Nat, k < n1.toInt.toNat → ∃ a : Nat, f k = some a ∧ sf_isl E fr a) (hl : sf_line E vs) : sf_two E e0 n0 e1 (n1 + 1) ((qn, .inr (3, vs)) :: fr.set q (e1, sf_ar E cap (va_up f n1.toNatClampNeg (some qn)))) := by
  have hne : e1 ≠ e0 := fun e => h100 (e ▸ (ht.2.2 e.symm).1)
  exact ⟨(ht.1.set h hne).cons, sf_rows.add h hc hn h16 hro hl, fun e => absurd e.symm hne⟩
/-! the reference's side -/
def sf_mo (a b : Int32) : Prop := b = 0 → a = 0
theorem sf_mo.rf {a : Int32} : sf_mo a a := id
theorem sf_mo.one {a : Int32} : sf_mo a 1 := fun h => absurd h (by decide)
theorem sf_mo.trans {a b c : Int32} (h1 : sf_mo a b) (h2 : sf_mo b c) : sf_mo a c := fun h => h1 (h2 h)
def sf_L (n : Int32) : Prop := 0 ≤ n.toInt ∧ n.toInt ≤ 28
theorem sf_pk {r sz at_ c : Int32} (h : r = 0 ∨ ¬ sz ≤ at_) (hc : r = c) (h0 : ¬ c = 0) : ¬ sz ≤ at_ := by
  rcases h with h | h
  · exact absurd (hc.symm.trans h) h0
  · exact h
theorem sf_pk2 {r sz at_ : Int32} (h : r = 0 ∨ ¬ sz ≤ at_) (h0 : ¬ r = 0) : ¬ sz ≤ at_ := sf_pk h rfl h0
theorem sf_lt2 {q x : Int32} (h : q = 0 ∨ ¬ x = 0) (hq : ¬ q = 0) : ¬ x = 0 := h.resolve_left hq
theorem sf_q2 {q : Int32} {P : Prop} (h : q = 0 ∨ P) (hq : ¬ q = 0) : P := h.resolve_left hq
theorem sf_nz {x c : Int32} (h : ¬ x < c) (hc : (0 : Int32) < c) : ¬ x = 0 := fun e => h (by rw [e]; exact hc)
theorem sf_l0 {sz k : Int32} (h : sf_Y sz k) : 0 ≤ (0 : Int32).toInt ∧ (0 : Int32).toInt ≤ k.toInt := by
  obtain ⟨h1, h2, h3⟩ := h
  rw [Int32.toInt_zero]
  exact ⟨by decide, h1⟩
theorem sf_lin {sz k ln : Int32} (h : sf_Y sz k) (hl : 0 ≤ ln.toInt ∧ ln.toInt ≤ k.toInt) (hi : ¬ sz ≤ k) : vp_in ln 28 := by
  obtain ⟨h1, h2, h3⟩ := h
  have := sf_lt hi
  exact vp_in_iff.mpr ⟨hl.1, by omega⟩
theorem sf_l1 {sz k ln : Int32} (h : sf_Y sz k) (hl : 0 ≤ ln.toInt ∧ ln.toInt ≤ k.toInt) (hi : ¬ sz ≤ k) : 0 ≤ (ln + 1).toInt ∧ (ln + 1).toInt ≤ (k + 1).toInt := by
  obtain ⟨h1, h2, h3⟩ := h
  have := sf_lt hi
  have e1 : (k + 1).toInt = k.toInt + 1 := tp_inc (by omega)
  have e2 : (ln + 1).toInt = ln.toInt + 1 := tp_inc (by omega)
  omega
theorem sf_lL {sz k ln : Int32} (h : sf_Y sz k) (hl : 0 ≤ ln.toInt ∧ ln.toInt ≤ k.toInt) : sf_L ln := by
  obtain ⟨h1, h2, h3⟩ := h
  exact ⟨hl.1, by omega⟩
theorem sf_Lin {n k : Int32} (h : sf_L n) (hk : 0 ≤ k.toInt) (hl : ¬ n ≤ k) : vp_in k 28 := by
  obtain ⟨h1, h2⟩ := h
  have := sf_lt hl
  exact vp_in_iff.mpr ⟨hk, by omega⟩
theorem sf_jn {n k : Int32} : k.toInt + (((n.toInt - k.toInt).toNat : Nat) : Int) = n.toInt ∨ (n.toInt ≤ k.toInt ∧ (n.toInt - k.toInt).toNat = 0) := by omega
theorem sf_kn {n k : Int32} {j : Nat} (hk : 0 ≤ k.toInt) (hn : n.toInt ≤ 1000) (hl : ¬ n ≤ k) (hj : k.toInt + (j : Int) = n.toInt ∨ (n.toInt ≤ k.toInt ∧ j = 0)) : (k + 1).toInt + ((j - 1 : Nat) : Int) = n.toInt ∨ (n.toInt ≤ (k + 1).toInt ∧ j - 1 = 0) := by
  have e := sf_ki hk hn hl
  have := sf_lt hl
  omega
theorem sf_jq {n k : Int32} {j : Nat} (hl : ¬ n ≤ k) (hj : k.toInt + (j : Int) = n.toInt ∨ (n.toInt ≤ k.toInt ∧ j = 0)) : j - 1 < j := by
  have := sf_lt hl
  omega
theorem sf_one {b : Int32} (h : b = 1) : ¬ b = 0 := fun e => absurd (h.symm.trans e) (by decide)
theorem sf_in46 {k : Int32} (hk : 0 ≤ k.toInt) (h : ¬ (46 : Int32) ≤ k) : vp_in k 46 := by
  have := sf_lt h
  rw [show (46 : Int32).toInt = 46 from rfl] at this
  exact vp_in_iff.mpr ⟨hk, by omega⟩
theorem sf_fd {f : Int32} (h : f = -1 ∨ (0 ≤ f.toInt ∧ f.toInt < 46)) (hn : ¬ f < 0) : vp_in f 46 := by
  rcases h with rfl | h
  · exact absurd (by decide) hn
  · exact vp_in_iff.mpr ⟨h.1, by omega⟩
theorem sf_kib {n k : Int32} (hk : 0 ≤ k.toInt) (hn : n.toInt ≤ 100000) (hl : ¬ n ≤ k) : (k + 1).toInt = k.toInt + 1 := by
  have := sf_lt hl
  exact tp_inc (by omega)
theorem sf_k0b {n k : Int32} (hk : 0 ≤ k.toInt) (hn : n.toInt ≤ 100000) (hl : ¬ n ≤ k) : 0 ≤ (k + 1).toInt := by
  have e := sf_kib hk hn hl
  omega
theorem sf_knb {n k : Int32} {j : Nat} (hk : 0 ≤ k.toInt) (hn : n.toInt ≤ 100000) (hl : ¬ n ≤ k) (hj : k.toInt + (j : Int) = n.toInt ∨ (n.toInt ≤ k.toInt ∧ j = 0)) : (k + 1).toInt + ((j - 1 : Nat) : Int) = n.toInt ∨ (n.toInt ≤ (k + 1).toInt ∧ j - 1 = 0) := by
  have e := sf_kib hk hn hl
  have := sf_lt hl
  omega
def sf_C (f : Nat → Int32) : Prop := (0 ≤ (f 0).toInt ∧ (f 0).toInt ≤ 16) ∧ (0 ≤ (f 1).toInt ∧ (f 1).toInt ≤ 16)
def sf_th (f : Nat → Int32) (y : Nat) : Prop := ((y % 16 : Nat) : Int) < (f (y / 16)).toInt
def sf_VB (c fo : Nat → Int32) (vo : Nat → Int64) : Prop := ∀ y : Nat, y < 32 → sf_th c y → fo y = 13 → ¬ vo y < 0 ∧ ¬ 6000 < vo y
def sf_isW (f : Int32) : Prop := f = 7 ∨ f = 8 ∨ f = 10
def sf_T (t : Int32) : Prop := 0 ≤ t.toInt ∧ t.toInt < 32
theorem sf_16k {k n : Int32} (hk : 0 ≤ k.toInt) (hn : n.toInt ≤ 16) (h : ¬ n ≤ k) : (16 + k).toInt = 16 + k.toInt := by
  have := sf_lt h
  have e : (16 + k).toInt = (16 : Int32).toInt + k.toInt := tp_addI (by rw [show (16 : Int32).toInt = 16 from rfl]; omega) (by rw [show (16 : Int32).toInt = 16 from rfl]; omega)
  rw [e]; rfl
theorem sf_0k {k : Int32} : (0 + k) = k := Int32.zero_add k
theorem sf_xr0 {k n : Int32} (hk : 0 ≤ k.toInt) (hn : n.toInt ≤ 16) (h : ¬ n ≤ k) : 0 ≤ (0 + k).toInt ∧ (0 + k).toInt < 32 := by
  have := sf_lt h
  rw [sf_0k]
  omega
theorem sf_xr1 {k n : Int32} (hk : 0 ≤ k.toInt) (hn : n.toInt ≤ 16) (h : ¬ n ≤ k) : 0 ≤ (16 + k).toInt ∧ (16 + k).toInt < 32 := by
  have := sf_lt h
  rw [sf_16k hk hn h]
  omega
theorem sf_in32 {x : Int32} (h : 0 ≤ x.toInt ∧ x.toInt < 32) : vp_in x 32 := vp_in_iff.mpr ⟨h.1, by have := h.2; omega⟩
theorem sf_x0 {k n : Int32} (hk : 0 ≤ k.toInt) (hn : n.toInt ≤ 16) (h : ¬ n ≤ k) : vp_in (0 + k) 32 := sf_in32 (sf_xr0 hk hn h)
theorem sf_x1 {k n : Int32} (hk : 0 ≤ k.toInt) (hn : n.toInt ≤ 16) (h : ¬ n ≤ k) : vp_in (16 + k) 32 := sf_in32 (sf_xr1 hk hn h)
theorem sf_w14 {f : Int32} (h : f = 14) : ¬ sf_isW f := by
  rintro (e | e | e) <;> exact absurd (h.symm.trans e) (by decide)
theorem sf_nw {f : Int32} (h1 : ¬ f = 7) (h2 : ¬ f = 8) (h3 : ¬ f = 10) : ¬ sf_isW f := by
  rintro (e | e | e)
  · exact h1 e
  · exact h2 e
  · exact h3 e
theorem sf_ups {f : Nat → Int32} {k : Nat} {v : Int32} : upd f k v k = v := if_pos rfl
theorem sf_upne {f : Nat → Int32} {k j : Nat} {v : Int32} (h : ¬ j = k) : upd f k v j = f j := if_neg h
theorem sf_upLs {f : Nat → Int64} {k : Nat} {v : Int64} : vp_updL f k v k = v := if_pos rfl
theorem sf_upLne {f : Nat → Int64} {k j : Nat} {v : Int64} (h : ¬ j = k) : vp_updL f k v j = f j := if_neg h
theorem sf_upT {f : Nat → Int32} {k : Nat} {v : Int32} (hv : v = -1 ∨ (0 ≤ v.toInt ∧ v.toInt < 32)) (hn : ¬ upd f k v k < 0) : sf_T (upd f k v k) := by
  rw [sf_ups] at hn ⊢
  rcases hv with rfl | hv
  · exact absurd (by decide) hn
  · exact hv
def sf_low (v : Int64) : Int32 := if (v &&& 4095).toInt32 ≤ 2047 then (v &&& 4095).toInt32 else (v &&& 4095).toInt32 - 4096
theorem sf_low1 {v : Int64} (h : ¬ (v &&& 4095).toInt32 ≤ 2047) : (v &&& 4095).toInt32 - 4096 = sf_low v := (if_neg h).symm
theorem sf_low0 {v : Int64} (h : (v &&& 4095).toInt32 ≤ 2047) : (v &&& 4095).toInt32 = sf_low v := (if_pos h).symm
def sf_by (f : Int32) (v : Int64) (fa : Int32) : Int32 := if f = 0 then 0 else if f = 14 then 0 else if f = 12 then 1 else if f = 13 then v.toInt32 else if f = 9 then (if v < -2048 then (if sf_low v = 0 then 4 else 8) else if 2047 < v then (if sf_low v = 0 then 4 else 8) else 4) else if f = 10 then 8 else if f = 7 then (if fa = 0 then 4 else 8) else 4
theorem sf_div16 {x : Int32} (h : 0 ≤ x.toInt ∧ x.toInt < 32) : (x / 16).toInt = x.toInt / 16 := by
  rw [Int32.toInt_div, show (16 : Int32).toInt = 16 from rfl, Int.tdiv_eq_ediv_of_nonneg h.1]
  exact Int.bmod_eq_of_le (by omega) (by omega)
theorem sf_in2 {x : Int32} (h : 0 ≤ x.toInt ∧ x.toInt < 32) : vp_in (x / 16) 2 := vp_in_iff.mpr (by rw [sf_div16 h]; omega)
theorem sf_rem16 {x : Int32} (h : 0 ≤ x.toInt ∧ x.toInt < 32) : (x - x / 16 * 16).toInt = x.toInt % 16 := by
  have e := sf_div16 h
  have e2 : (x / 16 * 16).toInt = x.toInt / 16 * 16 := by
    rw [tp_mulI (by rw [e, show (16 : Int32).toInt = 16 from rfl]; omega) (by rw [e, show (16 : Int32).toInt = 16 from rfl]; omega), e]; rfl
  rw [tp_subI (by rw [e2]; omega) (by rw [e2]; omega), e2]
  omega
theorem sf_n16 {x : Int32} (h : 0 ≤ x.toInt ∧ x.toInt < 32) : (x / 16).toNatClampNeg = x.toNatClampNeg / 16 ∧ ((x.toNatClampNeg % 16 : Nat) : Int) = x.toInt % 16 := by
  have e := sf_div16 h
  have e1 : (x / 16).toNatClampNeg = (x / 16).toInt.toNat := rfl
  have e2 : x.toNatClampNeg = x.toInt.toNat := rfl
  rw [e1, e2, e]
  omega
theorem sf_th1 {c : Nat → Int32} {x : Int32} (h : 0 ≤ x.toInt ∧ x.toInt < 32) (hl : ¬ c (x / 16).toNatClampNeg ≤ x - x / 16 * 16) : sf_th c x.toNatClampNeg := by
  have h1 := sf_lt hl
  obtain ⟨e1, e2⟩ := sf_n16 h
  rw [sf_rem16 h, e1] at h1
  unfold sf_th
  omega
theorem sf_th2 {c : Nat → Int32} {x : Int32} (h : 0 ≤ x.toInt ∧ x.toInt < 32) (hl : c (x / 16).toNatClampNeg ≤ x - x / 16 * 16) : ¬ sf_th c x.toNatClampNeg := by
  have h1 := Int32.le_iff_toInt_le.mp hl
  obtain ⟨e1, e2⟩ := sf_n16 h
  rw [sf_rem16 h, e1] at h1
  unfold sf_th
  omega
theorem sf_r4 {p : Int32} (h0 : 0 ≤ p.toInt) (h1 : p.toInt ≤ 1000000) : p.toInt ≤ ((p + 3) / 4 * 4).toInt ∧ ((p + 3) / 4 * 4).toInt ≤ p.toInt + 3 := by
  have e1 : (p + 3).toInt = p.toInt + 3 := by
    rw [tp_addI (by rw [show (3 : Int32).toInt = 3 from rfl]; omega) (by rw [show (3 : Int32).toInt = 3 from rfl]; omega)]; rfl
  have e2 : ((p + 3) / 4).toInt = (p.toInt + 3) / 4 := by
    rw [Int32.toInt_div, e1, show (4 : Int32).toInt = 4 from rfl, Int.tdiv_eq_ediv_of_nonneg (by omega)]
    exact Int.bmod_eq_of_le (by omega) (by omega)
  have e3 : ((p + 3) / 4 * 4).toInt = (p.toInt + 3) / 4 * 4 := by
    rw [tp_mulI (by rw [e2, show (4 : Int32).toInt = 4 from rfl]; omega) (by rw [e2, show (4 : Int32).toInt = 4 from rfl]; omega), e2]; rfl
  omega
theorem sf_l6000 {v : Int64} (h : ¬ v < 0 ∧ ¬ 6000 < v) : 0 ≤ v.toInt32.toInt ∧ v.toInt32.toInt ≤ 6000 := by
  have h1 := Int64.le_iff_toInt_le.mp (Int64.not_lt.mp h.1)
  have h2 := Int64.le_iff_toInt_le.mp (Int64.not_lt.mp h.2)
  rw [show (0 : Int64).toInt = 0 from rfl] at h1
  rw [show (6000 : Int64).toInt = 6000 from rfl] at h2
  have e : v.toInt32.toInt = v.toInt := by
    rw [Int64.toInt_toInt32]
    exact Int.bmod_eq_of_le (by omega) (by omega)
  omega
theorem sf_byB {f fa : Int32} {v : Int64} (h : f = 13 → ¬ v < 0 ∧ ¬ 6000 < v) : 0 ≤ (sf_by f v fa).toInt ∧ (sf_by f v fa).toInt ≤ 6000 := by
  unfold sf_by
  split
  · decide
  split
  · decide
  split
  · decide
  split
  · rename_i h13
    exact sf_l6000 (h h13)
  split
  · split
    · split <;> decide
    · split
      · split <;> decide
      · decide
  split
  · decide
  split
  · split <;> decide
  · decide
def sf_pb (fo : Nat → Int32) (vo : Nat → Int64) (fa fP : Nat → Int32) (p : Int32) (y : Nat) : Prop := 0 ≤ (fP y).toInt ∧ (fP y).toInt + (sf_by (fo y) (vo y) (fa y)).toInt ≤ p.toInt
def sf_p0 (_c fo : Nat → Int32) (vo : Nat → Int64) (fa fP : Nat → Int32) (p k : Int32) : Prop := (k.toInt ≤ 16 ∧ 0 ≤ p.toInt ∧ p.toInt ≤ 6010 * k.toInt) ∧ ∀ y : Nat, (y : Int) < k.toInt → sf_pb fo vo fa fP p y
def sf_p1 (c fo : Nat → Int32) (vo : Nat → Int64) (fa fP : Nat → Int32) (p k : Int32) : Prop := (k.toInt ≤ 16 ∧ 0 ≤ p.toInt ∧ p.toInt ≤ 6010 * (16 + k.toInt) + 3) ∧ ∀ y : Nat, ((y : Int) < (c 0).toInt ∨ (16 ≤ y ∧ (y : Int) < 16 + k.toInt)) → sf_pb fo vo fa fP p y
def sf_lay (c fo : Nat → Int32) (vo : Nat → Int64) (fa fP : Nat → Int32) (p : Int32) : Prop := (0 ≤ p.toInt ∧ p.toInt ≤ 300000) ∧ ∀ y : Nat, y < 32 → sf_th c y → sf_pb fo vo fa fP p y
theorem sf_p0z {c fo : Nat → Int32} {vo : Nat → Int64} {fa fP : Nat → Int32} : sf_p0 c fo vo fa fP 0 0 := ⟨⟨by decide, by decide, by decide⟩, fun y hy => by rw [Int32.toInt_zero] at hy; omega⟩
theorem sf_pbs {fo : Nat → Int32} {vo : Nat → Int64} {fa fP : Nat → Int32} {p q : Int32} {x y : Nat} {v : Int32} (h : sf_pb fo vo fa fP p y) (hne : ¬ y = x) (hq : p.toInt ≤ q.toInt) : sf_pb fo vo fa (upd fP x v) q y := by
  unfold sf_pb at h ⊢
  rw [sf_upne hne]
  exact ⟨h.1, by omega⟩
theorem sf_p0g {c fo : Nat → Int32} {vo : Nat → Int64} {fa fP : Nat → Int32} {p q k r : Int32} (hC : sf_C c) (hV : sf_VB c fo vo) (hk : 0 ≤ k.toInt) (h : ¬ c 0 ≤ k) (hp : sf_p0 c fo vo fa fP p k) (hr : r = sf_by (fo (0 + k).toNatClampNeg) (vo (0 + k).toNatClampNeg) (fa (0 + k).toNatClampNeg)) (hq : p.toInt ≤ q.toInt ∧ q.toInt ≤ p.toInt + 3) : sf_p0 c fo vo fa (upd fP (0 + k).toNatClampNeg q) (q + r) (k + 1) := by
  have h1 := sf_lt h
  have h2 := hC.1.2
  rw [sf_0k] at hr ⊢
  have hx : k.toNatClampNeg = k.toInt.toNat := rfl
  have ek : (k + 1).toInt = k.toInt + 1 := tp_inc (by omega)
  have hb := sf_byB (fa := fa k.toNatClampNeg) (hV k.toNatClampNeg (by omega) (by unfold sf_th; rw [show k.toNatClampNeg / 16 = 0 by omega]; omega))
  rw [← hr] at hb
  obtain ⟨⟨p1, p2, p3⟩, p4⟩ := hp
  have e : (q + r).toInt = q.toInt + r.toInt := tp_addI (by omega) (by omega)
  refine ⟨⟨by omega, by omega, by omega⟩, fun y hy => ?_⟩
  by_cases hy2 : y = k.toNatClampNeg
  · subst hy2
    unfold sf_pb
    rw [sf_ups, ← hr]
    omega
  · exact sf_pbs (p4 y (by omega)) hy2 (by omega)
theorem sf_p0s {c fo : Nat → Int32} {vo : Nat → Int64} {fa fP : Nat → Int32} {p k r : Int32} (hC : sf_C c) (hV : sf_VB c fo vo) (hk : 0 ≤ k.toInt) (h : ¬ c 0 ≤ k) (hp : sf_p0 c fo vo fa fP p k) (hr : r = sf_by (fo (0 + k).toNatClampNeg) (vo (0 + k).toNatClampNeg) (fa (0 + k).toNatClampNeg)) : sf_p0 c fo vo fa (upd fP (0 + k).toNatClampNeg p) (p + r) (k + 1) := sf_p0g hC hV hk h hp hr ⟨by omega, by omega⟩
theorem sf_p0sa {c fo : Nat → Int32} {vo : Nat → Int64} {fa fP : Nat → Int32} {p k r : Int32} (hC : sf_C c) (hV : sf_VB c fo vo) (hk : 0 ≤ k.toInt) (h : ¬ c 0 ≤ k) (hp : sf_p0 c fo vo fa fP p k) (hr : r = sf_by (fo (0 + k).toNatClampNeg) (vo (0 + k).toNatClampNeg) (fa (0 + k).toNatClampNeg)) : sf_p0 c fo vo fa (upd fP (0 + k).toNatClampNeg ((p + 3) / 4 * 4)) ((p + 3) / 4 * 4 + r) (k + 1) := sf_p0g hC hV hk h hp hr (sf_r4 hp.1.2.1 (by have := hp.1; omega))
theorem sf_p1z {c fo : Nat → Int32} {vo : Nat → Int64} {fa fP : Nat → Int32} {p k : Int32} (hC : sf_C c) (hp : sf_p0 c fo vo fa fP p k) (h : c 0 ≤ k) : sf_p1 c fo vo fa fP ((p + 3) / 4 * 4) 0 := by
  obtain ⟨⟨p1, p2, p3⟩, p4⟩ := hp
  have h1 := Int32.le_iff_toInt_le.mp h
  have h4 := sf_r4 p2 (by omega)
  refine ⟨⟨by decide, by omega, by rw [Int32.toInt_zero]; omega⟩, fun y hy => ?_⟩
  rw [Int32.toInt_zero] at hy
  have h5 := p4 y (by omega)
  exact ⟨h5.1, by have := h5.2; omega⟩
theorem sf_p1g {c fo : Nat → Int32} {vo : Nat → Int64} {fa fP : Nat → Int32} {p q k r : Int32} (hC : sf_C c) (hV : sf_VB c fo vo) (hk : 0 ≤ k.toInt) (h : ¬ c 1 ≤ k) (hp : sf_p1 c fo vo fa fP p k) (hr : r = sf_by (fo (16 + k).toNatClampNeg) (vo (16 + k).toNatClampNeg) (fa (16 + k).toNatClampNeg)) (hq : p.toInt ≤ q.toInt ∧ q.toInt ≤ p.toInt + 3) : sf_p1 c fo vo fa (upd fP (16 + k).toNatClampNeg q) (q + r) (k + 1) := by
  have h1 := sf_lt h
  have h2 := hC.2.2
  have h0 := hC.1.2
  have hx0 := sf_16k hk h2 h
  have hx : (16 + k).toNatClampNeg = (16 + k).toInt.toNat := rfl
  have ek : (k + 1).toInt = k.toInt + 1 := tp_inc (by omega)
  have hb := sf_byB (fa := fa (16 + k).toNatClampNeg) (hV (16 + k).toNatClampNeg (by omega) (by unfold sf_th; rw [show (16 + k).toNatClampNeg / 16 = 1 by omega]; omega))
  rw [← hr] at hb
  obtain ⟨⟨p1, p2, p3⟩, p4⟩ := hp
  have e : (q + r).toInt = q.toInt + r.toInt := tp_addI (by omega) (by omega)
  refine ⟨⟨by omega, by omega, by omega⟩, fun y hy => ?_⟩
  by_cases hy2 : y = (16 + k).toNatClampNeg
  · subst hy2
    unfold sf_pb
    rw [sf_ups, ← hr]
    omega
  · exact sf_pbs (p4 y (by omega)) hy2 (by omega)
theorem sf_p1s {c fo : Nat → Int32} {vo : Nat → Int64} {fa fP : Nat → Int32} {p k r : Int32} (hC : sf_C c) (hV : sf_VB c fo vo) (hk : 0 ≤ k.toInt) (h : ¬ c 1 ≤ k) (hp : sf_p1 c fo vo fa fP p k) (hr : r = sf_by (fo (16 + k).toNatClampNeg) (vo (16 + k).toNatClampNeg) (fa (16 + k).toNatClampNeg)) : sf_p1 c fo vo fa (upd fP (16 + k).toNatClampNeg p) (p + r) (k + 1) := sf_p1g hC hV hk h hp hr ⟨by omega, by omega⟩
theorem sf_p1sa {c fo : Nat → Int32} {vo : Nat → Int64} {fa fP : Nat → Int32} {p k r : Int32} (hC : sf_C c) (hV : sf_VB c fo vo) (hk : 0 ≤ k.toInt) (h : ¬ c 1 ≤ k) (hp : sf_p1 c fo vo fa fP p k) (hr : r = sf_by (fo (16 + k).toNatClampNeg) (vo (16 + k).toNatClampNeg) (fa (16 + k).toNatClampNeg)) : sf_p1 c fo vo fa (upd fP (16 + k).toNatClampNeg ((p + 3) / 4 * 4)) ((p + 3) / 4 * 4 + r) (k + 1) := sf_p1g hC hV hk h hp hr (sf_r4 hp.1.2.1 (by have := hp.1; omega))
theorem sf_layE {c fo : Nat → Int32} {vo : Nat → Int64} {fa fP : Nat → Int32} {p k : Int32} (hC : sf_C c) (hp : sf_p1 c fo vo fa fP p k) (h : c 1 ≤ k) : sf_lay c fo vo fa fP p := by
  obtain ⟨⟨p1, p2, p3⟩, p4⟩ := hp
  have h1 := Int32.le_iff_toInt_le.mp h
  refine ⟨⟨p2, by omega⟩, fun y hy ht => p4 y ?_⟩
  unfold sf_th at ht
  by_cases h16 : y < 16
  · rw [show y / 16 = 0 by omega] at ht
    omega
  · rw [show y / 16 = 1 by omega] at ht
    omega
