/-! worlds whose other cells went on -/
theorem sf_nm0 {E : tp_Env} : ∀ c ∈ ([] : va_W), ¬ sf_mine E c := fun c hc => absurd hc List.not_mem_nil
theorem sf_nmc {E : tp_Env} {c : Nat × va_E} {Y : va_W} (h : ¬ sf_mine E c) (hY : ∀ c ∈ Y, ¬ sf_mine E c) : ∀ d ∈ c :: Y, ¬ sf_mine E d := fun d hd => (List.mem_cons.mp hd).elim (fun e => e ▸ h) (hY d)
theorem sf_nmI {E : tp_Env} {a n : Nat} {k : ClassId} {f : Nat → Int32} {Y : va_W} (hY : ∀ c ∈ Y, ¬ sf_mine E c) : ∀ d ∈ (a, .inl (k, n, .inl f)) :: Y, ¬ sf_mine E d := sf_nmc (by rintro (⟨vs, h⟩ | ⟨cap, g, h⟩) <;> cases h) hY
theorem sf_nmJ {E : tp_Env} {a n : Nat} {k : ClassId} {f : Nat → Int64} {Y : va_W} (hY : ∀ c ∈ Y, ¬ sf_mine E c) : ∀ d ∈ (a, .inl (k, n, .inr (.inl f))) :: Y, ¬ sf_mine E d := sf_nmc (by rintro (⟨vs, h⟩ | ⟨cap, g, h⟩) <;> cases h) hY
theorem sf_nmO {E : tp_Env} {a k : Nat} {vs : List Value} {Y : va_W} (hk : ¬ k = 3) (hY : ∀ c ∈ Y, ¬ sf_mine E c) : ∀ d ∈ (a, .inr (k, vs)) :: Y, ¬ sf_mine E d := sf_nmc (fun hm => hm.elim (fun ⟨ws, h⟩ => hk (by cases h; rfl)) (fun ⟨cap, g, h⟩ => by cases h)) hY
theorem sf_midY {E : tp_Env} : ∀ (Y fr mid : va_W), (∀ c ∈ Y, ¬ sf_mine E c) → (∀ i : Nat, mid[i]? = (Y ++ fr)[i]? ∨ ∃ c c' : Nat × va_E, (Y ++ fr)[i]? = some c ∧ mid[i]? = some c' ∧ sf_mine E c) → ∃ Z : va_W, mid = Y ++ Z ∧ ∀ i : Nat, Z[i]? = fr[i]? ∨ ∃ c c' : Nat × va_E, fr[i]? = some c ∧ Z[i]? = some c' ∧ sf_mine E c
  | [], fr, mid, _, h => ⟨mid, rfl, h⟩
  | y :: Y, fr, mid, hY, h => by
    have h0 : mid[0]? = some y := by
      rcases h 0 with e | ⟨c, c', q1, q2, q3⟩
      · exact e
      · cases q1
        exact absurd q3 (hY y List.mem_cons_self)
    cases mid with
    | nil => cases h0
    | cons d mid =>
      cases h0
      obtain ⟨Z, e, hZ⟩ := sf_midY Y fr mid (fun c hc => hY c (List.mem_cons_of_mem _ hc)) (fun i => h (i + 1))
      exact ⟨Z, by rw [e]; rfl, hZ⟩
theorem sf_evY {E : tp_Env} {Y fr u : va_W} (hY : ∀ c ∈ Y, ¬ sf_mine E c) (h : sf_ev E (Y ++ fr) u) : ∃ pre Z : va_W, u = pre ++ (Y ++ Z) ∧ sf_ev E fr (pre ++ Z) := by
  obtain ⟨pre, mid, rfl, h⟩ := h
  obtain ⟨Z, rfl, hZ⟩ := sf_midY Y fr mid hY h
  exact ⟨pre, Z, rfl, pre, Z, rfl, hZ⟩
theorem sf_chY {E : tp_Env} {Y fr u : va_W} (hY : ∀ c ∈ Y, ¬ sf_mine E c) (h : sf_ch E (Y ++ fr) u) : ∃ Z : va_W, u = Y ++ Z ∧ sf_ch E fr Z := by
  induction Y generalizing u with
  | nil => exact ⟨u, rfl, h⟩
  | cons y Y ih =>
    obtain ⟨u', rfl, h'⟩ := sf_ch.un (fun vs hv => hY y List.mem_cons_self (Or.inl ⟨vs, hv⟩)) h
    obtain ⟨Z, rfl, hZ⟩ := ih (fun c hc => hY c (List.mem_cons_of_mem _ hc)) h'
    exact ⟨Z, rfl, hZ⟩
theorem sf_memY {E : tp_Env} {pre Y Z : va_W} {x : Nat × va_E} {q : Nat} (hY : ∀ c ∈ Y, ¬ sf_mine E c) (hx : sf_mine E x) (h : (pre ++ (Y ++ Z))[q]? = some x) : ∃ k : Nat, (pre ++ Z)[k]? = some x := by
  have hm := List.mem_of_getElem? h
  rw [List.mem_append, List.mem_append] at hm
  have hm2 : x ∈ pre ++ Z := by
    rcases hm with h1 | h1 | h1
    · exact List.mem_append.mpr (Or.inl h1)
    · exact absurd hx (hY x h1)
    · exact List.mem_append.mpr (Or.inr h1)
  exact List.getElem?_of_mem hm2
theorem sf_islY {E : tp_Env} {pre Y Z : va_W} {a : Nat} (hY : ∀ c ∈ Y, ¬ sf_mine E c) (h : sf_isl E (pre ++ (Y ++ Z)) a) : sf_isl E (pre ++ Z) a := by
  obtain ⟨q, vs, h1, h2⟩ := h
  obtain ⟨k, hk⟩ := sf_memY hY (Or.inl ⟨vs, rfl⟩) h1
  exact ⟨k, vs, hk, h2⟩
theorem sf_rowsY {E : tp_Env} {pre Y Z : va_W} {e : Nat} {n : Int32} (hY : ∀ c ∈ Y, ¬ sf_mine E c) (h : sf_rows E e n (pre ++ (Y ++ Z))) : sf_rows E e n (pre ++ Z) := by
  rcases h with h | ⟨q, cap, f, h1, h2, h3, h4⟩
  · exact Or.inl h
  · obtain ⟨k, hk⟩ := sf_memY hY (Or.inr ⟨cap, f, rfl⟩) h1
    exact Or.inr ⟨k, cap, f, hk, h2, h3, fun i hi => (h4 i hi).elim fun a ha => ⟨a, ha.1, sf_islY hY ha.2⟩⟩
theorem sf_twoY {E : tp_Env} {pre Y Z : va_W} {e0 e1 : Nat} {n0 n1 : Int32} (hY : ∀ c ∈ Y, ¬ sf_mine E c) (h : sf_two E e0 n0 e1 n1 (pre ++ (Y ++ Z))) : sf_two E e0 n0 e1 n1 (pre ++ Z) := ⟨sf_rowsY hY h.1, sf_rowsY hY h.2.1, h.2.2⟩
theorem sf_two.cons {E : tp_Env} {fr : va_W} {e0 e1 : Nat} {n0 n1 : Int32} {c : Nat × va_E} (h : sf_two E e0 n0 e1 n1 fr) : sf_two E e0 n0 e1 n1 (c :: fr) := ⟨h.1.cons, h.2.1.cons, h.2.2⟩
theorem sf_two.app {E : tp_Env} {fr : va_W} {e0 e1 : Nat} {n0 n1 : Int32} (h : sf_two E e0 n0 e1 n1 fr) : ∀ Y : va_W, sf_two E e0 n0 e1 n1 (Y ++ fr)
  | [] => h
  | _ :: Y => (h.app Y).cons
theorem sf_two.ch {E : tp_Env} {fr fr' : va_W} {e0 e1 : Nat} {n0 n1 : Int32} (hc : sf_ch E fr fr') (h : sf_two E e0 n0 e1 n1 fr) : sf_two E e0 n0 e1 n1 fr' := ⟨h.1.ch hc, h.2.1.ch hc, h.2.2⟩
/-- the same cells in another order -/
theorem sf_swI {α : Type} {X P Y Z : List α} {i : Nat} {x : α} (h : (X ++ (Y ++ (P ++ Z)))[i]? = some x) : ∃ j : Nat, (X ++ (P ++ (Y ++ Z)))[j]? = some x := by
  have hm := List.mem_of_getElem? h
  refine List.getElem?_of_mem ?_
  simp only [List.mem_append] at hm ⊢
  rcases hm with h | h | h | h
  · exact Or.inl h
  · exact Or.inr (Or.inr (Or.inl h))
  · exact Or.inr (Or.inl h)
  · exact Or.inr (Or.inr (Or.inr h))
theorem sf_swP {D : va_G} {cl : List vw_C} {H : Heap} {X P Y Z : va_W} (h : va_P D cl (X ++ (P ++ (Y ++ Z))) H) : va_P D cl (X ++ (Y ++ (P ++ Z))) H := fun k q hk => by
  obtain ⟨j, hj⟩ := sf_swI hk
  exact h j q hj
theorem sf_nodup {A : Nat → Prop} {W : va_W} : va_D A W ↔ (W.map (fun p => p.1)).Nodup ∧ ∀ q ∈ W, A q.1 := by
  constructor
  · intro h
    refine ⟨?_, fun q hq => ?_⟩
    · refine List.pairwise_iff_getElem.mpr (fun i j hi hj hij e => ?_)
      rw [List.length_map] at hi hj
      rw [List.getElem_map, List.getElem_map] at e
      have := h.1 i j _ _ (List.getElem?_eq_getElem hi) (List.getElem?_eq_getElem hj) e
      omega
    · obtain ⟨k, hk⟩ := List.getElem?_of_mem hq
      exact h.2 k q hk
  · rintro ⟨h1, h2⟩
    refine ⟨fun i j p q hi hj e => ?_, fun k q hk => h2 q (List.mem_of_getElem? hk)⟩
    obtain ⟨li, ei⟩ := List.getElem?_eq_some_iff.mp hi
    obtain ⟨lj, ej⟩ := List.getElem?_eq_some_iff.mp hj
    have h3 := List.pairwise_iff_getElem.mp h1
    have hl : (W.map (fun p => p.1)).length = W.length := List.length_map _
    rcases Nat.lt_trichotomy i j with g | g | g
    · exact absurd (by rw [List.getElem_map, List.getElem_map, ei, ej]; exact e) (h3 i j (by omega) (by omega) g)
    · exact g
    · exact absurd (by rw [List.getElem_map, List.getElem_map, ei, ej]; exact e.symm) (h3 j i (by omega) (by omega) g)
theorem sf_swM {X P Y Z : va_W} {q : Nat × va_E} (hq : q ∈ X ++ (Y ++ (P ++ Z))) : q ∈ X ++ (P ++ (Y ++ Z)) := by
  simp only [List.mem_append] at hq ⊢
  rcases hq with h | h | h | h
  · exact Or.inl h
  · exact Or.inr (Or.inr (Or.inl h))
  · exact Or.inr (Or.inl h)
  · exact Or.inr (Or.inr (Or.inr h))
theorem sf_swD {A : Nat → Prop} {X P Y Z : va_W} (h : va_D A (X ++ (P ++ (Y ++ Z)))) : va_D A (X ++ (Y ++ (P ++ Z))) := by
  rw [sf_nodup] at h ⊢
  refine ⟨?_, fun q hq => h.2 q (sf_swM hq)⟩
  have hp : (X ++ (P ++ (Y ++ Z))).Perm (X ++ (Y ++ (P ++ Z))) := by
    refine List.Perm.append_left X ?_
    rw [← List.append_assoc, ← List.append_assoc]
    exact List.Perm.append_right Z List.perm_append_comm
  exact (hp.map _).nodup_iff.mp h.1
theorem sf_rl {c a j K R y : Nat} (x : Nat) (h : c + a * j ≤ K) (hk : K + x ≤ R) (e : y = c + x) : y ≤ R := by omega
theorem sf_two0 {E : tp_Env} {fr : va_W} : sf_two E (tp_ad E 100) 0 (tp_ad E 100) 0 fr := ⟨Or.inl ⟨rfl, rfl⟩, Or.inl ⟨rfl, rfl⟩, fun _ => ⟨rfl, rfl, rfl⟩⟩
theorem sf_C0 : sf_C (fun _ => 0) := ⟨by decide, by decide⟩
theorem sf_VB0 {fo : Nat → Int32} {vo : Nat → Int64} : sf_VB (fun _ => 0) fo vo := fun y _ h => by
  unfold sf_th at h
  rw [Int32.toInt_zero] at h
  omega
theorem sf_j4 {L : Nat} (h : L ≤ 2048) : (0 : Int32).toInt + 4 * ((L / 4 : Nat) : Int) ≤ (L : Int) ∧ (L : Int) < (0 : Int32).toInt + 4 * ((L / 4 : Nat) : Int) + 4 ∧ L / 4 ≤ 512 := by
  rw [Int32.toInt_zero]
  omega
theorem sf_L512 {L : Nat} (h : L ≤ 2048) : L / 4 ≤ 512 := by omega
theorem sf_Li {L : Nat} (h : L ≤ 2048) : (Int32.ofNat L - 4).toInt = (L : Int) - 4 := by
  have e : (Int32.ofNat L).toInt = (L : Int) := Int32.toInt_ofNat_of_lt (by omega)
  rw [tp_subI (by rw [e, show (4 : Int32).toInt = 4 from rfl]; omega) (by rw [e, show (4 : Int32).toInt = 4 from rfl]; omega), e]
  rfl
theorem sf_il {i : Int32} {L : Nat} (hL : L ≤ 2048) (h : ¬ (Int32.ofNat L - 4) < i) : i.toInt ≤ (L : Int) - 4 := by
  have := Int32.le_iff_toInt_le.mp (Int32.not_lt.mp h)
  rwa [sf_Li hL] at this
theorem sf_scr0 {i : Int32} {L : Nat} (hi : 0 ≤ i.toInt) (hL : L ≤ 2048) (h : ¬ (Int32.ofNat L - 4) < i) : vp_in i L := by
  have := sf_il hL h
  exact vp_in_iff.mpr ⟨hi, by omega⟩
theorem sf_scr1 {i : Int32} {L : Nat} (hi : 0 ≤ i.toInt) (hL : L ≤ 2048) (h : ¬ (Int32.ofNat L - 4) < i) : vp_in (i + 1) L := by
  have := sf_il hL h
  have e : (i + 1).toInt = i.toInt + 1 := tp_inc (by omega)
  exact vp_in_iff.mpr ⟨by omega, by omega⟩
theorem sf_scr2 {i : Int32} {L : Nat} (hi : 0 ≤ i.toInt) (hL : L ≤ 2048) (h : ¬ (Int32.ofNat L - 4) < i) : vp_in (i + 2) L := by
  have := sf_il hL h
  have e : (i + 2).toInt = i.toInt + (2 : Int32).toInt := tp_addI (by rw [show (2 : Int32).toInt = 2 from rfl]; omega) (by rw [show (2 : Int32).toInt = 2 from rfl]; omega)
  rw [show (2 : Int32).toInt = 2 from rfl] at e
  exact vp_in_iff.mpr ⟨by omega, by omega⟩
theorem sf_scr3 {i : Int32} {L : Nat} (hi : 0 ≤ i.toInt) (hL : L ≤ 2048) (h : ¬ (Int32.ofNat L - 4) < i) : vp_in (i + 3) L := by
  have := sf_il hL h
  have e : (i + 3).toInt = i.toInt + (3 : Int32).toInt := tp_addI (by rw [show (3 : Int32).toInt = 3 from rfl]; omega) (by rw [show (3 : Int32).toInt = 3 from rfl]; omega)
  rw [show (3 : Int32).toInt = 3 from rfl] at e
  exact vp_in_iff.mpr ⟨by omega, by omega⟩
theorem sf_i4e {i : Int32} (h : 0 ≤ i.toInt ∧ i.toInt ≤ 4000) : (i + 4).toInt = i.toInt + 4 := by
  have e : (i + 4).toInt = i.toInt + (4 : Int32).toInt := tp_addI (by rw [show (4 : Int32).toInt = 4 from rfl]; omega) (by rw [show (4 : Int32).toInt = 4 from rfl]; omega)
  rw [e]; rfl
theorem sf_jd4 {i : Int32} {L j : Nat} (hj : i.toInt + 4 * (j : Int) ≤ (L : Int) ∧ (L : Int) < i.toInt + 4 * (j : Int) + 4 ∧ j ≤ 512) (h : ¬ (Int32.ofNat L - 4) < i) (hL : L ≤ 2048) (_hi : 0 ≤ i.toInt) : j - 1 < j := by
  have := sf_il hL h
  omega
theorem sf_i4b {i : Int32} {L : Nat} (hi : 0 ≤ i.toInt ∧ i.toInt ≤ 4000) (h : ¬ (Int32.ofNat L - 4) < i) (hL : L ≤ 2048) : 0 ≤ (i + 4).toInt ∧ (i + 4).toInt ≤ 4000 := by
  have := sf_il hL h
  rw [sf_i4e hi]
  omega
theorem sf_j4b {i : Int32} {L j : Nat} (hi : 0 ≤ i.toInt ∧ i.toInt ≤ 4000) (hj : i.toInt + 4 * (j : Int) ≤ (L : Int) ∧ (L : Int) < i.toInt + 4 * (j : Int) + 4 ∧ j ≤ 512) (h : ¬ (Int32.ofNat L - 4) < i) (hL : L ≤ 2048) : (i + 4).toInt + 4 * ((j - 1 : Nat) : Int) ≤ (L : Int) ∧ (L : Int) < (i + 4).toInt + 4 * ((j - 1 : Nat) : Int) + 4 ∧ j - 1 ≤ 512 := by
  have := sf_il hL h
  rw [sf_i4e hi]
  omega
theorem sf_rmb {c s a b j K S y z x w : Nat} {P : Prop} (h : c + a * j ≤ K ∧ s + b * j ≤ S) (_hj : P) (hd : j - 1 < j) (ey : y = c + x) (ez : z = s + w) (hx : x ≤ a) (hw : w ≤ b) : y + a * (j - 1) ≤ K ∧ z + b * (j - 1) ≤ S := by
  obtain ⟨k, rfl⟩ : ∃ k, j = k + 1 := ⟨j - 1, by omega⟩
  rw [Nat.add_sub_cancel]
  rw [Nat.mul_succ, Nat.mul_succ] at h
  omega
theorem sf_tyc {r n c c' : Int32} {v : Prop} (h : 0 ≤ c.toInt ∧ c.toInt ≤ 28) (ht : (r = 0 ∧ v ∧ (c + n) ≤ 28 ∧ c'.toInt = c.toInt + n.toInt) ∨ (r = 1 ∧ (¬ v) ∧ c' = c) ∨ (r = 2 ∧ v ∧ (¬ (c + n) ≤ 28) ∧ c' = c)) (hn : v → 1 ≤ n.toInt ∧ n.toInt ≤ 8) : 0 ≤ c'.toInt ∧ c'.toInt ≤ 28 := by
  rcases ht with ⟨-, hv, h1, h2⟩ | ⟨-, -, rfl⟩ | ⟨-, -, -, rfl⟩
  · have h3 := sf_s28 h (hn hv) h1
    have := hn hv
    omega
  · exact h
  · exact h
theorem sf_tyeq {r t n c c' z z' : Int32} {v w : Prop} (hc : c = z) (hvw : v ↔ w) (ht : (r = 0 ∧ v ∧ (c + n) ≤ 28 ∧ c'.toInt = c.toInt + n.toInt) ∨ (r = 1 ∧ (¬ v) ∧ c' = c) ∨ (r = 2 ∧ v ∧ (¬ (c + n) ≤ 28) ∧ c' = c)) (hm : (t = 0 ∧ w ∧ (z + n) ≤ 28 ∧ z'.toInt = z.toInt + n.toInt) ∨ (t = 1 ∧ (¬ w) ∧ z' = z) ∨ (t = 2 ∧ w ∧ (¬ (z + n) ≤ 28) ∧ z' = z)) : c' = z' ∧ r = t := by
  subst hc
  rcases ht with ⟨r1, h1, h2, h3⟩ | ⟨r1, h1, rfl⟩ | ⟨r1, h1, h2, rfl⟩ <;> rcases hm with ⟨q1, q2, q3, q4⟩ | ⟨q1, q2, rfl⟩ | ⟨q1, q2, q3, rfl⟩
  · exact ⟨Int32.toInt_inj.mp (h3.trans q4.symm), r1.trans q1.symm⟩
  · exact absurd (hvw.mp h1) q2
  · exact absurd h2 q3
  · exact absurd (hvw.mpr q2) h1
  · exact ⟨rfl, r1.trans q1.symm⟩
  · exact absurd (hvw.mpr q2) h1
  · exact absurd q3 h2
  · exact absurd (hvw.mp h1) q2
  · exact ⟨rfl, r1.trans q1.symm⟩
theorem sf_z0 {z : Int32} (h : z = 0) : 0 ≤ z.toInt ∧ z.toInt ≤ 28 := by
  rw [h]
  decide
theorem sf_VBsub {c c' fo : Nat → Int32} {vo : Nat → Int64} (h : sf_VB c fo vo) (hs : ∀ y : Nat, sf_th c' y → sf_th c y) : sf_VB c' fo vo := fun y hy ht hf => h y hy (hs y ht) hf
theorem sf_cle {r t k : Int32} {P : Prop} (hr : r = t) (hm : (t = 0 ∧ P) ∨ (t = 1 ∧ ¬ P)) (hk : (k = 0 ∧ P) ∨ (k = 1 ∧ ¬ P)) : r = k := by
  rw [hr]
  rcases hm with ⟨h1, h2⟩ | ⟨h1, h2⟩ <;> rcases hk with ⟨h3, h4⟩ | ⟨h3, h4⟩
  · exact h1.trans h3.symm
  · exact absurd h2 h4
  · exact absurd h4 h2
  · exact h1.trans h3.symm
theorem sf_shw {t w r : Int32} {P Q : Prop} (h : (t = 1 ∧ P ∧ w = 0) ∨ (t = 0 ∧ Q ∧ w = r ∧ 0 ≤ r.toInt ∧ r.toInt ≤ 40)) : 0 ≤ w.toInt ∧ w.toInt ≤ 40 := by
  rcases h with ⟨-, -, rfl⟩ | ⟨-, -, rfl, h⟩
  · decide
  · exact h
