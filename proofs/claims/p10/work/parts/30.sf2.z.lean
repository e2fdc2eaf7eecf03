theorem sf_ip {p k : Int32} (hp : 0 ≤ p.toInt ∧ p.toInt + 4 ≤ 16384) (hk : 0 ≤ k.toInt) (h : ¬ (4 : Int32) ≤ k) : vp_in (p + k) 16384 := by
  have h1 := sf_lt h
  rw [show (4 : Int32).toInt = 4 from rfl] at h1
  have e : (p + k).toInt = p.toInt + k.toInt := tp_addI (by omega) (by omega)
  exact vp_in_iff.mpr ⟨by omega, by omega⟩
theorem sf_i4 {p : Int32} (h : 0 ≤ p.toInt ∧ p.toInt ≤ 16384) : (p + 4).toInt = p.toInt + 4 := by
  rw [tp_addI (by rw [show (4 : Int32).toInt = 4 from rfl]; omega) (by rw [show (4 : Int32).toInt = 4 from rfl]; omega)]; rfl
theorem sf_ip4 {p : Int32} (hp : 0 ≤ p.toInt ∧ p.toInt + 4 ≤ 16384) (h8 : p.toInt + 8 ≤ 16384) : 0 ≤ (p + 4).toInt ∧ (p + 4).toInt + 4 ≤ 16384 := by
  rw [sf_i4 ⟨hp.1, by omega⟩]
  omega
theorem sf_pl4 {p b : Int32} (h : 0 ≤ p.toInt ∧ p.toInt + b.toInt ≤ 16384) (hb : 4 ≤ b.toInt) : 0 ≤ p.toInt ∧ p.toInt + 4 ≤ 16384 := by omega
theorem sf_pl8 {p b : Int32} (h : 0 ≤ p.toInt ∧ p.toInt + b.toInt ≤ 16384) (hb : b.toInt = 8) : 0 ≤ (p + 4).toInt ∧ (p + 4).toInt + 4 ≤ 16384 := by
  rw [sf_i4 ⟨h.1, by omega⟩]
  omega
theorem sf_by7 {f fa : Int32} {v : Int64} (h : f = 7) : 4 ≤ (sf_by f v fa).toInt := by
  subst h
  unfold sf_by
  rw [if_neg (by decide), if_neg (by decide), if_neg (by decide), if_neg (by decide), if_neg (by decide), if_neg (by decide), if_pos rfl]
  split <;> decide
theorem sf_by78 {f fa : Int32} {v : Int64} (h : f = 7) (hf : ¬ fa = 0) : (sf_by f v fa).toInt = 8 := by
  subst h
  unfold sf_by
  rw [if_neg (by decide), if_neg (by decide), if_neg (by decide), if_neg (by decide), if_neg (by decide), if_neg (by decide), if_pos rfl, if_neg hf]
  rfl
theorem sf_by9 {f fa : Int32} {v : Int64} (h : f = 9) : 4 ≤ (sf_by f v fa).toInt := by
  subst h
  unfold sf_by
  rw [if_neg (by decide), if_neg (by decide), if_neg (by decide), if_neg (by decide), if_pos rfl]
  split
  · split <;> decide
  · split
    · split <;> decide
    · decide
theorem sf_by4 {f fa : Int32} {v : Int64} {k : Int32} (h : f = k) (hk : (¬ k = 0 ∧ ¬ k = 14 ∧ ¬ k = 12 ∧ ¬ k = 13 ∧ ¬ k = 9 ∧ ¬ k = 7)) : 4 ≤ (sf_by f v fa).toInt := by
  subst h
  unfold sf_by
  rw [if_neg hk.1, if_neg hk.2.1, if_neg hk.2.2.1, if_neg hk.2.2.2.1, if_neg hk.2.2.2.2.1]
  split
  · decide
  · rw [if_neg hk.2.2.2.2.2]
    decide
theorem sf_b8 {p b r : Int32} (h : 0 ≤ p.toInt ∧ p.toInt + b.toInt ≤ 16384) (hr : r = b) (h8 : r = 8) : p.toInt + 8 ≤ 16384 := by
  rw [← hr, h8, show (8 : Int32).toInt = 8 from rfl] at h
  exact h.2
theorem sf_b10 {p f fa : Int32} {v : Int64} (h : 0 ≤ p.toInt ∧ p.toInt + (sf_by f v fa).toInt ≤ 16384) (hf : f = 10) : p.toInt + 8 ≤ 16384 := by
  subst hf
  unfold sf_by at h
  rw [if_neg (by decide), if_neg (by decide), if_neg (by decide), if_neg (by decide), if_neg (by decide), if_pos rfl, show (8 : Int32).toInt = 8 from rfl] at h
  exact h.2
theorem sf_in1 {p f fa : Int32} {v : Int64} (h : 0 ≤ p.toInt ∧ p.toInt + (sf_by f v fa).toInt ≤ 16384) (hf : f = 12) : vp_in p 16384 := by
  subst hf
  unfold sf_by at h
  rw [if_neg (by decide), if_neg (by decide), if_pos rfl, show (1 : Int32).toInt = 1 from rfl] at h
  exact vp_in_iff.mpr ⟨h.1, by omega⟩
theorem sf_k32 {k : Int32} (hk : 0 ≤ k.toInt) (h : ¬ (32 : Int32) ≤ k) : 0 ≤ k.toInt ∧ k.toInt < 32 := by
  have h1 := sf_lt h
  rw [show (32 : Int32).toInt = 32 from rfl] at h1
  exact ⟨hk, h1⟩
theorem sf_m16 {x : Int32} (h : 0 ≤ x.toInt ∧ x.toInt < 32) : x / 16 = 0 ∨ x / 16 = 1 := by
  have e := sf_div16 h
  have h2 : (x / 16).toInt = 0 ∨ (x / 16).toInt = 1 := by omega
  rcases h2 with h2 | h2
  · exact Or.inl (Int32.toInt_inj.mp (by rw [h2]; rfl))
  · exact Or.inr (Int32.toInt_inj.mp (by rw [h2]; rfl))
theorem sf_thY {r : Int32} {P : Prop} (h : (r = 1 ∧ P) ∨ (r = 0 ∧ ¬ P)) (hr : ¬ r = 0) : P := by
  rcases h with h | h
  · exact h.2
  · exact absurd h.1 hr
theorem sf_thN {r : Int32} {P : Prop} (h : (r = 1 ∧ P) ∨ (r = 0 ∧ ¬ P)) (hr : r = 0) : ¬ P := by
  rcases h with h | h
  · exact absurd (h.1.symm.trans hr) (by decide)
  · exact h.2
def sf_TG (c fo fT : Nat → Int32) (n : Nat) : Prop := ∀ y : Nat, y < n → sf_th c y → sf_isW (fo y) → sf_T (fT y)
theorem sf_x32 {x : Int32} (h : 0 ≤ x.toInt ∧ x.toInt < 32) : x.toNatClampNeg < 32 := by
  show x.toInt.toNat < 32
  omega
theorem sf_kk {k : Int32} (hk : 0 ≤ k.toInt) (h : ¬ (32 : Int32) ≤ k) : (k + 1).toInt.toNat = k.toNatClampNeg + 1 := by
  have h1 := sf_k32 hk h
  have e : (k + 1).toInt = k.toInt + 1 := tp_inc (by omega)
  show (k + 1).toInt.toNat = k.toInt.toNat + 1
  omega
theorem sf_tgN {c fo fT : Nat → Int32} {k : Int32} (hk : 0 ≤ k.toInt) (h : ¬ (32 : Int32) ≤ k) (ht : sf_TG c fo fT k.toInt.toNat) (hn : ¬ sf_th c k.toNatClampNeg) : sf_TG c fo fT (k + 1).toInt.toNat := fun y hy h1 h2 => by
  rw [sf_kk hk h] at hy
  by_cases e : y = k.toNatClampNeg
  · subst e
    exact absurd h1 hn
  · exact ht y (by show y < k.toNatClampNeg; omega) h1 h2
theorem sf_tgS {c fo fT fT' : Nat → Int32} {k : Int32} (hk : 0 ≤ k.toInt) (h : ¬ (32 : Int32) ≤ k) (ht : sf_TG c fo fT k.toInt.toNat) (hx : sf_isW (fo k.toNatClampNeg) → sf_T (fT' k.toNatClampNeg)) (ho : ∀ y : Nat, ¬ y = k.toNatClampNeg → fT' y = fT y) : sf_TG c fo fT' (k + 1).toInt.toNat := fun y hy h1 h2 => by
  rw [sf_kk hk h] at hy
  by_cases e : y = k.toNatClampNeg
  · subst e
    exact hx h2
  · rw [ho y e]
    exact ht y (by show y < k.toNatClampNeg; omega) h1 h2
theorem sf_th0 {t : Int32} (h : t = 0 ∨ t = 1 ∨ t = 2) (hl : t ≤ 0) : t = 0 := by
  rcases h with h | h | h
  · exact h
  · rw [h] at hl; exact absurd hl (by decide)
  · rw [h] at hl; exact absurd hl (by decide)
theorem sf_tq0 {t : Int32} (h : t = 0 ∨ t = 2 ∨ t = 3) (hl : t ≤ 0) : t = 0 := by
  rcases h with h | h | h
  · exact h
  · rw [h] at hl; exact absurd hl (by decide)
  · rw [h] at hl; exact absurd hl (by decide)
theorem sf_tg32 {c fo fT : Nat → Int32} {k : Int32} (ht : sf_TG c fo fT k.toInt.toNat) (h : (32 : Int32) ≤ k) : sf_TG c fo fT 32 := fun y hy h1 h2 => by
  have h3 := Int32.le_iff_toInt_le.mp h
  rw [show (32 : Int32).toInt = 32 from rfl] at h3
  exact ht y (by omega) h1 h2
def sf_cn (f : Nat → Int32) : Nat → Nat
  | 0 => 0
  | n + 1 => sf_cn f n + (if f n = 0 then 1 else 0)
theorem sf_cnE {f g : Nat → Int32} : ∀ n : Nat, (∀ y : Nat, y < n → f y = g y) → sf_cn f n = sf_cn g n
  | 0, _ => rfl
  | n + 1, h => by
    show sf_cn f n + _ = sf_cn g n + _
    rw [sf_cnE n (fun y hy => h y (by omega)), h n (by omega)]
theorem sf_cnu {f : Nat → Int32} {x : Nat} (h0 : f x = 0) : ∀ n : Nat, x < n → sf_cn (upd f x 1) n + 1 = sf_cn f n
  | 0, h => absurd h (Nat.not_lt_zero x)
  | n + 1, h => by
    show sf_cn (upd f x 1) n + (if upd f x 1 n = 0 then 1 else 0) + 1 = sf_cn f n + (if f n = 0 then 1 else 0)
    by_cases e : n = x
    · subst e
      rw [sf_cnE (g := f) n (fun y hy => sf_upne (by omega)), sf_ups, if_neg (by decide), if_pos h0]
    · rw [sf_upne e, ← sf_cnu h0 n (by omega)]
      omega
theorem sf_cntu {f : Nat → Int32} {k : Int32} {n : Nat} (hk : 0 ≤ k.toInt ∧ k.toInt < 32) (h0 : f k.toNatClampNeg = 0) (hl : sf_cn f 32 ≤ n) : sf_cn (upd f k.toNatClampNeg 1) 32 < n := by
  have := sf_cnu h0 32 (sf_x32 hk)
  omega
theorem sf_wh {a : Int32} {n m j : Nat} (h : a = 0 ∨ n < m) (hj : j = m + 1) : ∃ i : Nat, i < j ∧ (a = 0 ∨ i = n + 1) := by
  rcases h with h | h
  · exact ⟨0, by omega, Or.inl h⟩
  · exact ⟨n + 1, by omega, Or.inr rfl⟩
theorem sf_al2 {a : Int32} (h : a ≤ 16384) : a.toInt ≤ 16384 := by
  have := Int32.le_iff_toInt_le.mp h
  rwa [show (16384 : Int32).toInt = 16384 from rfl] at this
theorem sf_al {a : Int32} (h : a ≤ 16384) : a.toInt ≤ 100000 := Int.le_trans (sf_al2 h) (by decide)
theorem sf_ial {a k : Int32} (h : a ≤ 16384) (hk : 0 ≤ k.toInt) (hl : ¬ a ≤ k) : vp_in k 16384 := by
  have h1 := sf_lt hl
  have h2 := sf_al2 h
  exact vp_in_iff.mpr ⟨hk, by omega⟩
theorem sf_hpb {c fo : Nat → Int32} {vo : Nat → Int64} {fa fP : Nat → Int32} {p : Int32} {y : Nat} (hl : sf_lay c fo vo fa fP p) (h : p ≤ 16384) (hy : y < 32) (ht : sf_th c y) : 0 ≤ (fP y).toInt ∧ (fP y).toInt + (sf_by (fo y) (vo y) (fa y)).toInt ≤ 16384 := by
  have h1 := hl.2 y hy ht
  have h2 := sf_al2 h
  exact ⟨h1.1, Int.le_trans h1.2 h2⟩
