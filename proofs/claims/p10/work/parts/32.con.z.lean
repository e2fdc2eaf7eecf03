/-! what is written: digits -/
def sf_dg (n p : Nat) : Int32 := Int32.ofNat (48 + n / 10 ^ p % 10)
def sf_ap (f' f : Nat → Int32) (c : Nat) (L : List Int32) : Prop := (∀ j : Nat, j < c → f' j = f j) ∧ ∀ j : Nat, j < L.length → f' (c + j) = L.getD j 0
theorem sf_ap.rf {f : Nat → Int32} {c : Nat} : sf_ap f f c [] := ⟨fun _ _ => rfl, fun j h => absurd h (Nat.not_lt_zero j)⟩
theorem sf_ap.trans {f g h : Nat → Int32} {c : Nat} {L M : List Int32} (h1 : sf_ap g f c L) (h2 : sf_ap h g (c + L.length) M) : sf_ap h f c (L ++ M) := by
  refine ⟨fun j hj => (h2.1 j (by omega)).trans (h1.1 j hj), fun j hj => ?_⟩
  rw [List.length_append] at hj
  by_cases e : j < L.length
  · rw [h2.1 (c + j) (by omega), h1.2 j e, List.getD_eq_getElem?_getD, List.getD_eq_getElem?_getD, List.getElem?_append_left e]
  · have h3 := h2.2 (j - L.length) (by omega)
    rw [show c + L.length + (j - L.length) = c + j by omega] at h3
    rw [h3, List.getD_eq_getElem?_getD, List.getD_eq_getElem?_getD, List.getElem?_append_right (by omega)]
def sf_digs (v : Int32) : List Int32 := (List.range (tp_dl v)).map (fun j => if v.toInt < 0 ∧ j = 0 then 45 else sf_dg v.toInt.natAbs (tp_dl v - 1 - j))
theorem sf_digsL {v : Int32} : (sf_digs v).length = tp_dl v := by
  unfold sf_digs
  rw [List.length_map, List.length_range]
theorem sf_digsG {v : Int32} {j : Nat} (h : j < tp_dl v) : (sf_digs v).getD j 0 = if v.toInt < 0 ∧ j = 0 then 45 else sf_dg v.toInt.natAbs (tp_dl v - 1 - j) := by
  unfold sf_digs
  rw [List.getD_eq_getElem?_getD, List.getElem?_map, List.getElem?_range h]
  rfl
theorem sf_onT : ∀ n : Nat, n < 100 → vp_nar .byte (tp_ones.getD n 0) = Int32.ofNat (48 + n % 10) ∧ vp_nar .byte (tp_tens.getD n 0) = Int32.ofNat (48 + n / 10) := by decide +kernel
/-- k digits of N are written below xi, down to c; n is left -/
def sf_gn (fb f : Nat → Int32) (N n xi c k : Nat) : Prop := c + k = xi ∧ (∀ j : Nat, j < c → f j = fb j) ∧ (∀ p : Nat, p < k → f (xi - 1 - p) = sf_dg N p) ∧ n = N / 10 ^ k ∧ tp_dg n + k = tp_dg N
theorem sf_gn0 {fb : Nat → Int32} {N xi : Nat} : sf_gn fb fb N N xi xi 0 := ⟨rfl, fun _ _ => rfl, fun p hp => absurd hp (Nat.not_lt_zero p), by rw [Nat.pow_zero, Nat.div_one], rfl⟩
theorem sf_ups2 {f : Nat → Int32} {a b : Nat} {v w : Int32} (h : ¬ a = b) : upd (upd f a v) b w a = v := by rw [sf_upne h, sf_ups]
theorem sf_d1 {N n k : Nat} (h : n = N / 10 ^ k) : Int32.ofNat (48 + n % 10) = sf_dg N k := by rw [h]; rfl
theorem sf_d2 {N n k : Nat} (h : n = N / 10 ^ k) : Int32.ofNat (48 + n / 10 % 10) = sf_dg N (k + 1) := by
  unfold sf_dg
  rw [Nat.pow_succ, ← Nat.div_div_eq_div_mul, ← h]
theorem sf_gn2 {fb f : Nat → Int32} {N n xi c k : Nat} {v w : Int32} (h : sf_gn fb f N n xi c k) (hc : 2 ≤ c) (hv : v = Int32.ofNat (48 + n % 10)) (hw : w = Int32.ofNat (48 + n / 10 % 10)) (hd : tp_dg (n / 100) + 2 = tp_dg n) : sf_gn fb (upd (upd f (c - 1) v) (c - 2) w) N (n / 100) xi (c - 2) (k + 2) := by
  obtain ⟨h0, h1, h2, h3, h4⟩ := h
  refine ⟨by omega, fun j hj => ?_, fun p hp => ?_, ?_, by omega⟩
  · rw [sf_upne (by omega), sf_upne (by omega)]
    exact h1 j (by omega)
  · by_cases q1 : p = k
    · subst q1
      rw [show xi - 1 - p = c - 1 by omega, sf_ups2 (by omega), hv]
      exact sf_d1 h3
    · by_cases q2 : p = k + 1
      · subst q2
        rw [show xi - 1 - (k + 1) = c - 2 by omega, sf_ups, hw]
        exact sf_d2 h3
      · rw [sf_upne (by omega), sf_upne (by omega)]
        exact h2 p (by omega)
  · rw [h3, Nat.div_div_eq_div_mul, Nat.pow_succ, Nat.pow_succ, Nat.mul_assoc]
theorem sf_gn1 {fb f : Nat → Int32} {N n xi c k : Nat} {v : Int32} (h : sf_gn fb f N n xi c k) (hc : 1 ≤ c) (hv : v = Int32.ofNat (48 + n % 10)) : (∀ j : Nat, j < c - 1 → upd f (c - 1) v j = fb j) ∧ ∀ p : Nat, p < k + 1 → upd f (c - 1) v (xi - 1 - p) = sf_dg N p := by
  obtain ⟨h0, h1, h2, h3, h4⟩ := h
  refine ⟨fun j hj => ?_, fun p hp => ?_⟩
  · rw [sf_upne (by omega)]
    exact h1 j (by omega)
  · by_cases q1 : p = k
    · subst q1
      rw [show xi - 1 - p = c - 1 by omega, sf_ups, hv]
      exact sf_d1 h3
    · rw [sf_upne (by omega)]
      exact h2 p (by omega)
theorem sf_m1 {cp : Int32} (h : 1 ≤ cp.toInt) : (cp + (-1)).toInt = cp.toInt - 1 := by
  have h2 := Int32.toInt_lt cp
  rw [tp_addI (by rw [show (-1 : Int32).toInt = -1 from rfl]; omega) (by rw [show (-1 : Int32).toInt = -1 from rfl]; omega), show (-1 : Int32).toInt = -1 from rfl]
  omega
theorem sf_n1 {cp : Int32} (h : 1 ≤ cp.toInt) : (cp + (-1)).toNatClampNeg = cp.toNatClampNeg - 1 := by
  have e := sf_m1 h
  show (cp + (-1)).toInt.toNat = cp.toInt.toNat - 1
  omega
theorem sf_n2 {cp : Int32} (h : 2 ≤ cp.toInt) : ((cp + (-1)) + (-1)).toNatClampNeg = cp.toNatClampNeg - 2 := by
  have e := sf_m1 (cp := cp) (by omega)
  have e2 := sf_m1 (cp := cp + (-1)) (by omega)
  show ((cp + (-1)) + (-1)).toInt.toNat = cp.toInt.toNat - 2
  omega
def sf_gc (fb f : Nat → Int32) (xv x xi cp : Int32) : Prop := ∃ k : Nat, sf_gn fb f xv.toInt.natAbs x.toInt.natAbs xi.toNatClampNeg cp.toNatClampNeg k
theorem sf_gc0 {fb : Nat → Int32} {xv x xi : Int32} (hx : x.toInt.natAbs = xv.toInt.natAbs) : sf_gc fb fb xv x xi xi := ⟨0, by rw [hx]; exact sf_gn0⟩
theorem sf_r100 {x r : Int32} (hx0 : x.toInt ≤ 0) (hr : r.toInt = -x.toInt - -((x / 100 * 100).toInt)) : r.toNatClampNeg = x.toInt.natAbs % 100 := by
  have h1 := tp_mul100 hx0
  show r.toInt.toNat = _
  omega
theorem sf_b100 {x : Int32} (hx0 : x.toInt ≤ 0) : (x / 100).toInt.natAbs = x.toInt.natAbs / 100 := by
  have h1 := tp_div100 hx0
  omega
theorem sf_gcs {fb f : Nat → Int32} {xv x xi cp r : Int32} (h : sf_gc fb f xv x xi cp) (hx0 : x.toInt ≤ 0) (hl : ¬ (-100) < x) (hc : 2 ≤ cp.toInt) (hr : r.toNatClampNeg = x.toInt.natAbs % 100) : sf_gc fb (upd (upd f (cp + (-1)).toNatClampNeg (vp_nar .byte (tp_ones.getD r.toNatClampNeg 0))) ((cp + (-1)) + (-1)).toNatClampNeg (vp_nar .byte (tp_tens.getD r.toNatClampNeg 0))) xv (x / 100) xi ((cp + (-1)) + (-1)) := by
  obtain ⟨k, hk⟩ := h
  have hq := (tp_q100 hx0 hl).2.2
  rw [sf_b100 hx0] at hq
  obtain ⟨o1, o2⟩ := sf_onT (x.toInt.natAbs % 100) (Nat.mod_lt _ (by decide))
  refine ⟨k + 2, ?_⟩
  rw [hr, sf_n1 (by omega), sf_n2 hc, sf_b100 hx0]
  have hc2 : 2 ≤ cp.toNatClampNeg := by show 2 ≤ cp.toInt.toNat; omega
  refine sf_gn2 hk hc2 (o1.trans ?_) (o2.trans ?_) hq
  · rw [Nat.mod_mod_of_dvd _ (by decide)]
  · rw [show x.toInt.natAbs % 100 / 10 = x.toInt.natAbs / 10 % 10 by omega]
theorem sf_gn2a {fb f : Nat → Int32} {N n xi c k : Nat} {v w : Int32} (h : sf_gn fb f N n xi c k) (hc : 2 ≤ c) (hv : v = Int32.ofNat (48 + n % 10)) (hw : w = Int32.ofNat (48 + n / 10 % 10)) : (∀ j : Nat, j < c - 2 → upd (upd f (c - 1) v) (c - 2) w j = fb j) ∧ ∀ p : Nat, p < k + 2 → upd (upd f (c - 1) v) (c - 2) w (xi - 1 - p) = sf_dg N p := by
  obtain ⟨h0, h1, h2, h3, h4⟩ := h
  refine ⟨fun j hj => ?_, fun p hp => ?_⟩
  · rw [sf_upne (by omega), sf_upne (by omega)]
    exact h1 j (by omega)
  · by_cases q1 : p = k
    · subst q1
      rw [show xi - 1 - p = c - 1 by omega, sf_ups2 (by omega), hv]
      exact sf_d1 h3
    · by_cases q2 : p = k + 1
      · subst q2
        rw [show xi - 1 - (k + 1) = c - 2 by omega, sf_ups, hw]
        exact sf_d2 h3
      · rw [sf_upne (by omega), sf_upne (by omega)]
        exact h2 p (by omega)
theorem sf_apP {u fb : Nat → Int32} {xv : Int32} {xi b : Nat} (h1 : ∀ j : Nat, j < b → u j = fb j) (h2 : ∀ p : Nat, p < tp_dg xv.toInt.natAbs → u (xi - 1 - p) = sf_dg xv.toInt.natAbs p) (hb : b + tp_dg xv.toInt.natAbs = xi) (hp : ¬ xv.toInt < 0) : b + tp_dl xv = xi ∧ sf_ap u fb b (sf_digs xv) := by
  have hl : tp_dl xv = tp_dg xv.toInt.natAbs := by unfold tp_dl; rw [if_neg hp]; rfl
  refine ⟨by omega, h1, fun j hj => ?_⟩
  rw [sf_digsL] at hj
  rw [sf_digsG hj, if_neg (fun q => hp q.1), hl, ← h2 (tp_dg xv.toInt.natAbs - 1 - j) (by omega), show xi - 1 - (tp_dg xv.toInt.natAbs - 1 - j) = b + j by omega]
theorem sf_apN {u fb : Nat → Int32} {xv : Int32} {xi b : Nat} (h1 : ∀ j : Nat, j < b → u j = fb j) (h2 : ∀ p : Nat, p < tp_dg xv.toInt.natAbs → u (xi - 1 - p) = sf_dg xv.toInt.natAbs p) (hb : b + tp_dg xv.toInt.natAbs = xi) (h1b : 1 ≤ b) (hp : xv.toInt < 0) : b - 1 + tp_dl xv = xi ∧ sf_ap (upd u (b - 1) 45) fb (b - 1) (sf_digs xv) := by
  have hl : tp_dl xv = tp_dg xv.toInt.natAbs + 1 := by unfold tp_dl; rw [if_pos hp]
  refine ⟨by omega, fun j hj => ?_, fun j hj => ?_⟩
  · rw [sf_upne (by omega)]
    exact h1 j (by omega)
  · rw [sf_digsL] at hj
    rw [sf_digsG hj]
    by_cases e : j = 0
    · subst e
      rw [if_pos ⟨hp, rfl⟩, Nat.add_zero, sf_ups]
    · rw [if_neg (fun q => e q.2), sf_upne (by omega), hl, ← h2 (tp_dg xv.toInt.natAbs + 1 - 1 - j) (by omega), show xi - 1 - (tp_dg xv.toInt.natAbs + 1 - 1 - j) = b - 1 + j by omega]
/-- the ends of getChars: one digit left, or two -/
theorem sf_gA {fb f : Nat → Int32} {xv x xi cp : Int32} (h : sf_gc fb f xv x xi cp) (hx0 : x.toInt ≤ 0) (hl : (-100) < x) (h9 : (-9) ≤ x) (hc : 1 ≤ cp.toInt) : ∃ b : Nat, b = cp.toNatClampNeg - 1 ∧ b + tp_dg xv.toInt.natAbs = xi.toNatClampNeg ∧ (∀ j : Nat, j < b → upd f (cp + (-1)).toNatClampNeg (vp_nar .byte (tp_ones.getD (-x).toNatClampNeg 0)) j = fb j) ∧ ∀ p : Nat, p < tp_dg xv.toInt.natAbs → upd f (cp + (-1)).toNatClampNeg (vp_nar .byte (tp_ones.getD (-x).toNatClampNeg 0)) (xi.toNatClampNeg - 1 - p) = sf_dg xv.toInt.natAbs p := by
  obtain ⟨k, hk⟩ := h
  have g := Int32.le_iff_toInt_le.mp h9
  rw [show (-9 : Int32).toInt = -9 from rfl] at g
  have hn : (-x).toNatClampNeg = x.toInt.natAbs := by
    have e : (-x).toInt = -x.toInt := by rw [Int32.toInt_neg]; exact Int.bmod_eq_of_le (by omega) (by omega)
    show (-x).toInt.toNat = _
    omega
  have h10 : x.toInt.natAbs < 10 := by omega
  have hd : tp_dg x.toInt.natAbs = 1 := tp_dge1 h10
  obtain ⟨o1, -⟩ := sf_onT x.toInt.natAbs (by omega)
  have hc1 : 1 ≤ cp.toNatClampNeg := by show 1 ≤ cp.toInt.toNat; omega
  have h4 := hk.2.2.2.2
  have h0 := hk.1
  rw [hn, sf_n1 hc]
  obtain ⟨r1, r2⟩ := sf_gn1 hk hc1 o1
  exact ⟨_, rfl, by omega, r1, fun p hp => r2 p (by omega)⟩
theorem sf_gB {fb f : Nat → Int32} {xv x xi cp : Int32} (h : sf_gc fb f xv x xi cp) (hx0 : x.toInt ≤ 0) (hl : (-100) < x) (h9 : ¬ (-9) ≤ x) (hc : 2 ≤ cp.toInt) : ∃ b : Nat, b = cp.toNatClampNeg - 2 ∧ b + tp_dg xv.toInt.natAbs = xi.toNatClampNeg ∧ (∀ j : Nat, j < b → upd (upd f (cp + (-1)).toNatClampNeg (vp_nar .byte (tp_ones.getD (-x).toNatClampNeg 0))) ((cp + (-1)) + (-1)).toNatClampNeg (vp_nar .byte (tp_tens.getD (-x).toNatClampNeg 0)) j = fb j) ∧ ∀ p : Nat, p < tp_dg xv.toInt.natAbs → upd (upd f (cp + (-1)).toNatClampNeg (vp_nar .byte (tp_ones.getD (-x).toNatClampNeg 0))) ((cp + (-1)) + (-1)).toNatClampNeg (vp_nar .byte (tp_tens.getD (-x).toNatClampNeg 0)) (xi.toNatClampNeg - 1 - p) = sf_dg xv.toInt.natAbs p := by
  obtain ⟨k, hk⟩ := h
  have g := tp_na10 h9
  have g2 := Int32.lt_iff_toInt_lt.mp hl
  rw [show (-100 : Int32).toInt = -100 from rfl] at g2
  have hn : (-x).toNatClampNeg = x.toInt.natAbs := by
    have e : (-x).toInt = -x.toInt := by rw [Int32.toInt_neg]; exact Int.bmod_eq_of_le (by omega) (by omega)
    show (-x).toInt.toNat = _
    omega
  have h100 : x.toInt.natAbs < 100 := by omega
  have hd : tp_dg x.toInt.natAbs = 2 := tp_dge2 g h100
  obtain ⟨o1, o2⟩ := sf_onT x.toInt.natAbs h100
  have hc1 : 2 ≤ cp.toNatClampNeg := by show 2 ≤ cp.toInt.toNat; omega
  have h4 := hk.2.2.2.2
  have h0 := hk.1
  rw [hn, sf_n1 (by omega), sf_n2 hc]
  obtain ⟨r1, r2⟩ := sf_gn2a hk hc1 o1 (o2.trans (by rw [Nat.mod_eq_of_lt (show x.toInt.natAbs / 10 < 10 by omega)]))
  exact ⟨_, rfl, by omega, r1, fun p hp => r2 p (by omega)⟩
theorem sf_rx {x : Int32} (hx0 : x.toInt ≤ 0) : ((x / 100) * 100 - x).toNatClampNeg = x.toInt.natAbs % 100 := by
  have h1 := Int32.le_toInt x
  have h2 := tp_mul100 hx0
  have e : ((x / 100) * 100 - x).toInt = ((x / 100) * 100).toInt - x.toInt := tp_subI (by rw [h2]; omega) (by rw [h2]; omega)
  show ((x / 100) * 100 - x).toInt.toNat = _
  omega
theorem sf_nabs {x : Int32} : (-x).toInt.natAbs = x.toInt.natAbs := by
  have h1 := Int32.le_toInt x
  have h2 := Int32.toInt_lt x
  by_cases e : x.toInt = -2147483648
  · have : x = -2147483648 := Int32.toInt_inj.mp (by rw [e]; rfl)
    rw [this]
    decide
  · have e2 : (-x).toInt = -x.toInt := by rw [Int32.toInt_neg]; exact Int.bmod_eq_of_le (by omega) (by omega)
    rw [e2, Int.natAbs_neg]
theorem sf_neg {v : Int32} (h : ¬ 0 ≤ v) : v.toInt < 0 := by
  have := Int32.lt_iff_toInt_lt.mp (Int32.not_le.mp h)
  rwa [Int32.toInt_zero] at this
theorem sf_nneg {v : Int32} (h : 0 ≤ v) : ¬ v.toInt < 0 := by
  have := Int32.le_iff_toInt_le.mp h
  rw [Int32.toInt_zero] at this
  omega
theorem sf_cb2 {cp : Int32} {b : Nat} (h : 2 ≤ cp.toInt) (hb : b = cp.toNatClampNeg - 1) : ((cp + (-1)) + (-1)).toNatClampNeg = b - 1 := by
  rw [sf_n2 h, hb]
  omega
theorem sf_cb3 {cp : Int32} {b : Nat} (h : 3 ≤ cp.toInt) (hb : b = cp.toNatClampNeg - 2) : (((cp + (-1)) + (-1)) + (-1)).toNatClampNeg = b - 1 := by
  have e1 := sf_m1 (cp := cp) (by omega)
  have e2 := sf_m1 (cp := cp + (-1)) (by omega)
  rw [sf_n1 (by omega), sf_n2 (by omega), hb]
theorem sf_b1 {cp : Int32} {b m : Nat} (hb : b = cp.toNatClampNeg - m) (h : (m : Int) + 1 ≤ cp.toInt) : 1 ≤ b := by
  have : cp.toNatClampNeg = cp.toInt.toNat := rfl
  omega
/-! what is written, as a list -/
/-- the first c of f are the letters L -/
def sf_is (f : Nat → Int32) (c : Int32) (L : List Int32) : Prop := c.toInt = (L.length : Int) ∧ ∀ j : Nat, j < L.length → f j = L.getD j 0
theorem sf_is0 {f : Nat → Int32} : sf_is f 0 [] := ⟨rfl, fun j h => absurd h (Nat.not_lt_zero j)⟩
theorem sf_isP {f g : Nat → Int32} {c d : Int32} {L M : List Int32} (h : sf_is f c L) (ha : sf_ap g f L.length M) (hd : d.toInt = c.toInt + (M.length : Int)) : sf_is g d (L ++ M) := by
  have h1 := h.1
  refine ⟨by rw [List.length_append]; omega, fun j hj => ?_⟩
  rw [List.length_append] at hj
  by_cases e : j < L.length
  · rw [ha.1 j e, h.2 j e, List.getD_eq_getElem?_getD, List.getD_eq_getElem?_getD, List.getElem?_append_left e]
  · have h3 := ha.2 (j - L.length) (by omega)
    rw [show L.length + (j - L.length) = j by omega] at h3
    rw [h3, List.getD_eq_getElem?_getD, List.getD_eq_getElem?_getD, List.getElem?_append_right (by omega)]
theorem sf_isU {f g : Nat → Int32} {c : Int32} {L : List Int32} {v : Int32} (h : sf_is f c L) (hc : 0 ≤ c.toInt ∧ c.toInt < 1000) (hk : ∀ j : Nat, j < L.length → g j = f j) : sf_is (upd g c.toNatClampNeg v) (c + 1) (L ++ [v]) := by
  have h1 := h.1
  have e : c.toNatClampNeg = L.length := by show c.toInt.toNat = _; omega
  refine sf_isP h ⟨fun j hj => ?_, fun j hj => ?_⟩ (by rw [tp_inc (by omega), List.length_singleton]; omega)
  · rw [sf_upne (by omega)]
    exact hk j hj
  · have hj1 : j < 1 := hj
    have e2 : j = 0 := by omega
    subst e2
    rw [e, Nat.add_zero, sf_ups]
    rfl
theorem sf_isC {f g : Nat → Int32} {c : Int32} {L : List Int32} {v : Int32} (h : sf_is f c L) (hc : 0 ≤ c.toInt ∧ c.toInt < 34) (hk : ∀ j : Nat, j < L.length → g j = f j) : sf_is (upd g c.toNatClampNeg v) (c + 1) (L ++ [v]) := sf_isU h (by omega) hk
theorem sf_isM {f : Nat → Int32} {c : Int32} {L : List Int32} {v : Int32} (h : sf_is f c L) (hc : 0 ≤ c.toInt ∧ c.toInt < 40) : sf_is (upd f c.toNatClampNeg v) (c + 1) (L ++ [v]) := sf_isU h (by omega) (fun _ _ => rfl)
theorem sf_kp {f g : Nat → Int32} {c : Int32} {L : List Int32} {n : Nat} (h : sf_is f c L) (hq : c.toInt ≤ (n : Int)) (hk : ∀ j : Nat, j < n → g j = f j) : ∀ j : Nat, j < L.length → g j = f j := fun j hj => hk j (by have := h.1; omega)
theorem sf_cpy {α : Type} {f g : Nat → α} {n j : Nat} (h : j < n) : va_cpy f g 0 0 n j = f j := by
  unfold va_cpy
  rw [if_pos ⟨Nat.zero_le _, by omega⟩, Nat.sub_zero, Nat.zero_add]
theorem sf_isI {f g u : Nat → Int32} {c xv sz : Int32} {L : List Int32} {n : Nat} (h : sf_is f c L) (hq : c.toInt ≤ (n : Int)) (hk : ∀ j : Nat, j < n → g j = f j) (ha : ∃ b : Nat, b + tp_dl xv = (c + sz).toNatClampNeg ∧ sf_ap u g b (sf_digs xv)) (hc : 0 ≤ c.toInt ∧ c.toInt + (tp_dl xv : Int) ≤ 34) (hs : sz.toInt = (tp_dl xv : Int)) : sf_is u (c + sz) (L ++ sf_digs xv) := by
  obtain ⟨b, hb, hap⟩ := ha
  have h1 := h.1
  have e := tp_ci3 hc hs
  have e2 : (c + sz).toNatClampNeg = (c + sz).toInt.toNat := rfl
  have e3 : b = L.length := by omega
  subst e3
  refine sf_isP h ⟨fun j hj => ?_, hap.2⟩ (by rw [sf_digsL]; exact e)
  rw [hap.1 j hj, sf_kp h hq hk j hj]
theorem sf_bytl : ∀ i, i < 97 → (tp_byt.getD i []).length = tp_len.getD i 0 ∧ tp_len.getD i 0 < 100 := by decide +kernel
theorem sf_lnl {i j : Nat} (hi : i < 97) (h : j < tp_len.getD i 0) : j < (Int32.ofNat (tp_len.getD i 0)).toNatClampNeg := by
  have h2 := (sf_bytl i hi).2
  show j < (Int32.ofNat (tp_len.getD i 0)).toInt.toNat
  rw [Int32.toInt_ofNat_of_lt (by omega)]
  omega
theorem sf_isS {f : Nat → Int32} {c : Int32} {i : Nat} (hi : i < 97) (hc : c.toInt = ((tp_len.getD i 0 : Nat) : Int)) (h : ∀ j : Nat, j < tp_len.getD i 0 → f j = (tp_byt.getD i []).getD j 0) : sf_is f c (tp_byt.getD i []) := by
  have h2 := (sf_bytl i hi).1
  exact ⟨by rw [h2]; exact hc, fun j hj => h j (by omega)⟩
/-- a letter as the builder keeps it; as charAt gives it -/
def sf_b (x : Int32) : Int32 := vp_nar .byte x.toInt8.toInt32
def sf_c (x : Int32) : Int32 := ((x &&& 255).toUInt32 % 65536).toInt32
theorem sf_isE {f : Nat → Int32} {c : Int32} {L A X : List Int32} (h : sf_is f c (L ++ A)) (e : X = A) : sf_is f c (L ++ X) := e ▸ h
theorem sf_isw {f : Nat → Int32} {c : Int32} {L A B X : List Int32} (h : sf_is f c ((L ++ A) ++ B)) (e : X = A ++ B) : sf_is f c (L ++ X) := by
  rw [e, ← List.append_assoc]
  exact h
/-- what an operand's letter writes -/
def sf_ow (ou : Nat) (xk xw : Int32) : List Int32 := if xk = 100 then [sf_b 120] ++ sf_digs (((xw.toUInt32 >>> (Int32.toUInt32 7 &&& Int32.toUInt32 31)).toInt32 &&& 31)) else if xk = 105 then sf_digs (tp_num (tp_lay.getD ou 0) xw) else if xk = 108 then sf_digs (tp_num (tp_lay.getD ou 0) xw) else if xk = 115 then [sf_b 120] ++ sf_digs (((xw.toUInt32 >>> (Int32.toUInt32 15 &&& Int32.toUInt32 31)).toInt32 &&& 31)) else if xk = 116 then [sf_b 120] ++ sf_digs (((xw.toUInt32 >>> (Int32.toUInt32 20 &&& Int32.toUInt32 31)).toInt32 &&& 31)) else [sf_b xk]
def sf_opl (u : Nat) (w : Int32) : Nat → List Int32
  | 0 => []
  | j + 1 => sf_opl u w j ++ sf_ow u ((tp_byt.getD (47 + u) []).getD j 0) w
def sf_TL (u : Nat) (w : Int32) : List Int32 := ((tp_byt.getD u []) ++ [sf_b 32]) ++ sf_opl u w (tp_len.getD (47 + u) 0)
theorem sf_op0 {f : Nat → Int32} {c : Int32} {L : List Int32} {u : Nat} {w : Int32} (h : sf_is f c L) : sf_is f c (L ++ sf_opl u w (0 : Int32).toInt.toNat) := by
  rw [show sf_opl u w (0 : Int32).toInt.toNat = [] from rfl, List.append_nil]
  exact h
theorem sf_opS {f : Nat → Int32} {c k : Int32} {L : List Int32} {u : Nat} {w : Int32} (e : (k + 1).toInt.toNat = k.toInt.toNat + 1) (h : sf_is f c ((L ++ sf_opl u w k.toInt.toNat) ++ sf_ow u ((tp_byt.getD (47 + u) []).getD k.toNatClampNeg 0) w)) : sf_is f c (L ++ sf_opl u w (k + 1).toInt.toNat) := by
  rw [e, show sf_opl u w (k.toInt.toNat + 1) = sf_opl u w k.toInt.toNat ++ sf_ow u ((tp_byt.getD (47 + u) []).getD k.toNatClampNeg 0) w from rfl, ← List.append_assoc]
  exact h
theorem sf_opE {f : Nat → Int32} {c k xw : Int32} {uo j : Nat} (hl7 : tp_len.getD (47 + uo) 0 ≤ 7) (hk0 : 0 ≤ k.toInt) (hkl : k.toInt + (j : Int) = (tp_len.getD (47 + uo) 0 : Nat)) (h : (Int32.ofNat (tp_len.getD (47 + uo) 0)) ≤ k) (hi : sf_is f c (((tp_byt.getD uo []) ++ [sf_b 32]) ++ sf_opl uo xw k.toInt.toNat)) : sf_is f c (sf_TL uo xw) := by
  rw [Int32.le_iff_toInt_le, tp_ofn (by omega)] at h
  have e : k.toInt.toNat = tp_len.getD (47 + uo) 0 := by omega
  rw [e] at hi
  exact hi
/-! the reference's digits -/
theorem sf_take1 : ∀ (l : List Int32) (n : Nat), n < l.length → l.take (n + 1) = l.take n ++ [l.getD n 0] := by
  intro l
  induction l with
  | nil => exact fun n h => absurd h (Nat.not_lt_zero n)
  | cons a t ih =>
    intro n h
    cases n with
    | zero => rfl
    | succ n =>
      show a :: t.take (n + 1) = a :: (t.take n ++ [t.getD n 0])
      rw [ih n (Nat.lt_of_succ_lt_succ h)]
theorem sf_dg0 {f : Nat → Int32} {c xv : Int32} {L : List Int32} (h : 0 ≤ xv) (hL : sf_is f c L) : sf_is f c (L ++ (sf_digs xv).take (tp_dl xv - tp_dg xv.toInt.natAbs)) := by
  have hl : tp_dl xv = tp_dg xv.toInt.natAbs := by unfold tp_dl; rw [if_neg (sf_nneg h)]; rfl
  rw [hl, Nat.sub_self, List.take_zero, List.append_nil]
  exact hL
theorem sf_dg1 {f : Nat → Int32} {c xv : Int32} {L : List Int32} (h : ¬ 0 ≤ xv) (hL : sf_is f c (L ++ [45])) : sf_is f c (L ++ (sf_digs xv).take (tp_dl xv - tp_dg xv.toInt.natAbs)) := by
  have hn := sf_neg h
  have hl : tp_dl xv = tp_dg xv.toInt.natAbs + 1 := by unfold tp_dl; rw [if_pos hn]
  rw [show tp_dl xv - tp_dg xv.toInt.natAbs = 0 + 1 by omega, sf_take1 _ 0 (by rw [sf_digsL]; omega), sf_digsG (by omega), if_pos ⟨hn, rfl⟩, List.take_zero, List.nil_append]
  exact hL
theorem sf_dgE {f : Nat → Int32} {wc mw xv : Int32} {L : List Int32} {r : Nat} (hr : wc.toInt + (r : Int) = mw.toInt + (tp_dl xv : Int)) (hwc : wc.toInt + (tp_dg xv.toInt.natAbs : Int) = mw.toInt + (tp_dl xv : Int)) (h : sf_is f wc (L ++ (sf_digs xv).take (tp_dl xv - tp_dg xv.toInt.natAbs))) : r ≤ tp_dg xv.toInt.natAbs ∧ sf_is f wc (L ++ (sf_digs xv).take (tp_dl xv - r)) := by
  have e : tp_dg xv.toInt.natAbs = r := by omega
  rw [e] at h
  exact ⟨by omega, h⟩
theorem sf_dgS {f : Nat → Int32} {c xv d : Int32} {L : List Int32} {r : Nat} (h1 : 1 ≤ r) (h2 : r ≤ tp_dg xv.toInt.natAbs) (hd : d = sf_dg xv.toInt.natAbs (r - 1)) (h : sf_is f c ((L ++ (sf_digs xv).take (tp_dl xv - r)) ++ [d])) : r - 1 ≤ tp_dg xv.toInt.natAbs ∧ sf_is f c (L ++ (sf_digs xv).take (tp_dl xv - (r - 1))) := by
  have hdl : tp_dg xv.toInt.natAbs ≤ tp_dl xv := by unfold tp_dl; omega
  have hn : ¬ (xv.toInt < 0 ∧ tp_dl xv - r = 0) := fun q => by
    have : tp_dl xv = tp_dg xv.toInt.natAbs + 1 := by unfold tp_dl; rw [if_pos q.1]
    omega
  refine ⟨by omega, ?_⟩
  rw [show tp_dl xv - (r - 1) = (tp_dl xv - r) + 1 by omega, sf_take1 _ _ (by rw [sf_digsL]; omega), sf_digsG (by omega), if_neg hn, show tp_dl xv - 1 - (tp_dl xv - r) = r - 1 by omega, ← hd, ← List.append_assoc]
  exact h
theorem sf_dgL {f : Nat → Int32} {c xv : Int32} {L : List Int32} {r : Nat} (h1 : r ≤ 10) (h : ¬ 0 < tp_Q r) (hi : sf_is f c (L ++ (sf_digs xv).take (tp_dl xv - r))) : sf_is f c (L ++ sf_digs xv) := by
  have e : r = 0 := by
    cases r with
    | zero => rfl
    | succ r => exact absurd (tp_Ppos r (by omega)).1 h
  subst e
  rw [Nat.sub_zero, List.take_of_length_le (by rw [sf_digsL]; exact Nat.le_refl _)] at hi
  exact hi
theorem sf_d64 {q : Int64} {n : Nat} (hq : q.toInt = (n : Int)) (hn : n < 4294967296) : (48 + (q - q / 10 * 10)).toInt32 = Int32.ofNat (48 + n % 10) := by
  have e1 : (q / 10).toInt = ((n / 10 : Nat) : Int) := by
    have e : q.toInt.tdiv (10 : Int64).toInt = ((n / 10 : Nat) : Int) := by
      rw [hq, show (10 : Int64).toInt = ((10 : Nat) : Int) from rfl]; rfl
    rw [Int64.toInt_div, Int.bmod_eq_of_le (by rw [e]; omega) (by rw [e]; omega)]
    exact e
  have e2 : (q / 10 * 10).toInt = ((n / 10 : Nat) : Int) * 10 := by
    rw [Int64.toInt_mul, e1, show (10 : Int64).toInt = 10 from rfl]
    exact Int.bmod_eq_of_le (by omega) (by omega)
  have e3 : (q - q / 10 * 10).toInt = ((n % 10 : Nat) : Int) := by
    rw [Int64.toInt_sub, e2, hq, Int.bmod_eq_of_le (by omega) (by omega)]
    omega
  have e4 : (48 + (q - q / 10 * 10)).toInt = ((48 + n % 10 : Nat) : Int) := by
    rw [Int64.toInt_add, e3, show (48 : Int64).toInt = 48 from rfl, Int.bmod_eq_of_le (by omega) (by omega)]
    omega
  apply Int32.toInt_inj.mp
  rw [Int64.toInt_toInt32, e4, Int32.toInt_ofNat_of_lt (by omega)]
  exact Int.bmod_eq_of_le (by omega) (by omega)
theorem sf_dgv {vv : Int64} {xv : Int32} {rr : Nat} (hvv : vv.toInt = (xv.toInt.natAbs : Int)) (h1 : 1 ≤ rr) (h2 : rr ≤ 10) : (48 + ((vv / (tp_Q rr)) - (vv / (tp_Q rr)) / 10 * 10)).toInt32 = sf_dg xv.toInt.natAbs (rr - 1) := by
  have e : tp_Q rr = tp_P (rr - 1) := by
    cases rr with
    | zero => exact absurd h1 (by decide)
    | succ r => rfl
  have h3 := tp_vdiv (ii := rr - 1) hvv (by omega)
  have h4 : xv.toInt.natAbs / 10 ^ (rr - 1) ≤ xv.toInt.natAbs := Nat.div_le_self _ _
  have h5 := Int32.le_toInt xv
  have h6 := Int32.toInt_lt xv
  rw [e]
  exact sf_d64 h3 (Nat.lt_of_le_of_lt h4 (by omega))
/-! the reference's names -/
/-- the letters in the lowest j bytes of v, the highest first -/
def sf_nm (v : Int64) : Nat → List Int32
  | 0 => []
  | j + 1 => (if ((v >>> (Int32.toInt64 (8 * Int32.ofNat j) &&& 63)) &&& 255).toInt32 ≤ 0 then [] else [((v >>> (Int32.toInt64 (8 * Int32.ofNat j) &&& 63)) &&& 255).toInt32]) ++ sf_nm v j
theorem sf_ny0 {v : Int64} {i3 : Int32} {j : Nat} (hge : 0 ≤ i3.toInt) (hj : i3.toInt + 1 = (j : Int)) (h : ((v >>> (Int32.toInt64 (8 * i3) &&& 63)) &&& 255).toInt32 ≤ 0) : sf_nm v j = sf_nm v (j - 1) := by
  obtain ⟨e1, e2⟩ := tp_i3j hge hj
  rw [e1]
  show (if ((v >>> (Int32.toInt64 (8 * Int32.ofNat (j - 1)) &&& 63)) &&& 255).toInt32 ≤ 0 then [] else _) ++ sf_nm v (j - 1) = _
  rw [e2, if_pos h]
  rfl
theorem sf_ny1 {v : Int64} {i3 : Int32} {j : Nat} (hge : 0 ≤ i3.toInt) (hj : i3.toInt + 1 = (j : Int)) (h : ¬ ((v >>> (Int32.toInt64 (8 * i3) &&& 63)) &&& 255).toInt32 ≤ 0) : sf_nm v j = ((v >>> (Int32.toInt64 (8 * i3) &&& 63)) &&& 255).toInt32 :: sf_nm v (j - 1) := by
  obtain ⟨e1, e2⟩ := tp_i3j hge hj
  rw [e1]
  show (if ((v >>> (Int32.toInt64 (8 * Int32.ofNat (j - 1)) &&& 63)) &&& 255).toInt32 ≤ 0 then [] else [((v >>> (Int32.toInt64 (8 * Int32.ofNat (j - 1)) &&& 63)) &&& 255).toInt32]) ++ sf_nm v (j - 1) = _
  rw [e2, if_neg h]
  rfl
theorem sf_nmA {A B C D : List Int32} (h : A ++ B = D) (e : B = C) : A ++ C = D := e ▸ h
theorem sf_nmB {A B C D : List Int32} {x : Int32} (h : A ++ B = D) (e : B = x :: C) : (A ++ [x]) ++ C = D := by
  rw [List.append_assoc, ← h, e]
  rfl
theorem sf_nmx {v : Int64} {i3 : Int32} {j : Nat} {A D : List Int32} (h3 : -1 ≤ i3.toInt ∧ i3.toInt ≤ 7) (hj : i3.toInt + 1 = (j : Int)) (h : A ++ sf_nm v j = D) (hn : i3 < 0) : A = D := by
  rw [Int32.lt_iff_toInt_lt, Int32.toInt_zero] at hn
  have e : j = 0 := by omega
  subst e
  rw [← h, show sf_nm v 0 = [] from rfl, List.append_nil]
def sf_ml (xf xw : Int32) : List Int32 := if xf = 1 then [32] ++ ([120] ++ (sf_digs ((xw >>> (7 &&& 31 : Int32)) &&& 31) ++ ([44] ++ ([120] ++ (sf_digs ((xw >>> (15 &&& 31 : Int32)) &&& 31) ++ ([44] ++ ([120] ++ (sf_digs ((xw >>> (20 &&& 31 : Int32)) &&& 31))))))))) else if xf = 2 then [32] ++ ([120] ++ (sf_digs ((xw >>> (7 &&& 31 : Int32)) &&& 31) ++ ([44] ++ ([120] ++ (sf_digs ((xw >>> (15 &&& 31 : Int32)) &&& 31) ++ ([44] ++ (sf_digs (if (xw.toUInt32 >>> (Int32.toUInt32 20 &&& Int32.toUInt32 31)).toInt32 < 2048 then (xw.toUInt32 >>> (Int32.toUInt32 20 &&& Int32.toUInt32 31)).toInt32 else (xw.toUInt32 >>> (Int32.toUInt32 20 &&& Int32.toUInt32 31)).toInt32 - 4096)))))))) else if xf = 3 then [32] ++ ([120] ++ (sf_digs ((xw >>> (7 &&& 31 : Int32)) &&& 31) ++ ([44] ++ ([120] ++ (sf_digs ((xw >>> (15 &&& 31 : Int32)) &&& 31) ++ ([44] ++ (sf_digs ((xw >>> (20 &&& 31 : Int32)) &&& 63)))))))) else if xf = 4 then [32] ++ ([120] ++ (sf_digs ((xw >>> (7 &&& 31 : Int32)) &&& 31) ++ ([44] ++ (sf_digs ((xw.toUInt32 >>> (Int32.toUInt32 12 &&& Int32.toUInt32 31)).toInt32))))) else if xf = 5 then [32] ++ ([120] ++ (sf_digs ((xw >>> (7 &&& 31 : Int32)) &&& 31) ++ ([44] ++ (sf_digs (if (xw.toUInt32 >>> (Int32.toUInt32 20 &&& Int32.toUInt32 31)).toInt32 < 2048 then (xw.toUInt32 >>> (Int32.toUInt32 20 &&& Int32.toUInt32 31)).toInt32 else (xw.toUInt32 >>> (Int32.toUInt32 20 &&& Int32.toUInt32 31)).toInt32 - 4096) ++ ([40] ++ ([120] ++ (sf_digs ((xw >>> (15 &&& 31 : Int32)) &&& 31) ++ ([41])))))))) else if xf = 6 then [32] ++ ([120] ++ (sf_digs ((xw >>> (20 &&& 31 : Int32)) &&& 31) ++ ([44] ++ (sf_digs (if (((xw.toUInt32 >>> (Int32.toUInt32 25 &&& Int32.toUInt32 31)).toInt32 * 32) + ((xw >>> (7 &&& 31 : Int32)) &&& 31)) < 2048 then (((xw.toUInt32 >>> (Int32.toUInt32 25 &&& Int32.toUInt32 31)).toInt32 * 32) + ((xw >>> (7 &&& 31 : Int32)) &&& 31)) else (((xw.toUInt32 >>> (Int32.toUInt32 25 &&& Int32.toUInt32 31)).toInt32 * 32) + ((xw >>> (7 &&& 31 : Int32)) &&& 31)) - 4096) ++ ([40] ++ ([120] ++ (sf_digs ((xw >>> (15 &&& 31 : Int32)) &&& 31) ++ ([41])))))))) else if xf = 7 then [32] ++ ([120] ++ (sf_digs ((xw >>> (15 &&& 31 : Int32)) &&& 31) ++ ([44] ++ ([120] ++ (sf_digs ((xw >>> (20 &&& 31 : Int32)) &&& 31) ++ ([44] ++ (sf_digs (if (((((xw.toUInt32 >>> (Int32.toUInt32 31 &&& Int32.toUInt32 31)).toInt32 * 4096) + (((xw >>> (7 &&& 31 : Int32)) &&& 1) * 2048)) + (((xw >>> (25 &&& 31 : Int32)) &&& 63) * 32)) + (((xw >>> (8 &&& 31 : Int32)) &&& 15) * 2)) < 4096 then (((((xw.toUInt32 >>> (Int32.toUInt32 31 &&& Int32.toUInt32 31)).toInt32 * 4096) + (((xw >>> (7 &&& 31 : Int32)) &&& 1) * 2048)) + (((xw >>> (25 &&& 31 : Int32)) &&& 63) * 32)) + (((xw >>> (8 &&& 31 : Int32)) &&& 15) * 2)) else (((((xw.toUInt32 >>> (Int32.toUInt32 31 &&& Int32.toUInt32 31)).toInt32 * 4096) + (((xw >>> (7 &&& 31 : Int32)) &&& 1) * 2048)) + (((xw >>> (25 &&& 31 : Int32)) &&& 63) * 32)) + (((xw >>> (8 &&& 31 : Int32)) &&& 15) * 2)) - 8192)))))))) else if xf = 8 then [32] ++ ([120] ++ (sf_digs ((xw >>> (7 &&& 31 : Int32)) &&& 31) ++ ([44] ++ (sf_digs (if (((((xw.toUInt32 >>> (Int32.toUInt32 31 &&& Int32.toUInt32 31)).toInt32 * 1048576) + (((xw >>> (12 &&& 31 : Int32)) &&& 255) * 4096)) + (((xw >>> (20 &&& 31 : Int32)) &&& 1) * 2048)) + (((xw >>> (21 &&& 31 : Int32)) &&& 1023) * 2)) < 1048576 then (((((xw.toUInt32 >>> (Int32.toUInt32 31 &&& Int32.toUInt32 31)).toInt32 * 1048576) + (((xw >>> (12 &&& 31 : Int32)) &&& 255) * 4096)) + (((xw >>> (20 &&& 31 : Int32)) &&& 1) * 2048)) + (((xw >>> (21 &&& 31 : Int32)) &&& 1023) * 2)) else (((((xw.toUInt32 >>> (Int32.toUInt32 31 &&& Int32.toUInt32 31)).toInt32 * 1048576) + (((xw >>> (12 &&& 31 : Int32)) &&& 255) * 4096)) + (((xw >>> (20 &&& 31 : Int32)) &&& 1) * 2048)) + (((xw >>> (21 &&& 31 : Int32)) &&& 1023) * 2)) - 2097152))))) else []
/-! both write the same -/
theorem sf_bE : sf_b 44 = 44 ∧ sf_b 40 = 40 ∧ sf_b 41 = 41 ∧ sf_b 32 = 32 ∧ sf_b 120 = 120 := by decide +kernel
theorem sf_owR {u : Nat} {w : Int32} : sf_ow u 100 w = [120] ++ sf_digs ((w >>> (7 &&& 31 : Int32)) &&& 31) ∧ sf_ow u 115 w = [120] ++ sf_digs ((w >>> (15 &&& 31 : Int32)) &&& 31) ∧ sf_ow u 116 w = [120] ++ sf_digs ((w >>> (20 &&& 31 : Int32)) &&& 31) := by
  rw [← (tp_reg w).1, ← (tp_reg w).2.1, ← (tp_reg w).2.2, ← sf_bE.2.2.2.2]
  exact ⟨rfl, rfl, rfl⟩
theorem sf_owI {u : Nat} {w : Int32} : sf_ow u 105 w = sf_digs (tp_num (tp_lay.getD u 0) w) ∧ sf_ow u 108 w = sf_digs (tp_num (tp_lay.getD u 0) w) := ⟨rfl, rfl⟩
theorem sf_owC {u : Nat} {w : Int32} : sf_ow u 44 w = [44] ∧ sf_ow u 40 w = [40] ∧ sf_ow u 41 w = [41] := by
  refine ⟨?_, ?_, ?_⟩
  · show [sf_b 44] = [44]
    rw [sf_bE.1]
  · show [sf_b 40] = [40]
    rw [sf_bE.2.1]
  · show [sf_b 41] = [41]
    rw [sf_bE.2.2.1]
theorem sf_o3 {u : Nat} {w a b c : Int32} (h : tp_ops u = [a, b, c]) : sf_opl u w 3 = sf_ow u a w ++ (sf_ow u b w ++ sf_ow u c w) := by
  show (([] ++ sf_ow u ((tp_ops u).getD 0 0) w) ++ sf_ow u ((tp_ops u).getD 1 0) w) ++ sf_ow u ((tp_ops u).getD 2 0) w = _
  rw [h, List.nil_append, List.append_assoc]
  rfl
theorem sf_o5 {u : Nat} {w a b c d e : Int32} (h : tp_ops u = [a, b, c, d, e]) : sf_opl u w 5 = sf_ow u a w ++ (sf_ow u b w ++ (sf_ow u c w ++ (sf_ow u d w ++ sf_ow u e w))) := by
  show (((([] ++ sf_ow u ((tp_ops u).getD 0 0) w) ++ sf_ow u ((tp_ops u).getD 1 0) w) ++ sf_ow u ((tp_ops u).getD 2 0) w) ++ sf_ow u ((tp_ops u).getD 3 0) w) ++ sf_ow u ((tp_ops u).getD 4 0) w = _
  rw [h, List.nil_append, List.append_assoc, List.append_assoc, List.append_assoc]
  rfl
theorem sf_o6 {u : Nat} {w a b c d e f : Int32} (h : tp_ops u = [a, b, c, d, e, f]) : sf_opl u w 6 = sf_ow u a w ++ (sf_ow u b w ++ (sf_ow u c w ++ (sf_ow u d w ++ (sf_ow u e w ++ sf_ow u f w)))) := by
  show ((((([] ++ sf_ow u ((tp_ops u).getD 0 0) w) ++ sf_ow u ((tp_ops u).getD 1 0) w) ++ sf_ow u ((tp_ops u).getD 2 0) w) ++ sf_ow u ((tp_ops u).getD 3 0) w) ++ sf_ow u ((tp_ops u).getD 4 0) w) ++ sf_ow u ((tp_ops u).getD 5 0) w = _
  rw [h, List.nil_append, List.append_assoc, List.append_assoc, List.append_assoc, List.append_assoc]
  rfl
theorem sf_nmE : ∀ i, i < 33 → tp_byt.getD (tp_tau.getD i 0) [] = sf_nm (tp_names.getD i 0) 8 := by decide +kernel
theorem sf_TM (w : Int32) (i : Nat) (hi : i < 33) : sf_TL (tp_tau.getD i 0) w = sf_nm (tp_names.getD i 0) 8 ++ sf_ml (tp_FF i / 100000) w := by
  unfold sf_TL
  rw [sf_nmE i hi, List.append_assoc, sf_bE.2.2.2.1]
  have c4 := @sf_owC (tp_tau.getD i 0) w
  have cr := @sf_owR (tp_tau.getD i 0) w
  have ci := @sf_owI (tp_tau.getD i 0) w
  refine congrArg (fun z => sf_nm (tp_names.getD i 0) 8 ++ z) ?_
  rcases tp_f80 i hi with h | h | h | h | h | h | h | h
  · obtain ⟨k1, k2⟩ := tp_kO1 i hi h
    rw [k2, sf_o5 k1, h, cr.1, cr.2.1, cr.2.2, c4.1]
    show _ = [32] ++ ([120] ++ (_ ++ ([44] ++ ([120] ++ (_ ++ ([44] ++ ([120] ++ _)))))))
    simp only [List.append_assoc]
  · obtain ⟨k1, k2, k3⟩ := tp_kO2 i hi h
    rw [k2, sf_o5 k1, h, cr.1, cr.2.1, ci.1, k3, c4.1, show tp_num 2 w = _ from tp_num2 w]
    show _ = [32] ++ ([120] ++ (_ ++ ([44] ++ ([120] ++ (_ ++ ([44] ++ _))))))
    simp only [List.append_assoc]
  · obtain ⟨k1, k2, k3⟩ := tp_kO3 i hi h
    rw [k2, sf_o5 k1, h, cr.1, cr.2.1, ci.1, k3, c4.1, show tp_num 3 w = _ from tp_num3 w]
    show _ = [32] ++ ([120] ++ (_ ++ ([44] ++ ([120] ++ (_ ++ ([44] ++ _))))))
    simp only [List.append_assoc]
  · obtain ⟨k1, k2, k3⟩ := tp_kO4 i hi h
    rw [k2, sf_o3 k1, h, cr.1, ci.1, k3, c4.1]
    show _ = [32] ++ ([120] ++ (_ ++ ([44] ++ sf_digs (tp_num 4 w))))
    simp only [List.append_assoc]
  · obtain ⟨k1, k2, k3⟩ := tp_kO5 i hi h
    rw [k2, sf_o6 k1, h, cr.1, cr.2.1, ci.1, k3, c4.1, c4.2.1, c4.2.2, show tp_num 2 w = _ from tp_num2 w]
    show _ = [32] ++ ([120] ++ (_ ++ ([44] ++ (_ ++ ([40] ++ ([120] ++ (_ ++ [41])))))))
    simp only [List.append_assoc]
  · obtain ⟨k1, k2, k3⟩ := tp_kO6 i hi h
    rw [k2, sf_o6 k1, h, cr.2.2, cr.2.1, ci.1, k3, c4.1, c4.2.1, c4.2.2, show tp_num 5 w = _ from tp_num5 w]
    show _ = [32] ++ ([120] ++ (_ ++ ([44] ++ (_ ++ ([40] ++ ([120] ++ (_ ++ [41])))))))
    simp only [List.append_assoc]
  · obtain ⟨k1, k2, k3⟩ := tp_kO7 i hi h
    rw [k2, sf_o5 k1, h, cr.2.2, cr.2.1, ci.2, k3, c4.1, show tp_num 6 w = _ from tp_num6 w]
    show _ = [32] ++ ([120] ++ (_ ++ ([44] ++ ([120] ++ (_ ++ ([44] ++ _))))))
    simp only [List.append_assoc]
  · obtain ⟨k1, k2, k3⟩ := tp_kO8 i hi h
    rw [k2, sf_o3 k1, h, cr.1, ci.2, k3, c4.1, show tp_num 7 w = _ from tp_num7 w]
    show _ = [32] ++ ([120] ++ (_ ++ ([44] ++ _)))
    simp only [List.append_assoc]
/-! letters that charAt gives as they are -/
def sf_okL (L : List Int32) : Prop := ∀ x : Int32, x ∈ L → sf_c x = x
theorem sf_ok0 : sf_okL [] := fun x h => absurd h List.not_mem_nil
theorem sf_okA {L M : List Int32} (h1 : sf_okL L) (h2 : sf_okL M) : sf_okL (L ++ M) := fun x h => (List.mem_append.mp h).elim (h1 x) (h2 x)
theorem sf_ok1 {v : Int32} (h : sf_c v = v) : sf_okL [v] := fun x hx => by
  rw [List.mem_singleton.mp hx]
  exact h
theorem sf_okd : ∀ n : Nat, n < 10 → sf_c (Int32.ofNat (48 + n)) = Int32.ofNat (48 + n) := by decide +kernel
theorem sf_ok45 : sf_c 45 = 45 ∧ sf_c 32 = 32 ∧ sf_c 120 = 120 ∧ sf_c 44 = 44 ∧ sf_c 40 = 40 ∧ sf_c 41 = 41 := by decide +kernel
theorem sf_okD (v : Int32) : sf_okL (sf_digs v) := fun x hx => by
  unfold sf_digs at hx
  obtain ⟨j, -, rfl⟩ := List.mem_map.mp hx
  show sf_c (if v.toInt < 0 ∧ j = 0 then 45 else sf_dg v.toInt.natAbs (tp_dl v - 1 - j)) = (if v.toInt < 0 ∧ j = 0 then 45 else sf_dg v.toInt.natAbs (tp_dl v - 1 - j))
  by_cases e : v.toInt < 0 ∧ j = 0
  · rw [if_pos e]
    exact sf_ok45.1
  · rw [if_neg e]
    exact sf_okd _ (Nat.mod_lt _ (by decide))
theorem sf_okN0 : ∀ i, i < 33 → ∀ x, x ∈ sf_nm (tp_names.getD i 0) 8 → sf_c x = x := by decide +kernel
theorem sf_okM (w : Int32) (i : Nat) (hi : i < 33) : sf_okL (sf_nm (tp_names.getD i 0) 8 ++ sf_ml (tp_FF i / 100000) w) := by
  refine sf_okA (sf_okN0 i hi) ?_
  have d : ∀ v : Int32, sf_okL (sf_digs v) := sf_okD
  have s1 : sf_okL [32] := sf_ok1 sf_ok45.2.1
  have s2 : sf_okL [120] := sf_ok1 sf_ok45.2.2.1
  have s3 : sf_okL [44] := sf_ok1 sf_ok45.2.2.2.1
  have s4 : sf_okL [40] := sf_ok1 sf_ok45.2.2.2.2.1
  have s5 : sf_okL [41] := sf_ok1 sf_ok45.2.2.2.2.2
  rcases tp_f80 i hi with h | h | h | h | h | h | h | h
  · rw [h]; exact sf_okA s1 (sf_okA s2 (sf_okA (d _) (sf_okA s3 (sf_okA s2 (sf_okA (d _) (sf_okA s3 (sf_okA s2 (d _))))))))
  · rw [h]; exact sf_okA s1 (sf_okA s2 (sf_okA (d _) (sf_okA s3 (sf_okA s2 (sf_okA (d _) (sf_okA s3 (d _)))))))
  · rw [h]; exact sf_okA s1 (sf_okA s2 (sf_okA (d _) (sf_okA s3 (sf_okA s2 (sf_okA (d _) (sf_okA s3 (d _)))))))
  · rw [h]; exact sf_okA s1 (sf_okA s2 (sf_okA (d _) (sf_okA s3 (d _))))
  · rw [h]; exact sf_okA s1 (sf_okA s2 (sf_okA (d _) (sf_okA s3 (sf_okA (d _) (sf_okA s4 (sf_okA s2 (sf_okA (d _) s5)))))))
  · rw [h]; exact sf_okA s1 (sf_okA s2 (sf_okA (d _) (sf_okA s3 (sf_okA (d _) (sf_okA s4 (sf_okA s2 (sf_okA (d _) s5)))))))
  · rw [h]; exact sf_okA s1 (sf_okA s2 (sf_okA (d _) (sf_okA s3 (sf_okA s2 (sf_okA (d _) (sf_okA s3 (d _)))))))
  · rw [h]; exact sf_okA s1 (sf_okA s2 (sf_okA (d _) (sf_okA s3 (d _))))
/-- behind show: both hold the same letters -/
theorem sf_shL {xw r t b w cv : Int32} {fO : Nat → Int64} {fN : Nat → Int64} {fF fv fo : Nat → Int32} (hs : (r = 0 ∧ ∃ (v : Nat) (n : Int32), tp_hit xw v ∧ ¬ v = 0 ∧ n.toInt = (tp_lenT v xw : Nat) ∧ fO 0 = n.toInt64 ∧ sf_is fv cv (sf_TL v xw)) ∨ (r = 1 ∧ tp_hit xw 0 ∧ cv = 0)) (hm : (t = 1 ∧ tp_mhit xw fF (-1) ∧ w = 0) ∨ (t = 0 ∧ (∃ ko : Int32, tp_mhit xw fF ko ∧ 0 ≤ ko.toInt ∧ b.toInt = (tp_nr (fN ko.toNatClampNeg) 8 : Nat) + (tp_lm ((fF ko.toNatClampNeg) / 100000) xw : Nat) ∧ sf_is fo b (sf_nm (fN ko.toNatClampNeg) 8 ++ sf_ml (fF ko.toNatClampNeg / 100000) xw)) ∧ w = b ∧ 0 ≤ b.toInt ∧ b.toInt ≤ 40)) (hF : ∀ i : Nat, i < 33 → fF i = tp_forms.getD i 0) (hN : ∀ i : Nat, i < 33 → fN i = tp_names.getD i 0) : ∃ La : List Int32, sf_is fv cv La ∧ sf_is fo w La ∧ sf_okL La := by
  rcases hs with ⟨-, v, n, h1, h2, -, -, h5⟩ | ⟨-, h1, h2⟩
  · rcases hm with ⟨-, g1, -⟩ | ⟨-, ⟨ko, g1, g2, -, g4⟩, g5, -⟩
    · rcases tp_showEq h1 g1 hF with q | q
      · exact absurd q.1 h2
      · exact absurd q.2.1 (by decide)
    · rcases tp_showEq h1 g1 hF with q | ⟨-, -, q2, q3⟩
      · exact absurd q.1 h2
      · have h6 : ko.toNatClampNeg < 33 := by show ko.toInt.toNat < 33; omega
        rw [hF _ h6, hN _ h6] at g4
        rw [q3, sf_TM xw _ h6] at h5
        exact ⟨_, h5, by rw [g5]; exact g4, sf_okM xw _ h6⟩
  · rcases hm with ⟨-, g1, g2⟩ | ⟨-, ⟨ko, g1, g2, -, g4⟩, g5, -⟩
    · exact ⟨[], by rw [h2]; exact sf_is0, by rw [g2]; exact sf_is0, sf_ok0⟩
    · rcases tp_showEq h1 g1 hF with q | q
      · exact absurd g2 (by rw [q.2]; decide)
      · exact absurd rfl q.1
/-- behind letter: both answer the same -/
theorem sf_lte {xk xc wr t r b : Int32} {fO : Nat → Int64} {fb fo : Nat → Int32} (hs : (r = 0 ∧ ¬ xk < 0 ∧ xk < xc ∧ fO 0 = (sf_c (fb xk.toNatClampNeg)).toInt64) ∨ (r = 1 ∧ (xk < 0 ∨ ¬ xk < xc))) (hm : (t = 0 ∧ ¬ xk < 0 ∧ ¬ wr ≤ xk ∧ b = fo xk.toNatClampNeg) ∨ (t = 1 ∧ (xk < 0 ∨ wr ≤ xk))) (hL : ∃ La : List Int32, sf_is fb xc La ∧ sf_is fo wr La ∧ sf_okL La) : t = r ∧ (r = 0 → fO 0 = b.toInt64) := by
  obtain ⟨La, k1, k2, k3⟩ := hL
  have e : xc = wr := Int32.toInt_inj.mp (k1.1.trans k2.1.symm)
  subst e
  rcases hs with ⟨h0, h1, h2, h3⟩ | ⟨h0, h1⟩
  · rcases hm with ⟨g0, g1, g2, g3⟩ | ⟨g0, g1⟩
    · refine ⟨g0.trans h0.symm, fun _ => ?_⟩
      have h4 := sf_ge0 h1
      have h5 := Int32.lt_iff_toInt_lt.mp h2
      have h6 := k1.1
      have h7 : xk.toNatClampNeg < La.length := by show xk.toInt.toNat < _; omega
      have m : La.getD xk.toNatClampNeg 0 ∈ La := by
        rw [List.getD_eq_getElem?_getD, List.getElem?_eq_getElem h7]
        exact List.getElem_mem h7
      rw [h3, g3, k1.2 _ h7, k2.2 _ h7, k3 _ m]
    · exact absurd g1 (fun q => q.elim h1 (fun z => absurd h2 (Int32.not_lt.mpr z)))
  · rcases hm with ⟨g0, g1, g2, g3⟩ | ⟨g0, g1⟩
    · exact absurd h1 (fun q => q.elim g1 (fun z => z (Int32.not_le.mp g2)))
    · exact ⟨g0.trans h0.symm, fun z => absurd (h0.symm.trans z) (by decide)⟩
