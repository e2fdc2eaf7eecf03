/-! the two sides of show ask the same of a word and write as many letters -/
theorem tp_uB (w : Int32) {k : Int32} {K : Nat} (hk : ((Int32.toUInt32 k &&& Int32.toUInt32 31).toBitVec % 32).toNat = K) : ((w.toUInt32 >>> (Int32.toUInt32 k &&& Int32.toUInt32 31)).toInt32).toBitVec = w.toBitVec >>> K := by
  show (w.toUInt32 >>> (Int32.toUInt32 k &&& Int32.toUInt32 31)).toBitVec = _
  rw [UInt32.toBitVec_shiftRight, BitVec.ushiftRight_eq', hk]; rfl
theorem tp_sB (w : Int32) {k : Int32} {K : Nat} (hk : ((k &&& 31).toBitVec.smod 32).toNat = K) : (w >>> (k &&& 31)).toBitVec = w.toBitVec.sshiftRight K := by
  rw [Int32.toBitVec_shiftRight, BitVec.sshiftRight_eq', hk]
/-- a field of j bits from bit K on, by either shift -/
theorem tp_fld (x : BitVec 32) (K j : Nat) (h : K + j ≤ 32) (m : BitVec 32) (hm : m.toNat = 2 ^ j - 1) : (x.sshiftRight K &&& m) = (x >>> K &&& m) := by
  apply BitVec.eq_of_getLsbD_eq
  intro i hi
  have hb : m.getLsbD i = decide (i < j) := by
    show m.toNat.testBit i = _
    rw [hm, Nat.testBit_two_pow_sub_one]
  rw [BitVec.getLsbD_and, BitVec.getLsbD_and, hb, BitVec.getLsbD_sshiftRight, BitVec.getLsbD_ushiftRight]
  by_cases q : i < j
  · simp [q, show K + i < 32 by omega, show ¬ 32 ≤ i by omega]
  · simp [q]
theorem tp_fldN (x : BitVec 32) (K j : Nat) (m : BitVec 32) (hm : m.toNat = 2 ^ j - 1) : (x >>> K &&& m).toNat = x.toNat / 2 ^ K % 2 ^ j := by
  rw [BitVec.toNat_and, BitVec.toNat_ushiftRight, hm, Nat.and_two_pow_sub_one_eq_mod, Nat.shiftRight_eq_div_pow]
theorem tp_I (w : Int32) (h : w.toBitVec.toNat < 2147483648) : w.toInt = w.toBitVec.toNat := by
  show w.toBitVec.toInt = _
  rw [BitVec.toInt_eq_toNat_cond, if_pos (by omega)]
/-- the value of a field -/
theorem tp_uF (w : Int32) {k m : Int32} (K j : Nat) (hk : ((Int32.toUInt32 k &&& Int32.toUInt32 31).toBitVec % 32).toNat = K) (hm : m.toBitVec.toNat = 2 ^ j - 1) (hj : j < 32) : ((w.toUInt32 >>> (Int32.toUInt32 k &&& Int32.toUInt32 31)).toInt32 &&& m).toInt = ((w.toBitVec.toNat / 2 ^ K % 2 ^ j : Nat) : Int) := by
  have e : ((w.toUInt32 >>> (Int32.toUInt32 k &&& Int32.toUInt32 31)).toInt32 &&& m).toBitVec.toNat = w.toBitVec.toNat / 2 ^ K % 2 ^ j := by
    rw [← tp_fldN w.toBitVec K j m.toBitVec hm]
    show ((w.toUInt32 >>> (Int32.toUInt32 k &&& Int32.toUInt32 31)).toInt32.toBitVec &&& m.toBitVec).toNat = _
    rw [tp_uB w hk]
  have h2 : w.toBitVec.toNat / 2 ^ K % 2 ^ j < 2147483648 := Nat.lt_of_lt_of_le (Nat.mod_lt _ (Nat.pow_pos (by decide))) (Nat.pow_le_pow_right (by decide) (by omega : j ≤ 31))
  rw [tp_I _ (by rw [e]; exact h2), e]
theorem tp_sF (w : Int32) {k m : Int32} (K j : Nat) (hk : ((k &&& 31).toBitVec.smod 32).toNat = K) (hm : m.toBitVec.toNat = 2 ^ j - 1) (hj : j < 32) (h : K + j ≤ 32) : ((w >>> (k &&& 31)) &&& m).toInt = ((w.toBitVec.toNat / 2 ^ K % 2 ^ j : Nat) : Int) := by
  have e : ((w >>> (k &&& 31)) &&& m).toBitVec.toNat = w.toBitVec.toNat / 2 ^ K % 2 ^ j := by
    rw [← tp_fldN w.toBitVec K j m.toBitVec hm, ← tp_fld w.toBitVec K j h m.toBitVec hm]
    show ((w >>> (k &&& 31)).toBitVec &&& m.toBitVec).toNat = _
    rw [tp_sB w hk]
  have h2 : w.toBitVec.toNat / 2 ^ K % 2 ^ j < 2147483648 := Nat.lt_of_lt_of_le (Nat.mod_lt _ (Nat.pow_pos (by decide))) (Nat.pow_le_pow_right (by decide) (by omega : j ≤ 31))
  rw [tp_I _ (by rw [e]; exact h2), e]
theorem tp_uS (w : Int32) {k : Int32} (K : Nat) (hk : ((Int32.toUInt32 k &&& Int32.toUInt32 31).toBitVec % 32).toNat = K) (h : 1 ≤ K) : ((w.toUInt32 >>> (Int32.toUInt32 k &&& Int32.toUInt32 31)).toInt32).toInt = ((w.toBitVec.toNat / 2 ^ K : Nat) : Int) := by
  have e : ((w.toUInt32 >>> (Int32.toUInt32 k &&& Int32.toUInt32 31)).toInt32).toBitVec.toNat = w.toBitVec.toNat / 2 ^ K := by
    rw [tp_uB w hk, BitVec.toNat_ushiftRight, Nat.shiftRight_eq_div_pow]
  have h2 : w.toBitVec.toNat / 2 ^ K < 2147483648 := by
    have h3 : w.toBitVec.toNat / 2 ^ K ≤ w.toBitVec.toNat / 2 ^ 1 := Nat.div_le_div_left (Nat.pow_le_pow_right (by decide) h) (by decide)
    have h4 := w.toBitVec.isLt
    omega
  rw [tp_I _ (by rw [e]; exact h2), e]
theorem tp_sS (w : Int32) {k : Int32} (K : Nat) (hk : ((k &&& 31).toBitVec.smod 32).toNat = K) : (w >>> (k &&& 31)).toInt = w.toInt / 2 ^ K := by
  show (w >>> (k &&& 31)).toBitVec.toInt = w.toBitVec.toInt / 2 ^ K
  rw [tp_sB w hk, BitVec.toInt_sshiftRight, Int.shiftRight_eq_div_pow]; rfl
theorem tp_WN (w : Int32) : (w.toBitVec.toNat < 2147483648 ∧ w.toInt = w.toBitVec.toNat) ∨ (2147483648 ≤ w.toBitVec.toNat ∧ w.toBitVec.toNat < 4294967296 ∧ w.toInt = (w.toBitVec.toNat : Int) - 4294967296) := by
  have h := w.toBitVec.isLt
  have e : w.toInt = w.toBitVec.toInt := rfl
  rw [e, BitVec.toInt_eq_toNat_cond]
  split <;> omega
theorem tp_mulI {x y : Int32} (h1 : -2147483648 ≤ x.toInt * y.toInt) (h2 : x.toInt * y.toInt < 2147483648) : (x * y).toInt = x.toInt * y.toInt := by
  rw [Int32.toInt_mul]; exact Int.bmod_eq_of_le (by omega) (by omega)
theorem tp_shlB (c : Int32) {k : Int32} {J : Nat} (hk : ((k &&& 31).toBitVec.smod 32).toNat = J) : (c <<< (k &&& 31)).toBitVec = c.toBitVec <<< J := by
  rw [Int32.toBitVec_shiftLeft, BitVec.shiftLeft_eq', hk]
theorem tp_shlI (c : Int32) {k : Int32} {J : Nat} (hk : ((k &&& 31).toBitVec.smod 32).toNat = J) (h1 : -2147483648 ≤ c.toInt * 2 ^ J) (h2 : c.toInt * 2 ^ J < 2147483648) : (c <<< (k &&& 31)).toInt = c.toInt * 2 ^ J := by
  show (c <<< (k &&& 31)).toBitVec.toInt = _
  rw [tp_shlB c hk, BitVec.toInt_shiftLeft, Nat.shiftLeft_eq]
  have e : c.toInt = c.toBitVec.toInt := rfl
  rw [e] at h1 h2 ⊢
  have e2 : (c.toBitVec.toInt * 2 ^ J).bmod (2 ^ 32) = ((c.toBitVec.toNat * 2 ^ J : Nat) : Int).bmod (2 ^ 32) := by
    have h3 : c.toBitVec.toInt = (c.toBitVec.toNat : Int).bmod (2 ^ 32) := BitVec.toInt_eq_toNat_bmod _
    rw [h3, Int.bmod_mul_bmod]
    congr 1
  rw [← e2]
  exact Int.bmod_eq_of_le (by omega) (by omega)
theorem tp_orD (x y : BitVec 32) (J : Nat) (h : x.toNat < 2 ^ J) : x ||| (y <<< J) = x + (y <<< J) := by
  refine (BitVec.add_eq_or_of_and_eq_zero x (y <<< J) ?_).symm
  apply BitVec.eq_of_getLsbD_eq
  intro i hi
  rw [BitVec.getLsbD_and, BitVec.getLsbD_shiftLeft]
  by_cases q : i < J
  · simp [q]
  · have e : x.getLsbD i = false := Nat.testBit_lt_two_pow (Nat.lt_of_lt_of_le h (Nat.pow_le_pow_right (by decide) (by omega)))
    simp [e]
theorem tp_orS {a c k : Int32} (J : Nat) (hk : ((k &&& 31).toBitVec.smod 32).toNat = J) (hJ : J ≤ 30) (ha : 0 ≤ a.toInt ∧ a.toInt < 2 ^ J) (h1 : -2147483648 ≤ c.toInt * 2 ^ J) (h2 : c.toInt * 2 ^ J + 2 ^ J ≤ 2147483648) : (a ||| (c <<< (k &&& 31))).toInt = a.toInt + c.toInt * 2 ^ J := by
  have hn : a.toBitVec.toNat < 2 ^ J := by
    have := tp_WN a
    have h9 : (2 : Int) ^ J = ((2 ^ J : Nat) : Int) := by norm_cast
    rw [h9] at ha
    omega
  have e : a ||| (c <<< (k &&& 31)) = a + (c <<< (k &&& 31)) := by
    apply Int32.toBitVec_inj.mp
    show a.toBitVec ||| (c <<< (k &&& 31)).toBitVec = a.toBitVec + (c <<< (k &&& 31)).toBitVec
    rw [tp_shlB c hk]; exact tp_orD _ _ J hn
  have hs := tp_shlI c hk h1 (by omega)
  rw [e, tp_addI (by omega) (by omega), hs]
theorem tp_reg (w : Int32) : ((w.toUInt32 >>> (Int32.toUInt32 7 &&& Int32.toUInt32 31)).toInt32 &&& 31) = ((w >>> (7 &&& 31 : Int32)) &&& 31) ∧ ((w.toUInt32 >>> (Int32.toUInt32 15 &&& Int32.toUInt32 31)).toInt32 &&& 31) = ((w >>> (15 &&& 31 : Int32)) &&& 31) ∧ ((w.toUInt32 >>> (Int32.toUInt32 20 &&& Int32.toUInt32 31)).toInt32 &&& 31) = ((w >>> (20 &&& 31 : Int32)) &&& 31) := by
  refine ⟨Int32.toInt_inj.mp ?_, Int32.toInt_inj.mp ?_, Int32.toInt_inj.mp ?_⟩
  · rw [tp_uF w (m := 31) 7 5 (by decide) (by decide) (by decide), tp_sF w (m := 31) 7 5 (by decide) (by decide) (by decide) (by decide)]
  · rw [tp_uF w (m := 31) 15 5 (by decide) (by decide) (by decide), tp_sF w (m := 31) 15 5 (by decide) (by decide) (by decide) (by decide)]
  · rw [tp_uF w (m := 31) 20 5 (by decide) (by decide) (by decide), tp_sF w (m := 31) 20 5 (by decide) (by decide) (by decide) (by decide)]
theorem tp_ifI {v L H : Int32} {a l h : Int} (hv : v.toInt = a) (hL : L.toInt = l) (hH : H.toInt = h) (ha : 0 ≤ a ∧ a < h) (hb : 0 ≤ h ∧ h ≤ 2147483647) : (if v < L then v else v - H).toInt = if a < l then a else a - h := by
  by_cases q : v < L
  · rw [if_pos q, if_pos (by rw [← hv, ← hL]; exact Int32.lt_iff_toInt_lt.mp q), hv]
  · rw [if_neg q, if_neg (by rw [← hv, ← hL]; exact fun z => q (Int32.lt_iff_toInt_lt.mpr z)), tp_subI (by omega) (by omega), hv, hH]
theorem tp_num2 (w : Int32) : (w >>> (20 &&& 31 : Int32)) = (if (w.toUInt32 >>> (Int32.toUInt32 20 &&& Int32.toUInt32 31)).toInt32 < 2048 then (w.toUInt32 >>> (Int32.toUInt32 20 &&& Int32.toUInt32 31)).toInt32 else (w.toUInt32 >>> (Int32.toUInt32 20 &&& Int32.toUInt32 31)).toInt32 - 4096) := by
  apply Int32.toInt_inj.mp
  have hW := tp_WN w
  have hu := tp_uS w (k := 20) 20 (by decide) (by decide)
  rw [tp_sS w (k := 20) 20 (by decide), tp_ifI hu (show (2048 : Int32).toInt = 2048 from rfl) (show (4096 : Int32).toInt = 4096 from rfl) (by omega) (by omega)]
  split <;> omega
theorem tp_num3 (w : Int32) : ((w.toUInt32 >>> (Int32.toUInt32 20 &&& Int32.toUInt32 31)).toInt32 &&& 63) = ((w >>> (20 &&& 31 : Int32)) &&& 63) := by
  apply Int32.toInt_inj.mp
  rw [tp_uF w (m := 63) 20 6 (by decide) (by decide) (by decide), tp_sF w (m := 63) 20 6 (by decide) (by decide) (by decide) (by decide)]
theorem tp_num5 (w : Int32) : (((w.toUInt32 >>> (Int32.toUInt32 7 &&& Int32.toUInt32 31)).toInt32 &&& 31) ||| ((w >>> (25 &&& 31 : Int32)) <<< (5 &&& 31 : Int32))) = (if (((w.toUInt32 >>> (Int32.toUInt32 25 &&& Int32.toUInt32 31)).toInt32 * 32) + ((w >>> (7 &&& 31 : Int32)) &&& 31)) < 2048 then (((w.toUInt32 >>> (Int32.toUInt32 25 &&& Int32.toUInt32 31)).toInt32 * 32) + ((w >>> (7 &&& 31 : Int32)) &&& 31)) else (((w.toUInt32 >>> (Int32.toUInt32 25 &&& Int32.toUInt32 31)).toInt32 * 32) + ((w >>> (7 &&& 31 : Int32)) &&& 31)) - 4096) := by
  apply Int32.toInt_inj.mp
  have hW := tp_WN w
  have h1 := tp_uF w (k := 7) (m := 31) 7 5 (by decide) (by decide) (by decide)
  have h2 := tp_sS w (k := 25) 25 (by decide)
  have h3 := tp_uS w (k := 25) 25 (by decide) (by decide)
  have h4 := tp_sF w (k := 7) (m := 31) 7 5 (by decide) (by decide) (by decide) (by decide)
  simp only [Nat.reducePow, Int.reducePow] at h1 h2 h3 h4
  have e1 : ((w.toUInt32 >>> (Int32.toUInt32 25 &&& Int32.toUInt32 31)).toInt32 * 32).toInt = ((w.toBitVec.toNat / 33554432 : Nat) : Int) * 32 := by
    rw [tp_mulI (by rw [h3, show (32 : Int32).toInt = 32 from rfl]; omega) (by rw [h3, show (32 : Int32).toInt = 32 from rfl]; omega), h3]; rfl
  have e2 : (((w.toUInt32 >>> (Int32.toUInt32 25 &&& Int32.toUInt32 31)).toInt32 * 32) + ((w >>> (7 &&& 31 : Int32)) &&& 31)).toInt = ((w.toBitVec.toNat / 33554432 : Nat) : Int) * 32 + ((w.toBitVec.toNat / 128 % 32 : Nat) : Int) := by
    rw [tp_addI (by rw [e1, h4]; omega) (by rw [e1, h4]; omega), e1, h4]
  rw [tp_orS (k := 5) 5 (by decide) (by decide) (by rw [h1]; omega) (by rw [h2]; omega) (by rw [h2]; omega), tp_ifI e2 (show (2048 : Int32).toInt = 2048 from rfl) (show (4096 : Int32).toInt = 4096 from rfl) (by omega) (by omega), h1, h2]
  split <;> omega
theorem tp_sgn (w : Int32) : ((w >>> (31 &&& 31 : Int32)).toInt = 0 ∧ ((w.toUInt32 >>> (Int32.toUInt32 31 &&& Int32.toUInt32 31)).toInt32).toInt = 0) ∨ ((w >>> (31 &&& 31 : Int32)).toInt = -1 ∧ ((w.toUInt32 >>> (Int32.toUInt32 31 &&& Int32.toUInt32 31)).toInt32).toInt = 1) := by
  have hW := tp_WN w
  have a4 := tp_sS w (k := 31) 31 (by decide)
  have b1 := tp_uS w (k := 31) 31 (by decide) (by decide)
  simp only [Nat.reducePow, Int.reducePow] at a4 b1
  rw [a4, b1]
  omega
theorem tp_n6aL {f1 f2 f3 f4 : Int32} (m1 : 0 ≤ f1.toInt ∧ f1.toInt < 16) (m2 : 0 ≤ f2.toInt ∧ f2.toInt < 64) (m3 : 0 ≤ f3.toInt ∧ f3.toInt < 2) (m4 : -1 ≤ f4.toInt ∧ f4.toInt ≤ 0) : ((((f1 <<< (1 &&& 31 : Int32)) ||| (f2 <<< (5 &&& 31 : Int32))) ||| (f3 <<< (11 &&& 31 : Int32))) ||| (f4 <<< (12 &&& 31 : Int32))).toInt = f1.toInt * 2 + f2.toInt * 32 + f3.toInt * 2048 + f4.toInt * 4096 := by
  have c1 : (f1 <<< (1 &&& 31 : Int32)).toInt = f1.toInt * 2 ^ 1 := tp_shlI f1 (by decide) (by omega) (by omega)
  have c2 : ((f1 <<< (1 &&& 31 : Int32)) ||| (f2 <<< (5 &&& 31 : Int32))).toInt = _ := tp_orS (a := f1 <<< (1 &&& 31 : Int32)) (c := f2) (k := 5) 5 (by decide) (by decide) (by omega) (by omega) (by omega)
  have c3 : (((f1 <<< (1 &&& 31 : Int32)) ||| (f2 <<< (5 &&& 31 : Int32))) ||| (f3 <<< (11 &&& 31 : Int32))).toInt = _ := tp_orS (a := (f1 <<< (1 &&& 31 : Int32)) ||| (f2 <<< (5 &&& 31 : Int32))) (c := f3) (k := 11) 11 (by decide) (by decide) (by omega) (by omega) (by omega)
  have c4 : ((((f1 <<< (1 &&& 31 : Int32)) ||| (f2 <<< (5 &&& 31 : Int32))) ||| (f3 <<< (11 &&& 31 : Int32))) ||| (f4 <<< (12 &&& 31 : Int32))).toInt = _ := tp_orS (a := ((f1 <<< (1 &&& 31 : Int32)) ||| (f2 <<< (5 &&& 31 : Int32))) ||| (f3 <<< (11 &&& 31 : Int32))) (c := f4) (k := 12) 12 (by decide) (by decide) (by omega) (by omega) (by omega)
  omega
theorem tp_n6aM {g : Int32} {c : Int32} {C B : Int} (e : c.toInt = C) (h : 0 ≤ g.toInt ∧ g.toInt < B) (h2 : 0 ≤ C) (h3 : B * C ≤ 2147483648) : (g * c).toInt = g.toInt * C := by
  have k1 : 0 ≤ g.toInt * C := Int.mul_nonneg h.1 h2
  have k2 : g.toInt * C ≤ (B - 1) * C := Int.mul_le_mul_of_nonneg_right (by omega) h2
  have k3 : (B - 1) * C = B * C - C := by rw [Int.sub_mul, Int.one_mul]
  by_cases z : C = 0
  · subst z; rw [tp_mulI (by rw [e]; omega) (by rw [e]; omega), e]
  · rw [tp_mulI (by rw [e]; omega) (by rw [e]; omega), e]
theorem tp_n6aR {g1 g2 g3 g4 : Int32} (m1 : 0 ≤ g1.toInt ∧ g1.toInt < 2) (m2 : 0 ≤ g2.toInt ∧ g2.toInt < 2) (m3 : 0 ≤ g3.toInt ∧ g3.toInt < 64) (m4 : 0 ≤ g4.toInt ∧ g4.toInt < 16) : ((((g1 * 4096) + (g2 * 2048)) + (g3 * 32)) + (g4 * 2)).toInt = g1.toInt * 4096 + g2.toInt * 2048 + g3.toInt * 32 + g4.toInt * 2 := by
  have d1 : (g1 * 4096).toInt = g1.toInt * 4096 := tp_n6aM rfl m1 (by decide) (by decide)
  have d2 : (g2 * 2048).toInt = g2.toInt * 2048 := tp_n6aM rfl m2 (by decide) (by decide)
  have d3 : (g3 * 32).toInt = g3.toInt * 32 := tp_n6aM rfl m3 (by decide) (by decide)
  have d4 : (g4 * 2).toInt = g4.toInt * 2 := tp_n6aM rfl m4 (by decide) (by decide)
  have s1 : ((g1 * 4096) + (g2 * 2048)).toInt = g1.toInt * 4096 + g2.toInt * 2048 := by rw [tp_addI (by rw [d1, d2]; omega) (by rw [d1, d2]; omega), d1, d2]
  have s2 : (((g1 * 4096) + (g2 * 2048)) + (g3 * 32)).toInt = g1.toInt * 4096 + g2.toInt * 2048 + g3.toInt * 32 := by rw [tp_addI (by rw [s1, d3]; omega) (by rw [s1, d3]; omega), s1, d3]
  have s3 : ((((g1 * 4096) + (g2 * 2048)) + (g3 * 32)) + (g4 * 2)).toInt = g1.toInt * 4096 + g2.toInt * 2048 + g3.toInt * 32 + g4.toInt * 2 := by rw [tp_addI (by rw [s2, d4]; omega) (by rw [s2, d4]; omega), s2, d4]
  exact s3
theorem tp_n6a {f1 f2 f3 f4 g1 g2 g3 g4 : Int32} {n1 n2 n3 : Nat} (m1 : n1 < 16) (m2 : n2 < 64) (m3 : n3 < 2) (a1 : f1.toInt = (n1 : Int)) (a2 : f2.toInt = (n2 : Int)) (a3 : f3.toInt = (n3 : Int)) (b2 : g2.toInt = (n3 : Int)) (b3 : g3.toInt = (n2 : Int)) (b4 : g4.toInt = (n1 : Int)) (hs : (f4.toInt = 0 ∧ g1.toInt = 0) ∨ (f4.toInt = -1 ∧ g1.toInt = 1)) : ((((f1 <<< (1 &&& 31 : Int32)) ||| (f2 <<< (5 &&& 31 : Int32))) ||| (f3 <<< (11 &&& 31 : Int32))) ||| (f4 <<< (12 &&& 31 : Int32))) = (if ((((g1 * 4096) + (g2 * 2048)) + (g3 * 32)) + (g4 * 2)) < 4096 then ((((g1 * 4096) + (g2 * 2048)) + (g3 * 32)) + (g4 * 2)) else ((((g1 * 4096) + (g2 * 2048)) + (g3 * 32)) + (g4 * 2)) - 8192) := by
  apply Int32.toInt_inj.mp
  rw [tp_n6aL (by omega) (by omega) (by omega) (by omega), tp_ifI (tp_n6aR (by omega) (by omega) (by omega) (by omega)) (show (4096 : Int32).toInt = 4096 from rfl) (show (8192 : Int32).toInt = 8192 from rfl) (by omega) (by omega)]
  split <;> omega
theorem tp_num6 (w : Int32) : ((((((w.toUInt32 >>> (Int32.toUInt32 8 &&& Int32.toUInt32 31)).toInt32 &&& 15) <<< (1 &&& 31 : Int32)) ||| (((w.toUInt32 >>> (Int32.toUInt32 25 &&& Int32.toUInt32 31)).toInt32 &&& 63) <<< (5 &&& 31 : Int32))) ||| (((w.toUInt32 >>> (Int32.toUInt32 7 &&& Int32.toUInt32 31)).toInt32 &&& 1) <<< (11 &&& 31 : Int32))) ||| ((w >>> (31 &&& 31 : Int32)) <<< (12 &&& 31 : Int32))) = (if (((((w.toUInt32 >>> (Int32.toUInt32 31 &&& Int32.toUInt32 31)).toInt32 * 4096) + (((w >>> (7 &&& 31 : Int32)) &&& 1) * 2048)) + (((w >>> (25 &&& 31 : Int32)) &&& 63) * 32)) + (((w >>> (8 &&& 31 : Int32)) &&& 15) * 2)) < 4096 then (((((w.toUInt32 >>> (Int32.toUInt32 31 &&& Int32.toUInt32 31)).toInt32 * 4096) + (((w >>> (7 &&& 31 : Int32)) &&& 1) * 2048)) + (((w >>> (25 &&& 31 : Int32)) &&& 63) * 32)) + (((w >>> (8 &&& 31 : Int32)) &&& 15) * 2)) else (((((w.toUInt32 >>> (Int32.toUInt32 31 &&& Int32.toUInt32 31)).toInt32 * 4096) + (((w >>> (7 &&& 31 : Int32)) &&& 1) * 2048)) + (((w >>> (25 &&& 31 : Int32)) &&& 63) * 32)) + (((w >>> (8 &&& 31 : Int32)) &&& 15) * 2)) - 8192) :=
  tp_n6a (n1 := w.toBitVec.toNat / 2 ^ 8 % 2 ^ 4) (n2 := w.toBitVec.toNat / 2 ^ 25 % 2 ^ 6) (n3 := w.toBitVec.toNat / 2 ^ 7 % 2 ^ 1) (Nat.mod_lt _ (by decide)) (Nat.mod_lt _ (by decide)) (Nat.mod_lt _ (by decide)) (tp_uF w (k := 8) (m := 15) 8 4 (by decide) (by decide) (by decide)) (tp_uF w (k := 25) (m := 63) 25 6 (by decide) (by decide) (by decide)) (tp_uF w (k := 7) (m := 1) 7 1 (by decide) (by decide) (by decide)) (tp_sF w (k := 7) (m := 1) 7 1 (by decide) (by decide) (by decide) (by decide)) (tp_sF w (k := 25) (m := 63) 25 6 (by decide) (by decide) (by decide) (by decide)) (tp_sF w (k := 8) (m := 15) 8 4 (by decide) (by decide) (by decide) (by decide)) (tp_sgn w)
theorem tp_n7aL {f1 f2 f3 f4 : Int32} (m1 : 0 ≤ f1.toInt ∧ f1.toInt < 1024) (m2 : 0 ≤ f2.toInt ∧ f2.toInt < 2) (m3 : 0 ≤ f3.toInt ∧ f3.toInt < 256) (m4 : -1 ≤ f4.toInt ∧ f4.toInt ≤ 0) : ((((f1 <<< (1 &&& 31 : Int32)) ||| (f2 <<< (11 &&& 31 : Int32))) ||| (f3 <<< (12 &&& 31 : Int32))) ||| (f4 <<< (20 &&& 31 : Int32))).toInt = f1.toInt * 2 + f2.toInt * 2048 + f3.toInt * 4096 + f4.toInt * 1048576 := by
  have c1 : (f1 <<< (1 &&& 31 : Int32)).toInt = f1.toInt * 2 ^ 1 := tp_shlI f1 (by decide) (by omega) (by omega)
  have c2 : ((f1 <<< (1 &&& 31 : Int32)) ||| (f2 <<< (11 &&& 31 : Int32))).toInt = _ := tp_orS (a := f1 <<< (1 &&& 31 : Int32)) (c := f2) (k := 11) 11 (by decide) (by decide) (by omega) (by omega) (by omega)
  have c3 : (((f1 <<< (1 &&& 31 : Int32)) ||| (f2 <<< (11 &&& 31 : Int32))) ||| (f3 <<< (12 &&& 31 : Int32))).toInt = _ := tp_orS (a := (f1 <<< (1 &&& 31 : Int32)) ||| (f2 <<< (11 &&& 31 : Int32))) (c := f3) (k := 12) 12 (by decide) (by decide) (by omega) (by omega) (by omega)
  have c4 : ((((f1 <<< (1 &&& 31 : Int32)) ||| (f2 <<< (11 &&& 31 : Int32))) ||| (f3 <<< (12 &&& 31 : Int32))) ||| (f4 <<< (20 &&& 31 : Int32))).toInt = _ := tp_orS (a := ((f1 <<< (1 &&& 31 : Int32)) ||| (f2 <<< (11 &&& 31 : Int32))) ||| (f3 <<< (12 &&& 31 : Int32))) (c := f4) (k := 20) 20 (by decide) (by decide) (by omega) (by omega) (by omega)
  omega
theorem tp_n7aM {g : Int32} {c : Int32} {C B : Int} (e : c.toInt = C) (h : 0 ≤ g.toInt ∧ g.toInt < B) (h2 : 0 ≤ C) (h3 : B * C ≤ 2147483648) : (g * c).toInt = g.toInt * C := by
  have k1 : 0 ≤ g.toInt * C := Int.mul_nonneg h.1 h2
  have k2 : g.toInt * C ≤ (B - 1) * C := Int.mul_le_mul_of_nonneg_right (by omega) h2
  have k3 : (B - 1) * C = B * C - C := by rw [Int.sub_mul, Int.one_mul]
  by_cases z : C = 0
  · subst z; rw [tp_mulI (by rw [e]; omega) (by rw [e]; omega), e]
  · rw [tp_mulI (by rw [e]; omega) (by rw [e]; omega), e]
theorem tp_n7aR {g1 g2 g3 g4 : Int32} (m1 : 0 ≤ g1.toInt ∧ g1.toInt < 2) (m2 : 0 ≤ g2.toInt ∧ g2.toInt < 256) (m3 : 0 ≤ g3.toInt ∧ g3.toInt < 2) (m4 : 0 ≤ g4.toInt ∧ g4.toInt < 1024) : ((((g1 * 1048576) + (g2 * 4096)) + (g3 * 2048)) + (g4 * 2)).toInt = g1.toInt * 1048576 + g2.toInt * 4096 + g3.toInt * 2048 + g4.toInt * 2 := by
  have d1 : (g1 * 1048576).toInt = g1.toInt * 1048576 := tp_n7aM rfl m1 (by decide) (by decide)
  have d2 : (g2 * 4096).toInt = g2.toInt * 4096 := tp_n7aM rfl m2 (by decide) (by decide)
  have d3 : (g3 * 2048).toInt = g3.toInt * 2048 := tp_n7aM rfl m3 (by decide) (by decide)
  have d4 : (g4 * 2).toInt = g4.toInt * 2 := tp_n7aM rfl m4 (by decide) (by decide)
  have s1 : ((g1 * 1048576) + (g2 * 4096)).toInt = g1.toInt * 1048576 + g2.toInt * 4096 := by rw [tp_addI (by rw [d1, d2]; omega) (by rw [d1, d2]; omega), d1, d2]
  have s2 : (((g1 * 1048576) + (g2 * 4096)) + (g3 * 2048)).toInt = g1.toInt * 1048576 + g2.toInt * 4096 + g3.toInt * 2048 := by rw [tp_addI (by rw [s1, d3]; omega) (by rw [s1, d3]; omega), s1, d3]
  have s3 : ((((g1 * 1048576) + (g2 * 4096)) + (g3 * 2048)) + (g4 * 2)).toInt = g1.toInt * 1048576 + g2.toInt * 4096 + g3.toInt * 2048 + g4.toInt * 2 := by rw [tp_addI (by rw [s2, d4]; omega) (by rw [s2, d4]; omega), s2, d4]
  exact s3
theorem tp_n7a {f1 f2 f3 f4 g1 g2 g3 g4 : Int32} {n1 n2 n3 : Nat} (m1 : n1 < 1024) (m2 : n2 < 2) (m3 : n3 < 256) (a1 : f1.toInt = (n1 : Int)) (a2 : f2.toInt = (n2 : Int)) (a3 : f3.toInt = (n3 : Int)) (b2 : g2.toInt = (n3 : Int)) (b3 : g3.toInt = (n2 : Int)) (b4 : g4.toInt = (n1 : Int)) (hs : (f4.toInt = 0 ∧ g1.toInt = 0) ∨ (f4.toInt = -1 ∧ g1.toInt = 1)) : ((((f1 <<< (1 &&& 31 : Int32)) ||| (f2 <<< (11 &&& 31 : Int32))) ||| (f3 <<< (12 &&& 31 : Int32))) ||| (f4 <<< (20 &&& 31 : Int32))) = (if ((((g1 * 1048576) + (g2 * 4096)) + (g3 * 2048)) + (g4 * 2)) < 1048576 then ((((g1 * 1048576) + (g2 * 4096)) + (g3 * 2048)) + (g4 * 2)) else ((((g1 * 1048576) + (g2 * 4096)) + (g3 * 2048)) + (g4 * 2)) - 2097152) := by
  apply Int32.toInt_inj.mp
  rw [tp_n7aL (by omega) (by omega) (by omega) (by omega), tp_ifI (tp_n7aR (by omega) (by omega) (by omega) (by omega)) (show (1048576 : Int32).toInt = 1048576 from rfl) (show (2097152 : Int32).toInt = 2097152 from rfl) (by omega) (by omega)]
  split <;> omega
theorem tp_num7 (w : Int32) : ((((((w.toUInt32 >>> (Int32.toUInt32 21 &&& Int32.toUInt32 31)).toInt32 &&& 1023) <<< (1 &&& 31 : Int32)) ||| (((w.toUInt32 >>> (Int32.toUInt32 20 &&& Int32.toUInt32 31)).toInt32 &&& 1) <<< (11 &&& 31 : Int32))) ||| (((w.toUInt32 >>> (Int32.toUInt32 12 &&& Int32.toUInt32 31)).toInt32 &&& 255) <<< (12 &&& 31 : Int32))) ||| ((w >>> (31 &&& 31 : Int32)) <<< (20 &&& 31 : Int32))) = (if (((((w.toUInt32 >>> (Int32.toUInt32 31 &&& Int32.toUInt32 31)).toInt32 * 1048576) + (((w >>> (12 &&& 31 : Int32)) &&& 255) * 4096)) + (((w >>> (20 &&& 31 : Int32)) &&& 1) * 2048)) + (((w >>> (21 &&& 31 : Int32)) &&& 1023) * 2)) < 1048576 then (((((w.toUInt32 >>> (Int32.toUInt32 31 &&& Int32.toUInt32 31)).toInt32 * 1048576) + (((w >>> (12 &&& 31 : Int32)) &&& 255) * 4096)) + (((w >>> (20 &&& 31 : Int32)) &&& 1) * 2048)) + (((w >>> (21 &&& 31 : Int32)) &&& 1023) * 2)) else (((((w.toUInt32 >>> (Int32.toUInt32 31 &&& Int32.toUInt32 31)).toInt32 * 1048576) + (((w >>> (12 &&& 31 : Int32)) &&& 255) * 4096)) + (((w >>> (20 &&& 31 : Int32)) &&& 1) * 2048)) + (((w >>> (21 &&& 31 : Int32)) &&& 1023) * 2)) - 2097152) :=
  tp_n7a (n1 := w.toBitVec.toNat / 2 ^ 21 % 2 ^ 10) (n2 := w.toBitVec.toNat / 2 ^ 20 % 2 ^ 1) (n3 := w.toBitVec.toNat / 2 ^ 12 % 2 ^ 8) (Nat.mod_lt _ (by decide)) (Nat.mod_lt _ (by decide)) (Nat.mod_lt _ (by decide)) (tp_uF w (k := 21) (m := 1023) 21 10 (by decide) (by decide) (by decide)) (tp_uF w (k := 20) (m := 1) 20 1 (by decide) (by decide) (by decide)) (tp_uF w (k := 12) (m := 255) 12 8 (by decide) (by decide) (by decide)) (tp_sF w (k := 12) (m := 255) 12 8 (by decide) (by decide) (by decide) (by decide)) (tp_sF w (k := 20) (m := 1) 20 1 (by decide) (by decide) (by decide) (by decide)) (tp_sF w (k := 21) (m := 1023) 21 10 (by decide) (by decide) (by decide) (by decide)) (tp_sgn w)
theorem tp_bit {x y : BitVec 32} (h : x = y) (i : Nat) : x.getLsbD i = y.getLsbD i := by rw [h]
theorem tp_m28 : ∀ i, i < 32 → (28799#32).getLsbD i = (decide (i < 7) || (decide (12 ≤ i) && decide (i < 15))) := by decide
theorem tp_m127 : ∀ i, i < 32 → (127#32).getLsbD i = decide (i < 7) := by decide
theorem tp_m7 : ∀ i, i < 32 → (7#32).getLsbD i = decide (i < 3) := by decide
theorem tp_bA (x c : BitVec 32) (hc : c &&& 28799#32 = c) : x &&& 28799#32 = c ↔ (x &&& 127#32 = c &&& 127#32 ∧ (x >>> 12) &&& 7#32 = (c >>> 12) &&& 7#32) := by
  constructor
  · intro h
    subst h
    constructor
    · apply BitVec.eq_of_getLsbD_eq
      intro i hi
      simp only [BitVec.getLsbD_and, tp_m28 i hi, tp_m127 i hi]
      by_cases q : i < 7 <;> simp [q]
    · apply BitVec.eq_of_getLsbD_eq
      intro i hi
      simp only [BitVec.getLsbD_and, BitVec.getLsbD_ushiftRight, tp_m7 i hi]
      by_cases q : i < 3
      · simp [q, tp_m28 (12 + i) (by omega), show 12 + i < 15 by omega]
      · simp [q]
  · intro ⟨h1, h2⟩
    apply BitVec.eq_of_getLsbD_eq
    intro i hi
    have e := tp_bit hc i
    have e1 := tp_bit h1 i
    rw [BitVec.getLsbD_and, tp_m28 i hi] at e
    rw [BitVec.getLsbD_and, BitVec.getLsbD_and, tp_m127 i hi] at e1
    rw [BitVec.getLsbD_and, tp_m28 i hi]
    by_cases q : i < 7
    · simp [q] at e1 ⊢; exact e1
    · by_cases q2 : 12 ≤ i ∧ i < 15
      · have e2 := tp_bit h2 (i - 12)
        rw [BitVec.getLsbD_and, BitVec.getLsbD_and, tp_m7 (i - 12) (by omega), BitVec.getLsbD_ushiftRight, BitVec.getLsbD_ushiftRight, show 12 + (i - 12) = i by omega] at e2
        simp [show i - 12 < 3 by omega] at e2
        simp [q2.1, q2.2]; exact e2
      · have z : (decide (i < 7) || (decide (12 ≤ i) && decide (i < 15))) = false := by simp [q]; omega
        rw [z] at e ⊢
        rw [Bool.and_false] at e ⊢
        exact e
theorem tp_bC (x c m : BitVec 32) (K : Nat) (hK : 15 ≤ K ∧ K < 32) (hm : ∀ i, i < 32 → m.getLsbD i = ((28799#32).getLsbD i || decide (K ≤ i))) (hc : c &&& m = c) : x &&& m = c ↔ (x &&& 28799#32 = c &&& 28799#32 ∧ x >>> K = c >>> K) := by
  constructor
  · intro h
    subst h
    constructor
    · apply BitVec.eq_of_getLsbD_eq
      intro i hi
      simp only [BitVec.getLsbD_and, hm i hi]
      cases (28799#32).getLsbD i <;> simp
    · apply BitVec.eq_of_getLsbD_eq
      intro i hi
      rw [BitVec.getLsbD_ushiftRight, BitVec.getLsbD_ushiftRight, BitVec.getLsbD_and]
      by_cases q : K + i < 32
      · rw [hm (K + i) q]; simp
      · rw [BitVec.getLsbD_of_ge x (K + i) (by omega)]; simp
  · intro ⟨h1, h2⟩
    apply BitVec.eq_of_getLsbD_eq
    intro i hi
    have e := tp_bit hc i
    have e1 := tp_bit h1 i
    rw [BitVec.getLsbD_and, hm i hi] at e
    rw [BitVec.getLsbD_and, BitVec.getLsbD_and] at e1
    rw [BitVec.getLsbD_and, hm i hi]
    by_cases q : K ≤ i
    · have e2 := tp_bit h2 (i - K)
      rw [BitVec.getLsbD_ushiftRight, BitVec.getLsbD_ushiftRight, show K + (i - K) = i by omega] at e2
      rw [e2]; exact e
    · have z : decide (K ≤ i) = false := by simp; omega
      rw [z, Bool.or_false] at e ⊢
      rw [e1]; exact e
theorem tp_sU12 (w : Int32) : ((w >>> (12 &&& 31 : Int32)) &&& 7).toBitVec = (w.toBitVec >>> 12) &&& 7#32 := by
  show (w >>> (12 &&& 31 : Int32)).toBitVec &&& 7#32 = _
  rw [tp_sB w (k := 12) (K := 12) (by decide)]
  exact tp_fld w.toBitVec 12 3 (by decide) 7#32 (by decide)
theorem tp_iA (w c : Int32) (hc : c &&& 28799 = c) : w &&& 28799 = c ↔ ((w &&& 127) = (c &&& 127) ∧ ((w >>> (12 &&& 31 : Int32)) &&& 7) = ((c >>> (12 &&& 31 : Int32)) &&& 7)) := by
  have h := tp_bA w.toBitVec c.toBitVec (congrArg Int32.toBitVec hc)
  constructor
  · intro q
    obtain ⟨h1, h2⟩ := h.mp (congrArg Int32.toBitVec q)
    exact ⟨Int32.toBitVec_inj.mp h1, Int32.toBitVec_inj.mp (by rw [tp_sU12, tp_sU12]; exact h2)⟩
  · intro ⟨q1, q2⟩
    exact Int32.toBitVec_inj.mp (h.mpr ⟨congrArg Int32.toBitVec q1, by rw [← tp_sU12, ← tp_sU12, q2]⟩)
theorem tp_iC (w c m : Int32) {k : Int32} (K : Nat) (hk : ((Int32.toUInt32 k &&& Int32.toUInt32 31).toBitVec % 32).toNat = K) (hK : 15 ≤ K ∧ K < 32) (hm : ∀ i, i < 32 → m.toBitVec.getLsbD i = ((28799#32).getLsbD i || decide (K ≤ i))) (hc : c &&& m = c) : w &&& m = c ↔ (w &&& 28799 = c &&& 28799 ∧ (w.toUInt32 >>> (Int32.toUInt32 k &&& Int32.toUInt32 31)).toInt32 = (c.toUInt32 >>> (Int32.toUInt32 k &&& Int32.toUInt32 31)).toInt32) := by
  have h := tp_bC w.toBitVec c.toBitVec m.toBitVec K hK hm (congrArg Int32.toBitVec hc)
  constructor
  · intro q
    obtain ⟨h1, h2⟩ := h.mp (congrArg Int32.toBitVec q)
    exact ⟨Int32.toBitVec_inj.mp h1, Int32.toBitVec_inj.mp (by rw [tp_uB w hk, tp_uB c hk]; exact h2)⟩
  · intro ⟨q1, q2⟩
    exact Int32.toBitVec_inj.mp (h.mpr ⟨congrArg Int32.toBitVec q1, by rw [← tp_uB w hk, ← tp_uB c hk, q2]⟩)
/-- the class's operation for the reference's k -/
def tp_tau : List Nat := [1, 2, 3, 4, 5, 6, 7, 8, 9, 10, 11, 12, 13, 14, 15, 16, 17, 18, 19, 20, 21, 22, 23, 24, 33, 25, 26, 27, 28, 29, 30, 31, 32]
def tp_fO (F : Int32) : Int32 := (F / 100) - (F / 100) / 1000 * 1000
def tp_fK (F : Int32) : Int32 := (F / 10) - (F / 10) / 10 * 10
def tp_fM (F : Int32) : Int32 := F - F / 10 * 10
abbrev tp_cT (i : Nat) : Int32 := tp_cod.getD (tp_tau.getD i 0) 0
abbrev tp_mT (i : Nat) : Int32 := tp_fix (tp_lay.getD (tp_tau.getD i 0) 0)
abbrev tp_FF (i : Nat) : Int32 := tp_forms.getD i 0
theorem tp_ksA : ∀ i, i < 33 → (tp_FF i / 100000 = 2 ∨ tp_FF i / 100000 = 5 ∨ tp_FF i / 100000 = 6 ∨ tp_FF i / 100000 = 7) → tp_mT i = 28799 ∧ tp_cT i &&& 28799 = tp_cT i ∧ tp_cT i &&& 127 = tp_fO (tp_FF i) ∧ ((tp_cT i >>> (12 &&& 31 : Int32)) &&& 7) = tp_fK (tp_FF i) := by decide +kernel
theorem tp_ksB : ∀ i, i < 33 → (tp_FF i / 100000 = 4 ∨ tp_FF i / 100000 = 8) → tp_mT i = 127 ∧ tp_cT i = tp_fO (tp_FF i) := by decide +kernel
theorem tp_ksC : ∀ i, i < 33 → tp_FF i / 100000 = 1 → tp_mT i = -33525633 ∧ tp_cT i &&& -33525633 = tp_cT i ∧ (tp_cT i &&& 28799) &&& 28799 = tp_cT i &&& 28799 ∧ (tp_cT i &&& 28799) &&& 127 = tp_fO (tp_FF i) ∧ (((tp_cT i &&& 28799) >>> (12 &&& 31 : Int32)) &&& 7) = tp_fK (tp_FF i) ∧ (tp_fM (tp_FF i) = 1 → ((tp_cT i).toUInt32 >>> (Int32.toUInt32 25 &&& Int32.toUInt32 31)).toInt32 = 32) ∧ (¬ tp_fM (tp_FF i) = 1 → ((tp_cT i).toUInt32 >>> (Int32.toUInt32 25 &&& Int32.toUInt32 31)).toInt32 = 0) := by decide +kernel
theorem tp_ksD : ∀ i, i < 33 → tp_FF i / 100000 = 3 → tp_mT i = -67080065 ∧ tp_cT i &&& -67080065 = tp_cT i ∧ (tp_cT i &&& 28799) &&& 28799 = tp_cT i &&& 28799 ∧ (tp_cT i &&& 28799) &&& 127 = tp_fO (tp_FF i) ∧ (((tp_cT i &&& 28799) >>> (12 &&& 31 : Int32)) &&& 7) = tp_fK (tp_FF i) ∧ (tp_fM (tp_FF i) = 1 → ((tp_cT i).toUInt32 >>> (Int32.toUInt32 26 &&& Int32.toUInt32 31)).toInt32 = 16) ∧ (¬ tp_fM (tp_FF i) = 1 → ((tp_cT i).toUInt32 >>> (Int32.toUInt32 26 &&& Int32.toUInt32 31)).toInt32 = 0) := by decide +kernel
theorem tp_mmA {w F : Int32} (h : ¬ F / 100000 = 1 ∧ ¬ F / 100000 = 3 ∧ ¬ F / 100000 = 4 ∧ ¬ F / 100000 = 8) : tp_mm w F ↔ (tp_fO F = (w &&& 127) ∧ tp_fK F = ((w >>> (12 &&& 31 : Int32)) &&& 7)) :=
  ⟨fun q => ⟨q.1.1.1, q.1.1.2.elim (fun z => absurd z h.2.2.1) (fun z => z.elim (fun z => absurd z h.2.2.2) id)⟩, fun q => ⟨⟨⟨q.1, Or.inr (Or.inr q.2)⟩, fun z => absurd z h.1⟩, fun z => absurd z h.2.1⟩⟩
theorem tp_mmB {w F : Int32} (h : ¬ F / 100000 = 1 ∧ ¬ F / 100000 = 3 ∧ (F / 100000 = 4 ∨ F / 100000 = 8)) : tp_mm w F ↔ tp_fO F = (w &&& 127) :=
  ⟨fun q => q.1.1.1, fun q => ⟨⟨⟨q, h.2.2.elim Or.inl (fun z => Or.inr (Or.inl z))⟩, fun z => absurd z h.1⟩, fun z => absurd z h.2.1⟩⟩
theorem tp_mmC {w F X : Int32} (h : F / 100000 = 1 ∧ ¬ F / 100000 = 3 ∧ ¬ F / 100000 = 4 ∧ ¬ F / 100000 = 8) (hX : (tp_fM F = 1 → X = 32) ∧ (¬ tp_fM F = 1 → X = 0)) : tp_mm w F ↔ ((tp_fO F = (w &&& 127) ∧ tp_fK F = ((w >>> (12 &&& 31 : Int32)) &&& 7)) ∧ (w.toUInt32 >>> (Int32.toUInt32 25 &&& Int32.toUInt32 31)).toInt32 = X) := by
  constructor
  · intro q
    refine ⟨⟨q.1.1.1, q.1.1.2.elim (fun z => absurd z h.2.2.1) (fun z => z.elim (fun z => absurd z h.2.2.2) id)⟩, ?_⟩
    by_cases b : tp_fM F = 1
    · rw [hX.1 b]; exact (q.1.2 h.1).1 b
    · rw [hX.2 b]; exact (q.1.2 h.1).2 b
  · intro q
    refine ⟨⟨⟨q.1.1, Or.inr (Or.inr q.1.2)⟩, fun _ => ⟨fun b => q.2.trans (hX.1 b), fun b => q.2.trans (hX.2 b)⟩⟩, fun z => absurd z h.2.1⟩
theorem tp_mmD {w F X : Int32} (h : F / 100000 = 3 ∧ ¬ F / 100000 = 1 ∧ ¬ F / 100000 = 4 ∧ ¬ F / 100000 = 8) (hX : (tp_fM F = 1 → X = 16) ∧ (¬ tp_fM F = 1 → X = 0)) : tp_mm w F ↔ ((tp_fO F = (w &&& 127) ∧ tp_fK F = ((w >>> (12 &&& 31 : Int32)) &&& 7)) ∧ (w.toUInt32 >>> (Int32.toUInt32 26 &&& Int32.toUInt32 31)).toInt32 = X) := by
  constructor
  · intro q
    refine ⟨⟨q.1.1.1, q.1.1.2.elim (fun z => absurd z h.2.2.1) (fun z => z.elim (fun z => absurd z h.2.2.2) id)⟩, ?_⟩
    by_cases b : tp_fM F = 1
    · rw [hX.1 b]; exact (q.2 h.1).1 b
    · rw [hX.2 b]; exact (q.2 h.1).2 b
  · intro q
    refine ⟨⟨⟨q.1.1, Or.inr (Or.inr q.1.2)⟩, fun z => absurd z h.2.1⟩, fun _ => ⟨fun b => q.2.trans (hX.1 b), fun b => q.2.trans (hX.2 b)⟩⟩
theorem tp_mtI {w : Int32} {u : Nat} {m c : Int32} (hm : tp_fix (tp_lay.getD u 0) = m) (hc : tp_cod.getD u 0 = c) (h0 : ¬ m = 0) : tp_mt w u ↔ w &&& m = c := by
  unfold tp_mt; rw [hm, hc]; exact ⟨fun q => q.2, fun q => ⟨h0, q⟩⟩
theorem tp_and2 {O K a b : Int32} : (a = O ∧ b = K) ↔ (O = a ∧ K = b) := ⟨fun q => ⟨q.1.symm, q.2.symm⟩, fun q => ⟨q.1.symm, q.2.symm⟩⟩
/-- the same question of a word, both sides -/
theorem tp_mmmt (w : Int32) (i : Nat) (hi : i < 33) : tp_mm w (tp_FF i) ↔ tp_mt w (tp_tau.getD i 0) := by
  have n : ∀ a b : Int32, tp_FF i / 100000 = a → ¬ a = b → ¬ tp_FF i / 100000 = b := fun a b h1 h2 h3 => h2 (h1.symm.trans h3)
  have A : (tp_FF i / 100000 = 2 ∨ tp_FF i / 100000 = 5 ∨ tp_FF i / 100000 = 6 ∨ tp_FF i / 100000 = 7) → (¬ tp_FF i / 100000 = 1 ∧ ¬ tp_FF i / 100000 = 3 ∧ ¬ tp_FF i / 100000 = 4 ∧ ¬ tp_FF i / 100000 = 8) → (tp_mm w (tp_FF i) ↔ tp_mt w (tp_tau.getD i 0)) := by
    intro h1 h2
    obtain ⟨k1, k2, k3, k4⟩ := tp_ksA i hi h1
    rw [tp_mmA h2, tp_mtI k1 rfl (by decide), tp_iA w _ k2, k3, k4, tp_and2]
  have B : (tp_FF i / 100000 = 4 ∨ tp_FF i / 100000 = 8) → (¬ tp_FF i / 100000 = 1 ∧ ¬ tp_FF i / 100000 = 3) → (tp_mm w (tp_FF i) ↔ tp_mt w (tp_tau.getD i 0)) := by
    intro h1 h2
    obtain ⟨k1, k2⟩ := tp_ksB i hi h1
    rw [tp_mmB ⟨h2.1, h2.2, h1⟩, tp_mtI k1 k2 (by decide)]
    exact ⟨Eq.symm, Eq.symm⟩
  rcases tp_f80 i hi with h | h | h | h | h | h | h | h
  · obtain ⟨k1, k2, k3, k4, k5, k6⟩ := tp_ksC i hi h
    rw [tp_mmC ⟨h, n _ _ h (by decide), n _ _ h (by decide), n _ _ h (by decide)⟩ k6, tp_mtI k1 rfl (by decide), tp_iC w _ _ (k := 25) 25 (by decide) (by decide) (by decide) k2, tp_iA w _ k3, k4, k5, tp_and2]
  · exact A (Or.inl h) ⟨n _ _ h (by decide), n _ _ h (by decide), n _ _ h (by decide), n _ _ h (by decide)⟩
  · obtain ⟨k1, k2, k3, k4, k5, k6⟩ := tp_ksD i hi h
    rw [tp_mmD ⟨h, n _ _ h (by decide), n _ _ h (by decide), n _ _ h (by decide)⟩ k6, tp_mtI k1 rfl (by decide), tp_iC w _ _ (k := 26) 26 (by decide) (by decide) (by decide) k2, tp_iA w _ k3, k4, k5, tp_and2]
  · exact B (Or.inl h) ⟨n _ _ h (by decide), n _ _ h (by decide)⟩
  · exact A (Or.inr (Or.inl h)) ⟨n _ _ h (by decide), n _ _ h (by decide), n _ _ h (by decide), n _ _ h (by decide)⟩
  · exact A (Or.inr (Or.inr (Or.inl h))) ⟨n _ _ h (by decide), n _ _ h (by decide), n _ _ h (by decide), n _ _ h (by decide)⟩
  · exact A (Or.inr (Or.inr (Or.inr h))) ⟨n _ _ h (by decide), n _ _ h (by decide), n _ _ h (by decide), n _ _ h (by decide)⟩
  · exact B (Or.inr h) ⟨n _ _ h (by decide), n _ _ h (by decide)⟩
abbrev tp_fx (a : Nat) : Int32 := tp_fix (tp_lay.getD a 0)
abbrev tp_cd (a : Nat) : Int32 := tp_cod.getD a 0
theorem tp_excl0 : ∀ a, a < 34 → ∀ b, b < 34 → (1 ≤ a ∧ 1 ≤ b ∧ ¬ a = b) → ¬ tp_cd a &&& tp_fx b = tp_cd b &&& tp_fx a := by decide +kernel
theorem tp_excl {w : Int32} {a b : Nat} (ha : a < 34) (ha1 : 1 ≤ a) (hb : b < 34) (hb1 : 1 ≤ b) (h1 : tp_mt w a) (h2 : tp_mt w b) : a = b := by
  by_cases e : a = b
  · exact e
  · refine absurd ?_ (tp_excl0 a ha b hb ⟨ha1, hb1, e⟩)
    have e1 : w &&& tp_fx a = tp_cd a := h1.2
    have e2 : w &&& tp_fx b = tp_cd b := h2.2
    rw [← e1, ← e2, Int32.and_assoc, Int32.and_assoc, Int32.and_comm (tp_fx a)]
theorem tp_short0 : ∀ u, u < 47 → 34 ≤ u → tp_fx u = 0 ∨ ¬ tp_cd u &&& tp_fx u = tp_cd u ∨ ∃ v, v < 34 ∧ 1 ≤ v ∧ tp_fx v = tp_fx u ∧ tp_cd v = tp_cd u := by decide +kernel
theorem tp_short {w : Int32} {u : Nat} (h : u < 47) (h2 : 34 ≤ u) (hm : tp_mt w u) : ∃ v, v < 34 ∧ 1 ≤ v ∧ tp_mt w v := by
  rcases tp_short0 u h h2 with q | q | ⟨v, v1, v2, v3, v4⟩
  · exact absurd q hm.1
  · have e1 : w &&& tp_fx u = tp_cd u := hm.2
    exact absurd (by rw [← e1, Int32.and_assoc, Int32.and_self]) q
  · refine ⟨v, v1, v2, ?_, ?_⟩
    · show ¬ tp_fx v = 0
      rw [v3]; exact hm.1
    · show w &&& tp_fx v = tp_cd v
      rw [v3, v4]; exact hm.2
theorem tp_taub : ∀ i, i < 33 → tp_tau.getD i 0 < 34 ∧ 1 ≤ tp_tau.getD i 0 := by decide +kernel
theorem tp_taus : ∀ u, u < 34 → 1 ≤ u → ∃ i, i < 33 ∧ tp_tau.getD i 0 = u := by decide +kernel
theorem tp_mt0 {w : Int32} : ¬ tp_mt w 0 := fun h => h.1 (by decide)
theorem tp_showEq {w ko : Int32} {u : Nat} {f : Nat → Int32} (hu : tp_hit w u) (hm : tp_mhit w f ko) (hF : ∀ i : Nat, i < 33 → f i = tp_forms.getD i 0) : (u = 0 ∧ ko = -1) ∨ (¬ u = 0 ∧ 0 ≤ ko.toInt ∧ ko.toInt < 33 ∧ u = tp_tau.getD ko.toNatClampNeg 0) := by
  rcases hm with ⟨h1, h2⟩ | ⟨h1, h2, h3, h4⟩
  · refine Or.inl ⟨?_, h1⟩
    rcases hu with ⟨q1, q2⟩ | ⟨q1, q2, q3⟩
    · exact q1
    · exfalso
      by_cases z : u < 34
      · by_cases z1 : 1 ≤ u
        · obtain ⟨i, i1, i2⟩ := tp_taus u z z1
          refine h2 i i1 ?_
          rw [hF i i1]; exact (tp_mmmt w i i1).mpr (i2 ▸ q2)
        · have : u = 0 := by omega
          subst this; exact tp_mt0 q2
      · obtain ⟨v, v1, v2, v3⟩ := tp_short q1 (by omega) q2
        exact q3 v (by omega) v3
  · have h5 : ko.toNatClampNeg < 33 := by show ko.toInt.toNat < 33; omega
    rw [hF _ h5] at h3
    have h6 := (tp_mmmt w _ h5).mp h3
    have h7 := tp_taub _ h5
    rcases hu with ⟨q1, q2⟩ | ⟨q1, q2, q3⟩
    · exact absurd h6 (q2 _ (by omega))
    · refine Or.inr ?_
      have z1 : 1 ≤ u := by
        by_cases z : u = 0
        · subst z; exact absurd q2 tp_mt0
        · omega
      refine ⟨by omega, h1, h2, ?_⟩
      by_cases z : u < 34
      · exact tp_excl z z1 h7.1 h7.2 q2 h6
      · obtain ⟨v, v1, v2, v3⟩ := tp_short q1 (by omega) q2
        exact absurd v3 (q3 v (by omega))
/-- the lengths -/
theorem tp_lnr : ∀ i, i < 33 → tp_nr (tp_names.getD i 0) 8 = tp_len.getD (tp_tau.getD i 0) 0 := by decide +kernel
abbrev tp_ops (u : Nat) : List Int32 := tp_byt.getD (47 + u) []
theorem tp_kO1 : ∀ i, i < 33 → tp_FF i / 100000 = 1 → tp_ops (tp_tau.getD i 0) = [100, 44, 115, 44, 116] ∧ tp_len.getD (47 + tp_tau.getD i 0) 0 = 5 := by decide +kernel
theorem tp_kO2 : ∀ i, i < 33 → tp_FF i / 100000 = 2 → tp_ops (tp_tau.getD i 0) = [100, 44, 115, 44, 105] ∧ tp_len.getD (47 + tp_tau.getD i 0) 0 = 5 ∧ tp_lay.getD (tp_tau.getD i 0) 0 = 2 := by decide +kernel
theorem tp_kO3 : ∀ i, i < 33 → tp_FF i / 100000 = 3 → tp_ops (tp_tau.getD i 0) = [100, 44, 115, 44, 105] ∧ tp_len.getD (47 + tp_tau.getD i 0) 0 = 5 ∧ tp_lay.getD (tp_tau.getD i 0) 0 = 3 := by decide +kernel
theorem tp_kO4 : ∀ i, i < 33 → tp_FF i / 100000 = 4 → tp_ops (tp_tau.getD i 0) = [100, 44, 105] ∧ tp_len.getD (47 + tp_tau.getD i 0) 0 = 3 ∧ tp_lay.getD (tp_tau.getD i 0) 0 = 4 := by decide +kernel
theorem tp_kO5 : ∀ i, i < 33 → tp_FF i / 100000 = 5 → tp_ops (tp_tau.getD i 0) = [100, 44, 105, 40, 115, 41] ∧ tp_len.getD (47 + tp_tau.getD i 0) 0 = 6 ∧ tp_lay.getD (tp_tau.getD i 0) 0 = 2 := by decide +kernel
theorem tp_kO6 : ∀ i, i < 33 → tp_FF i / 100000 = 6 → tp_ops (tp_tau.getD i 0) = [116, 44, 105, 40, 115, 41] ∧ tp_len.getD (47 + tp_tau.getD i 0) 0 = 6 ∧ tp_lay.getD (tp_tau.getD i 0) 0 = 5 := by decide +kernel
theorem tp_kO7 : ∀ i, i < 33 → tp_FF i / 100000 = 7 → tp_ops (tp_tau.getD i 0) = [115, 44, 116, 44, 108] ∧ tp_len.getD (47 + tp_tau.getD i 0) 0 = 5 ∧ tp_lay.getD (tp_tau.getD i 0) 0 = 6 := by decide +kernel
theorem tp_kO8 : ∀ i, i < 33 → tp_FF i / 100000 = 8 → tp_ops (tp_tau.getD i 0) = [100, 44, 108] ∧ tp_len.getD (47 + tp_tau.getD i 0) 0 = 3 ∧ tp_lay.getD (tp_tau.getD i 0) 0 = 7 := by decide +kernel
section TPOL
variable (u : Nat) (w : Int32)
theorem tp_olD : tp_ol u 100 w = 1 + tp_dl ((w >>> (7 &&& 31 : Int32)) &&& 31) := by rw [← (tp_reg w).1]; rfl
theorem tp_olS : tp_ol u 115 w = 1 + tp_dl ((w >>> (15 &&& 31 : Int32)) &&& 31) := by rw [← (tp_reg w).2.1]; rfl
theorem tp_olT : tp_ol u 116 w = 1 + tp_dl ((w >>> (20 &&& 31 : Int32)) &&& 31) := by rw [← (tp_reg w).2.2]; rfl
theorem tp_olI : tp_ol u 105 w = tp_dl (tp_num (tp_lay.getD u 0) w) := rfl
theorem tp_olL : tp_ol u 108 w = tp_dl (tp_num (tp_lay.getD u 0) w) := rfl
theorem tp_ol44 : tp_ol u 44 w = 1 ∧ tp_ol u 40 w = 1 ∧ tp_ol u 41 w = 1 := ⟨rfl, rfl, rfl⟩
variable {u}
theorem tp_os3 {a b c : Int32} (h : tp_ops u = [a, b, c]) : tp_os u w 3 = tp_ol u a w + tp_ol u b w + tp_ol u c w := by
  show ((0 + tp_ol u ((tp_ops u).getD 0 0) w) + tp_ol u ((tp_ops u).getD 1 0) w) + tp_ol u ((tp_ops u).getD 2 0) w = _
  rw [h, Nat.zero_add]; rfl
theorem tp_os5 {a b c d e : Int32} (h : tp_ops u = [a, b, c, d, e]) : tp_os u w 5 = tp_ol u a w + tp_ol u b w + tp_ol u c w + tp_ol u d w + tp_ol u e w := by
  show ((((0 + tp_ol u ((tp_ops u).getD 0 0) w) + tp_ol u ((tp_ops u).getD 1 0) w) + tp_ol u ((tp_ops u).getD 2 0) w) + tp_ol u ((tp_ops u).getD 3 0) w) + tp_ol u ((tp_ops u).getD 4 0) w = _
  rw [h, Nat.zero_add]; rfl
theorem tp_os6 {a b c d e f : Int32} (h : tp_ops u = [a, b, c, d, e, f]) : tp_os u w 6 = tp_ol u a w + tp_ol u b w + tp_ol u c w + tp_ol u d w + tp_ol u e w + tp_ol u f w := by
  show (((((0 + tp_ol u ((tp_ops u).getD 0 0) w) + tp_ol u ((tp_ops u).getD 1 0) w) + tp_ol u ((tp_ops u).getD 2 0) w) + tp_ol u ((tp_ops u).getD 3 0) w) + tp_ol u ((tp_ops u).getD 4 0) w) + tp_ol u ((tp_ops u).getD 5 0) w = _
  rw [h, Nat.zero_add]; rfl
end TPOL
theorem tp_lenEq (w : Int32) (i : Nat) (hi : i < 33) : tp_lenT (tp_tau.getD i 0) w = tp_nr (tp_names.getD i 0) 8 + tp_lm (tp_FF i / 100000) w := by
  unfold tp_lenT
  rw [tp_lnr i hi]
  have c4 := tp_ol44 (tp_tau.getD i 0) w
  have cd := tp_olD (tp_tau.getD i 0) w
  have cs := tp_olS (tp_tau.getD i 0) w
  have ct := tp_olT (tp_tau.getD i 0) w
  have ci := tp_olI (tp_tau.getD i 0) w
  have cl := tp_olL (tp_tau.getD i 0) w
  rcases tp_f80 i hi with h | h | h | h | h | h | h | h
  · obtain ⟨k1, k2⟩ := tp_kO1 i hi h
    rw [k2, tp_os5 w k1, h, cd, cs, ct, c4.1]
    show _ = _ + ((2 + tp_dl ((w >>> (7 &&& 31 : Int32)) &&& 31)) + (2 + tp_dl ((w >>> (15 &&& 31 : Int32)) &&& 31)) + (2 + tp_dl ((w >>> (20 &&& 31 : Int32)) &&& 31)))
    omega
  · obtain ⟨k1, k2, k3⟩ := tp_kO2 i hi h
    rw [k2, tp_os5 w k1, h, cd, cs, ci, k3, c4.1, show tp_num 2 w = _ from tp_num2 w]
    show _ = _ + ((2 + tp_dl ((w >>> (7 &&& 31 : Int32)) &&& 31)) + (2 + tp_dl ((w >>> (15 &&& 31 : Int32)) &&& 31)) + 1 + tp_dl _)
    omega
  · obtain ⟨k1, k2, k3⟩ := tp_kO3 i hi h
    rw [k2, tp_os5 w k1, h, cd, cs, ci, k3, c4.1, show tp_num 3 w = _ from tp_num3 w]
    show _ = _ + ((2 + tp_dl ((w >>> (7 &&& 31 : Int32)) &&& 31)) + (2 + tp_dl ((w >>> (15 &&& 31 : Int32)) &&& 31)) + 1 + tp_dl _)
    omega
  · obtain ⟨k1, k2, k3⟩ := tp_kO4 i hi h
    rw [k2, tp_os3 w k1, h, cd, ci, k3, c4.1]
    show _ = _ + ((2 + tp_dl ((w >>> (7 &&& 31 : Int32)) &&& 31)) + 1 + tp_dl (tp_num 4 w))
    omega
  · obtain ⟨k1, k2, k3⟩ := tp_kO5 i hi h
    rw [k2, tp_os6 w k1, h, cd, cs, ci, k3, c4.1, c4.2.1, c4.2.2, show tp_num 2 w = _ from tp_num2 w]
    show _ = _ + ((2 + tp_dl ((w >>> (7 &&& 31 : Int32)) &&& 31)) + 1 + tp_dl _ + (2 + tp_dl ((w >>> (15 &&& 31 : Int32)) &&& 31)) + 1)
    omega
  · obtain ⟨k1, k2, k3⟩ := tp_kO6 i hi h
    rw [k2, tp_os6 w k1, h, ct, cs, ci, k3, c4.1, c4.2.1, c4.2.2, show tp_num 5 w = _ from tp_num5 w]
    show _ = _ + ((2 + tp_dl ((w >>> (20 &&& 31 : Int32)) &&& 31)) + 1 + tp_dl _ + (2 + tp_dl ((w >>> (15 &&& 31 : Int32)) &&& 31)) + 1)
    omega
  · obtain ⟨k1, k2, k3⟩ := tp_kO7 i hi h
    rw [k2, tp_os5 w k1, h, ct, cs, cl, k3, c4.1, show tp_num 6 w = _ from tp_num6 w]
    show _ = _ + ((2 + tp_dl ((w >>> (15 &&& 31 : Int32)) &&& 31)) + (2 + tp_dl ((w >>> (20 &&& 31 : Int32)) &&& 31)) + 1 + tp_dl _)
    omega
  · obtain ⟨k1, k2, k3⟩ := tp_kO8 i hi h
    rw [k2, tp_os3 w k1, h, cd, cl, k3, c4.1, show tp_num 7 w = _ from tp_num7 w]
    show _ = _ + ((2 + tp_dl ((w >>> (7 &&& 31 : Int32)) &&& 31)) + 1 + tp_dl _)
    omega
