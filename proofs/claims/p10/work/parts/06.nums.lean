/-! numbers: digits, lengths, bounds -/
theorem tp_neI {x v : Int32} {n : Int} (hv : v.toInt = n) (h : ¬ x = v) : ¬ x.toInt = n := fun q => h (Int32.toInt_inj.mp (q.trans hv.symm))
theorem tp_addI {x y : Int32} (h1 : -2147483648 ≤ x.toInt + y.toInt) (h2 : x.toInt + y.toInt < 2147483648) : (x + y).toInt = x.toInt + y.toInt := by
  rw [Int32.toInt_add]; exact Int.bmod_eq_of_le (by omega) (by omega)
theorem tp_subI {x y : Int32} (h1 : -2147483648 ≤ x.toInt - y.toInt) (h2 : x.toInt - y.toInt < 2147483648) : (x - y).toInt = x.toInt - y.toInt := by
  rw [Int32.toInt_sub]; exact Int.bmod_eq_of_le (by omega) (by omega)
theorem tp_leI {x y : Int32} {a b : Int} (hx : x.toInt = a) (hy : y.toInt = b) (h : a ≤ b) : x ≤ y := Int32.le_iff_toInt_le.mpr (by rw [hx, hy]; exact h)
theorem tp_inc {k : Int32} (h : k.toInt < 1000000) : (k + 1).toInt = k.toInt + 1 := by
  have h1 := Int32.le_toInt k
  exact tp_addI (by rw [show (1 : Int32).toInt = 1 from rfl]; omega) (by rw [show (1 : Int32).toInt = 1 from rfl]; omega)
theorem tp_decI {k : Int32} (h : -1000000 < k.toInt) : (k + (-1)).toInt = k.toInt - 1 := by
  have h1 := Int32.toInt_lt k
  rw [tp_addI (by rw [show (-1 : Int32).toInt = -1 from rfl]; omega) (by rw [show (-1 : Int32).toInt = -1 from rfl]; omega), show (-1 : Int32).toInt = -1 from rfl]; omega
theorem tp_dec {k : Int32} (h : -1000000 < k.toInt) : (k - 1).toInt = k.toInt - 1 := by
  have h1 := Int32.toInt_lt k
  exact tp_subI (by rw [show (1 : Int32).toInt = 1 from rfl]; omega) (by rw [show (1 : Int32).toInt = 1 from rfl]; omega)
theorem tp_m2 {cp : Int32} (h : 0 ≤ cp.toInt) : ((cp + (-1)) + (-1)).toInt = cp.toInt - 2 := by
  rw [tp_decI (by rw [tp_decI (by omega)]; omega), tp_decI (by omega)]; omega
theorem tp_ge0 {k : Int32} (h : ¬ k < 0) : 0 ≤ k.toInt := by
  rw [Int32.lt_iff_toInt_lt, Int32.toInt_zero] at h; omega
/-- decimal digits of n; the length of v as text -/
def tp_dg (n : Nat) : Nat := if n < 10 then 1 else if n < 100 then 2 else if n < 1000 then 3 else if n < 10000 then 4 else if n < 100000 then 5 else if n < 1000000 then 6 else if n < 10000000 then 7 else if n < 100000000 then 8 else if n < 1000000000 then 9 else 10
def tp_dl (v : Int32) : Nat := tp_dg v.toInt.natAbs + (if v.toInt < 0 then 1 else 0)
theorem tp_dg1 {n : Nat} : 1 ≤ tp_dg n := by unfold tp_dg; (repeat' split) <;> omega
theorem tp_dg2 {n : Nat} (h : 10 ≤ n) : 2 ≤ tp_dg n := by unfold tp_dg; (repeat' split) <;> omega
theorem tp_dg3 {n : Nat} (h : 100 ≤ n) : 3 ≤ tp_dg n := by unfold tp_dg; (repeat' split) <;> omega
theorem tp_dge1 {n : Nat} (h2 : n < 10) : tp_dg n = 1 := by
  unfold tp_dg; (repeat' split) <;> omega
theorem tp_dge2 {n : Nat} (h1 : 10 ≤ n) (h2 : n < 100) : tp_dg n = 2 := by
  unfold tp_dg; (repeat' split) <;> omega
theorem tp_dge3 {n : Nat} (h1 : 100 ≤ n) (h2 : n < 1000) : tp_dg n = 3 := by
  unfold tp_dg; (repeat' split) <;> omega
theorem tp_dge4 {n : Nat} (h1 : 1000 ≤ n) (h2 : n < 10000) : tp_dg n = 4 := by
  unfold tp_dg; (repeat' split) <;> omega
theorem tp_dge5 {n : Nat} (h1 : 10000 ≤ n) (h2 : n < 100000) : tp_dg n = 5 := by
  unfold tp_dg; (repeat' split) <;> omega
theorem tp_dge6 {n : Nat} (h1 : 100000 ≤ n) (h2 : n < 1000000) : tp_dg n = 6 := by
  unfold tp_dg; (repeat' split) <;> omega
theorem tp_dge7 {n : Nat} (h1 : 1000000 ≤ n) (h2 : n < 10000000) : tp_dg n = 7 := by
  unfold tp_dg; (repeat' split) <;> omega
theorem tp_dge8 {n : Nat} (h1 : 10000000 ≤ n) (h2 : n < 100000000) : tp_dg n = 8 := by
  unfold tp_dg; (repeat' split) <;> omega
theorem tp_dge9 {n : Nat} (h1 : 100000000 ≤ n) (h2 : n < 1000000000) : tp_dg n = 9 := by
  unfold tp_dg; (repeat' split) <;> omega
theorem tp_dge10 {n : Nat} (h1 : 1000000000 ≤ n) : tp_dg n = 10 := by
  unfold tp_dg; (repeat' split) <;> omega
theorem tp_dg_div {n : Nat} (h : 100 ≤ n) (h2 : n < 10000000000) : tp_dg (n / 100) + 2 = tp_dg n := by
  by_cases q3 : n < 1000
  · rw [tp_dge3 (by omega) q3, show tp_dg (n / 100) = 1 from tp_dge1 (by omega)]
  by_cases q4 : n < 10000
  · rw [tp_dge4 (by omega) q4, show tp_dg (n / 100) = 2 from tp_dge2 (by omega) (by omega)]
  by_cases q5 : n < 100000
  · rw [tp_dge5 (by omega) q5, show tp_dg (n / 100) = 3 from tp_dge3 (by omega) (by omega)]
  by_cases q6 : n < 1000000
  · rw [tp_dge6 (by omega) q6, show tp_dg (n / 100) = 4 from tp_dge4 (by omega) (by omega)]
  by_cases q7 : n < 10000000
  · rw [tp_dge7 (by omega) q7, show tp_dg (n / 100) = 5 from tp_dge5 (by omega) (by omega)]
  by_cases q8 : n < 100000000
  · rw [tp_dge8 (by omega) q8, show tp_dg (n / 100) = 6 from tp_dge6 (by omega) (by omega)]
  by_cases q9 : n < 1000000000
  · rw [tp_dge9 (by omega) q9, show tp_dg (n / 100) = 7 from tp_dge7 (by omega) (by omega)]
  rw [show tp_dg (n / 100) = 8 from tp_dge8 (by omega) (by omega), tp_dge10 (n := n) (by omega)]
theorem tp_leq {a b : Int32} (h : a ≤ b) (h2 : ¬ a < b) : a = b := by
  rw [Int32.le_iff_toInt_le] at h
  rw [Int32.lt_iff_toInt_lt] at h2
  exact Int32.toInt_inj.mp (by omega)
theorem tp_shr0 {x : Int32} : x >>> (0 &&& 31) = x := sb_shr0 x
theorem tp_g18 {mn : Int32} (hm : 0 ≤ mn.toInt ∧ mn.toInt ≤ 34) : ((mn <<< (0 &&& 31)) - 16) ≤ 18 := by
  rw [sb_shl0]
  exact tp_leI (tp_subI (by rw [show (16 : Int32).toInt = 16 from rfl]; omega) (by rw [show (16 : Int32).toInt = 16 from rfl]; omega)) rfl (by rw [show (16 : Int32).toInt = 16 from rfl, show (18 : Int32).toInt = 18 from rfl]; omega)
theorem tp_le16 {mn : Int32} (hm : 0 ≤ mn.toInt ∧ mn.toInt ≤ 34) (h1 : (mn - 16) ≤ 0) : mn.toInt ≤ ((16 : Nat) : Int) := by
  rw [Int32.le_iff_toInt_le, tp_subI (by rw [show (16 : Int32).toInt = 16 from rfl]; omega) (by rw [show (16 : Int32).toInt = 16 from rfl]; omega), show (16 : Int32).toInt = 16 from rfl, Int32.toInt_zero] at h1
  omega
theorem tp_m34 {mn : Int32} (hm : 0 ≤ mn.toInt ∧ mn.toInt ≤ 34) : (mn - 34) ≤ 0 := by
  rw [Int32.le_iff_toInt_le, tp_subI (by rw [show (34 : Int32).toInt = 34 from rfl]; omega) (by rw [show (34 : Int32).toInt = 34 from rfl]; omega), show (34 : Int32).toInt = 34 from rfl, Int32.toInt_zero]
  omega
theorem tp_c1 {xc : Int32} (hc : 0 ≤ xc.toInt ∧ xc.toInt < 34) : 0 ≤ (xc + 1).toInt ∧ (xc + 1).toInt ≤ 34 := by rw [tp_inc (by omega)]; omega
theorem tp_vc {xc : Int32} {n : Nat} (hc : 0 ≤ xc.toInt ∧ xc.toInt < 34) (hm : (xc + 1).toInt ≤ (n : Int)) : vp_in xc n := by
  rw [tp_inc (by omega)] at hm; exact vp_in_iff.mpr (by omega)
theorem tp_negI {x : Int32} (h : -2147483648 < x.toInt) : (-x).toInt = -x.toInt := by
  have h1 := Int32.toInt_lt x
  rw [Int32.toInt_neg]; exact Int.bmod_eq_of_le (by omega) (by omega)
theorem tp_ssn {xv : Int32} (h : xv < 0) : xv.toInt = -(xv.toInt.natAbs : Int) := by
  rw [Int32.lt_iff_toInt_lt, Int32.toInt_zero] at h; omega
theorem tp_ssp {xv : Int32} (h : ¬ xv < 0) : (-xv).toInt = -(xv.toInt.natAbs : Int) := by
  have h1 := tp_ge0 h
  rw [tp_negI (by omega)]; omega
theorem tp_sdn {xv : Int32} (h : xv < 0) : (tp_dl xv : Int) = (tp_dg xv.toInt.natAbs : Int) + (1 : Int32).toInt ∧ 0 ≤ (1 : Int32).toInt ∧ (1 : Int32).toInt ≤ 1 := by
  rw [Int32.lt_iff_toInt_lt, Int32.toInt_zero] at h
  refine ⟨?_, by decide, by decide⟩
  unfold tp_dl; rw [if_pos h, show (1 : Int32).toInt = 1 from rfl]; omega
theorem tp_sdp {xv : Int32} (h : ¬ xv < 0) : (tp_dl xv : Int) = (tp_dg xv.toInt.natAbs : Int) + (0 : Int32).toInt ∧ 0 ≤ (0 : Int32).toInt ∧ (0 : Int32).toInt ≤ 1 := by
  have h1 := tp_ge0 h
  refine ⟨?_, by decide, by decide⟩
  unfold tp_dl; rw [if_neg (by omega), show (0 : Int32).toInt = 0 from rfl]; omega
section TPS
variable {xx xv xd : Int32}
theorem tp_szk {k : Int32} {K : Int} (hK : k.toInt = K) (h0 : 1 ≤ K ∧ K ≤ 10) (hd : (tp_dl xv : Int) = (tp_dg xv.toInt.natAbs : Int) + xd.toInt ∧ 0 ≤ xd.toInt ∧ xd.toInt ≤ 1) (h : (tp_dg xv.toInt.natAbs : Int) = K) : (k + xd).toInt = (tp_dl xv : Int) := by
  rw [tp_addI (by omega) (by omega), hK, hd.1, h]
theorem tp_sz1 (hx0 : xx.toInt = -(xv.toInt.natAbs : Int)) (hd : (tp_dl xv : Int) = (tp_dg xv.toInt.natAbs : Int) + xd.toInt ∧ 0 ≤ xd.toInt ∧ xd.toInt ≤ 1) (h2 : ¬ xx ≤ -10) : (1 + xd).toInt = (tp_dl xv : Int) := tp_szk (K := 1) rfl (by decide) hd (by
  rw [Int32.le_iff_toInt_le, hx0, show (-10 : Int32).toInt = -10 from rfl] at h2
  unfold tp_dg; rw [if_pos (by omega)]; rfl)
theorem tp_sz2 (hx0 : xx.toInt = -(xv.toInt.natAbs : Int)) (hd : (tp_dl xv : Int) = (tp_dg xv.toInt.natAbs : Int) + xd.toInt ∧ 0 ≤ xd.toInt ∧ xd.toInt ≤ 1) (h1 : xx ≤ -10) (h2 : ¬ xx ≤ -100) : (2 + xd).toInt = (tp_dl xv : Int) := tp_szk (K := 2) rfl (by decide) hd (by
  rw [Int32.le_iff_toInt_le, hx0, show (-10 : Int32).toInt = -10 from rfl] at h1
  rw [Int32.le_iff_toInt_le, hx0, show (-100 : Int32).toInt = -100 from rfl] at h2
  unfold tp_dg; (repeat' split) <;> omega)
theorem tp_sz3 (hx0 : xx.toInt = -(xv.toInt.natAbs : Int)) (hd : (tp_dl xv : Int) = (tp_dg xv.toInt.natAbs : Int) + xd.toInt ∧ 0 ≤ xd.toInt ∧ xd.toInt ≤ 1) (h1 : xx ≤ -100) (h2 : ¬ xx ≤ -1000) : (3 + xd).toInt = (tp_dl xv : Int) := tp_szk (K := 3) rfl (by decide) hd (by
  rw [Int32.le_iff_toInt_le, hx0, show (-100 : Int32).toInt = -100 from rfl] at h1
  rw [Int32.le_iff_toInt_le, hx0, show (-1000 : Int32).toInt = -1000 from rfl] at h2
  unfold tp_dg; (repeat' split) <;> omega)
theorem tp_sz4 (hx0 : xx.toInt = -(xv.toInt.natAbs : Int)) (hd : (tp_dl xv : Int) = (tp_dg xv.toInt.natAbs : Int) + xd.toInt ∧ 0 ≤ xd.toInt ∧ xd.toInt ≤ 1) (h1 : xx ≤ -1000) (h2 : ¬ xx ≤ -10000) : (4 + xd).toInt = (tp_dl xv : Int) := tp_szk (K := 4) rfl (by decide) hd (by
  rw [Int32.le_iff_toInt_le, hx0, show (-1000 : Int32).toInt = -1000 from rfl] at h1
  rw [Int32.le_iff_toInt_le, hx0, show (-10000 : Int32).toInt = -10000 from rfl] at h2
  unfold tp_dg; (repeat' split) <;> omega)
theorem tp_sz5 (hx0 : xx.toInt = -(xv.toInt.natAbs : Int)) (hd : (tp_dl xv : Int) = (tp_dg xv.toInt.natAbs : Int) + xd.toInt ∧ 0 ≤ xd.toInt ∧ xd.toInt ≤ 1) (h1 : xx ≤ -10000) (h2 : ¬ xx ≤ -100000) : (5 + xd).toInt = (tp_dl xv : Int) := tp_szk (K := 5) rfl (by decide) hd (by
  rw [Int32.le_iff_toInt_le, hx0, show (-10000 : Int32).toInt = -10000 from rfl] at h1
  rw [Int32.le_iff_toInt_le, hx0, show (-100000 : Int32).toInt = -100000 from rfl] at h2
  unfold tp_dg; (repeat' split) <;> omega)
theorem tp_sz6 (hx0 : xx.toInt = -(xv.toInt.natAbs : Int)) (hd : (tp_dl xv : Int) = (tp_dg xv.toInt.natAbs : Int) + xd.toInt ∧ 0 ≤ xd.toInt ∧ xd.toInt ≤ 1) (h1 : xx ≤ -100000) (h2 : ¬ xx ≤ -1000000) : (6 + xd).toInt = (tp_dl xv : Int) := tp_szk (K := 6) rfl (by decide) hd (by
  rw [Int32.le_iff_toInt_le, hx0, show (-100000 : Int32).toInt = -100000 from rfl] at h1
  rw [Int32.le_iff_toInt_le, hx0, show (-1000000 : Int32).toInt = -1000000 from rfl] at h2
  unfold tp_dg; (repeat' split) <;> omega)
theorem tp_sz7 (hx0 : xx.toInt = -(xv.toInt.natAbs : Int)) (hd : (tp_dl xv : Int) = (tp_dg xv.toInt.natAbs : Int) + xd.toInt ∧ 0 ≤ xd.toInt ∧ xd.toInt ≤ 1) (h1 : xx ≤ -1000000) (h2 : ¬ xx ≤ -10000000) : (7 + xd).toInt = (tp_dl xv : Int) := tp_szk (K := 7) rfl (by decide) hd (by
  rw [Int32.le_iff_toInt_le, hx0, show (-1000000 : Int32).toInt = -1000000 from rfl] at h1
  rw [Int32.le_iff_toInt_le, hx0, show (-10000000 : Int32).toInt = -10000000 from rfl] at h2
  unfold tp_dg; (repeat' split) <;> omega)
theorem tp_sz8 (hx0 : xx.toInt = -(xv.toInt.natAbs : Int)) (hd : (tp_dl xv : Int) = (tp_dg xv.toInt.natAbs : Int) + xd.toInt ∧ 0 ≤ xd.toInt ∧ xd.toInt ≤ 1) (h1 : xx ≤ -10000000) (h2 : ¬ xx ≤ -100000000) : (8 + xd).toInt = (tp_dl xv : Int) := tp_szk (K := 8) rfl (by decide) hd (by
  rw [Int32.le_iff_toInt_le, hx0, show (-10000000 : Int32).toInt = -10000000 from rfl] at h1
  rw [Int32.le_iff_toInt_le, hx0, show (-100000000 : Int32).toInt = -100000000 from rfl] at h2
  unfold tp_dg; (repeat' split) <;> omega)
theorem tp_sz9 (hx0 : xx.toInt = -(xv.toInt.natAbs : Int)) (hd : (tp_dl xv : Int) = (tp_dg xv.toInt.natAbs : Int) + xd.toInt ∧ 0 ≤ xd.toInt ∧ xd.toInt ≤ 1) (h1 : xx ≤ -100000000) (h2 : ¬ xx ≤ -1000000000) : (9 + xd).toInt = (tp_dl xv : Int) := tp_szk (K := 9) rfl (by decide) hd (by
  rw [Int32.le_iff_toInt_le, hx0, show (-100000000 : Int32).toInt = -100000000 from rfl] at h1
  rw [Int32.le_iff_toInt_le, hx0, show (-1000000000 : Int32).toInt = -1000000000 from rfl] at h2
  unfold tp_dg; (repeat' split) <;> omega)
theorem tp_sz10 (hx0 : xx.toInt = -(xv.toInt.natAbs : Int)) (hd : (tp_dl xv : Int) = (tp_dg xv.toInt.natAbs : Int) + xd.toInt ∧ 0 ≤ xd.toInt ∧ xd.toInt ≤ 1) (h1 : xx ≤ -100000000) (h2 : xx ≤ -1000000000) : (10 + xd).toInt = (tp_dl xv : Int) := tp_szk (K := 10) rfl (by decide) hd (by
  rw [Int32.le_iff_toInt_le, hx0, show (-1000000000 : Int32).toInt = -1000000000 from rfl] at h2
  unfold tp_dg; (repeat' split) <;> omega)
end TPS
section TPG
variable {xv xi x cp : Int32} {nb : Nat}
theorem tp_x0p (h : 0 ≤ xv) : (-xv).toInt ≤ 0 := by
  rw [Int32.le_iff_toInt_le, Int32.toInt_zero] at h; rw [tp_negI (by omega)]; omega
theorem tp_x0n (h : ¬ 0 ≤ xv) : xv.toInt ≤ 0 := by
  rw [Int32.le_iff_toInt_le, Int32.toInt_zero] at h; omega
theorem tp_dlp (hd : (tp_dl xv : Int) ≤ xi.toInt) (h : 0 ≤ xv) : (tp_dg (-xv).toInt.natAbs : Int) + 0 ≤ xi.toInt := by
  rw [Int32.le_iff_toInt_le, Int32.toInt_zero] at h
  unfold tp_dl at hd; rw [if_neg (by omega)] at hd
  rw [tp_negI (by omega), Int.natAbs_neg]; omega
theorem tp_dln (hd : (tp_dl xv : Int) ≤ xi.toInt) (h : ¬ 0 ≤ xv) : (tp_dg xv.toInt.natAbs : Int) + 1 ≤ xi.toInt := by
  rw [Int32.le_iff_toInt_le, Int32.toInt_zero] at h
  unfold tp_dl at hd; rw [if_pos (by omega)] at hd; omega
theorem tp_na100 (h : ¬ (-100) < x) : 100 ≤ x.toInt.natAbs := by
  rw [Int32.lt_iff_toInt_lt, show (-100 : Int32).toInt = -100 from rfl] at h; omega
theorem tp_na10 (h : ¬ (-9) ≤ x) : 10 ≤ x.toInt.natAbs := by
  rw [Int32.le_iff_toInt_le, show (-9 : Int32).toInt = -9 from rfl] at h; omega
theorem tp_td {a : Int} (h : a ≤ 0) : a.tdiv 100 = -((-a) / 100) := by
  have h1 := Int.tdiv_eq_ediv_of_nonneg (a := -a) (b := 100) (by omega)
  rw [← h1, Int.neg_tdiv]; omega
theorem tp_div100 (h : x.toInt ≤ 0) : (x / 100).toInt = -((-x.toInt) / 100) := by
  have h1 := Int32.le_toInt x
  rw [Int32.toInt_div, show (100 : Int32).toInt = 100 from rfl, tp_td h]
  exact Int.bmod_eq_of_le (by omega) (by omega)
theorem tp_mul100 (h : x.toInt ≤ 0) : ((x / 100) * 100).toInt = -((-x.toInt) / 100) * 100 := by
  have h1 := Int32.le_toInt x
  rw [Int32.toInt_mul, tp_div100 h, show (100 : Int32).toInt = 100 from rfl]
  exact Int.bmod_eq_of_le (by omega) (by omega)
theorem tp_q100 (h : x.toInt ≤ 0) (h2 : ¬ (-100) < x) : (x / 100).toInt ≤ 0 ∧ (x / 100).toInt.natAbs < x.toInt.natAbs ∧ tp_dg (x / 100).toInt.natAbs + 2 = tp_dg x.toInt.natAbs := by
  have h1 := Int32.le_toInt x
  have h3 := tp_na100 h2
  have e : (x / 100).toInt.natAbs = x.toInt.natAbs / 100 := by rw [tp_div100 h]; omega
  refine ⟨by rw [tp_div100 h]; omega, by omega, ?_⟩
  rw [e]; exact tp_dg_div h3 (by omega)
theorem tp_vr (h : x.toInt ≤ 0) : vp_in (((x / 100) * 100) - x) 100 := by
  have h1 := Int32.le_toInt x
  rw [vp_in_iff, tp_subI (by rw [tp_mul100 h]; omega) (by rw [tp_mul100 h]; omega), tp_mul100 h]; omega
theorem tp_vng (h : x.toInt ≤ 0) (h2 : (-100) < x) : vp_in (-x) 100 := by
  rw [Int32.lt_iff_toInt_lt, show (-100 : Int32).toInt = -100 from rfl] at h2
  rw [vp_in_iff, tp_negI (by omega)]; omega
theorem tp_vD1 (h : 1 ≤ cp.toInt) (h2 : cp.toInt ≤ (nb : Int)) : vp_in (cp + (-1)) nb := by
  rw [vp_in_iff, tp_decI (by omega)]; omega
theorem tp_vD2 (h : 2 ≤ cp.toInt) (h2 : cp.toInt ≤ (nb : Int)) : vp_in ((cp + (-1)) + (-1)) nb := by
  rw [vp_in_iff, tp_m2 (by omega)]; omega
theorem tp_vD3 (h : 3 ≤ cp.toInt) (h2 : cp.toInt ≤ (nb : Int)) : vp_in (((cp + (-1)) + (-1)) + (-1)) nb := by
  rw [vp_in_iff, tp_decI (by rw [tp_m2 (by omega)]; omega), tp_m2 (by omega)]; omega
variable {xc sz : Int32}
theorem tp_dl10 : tp_dl xv ≤ 11 ∧ 1 ≤ tp_dl xv := by
  unfold tp_dl tp_dg; (repeat' split) <;> omega
theorem tp_ci3 (hc : 0 ≤ xc.toInt ∧ xc.toInt + (tp_dl xv : Int) ≤ 34) (h : sz.toInt = (tp_dl xv : Int)) : (xc + sz).toInt = xc.toInt + (tp_dl xv : Int) := by
  rw [tp_addI (by omega) (by omega), h]
theorem tp_ci1 (hc : 0 ≤ xc.toInt ∧ xc.toInt + (tp_dl xv : Int) ≤ 34) (h : sz.toInt = (tp_dl xv : Int)) : 0 ≤ (xc + sz).toInt ∧ (xc + sz).toInt ≤ 34 := by
  rw [tp_ci3 hc h]; omega
theorem tp_ci2 (hc : 0 ≤ xc.toInt ∧ xc.toInt + (tp_dl xv : Int) ≤ 34) (h : sz.toInt = (tp_dl xv : Int)) : (tp_dl xv : Int) ≤ (xc + sz).toInt := by
  rw [tp_ci3 hc h]; omega
end TPG
section TPI
variable {i : Nat} {xk : Int32}
theorem tp_len7 (hi : i < 97) : tp_len.getD i 0 ≤ 7 := (by decide +kernel : ∀ i, i < 97 → tp_len.getD i 0 ≤ 7) i hi
theorem tp_ofn {n : Nat} (h : n ≤ 1000) : (Int32.ofNat n).toInt = n := Int32.toInt_ofNat_of_lt (by omega)
theorem tp_vinl (hi : i < 97) (h1 : ¬ xk < 0) (h2 : xk < (Int32.ofNat (tp_len.getD i 0))) : vp_in xk (tp_len.getD i 0) := by
  have h7 := tp_len7 hi
  have h3 := tp_ge0 h1
  rw [Int32.lt_iff_toInt_lt, tp_ofn (by omega)] at h2
  exact vp_in_iff.mpr ⟨h3, h2⟩
theorem tp_asc0 : ∀ i, i < 97 → ∀ j, j < 8 → (((tp_byt.getD i []).getD j 0 &&& 255).toUInt32 % 65536).toInt32 = (tp_byt.getD i []).getD j 0 := by decide +kernel
theorem tp_bytL : ∀ i, i < 97 → (tp_byt.getD i []).length ≤ 7 := by decide +kernel
theorem tp_asc (hi : i < 97) {j : Nat} : (((tp_byt.getD i []).getD j 0 &&& 255).toUInt32 % 65536).toInt32 = (tp_byt.getD i []).getD j 0 := by
  by_cases h : j < 8
  · exact tp_asc0 i hi j h
  · have h2 := tp_bytL i hi
    have e : (tp_byt.getD i []).getD j 0 = 0 := by
      rw [List.getD_eq_getElem?_getD, List.getElem?_eq_none (by omega)]; rfl
    rw [e]; decide
theorem tp_lnn (hi : i < 97) : ¬ (Int32.ofNat (tp_len.getD i 0)) < 0 := by
  have h7 := tp_len7 hi
  rw [Int32.lt_iff_toInt_lt, tp_ofn (by omega), Int32.toInt_zero]; omega
theorem tp_lcl (hi : i < 97) : (Int32.ofNat (tp_len.getD i 0)).toNatClampNeg = tp_len.getD i 0 := by
  have h7 := tp_len7 hi
  show (Int32.ofNat (tp_len.getD i 0)).toInt.toNat = _
  rw [tp_ofn (by omega)]; omega
theorem tp_l0 (hi : i < 97) : (0 : Int32).toNatClampNeg + (Int32.ofNat (tp_len.getD i 0)).toNatClampNeg ≤ tp_len.getD i 0 := by
  rw [tp_lcl hi, show (0 : Int32).toNatClampNeg = 0 from by decide]; omega
theorem tp_lnb (hi : i < 97) {nb : Nat} (hn : nb = 16 ∨ nb = 34) : (0 : Int32).toNatClampNeg + (Int32.ofNat (tp_len.getD i 0)).toNatClampNeg ≤ nb := by
  have h7 := tp_len7 hi
  rw [tp_lcl hi, show (0 : Int32).toNatClampNeg = 0 from by decide]; omega
theorem tp_l34 (hi : i < 97) : 0 ≤ (0 + (Int32.ofNat (tp_len.getD i 0))).toInt ∧ (0 + (Int32.ofNat (tp_len.getD i 0))).toInt ≤ 34 := by
  have h7 := tp_len7 hi
  rw [Int32.zero_add, tp_ofn (by omega)]; omega
theorem tp_l0i (hi : i < 97) : (0 + (Int32.ofNat (tp_len.getD i 0))).toInt = ((tp_len.getD i 0 : Nat) : Int) := by
  have h7 := tp_len7 hi
  rw [Int32.zero_add, tp_ofn (by omega)]
end TPI
theorem tp_gc1 {a b : Nat} {c c' : Int} {s : Int} (h : (a : Int) + s ≤ c) (g : b + 2 = a) (e : c' = c - 2) : (b : Int) + s ≤ c' := by omega
theorem tp_gc2 {c c' n : Int} (h : c ≤ n) (e : c' = c - 2) : c' ≤ n := by omega
/-! type, both sides; bytes that fit -/
def tp_ch (b : Int64) (n k : Int32) : Int32 := ((b.toUInt64 >>> ((Int32.toInt64 (8 * ((n - 1) - k))).toUInt64 &&& Int64.toUInt64 63)).toInt64).toInt32 &&& 255
def tp_okT (c : Int32) : Prop := 32 ≤ c ∧ c ≤ 126
def tp_valT (b : Int64) (n : Int32) : Prop := (1 ≤ n.toInt ∧ n.toInt ≤ 8) ∧ ∀ i : Int32, 0 ≤ i.toInt → i.toInt < n.toInt → tp_okT (tp_ch b n i)
theorem tp_n18 {n : Int32} (h1 : ¬ n < 1) (h2 : n ≤ 8) : 1 ≤ n.toInt ∧ n.toInt ≤ 8 := by
  rw [Int32.lt_iff_toInt_lt, show (1 : Int32).toInt = 1 from rfl] at h1
  rw [Int32.le_iff_toInt_le, show (8 : Int32).toInt = 8 from rfl] at h2
  omega
theorem tp_no18 {n : Int32} (h : n < 1 ∨ ¬ n ≤ 8) : ¬ (1 ≤ n.toInt ∧ n.toInt ≤ 8) := by
  rw [Int32.lt_iff_toInt_lt, show (1 : Int32).toInt = 1 from rfl, Int32.le_iff_toInt_le, show (8 : Int32).toInt = 8 from rfl] at h
  omega
theorem tp_badT {c : Int32} (h : tp_okT c) (q : c < 32 ∨ ¬ c ≤ 126) : False := by
  rcases q with q | q
  · exact absurd h.1 (Int32.not_le.mpr q)
  · exact q h.2
theorem tp_lastT {b : Int64} {n k : Int32} (h1 : 32 ≤ tp_ch b n k) (h2 : tp_ch b n k ≤ 126) (h : ∀ i : Int32, 0 ≤ i.toInt → i.toInt < k.toInt → tp_okT (tp_ch b n i)) (hk : (k + 1).toInt = k.toInt + 1) (i : Int32) (z1 : 0 ≤ i.toInt) (z2 : i.toInt < (k + 1).toInt) : tp_okT (tp_ch b n i) := by
  by_cases e : i.toInt = k.toInt
  · rw [Int32.toInt_inj.mp e]; exact ⟨h1, h2⟩
  · exact h i z1 (by omega)
theorem tp_le28 {n : Int32} (h : 1 ≤ n.toInt ∧ n.toInt ≤ 8) : 0 + n ≤ 28 := by
  rw [Int32.zero_add, Int32.le_iff_toInt_le, show (28 : Int32).toInt = 28 from rfl]; omega
theorem tp_vin28 {k n : Int32} (h0 : 0 ≤ k.toInt) (h : k < n) (hn : 1 ≤ n.toInt ∧ n.toInt ≤ 8) : vp_in k 28 := by
  rw [Int32.lt_iff_toInt_lt] at h
  exact vp_in_iff.mpr (by omega)
def tp_cm (b : Int64) (k : Int32) : Int64 := (b >>> (Int32.toInt64 (8 * k) &&& 63)) &&& 255
def tp_okM (c : Int64) : Prop := ¬ c < 32 ∧ ¬ 126 < c
def tp_valM (b : Int64) (n : Int32) : Prop := (1 ≤ n.toInt ∧ n.toInt ≤ 8) ∧ ∀ i : Int32, 0 ≤ i.toInt → i.toInt < n.toInt → tp_okM (tp_cm b i)
theorem tp_badM {c : Int64} (h : tp_okM c) (q : c < 32 ∨ 126 < c) : False := q.elim h.1 h.2
theorem tp_lastM {b : Int64} {k : Int32} (h1 : ¬ tp_cm b k < 32) (h2 : ¬ 126 < tp_cm b k) (h : ∀ i : Int32, 0 ≤ i.toInt → i.toInt < k.toInt → tp_okM (tp_cm b i)) (hk : (k + 1).toInt = k.toInt + 1) (i : Int32) (z1 : 0 ≤ i.toInt) (z2 : i.toInt < (k + 1).toInt) : tp_okM (tp_cm b i) := by
  by_cases e : i.toInt = k.toInt
  · rw [Int32.toInt_inj.mp e]; exact ⟨h1, h2⟩
  · exact h i z1 (by omega)
theorem tp_z28 {k z n : Int32} {j : Nat} (h : ¬ k < 0) (hk : -1 ≤ k.toInt ∧ 0 ≤ z.toInt) (hj : k.toInt + 1 = (j : Int)) (hz : z.toInt + (j : Int) = n.toInt) (hn : 1 ≤ n.toInt ∧ n.toInt ≤ 8) : 0 ≤ z.toInt ∧ z.toInt < (28 : Nat) := by
  have := tp_ge0 h
  omega
theorem tp_tb (i : Nat) : Nat.testBit 255 i = decide (i < 8) := by
  have := Nat.testBit_two_pow_sub_one 8 i
  simpa using this
theorem tp_low8 (y z : BitVec 64) (h : ∀ i, i < 8 → y.getLsbD i = z.getLsbD i) : (y.setWidth 32 &&& 255#32).toNat = (z &&& 255#64).toNat := by
  have e : (y.setWidth 32 &&& 255#32).setWidth 64 = z &&& 255#64 := by
    apply BitVec.eq_of_getLsbD_eq
    intro i hi
    simp only [BitVec.getLsbD_setWidth, BitVec.getLsbD_and, BitVec.getLsbD_ofNat, tp_tb]
    by_cases h8 : i < 8
    · have q := h i h8
      rw [BitVec.getLsbD_eq_getElem hi, BitVec.getLsbD_eq_getElem hi] at q
      simp [h8, hi, show i < 32 by omega, q]
    · simp [h8]
  have e2 := congrArg BitVec.toNat e
  rw [← e2, BitVec.toNat_setWidth]
  exact (Nat.mod_eq_of_lt (Nat.lt_of_lt_of_le (BitVec.isLt _) (by decide))).symm
theorem tp_and32 (x : Int32) : (x &&& 255).toInt = ((x.toBitVec &&& 255#32).toNat : Int) := by
  have h : (x &&& 255).toBitVec = x.toBitVec &&& 255#32 := rfl
  have h2 : (x.toBitVec &&& 255#32).toNat < 256 := by
    rw [BitVec.toNat_and]; exact Nat.lt_of_le_of_lt Nat.and_le_right (by decide)
  show (x &&& 255).toBitVec.toInt = _
  rw [h, BitVec.toInt_eq_toNat_cond]
  rw [if_pos (by omega)]
theorem tp_and64 (x : Int64) : (x &&& 255).toInt = ((x.toBitVec &&& 255#64).toNat : Int) := by
  have h : (x &&& 255).toBitVec = x.toBitVec &&& 255#64 := rfl
  have h2 : (x.toBitVec &&& 255#64).toNat < 256 := by
    rw [BitVec.toNat_and]; exact Nat.lt_of_le_of_lt Nat.and_le_right (by decide)
  show (x &&& 255).toBitVec.toInt = _
  rw [h, BitVec.toInt_eq_toNat_cond]
  rw [if_pos (by omega)]
theorem tp_sh (b : Int64) (i : Int32) (h0 : 0 ≤ i.toInt) (h7 : i.toInt ≤ 7) :
    (((b.toUInt64 >>> ((Int32.toInt64 (8 * i)).toUInt64 &&& Int64.toUInt64 63)).toInt64).toInt32 &&& 255).toInt = ((b >>> (Int32.toInt64 (8 * i) &&& 63)) &&& 255).toInt := by
  have key : ∀ s : Nat, s ≤ 56 → ((((b.toBitVec >>> s).setWidth 32) &&& 255#32).toNat = ((b.toBitVec.sshiftRight s) &&& 255#64).toNat) := fun s hs => by
    apply tp_low8
    intro j hj
    rw [BitVec.getLsbD_ushiftRight, BitVec.getLsbD_sshiftRight]
    simp [show s + j < 64 by omega, show ¬ 64 ≤ j by omega]
  have hi : i = 0 ∨ i = 1 ∨ i = 2 ∨ i = 3 ∨ i = 4 ∨ i = 5 ∨ i = 6 ∨ i = 7 := by
    simp only [← Int32.toInt_inj, show (0 : Int32).toInt = 0 from rfl, show (1 : Int32).toInt = 1 from rfl, show (2 : Int32).toInt = 2 from rfl, show (3 : Int32).toInt = 3 from rfl, show (4 : Int32).toInt = 4 from rfl, show (5 : Int32).toInt = 5 from rfl, show (6 : Int32).toInt = 6 from rfl, show (7 : Int32).toInt = 7 from rfl]
    omega
  rw [tp_and32, tp_and64]
  have go : ∀ (s : Nat) (X : UInt64) (Y : Int64), s ≤ 56 → (X.toBitVec % 64).toNat = s → (Y.toBitVec.smod 64).toNat = s → (((b.toUInt64 >>> X).toInt64.toInt32.toBitVec &&& 255#32).toNat : Int) = (((b >>> Y).toBitVec &&& 255#64).toNat : Int) := by
    intro s X Y hs hX hY
    rw [Int64.toBitVec_toInt32, UInt64.toBitVec_toInt64, UInt64.toBitVec_shiftRight, Int64.toBitVec_shiftRight, Int64.toBitVec_toUInt64, BitVec.signExtend_eq_setWidth_of_le _ (by omega)]
    have e1 : b.toBitVec >>> (X.toBitVec % 64) = b.toBitVec >>> s := by rw [BitVec.ushiftRight_eq', hX]
    have e2 : b.toBitVec.sshiftRight' (Y.toBitVec.smod 64) = b.toBitVec.sshiftRight s := by rw [BitVec.sshiftRight_eq', hY]
    rw [e1, e2, key s hs]
  rcases hi with rfl | rfl | rfl | rfl | rfl | rfl | rfl | rfl
  · exact go 0 _ _ (by omega) (by decide) (by decide)
  · exact go 8 _ _ (by omega) (by decide) (by decide)
  · exact go 16 _ _ (by omega) (by decide) (by decide)
  · exact go 24 _ _ (by omega) (by decide) (by decide)
  · exact go 32 _ _ (by omega) (by decide) (by decide)
  · exact go 40 _ _ (by omega) (by decide) (by decide)
  · exact go 48 _ _ (by omega) (by decide) (by decide)
  · exact go 56 _ _ (by omega) (by decide) (by decide)
theorem tp_chcm (b : Int64) (n k : Int32) (h0 : 0 ≤ ((n - 1) - k).toInt) (h7 : ((n - 1) - k).toInt ≤ 7) : tp_okT (tp_ch b n k) ↔ tp_okM (tp_cm b ((n - 1) - k)) := by
  unfold tp_okT tp_okM tp_ch tp_cm
  rw [Int32.le_iff_toInt_le, Int32.le_iff_toInt_le, Int64.lt_iff_toInt_lt, Int64.lt_iff_toInt_lt, tp_sh b _ h0 h7, show (32 : Int32).toInt = 32 from rfl, show (126 : Int32).toInt = 126 from rfl, show (32 : Int64).toInt = 32 from rfl, show (126 : Int64).toInt = 126 from rfl]
  omega
theorem tp_mir {n i : Int32} (hn : 1 ≤ n.toInt ∧ n.toInt ≤ 8) (h0 : 0 ≤ i.toInt) (h1 : i.toInt < n.toInt) : ((n - 1) - i).toInt = n.toInt - 1 - i.toInt := by
  have e : (n - 1).toInt = n.toInt - 1 := tp_dec (by omega)
  rw [tp_subI (by omega) (by omega), e]
/-- both ask the same of what is typed -/
theorem tp_valTM (b : Int64) (n : Int32) : tp_valT b n ↔ tp_valM b n := by
  refine ⟨fun h => ⟨h.1, fun i z1 z2 => ?_⟩, fun h => ⟨h.1, fun i z1 z2 => ?_⟩⟩
  · have hn := h.1
    have e := tp_mir h.1 z1 z2
    have e2 : (n - 1) - ((n - 1) - i) = i := by
      apply Int32.toInt_inj.mp
      rw [tp_mir h.1 (by omega) (by omega), e]; omega
    have := (tp_chcm b n ((n - 1) - i) (by rw [e2]; omega) (by rw [e2]; omega)).mp (h.2 _ (by omega) (by omega))
    rw [e2] at this; exact this
  · have hn := h.1
    have e := tp_mir h.1 z1 z2
    exact (tp_chcm b n i (by omega) (by omega)).mpr (h.2 _ (by omega) (by omega))
abbrev tp_fit (f : Nat → Int32) : Prop := sb_Fit f
theorem tp_fit0 : tp_fit (fun _ => 0) := sb_fit0
theorem tp_fitst {f : Nat → Int32} {k : Nat} {x : Int32} (h : tp_fit f) : tp_fit (upd f k (vp_nar .byte x)) := sb_fitU h (pk_fb x)
theorem tp_fit45 {f : Nat → Int32} {k : Nat} (h : tp_fit f) : tp_fit (upd f k 45) := sb_fitU h (by decide)
theorem tp_fitcpy {f g : Nat → Int32} {sp dp n : Nat} (hf : tp_fit f) (hg : tp_fit g) : tp_fit (va_cpy f g sp dp n) := sb_fitC hf hg
theorem tp_lfit0 : ∀ i, i < 97 → ∀ j, j < 8 → fits .byte (.int ((tp_byt.getD i []).getD j 0)) = true := by decide +kernel
theorem tp_lfitA {i : Nat} (hi : i < 97) : tp_fit (fun j => (tp_byt.getD i []).getD j 0) := fun j => by
  by_cases h : j < 8
  · exact tp_lfit0 i hi j h
  · have h2 := tp_bytL i hi
    have e : (tp_byt.getD i []).getD j 0 = 0 := by
      rw [List.getD_eq_getElem?_getD, List.getElem?_eq_none (by omega)]; rfl
    show fits .byte (.int ((tp_byt.getD i []).getD j 0)) = true
    rw [e]; decide
theorem tp_lfit {i : Nat} (hi : i < 97) {n sp : Nat} : ∀ j : Nat, j < n → fits .byte (.int ((fun j => (tp_byt.getD i []).getD j 0) (sp + j))) = true := fun _ _ => tp_lfitA hi _
theorem tp_fitcps {i : Nat} (hi : i < 97) {g : Nat → Int32} {sp dp n : Nat} (hg : tp_fit g) : tp_fit (va_cpy (fun j => (tp_byt.getD i []).getD j 0) g sp dp n) := sb_fitC (tp_lfitA hi) hg
theorem tp_nch0 : ∀ i, i < 97 → ∀ j, j < 8 → (((tp_byt.getD i []).getD j 0).toUInt32.toUInt16.toUInt32.toInt32) = (tp_byt.getD i []).getD j 0 := by decide +kernel
theorem tp_nch {i : Nat} (hi : i < 97) {j : Nat} : narrow .char (.int ((tp_byt.getD i []).getD j 0)) = .int ((tp_byt.getD i []).getD j 0) := by
  show Value.int (((tp_byt.getD i []).getD j 0).toUInt32.toUInt16.toUInt32.toInt32) = _
  by_cases h : j < 8
  · rw [tp_nch0 i hi j h]
  · have h2 := tp_bytL i hi
    have e : (tp_byt.getD i []).getD j 0 = 0 := by
      rw [List.getD_eq_getElem?_getD, List.getElem?_eq_none (by omega)]; rfl
    rw [e]; decide
def tp_fix (xl : Int32) : Int32 := if xl = 1 then (-33525633) else if xl = 2 then 28799 else if xl = 3 then (-67080065) else if xl = 4 then 127 else if xl = 5 then 28799 else if xl = 6 then 28799 else if xl = 7 then 127 else 0
def tp_num (xl xw : Int32) : Int32 := if xl = 2 then (xw >>> (20 &&& 31 : Int32)) else if xl = 3 then ((xw.toUInt32 >>> (Int32.toUInt32 20 &&& Int32.toUInt32 31)).toInt32 &&& 63) else if xl = 4 then (xw.toUInt32 >>> (Int32.toUInt32 12 &&& Int32.toUInt32 31)).toInt32 else if xl = 5 then (((xw.toUInt32 >>> (Int32.toUInt32 7 &&& Int32.toUInt32 31)).toInt32 &&& 31) ||| ((xw >>> (25 &&& 31 : Int32)) <<< (5 &&& 31 : Int32))) else if xl = 6 then ((((((xw.toUInt32 >>> (Int32.toUInt32 8 &&& Int32.toUInt32 31)).toInt32 &&& 15) <<< (1 &&& 31 : Int32)) ||| (((xw.toUInt32 >>> (Int32.toUInt32 25 &&& Int32.toUInt32 31)).toInt32 &&& 63) <<< (5 &&& 31 : Int32))) ||| (((xw.toUInt32 >>> (Int32.toUInt32 7 &&& Int32.toUInt32 31)).toInt32 &&& 1) <<< (11 &&& 31 : Int32))) ||| ((xw >>> (31 &&& 31 : Int32)) <<< (12 &&& 31 : Int32))) else if xl = 7 then ((((((xw.toUInt32 >>> (Int32.toUInt32 21 &&& Int32.toUInt32 31)).toInt32 &&& 1023) <<< (1 &&& 31 : Int32)) ||| (((xw.toUInt32 >>> (Int32.toUInt32 20 &&& Int32.toUInt32 31)).toInt32 &&& 1) <<< (11 &&& 31 : Int32))) ||| (((xw.toUInt32 >>> (Int32.toUInt32 12 &&& Int32.toUInt32 31)).toInt32 &&& 255) <<< (12 &&& 31 : Int32))) ||| ((xw >>> (31 &&& 31 : Int32)) <<< (20 &&& 31 : Int32))) else 0
def tp_ol (ou : Nat) (xk xw : Int32) : Nat := if xk = 100 then 1 + tp_dl ((xw.toUInt32 >>> (Int32.toUInt32 7 &&& Int32.toUInt32 31)).toInt32 &&& 31) else if xk = 105 then tp_dl (tp_num (tp_lay.getD ou 0) xw) else if xk = 108 then tp_dl (tp_num (tp_lay.getD ou 0) xw) else if xk = 115 then 1 + tp_dl ((xw.toUInt32 >>> (Int32.toUInt32 15 &&& Int32.toUInt32 31)).toInt32 &&& 31) else if xk = 116 then 1 + tp_dl ((xw.toUInt32 >>> (Int32.toUInt32 20 &&& Int32.toUInt32 31)).toInt32 &&& 31) else 1
/-! the class's show: which operation, how long -/
def tp_mt (w : Int32) (i : Nat) : Prop := ¬ tp_fix (tp_lay.getD i 0) = 0 ∧ w &&& tp_fix (tp_lay.getD i 0) = tp_cod.getD i 0
def tp_hit (w : Int32) (u : Nat) : Prop := (u = 0 ∧ ∀ i : Nat, i < 47 → ¬ tp_mt w i) ∨ (u < 47 ∧ tp_mt w u ∧ ∀ i : Nat, i < u → ¬ tp_mt w i)
theorem tp_hit47 {w : Int32} {u : Nat} (h : tp_hit w u) : u < 47 := by
  rcases h with h | h
  · omega
  · exact h.1
theorem tp_hit00 {w : Int32} {u : Nat} (h : tp_hit w u) (e : u = 0) : tp_hit w 0 := e ▸ h
section TPO
variable {k xw : Int32}
theorem tp_l47 (hk0 : 0 ≤ k.toInt) (h : ¬ 47 ≤ k) : k.toInt < 47 := by
  rw [Int32.le_iff_toInt_le, show (47 : Int32).toInt = 47 from rfl] at h; omega
theorem tp_k47 (hk0 : 0 ≤ k.toInt) (h : ¬ 47 ≤ k) : vp_in k 47 := vp_in_iff.mpr ⟨hk0, tp_l47 hk0 h⟩
theorem tp_n47 (hk0 : 0 ≤ k.toInt) (h : ¬ 47 ≤ k) : k.toNatClampNeg < 47 := by
  have h1 := tp_l47 hk0 h
  show k.toInt.toNat < 47
  omega
theorem tp_nomt (hno : ∀ i : Nat, i < k.toInt.toNat → ¬ tp_mt xw i) (hk0 : 0 ≤ k.toInt) (hk1 : (k + 1).toInt = k.toInt + 1) (h : ¬ tp_mt xw k.toNatClampNeg) : ∀ i : Nat, i < (k + 1).toInt.toNat → ¬ tp_mt xw i := fun i hi => by
  by_cases e : i < k.toInt.toNat
  · exact hno i e
  · have e2 : i = k.toNatClampNeg := by show i = k.toInt.toNat; omega
    rw [e2]; exact h
theorem tp_allmt (hno : ∀ i : Nat, i < k.toInt.toNat → ¬ tp_mt xw i) (h : 47 ≤ k) : ∀ i : Nat, i < 47 → ¬ tp_mt xw i := fun i hi => hno i (by
  rw [Int32.le_iff_toInt_le, show (47 : Int32).toInt = 47 from rfl] at h; omega)
end TPO
section TPW
variable {xc xr xv xk xw cnt : Int32} {ou : Nat}
theorem tp_wr1 (hc : 0 ≤ xc.toInt ∧ xc.toInt + 1 + (tp_dl xr : Int) ≤ 34) : 0 ≤ xc.toInt ∧ xc.toInt < 34 := by omega
theorem tp_wr2 (hc : 0 ≤ xc.toInt ∧ xc.toInt + 1 + (tp_dl xr : Int) ≤ 34) : 0 ≤ (xc + 1).toInt ∧ (xc + 1).toInt + (tp_dl xr : Int) ≤ 34 := by rw [tp_inc (by omega)]; omega
theorem tp_wr3 (hc : 0 ≤ xc.toInt ∧ xc.toInt + 1 + (tp_dl xr : Int) ≤ 34) : (xc + 1).toInt + (tp_dl xr : Int) = xc.toInt + 1 + (tp_dl xr : Int) := by rw [tp_inc (by omega)]
theorem tp_wo1 (hc : 0 ≤ xc.toInt ∧ xc.toInt + (tp_ol ou xk xw : Int) ≤ 34) (h : tp_ol ou xk xw = 1 + tp_dl xr) : 0 ≤ xc.toInt ∧ xc.toInt + 1 + (tp_dl xr : Int) ≤ 34 := by omega
theorem tp_wo2 (hc : 0 ≤ xc.toInt ∧ xc.toInt + (tp_ol ou xk xw : Int) ≤ 34) (h : tp_ol ou xk xw = tp_dl xv) : 0 ≤ xc.toInt ∧ xc.toInt + (tp_dl xv : Int) ≤ 34 := by omega
theorem tp_wo3 (hc : 0 ≤ xc.toInt ∧ xc.toInt + (tp_ol ou xk xw : Int) ≤ 34) (h : tp_ol ou xk xw = 1) : 0 ≤ xc.toInt ∧ xc.toInt < 34 := by omega
theorem tp_wo4 (_ : 0 ≤ xc.toInt ∧ xc.toInt + (tp_ol ou xk xw : Int) ≤ 34) (h : tp_ol ou xk xw = 1 + tp_dl xr) (hn : cnt.toInt = xc.toInt + 1 + (tp_dl xr : Int)) : cnt.toInt = xc.toInt + (tp_ol ou xk xw : Int) := by omega
theorem tp_wo5 (_ : 0 ≤ xc.toInt ∧ xc.toInt + (tp_ol ou xk xw : Int) ≤ 34) (h : tp_ol ou xk xw = tp_dl xv) (hn : cnt.toInt = xc.toInt + (tp_dl xv : Int)) : cnt.toInt = xc.toInt + (tp_ol ou xk xw : Int) := by omega
theorem tp_wo6 (hc : 0 ≤ xc.toInt ∧ xc.toInt + (tp_ol ou xk xw : Int) ≤ 34) (h : tp_ol ou xk xw = 1) : (xc + 1).toInt = xc.toInt + (tp_ol ou xk xw : Int) := by rw [tp_inc (by omega)]; omega
end TPW
/-- the length of the first j letters of u's operands, written out -/
def tp_os (u : Nat) (w : Int32) : Nat → Nat
  | 0 => 0
  | j + 1 => tp_os u w j + tp_ol u ((tp_byt.getD (47 + u) []).getD j 0) w
def tp_lenT (u : Nat) (w : Int32) : Nat := tp_len.getD u 0 + 1 + tp_os u w (tp_len.getD (47 + u) 0)
abbrev tp_S5 (f : Int32 → Nat → Nat → (Nat → Int32) → Int32 → Prop) (a : Int32 × Nat × Nat × (Nat → Int32) × Int32) : Prop := f a.1 a.2.1 a.2.2.1 a.2.2.2.1 a.2.2.2.2
theorem tp_and31 (x : Int32) : 0 ≤ (x &&& 31).toInt ∧ (x &&& 31).toInt ≤ 31 := by
  have h : (x &&& 31).toBitVec = x.toBitVec &&& 31#32 := rfl
  have h2 : (x.toBitVec &&& 31#32).toNat ≤ 31 := by rw [BitVec.toNat_and]; exact Nat.and_le_right
  have e : (x &&& 31).toInt = ((x.toBitVec &&& 31#32).toNat : Int) := by
    show (x &&& 31).toBitVec.toInt = _
    rw [h, BitVec.toInt_eq_toNat_cond, if_pos (by omega)]
  omega
theorem tp_dlr (x : Int32) : tp_dl (x &&& 31) ≤ 2 := by
  have h := tp_and31 x
  unfold tp_dl
  rw [if_neg (by omega)]
  have : (x &&& 31).toInt.natAbs < 100 := by omega
  unfold tp_dg; (repeat' split) <;> omega
/-- a bound for one letter, for the first j -/
def tp_bl (k : Int32) : Nat := if k = 100 ∨ k = 115 ∨ k = 116 then 3 else if k = 105 ∨ k = 108 then 11 else 1
def tp_bs (u : Nat) : Nat → Nat
  | 0 => 0
  | j + 1 => tp_bs u j + tp_bl ((tp_byt.getD (47 + u) []).getD j 0)
theorem tp_olb (u : Nat) (k w : Int32) : tp_ol u k w ≤ tp_bl k := by
  have d1 := tp_dlr ((w.toUInt32 >>> (Int32.toUInt32 7 &&& Int32.toUInt32 31)).toInt32)
  have d2 := tp_dlr ((w.toUInt32 >>> (Int32.toUInt32 15 &&& Int32.toUInt32 31)).toInt32)
  have d3 := tp_dlr ((w.toUInt32 >>> (Int32.toUInt32 20 &&& Int32.toUInt32 31)).toInt32)
  have d4 := (tp_dl10 (xv := tp_num (tp_lay.getD u 0) w)).1
  unfold tp_ol tp_bl
  by_cases h1 : k = 100
  · rw [if_pos h1, if_pos (Or.inl h1)]; omega
  rw [if_neg h1]
  by_cases h2 : k = 105
  · subst h2; rw [if_pos rfl, if_neg (by decide), if_pos (by decide)]; exact d4
  rw [if_neg h2]
  by_cases h3 : k = 108
  · subst h3; rw [if_pos rfl, if_neg (by decide), if_pos (by decide)]; exact d4
  rw [if_neg h3]
  by_cases h4 : k = 115
  · rw [if_pos h4, if_pos (Or.inr (Or.inl h4))]; omega
  rw [if_neg h4]
  by_cases h5 : k = 116
  · rw [if_pos h5, if_pos (Or.inr (Or.inr h5))]; omega
  rw [if_neg h5, if_neg (by intro h; rcases h with h | h | h <;> contradiction), if_neg (by intro h; rcases h with h | h <;> contradiction)]; exact Nat.le_refl 1
theorem tp_osb (u : Nat) (w : Int32) : ∀ j, tp_os u w j ≤ tp_bs u j := by
  intro j
  induction j with
  | zero => exact Nat.le_refl 0
  | succ j ih => exact Nat.add_le_add ih (tp_olb u _ w)
theorem tp_bsb : ∀ u, u < 47 → ∀ j, j < 8 → tp_len.getD u 0 + 1 + tp_bs u j ≤ 33 := by decide +kernel
section TPH
variable {uo : Nat} {xw k cv c1 : Int32} {j : Nat}
theorem tp_sh1 (hu : uo < 47) (h : c1.toInt = ((tp_len.getD uo 0 : Nat) : Int)) : 0 ≤ c1.toInt ∧ c1.toInt < 34 := by
  have h7 := tp_len7 (i := uo) (by omega)
  omega
theorem tp_sh3 (hu : uo < 47) (h : c1.toInt = ((tp_len.getD uo 0 : Nat) : Int)) : (c1 + 1).toInt = (tp_len.getD uo 0 : Nat) + 1 + (tp_os uo xw (0 : Int32).toInt.toNat : Nat) := by
  have h7 := tp_len7 (i := uo) (by omega)
  have e : tp_os uo xw (0 : Int32).toInt.toNat = 0 := rfl
  rw [tp_inc (by omega), e]; omega
theorem tp_klt (hl7 : tp_len.getD (47 + uo) 0 ≤ 7) (h : ¬ (Int32.ofNat (tp_len.getD (47 + uo) 0)) ≤ k) : k.toInt < (tp_len.getD (47 + uo) 0 : Nat) := by
  rw [Int32.le_iff_toInt_le, tp_ofn (by omega)] at h; omega
theorem tp_os_succ (hk0 : 0 ≤ k.toInt) : tp_os uo xw (k.toInt.toNat + 1) = tp_os uo xw k.toInt.toNat + tp_ol uo ((tp_byt.getD (47 + uo) []).getD k.toNatClampNeg 0) xw := rfl
theorem tp_sh4 (hu : uo < 47) (hk0 : 0 ≤ k.toInt) (h : k.toInt < (tp_len.getD (47 + uo) 0 : Nat)) (hc : cv.toInt = (tp_len.getD uo 0 : Nat) + 1 + (tp_os uo xw k.toInt.toNat : Nat)) : 0 ≤ cv.toInt ∧ cv.toInt + (tp_ol uo ((tp_byt.getD (47 + uo) []).getD k.toNatClampNeg 0) xw : Int) ≤ 34 := by
  have h7 := tp_len7 (i := 47 + uo) (by omega)
  have b := tp_osb uo xw (k.toInt.toNat + 1)
  have b2 := tp_bsb uo hu (k.toInt.toNat + 1) (by omega)
  rw [tp_os_succ hk0] at b
  omega
theorem tp_sh5 (hl7 : tp_len.getD (47 + uo) 0 ≤ 7) (hk0 : 0 ≤ k.toInt) (hkl : k.toInt + (j : Int) = (tp_len.getD (47 + uo) 0 : Nat)) (h : (Int32.ofNat (tp_len.getD (47 + uo) 0)) ≤ k) (hc : cv.toInt = (tp_len.getD uo 0 : Nat) + 1 + (tp_os uo xw k.toInt.toNat : Nat)) : cv.toInt = (tp_lenT uo xw : Nat) := by
  rw [Int32.le_iff_toInt_le, tp_ofn (by omega)] at h
  have e : k.toInt.toNat = tp_len.getD (47 + uo) 0 := by omega
  rw [hc, e]; unfold tp_lenT; omega
theorem tp_nn (hk0 : 0 ≤ k.toInt) : ¬ k < 0 := by rw [Int32.lt_iff_toInt_lt, Int32.toInt_zero]; omega
end TPH
theorem tp_c255 : ∀ i, i < 97 → ∀ j, j < 8 → ¬ 255 < (tp_byt.getD i []).getD j 0 := by decide +kernel
theorem tp_ch255 {i : Nat} (hi : i < 97) {j : Nat} : ¬ 255 < (tp_byt.getD i []).getD j 0 := by
  by_cases h : j < 8
  · exact tp_c255 i hi j h
  · have h2 := tp_bytL i hi
    have e : (tp_byt.getD i []).getD j 0 = 0 := by
      rw [List.getD_eq_getElem?_getD, List.getElem?_eq_none (by omega)]; rfl
    rw [e]; decide
def tp_forms : List Int32 := [105100, 105101, 105110, 105120, 105130, 105140, 105150, 105151, 105160, 105170, 201900, 201920, 201940, 201960, 201970, 202700, 301910, 301950, 301951, 405500, 500300, 500320, 500330, 500340, 510300, 603500, 603520, 603530, 709900, 709910, 709940, 709950, 811100, 900000, 1000000, 1100000, 1200000, 1300000, 1400000, 1501900, 1601900, 1710300, 1811100, 1911100, 2009900, 2009910]
def tp_names : List Int64 := [6382692, 7566690, 7564396, 7564404, 1936487541, 7892850, 7565932, 7565921, 28530, 6385252, 1633969257, 1936487529, 2020569705, 7303785, 1634624617, 418296129911, 1936485481, 1936878697, 1936875881, 7107945, 27746, 27767, 27748, 7103093, 1784769650, 29538, 29559, 29540, 6448497, 6450789, 6450292, 6448997, 6971756, 27753, 27745, 199572288100, 199220622437, 51073341547365, 13061564351537516, 7237488, 28022, 7497076, 106, 1667329132, 1650815354, 1651402106]
/-! the reference's show -/
section TPM
variable {mw xv wr w1 w2 w3 wc : Int32} {vv : Int64} {ii rr : Nat}
theorem tp_v40 (hc : 0 ≤ mw.toInt ∧ mw.toInt < 40) : vp_in mw 40 := vp_in_iff.mpr hc
theorem tp_mn1 (hc : 0 ≤ mw.toInt ∧ mw.toInt + (tp_dl xv : Int) ≤ 40) (_ : ¬ 0 ≤ xv) : 0 ≤ mw.toInt ∧ mw.toInt < 40 := by
  have h := (tp_dl10 (xv := xv)).2
  omega
def tp_P (i : Nat) : Int64 := Int64.ofNat (10 ^ i)
def tp_Q : Nat → Int64
  | 0 => 0
  | r + 1 => tp_P r
theorem tp_Ppos : ∀ i, i < 10 → 0 < tp_P i ∧ ¬ tp_P i = 0 ∧ (tp_P i).toInt = 10 ^ i := by decide +kernel
theorem tp_Pmul0 : ∀ i, i < 9 → 10 * tp_P i = tp_P (i + 1) := by decide +kernel
theorem tp_Qdiv0 : ∀ r, r < 11 → 1 ≤ r → tp_Q r / 10 = tp_Q (r - 1) := by decide +kernel
theorem tp_Pnz (h : ii ≤ 9) : ¬ tp_P ii = 0 := (tp_Ppos ii (by omega)).2.1
theorem tp_Pmul (h : ii + 1 ≤ 9) : 10 * tp_P ii = tp_P (ii + 1) := tp_Pmul0 ii (by omega)
theorem tp_Qdiv (h : 1 ≤ rr) (h2 : rr ≤ 10) : tp_Q rr / 10 = tp_Q (rr - 1) := tp_Qdiv0 rr (by omega) h
theorem tp_Qpos (h : 0 < tp_Q rr) : 1 ≤ rr := by
  cases rr with
  | zero => exact absurd h (by decide)
  | succ r => omega
theorem tp_Qnz (h : 0 < tp_Q rr) : ¬ tp_Q rr = 0 := fun e => by rw [e] at h; exact absurd h (by decide)
theorem tp_mn2 (hc : 0 ≤ mw.toInt ∧ mw.toInt + (tp_dl xv : Int) ≤ 40) (hrr : wr.toInt + (rr : Int) = mw.toInt + (tp_dl xv : Int) ∧ mw.toInt ≤ wr.toInt ∧ rr ≤ 10) (h : 0 < tp_Q rr) : 0 ≤ wr.toInt ∧ wr.toInt < 40 := by
  have h1 := tp_Qpos h
  omega
theorem tp_i64 : xv.toInt64.toInt = xv.toInt := Int32.toInt_toInt64 xv
theorem tp_vvp (h : 0 ≤ xv) : xv.toInt64.toInt = (xv.toInt.natAbs : Int) := by
  rw [Int32.le_iff_toInt_le, Int32.toInt_zero] at h
  rw [tp_i64]; omega
theorem tp_vvn (h : ¬ 0 ≤ xv) : (-xv.toInt64).toInt = (xv.toInt.natAbs : Int) := by
  rw [Int32.le_iff_toInt_le, Int32.toInt_zero] at h
  have h1 := Int32.le_toInt xv
  rw [Int64.toInt_neg, tp_i64, Int.bmod_eq_of_le (by omega) (by omega)]; omega
theorem tp_wcp (h : 0 ≤ xv) : mw.toInt + (tp_dg xv.toInt.natAbs : Int) = mw.toInt + (tp_dl xv : Int) := by
  rw [Int32.le_iff_toInt_le, Int32.toInt_zero] at h
  unfold tp_dl; rw [if_neg (by omega)]; omega
theorem tp_wcn (h : ¬ 0 ≤ xv) (hw : w1.toInt = mw.toInt + 1) : w1.toInt + (tp_dg xv.toInt.natAbs : Int) = mw.toInt + (tp_dl xv : Int) := by
  rw [Int32.le_iff_toInt_le, Int32.toInt_zero] at h
  unfold tp_dl; rw [if_pos (by omega)]; omega
theorem tp_vdiv (hvv : vv.toInt = (xv.toInt.natAbs : Int)) (h : ii ≤ 9) : (vv / tp_P ii).toInt = ((xv.toInt.natAbs / 10 ^ ii : Nat) : Int) := by
  have h1 := Int32.le_toInt xv
  have h2 := Int32.toInt_lt xv
  have h3 := (tp_Ppos ii (by omega)).2.2
  have h4 : xv.toInt.natAbs / 10 ^ ii ≤ xv.toInt.natAbs := Nat.div_le_self _ _
  have e : vv.toInt.tdiv (tp_P ii).toInt = ((xv.toInt.natAbs / 10 ^ ii : Nat) : Int) := by
    rw [hvv, h3]
    have : ((10 : Int) ^ ii) = ((10 ^ ii : Nat) : Int) := by norm_cast
    rw [this]; rfl
  generalize xv.toInt.natAbs / 10 ^ ii = q at e h4 ⊢
  rw [Int64.toInt_div, Int.bmod_eq_of_le (by rw [e]; omega) (by rw [e]; omega)]
  exact e
theorem tp_Pbig (hvv : vv.toInt = (xv.toInt.natAbs : Int)) (hi : ii ≤ 9) (h : 9 < vv / tp_P ii) : ii + 1 ≤ 9 ∧ 10 ^ (ii + 1) ≤ xv.toInt.natAbs := by
  rw [Int64.lt_iff_toInt_lt, tp_vdiv hvv hi, show (9 : Int64).toInt = 9 from rfl] at h
  have h1 := Int32.le_toInt xv
  have h2 := Int32.toInt_lt xv
  have h3 : 10 ≤ xv.toInt.natAbs / 10 ^ ii := by omega
  have h4 : 10 * 10 ^ ii ≤ xv.toInt.natAbs := (Nat.le_div_iff_mul_le (Nat.pow_pos (by decide))).mp h3
  have h5 : 10 ^ (ii + 1) ≤ xv.toInt.natAbs := by rw [Nat.pow_succ, Nat.mul_comm]; exact h4
  refine ⟨?_, h5⟩
  by_cases e : ii = 9
  · subst e; exact absurd h5 (by have : (10 : Nat) ^ (9 + 1) = 10000000000 := by decide
                                 omega)
  · omega
theorem tp_dgp : ∀ i, i ≤ 9 → ∀ n : Nat, (i = 0 ∨ 10 ^ i ≤ n) → n < 10 ^ (i + 1) → tp_dg n = i + 1 := by
  intro i hi n h1 h2
  have hc : i = 0 ∨ i = 1 ∨ i = 2 ∨ i = 3 ∨ i = 4 ∨ i = 5 ∨ i = 6 ∨ i = 7 ∨ i = 8 ∨ i = 9 := by omega
  rcases hc with rfl | rfl | rfl | rfl | rfl | rfl | rfl | rfl | rfl | rfl
  · exact tp_dge1 (by simpa using h2)
  all_goals (simp only [Nat.reducePow, Nat.reduceAdd] at h1 h2)
  · exact tp_dge2 (by omega) (by omega)
  · exact tp_dge3 (by omega) (by omega)
  · exact tp_dge4 (by omega) (by omega)
  · exact tp_dge5 (by omega) (by omega)
  · exact tp_dge6 (by omega) (by omega)
  · exact tp_dge7 (by omega) (by omega)
  · exact tp_dge8 (by omega) (by omega)
  · exact tp_dge9 (by omega) (by omega)
  · exact tp_dge10 (by omega)
theorem tp_dig (hvv : vv.toInt = (xv.toInt.natAbs : Int)) (hii : ii ≤ 9 ∧ (ii = 0 ∨ 10 ^ ii ≤ xv.toInt.natAbs)) (h : ¬ 9 < vv / tp_P ii) (hwc : wc.toInt + (tp_dg xv.toInt.natAbs : Int) = mw.toInt + (tp_dl xv : Int)) : wc.toInt + ((ii + 1 : Nat) : Int) = mw.toInt + (tp_dl xv : Int) ∧ mw.toInt ≤ wc.toInt ∧ ii + 1 ≤ 10 := by
  rw [Int64.lt_iff_toInt_lt, tp_vdiv hvv hii.1, show (9 : Int64).toInt = 9 from rfl] at h
  have h3 : xv.toInt.natAbs / 10 ^ ii < 10 := by omega
  have h4 : xv.toInt.natAbs < 10 ^ (ii + 1) := by
    rw [Nat.pow_succ, Nat.mul_comm]; exact (Nat.div_lt_iff_lt_mul (Nat.pow_pos (by decide))).mp h3
  have e := tp_dgp ii hii.1 _ hii.2 h4
  have hd : tp_dg xv.toInt.natAbs ≤ tp_dl xv := by unfold tp_dl; omega
  omega
theorem tp_step (hrr : wr.toInt + (rr : Int) = mw.toInt + (tp_dl xv : Int) ∧ mw.toInt ≤ wr.toInt ∧ rr ≤ 10) (hw : w1.toInt = wr.toInt + 1) (h : 1 ≤ rr) : w1.toInt + ((rr - 1 : Nat) : Int) = mw.toInt + (tp_dl xv : Int) ∧ mw.toInt ≤ w1.toInt ∧ rr - 1 ≤ 10 := by omega
theorem tp_lastn (hrr : wr.toInt + (rr : Int) = mw.toInt + (tp_dl xv : Int) ∧ mw.toInt ≤ wr.toInt ∧ rr ≤ 10) (h : ¬ 0 < tp_Q rr) : wr.toInt = mw.toInt + (tp_dl xv : Int) := by
  cases rr with
  | zero => omega
  | succ r => exact absurd (tp_Ppos r (by omega)).1 h
theorem tp_mr1 (hc : 0 ≤ mw.toInt ∧ mw.toInt + 2 + (tp_dl xv : Int) ≤ 40) : 0 ≤ mw.toInt ∧ mw.toInt < 40 := by omega
theorem tp_mr2 (hc : 0 ≤ mw.toInt ∧ mw.toInt + 2 + (tp_dl xv : Int) ≤ 40) (h1 : w1.toInt = mw.toInt + 1) : 0 ≤ w1.toInt ∧ w1.toInt < 40 := by
  have h := (tp_dl10 (xv := xv)).2
  omega
theorem tp_mr3 (hc : 0 ≤ mw.toInt ∧ mw.toInt + 2 + (tp_dl xv : Int) ≤ 40) (h1 : w1.toInt = mw.toInt + 1) (h2 : w2.toInt = w1.toInt + 1) : 0 ≤ w2.toInt ∧ w2.toInt + (tp_dl xv : Int) ≤ 40 := by omega
theorem tp_mr4 (h1 : w1.toInt = mw.toInt + 1) (h2 : w2.toInt = w1.toInt + 1) (h3 : w3.toInt = w2.toInt + (tp_dl xv : Int)) : w3.toInt = mw.toInt + 2 + (tp_dl xv : Int) := by omega
end TPM
def tp_mA (xw F : Int32) : Prop := ((F / 100) - (F / 100) / 1000 * 1000) = (xw &&& 127) ∧ ((F / 100000) = 4 ∨ (F / 100000) = 8 ∨ ((F / 10) - (F / 10) / 10 * 10) = ((xw >>> (12 &&& 31 : Int32)) &&& 7))
def tp_mB (F : Int32) : Prop := (F - F / 10 * 10) = 1
def tp_m1 (xw F : Int32) : Prop := (F / 100000) = 1 → (tp_mB F → (xw.toUInt32 >>> (Int32.toUInt32 25 &&& Int32.toUInt32 31)).toInt32 = 32) ∧ (¬ tp_mB F → (xw.toUInt32 >>> (Int32.toUInt32 25 &&& Int32.toUInt32 31)).toInt32 = 0)
def tp_m3 (xw F : Int32) : Prop := (F / 100000) = 3 → (tp_mB F → (xw.toUInt32 >>> (Int32.toUInt32 26 &&& Int32.toUInt32 31)).toInt32 = 16) ∧ (¬ tp_mB F → (xw.toUInt32 >>> (Int32.toUInt32 26 &&& Int32.toUInt32 31)).toInt32 = 0)
def tp_mm (xw F : Int32) : Prop := (tp_mA xw F ∧ tp_m1 xw F) ∧ tp_m3 xw F
section TPMM
variable {xw F is1 is2 is3 mk k ko : Int32} {f_forms : Nat → Int32}
theorem tp_C0 (h : (is1 = 1 ∧ tp_mA xw F) ∨ (is1 = 0 ∧ ¬ tp_mA xw F)) (h2 : ¬ (F / 100000) = 1) : (is1 = 1 ∧ (tp_mA xw F) ∧ (tp_m1 xw F)) ∨ (is1 = 0 ∧ ¬ ((tp_mA xw F) ∧ (tp_m1 xw F))) :=
  h.elim (fun q => Or.inl ⟨q.1, q.2, fun e => absurd e h2⟩) (fun q => Or.inr ⟨q.1, fun z => q.2 z.1⟩)
theorem tp_C2 (h : (is1 = 1 ∧ tp_mA xw F) ∨ (is1 = 0 ∧ ¬ tp_mA xw F)) (_ : (mk = 1 ∧ tp_mB F) ∨ (mk = 0 ∧ ¬ tp_mB F)) (_ : (F / 100000) = 1) (h3 : is1 = 0) : ((0 : Int32) = 1 ∧ (tp_mA xw F) ∧ (tp_m1 xw F)) ∨ ((0 : Int32) = 0 ∧ ¬ ((tp_mA xw F) ∧ (tp_m1 xw F))) :=
  Or.inr ⟨rfl, h.elim (fun q => absurd (q.1.symm.trans h3) (by decide)) (fun q z => q.2 z.1)⟩
theorem tp_mkB {n v w : Int32} (hm : (mk = 1 ∧ tp_mB F) ∨ (mk = 0 ∧ ¬ tp_mB F)) : (mk = 0 → ¬ tp_mB F) ∧ (¬ mk = 0 → tp_mB F) :=
  hm.elim (fun q => ⟨fun e => absurd (q.1.symm.trans e) (by decide), fun _ => q.2⟩) (fun q => ⟨fun _ => q.2, fun e => absurd q.1 e⟩)
theorem tp_C1 {X : Int32} (h : (is1 = 1 ∧ tp_mA xw F) ∨ (is1 = 0 ∧ ¬ tp_mA xw F)) (hm : (mk = 1 ∧ tp_mB F) ∨ (mk = 0 ∧ ¬ tp_mB F)) (_ : (F / 100000) = 1) (h3 : ¬ is1 = 0) {q : Prop} (h4 : q) (h5 : (xw.toUInt32 >>> (Int32.toUInt32 25 &&& Int32.toUInt32 31)).toInt32 = X) (hq : (q = (mk = 0) ∧ X = 0) ∨ (q = (¬ mk = 0) ∧ X = 32)) : ((1 : Int32) = 1 ∧ (tp_mA xw F) ∧ (tp_m1 xw F)) ∨ ((1 : Int32) = 0 ∧ ¬ ((tp_mA xw F) ∧ (tp_m1 xw F))) := by
  have hb := tp_mkB (n := 0) (v := 0) (w := 0) hm
  refine Or.inl ⟨rfl, h.elim (fun q => q.2) (fun q => absurd q.1 h3), fun _ => ?_⟩
  rcases hq with ⟨e, ex⟩ | ⟨e, ex⟩
  · have h6 := hb.1 (e ▸ h4)
    exact ⟨fun z => absurd z h6, fun _ => h5.trans ex⟩
  · have h6 := hb.2 (e ▸ h4)
    exact ⟨fun _ => h5.trans ex, fun z => absurd h6 z⟩
theorem tp_C3 {X : Int32} (_ : (is1 = 1 ∧ tp_mA xw F) ∨ (is1 = 0 ∧ ¬ tp_mA xw F)) (hm : (mk = 1 ∧ tp_mB F) ∨ (mk = 0 ∧ ¬ tp_mB F)) (h2 : (F / 100000) = 1) (_ : ¬ is1 = 0) {q : Prop} (h4 : q) (h5 : ¬ (xw.toUInt32 >>> (Int32.toUInt32 25 &&& Int32.toUInt32 31)).toInt32 = X) (hq : (q = (mk = 0) ∧ X = 0) ∨ (q = (¬ mk = 0) ∧ X = 32)) : ((0 : Int32) = 1 ∧ (tp_mA xw F) ∧ (tp_m1 xw F)) ∨ ((0 : Int32) = 0 ∧ ¬ ((tp_mA xw F) ∧ (tp_m1 xw F))) := by
  have hb := tp_mkB (n := 0) (v := 0) (w := 0) hm
  refine Or.inr ⟨rfl, fun z => ?_⟩
  rcases hq with ⟨e, ex⟩ | ⟨e, ex⟩
  · exact h5 (((z.2 h2).2 (hb.1 (e ▸ h4))).trans ex.symm)
  · exact h5 (((z.2 h2).1 (hb.2 (e ▸ h4))).trans ex.symm)
theorem tp_D0 (h : (is2 = 1 ∧ (tp_mA xw F) ∧ (tp_m1 xw F)) ∨ (is2 = 0 ∧ ¬ ((tp_mA xw F) ∧ (tp_m1 xw F)))) (h2 : ¬ (F / 100000) = 3) : (is2 = 1 ∧ tp_mm xw F) ∨ (is2 = 0 ∧ ¬ tp_mm xw F) :=
  h.elim (fun q => Or.inl ⟨q.1, q.2, fun e => absurd e h2⟩) (fun q => Or.inr ⟨q.1, fun z => q.2 z.1⟩)
theorem tp_D2 (h : (is2 = 1 ∧ (tp_mA xw F) ∧ (tp_m1 xw F)) ∨ (is2 = 0 ∧ ¬ ((tp_mA xw F) ∧ (tp_m1 xw F)))) (_ : (mk = 1 ∧ tp_mB F) ∨ (mk = 0 ∧ ¬ tp_mB F)) (_ : (F / 100000) = 3) (h3 : is2 = 0) : ((0 : Int32) = 1 ∧ tp_mm xw F) ∨ ((0 : Int32) = 0 ∧ ¬ tp_mm xw F) :=
  Or.inr ⟨rfl, h.elim (fun q => absurd (q.1.symm.trans h3) (by decide)) (fun q z => q.2 z.1)⟩
theorem tp_D1 {X : Int32} (h : (is2 = 1 ∧ (tp_mA xw F) ∧ (tp_m1 xw F)) ∨ (is2 = 0 ∧ ¬ ((tp_mA xw F) ∧ (tp_m1 xw F)))) (hm : (mk = 1 ∧ tp_mB F) ∨ (mk = 0 ∧ ¬ tp_mB F)) (_ : (F / 100000) = 3) (h3 : ¬ is2 = 0) {q : Prop} (h4 : q) (h5 : (xw.toUInt32 >>> (Int32.toUInt32 26 &&& Int32.toUInt32 31)).toInt32 = X) (hq : (q = (mk = 0) ∧ X = 0) ∨ (q = (¬ mk = 0) ∧ X = 16)) : ((1 : Int32) = 1 ∧ tp_mm xw F) ∨ ((1 : Int32) = 0 ∧ ¬ tp_mm xw F) := by
  have hb := tp_mkB (n := 0) (v := 0) (w := 0) hm
  refine Or.inl ⟨rfl, h.elim (fun q => q.2) (fun q => absurd q.1 h3), fun _ => ?_⟩
  rcases hq with ⟨e, ex⟩ | ⟨e, ex⟩
  · have h6 := hb.1 (e ▸ h4)
    exact ⟨fun z => absurd z h6, fun _ => h5.trans ex⟩
  · have h6 := hb.2 (e ▸ h4)
    exact ⟨fun _ => h5.trans ex, fun z => absurd h6 z⟩
theorem tp_D3 {X : Int32} (_ : (is2 = 1 ∧ (tp_mA xw F) ∧ (tp_m1 xw F)) ∨ (is2 = 0 ∧ ¬ ((tp_mA xw F) ∧ (tp_m1 xw F)))) (hm : (mk = 1 ∧ tp_mB F) ∨ (mk = 0 ∧ ¬ tp_mB F)) (h2 : (F / 100000) = 3) (_ : ¬ is2 = 0) {q : Prop} (h4 : q) (h5 : ¬ (xw.toUInt32 >>> (Int32.toUInt32 26 &&& Int32.toUInt32 31)).toInt32 = X) (hq : (q = (mk = 0) ∧ X = 0) ∨ (q = (¬ mk = 0) ∧ X = 16)) : ((0 : Int32) = 1 ∧ tp_mm xw F) ∨ ((0 : Int32) = 0 ∧ ¬ tp_mm xw F) := by
  have hb := tp_mkB (n := 0) (v := 0) (w := 0) hm
  refine Or.inr ⟨rfl, fun z => ?_⟩
  rcases hq with ⟨e, ex⟩ | ⟨e, ex⟩
  · exact h5 (((z.2 h2).2 (hb.1 (e ▸ h4))).trans ex.symm)
  · exact h5 (((z.2 h2).1 (hb.2 (e ▸ h4))).trans ex.symm)
theorem tp_not3 (h : (is3 = 1 ∧ tp_mm xw F) ∨ (is3 = 0 ∧ ¬ tp_mm xw F)) (e : is3 = 0) : ¬ tp_mm xw F := h.elim (fun q => absurd (q.1.symm.trans e) (by decide)) (fun q => q.2)
theorem tp_yes3 (h : (is3 = 1 ∧ tp_mm xw F) ∨ (is3 = 0 ∧ ¬ tp_mm xw F)) (e : ¬ is3 = 0) : tp_mm xw F := h.elim (fun q => q.2) (fun q => absurd q.1 e)
theorem tp_l33 (h : ¬ 33 ≤ k) : k.toInt < 33 := by
  rw [Int32.le_iff_toInt_le, show (33 : Int32).toInt = 33 from rfl] at h; omega
theorem tp_k33 (hk0 : 0 ≤ k.toInt) (h : ¬ 33 ≤ k) : vp_in k 46 := vp_in_iff.mpr ⟨hk0, Int.lt_trans (tp_l33 h) (by decide)⟩
theorem tp_nomm (hno : ∀ i : Nat, i < k.toInt.toNat → ¬ tp_mm xw (f_forms i)) (hk0 : 0 ≤ k.toInt) (hk1 : (k + 1).toInt = k.toInt + 1) (h : ¬ tp_mm xw (f_forms k.toNatClampNeg)) : ∀ i : Nat, i < (k + 1).toInt.toNat → ¬ tp_mm xw (f_forms i) := fun i hi => by
  by_cases e : i < k.toInt.toNat
  · exact hno i e
  · have e2 : i = k.toNatClampNeg := by show i = k.toInt.toNat; omega
    rw [e2]; exact h
theorem tp_allmm (hno : ∀ i : Nat, i < k.toInt.toNat → ¬ tp_mm xw (f_forms i)) (h : 33 ≤ k) : ∀ i : Nat, i < 33 → ¬ tp_mm xw (f_forms i) := fun i hi => hno i (by
  rw [Int32.le_iff_toInt_le, show (33 : Int32).toInt = 33 from rfl] at h; omega)
def tp_mhit (xw : Int32) (f : Nat → Int32) (r : Int32) : Prop := (r = -1 ∧ ∀ i : Nat, i < 33 → ¬ tp_mm xw (f i)) ∨ (0 ≤ r.toInt ∧ r.toInt < 33 ∧ tp_mm xw (f r.toNatClampNeg) ∧ ∀ i : Nat, i < r.toInt.toNat → ¬ tp_mm xw (f i))
theorem tp_mh33 (h : tp_mhit xw f_forms ko) (h1 : 0 ≤ ko) : 0 ≤ ko.toInt ∧ ko.toInt < 33 := by
  rw [Int32.le_iff_toInt_le, Int32.toInt_zero] at h1
  rcases h with h | h
  · rw [h.1] at h1; exact absurd h1 (by decide)
  · exact ⟨h.1, h.2.1⟩
theorem tp_ko46 (h : tp_mhit xw f_forms ko) (h1 : 0 ≤ ko) : vp_in ko 46 := by
  have := tp_mh33 h h1
  exact vp_in_iff.mpr (by omega)
theorem tp_mhn (h : tp_mhit xw f_forms ko) (h1 : ¬ 0 ≤ ko) : tp_mhit xw f_forms (-1) := by
  rw [Int32.le_iff_toInt_le, Int32.toInt_zero] at h1
  rcases h with h | h
  · exact Or.inl ⟨rfl, h.2⟩
  · exact absurd h.1 h1
theorem tp_f80 : ∀ i, i < 33 → tp_forms.getD i 0 / 100000 = 1 ∨ tp_forms.getD i 0 / 100000 = 2 ∨ tp_forms.getD i 0 / 100000 = 3 ∨ tp_forms.getD i 0 / 100000 = 4 ∨ tp_forms.getD i 0 / 100000 = 5 ∨ tp_forms.getD i 0 / 100000 = 6 ∨ tp_forms.getD i 0 / 100000 = 7 ∨ tp_forms.getD i 0 / 100000 = 8 := by decide +kernel
theorem tp_f8 (hF : ∀ i : Nat, i < 33 → f_forms i = tp_forms.getD i 0) (h : tp_mhit xw f_forms ko) (h1 : 0 ≤ ko) : f_forms ko.toNatClampNeg / 100000 = 1 ∨ f_forms ko.toNatClampNeg / 100000 = 2 ∨ f_forms ko.toNatClampNeg / 100000 = 3 ∨ f_forms ko.toNatClampNeg / 100000 = 4 ∨ f_forms ko.toNatClampNeg / 100000 = 5 ∨ f_forms ko.toNatClampNeg / 100000 = 6 ∨ f_forms ko.toNatClampNeg / 100000 = 7 ∨ f_forms ko.toNatClampNeg / 100000 = 8 := by
  have h2 := tp_mh33 h h1
  have h3 : ko.toNatClampNeg < 33 := by show ko.toInt.toNat < 33; omega
  rw [hF _ h3]; exact tp_f80 _ h3
end TPMM
/-- how many of the lowest j bytes of v aren't 0 -/
def tp_nr (v : Int64) : Nat → Nat
  | 0 => 0
  | j + 1 => tp_nr v j + (if ((v >>> (Int32.toInt64 (8 * Int32.ofNat j) &&& 63)) &&& 255).toInt32 ≤ 0 then 0 else 1)
section TPNR
variable {v : Int64} {i3 wv : Int32} {j : Nat}
theorem tp_nr8 (v : Int64) : ∀ j, tp_nr v j ≤ j := by
  intro j
  induction j with
  | zero => exact Nat.le_refl 0
  | succ j ih =>
    show tp_nr v j + (if _ then 0 else 1) ≤ j + 1
    split <;> omega
theorem tp_i3j (hge : 0 ≤ i3.toInt) (hj : i3.toInt + 1 = (j : Int)) : j = (j - 1) + 1 ∧ Int32.ofNat (j - 1) = i3 := by
  have h1 := Int32.toInt_lt i3
  refine ⟨by omega, Int32.toInt_inj.mp ?_⟩
  rw [Int32.toInt_ofNat_of_lt (by omega)]; omega
theorem tp_nr0 (hge : 0 ≤ i3.toInt) (hj : i3.toInt + 1 = (j : Int)) (h : ((v >>> (Int32.toInt64 (8 * i3) &&& 63)) &&& 255).toInt32 ≤ 0) : tp_nr v j = tp_nr v (j - 1) := by
  obtain ⟨e1, e2⟩ := tp_i3j hge hj
  rw [e1]
  show tp_nr v (j - 1) + (if ((v >>> (Int32.toInt64 (8 * Int32.ofNat (j - 1)) &&& 63)) &&& 255).toInt32 ≤ 0 then 0 else 1) = _
  rw [e2, if_pos h]; rfl
theorem tp_nr1 (hge : 0 ≤ i3.toInt) (hj : i3.toInt + 1 = (j : Int)) (h : ¬ ((v >>> (Int32.toInt64 (8 * i3) &&& 63)) &&& 255).toInt32 ≤ 0) : tp_nr v j = tp_nr v (j - 1) + 1 := by
  obtain ⟨e1, e2⟩ := tp_i3j hge hj
  rw [e1]
  show tp_nr v (j - 1) + (if ((v >>> (Int32.toInt64 (8 * Int32.ofNat (j - 1)) &&& 63)) &&& 255).toInt32 ≤ 0 then 0 else 1) = _
  rw [e2, if_neg h]; rfl
theorem tp_nrx (h3 : -1 ≤ i3.toInt ∧ i3.toInt ≤ 7) (hj : i3.toInt + 1 = (j : Int)) (hwv : wv.toInt + (tp_nr v j : Nat) = (tp_nr v 8 : Nat) ∧ 0 ≤ wv.toInt) (h : i3 < 0) : wv.toInt = (tp_nr v 8 : Nat) := by
  rw [Int32.lt_iff_toInt_lt, Int32.toInt_zero] at h
  have e : j = 0 := by omega
  rw [e] at hwv
  have e2 : tp_nr v 0 = 0 := rfl
  omega
end TPNR
def tp_lm (xf xw : Int32) : Nat := if xf = 1 then (2 + tp_dl ((xw >>> (7 &&& 31 : Int32)) &&& 31)) + (2 + tp_dl ((xw >>> (15 &&& 31 : Int32)) &&& 31)) + (2 + tp_dl ((xw >>> (20 &&& 31 : Int32)) &&& 31)) else if xf = 2 then (2 + tp_dl ((xw >>> (7 &&& 31 : Int32)) &&& 31)) + (2 + tp_dl ((xw >>> (15 &&& 31 : Int32)) &&& 31)) + 1 + tp_dl (if (xw.toUInt32 >>> (Int32.toUInt32 20 &&& Int32.toUInt32 31)).toInt32 < 2048 then (xw.toUInt32 >>> (Int32.toUInt32 20 &&& Int32.toUInt32 31)).toInt32 else (xw.toUInt32 >>> (Int32.toUInt32 20 &&& Int32.toUInt32 31)).toInt32 - 4096) else if xf = 3 then (2 + tp_dl ((xw >>> (7 &&& 31 : Int32)) &&& 31)) + (2 + tp_dl ((xw >>> (15 &&& 31 : Int32)) &&& 31)) + 1 + tp_dl ((xw >>> (20 &&& 31 : Int32)) &&& 63) else if xf = 4 then (2 + tp_dl ((xw >>> (7 &&& 31 : Int32)) &&& 31)) + 1 + tp_dl ((xw.toUInt32 >>> (Int32.toUInt32 12 &&& Int32.toUInt32 31)).toInt32) else if xf = 5 then (2 + tp_dl ((xw >>> (7 &&& 31 : Int32)) &&& 31)) + 1 + tp_dl (if (xw.toUInt32 >>> (Int32.toUInt32 20 &&& Int32.toUInt32 31)).toInt32 < 2048 then (xw.toUInt32 >>> (Int32.toUInt32 20 &&& Int32.toUInt32 31)).toInt32 else (xw.toUInt32 >>> (Int32.toUInt32 20 &&& Int32.toUInt32 31)).toInt32 - 4096) + (2 + tp_dl ((xw >>> (15 &&& 31 : Int32)) &&& 31)) + 1 else if xf = 6 then (2 + tp_dl ((xw >>> (20 &&& 31 : Int32)) &&& 31)) + 1 + tp_dl (if (((xw.toUInt32 >>> (Int32.toUInt32 25 &&& Int32.toUInt32 31)).toInt32 * 32) + ((xw >>> (7 &&& 31 : Int32)) &&& 31)) < 2048 then (((xw.toUInt32 >>> (Int32.toUInt32 25 &&& Int32.toUInt32 31)).toInt32 * 32) + ((xw >>> (7 &&& 31 : Int32)) &&& 31)) else (((xw.toUInt32 >>> (Int32.toUInt32 25 &&& Int32.toUInt32 31)).toInt32 * 32) + ((xw >>> (7 &&& 31 : Int32)) &&& 31)) - 4096) + (2 + tp_dl ((xw >>> (15 &&& 31 : Int32)) &&& 31)) + 1 else if xf = 7 then (2 + tp_dl ((xw >>> (15 &&& 31 : Int32)) &&& 31)) + (2 + tp_dl ((xw >>> (20 &&& 31 : Int32)) &&& 31)) + 1 + tp_dl (if (((((xw.toUInt32 >>> (Int32.toUInt32 31 &&& Int32.toUInt32 31)).toInt32 * 4096) + (((xw >>> (7 &&& 31 : Int32)) &&& 1) * 2048)) + (((xw >>> (25 &&& 31 : Int32)) &&& 63) * 32)) + (((xw >>> (8 &&& 31 : Int32)) &&& 15) * 2)) < 4096 then (((((xw.toUInt32 >>> (Int32.toUInt32 31 &&& Int32.toUInt32 31)).toInt32 * 4096) + (((xw >>> (7 &&& 31 : Int32)) &&& 1) * 2048)) + (((xw >>> (25 &&& 31 : Int32)) &&& 63) * 32)) + (((xw >>> (8 &&& 31 : Int32)) &&& 15) * 2)) else (((((xw.toUInt32 >>> (Int32.toUInt32 31 &&& Int32.toUInt32 31)).toInt32 * 4096) + (((xw >>> (7 &&& 31 : Int32)) &&& 1) * 2048)) + (((xw >>> (25 &&& 31 : Int32)) &&& 63) * 32)) + (((xw >>> (8 &&& 31 : Int32)) &&& 15) * 2)) - 8192) else if xf = 8 then (2 + tp_dl ((xw >>> (7 &&& 31 : Int32)) &&& 31)) + 1 + tp_dl (if (((((xw.toUInt32 >>> (Int32.toUInt32 31 &&& Int32.toUInt32 31)).toInt32 * 1048576) + (((xw >>> (12 &&& 31 : Int32)) &&& 255) * 4096)) + (((xw >>> (20 &&& 31 : Int32)) &&& 1) * 2048)) + (((xw >>> (21 &&& 31 : Int32)) &&& 1023) * 2)) < 1048576 then (((((xw.toUInt32 >>> (Int32.toUInt32 31 &&& Int32.toUInt32 31)).toInt32 * 1048576) + (((xw >>> (12 &&& 31 : Int32)) &&& 255) * 4096)) + (((xw >>> (20 &&& 31 : Int32)) &&& 1) * 2048)) + (((xw >>> (21 &&& 31 : Int32)) &&& 1023) * 2)) else (((((xw.toUInt32 >>> (Int32.toUInt32 31 &&& Int32.toUInt32 31)).toInt32 * 1048576) + (((xw >>> (12 &&& 31 : Int32)) &&& 255) * 4096)) + (((xw >>> (20 &&& 31 : Int32)) &&& 1) * 2048)) + (((xw >>> (21 &&& 31 : Int32)) &&& 1023) * 2)) - 2097152) else 0
