theorem sf_nle {a b : Int32} (h : a < b) : ¬ b ≤ a := Int32.not_le.mpr h
theorem sf_o2 {r k : Int32} (h : (r = 0 ∧ ¬ k < 0 ∧ ¬ 2 ≤ k) ∨ (r = 1 ∧ (k < 0 ∨ 2 ≤ k))) : (r = 0 ∧ k = 0) ∨ (r = 0 ∧ k = 1) ∨ (r = 1 ∧ (k < 0 ∨ 2 ≤ k)) := by
  rcases h with ⟨h, h1, h2⟩ | h
  · rcases sf_mod h1 h2 with e | e
    · exact Or.inl ⟨h, e⟩
    · exact Or.inr (Or.inl ⟨h, e⟩)
  · exact Or.inr (Or.inr h)
theorem sf_ge0 {k : Int32} (h : ¬ k < 0) : 0 ≤ k.toInt := by
  have := Int32.le_iff_toInt_le.mp (Int32.not_lt.mp h)
  rwa [Int32.toInt_zero] at this
theorem sf_Cc0 {c : Nat → Int32} (h : sf_C c) : sf_C (upd c 0 0) := ⟨by rw [sf_ups]; decide, by rw [sf_upne (by decide)]; exact h.2⟩
theorem sf_Cc1 {c : Nat → Int32} (h : sf_C c) : sf_C (upd c 1 0) := ⟨by rw [sf_upne (by decide)]; exact h.1, by rw [sf_ups]; decide⟩
theorem sf_sub0 {c : Nat → Int32} {y : Nat} (_ : sf_C c) (h : sf_th (upd c 0 0) y) : sf_th c y := by
  unfold sf_th at h ⊢
  by_cases e : y / 16 = 0
  · rw [e, sf_ups, Int32.toInt_zero] at h
    omega
  · rw [sf_upne e] at h
    exact h
theorem sf_sub1 {c : Nat → Int32} {y : Nat} (_ : sf_C c) (h : sf_th (upd c 1 0) y) : sf_th c y := by
  unfold sf_th at h ⊢
  by_cases e : y / 16 = 1
  · rw [e, sf_ups, Int32.toInt_zero] at h
    omega
  · rw [sf_upne e] at h
    exact h
theorem sf_iim {z i : Int32} (h : z.toInt ≤ 16384) (h0 : ¬ i < 0) (h1 : ¬ z ≤ i) : vp_in i 16384 := by
  have := sf_lt h1
  exact vp_in_iff.mpr ⟨sf_ge0 h0, by omega⟩
theorem sf_iou {z i : Int32} (h : 0 ≤ z.toInt ∧ z.toInt ≤ 40) (h0 : ¬ i < 0) (h1 : ¬ z ≤ i) : vp_in i 40 := by
  have := sf_lt h1
  exact vp_in_iff.mpr ⟨sf_ge0 h0, by omega⟩
theorem sf_n16' {n : Int32} (h : n.toInt ≤ 16) (hn : ¬ n = 16) : n.toInt < 16 := by
  have : ¬ n.toInt = 16 := fun e => hn (Int32.toInt_inj.mp (by rw [e]; rfl))
  omega
theorem sf_nx0 {c : Nat → Int32} (hC : sf_C c) (hn : ¬ c 0 = 16) : vp_in (0 + c 0) 32 := by
  have := sf_n16' hC.1.2 hn
  rw [sf_0k]
  exact vp_in_iff.mpr ⟨hC.1.1, by omega⟩
theorem sf_16n {c : Int32} (h0 : 0 ≤ c.toInt) (h : c.toInt ≤ 16) : (16 + c).toInt = 16 + c.toInt := by
  have e : (16 + c).toInt = (16 : Int32).toInt + c.toInt := tp_addI (by rw [show (16 : Int32).toInt = 16 from rfl]; omega) (by rw [show (16 : Int32).toInt = 16 from rfl]; omega)
  rw [e]; rfl
theorem sf_nx1 {c : Nat → Int32} (hC : sf_C c) (hn : ¬ c 1 = 16) : vp_in (16 + c 1) 32 := by
  have := sf_n16' hC.2.2 hn
  have e := sf_16n hC.2.1 hC.2.2
  exact vp_in_iff.mpr ⟨by have := hC.2.1; omega, by omega⟩
theorem sf_Ci0 {c : Nat → Int32} (hC : sf_C c) (hn : ¬ c 0 = 16) : sf_C (upd c 0 (c 0 + 1)) := by
  have h := sf_n16' hC.1.2 hn
  have e : (c 0 + 1).toInt = (c 0).toInt + 1 := tp_inc (by omega)
  exact ⟨by rw [sf_ups, e]; have := hC.1.1; omega, by rw [sf_upne (by decide)]; exact hC.2⟩
theorem sf_Ci1 {c : Nat → Int32} (hC : sf_C c) (hn : ¬ c 1 = 16) : sf_C (upd c 1 (c 1 + 1)) := by
  have h := sf_n16' hC.2.2 hn
  have e : (c 1 + 1).toInt = (c 1).toInt + 1 := tp_inc (by omega)
  exact ⟨by rw [sf_upne (by decide)]; exact hC.1, by rw [sf_ups, e]; have := hC.2.1; omega⟩
theorem sf_VBi0 {c fo : Nat → Int32} {vo : Nat → Int64} {f : Int32} {v : Int64} (hC : sf_C c) (hV : sf_VB c fo vo) (hn : ¬ c 0 = 16) (h : f = 13 → ¬ v < 0 ∧ ¬ 6000 < v) : sf_VB (upd c 0 (c 0 + 1)) (upd fo (0 + c 0).toNatClampNeg f) (vp_updL vo (0 + c 0).toNatClampNeg v) := fun y hy ht hf => by
  have h1 := sf_n16' hC.1.2 hn
  have h0 := hC.1.1
  have e : (c 0 + 1).toInt = (c 0).toInt + 1 := tp_inc (by omega)
  rw [sf_0k] at hf ⊢
  have ex : (c 0).toNatClampNeg = (c 0).toInt.toNat := rfl
  by_cases q : y = (c 0).toNatClampNeg
  · subst q
    rw [sf_ups] at hf
    rw [sf_upLs]
    exact h hf
  · rw [sf_upne q] at hf
    rw [sf_upLne q]
    refine hV y hy ?_ hf
    unfold sf_th at ht ⊢
    by_cases e2 : y / 16 = 0
    · rw [e2, sf_ups, e] at ht
      rw [e2]
      omega
    · rw [sf_upne e2] at ht
      exact ht
theorem sf_VBi1 {c fo : Nat → Int32} {vo : Nat → Int64} {f : Int32} {v : Int64} (hC : sf_C c) (hV : sf_VB c fo vo) (hn : ¬ c 1 = 16) (h : f = 13 → ¬ v < 0 ∧ ¬ 6000 < v) : sf_VB (upd c 1 (c 1 + 1)) (upd fo (16 + c 1).toNatClampNeg f) (vp_updL vo (16 + c 1).toNatClampNeg v) := fun y hy ht hf => by
  have h1 := sf_n16' hC.2.2 hn
  have h0 := hC.2.1
  have e : (c 1 + 1).toInt = (c 1).toInt + 1 := tp_inc (by omega)
  have ex0 := sf_16n hC.2.1 hC.2.2
  have ex : (16 + c 1).toNatClampNeg = (16 + c 1).toInt.toNat := rfl
  by_cases q : y = (16 + c 1).toNatClampNeg
  · subst q
    rw [sf_ups] at hf
    rw [sf_upLs]
    exact h hf
  · rw [sf_upne q] at hf
    rw [sf_upLne q]
    refine hV y hy ?_ hf
    unfold sf_th at ht ⊢
    by_cases e2 : y / 16 = 1
    · rw [e2, sf_ups, e] at ht
      rw [e2]
      omega
    · rw [sf_upne e2] at ht
      exact ht
theorem sf_s28 {z n : Int32} (hz : 0 ≤ z.toInt ∧ z.toInt ≤ 28) (hn : 1 ≤ n.toInt ∧ n.toInt ≤ 8) (h : (z + n) ≤ 28) : z.toInt + n.toInt ≤ 28 := by
  have e : (z + n).toInt = z.toInt + n.toInt := tp_addI (by omega) (by omega)
  have := Int32.le_iff_toInt_le.mp h
  rw [e, show (28 : Int32).toInt = 28 from rfl] at this
  exact this
theorem sf_z28 {k z s n : Int32} {j : Nat} (h : ¬ k < 0) (hk : -1 ≤ k.toInt ∧ 0 ≤ z.toInt) (hj : k.toInt + 1 = (j : Int)) (hz : z.toInt + (j : Int) = s.toInt + n.toInt) (hs : s.toInt + n.toInt ≤ 28) : vp_in z 28 := by
  have := sf_ge0 h
  exact vp_in_iff.mpr ⟨hk.2, by omega⟩
theorem sf_ze {k z s n : Int32} {j : Nat} (h : k < 0) (hk : -1 ≤ k.toInt ∧ 0 ≤ z.toInt) (hj : k.toInt + 1 = (j : Int)) (hz : z.toInt + (j : Int) = s.toInt + n.toInt) : z.toInt = s.toInt + n.toInt := by
  have := Int32.lt_iff_toInt_lt.mp h
  rw [Int32.toInt_zero] at this
  omega
theorem sf_c28 {xc k c n : Int32} (hx : 0 ≤ xc.toInt ∧ xc.toInt ≤ 28) (hk : 0 ≤ k.toInt) (h : ¬ n ≤ k) (hc : c.toInt = xc.toInt + k.toInt) (hs : xc.toInt + n.toInt ≤ 28) : vp_in c 28 := by
  have := sf_lt h
  exact vp_in_iff.mpr ⟨by omega, by omega⟩
theorem sf_ce {xc k c n : Int32} {j : Nat} (hk : 0 ≤ k.toInt) (hj : k.toInt + (j : Int) = n.toInt) (h : n ≤ k) (hc : c.toInt = xc.toInt + k.toInt) : c.toInt = xc.toInt + n.toInt := by
  have := Int32.le_iff_toInt_le.mp h
  omega
theorem sf_0le {x : Int32} (h : 0 ≤ x.toInt) : 0 ≤ x := by
  rw [Int32.le_iff_toInt_le, Int32.toInt_zero]
  exact h
theorem sf_l34 {uo : Nat} {xw cv : Int32} (hu : uo < 47) (h : cv.toInt = (tp_lenT uo xw : Nat)) : 0 ≤ cv.toInt ∧ cv.toInt ≤ 34 := by
  have h7 := tp_len7 (i := 47 + uo) (by omega)
  have b := tp_osb uo xw (tp_len.getD (47 + uo) 0)
  have b2 := tp_bsb uo hu (tp_len.getD (47 + uo) 0) (by omega)
  unfold tp_lenT at h
  omega
theorem sf_ncap16 {x : Int32} (h : x.toInt ≤ ((16 : Nat) : Int)) : ¬ 16 < x := fun e => by
  have := Int32.lt_iff_toInt_lt.mp e
  rw [show (16 : Int32).toInt = 16 from rfl] at this
  omega
theorem sf_ncap34 {x : Int32} (h : x.toInt ≤ ((34 : Nat) : Int)) : ¬ 34 < x := fun e => by
  have := Int32.lt_iff_toInt_lt.mp e
  rw [show (34 : Int32).toInt = 34 from rfl] at this
  omega
theorem sf_kcap2 {k x : Int32} {n : Nat} (h1 : ¬ k < 0) (h2 : k < x) (hq : x.toInt ≤ (n : Int)) : vp_in k n := by
  have := Int32.lt_iff_toInt_lt.mp h2
  exact vp_in_iff.mpr ⟨sf_ge0 h1, by omega⟩
theorem sf_ch8 {x : Int32} : narrow .char (.int ((x.toUInt32 % 65536).toInt32)) = .int ((x.toUInt32 % 65536).toInt32) := by
  show Value.int (((x.toUInt32 % 65536).toInt32).toUInt32.toUInt16.toUInt32.toInt32) = _
  congr 1
  apply Int32.toBitVec_inj.mp
  simp
  apply BitVec.eq_of_toNat_eq
  simp [BitVec.toNat_umod]
