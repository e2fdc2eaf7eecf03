theorem sf_she {xw r t b w : Int32} {fO : Nat → Int64} {fN : Nat → Int64} {fF : Nat → Int32} (hs : (r = 0 ∧ ∃ (v : Nat) (n : Int32), tp_hit xw v ∧ ¬ v = 0 ∧ n.toInt = (tp_lenT v xw : Nat) ∧ fO 0 = n.toInt64) ∨ (r = 1 ∧ tp_hit xw 0)) (hm : (t = 1 ∧ tp_mhit xw fF (-1) ∧ w = 0) ∨ (t = 0 ∧ (∃ ko : Int32, tp_mhit xw fF ko ∧ 0 ≤ ko.toInt ∧ b.toInt = (tp_nr (fN ko.toNatClampNeg) 8 : Nat) + (tp_lm ((fF ko.toNatClampNeg) / 100000) xw : Nat)) ∧ w = b ∧ 0 ≤ b.toInt ∧ b.toInt ≤ 40)) (hF : ∀ i : Nat, i < 33 → fF i = tp_forms.getD i 0) (hN : ∀ i : Nat, i < 33 → fN i = tp_names.getD i 0) : t = r ∧ (r = 0 → fO 0 = b.toInt64) := by
  have hM : tp_MS xw fN fF t b := hm.elim (fun h => Or.inl ⟨h.1, h.2.1⟩) (fun h => Or.inr ⟨h.1, h.2.1⟩)
  rcases hs with ⟨h0, v, n, h1, h2, h3, h4⟩ | ⟨h0, h1⟩
  · obtain ⟨q1, q2⟩ := tp_shok hM h1 h2 h3 hF hN
    exact ⟨q1.trans h0.symm, fun _ => by rw [h4, q2]⟩
  · exact ⟨(tp_shno hM h1 hF).trans h0.symm, fun e => absurd (h0.symm.trans e) (by decide)⟩
