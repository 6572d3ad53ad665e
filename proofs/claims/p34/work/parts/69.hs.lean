section HS
set_option maxRecDepth 100000 in
theorem hs_all : ∀ n, n < 53 → ∀ k, k < 53 → 0 < n → k ≤ n → isNaN64 (FP.ddiv (FP.i2d (nI k)) (FP.i2d (nI n))) = false ∧ 0 ≤ Op.cmpValue (FP.dcmp (FP.ddiv (FP.i2d (nI k)) (FP.i2d (nI n))) FP.dconst0) CmpOp.l ∧ Op.cmpValue (FP.dcmp (FP.ddiv (FP.i2d (nI k)) (FP.i2d (nI n))) FP.dconst1) CmpOp.g ≤ 0 := by decide +kernel
theorem hs_1 : 0 ≤ Op.cmpValue (FP.dcmp FP.dconst1 FP.dconst0) CmpOp.l ∧ Op.cmpValue (FP.dcmp FP.dconst1 FP.dconst1) CmpOp.g ≤ 0 := by decide +kernel
theorem hs_ok {n k : Nat} {v : UInt64} (hn : n ≤ 52) (hk : k ≤ n) (h : shP (nI n) (nI k) v) : 0 ≤ Op.cmpValue (FP.dcmp v FP.dconst0) CmpOp.l ∧ Op.cmpValue (FP.dcmp v FP.dconst1) CmpOp.g ≤ 0 := by
  rcases h with ⟨h1, h2⟩ | ⟨h1, h2⟩
  · rw [h2]; exact hs_1
  · have h0 : 0 < n := by
      rcases Nat.eq_zero_or_pos n with z | z
      · subst z; exact absurd rfl h1
      · exact z
    obtain ⟨a, b, c⟩ := hs_all n (by omega) k (by omega) h0 hk
    have e : v = FP.ddiv (FP.i2d (nI k)) (FP.i2d (nI n)) := by
      unfold alike64 at h2
      rcases (Bool.or_eq_true _ _).mp h2 with z | z
      · exact of_decide_eq_true z
      · have := ((Bool.and_eq_true _ _).mp z).2
        rw [a] at this
        exact absurd this (by decide)
    rw [e]; exact ⟨b, c⟩
end HS
