/-! ===== the reference's numbers: s: 0 glare, 1 gain, 2 address, 3 code, 4 toggle, 5 holds, 6 since, 7 presses, 8 received, 9 + reason, 16 + code actions, 32 + code done, 48 row, 49 + k times ===== -/
section MODEL3
theorem lis_ms (g : zF) (loss : Int32) (wk : Bool) (a0 : zF) : ∀ i, (lis g loss wk a0 i).2.1 = 0 ∨ (lis g loss wk a0 i).2.1 = 1 := by
  intro i
  induction i with
  | zero => exact Or.inl rfl
  | succ i ih =>
    have e : (lis g loss wk a0 (i + 1)) = lisS g loss wk i (lis g loss wk a0 i) := rfl
    rw [e]
    generalize lis g loss wk a0 i = q at ih ⊢
    by_cases h : i % 2 = 1
    · rw [lisS_odd h]; exact ih
    · by_cases h2 : wk = true ∨ (if (g i - loss) < 0 then (0 : Int32) else (g i - loss)) < 2
      · rw [lisS_miss (by omega) h2]; exact Or.inr rfl
      · by_cases hk : q.2.2.1 = 0
        · rw [lisS_first (by omega) (fun z => h2 (Or.inl z)) (fun z => h2 (Or.inr z)) hk]; exact ih
        · rw [lisS_more (by omega) (fun z => h2 (Or.inl z)) (fun z => h2 (Or.inr z)) (by omega)]; exact ih
theorem zin {lo hi : Int32} {a l n : Nat} (hl : lo = nI l) (hh : hi = nI n) (h1 : l ≤ a) (h2 : a ≤ n) (hn : n < 2147483648) : lo ≤ nI a ∧ nI a ≤ hi := ⟨(z_le hl rfl (by omega) (by omega)).mpr h1, (z_le rfl hh (by omega) hn).mpr h2⟩
def tcP (F : Nat → Int32) (v : Int32) : Prop := (∃ k : Nat, k ≤ 20 ∧ v = nI k ∧ ¬ 0 < F k ∧ ∀ j, j < k → 0 < F j) ∨ (v = -1 ∧ ∀ j, j < 21 → 0 < F j)
end MODEL3

