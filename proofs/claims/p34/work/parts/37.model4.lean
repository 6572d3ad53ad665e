/-! ===== the class's forecasts; the signs of a text ===== -/
section MODEL4
/-- the gains while frames of the address come, one after another, and are refused; what each would be answered with -/
def gnC (ad : Nat) (g : zF) : Nat → Int32
  | 0 => g 1
  | i + 1 => gaF (LO (frS (wd ad 0 0)) 21 (g 0) (gnC ad g i) 10).1 (g 0) (gnC ad g i)
def tcC (ad : Nat) (g : zF) (i : Nat) : Int32 := ansF g (LO (frS (wd ad 0 0)) 21 (g 0) (gnC ad g i) 10).2.1 (LO (frS (wd ad 0 0)) 21 (g 0) (gnC ad g i) 10).2.2
def lsC (ad : Nat) (g : zF) : Int32 := if ansF g (LO (frS (wd ad 0 0)) 21 (g 0) (g 1) (11 - g 1)).2.1 (LO (frS (wd ad 0 0)) 21 (g 0) (g 1) (11 - g 1)).2.2 = 0 ∨ ansF g (LO (frS (wd ad 0 0)) 21 (g 0) (g 1) (11 - g 1)).2.1 (LO (frS (wd ad 0 0)) 21 (g 0) (g 1) (11 - g 1)).2.2 = -1 then 11 - g 1 else -1
theorem ans_pos {g S : zF} {n : Nat} {gl gn st r : Int32} (h : r = ansF g (LO S n gl gn st).2.1 (LO S n gl gn st).2.2) (hn : ¬ (r = 0 ∨ r = -1)) : 0 < r := by
  have hc := ansF_cases (g := g) (LO S n gl gn st).2.2 (LO_cases S n gl gn st)
  rw [← h] at hc
  rcases hc with z | z | ⟨k, h1, h2, h3⟩
  · exact absurd (Or.inl z.1) hn
  · exact absurd (Or.inr z.1) hn
  · rw [h3]
    exact nI_ltI (a := 0) (by omega) (by omega) |>.mpr (by omega)
theorem ans_npos {r : Int32} (h : r = 0 ∨ r = -1) : ¬ 0 < r := by
  rcases h with h | h <;> (rw [h]; decide)
end MODEL4

