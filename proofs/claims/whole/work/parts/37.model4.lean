/-! ===== the class's forecasts; the signs of a text ===== -/
section MODEL4
/-- the gains while frames of the address come, one after another, and are refused; what each would be answered with -/
def gnC (ad : Nat) (g : zF) : Nat → Int32
  | 0 => g 1
  | i + 1 => gaF (LO (frS (wd ad 0 0)) 21 (g 0) (gnC ad g i) 10).1 (g 0) (gnC ad g i)
def tcC (ad : Nat) (g : zF) (i : Nat) : Int32 := ansF g (LO (frS (wd ad 0 0)) 21 (g 0) (gnC ad g i) 10).2.1 (LO (frS (wd ad 0 0)) 21 (g 0) (gnC ad g i) 10).2.2
def lsC (ad : Nat) (g : zF) : Int32 := if ansF g (LO (frS (wd ad 0 0)) 21 (g 0) (g 1) (11 - g 1)).2.1 (LO (frS (wd ad 0 0)) 21 (g 0) (g 1) (11 - g 1)).2.2 = 0 ∨ ansF g (LO (frS (wd ad 0 0)) 21 (g 0) (g 1) (11 - g 1)).2.1 (LO (frS (wd ad 0 0)) 21 (g 0) (g 1) (11 - g 1)).2.2 = -1 then 11 - g 1 else -1
theorem ans_pos {g S : zF} {n : Nat} {gl gn st r : Int32} (h : r = ansF g (LO S n gl gn st).2.1 (LO S n gl gn st).2.2) (hn : ¬ (r = 0 ∨ r = -1)) : 0 < r := by
  have hc := ansF_cases (g := g) (LO S n gl gn st).2.2 (LO_cases S n gl gn st)
  rw [← h] at hc
  rcases hc with z | z | ⟨k, h1, h2, h3⟩
  · exact absurd (Or.inl z.1) hn
  · exact absurd (Or.inr z.1) hn
  · rw [h3]
    exact nI_ltI (a := 0) (by omega) (by omega) |>.mpr (by omega)
theorem ans_npos {r : Int32} (h : r = 0 ∨ r = -1) : ¬ 0 < r := by
  rcases h with h | h <;> (rw [h]; decide)
/-- where in a light text one stands after a sign -/
def plA (q : Nat) (x : Int32) : Nat :=
  if q = 0 then (if x = 102 then 1 else if x = 114 then 8 else if x = 116 then 5 else if x = 103 then 7 else 9)
  else if q = 1 then (if x = 48 then 2 else if x = 49 then 3 else 9)
  else if q = 2 then (if 48 ≤ x ∧ x ≤ 57 then 4 else 9)
  else if q = 3 then (if 48 ≤ x ∧ x ≤ 53 then 4 else 9)
  else if q = 4 then (if 48 ≤ x ∧ x ≤ 49 then 8 else 9)
  else if q = 5 then (if 49 ≤ x ∧ x ≤ 57 then 6 else 9)
  else if q = 6 then (if 48 ≤ x ∧ x ≤ 57 then 8 else if x = 59 then 0 else 9)
  else if q = 7 then (if 48 ≤ x ∧ x ≤ 57 then 8 else 9)
  else if q = 8 then (if x = 59 then 0 else 9)
  else 9
theorem plA_le (q : Nat) (x : Int32) : plA q x ≤ 9 := by
  unfold plA
  repeat' split
  all_goals omega
theorem plA_9 (x : Int32) : plA 9 x = 9 := rfl
def psT (t : zF) : Nat → Nat
  | 0 => 0
  | i + 1 => plA (psT t i) (t i)
theorem psT_le (t : zF) : ∀ i, psT t i ≤ 9 := by
  intro i
  cases i with
  | zero => exact Nat.zero_le 9
  | succ i => exact plA_le _ _
theorem psT_9 (t : zF) (i : Nat) (h : psT t i = 9) : ∀ k, psT t (i + k) = 9 := by
  intro k
  induction k with
  | zero => exact h
  | succ k ih =>
    show plA (psT t (i + k)) (t (i + k)) = 9
    rw [ih]
    rfl
theorem psT_ok {t : zF} {n : Nat} (h : ¬ psT t n = 9) {i : Nat} (hi : i ≤ n) : ¬ psT t i = 9 := by
  intro z
  have := psT_9 t i z (n - i)
  rw [show i + (n - i) = n by omega] at this
  exact h this
/-- the place of the first wrong sign; or the length -/
def feP (t : zF) (n x : Nat) : Prop := ¬ psT t x = 9 ∧ (x = n ∨ (x < n ∧ psT t (x + 1) = 9))
theorem feP_one {t : zF} {n x y : Nat} (hx : feP t n x) (hy : feP t n y) : x = y := by
  obtain ⟨a1, a2⟩ := hx
  obtain ⟨b1, b2⟩ := hy
  rcases Nat.lt_trichotomy x y with h | h | h
  · rcases a2 with e | ⟨e1, e2⟩
    · rcases b2 with z | z <;> omega
    · exact absurd e2 (psT_ok b1 (by omega))
  · exact h
  · rcases b2 with e | ⟨e1, e2⟩
    · rcases a2 with z | z <;> omega
    · exact absurd e2 (psT_ok a1 (by omega))
/-- the text is complete -/
abbrev cmT (t : zF) (n : Nat) : Prop := psT t n = 8 ∨ psT t n = 6
/-- the number whose figures stand from a on, k of them -/
def nuT (t : zF) (a : Nat) : Nat → Int32
  | 0 => 0
  | k + 1 => 10 * nuT t a k + t (a + k) - 48
theorem plA_0n {x : Int32} (h1 : ¬ x = 102) (h2 : ¬ x = 103) (h3 : ¬ x = 114) (h4 : ¬ x = 116) : plA 0 x = 9 := by
  unfold plA
  rw [if_pos rfl, if_neg h1, if_neg h3, if_neg h4, if_neg h2]
theorem plA_1 (x : Int32) : plA 1 x = if x = 48 then 2 else if x = 49 then 3 else 9 := rfl
theorem plA_2 (x : Int32) : plA 2 x = if 48 ≤ x ∧ x ≤ 57 then 4 else 9 := rfl
theorem plA_3 (x : Int32) : plA 3 x = if 48 ≤ x ∧ x ≤ 53 then 4 else 9 := rfl
theorem plA_4 (x : Int32) : plA 4 x = if 48 ≤ x ∧ x ≤ 49 then 8 else 9 := rfl
theorem plA_5 (x : Int32) : plA 5 x = if 49 ≤ x ∧ x ≤ 57 then 6 else 9 := rfl
theorem plA_6 (x : Int32) : plA 6 x = if 48 ≤ x ∧ x ≤ 57 then 8 else if x = 59 then 0 else 9 := rfl
theorem plA_7 (x : Int32) : plA 7 x = if 48 ≤ x ∧ x ≤ 57 then 8 else 9 := rfl
theorem plA_8 (x : Int32) : plA 8 x = if x = 59 then 0 else 9 := rfl
theorem nq9 {q k : Nat} (hq : q ≤ 9) (hk : k ≤ 9) : nI q = nI k ↔ q = k := nI_eq (by omega) (by omega)
end MODEL4
