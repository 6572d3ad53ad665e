/-! ===== the class's state in natural numbers, and what a call does to them ===== -/
section NN
/-- 0 glare, 1 gain, 2 address, 3 code, 4 toggle, 5 holds, 6 ticks since light was accepted and one more (0: none was), 7 presses, 8 received, 9 accepted, 16 + code its action, 32 + code how often done, 48 + reason, 60 the row's times -/
abbrev zN : Type := Nat → Nat
def vw (S : zSt) (N : zN) : Prop := (S.1 0 = nI (N 0) ∧ S.1 1 = nI (N 1) ∧ S.1 2 = nI (N 2) ∧ S.1 3 = nI (N 3) ∧ S.1 4 = nI (N 4) ∧ S.1 5 = nI (N 5) ∧ S.1 6 = nI (N 6) - 1 ∧ S.1 7 = nI (N 7) ∧ S.1 8 = nI (N 8) ∧ S.1 9 = nI (N 9)) ∧ (∀ c, c < 16 → S.2.1 0 c = nI (N (16 + c))) ∧ (∀ c, c < 16 → S.2.1 1 c = nI (N (32 + c))) ∧ (∀ k, 1 ≤ k → k ≤ 6 → S.2.1 2 k = nI (N (48 + k))) ∧ S.2.2 = N 60
def rfs (N : zN) : Nat := N 49 + N 50 + N 51 + N 52 + N 53 + N 54
def bnd (n : Nat) (N : zN) : Prop := (N 0 ≤ 9 ∧ 1 ≤ N 1 ∧ N 1 ≤ 10 ∧ N 2 ≤ 7 ∧ N 3 ≤ 15 ∧ N 4 ≤ 1 ∧ N 5 ≤ n ∧ N 6 ≤ 100 * n + 1 ∧ N 8 ≤ n ∧ N 9 ≤ N 8 ∧ rfs N + N 7 ≤ N 8) ∧ (∀ c, c < 16 → N (16 + c) ≤ 2) ∧ (∀ c, c < 16 → N (32 + c) ≤ n) ∧ N 60 ≤ 30
abbrev rem (N : zN) : Prop := 1 ≤ N 6 ∧ N 6 ≤ 61
theorem nI_p1 (k : Nat) : nI (k + 1) - 1 = nI k := by rw [← nI_1]; exact Int32.add_sub_cancel _ _
theorem nI_m1 : nI 0 - 1 = -1 := by decide
theorem s6_cases {x : Int32} {k : Nat} (h : x = nI k - 1) : (k = 0 ∧ x = -1) ∨ (∃ j, k = j + 1 ∧ x = nI j) := by
  cases k with
  | zero => exact Or.inl ⟨rfl, h⟩
  | succ j => exact Or.inr ⟨j, rfl, by rw [h, nI_p1]⟩
theorem nI_nm1 {k : Nat} (h : k < 2147483648) : ¬ nI k = -1 := by
  intro z
  have := congrArg Int32.toInt z
  rw [nI_toInt h] at this
  have e : (-1 : Int32).toInt = -1 := by decide
  omega
theorem rmb_N {S : zSt} {N : zN} (h : S.1 6 = nI (N 6) - 1) (hb : N 6 ≤ 2000000000) : rmb S.1 ↔ rem N := by
  unfold rmb rem
  rcases s6_cases h with ⟨h1, h2⟩ | ⟨j, h1, h2⟩
  · rw [h2, h1]
    exact ⟨fun z => absurd rfl z.1, fun z => absurd z.1 (by omega)⟩
  · rw [h2, h1]
    constructor
    · rintro ⟨z1, z2⟩
      have := (z_le (b := 60) rfl rfl (by omega) (by omega)).mp z2
      omega
    · rintro ⟨z1, z2⟩
      exact ⟨nI_nm1 (by omega), (z_le (b := 60) rfl rfl (by omega) (by omega)).mpr (by omega)⟩
def gaN (ms : Bool) (gl gn : Nat) : Nat := if ms = true then (if gn - 1 < 1 then 1 else gn - 1) else (if 10 - gl < gn + 1 then 10 - gl else gn + 1)
theorem gaF_N : ∀ a, a < 10 → ∀ b, b < 11 → 1 ≤ b → gaF 0 (nI a) (nI b) = nI (gaN false a b) ∧ gaF 1 (nI a) (nI b) = nI (gaN true a b) := by decide +kernel
theorem gaN_bd {ms : Bool} {a b : Nat} (ha : a ≤ 9) (h1 : 1 ≤ b) (h2 : b ≤ 10) : 1 ≤ gaN ms a b ∧ gaN ms a b ≤ 10 ∧ (b ≤ 10 - a → gaN ms a b ≤ b + 1 ∧ b ≤ gaN ms a b + 1) := by
  unfold gaN
  split <;> split <;> omega
/-- light received: the numbers behind it -/
def hcN (N : zN) (ms : Bool) : zN := va_up (va_up N 8 (N 8 + 1)) 1 (gaN ms (N 0) (N 1))
def prN (N : zN) (ms : Bool) (c t : Nat) : zN := va_up (va_up (va_up (va_up (va_up (va_up (va_up (hcN N ms) 9 (N 9 + 1)) 6 1) 7 (N 7 + 1)) 5 0) 3 c) 4 t) (32 + c) (N (32 + c) + (if N (16 + c) = 0 then 0 else 1))
def hoN (N : zN) (ms : Bool) : zN := va_up (va_up (va_up (va_up (hcN N ms) 9 (N 9 + 1)) 6 1) 5 (N 5 + 1)) (32 + N 3) (N (32 + N 3) + (if N (16 + N 3) = 2 ∧ (N 5 + 1) % 2 = 0 then 1 else 0))
def rkN (N : zN) (ms : Bool) (k : Nat) : zN := va_up (hcN N ms) (48 + k) (N (48 + k) + 1)
/-- what light brings: the answer, the numbers -/
def heN (N : zN) (ms : Bool) (mn w : Nat) : Int32 × zN :=
  if mn = 8 then (if rem N then (-1, hoN N ms) else (6, rkN N ms 6))
  else if ¬ mn = 7 then (nI mn, rkN N ms mn)
  else if ¬ w / 64 = N 2 then (5, rkN N ms 5)
  else if rem N ∧ w / 4 % 16 = N 3 ∧ w / 2 % 2 = N 4 then (-1, hoN N ms) else (0, prN N ms (w / 4 % 16) (w / 2 % 2))
end NN
