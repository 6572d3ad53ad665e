/-! ===== a frame that is sent: what comes of it ===== -/
section FR
def frA (w b : Nat) : zF := fun j => if j % 2 = 0 then frS w j - nI b else frS w j + nI b
theorem frS_ev {w j : Nat} (h : j % 2 = 0) (h0 : ¬ j = 0) : frS w j = 4 := by
  unfold frS
  rw [if_neg h0, if_neg (by omega), if_pos h]
theorem frS_0 (w : Nat) : frS w 0 = 16 := rfl
theorem frS_bit {w k : Nat} : frS w (3 + 2 * k) = if w / 2 ^ (8 - k) % 2 = 1 then 12 else 4 := by
  unfold frS
  rw [if_neg (by omega), if_neg (by omega), if_neg (by omega), show (3 + 2 * k - 3) / 2 = k by omega]
theorem b3 {b : Nat} (h : b < 3) : b = 0 ∨ b = 1 ∨ b = 2 := by omega
theorem lis_good (w b : Nat) (hb : b < 3) (a0 : zF) : ∀ k, ∃ f : zF, lis (frS w) (nI b) false a0 (2 * k + 1) = (0, 0, 2 * k + 1, f) ∧ ∀ j, j < 2 * k + 1 → f j = frA w b j := by
  intro k
  induction k with
  | zero =>
    have e16 : frS w 0 = 16 := rfl
    have e : (if (frS w 0 - nI b) < 0 then (0 : Int32) else (frS w 0 - nI b)) = frS w 0 - nI b := by
      rw [e16]; rcases b3 hb with rfl | rfl | rfl <;> decide
    have e2 : ¬ (if (frS w 0 - nI b) < 0 then (0 : Int32) else (frS w 0 - nI b)) < 2 := by
      rw [e16]; rcases b3 hb with rfl | rfl | rfl <;> decide
    refine ⟨upd a0 0 (frS w 0 - nI b), ?_, fun j hj => ?_⟩
    · show lisS (frS w) (nI b) false 0 (0, 0, 0, a0) = _
      rw [lisS_first (by omega) (by decide) e2 rfl, e]
    · obtain rfl : j = 0 := by omega
      rw [pk_us]; rfl
  | succ k ih =>
    obtain ⟨f, h1, h2⟩ := ih
    have e4 : frS w (2 * k + 2) = 4 := frS_ev (by omega) (by omega)
    have e : (if (frS w (2 * k + 2) - nI b) < 0 then (0 : Int32) else (frS w (2 * k + 2) - nI b)) = frS w (2 * k + 2) - nI b := by
      rw [e4]; rcases b3 hb with rfl | rfl | rfl <;> decide
    have e2 : ¬ (if (frS w (2 * k + 2) - nI b) < 0 then (0 : Int32) else (frS w (2 * k + 2) - nI b)) < 2 := by
      rw [e4]; rcases b3 hb with rfl | rfl | rfl <;> decide
    refine ⟨upd (upd f (2 * k + 1) (frS w (2 * k + 1) + nI b)) (2 * k + 2) (frS w (2 * k + 2) - nI b), ?_, fun j hj => ?_⟩
    · show lisS (frS w) (nI b) false (2 * k + 2) (lisS (frS w) (nI b) false (2 * k + 1) (lis (frS w) (nI b) false a0 (2 * k + 1))) = _
      rw [h1, lisS_odd (i := 2 * k + 1) (by omega), lisS_more (i := 2 * k + 2) (by omega) (by decide) e2 (by show 0 < 2 * k + 1; omega), e, Int32.zero_add]
      rfl
    · by_cases j1 : j = 2 * k + 2
      · subst j1
        rw [pk_us]; unfold frA; rw [if_pos (by omega)]
      · rw [pk_un j1]
        by_cases j2 : j = 2 * k + 1
        · subst j2
          rw [pk_us]; unfold frA; rw [if_neg (by omega)]
        · rw [pk_un j2]; exact h2 j (by omega)
theorem frA_bit {w b k : Nat} (hb : b < 3) : (if frA w b (3 + 2 * k) ≤ 8 then 0 else 1) = w / 2 ^ (8 - k) % 2 := by
  have e : frA w b (3 + 2 * k) = frS w (3 + 2 * k) + nI b := by unfold frA; exact if_neg (by omega)
  rw [e, frS_bit]
  rcases Nat.mod_two_eq_zero_or_one (w / 2 ^ (8 - k)) with h | h <;> rw [h] <;> rcases b3 hb with rfl | rfl | rfl <;> decide
theorem wF_fr {w b : Nat} {f : zF} (hb : b < 3) (hw : w < 512) (hf : ∀ j, j < 21 → f j = frA w b j) : ∀ k, k ≤ 9 → wF f k = w / 2 ^ (9 - k) := by
  intro k
  induction k with
  | zero => intro _; show 0 = w / 2 ^ 9; omega
  | succ k ih =>
    intro hk
    show 2 * wF f k + (if f (3 + 2 * k) ≤ 8 then 0 else 1) = w / 2 ^ (9 - (k + 1))
    rw [ih (by omega), hf _ (by omega), frA_bit hb, show 9 - (k + 1) = 8 - k by omega, show 9 - k = (8 - k) + 1 by omega, Nat.pow_succ, ← Nat.div_div_eq_div_mul]
    omega
theorem fr_good {w b : Nat} (hb : b < 3) (hw : w < 512) (hz : z1 w % 2 = 0) (a0 : zF) : (lis (frS w) (nI b) false a0 21).2.1 = 0 ∧ mw (lis (frS w) (nI b) false a0 21) = (7, w) := by
  obtain ⟨f, h1, h2⟩ := lis_good w b hb a0 10
  have e : wF f 9 = w := by rw [wF_fr hb hw h2 9 (by omega)]; exact Nat.div_one w
  rw [show 21 = 2 * 10 + 1 by rfl, h1]
  refine ⟨rfl, ?_⟩
  show (dec 21 f, if (21 : Nat) = 21 then wF f 9 else 0) = (7, w)
  have f0 : f 0 = 16 - nI b := h2 0 (by omega)
  have hs : ¬ (f 0 < 10 ∨ 20 < f 0) := by rw [f0]; rcases b3 hb with rfl | rfl | rfl <;> decide
  rw [dec_7 rfl hs (by rw [e]; omega), if_pos rfl, e]
/-- all bursts are missed, or all but the first -/
theorem lisN_weak (g : zF) (loss : Int32) (a0 : zF) : ∀ i, (lis g loss true a0 i).2.2.1 = 0 ∧ (0 < i → (lis g loss true a0 i).2.1 = 1) := by
  intro i
  induction i with
  | zero => exact ⟨rfl, fun h => absurd h (by omega)⟩
  | succ i ih =>
    have e : lis g loss true a0 (i + 1) = lisS g loss true i (lis g loss true a0 i) := rfl
    rw [e]
    by_cases h : i % 2 = 1
    · rw [lisS_odd h]; exact ⟨ih.1, fun _ => ih.2 (by omega)⟩
    · rw [lisS_miss (by omega) (Or.inl rfl)]; exact ⟨ih.1, fun _ => rfl⟩
theorem lis_glare (w b : Nat) (hb : b = 3 ∨ b = 4) (a0 : zF) : ∀ k, (lis (frS w) (nI b) false a0 (2 * k + 1)).2.2.1 = 1 ∧ (0 < k → (lis (frS w) (nI b) false a0 (2 * k + 1)).2.1 = 1) := by
  intro k
  induction k with
  | zero =>
    have e2 : ¬ (if (frS w 0 - nI b) < 0 then (0 : Int32) else (frS w 0 - nI b)) < 2 := by
      rw [frS_0]; rcases hb with rfl | rfl <;> decide
    refine ⟨?_, fun h => absurd h (by omega)⟩
    show (lisS (frS w) (nI b) false 0 (0, 0, 0, a0)).2.2.1 = 1
    rw [lisS_first (by omega) (by decide) e2 rfl]
  | succ k ih =>
    have e4 : frS w (2 * k + 2) = 4 := frS_ev (by omega) (by omega)
    have e2 : (if (frS w (2 * k + 2) - nI b) < 0 then (0 : Int32) else (frS w (2 * k + 2) - nI b)) < 2 := by
      rw [e4]; rcases hb with rfl | rfl <;> decide
    have e : lis (frS w) (nI b) false a0 (2 * (k + 1) + 1) = lisS (frS w) (nI b) false (2 * k + 2) (lisS (frS w) (nI b) false (2 * k + 1) (lis (frS w) (nI b) false a0 (2 * k + 1))) := rfl
    rw [e, lisS_odd (i := 2 * k + 1) (by omega), lisS_miss (i := 2 * k + 2) (by omega) (Or.inr e2)]
    exact ⟨ih.1, fun _ => rfl⟩
/-- a frame isn't heard: all of it is too weak, or the glare takes its short bursts -/
abbrev frN (gl gn st : Int32) : Prop := st < 11 - gn ∨ 3 ≤ gl * gn / 20
theorem loss_5 : ∀ a, a < 10 → ∀ b, b < 11 → ∃ c, c < 5 ∧ nI a * nI b / 20 = nI c := by
  intro a ha b hb
  have h : ∀ a, a < 10 → ∀ b, b < 11 → (nI a * nI b / 20 = nI 0 ∨ nI a * nI b / 20 = nI 1 ∨ nI a * nI b / 20 = nI 2 ∨ nI a * nI b / 20 = nI 3 ∨ nI a * nI b / 20 = nI 4) := by decide +kernel
  rcases h a ha b hb with e | e | e | e | e
  · exact ⟨0, by omega, e⟩
  · exact ⟨1, by omega, e⟩
  · exact ⟨2, by omega, e⟩
  · exact ⟨3, by omega, e⟩
  · exact ⟨4, by omega, e⟩
/-- light of a frame: missed or not, what it means -/
theorem fr_LO {w a b : Nat} {st : Int32} (hw : w < 512) (hz : z1 w % 2 = 0) (ha : a < 10) (hb : b < 11) : LO (frS w) 21 (nI a) (nI b) st = if frN (nI a) (nI b) st then (1, 1, 0) else (0, 7, w) := by
  obtain ⟨c, hc, e⟩ := loss_5 a ha b hb
  unfold LO frN
  rw [e]
  by_cases h1 : st < 11 - nI b
  · rw [if_pos (Or.inl h1), decide_eq_true h1]
    obtain ⟨e1, e2⟩ := lisN_weak (frS w) (nI c) (fun _ => 0) 21
    unfold mw
    rw [e2 (by omega), e1, dec_1 (by decide) (by decide)]
    rfl
  · rw [decide_eq_false h1]
    by_cases h3 : c < 3
    · obtain ⟨e1, e2⟩ := fr_good h3 hw hz (fun _ => 0)
      rw [e1, e2, if_neg]
      rintro (z | z)
      · exact h1 z
      · exact absurd ((z_le (a := 3) rfl rfl (by omega) (by omega)).mp z) (by omega)
    · obtain ⟨e1, e2⟩ := lis_glare w c (by omega) (fun _ => 0) 10
      unfold mw
      have e3 : (3 : Int32) ≤ nI c := (z_le (a := 3) rfl rfl (by omega) (by omega)).mpr (by omega)
      rw [if_pos (Or.inr e3)]
      show ((lis (frS w) (nI c) false (fun _ => 0) (2 * 10 + 1)).2.1, dec (lis (frS w) (nI c) false (fun _ => 0) (2 * 10 + 1)).2.2.1 _, if (lis (frS w) (nI c) false (fun _ => 0) (2 * 10 + 1)).2.2.1 = 21 then _ else 0) = _
      rw [e2 (by omega), e1, dec_1 (by decide) (by decide)]
      rfl
end FR
