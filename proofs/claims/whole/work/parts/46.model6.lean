/-! ===== the reference's reader over a complete text ===== -/
section MODEL6
def gE (t : zF) (n : Nat) (q : Nat × Int32) : Prop := (q.2 = 0 ∧ q.1 = n ∧ cmT t n) ∨ (q.2 = 1 ∧ Bd t n q.1)
theorem gE_fe {t : zF} {n : Nat} {q : Nat × Int32} (h : gE t n q) : (¬ q.2 = 0 → feP t n q.1) ∧ (q.2 = 0 → feP t n n ∧ cmT t n) := by
  rcases h with h | h
  · exact ⟨fun z => absurd h.1 z, fun _ => ⟨cm_fe h.2.2, h.2.2⟩⟩
  · exact ⟨fun _ => Bd_fe h.2, fun z => absurd (h.1.symm.trans z) (by decide)⟩
theorem gE_no {t : zF} {n : Nat} {q : Nat × Int32} (h : gE t n q) (hc : ¬ cmT t n) : ¬ q.2 = 0 := fun z => hc ((gE_fe h).2 z).2
theorem gE_yes {t : zF} {n : Nat} {q : Nat × Int32} (h : gE t n q) (hc : cmT t n) : q.2 = 0 := by
  rcases h with h | h
  · exact h.1
  · exact absurd hc (Bd_not h.2)
theorem nx_yes {t : zF} {n j : Nat} {x : Int32} (hj : j < n) (h : t j = x) : nxF t n x x (j, 0) := ⟨rfl, hj, by show x ≤ t j; rw [h]; exact Int32.le_refl x, by show t j ≤ x; rw [h]; exact Int32.le_refl x⟩
theorem nx_no {t : zF} {n j : Nat} {w x y : Int32} (h : t j = y) (hxy : ¬ (x ≤ y ∧ y ≤ x)) : ¬ nxF t n x x (j, w) := by
  intro z
  have a : x ≤ t j := z.2.2.1
  have b : t j ≤ x := z.2.2.2
  rw [h] at a b
  exact hxy ⟨a, b⟩
theorem dg_in {x lo hi : Int32} {l b d : Nat} (hl : lo = nI l) (hh : hi = nI b) (hx : x = nI d) (h1 : l ≤ d) (h2 : d ≤ b) (hb : b < 1000) : lo ≤ x ∧ x ≤ hi := by
  subst hl; subst hh; subst hx
  exact ⟨(nI_leI (by omega) (by omega)).mpr h1, (nI_leI (by omega) (by omega)).mpr h2⟩
theorem sgF_ok {t : zF} {n p : Nat} {lo hi : Int32} (hp : p < n) (h : lo ≤ t p ∧ t p ≤ hi) : sgF t n lo hi (p, 0) = (p + 1, 0) := if_pos ⟨rfl, hp, h.1, h.2⟩
theorem sgV_lt {t : zF} {n p : Nat} (hp : p < n) : sgV t n p = t p := if_pos hp
end MODEL6
