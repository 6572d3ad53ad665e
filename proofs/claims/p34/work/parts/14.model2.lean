/-! ===== what light does to the class's state: g its numbers (glare, gain, address, code, toggle, holds, since, presses, received, accepted), f0 the actions, f1 how often done, f2 the refusals ===== -/
section MODEL2
abbrev rmb (g : zF) : Prop := ¬ g 6 = -1 ∧ g 6 ≤ 60
/-- meaning, and the word where there are eleven bursts -/
def mw (q : zL) : Int32 × Nat := (dec q.2.2.1 q.2.2.2, if q.2.2.1 = 21 then wF q.2.2.2 9 else 0)
theorem mw_same {q r : zL} (h : zLq q r) : mw q = mw r := by
  obtain ⟨-, -, e3, e4⟩ := h
  unfold mw
  rw [dec_same e4, e3]
  by_cases hk : r.2.2.1 = 21
  · rw [if_pos hk, if_pos hk, wF_same 9 (fun j hj => e4 j (by omega))]
  · rw [if_neg hk, if_neg hk]
theorem dec_cases (k : Nat) (a : zF) : dec k a = 1 ∨ dec k a = 2 ∨ dec k a = 3 ∨ dec k a = 4 ∨ dec k a = 8 ∨ (dec k a = 7 ∧ k = 21) := by
  unfold dec
  by_cases h1 : k ≠ 3 ∧ k ≠ 21
  · rw [if_pos h1]; simp
  · rw [if_neg h1]
    by_cases h2 : a 0 < 10 ∨ 20 < a 0
    · rw [if_pos h2]; simp
    · rw [if_neg h2]
      by_cases h3 : k = 3
      · rw [if_pos h3]
        by_cases h4 : a 1 ≤ 6
        · rw [if_pos h4]; simp
        · rw [if_neg h4]; simp
      · rw [if_neg h3]
        by_cases h4 : z1 (wF a 9) % 2 = 1
        · rw [if_pos h4]; simp
        · rw [if_neg h4]
          exact Or.inr (Or.inr (Or.inr (Or.inr (Or.inr ⟨rfl, by omega⟩))))
theorem mw_7 {q : zL} (h : (mw q).1 = 7) : (mw q).2 = wF q.2.2.2 9 ∧ (mw q).2 < 512 := by
  have hd := dec_cases q.2.2.1 q.2.2.2
  have h : dec q.2.2.1 q.2.2.2 = 7 := h
  have hk : q.2.2.1 = 21 := by
    rcases hd with e | e | e | e | e | e
    · rw [e] at h; exact absurd h (by decide)
    · rw [e] at h; exact absurd h (by decide)
    · rw [e] at h; exact absurd h (by decide)
    · rw [e] at h; exact absurd h (by decide)
    · rw [e] at h; exact absurd h (by decide)
    · exact e.2
  have e : (mw q).2 = wF q.2.2.2 9 := if_pos hk
  exact ⟨e, by rw [e]; exact wF_lt _ 9⟩
/-- light: was a burst missed, what it means, its word -/
def LO (S : zF) (n : Nat) (gl gn st : Int32) : Int32 × Int32 × Nat :=
  ((lis S (gl * gn / 20) (decide (st < 11 - gn)) (fun _ => 0) n).2.1, mw (lis S (gl * gn / 20) (decide (st < 11 - gn)) (fun _ => 0) n))
theorem LO_same {S S' : zF} {n : Nat} {gl gn st : Int32} (h : ∀ j, j < n → S j = S' j) : LO S n gl gn st = LO S' n gl gn st := by
  have e := lis_same (loss := gl * gn / 20) (wk := decide (st < 11 - gn)) (a0 := fun _ => 0) (a1 := fun _ => 0) n h
  unfold LO
  rw [mw_same e, e.2.1]
theorem LO_of {S a0 : zF} {n : Nat} {gl gn st : Int32} {q : zL} (h : q = lis S (gl * gn / 20) (decide (st < 11 - gn)) a0 n) : LO S n gl gn st = (q.2.1, mw q) := by
  have e := lis_same (g := S) (g' := S) (loss := gl * gn / 20) (wk := decide (st < 11 - gn)) (a0 := fun _ => 0) (a1 := a0) n (fun _ _ => rfl)
  unfold LO
  rw [h, mw_same e, e.2.1]
theorem LO_cases (S : zF) (n : Nat) (gl gn st : Int32) : (LO S n gl gn st).2.1 = 1 ∨ (LO S n gl gn st).2.1 = 2 ∨ (LO S n gl gn st).2.1 = 3 ∨ (LO S n gl gn st).2.1 = 4 ∨ (LO S n gl gn st).2.1 = 8 ∨ (LO S n gl gn st).2.1 = 7 := by
  rcases dec_cases (lis S (gl * gn / 20) (decide (st < 11 - gn)) (fun _ => 0) n).2.2.1 (lis S (gl * gn / 20) (decide (st < 11 - gn)) (fun _ => 0) n).2.2.2 with e | e | e | e | e | e
  · exact Or.inl e
  · exact Or.inr (Or.inl e)
  · exact Or.inr (Or.inr (Or.inl e))
  · exact Or.inr (Or.inr (Or.inr (Or.inl e)))
  · exact Or.inr (Or.inr (Or.inr (Or.inr (Or.inl e))))
  · exact Or.inr (Or.inr (Or.inr (Or.inr (Or.inr e.1))))
theorem LO_lt {S : zF} {n : Nat} {gl gn st : Int32} : (LO S n gl gn st).2.2 < 512 := by
  show (if (lis S (gl * gn / 20) (decide (st < 11 - gn)) (fun _ => 0) n).2.2.1 = 21 then wF (lis S (gl * gn / 20) (decide (st < 11 - gn)) (fun _ => 0) n).2.2.2 9 else 0) < 512
  split
  · exact wF_lt _ 9
  · decide
def gaF (ms gl gn : Int32) : Int32 := if ms = 0 then (if (10 - gl) < (gn + 1) then (10 - gl) else (gn + 1)) else (if (gn - 1) < 1 then 1 else (gn - 1))
def ansF (g : zF) (mn : Int32) (w : Nat) : Int32 :=
  if mn = 8 then (if rmb g then -1 else 6)
  else if ¬ mn = 7 then mn
  else if ¬ nI (w / 64) = g 2 then 5
  else if rmb g ∧ nI (w / 4 % 16) = g 3 ∧ nI (w / 2 % 2) = g 4 then -1 else 0
theorem ansF_8 {g : zF} {mn : Int32} {w : Nat} (h : mn = 8) : ansF g mn w = if rmb g then -1 else 6 := if_pos h
theorem ansF_r {g : zF} {mn : Int32} {w : Nat} (h : ¬ mn = 8) (h2 : ¬ mn = 7) : ansF g mn w = mn := by
  unfold ansF
  rw [if_neg h, if_pos h2]
theorem ansF_5 {g : zF} {mn : Int32} {w : Nat} (h : mn = 7) (h2 : ¬ nI (w / 64) = g 2) : ansF g mn w = 5 := by
  subst h
  unfold ansF
  rw [if_neg (by decide), if_neg (by decide), if_pos h2]
theorem ansF_f {g : zF} {mn : Int32} {w : Nat} (h : mn = 7) (h2 : nI (w / 64) = g 2) : ansF g mn w = if rmb g ∧ nI (w / 4 % 16) = g 3 ∧ nI (w / 2 % 2) = g 4 then -1 else 0 := by
  subst h
  unfold ansF
  rw [if_neg (by decide), if_neg (by decide), if_neg (fun z => z h2)]
/-- the answer is 0 for a frame alone; or -1; or a reason -/
theorem ansF_cases {g : zF} {mn : Int32} (w : Nat) (h : mn = 1 ∨ mn = 2 ∨ mn = 3 ∨ mn = 4 ∨ mn = 8 ∨ mn = 7) : (ansF g mn w = 0 ∧ mn = 7) ∨ (ansF g mn w = -1 ∧ rmb g) ∨ ∃ k : Nat, 1 ≤ k ∧ k ≤ 6 ∧ ansF g mn w = nI k := by
  rcases h with e | e | e | e | e | e
  · exact Or.inr (Or.inr ⟨1, by omega, by omega, by rw [ansF_r (by rw [e]; decide) (by rw [e]; decide), e]; rfl⟩)
  · exact Or.inr (Or.inr ⟨2, by omega, by omega, by rw [ansF_r (by rw [e]; decide) (by rw [e]; decide), e]; rfl⟩)
  · exact Or.inr (Or.inr ⟨3, by omega, by omega, by rw [ansF_r (by rw [e]; decide) (by rw [e]; decide), e]; rfl⟩)
  · exact Or.inr (Or.inr ⟨4, by omega, by omega, by rw [ansF_r (by rw [e]; decide) (by rw [e]; decide), e]; rfl⟩)
  · rw [ansF_8 e]
    by_cases hr : rmb g
    · rw [if_pos hr]; exact Or.inr (Or.inl ⟨rfl, hr⟩)
    · rw [if_neg hr]; exact Or.inr (Or.inr ⟨6, by omega, by omega, rfl⟩)
  · by_cases h2 : nI (w / 64) = g 2
    · rw [ansF_f e h2]
      by_cases h3 : rmb g ∧ nI (w / 4 % 16) = g 3 ∧ nI (w / 2 % 2) = g 4
      · rw [if_pos h3]; exact Or.inr (Or.inl ⟨rfl, h3.1⟩)
      · rw [if_neg h3]; exact Or.inl ⟨rfl, e⟩
    · rw [ansF_5 e h2]; exact Or.inr (Or.inr ⟨5, by omega, by omega, rfl⟩)
def spF (g f0 f1 : zF) (c : Nat) (t : Int32) : zF × zF := (upd (upd (upd (upd g 7 (g 7 + 1)) 5 0) 3 (nI c)) 4 t, if f0 c = 0 then f1 else upd f1 c (f1 c + 1))
def ghF (g f0 f1 : zF) (c : Nat) : zF × zF := (upd g 5 (g 5 + 1), if f0 c = 2 ∧ (g 5 + 1) - (g 5 + 1) / 2 * 2 = 0 then upd f1 c (f1 c + 1) else f1)
def accF (g f0 f1 : zF) (r : Int32) (c : Nat) (t : Int32) : zF × zF := if r = 0 then spF (upd (upd g 9 (g 9 + 1)) 6 0) f0 f1 c t else ghF (upd (upd g 9 (g 9 + 1)) 6 0) f0 f1 c
/-- light received: the answer, the numbers, how often done, the refusals; c: the code that stood there -/
def hearF (g f0 f1 f2 : zF) (c : Nat) (o : Int32 × Int32 × Nat) : Int32 × zF × zF × zF :=
  if ansF g o.2.1 o.2.2 = 0 ∨ ansF g o.2.1 o.2.2 = -1 then
    (ansF g o.2.1 o.2.2, (accF (upd (upd g 8 (g 8 + 1)) 1 (gaF o.1 (g 0) (g 1))) f0 f1 (ansF g o.2.1 o.2.2) (if ansF g o.2.1 o.2.2 = 0 then o.2.2 / 4 % 16 else c) (nI (o.2.2 / 2 % 2))).1,
      (accF (upd (upd g 8 (g 8 + 1)) 1 (gaF o.1 (g 0) (g 1))) f0 f1 (ansF g o.2.1 o.2.2) (if ansF g o.2.1 o.2.2 = 0 then o.2.2 / 4 % 16 else c) (nI (o.2.2 / 2 % 2))).2, f2)
  else (ansF g o.2.1 o.2.2, upd (upd g 8 (g 8 + 1)) 1 (gaF o.1 (g 0) (g 1)), f1, upd f2 (ansF g o.2.1 o.2.2).toNatClampNeg (f2 (ansF g o.2.1 o.2.2).toNatClampNeg + 1))
/-- the ear: its fields; what was sent; what is left -/
abbrev zE : Type := (Int32 × Int32 × Int32 × Int32) × (Nat × zF) × (Nat × zF)
abbrev okE (E : zE) : Prop := E.2.1.1 ≤ 30 ∧ E.2.2.1 ≤ 30
theorem accF_h {g f0 f1 : zF} {r : Int32} {c : Nat} {t t' : Int32} (h : r = 0 → t = t') : accF g f0 f1 r c t = accF g f0 f1 r c t' := by
  unfold accF
  by_cases hr : r = 0
  · rw [if_pos hr, if_pos hr, h hr]
  · rw [if_neg hr, if_neg hr]
theorem hearF_acc {g f0 f1 f2 : zF} {c : Nat} {o : Int32 × Int32 × Nat} {r k3 : Int32} (ha : r = ansF g o.2.1 o.2.2) (hr : r = 0 ∨ r = -1) (hk : r = 0 → k3 = nI (o.2.2 / 2 % 2)) :
    (r, (accF (upd (upd g 8 (g 8 + 1)) 1 (gaF o.1 (g 0) (g 1))) f0 f1 r (if r = 0 then o.2.2 / 4 % 16 else c) k3).1, (accF (upd (upd g 8 (g 8 + 1)) 1 (gaF o.1 (g 0) (g 1))) f0 f1 r (if r = 0 then o.2.2 / 4 % 16 else c) k3).2, f2) = hearF g f0 f1 f2 c o := by
  unfold hearF
  rw [← ha, if_pos hr, accF_h hk]
theorem hearF_ref {g f0 f1 f2 : zF} {c : Nat} {o : Int32 × Int32 × Nat} {r : Int32} {k : Nat} (ha : r = ansF g o.2.1 o.2.2) (hr : ¬ (r = 0 ∨ r = -1)) (hk : r = nI k) (hk6 : k ≤ 6) :
    (r, upd (upd g 8 (g 8 + 1)) 1 (gaF o.1 (g 0) (g 1)), f1, upd f2 k (f2 k + 1)) = hearF g f0 f1 f2 c o := by
  unfold hearF
  rw [← ha, if_neg hr, hk, nI_clamp (by omega)]
end MODEL2

