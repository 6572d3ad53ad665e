/-! ===== a light text's parts; what each does; the reference's reader ===== -/
section MODEL5
theorem dg_of {x lo hi : Int32} {a b : Nat} (hl : lo = nI a) (hh : hi = nI b) (hab : a ≤ b) (hb : b < 1000) (h1 : lo ≤ x) (h2 : x ≤ hi) : ∃ d, a + d ≤ b ∧ x = nI (a + d) := by
  subst hl; subst hh
  have h0 : ¬ x < 0 := by
    intro z
    have z1 := Int32.lt_iff_toInt_lt.mp z
    have e := Int32.le_iff_toInt_le.mp h1
    rw [nI_toInt (by omega)] at e
    have e0 : (0 : Int32).toInt = 0 := by decide
    omega
  obtain ⟨j, hj, e⟩ := nI_of2 (nI_toInt (n := b) (by omega)) h0 h2
  rw [e] at h1
  have := (nI_leI (by omega) (by omega)).mp h1
  exact ⟨j - a, by omega, by rw [show a + (j - a) = j by omega]; exact e⟩
theorem eq_of {x k : Int32} (h1 : k ≤ x) (h2 : x ≤ k) : x = k := Int32.le_antisymm h2 h1
/-- the reference's sign, isNext: place and whether something is wrong -/
def sgF (t : zF) (n : Nat) (lo hi : Int32) (q : Nat × Int32) : Nat × Int32 := if q.2 = 0 ∧ q.1 < n ∧ lo ≤ t q.1 ∧ t q.1 ≤ hi then (q.1 + 1, 0) else (q.1, 1)
def sgV (t : zF) (n p : Nat) : Int32 := if p < n then t p else 0
/-- the first wrong sign stands at p -/
def Bd (t : zF) (n p : Nat) : Prop := p ≤ n ∧ ¬ psT t p = 9 ∧ ((p = n ∧ ¬ cmT t n) ∨ (p < n ∧ psT t (p + 1) = 9))
theorem Bd_not {t : zF} {n p : Nat} (h : Bd t n p) : ¬ cmT t n := by
  obtain ⟨h1, h2, h3 | h3⟩ := h
  · exact h3.2
  · have e := psT_9 t (p + 1) h3.2 (n - (p + 1))
    rw [show p + 1 + (n - (p + 1)) = n by omega] at e
    intro z
    rcases z with z | z <;> rw [e] at z <;> exact absurd z (by decide)
theorem Bd_fe {t : zF} {n p : Nat} (h : Bd t n p) : feP t n p := ⟨h.2.1, h.2.2.elim (fun z => Or.inl z.1) (fun z => Or.inr z)⟩
theorem cm_fe {t : zF} {n : Nat} (h : cmT t n) : feP t n n := ⟨fun z => by rcases h with h | h <;> rw [z] at h <;> exact absurd h (by decide), Or.inl rfl⟩
def Iv (t : zF) (n : Nat) (Q : Nat → Prop) (q : Nat × Int32) : Prop := (q.2 = 0 ∧ q.1 ≤ n ∧ Q q.1) ∨ (q.2 = 1 ∧ Bd t n q.1)
theorem sg_gen {t : zF} {n : Nat} {lo hi : Int32} {Q Q' : Nat → Prop} {q : Nat × Int32} (h : Iv t n Q q)
    (hin : q.1 < n → Q q.1 → lo ≤ t q.1 → t q.1 ≤ hi → Q' (q.1 + 1))
    (hout : q.1 < n → Q q.1 → ¬ (lo ≤ t q.1 ∧ t q.1 ≤ hi) → psT t (q.1 + 1) = 9)
    (hq : Q q.1 → ¬ psT t q.1 = 9 ∧ (q.1 = n → ¬ cmT t n)) : Iv t n Q' (sgF t n lo hi q) := by
  unfold sgF
  by_cases hc : q.2 = 0 ∧ q.1 < n ∧ lo ≤ t q.1 ∧ t q.1 ≤ hi
  · rw [if_pos hc]
    rcases h with ⟨_, h2, h3⟩ | ⟨h1, _⟩
    · exact Or.inl ⟨rfl, hc.2.1, hin hc.2.1 h3 hc.2.2.1 hc.2.2.2⟩
    · rw [hc.1] at h1; exact absurd h1 (by decide)
  · rw [if_neg hc]
    rcases h with ⟨h1, h2, h3⟩ | ⟨h1, h2⟩
    · refine Or.inr ⟨rfl, h2, (hq h3).1, ?_⟩
      by_cases hn : q.1 < n
      · exact Or.inr ⟨hn, hout hn h3 (fun z => hc ⟨h1, hn, z.1, z.2⟩)⟩
      · have e : q.1 = n := by omega
        exact Or.inl ⟨e, (hq h3).2 e⟩
    · exact Or.inr ⟨rfl, h2⟩
theorem sg_step {t : zF} {n j a r : Nat} {lo hi : Int32} {q : Nat × Int32} (h : Iv t n (fun p => j < p ∧ psT t p = a) q) (h9 : ¬ a = 9) (h8 : ¬ a = 8) (h6 : ¬ a = 6)
    (hin : ∀ x, lo ≤ x → x ≤ hi → plA a x = r) (hout : ∀ x, ¬ (lo ≤ x ∧ x ≤ hi) → plA a x = 9) : Iv t n (fun p => j < p ∧ psT t p = r) (sgF t n lo hi q) :=
  sg_gen h (fun _ h2 h3 h4 => ⟨Nat.lt_succ_of_lt h2.1, by show plA (psT t q.1) (t q.1) = r; rw [h2.2]; exact hin _ h3 h4⟩)
    (fun _ h2 h3 => by show plA (psT t q.1) (t q.1) = 9; rw [h2.2]; exact hout _ h3)
    (fun h2 => ⟨fun z => h9 (h2.2.symm.trans z), fun e z => by rw [← e] at z; exact z.elim (fun z => h8 (h2.2.symm.trans z)) (fun z => h6 (h2.2.symm.trans z))⟩)
theorem sg_2 {t : zF} {n j : Nat} {q : Nat × Int32} (h : Iv t n (fun p => j < p ∧ psT t p = 2) q) : Iv t n (fun p => j < p ∧ psT t p = 4) (sgF t n 48 57 q) :=
  sg_step h (by decide) (by decide) (by decide) (fun x h1 h2 => (plA_2 x).trans (if_pos ⟨h1, h2⟩)) (fun x h1 => (plA_2 x).trans (if_neg h1))
theorem sg_3 {t : zF} {n j : Nat} {q : Nat × Int32} (h : Iv t n (fun p => j < p ∧ psT t p = 3) q) : Iv t n (fun p => j < p ∧ psT t p = 4) (sgF t n 48 53 q) :=
  sg_step h (by decide) (by decide) (by decide) (fun x h1 h2 => (plA_3 x).trans (if_pos ⟨h1, h2⟩)) (fun x h1 => (plA_3 x).trans (if_neg h1))
theorem sg_4 {t : zF} {n j : Nat} {q : Nat × Int32} (h : Iv t n (fun p => j < p ∧ psT t p = 4) q) : Iv t n (fun p => j < p ∧ psT t p = 8) (sgF t n 48 49 q) :=
  sg_step h (by decide) (by decide) (by decide) (fun x h1 h2 => (plA_4 x).trans (if_pos ⟨h1, h2⟩)) (fun x h1 => (plA_4 x).trans (if_neg h1))
theorem sg_5 {t : zF} {n j : Nat} {q : Nat × Int32} (h : Iv t n (fun p => j < p ∧ psT t p = 5) q) : Iv t n (fun p => j < p ∧ psT t p = 6) (sgF t n 49 57 q) :=
  sg_step h (by decide) (by decide) (by decide) (fun x h1 h2 => (plA_5 x).trans (if_pos ⟨h1, h2⟩)) (fun x h1 => (plA_5 x).trans (if_neg h1))
theorem sg_7 {t : zF} {n j : Nat} {q : Nat × Int32} (h : Iv t n (fun p => j < p ∧ psT t p = 7) q) : Iv t n (fun p => j < p ∧ psT t p = 8) (sgF t n 48 57 q) :=
  sg_step h (by decide) (by decide) (by decide) (fun x h1 h2 => (plA_7 x).trans (if_pos ⟨h1, h2⟩)) (fun x h1 => (plA_7 x).trans (if_neg h1))
theorem plA_1o {x : Int32} (h : ¬ (48 ≤ x ∧ x ≤ 49)) : plA 1 x = 9 := by
  rw [plA_1, if_neg, if_neg]
  · intro z; subst z; exact h (by decide)
  · intro z; subst z; exact h (by decide)
theorem sg_1a {t : zF} {n j : Nat} {q : Nat × Int32} (h : Iv t n (fun p => j < p ∧ psT t p = 1) q) (hv : sgV t n q.1 - 48 = 1) : Iv t n (fun p => j < p ∧ psT t p = 3) (sgF t n 48 49 q) := by
  refine sg_gen h (fun h1 h2 h3 h4 => ⟨Nat.lt_succ_of_lt h2.1, ?_⟩) (fun _ h2 h3 => by show plA (psT t q.1) (t q.1) = 9; rw [h2.2]; exact plA_1o h3)
    (fun h2 => ⟨fun z => absurd (h2.2.symm.trans z) (by decide), fun e z => by rw [← e] at z; exact z.elim (fun z => absurd (h2.2.symm.trans z) (by decide)) (fun z => absurd (h2.2.symm.trans z) (by decide))⟩)
  show plA (psT t q.1) (t q.1) = 3
  rw [h2.2]
  have e : sgV t n q.1 = t q.1 := if_pos h1
  rw [e] at hv
  obtain ⟨d, hd, hx⟩ := dg_of (a := 48) (b := 49) rfl rfl (by omega) (by omega) h3 h4
  rw [hx] at hv ⊢
  rcases (show d = 0 ∨ d = 1 by omega) with rfl | rfl
  · exact absurd hv (by decide)
  · rfl
theorem sg_1b {t : zF} {n j : Nat} {q : Nat × Int32} (h : Iv t n (fun p => j < p ∧ psT t p = 1) q) (hv : ¬ sgV t n q.1 - 48 = 1) : Iv t n (fun p => j < p ∧ psT t p = 2) (sgF t n 48 49 q) := by
  refine sg_gen h (fun h1 h2 h3 h4 => ⟨Nat.lt_succ_of_lt h2.1, ?_⟩) (fun _ h2 h3 => by show plA (psT t q.1) (t q.1) = 9; rw [h2.2]; exact plA_1o h3)
    (fun h2 => ⟨fun z => absurd (h2.2.symm.trans z) (by decide), fun e z => by rw [← e] at z; exact z.elim (fun z => absurd (h2.2.symm.trans z) (by decide)) (fun z => absurd (h2.2.symm.trans z) (by decide))⟩)
  show plA (psT t q.1) (t q.1) = 2
  rw [h2.2]
  have e : sgV t n q.1 = t q.1 := if_pos h1
  rw [e] at hv
  obtain ⟨d, hd, hx⟩ := dg_of (a := 48) (b := 49) rfl rfl (by omega) (by omega) h3 h4
  rw [hx] at hv ⊢
  rcases (show d = 0 ∨ d = 1 by omega) with rfl | rfl
  · rfl
  · exact absurd (by decide) hv
abbrev nxF (t : zF) (n : Nat) (lo hi : Int32) (q : Nat × Int32) : Prop := q.2 = 0 ∧ q.1 < n ∧ lo ≤ t q.1 ∧ t q.1 ≤ hi
theorem sg_0 {t : zF} {n j : Nat} (hj : j ≤ n) (h0 : psT t j = 0) (h1 : ¬ nxF t n 102 102 (j, 0)) (h2 : ¬ nxF t n 114 114 (j, 0)) (h3 : ¬ nxF t n 116 116 (j, 0)) : Iv t n (fun p => j < p ∧ psT t p = 7) (sgF t n 103 103 (j, 0)) := by
  refine sg_gen (Q := fun p => p = j) (Or.inl ⟨rfl, hj, rfl⟩) (fun a1 a2 a3 a4 => ⟨Nat.lt_succ_self j, ?_⟩) (fun a1 a2 a3 => ?_)
    (fun _ => ⟨fun z => absurd (h0.symm.trans z) (by decide), fun e z => ?_⟩)
  · show plA (psT t j) (t j) = 7
    rw [h0, eq_of a3 a4]; rfl
  · show plA (psT t j) (t j) = 9
    rw [h0]
    have b0 : (102 : Int32) ≤ 102 := by decide
    have b1 : (114 : Int32) ≤ 114 := by decide
    have b2 : (116 : Int32) ≤ 116 := by decide
    have b3 : (103 : Int32) ≤ 103 := by decide
    refine plA_0n (fun z => h1 ⟨rfl, a1, ?_, ?_⟩) (fun z => a3 ⟨?_, ?_⟩) (fun z => h2 ⟨rfl, a1, ?_, ?_⟩) (fun z => h3 ⟨rfl, a1, ?_, ?_⟩)
    all_goals (show _ ≤ _; first | (rw [z]; assumption) | (rw [show t (j, (0 : Int32)).1 = t j from rfl, z]; assumption))
  · have e : j = n := e
    rw [← e] at z
    rcases z with z | z
    · exact absurd (h0.symm.trans z) (by decide)
    · exact absurd (h0.symm.trans z) (by decide)
/-- a part has been read -/
def peE (t : zF) (n p : Nat) : Prop := psT t p = 8 ∨ (psT t p = 6 ∧ ¬ (p < n ∧ 48 ≤ t p ∧ t p ≤ 57))
theorem peE_9 {t : zF} {n p : Nat} (h : peE t n p) : ¬ psT t p = 9 := fun z => h.elim (fun a => absurd (a.symm.trans z) (by decide)) (fun a => absurd (a.1.symm.trans z) (by decide))
theorem sg_end {t : zF} {n j p : Nat} (hp : j < p) (h : peE t n p) (hn : p < n) : Iv t n (fun p => j + 1 < p ∧ psT t p = 0) (sgF t n 59 59 (p, 0)) := by
  refine sg_gen (Q := fun q => q = p) (Or.inl ⟨rfl, Nat.le_of_lt hn, rfl⟩) (fun a1 a2 a3 a4 => ⟨Nat.succ_lt_succ hp, ?_⟩) (fun a1 a2 a3 => ?_) (fun _ => ⟨peE_9 h, fun e => absurd e (Nat.ne_of_lt hn)⟩)
  · show plA (psT t p) (t p) = 0
    rw [eq_of a3 a4]
    rcases h with h | h
    · rw [h]; rfl
    · rw [h.1]; rfl
  · show plA (psT t p) (t p) = 9
    have hx : ¬ t p = 59 := by
      intro z
      exact a3 (by show 59 ≤ t p ∧ t p ≤ 59; rw [z]; decide)
    rcases h with h | h
    · rw [h, plA_8, if_neg hx]
    · rw [h.1, plA_6, if_neg (fun z => h.2 ⟨hn, z.1, z.2⟩), if_neg hx]
/-- where the part that begins at j ends -/
def peT (t : zF) (n j : Nat) : Nat := if t j = 102 then j + 4 else if t j = 114 then j + 1 else if t j = 116 then (if j + 2 < n ∧ 48 ≤ t (j + 2) ∧ t (j + 2) ≤ 57 then j + 3 else j + 2) else j + 2
def pjT (t : zF) (n : Nat) : Nat → Nat
  | 0 => 0
  | k + 1 => peT t n (pjT t n k) + 1
def dgN (t : zF) (i : Nat) : Nat := (t i - 48).toNatClampNeg
theorem dgN_of {t : zF} {i d : Nat} (h : t i = nI (48 + d)) (hd : d < 100) : dgN t i = d := by
  unfold dgN
  rw [h, show nI (48 + d) - 48 = nI (48 + d - 48) from pk_sub (a := 48 + d) (b := 48) (by omega), nI_clamp (by omega)]
  omega
theorem dgI {x : Int32} {d : Nat} (h : x = nI (48 + d)) : x - 48 = nI d := by
  rw [h, show nI (48 + d) - 48 = nI (48 + d - 48) from pk_sub (a := 48 + d) (b := 48) (by omega), show 48 + d - 48 = d by omega]
theorem nuT_1 {t : zF} {a d : Nat} (h : t a = nI (48 + d)) : nuT t a 1 = nI d := by
  show 10 * 0 + t (a + 0) - 48 = nI d
  rw [show (10 * 0 : Int32) = 0 by decide, Int32.zero_add]
  exact dgI h
theorem dgI2 {x y : Int32} {d1 d2 : Nat} (h1 : x = nI d1) (h2 : y = nI (48 + d2)) : 10 * x + y - 48 = nI (10 * d1 + d2) := by
  rw [h1, h2, show 10 * nI d1 = nI (10 * d1) from pk_mul 10 d1, nI_add, show nI (10 * d1 + (48 + d2)) - 48 = nI (10 * d1 + (48 + d2) - 48) from pk_sub (a := 10 * d1 + (48 + d2)) (b := 48) (by omega), show 10 * d1 + (48 + d2) - 48 = 10 * d1 + d2 by omega]
theorem nuT_2 {t : zF} {a d1 d2 : Nat} (h1 : t a = nI (48 + d1)) (h2 : t (a + 1) = nI (48 + d2)) : nuT t a 2 = nI (10 * d1 + d2) := dgI2 (nuT_1 h1) h2
def tkN (t : zF) (n j : Nat) : Nat := if peT t n j = j + 3 then 10 * dgN t (j + 1) + dgN t (j + 2) else dgN t (j + 1)
/-- what a complete text's part looks like -/
def ptK (t : zF) (n j e : Nat) : Prop :=
  (t j = 102 ∧ e = j + 4 ∧ ∃ d1 d2 d3, t (j + 1) = nI (48 + d1) ∧ t (j + 2) = nI (48 + d2) ∧ t (j + 3) = nI (48 + d3) ∧ d1 < 2 ∧ d2 < 10 ∧ 10 * d1 + d2 < 16 ∧ d3 < 2) ∨
  (t j = 114 ∧ e = j + 1) ∨
  (t j = 116 ∧ ∃ d1, t (j + 1) = nI (48 + d1) ∧ 1 ≤ d1 ∧ d1 ≤ 9 ∧ ((e = j + 2 ∧ ¬ (j + 2 < n ∧ 48 ≤ t (j + 2) ∧ t (j + 2) ≤ 57)) ∨ (e = j + 3 ∧ j + 2 < n ∧ ∃ d2, d2 ≤ 9 ∧ t (j + 2) = nI (48 + d2)))) ∨
  (t j = 103 ∧ e = j + 2 ∧ ∃ d1, d1 ≤ 9 ∧ t (j + 1) = nI (48 + d1))
theorem no59 {t : zF} {i d : Nat} (h : t i = nI (48 + d)) (hd : d ≤ 9) : ¬ t i = 59 := by
  rw [h]
  intro z
  have := (nI_eq (a := 48 + d) (b := 59) (by omega) (by omega)).mp z
  omega
section
variable {t : zF} {n : Nat}
theorem cm_lt {j q : Nat} (hc : cmT t n) (hj : j ≤ n) (h0 : psT t j = q) (h8 : ¬ q = 8) (h6 : ¬ q = 6) : j < n := by
  rcases Nat.lt_or_eq_of_le hj with h | h
  · exact h
  · rw [← h] at hc
    rcases hc with z | z
    · exact absurd (h0.symm.trans z) h8
    · exact absurd (h0.symm.trans z) h6
theorem cm_n9 (hc : cmT t n) {i : Nat} (hi : i ≤ n) : ¬ psT t i = 9 := psT_ok (fun z => by rcases hc with h | h <;> rw [z] at h <;> exact absurd h (by decide)) hi
theorem cm_st {j q : Nat} (hc : cmT t n) (hj : j < n) (h0 : psT t j = q) : ¬ plA q (t j) = 9 := by
  have := cm_n9 hc (i := j + 1) hj
  rw [← h0]
  exact this
theorem cm_af {e : Nat} (hc : cmT t n) (he : e < n) (h : peE t n e) : t e = 59 ∧ psT t (e + 1) = 0 := by
  have h9 := cm_n9 hc (i := e + 1) he
  have h9 : ¬ plA (psT t e) (t e) = 9 := h9
  rcases h with h | h
  · rw [h, plA_8] at h9
    by_cases hx : t e = 59
    · exact ⟨hx, by show plA (psT t e) (t e) = 0; rw [h, hx]; rfl⟩
    · rw [if_neg hx] at h9; exact absurd rfl h9
  · rw [h.1, plA_6, if_neg (fun z => h.2 ⟨he, z.1, z.2⟩)] at h9
    by_cases hx : t e = 59
    · exact ⟨hx, by show plA (psT t e) (t e) = 0; rw [h.1, hx]; rfl⟩
    · rw [if_neg hx] at h9; exact absurd rfl h9
/-- a digit, where one must stand -/
theorem cm_dg {j q r : Nat} {lo hi : Int32} {a b : Nat} (hc : cmT t n) (hj : j ≤ n) (h0 : psT t j = q) (h8 : ¬ q = 8) (h6 : ¬ q = 6) (hl : lo = nI a) (hh : hi = nI b) (hab : a ≤ b) (hb : b < 1000)
    (hp : ∀ x, plA q x = if lo ≤ x ∧ x ≤ hi then r else 9) : j < n ∧ (∃ d, a + d ≤ b ∧ t j = nI (a + d)) ∧ psT t (j + 1) = r := by
  have h1 := cm_lt hc hj h0 h8 h6
  have h2 := cm_st hc h1 h0
  rw [hp] at h2
  by_cases hx : lo ≤ t j ∧ t j ≤ hi
  · refine ⟨h1, dg_of hl hh hab hb hx.1 hx.2, ?_⟩
    show plA (psT t j) (t j) = r
    rw [h0, hp, if_pos hx]
  · rw [if_neg hx] at h2
    exact absurd rfl h2
theorem cm_part {j : Nat} (hc : cmT t n) (hj : j ≤ n) (h0 : psT t j = 0) : ∃ e, e = peT t n j ∧ j < e ∧ e ≤ n ∧ (∀ i, j ≤ i → i < e → ¬ t i = 59) ∧ peE t n e ∧ ptK t n j e := by
  have h1 := cm_lt hc hj h0 (by decide) (by decide)
  have h2 := cm_st hc h1 h0
  by_cases hf : t j = 102
  · have p1 : psT t (j + 1) = 1 := by show plA (psT t j) (t j) = 1; rw [h0, hf]; rfl
    have h3 := cm_lt hc h1 p1 (by decide) (by decide)
    have h4 := cm_st hc h3 p1
    have hd1 : ∃ d1, d1 < 2 ∧ t (j + 1) = nI (48 + d1) ∧ psT t (j + 2) = 2 + d1 := by
      by_cases x0 : t (j + 1) = 48
      · exact ⟨0, by omega, x0, by show plA (psT t (j + 1)) (t (j + 1)) = 2; rw [p1, x0]; rfl⟩
      · by_cases x1 : t (j + 1) = 49
        · exact ⟨1, by omega, x1, by show plA (psT t (j + 1)) (t (j + 1)) = 3; rw [p1, x1]; rfl⟩
        · rw [plA_1, if_neg x0, if_neg x1] at h4; exact absurd rfl h4
    obtain ⟨d1, hd1, e1, p2⟩ := hd1
    have hd2 : j + 2 < n ∧ (∃ d2, d2 < 10 ∧ 10 * d1 + d2 < 16 ∧ t (j + 2) = nI (48 + d2)) ∧ psT t (j + 3) = 4 := by
      rcases (show d1 = 0 ∨ d1 = 1 by omega) with rfl | rfl
      · obtain ⟨a1, ⟨d, a2, a3⟩, a4⟩ := cm_dg (a := 48) (b := 57) hc h3 p2 (by decide) (by decide) rfl rfl (by omega) (by omega) plA_2
        exact ⟨a1, ⟨d, by omega, by omega, a3⟩, a4⟩
      · obtain ⟨a1, ⟨d, a2, a3⟩, a4⟩ := cm_dg (a := 48) (b := 53) hc h3 p2 (by decide) (by decide) rfl rfl (by omega) (by omega) plA_3
        exact ⟨a1, ⟨d, by omega, by omega, a3⟩, a4⟩
    obtain ⟨h5, ⟨d2, hd2, hd12, e2⟩, p3⟩ := hd2
    obtain ⟨h6, ⟨d3, hd3, e3⟩, p4⟩ := cm_dg (a := 48) (b := 49) hc h5 p3 (by decide) (by decide) rfl rfl (by omega) (by omega) plA_4
    refine ⟨j + 4, by unfold peT; rw [if_pos hf], by omega, h6, fun i hi1 hi2 => ?_, Or.inl p4, Or.inl ⟨hf, rfl, d1, d2, d3, e1, e2, e3, hd1, hd2, hd12, by omega⟩⟩
    rcases (show i = j ∨ i = j + 1 ∨ i = j + 2 ∨ i = j + 3 by omega) with rfl | rfl | rfl | rfl
    · rw [hf]; decide
    · exact no59 e1 (by omega)
    · exact no59 e2 (by omega)
    · exact no59 e3 (by omega)
  · by_cases hr : t j = 114
    · have p1 : psT t (j + 1) = 8 := by show plA (psT t j) (t j) = 8; rw [h0, hr]; rfl
      refine ⟨j + 1, by unfold peT; rw [if_neg hf, if_pos hr], by omega, h1, fun i hi1 hi2 => ?_, Or.inl p1, Or.inr (Or.inl ⟨hr, rfl⟩)⟩
      rw [show i = j by omega, hr]; decide
    · by_cases ht : t j = 116
      · have p1 : psT t (j + 1) = 5 := by show plA (psT t j) (t j) = 5; rw [h0, ht]; rfl
        obtain ⟨h3, ⟨d, hd, e1⟩, p2⟩ := cm_dg (a := 49) (b := 57) hc h1 p1 (by decide) (by decide) rfl rfl (by omega) (by omega) plA_5
        have e1' : t (j + 1) = nI (48 + (d + 1)) := by rw [e1]; congr 1; omega
        by_cases hx : j + 2 < n ∧ 48 ≤ t (j + 2) ∧ t (j + 2) ≤ 57
        · obtain ⟨d2, hd2, e2⟩ := dg_of (a := 48) (b := 57) rfl rfl (by omega) (by omega) hx.2.1 hx.2.2
          have p3 : psT t (j + 3) = 8 := by show plA (psT t (j + 2)) (t (j + 2)) = 8; rw [p2, plA_6, if_pos hx.2]
          refine ⟨j + 3, by unfold peT; rw [if_neg hf, if_neg hr, if_pos ht, if_pos hx], by omega, hx.1, fun i hi1 hi2 => ?_, Or.inl p3, Or.inr (Or.inr (Or.inl ⟨ht, d + 1, e1', by omega, by omega, Or.inr ⟨rfl, hx.1, d2, by omega, e2⟩⟩))⟩
          rcases (show i = j ∨ i = j + 1 ∨ i = j + 2 by omega) with rfl | rfl | rfl
          · rw [ht]; decide
          · exact no59 e1' (by omega)
          · exact no59 e2 (by omega)
        · refine ⟨j + 2, by unfold peT; rw [if_neg hf, if_neg hr, if_pos ht, if_neg hx], by omega, h3, fun i hi1 hi2 => ?_, Or.inr ⟨p2, hx⟩, Or.inr (Or.inr (Or.inl ⟨ht, d + 1, e1', by omega, by omega, Or.inl ⟨rfl, hx⟩⟩))⟩
          rcases (show i = j ∨ i = j + 1 by omega) with rfl | rfl
          · rw [ht]; decide
          · exact no59 e1' (by omega)
      · by_cases hg : t j = 103
        · have p1 : psT t (j + 1) = 7 := by show plA (psT t j) (t j) = 7; rw [h0, hg]; rfl
          obtain ⟨h3, ⟨d, hd, e1⟩, p2⟩ := cm_dg (a := 48) (b := 57) hc h1 p1 (by decide) (by decide) rfl rfl (by omega) (by omega) plA_7
          refine ⟨j + 2, by unfold peT; rw [if_neg hf, if_neg hr, if_neg ht], by omega, h3, fun i hi1 hi2 => ?_, Or.inl p2, Or.inr (Or.inr (Or.inr ⟨hg, rfl, d, by omega, e1⟩))⟩
          rcases (show i = j ∨ i = j + 1 by omega) with rfl | rfl
          · rw [hg]; decide
          · exact no59 e1 (by omega)
        · exact absurd (plA_0n hf hg hr ht) h2
theorem pj_ok (hc : cmT t n) : ∀ k, (∀ i, i < k → peT t n (pjT t n i) < n) → pjT t n k ≤ n ∧ psT t (pjT t n k) = 0 := by
  intro k
  induction k with
  | zero => intro _; exact ⟨Nat.zero_le n, rfl⟩
  | succ k ih =>
    intro h
    obtain ⟨a1, a2⟩ := ih (fun i hi => h i (by omega))
    obtain ⟨e, b1, b2, b3, b4, b5, b6⟩ := cm_part hc a1 a2
    have hk := h k (by omega)
    rw [← b1] at hk
    have := cm_af hc hk b5
    show peT t n (pjT t n k) + 1 ≤ n ∧ psT t (peT t n (pjT t n k) + 1) = 0
    rw [← b1]
    exact ⟨hk, this.2⟩
theorem pj_one {k j : Nat} (h1 : peT t n (pjT t n k) = n) (h2 : ∀ i, i < k → peT t n (pjT t n i) < n) (h3 : peT t n (pjT t n j) = n) (h4 : ∀ i, i < j → peT t n (pjT t n i) < n) : k = j := by
  rcases Nat.lt_trichotomy k j with h | h | h
  · have := h4 k h; omega
  · exact h
  · have := h2 j h; omega
end
/-- what a part does: to the class's numbers, how often done, refusals -/
def ptC (t : zF) (n : Nat) (f0 : zF) (j : Nat) (q : zF × zF × zF) : zF × zF × zF :=
  if t j = 102 then (hearF q.1 f0 q.2.1 q.2.2 (q.1 3).toNatClampNeg (LO (frS (wd 0 (10 * dgN t (j + 1) + dgN t (j + 2)) (dgN t (j + 3)))) 21 (q.1 0) (q.1 1) 10)).2
  else if t j = 114 then (hearF q.1 f0 q.2.1 q.2.2 (q.1 3).toNatClampNeg (LO rpS 3 (q.1 0) (q.1 1) 10)).2
  else if t j = 116 then (if q.1 6 = -1 then q.1 else upd q.1 6 (q.1 6 + nI (tkN t n j)), q.2)
  else (upd q.1 0 (nI (dgN t (j + 1))), q.2)
def stC (t : zF) (n : Nat) (f0 : zF) (q : zF × zF × zF) : Nat → zF × zF × zF
  | 0 => q
  | k + 1 => ptC t n f0 (pjT t n k) (stC t n f0 q k)
/-- to the reference's -/
def ptR (t : zF) (n j : Nat) (s : zF) : zF :=
  if t j = 102 then (geR s (s 3).toNatClampNeg (LO (frS (wd 0 (10 * dgN t (j + 1) + dgN t (j + 2)) (dgN t (j + 3)))) 21 (s 0) (s 1) 10)).2
  else if t j = 114 then (geR s (s 3).toNatClampNeg (LO rpS 3 (s 0) (s 1) 10)).2
  else if t j = 116 then paR s (nI (tkN t n j))
  else upd s 0 (nI (dgN t (j + 1)))
def stR (t : zF) (n : Nat) (s : zF) : Nat → zF
  | 0 => s
  | k + 1 => ptR t n (pjT t n k) (stR t n s k)
/-- the part that is the last -/
def lastP (t : zF) (n k : Nat) : Prop := peT t n (pjT t n k) = n ∧ ∀ i, i < k → peT t n (pjT t n i) < n
theorem lastP_one {t : zF} {n k j : Nat} (h1 : lastP t n k) (h2 : lastP t n j) : k = j := pj_one h1.1 h1.2 h2.1 h2.2
abbrev okg (g : zF) : Prop := g 3 = nI (g 3).toNatClampNeg ∧ (g 3).toNatClampNeg < 16
abbrev okR (s : zF) : Prop := (0 ≤ (s 0 * s 1 / 20).toInt ∧ (s 0 * s 1 / 20).toInt ≤ 1000) ∧ (0 ≤ s 3 → s 3 = nI (s 3).toNatClampNeg) ∧ (s 3).toNatClampNeg < 16
theorem okg_of {g : zF} {c : Nat} (h : g 3 = nI c) (hc : c < 16) : okg g := by
  have e : (g 3).toNatClampNeg = c := by rw [h]; exact nI_clamp (by omega)
  exact ⟨by rw [e]; exact h, by omega⟩
theorem okg_same {g g' : zF} (h : g' 3 = g 3) (ho : okg g) : okg g' := by
  unfold okg
  rw [h]
  exact ho
theorem okg_hear {g f0 f1 f2 : zF} {c : Nat} {o : Int32 × Int32 × Nat} (ho : okg g) : okg (hearF g f0 f1 f2 c o).2.1 := by
  unfold hearF
  by_cases h : ansF g o.2.1 o.2.2 = 0 ∨ ansF g o.2.1 o.2.2 = -1
  · rw [if_pos h]
    by_cases h0 : ansF g o.2.1 o.2.2 = 0
    · rw [h0, if_pos rfl]
      refine okg_of (c := o.2.2 / 4 % 16) ?_ (Nat.mod_lt _ (by decide))
      unfold accF
      rw [if_pos rfl]
      rfl
    · refine okg_same ?_ ho
      show (accF _ _ _ _ _ _).1 3 = _
      unfold accF
      rw [if_neg h0]
      rfl
  · rw [if_neg h]
    exact okg_same rfl ho
theorem okg_part {t : zF} {n : Nat} {f0 : zF} {j : Nat} {q : zF × zF × zF} (ho : okg q.1) : okg (ptC t n f0 j q).1 := by
  unfold ptC
  by_cases h1 : t j = 102
  · rw [if_pos h1]; exact okg_hear ho
  · rw [if_neg h1]
    by_cases h2 : t j = 114
    · rw [if_pos h2]; exact okg_hear ho
    · rw [if_neg h2]
      by_cases h3 : t j = 116
      · rw [if_pos h3]
        show okg (if q.1 6 = -1 then q.1 else upd q.1 6 (q.1 6 + nI (tkN t n j)))
        by_cases h4 : q.1 6 = -1
        · rw [if_pos h4]; exact ho
        · rw [if_neg h4]; exact okg_same rfl ho
      · rw [if_neg h3]; exact okg_same rfl ho
theorem okg_st {t : zF} {n : Nat} {f0 : zF} {q : zF × zF × zF} (ho : okg q.1) : ∀ k, okg (stC t n f0 q k).1 := by
  intro k
  induction k with
  | zero => exact ho
  | succ k ih => exact okg_part ih
theorem ptC_f {t : zF} {n j d1 d2 d3 : Nat} {f0 : zF} {q : zF × zF × zF} (h : t j = 102) (e1 : t (j + 1) = nI (48 + d1)) (e2 : t (j + 2) = nI (48 + d2)) (e3 : t (j + 3) = nI (48 + d3)) (b1 : d1 < 2) (b2 : d2 < 10) (b3 : d3 < 2) :
    ptC t n f0 j q = (hearF q.1 f0 q.2.1 q.2.2 (q.1 3).toNatClampNeg (LO (frS (wd 0 (10 * d1 + d2) d3)) 21 (q.1 0) (q.1 1) 10)).2 := by
  unfold ptC
  rw [if_pos h, dgN_of e1 (by omega), dgN_of e2 (by omega), dgN_of e3 (by omega)]
theorem ptC_r {t : zF} {n j : Nat} {f0 : zF} {q : zF × zF × zF} (h : t j = 114) : ptC t n f0 j q = (hearF q.1 f0 q.2.1 q.2.2 (q.1 3).toNatClampNeg (LO rpS 3 (q.1 0) (q.1 1) 10)).2 := by
  unfold ptC
  rw [if_neg (by rw [h]; decide), if_pos h]
theorem ptC_t {t : zF} {n j tk : Nat} {f0 : zF} {q : zF × zF × zF} (h : t j = 116) (hk : tkN t n j = tk) : ptC t n f0 j q = (if q.1 6 = -1 then q.1 else upd q.1 6 (q.1 6 + nI tk), q.2) := by
  unfold ptC
  rw [if_neg (by rw [h]; decide), if_neg (by rw [h]; decide), if_pos h, hk]
theorem ptC_g {t : zF} {n j d1 : Nat} {f0 : zF} {q : zF × zF × zF} (h : t j = 103) (e1 : t (j + 1) = nI (48 + d1)) (b1 : d1 ≤ 9) : ptC t n f0 j q = (upd q.1 0 (nI d1), q.2) := by
  unfold ptC
  rw [if_neg (by rw [h]; decide), if_neg (by rw [h]; decide), if_neg (by rw [h]; decide), dgN_of e1 (by omega)]
theorem ptR_f {t : zF} {n j d1 d2 d3 : Nat} {s : zF} (h : t j = 102) (e1 : t (j + 1) = nI (48 + d1)) (e2 : t (j + 2) = nI (48 + d2)) (e3 : t (j + 3) = nI (48 + d3)) (b1 : d1 < 2) (b2 : d2 < 10) (b3 : d3 < 2) :
    ptR t n j s = (geR s (s 3).toNatClampNeg (LO (frS (wd 0 (10 * d1 + d2) d3)) 21 (s 0) (s 1) 10)).2 := by
  unfold ptR
  rw [if_pos h, dgN_of e1 (by omega), dgN_of e2 (by omega), dgN_of e3 (by omega)]
theorem ptR_r {t : zF} {n j : Nat} {s : zF} (h : t j = 114) : ptR t n j s = (geR s (s 3).toNatClampNeg (LO rpS 3 (s 0) (s 1) 10)).2 := by
  unfold ptR
  rw [if_neg (by rw [h]; decide), if_pos h]
theorem ptR_t {t : zF} {n j tk : Nat} {s : zF} (h : t j = 116) (hk : tkN t n j = tk) : ptR t n j s = paR s (nI tk) := by
  unfold ptR
  rw [if_neg (by rw [h]; decide), if_neg (by rw [h]; decide), if_pos h, hk]
theorem ptR_g {t : zF} {n j d1 : Nat} {s : zF} (h : t j = 103) (e1 : t (j + 1) = nI (48 + d1)) (b1 : d1 ≤ 9) : ptR t n j s = upd s 0 (nI d1) := by
  unfold ptR
  rw [if_neg (by rw [h]; decide), if_neg (by rw [h]; decide), if_neg (by rw [h]; decide), dgN_of e1 (by omega)]
theorem tkN_1 {t : zF} {n j d1 : Nat} (he : j + 2 = peT t n j) (e1 : t (j + 1) = nI (48 + d1)) (b1 : d1 ≤ 9) : tkN t n j = d1 := by
  unfold tkN
  rw [if_neg (by omega), dgN_of e1 (by omega)]
theorem tkN_2 {t : zF} {n j d1 d2 : Nat} (he : j + 3 = peT t n j) (e1 : t (j + 1) = nI (48 + d1)) (b1 : d1 ≤ 9) (e2 : t (j + 2) = nI (48 + d2)) (b2 : d2 ≤ 9) : tkN t n j = 10 * d1 + d2 := by
  unfold tkN
  rw [if_pos he.symm, dgN_of e1 (by omega), dgN_of e2 (by omega)]
theorem peT_gt (t : zF) (n j : Nat) : j < peT t n j := by
  unfold peT
  repeat' split
  all_goals omega
end MODEL5
