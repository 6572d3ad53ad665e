/-! ===== the numbers behind both programs: a frame's bits, what is left of light, what it means ===== -/
section MODEL
abbrev zF : Type := Nat → Int32
/-- how many ones a number of nine bits has -/
def z1 (x : Nat) : Nat := x % 2 + x / 2 % 2 + x / 4 % 2 + x / 8 % 2 + x / 16 % 2 + x / 32 % 2 + x / 64 % 2 + x / 128 % 2 + x / 256 % 2
/-- a frame's nine bits as one number -/
def wd (a c t : Nat) : Nat := 2 * (32 * a + 2 * c + t) + z1 (32 * a + 2 * c + t) % 2
theorem wd_lt {a c t : Nat} (ha : a < 8) (hc : c < 16) (ht : t < 2) : wd a c t < 512 := by unfold wd; omega
/-- the times of a frame with the bits w; of a repeat -/
def frS (w : Nat) : zF := fun j => if j = 0 then 16 else if j = 1 then 8 else if j % 2 = 0 then 4 else if w / 2 ^ (8 - (j - 3) / 2) % 2 = 1 then 12 else 4
def rpS : zF := fun j => if j = 0 then 16 else 4
set_option maxRecDepth 100000 in
theorem zk_word0 : ∀ a, a < 8 → ∀ c, c < 16 → ∀ t, t < 2 → (((nI a <<< (5 &&& 31)) ||| (nI c <<< (1 &&& 31))) ||| nI t) = nI (32 * a + 2 * c + t) := by decide +kernel
set_option maxRecDepth 100000 in
theorem zk_word1 : ∀ x, x < 256 → ((nI x <<< (1 &&& 31)) ||| (nI (z1 x) &&& 1)) = nI (2 * x + z1 x % 2) := by decide +kernel
set_option maxRecDepth 100000 in
theorem zk_bit : ∀ b, b < 9 → ∀ w, w < 512 → ((nI w >>> ((8 - nI b) &&& 31)) &&& 1) = nI (w / 2 ^ (8 - b) % 2) := by decide +kernel
set_option maxRecDepth 100000 in
theorem zk_parts : ∀ w, w < 512 → ((nI w >>> (6 &&& 31)) &&& 7) = nI (w / 64) ∧ ((nI w >>> (2 &&& 31)) &&& 15) = nI (w / 4 % 16) ∧ ((nI w >>> (1 &&& 31)) &&& 1) = nI (w / 2 % 2) := by decide +kernel
set_option maxRecDepth 100000 in
theorem zk_wd : ∀ a, a < 8 → ∀ c, c < 16 → ∀ t, t < 2 → wd a c t / 64 = a ∧ wd a c t / 4 % 16 = c ∧ wd a c t / 2 % 2 = t ∧ z1 (wd a c t) % 2 = 0 := by decide +kernel
/-- what is left of light: the pause so far, whether a burst was missed, how many times are left, those -/
abbrev zL : Type := Int32 × Int32 × Nat × zF
def lisS (g : zF) (loss : Int32) (wk : Bool) (i : Nat) (q : zL) : zL :=
  if i % 2 = 1 then (q.1 + (g i + loss), q.2)
  else if wk = true ∨ (if (g i - loss) < 0 then (0 : Int32) else (g i - loss)) < 2 then (q.1 + (if (g i - loss) < 0 then (0 : Int32) else (g i - loss)), 1, q.2.2)
  else (0, q.2.1, if 0 < q.2.2.1 then (q.2.2.1 + 2, upd (upd q.2.2.2 q.2.2.1 q.1) (q.2.2.1 + 1) (if (g i - loss) < 0 then (0 : Int32) else (g i - loss))) else (q.2.2.1 + 1, upd q.2.2.2 q.2.2.1 (if (g i - loss) < 0 then (0 : Int32) else (g i - loss))))
def lis (g : zF) (loss : Int32) (wk : Bool) (a0 : zF) : Nat → zL
  | 0 => (0, 0, 0, a0)
  | i + 1 => lisS g loss wk i (lis g loss wk a0 i)
theorem lisS_odd {g : zF} {loss : Int32} {wk : Bool} {i : Nat} {q : zL} (h : i % 2 = 1) : lisS g loss wk i q = (q.1 + (g i + loss), q.2) := if_pos h
theorem lisS_miss {g : zF} {loss : Int32} {wk : Bool} {i : Nat} {q : zL} (h : i % 2 = 0) (h2 : wk = true ∨ (if (g i - loss) < 0 then (0 : Int32) else (g i - loss)) < 2) : lisS g loss wk i q = (q.1 + (if (g i - loss) < 0 then (0 : Int32) else (g i - loss)), 1, q.2.2) := by
  unfold lisS
  rw [if_neg (by omega), if_pos h2]
theorem lisS_first {g : zF} {loss : Int32} {wk : Bool} {i : Nat} {q : zL} (h : i % 2 = 0) (h2 : ¬ wk = true) (h3 : ¬ (if (g i - loss) < 0 then (0 : Int32) else (g i - loss)) < 2) (hk : q.2.2.1 = 0) : lisS g loss wk i q = (0, q.2.1, q.2.2.1 + 1, upd q.2.2.2 q.2.2.1 (if (g i - loss) < 0 then (0 : Int32) else (g i - loss))) := by
  unfold lisS
  rw [if_neg (by omega), if_neg (fun z => z.elim h2 h3), if_neg (by omega)]
theorem lisS_more {g : zF} {loss : Int32} {wk : Bool} {i : Nat} {q : zL} (h : i % 2 = 0) (h2 : ¬ wk = true) (h3 : ¬ (if (g i - loss) < 0 then (0 : Int32) else (g i - loss)) < 2) (hk : 0 < q.2.2.1) : lisS g loss wk i q = (0, q.2.1, q.2.2.1 + 2, upd (upd q.2.2.2 q.2.2.1 q.1) (q.2.2.1 + 1) (if (g i - loss) < 0 then (0 : Int32) else (g i - loss))) := by
  unfold lisS
  rw [if_neg (by omega), if_neg (fun z => z.elim h2 h3), if_pos hk]
/-- none is left, or an odd number, which fits -/
theorem lis_kept (g : zF) (loss : Int32) (wk : Bool) (a0 : zF) : ∀ i, (lis g loss wk a0 i).2.2.1 = 0 ∨ ((lis g loss wk a0 i).2.2.1 % 2 = 1 ∧ (lis g loss wk a0 i).2.2.1 + 1 ≤ 2 * ((i + 1) / 2)) := by
  intro i
  induction i with
  | zero => exact Or.inl rfl
  | succ i ih =>
    show (lisS g loss wk i (lis g loss wk a0 i)).2.2.1 = 0 ∨ _ ∧ (lisS g loss wk i (lis g loss wk a0 i)).2.2.1 + 1 ≤ _
    have e : (lis g loss wk a0 (i + 1)) = lisS g loss wk i (lis g loss wk a0 i) := rfl
    rw [e]
    generalize lis g loss wk a0 i = q at ih ⊢
    by_cases h : i % 2 = 1
    · rw [lisS_odd h]
      show q.2.2.1 = 0 ∨ q.2.2.1 % 2 = 1 ∧ q.2.2.1 + 1 ≤ _
      omega
    · by_cases h2 : wk = true ∨ (if (g i - loss) < 0 then (0 : Int32) else (g i - loss)) < 2
      · rw [lisS_miss (by omega) h2]
        show q.2.2.1 = 0 ∨ q.2.2.1 % 2 = 1 ∧ q.2.2.1 + 1 ≤ _
        omega
      · by_cases hk : q.2.2.1 = 0
        · rw [lisS_first (by omega) (fun z => h2 (Or.inl z)) (fun z => h2 (Or.inr z)) hk]
          show q.2.2.1 + 1 = 0 ∨ (q.2.2.1 + 1) % 2 = 1 ∧ q.2.2.1 + 1 + 1 ≤ _
          omega
        · rw [lisS_more (by omega) (fun z => h2 (Or.inl z)) (fun z => h2 (Or.inr z)) (by omega)]
          show q.2.2.1 + 2 = 0 ∨ (q.2.2.1 + 2) % 2 = 1 ∧ q.2.2.1 + 2 + 1 ≤ _
          omega
/-- it depends on the sent times alone, but for places behind the count -/
def zLq (q r : zL) : Prop := q.1 = r.1 ∧ q.2.1 = r.2.1 ∧ q.2.2.1 = r.2.2.1 ∧ ∀ j, j < q.2.2.1 → q.2.2.2 j = r.2.2.2 j
theorem lis_same {g g' : zF} {loss : Int32} {wk : Bool} {a0 a1 : zF} : ∀ n, (∀ j, j < n → g j = g' j) → zLq (lis g loss wk a0 n) (lis g' loss wk a1 n) := by
  intro n
  induction n with
  | zero => intro _; exact ⟨rfl, rfl, rfl, fun j h => absurd h (Nat.not_lt_zero j)⟩
  | succ i ih =>
    intro hg
    obtain ⟨e1, e2, e3, e4⟩ := ih (fun j h => hg j (by omega))
    have hgi : g i = g' i := hg i (by omega)
    show zLq (lisS g loss wk i (lis g loss wk a0 i)) (lisS g' loss wk i (lis g' loss wk a1 i))
    generalize lis g loss wk a0 i = q at e1 e2 e3 e4 ⊢
    generalize lis g' loss wk a1 i = r at e1 e2 e3 e4 ⊢
    by_cases h : i % 2 = 1
    · rw [lisS_odd h, lisS_odd h]
      exact ⟨by show q.1 + _ = r.1 + _; rw [e1, hgi], e2, e3, e4⟩
    · by_cases h2 : wk = true ∨ (if (g i - loss) < 0 then (0 : Int32) else (g i - loss)) < 2
      · have h2' : wk = true ∨ (if (g' i - loss) < 0 then (0 : Int32) else (g' i - loss)) < 2 := by rw [← hgi]; exact h2
        rw [lisS_miss (by omega) h2, lisS_miss (by omega) h2']
        exact ⟨by show q.1 + _ = r.1 + _; rw [e1, hgi], rfl, e3, e4⟩
      · have n1 : ¬ wk = true := fun z => h2 (Or.inl z)
        have n2 : ¬ (if (g i - loss) < 0 then (0 : Int32) else (g i - loss)) < 2 := fun z => h2 (Or.inr z)
        have n2' : ¬ (if (g' i - loss) < 0 then (0 : Int32) else (g' i - loss)) < 2 := by rw [← hgi]; exact n2
        by_cases hk : q.2.2.1 = 0
        · rw [lisS_first (by omega) n1 n2 hk, lisS_first (by omega) n1 n2' (by omega)]
          refine ⟨rfl, e2, by show q.2.2.1 + 1 = r.2.2.1 + 1; omega, fun j hj => ?_⟩
          have hj : j < q.2.2.1 + 1 := hj
          show upd q.2.2.2 q.2.2.1 _ j = upd r.2.2.2 r.2.2.1 _ j
          rw [← e3, hgi]
          by_cases hjk : j = q.2.2.1
          · rw [hjk, pk_us, pk_us]
          · rw [pk_un hjk, pk_un hjk]
            exact e4 j (by omega)
        · rw [lisS_more (by omega) n1 n2 (by omega), lisS_more (by omega) n1 n2' (by omega)]
          refine ⟨rfl, e2, by show q.2.2.1 + 2 = r.2.2.1 + 2; omega, fun j hj => ?_⟩
          have hj : j < q.2.2.1 + 2 := hj
          show upd (upd q.2.2.2 q.2.2.1 q.1) (q.2.2.1 + 1) _ j = upd (upd r.2.2.2 r.2.2.1 r.1) (r.2.2.1 + 1) _ j
          rw [← e3, hgi, e1]
          by_cases hjk : j = q.2.2.1 + 1
          · rw [hjk, pk_us, pk_us]
          · rw [pk_un hjk, pk_un hjk]
            by_cases hjl : j = q.2.2.1
            · rw [hjl, pk_us, pk_us]
            · rw [pk_un hjl, pk_un hjl]
              exact e4 j (by omega)
/-- the bits that the pauses tell, k of them -/
def wF (a : zF) : Nat → Nat
  | 0 => 0
  | k + 1 => 2 * wF a k + (if a (3 + 2 * k) ≤ 8 then 0 else 1)
theorem wF_lt (a : zF) : ∀ k, wF a k < 2 ^ k := by
  intro k
  induction k with
  | zero => show 0 < 2 ^ 0; decide
  | succ k ih =>
    show 2 * wF a k + _ < 2 ^ (k + 1)
    rw [Nat.pow_succ]
    split <;> omega
theorem wF_same {a b : zF} : ∀ k, (∀ j, j < 2 * k + 3 → a j = b j) → wF a k = wF b k := by
  intro k
  induction k with
  | zero => intro _; rfl
  | succ k ih =>
    intro h
    show 2 * wF a k + (if a (3 + 2 * k) ≤ 8 then 0 else 1) = 2 * wF b k + (if b (3 + 2 * k) ≤ 8 then 0 else 1)
    rw [ih (fun j hj => h j (by omega)), h (3 + 2 * k) (by omega)]
/-- what is left means: a reason from 1 to 4, a frame (7), a repeat (8) -/
def dec (k : Nat) (a : zF) : Int32 :=
  if k ≠ 3 ∧ k ≠ 21 then 1
  else if a 0 < 10 ∨ 20 < a 0 then 2
  else if k = 3 then (if a 1 ≤ 6 then 8 else 3)
  else if z1 (wF a 9) % 2 = 1 then 4 else 7
theorem dec_same {k : Nat} {a b : zF} (h : ∀ j, j < k → a j = b j) : dec k a = dec k b := by
  unfold dec
  by_cases h1 : k ≠ 3 ∧ k ≠ 21
  · rw [if_pos h1, if_pos h1]
  · rw [if_neg h1, if_neg h1, h 0 (by omega)]
    by_cases h3 : k = 3
    · rw [if_pos h3, if_pos h3, h 1 (by omega)]
    · rw [if_neg h3, if_neg h3, wF_same 9 (fun j hj => h j (by omega))]
theorem dec_1 {k : Nat} {a : zF} (h1 : ¬ k = 3) (h2 : ¬ k = 21) : dec k a = 1 := if_pos ⟨h1, h2⟩
theorem dec_2 {k : Nat} {a : zF} (h : k = 3 ∨ k = 21) (h2 : a 0 < 10 ∨ 20 < a 0) : dec k a = 2 := by
  unfold dec
  rw [if_neg (by omega), if_pos h2]
theorem dec_8 {k : Nat} {a : zF} (h : k = 3) (h2 : ¬ (a 0 < 10 ∨ 20 < a 0)) (h3 : a 1 ≤ 6) : dec k a = 8 := by
  unfold dec
  rw [if_neg (by omega), if_neg h2, if_pos h, if_pos h3]
theorem dec_3 {k : Nat} {a : zF} (h : k = 3) (h2 : ¬ (a 0 < 10 ∨ 20 < a 0)) (h3 : ¬ a 1 ≤ 6) : dec k a = 3 := by
  unfold dec
  rw [if_neg (by omega), if_neg h2, if_pos h, if_neg h3]
theorem dec_4 {k : Nat} {a : zF} (h : k = 21) (h2 : ¬ (a 0 < 10 ∨ 20 < a 0)) (h3 : z1 (wF a 9) % 2 = 1) : dec k a = 4 := by
  unfold dec
  rw [if_neg (by omega), if_neg h2, if_neg (by omega), if_pos h3]
theorem dec_7 {k : Nat} {a : zF} (h : k = 21) (h2 : ¬ (a 0 < 10 ∨ 20 < a 0)) (h3 : ¬ z1 (wF a 9) % 2 = 1) : dec k a = 7 := by
  unfold dec
  rw [if_neg (by omega), if_neg h2, if_neg (by omega), if_neg h3]
set_option maxRecDepth 100000 in
theorem zk_shl1 : ∀ b, b < 2 → ∀ w, w < 256 → ((nI w <<< (1 &&& 31)) ||| nI b) = nI (2 * w + b) := by decide +kernel
theorem z_le {a b : Nat} {x y : Int32} (hx : x = nI a) (hy : y = nI b) (ha : a < 2147483648) (hb : b < 2147483648) : x ≤ y ↔ a ≤ b := by
  subst hx; subst hy
  exact nI_leI ha hb
theorem z_lt {a b : Nat} {x y : Int32} (hx : x = nI a) (hy : y = nI b) (ha : a < 2147483648) (hb : b < 2147483648) : x < y ↔ a < b := by
  subst hx; subst hy
  exact nI_ltI ha hb
theorem z_eq {a b : Nat} {x y : Int32} (hx : x = nI a) (hy : y = nI b) (ha : a < 2147483648) (hb : b < 2147483648) : x = y ↔ a = b := by
  subst hx; subst hy
  exact nI_eq ha hb
theorem frS_add {w k cc : Nat} {u : zF} {x : Int32} (hc : cc = 2 + 2 * k) (hu : ∀ j, j < cc → u j = frS w j) (hx : x = if w / 2 ^ (8 - k) % 2 = 1 then 12 else 4) (hk : k < 9) : ∀ j, j < cc + 1 + 1 → upd (upd u cc 4) (cc + 1) x j = frS w j := by
  intro j hj
  by_cases h1 : j = cc + 1
  · subst h1
    have e : frS w (cc + 1) = if w / 2 ^ (8 - k) % 2 = 1 then 12 else 4 := by
      unfold frS
      rw [if_neg (by omega), if_neg (by omega), if_neg (by omega), show (cc + 1 - 3) / 2 = k by omega]
    rw [pk_us, hx, e]
  · rw [pk_un h1]
    by_cases h2 : j = cc
    · subst h2
      rw [pk_us]
      unfold frS
      rw [if_neg (by omega), if_neg (by omega), if_pos (by omega)]
    · rw [pk_un h2]
      exact hu j (by omega)
end MODEL

