/-! ===== the reference's numbers: s: 0 glare, 1 gain, 2 address, 3 code, 4 toggle, 5 holds, 6 since, 7 presses, 8 received, 9 + reason, 16 + code actions, 32 + code done, 48 row, 49 + k times ===== -/
section MODEL3
set_option maxRecDepth 100000 in
theorem zk_rbit : ∀ b, b < 8 → ∀ x, x < 256 → ((nI x >>> ((7 - nI b) &&& 31)) &&& 1) = nI ((2 * x + z1 x % 2) / 2 ^ (8 - b) % 2) := by decide +kernel
set_option maxRecDepth 100000 in
theorem zk_rone : ∀ k, k < 8 → ∀ x, x < 256 → ((nI x >>> (nI k &&& 31)) &&& 1) = nI (x / 2 ^ k % 2) := by decide +kernel
def zs (x : Nat) : Nat → Nat
  | 0 => 0
  | k + 1 => zs x k + x / 2 ^ k % 2
theorem zs_le (x : Nat) : ∀ k, zs x k ≤ k := by
  intro k
  induction k with
  | zero => exact Nat.le_refl 0
  | succ k ih =>
    show zs x k + x / 2 ^ k % 2 ≤ k + 1
    have := Nat.mod_lt (x / 2 ^ k) (show 0 < 2 by decide)
    omega
set_option maxRecDepth 100000 in
theorem zk_rpar : ∀ x, x < 256 → zs x 8 % 2 = (2 * x + z1 x % 2) / 2 ^ (8 - 8) % 2 := by decide +kernel
theorem zx2 (c k : Nat) : nI c + nI 2 * nI k = nI (c + 2 * k) := by rw [pk_mul, nI_add]
theorem z_toInt_sub {x y : Int32} (h1 : -1000000000 ≤ x.toInt) (h2 : x.toInt ≤ 1000000000) (h3 : -1000000000 ≤ y.toInt) (h4 : y.toInt ≤ 1000000000) : (x - y).toInt = x.toInt - y.toInt := by
  rw [Int32.toInt_sub]
  exact Int.bmod_eq_of_le (by omega) (by omega)
theorem z_toInt_add {x y : Int32} (h1 : -1000000000 ≤ x.toInt) (h2 : x.toInt ≤ 1000000000) (h3 : -1000000000 ≤ y.toInt) (h4 : y.toInt ≤ 1000000000) : (x + y).toInt = x.toInt + y.toInt := by
  rw [Int32.toInt_add]
  exact Int.bmod_eq_of_le (by omega) (by omega)
theorem zsub {x lo : Int32} (h1 : 0 ≤ x.toInt) (h2 : x.toInt ≤ 1000) (h3 : 0 ≤ lo.toInt) (h4 : lo.toInt ≤ 1000) : (if lo < x then x - lo else 0) = (if (x - lo) < 0 then (0 : Int32) else (x - lo)) := by
  have e := z_toInt_sub (x := x) (y := lo) (by omega) (by omega) (by omega) (by omega)
  have e0 : (0 : Int32).toInt = 0 := by decide
  by_cases h : lo < x
  · rw [if_pos h]
    have h' := Int32.lt_iff_toInt_lt.mp h
    rw [if_neg]
    intro z
    have z' := Int32.lt_iff_toInt_lt.mp z
    omega
  · rw [if_neg h]
    have h' : ¬ lo.toInt < x.toInt := fun z => h (Int32.lt_iff_toInt_lt.mpr z)
    by_cases z : (x - lo) < 0
    · rw [if_pos z]
    · rw [if_neg z]
      have z' : ¬ (x - lo).toInt < (0 : Int32).toInt := fun y => z (Int32.lt_iff_toInt_lt.mpr y)
      exact Int32.toInt_inj.mp (by omega)
theorem lis_ms (g : zF) (loss : Int32) (wk : Bool) (a0 : zF) : ∀ i, (lis g loss wk a0 i).2.1 = 0 ∨ (lis g loss wk a0 i).2.1 = 1 := by
  intro i
  induction i with
  | zero => exact Or.inl rfl
  | succ i ih =>
    have e : (lis g loss wk a0 (i + 1)) = lisS g loss wk i (lis g loss wk a0 i) := rfl
    rw [e]
    generalize lis g loss wk a0 i = q at ih ⊢
    by_cases h : i % 2 = 1
    · rw [lisS_odd h]; exact ih
    · by_cases h2 : wk = true ∨ (if (g i - loss) < 0 then (0 : Int32) else (g i - loss)) < 2
      · rw [lisS_miss (by omega) h2]; exact Or.inr rfl
      · by_cases hk : q.2.2.1 = 0
        · rw [lisS_first (by omega) (fun z => h2 (Or.inl z)) (fun z => h2 (Or.inr z)) hk]; exact ih
        · rw [lisS_more (by omega) (fun z => h2 (Or.inl z)) (fun z => h2 (Or.inr z)) (by omega)]; exact ih
abbrev rmR (s : zF) : Prop := 0 ≤ s 3 ∧ s 6 ≤ 60
def rfF (s : zF) (k : Nat) : zF := upd s (9 + k) (s (9 + k) + 1)
def hoR (s : zF) (c : Nat) : zF :=
  upd (upd (upd s 6 0) 5 (s 5 + 1)) (32 + c) ((upd (upd s 6 0) 5 (s 5 + 1)) (32 + c) + (if (upd (upd s 6 0) 5 (s 5 + 1)) (16 + c) = 2 ∧ (s 5 + 1) - (s 5 + 1) / 2 * 2 = 0 then 1 else 0))
def nwR (s : zF) (c : Nat) (t : Int32) : zF :=
  upd (upd (upd (upd (upd (upd s 6 0) 3 (nI c)) 4 t) 5 0) 7 (s 7 + 1)) (32 + c) ((upd (upd (upd (upd (upd s 6 0) 3 (nI c)) 4 t) 5 0) 7 (s 7 + 1)) (32 + c) + (if 0 < (upd (upd (upd (upd (upd s 6 0) 3 (nI c)) 4 t) 5 0) 7 (s 7 + 1)) (16 + c) then 1 else 0))
def acR (s : zF) (c9 : Nat) (t : Int32) (c : Nat) : Int32 × zF := if rmR s ∧ s 3 = nI c9 ∧ s 4 = t then (-1, hoR s c) else (0, nwR s c9 t)
def deR (s : zF) (mn : Int32) (w : Nat) (c : Nat) : Int32 × zF :=
  if mn = 8 then (if rmR s then (-1, hoR s c) else (6, rfF s 6))
  else if ¬ mn = 7 then (mn, rfF s mn.toNatClampNeg)
  else if ¬ nI (w / 64) = s 2 then (5, rfF s 5)
  else acR s (w / 4 % 16) (nI (w / 2 % 2)) c
def gnR (ms : Int32) (s : zF) : Int32 := if ms = 0 then (if (s 1 + 1) < (10 - s 0) then (s 1 + 1) else (10 - s 0)) else (if 1 < s 1 then (s 1 - 1) else 1)
def geR (s : zF) (c : Nat) (o : Int32 × Int32 × Nat) : Int32 × zF :=
  ((deR s o.2.1 o.2.2 c).1, upd (upd (deR s o.2.1 o.2.2 c).2 1 (gnR o.1 (deR s o.2.1 o.2.2 c).2)) 8 ((deR s o.2.1 o.2.2 c).2 8 + 1))
def paR (s : zF) (tk : Int32) : zF := if rmR (upd s 6 (s 6 + (if s 6 < 0 then 0 else tk))) then upd s 6 (s 6 + (if s 6 < 0 then 0 else tk)) else upd (upd s 6 (s 6 + (if s 6 < 0 then 0 else tk))) 5 0
theorem deR_8p {s : zF} {mn : Int32} {w c : Nat} (h : mn = 8) (h2 : rmR s) : deR s mn w c = (-1, hoR s c) := by unfold deR; rw [if_pos h, if_pos h2]
theorem deR_8n {s : zF} {mn : Int32} {w c : Nat} (h : mn = 8) (h2 : ¬ rmR s) : deR s mn w c = (6, rfF s 6) := by unfold deR; rw [if_pos h, if_neg h2]
theorem deR_r {s : zF} {mn : Int32} {w c k : Nat} (h : mn = nI k) (hk : k < 7) : deR s mn w c = (nI k, rfF s k) := by
  subst h
  have n8 : ¬ nI k = 8 := mt (z_eq (b := 8) rfl rfl (by omega) (by omega)).mp (by omega)
  have n7 : ¬ nI k = 7 := mt (z_eq (b := 7) rfl rfl (by omega) (by omega)).mp (by omega)
  unfold deR
  rw [if_neg n8, if_pos n7, nI_clamp (by omega)]
theorem deR_5 {s : zF} {mn : Int32} {w c : Nat} (h : mn = 7) (h2 : ¬ nI (w / 64) = s 2) : deR s mn w c = (5, rfF s 5) := by
  subst h; unfold deR
  rw [if_neg (by decide), if_neg (by decide), if_pos h2]
theorem deR_f {s : zF} {mn : Int32} {w c : Nat} (h : mn = 7) (h2 : nI (w / 64) = s 2) : deR s mn w c = acR s (w / 4 % 16) (nI (w / 2 % 2)) c := by
  subst h; unfold deR
  rw [if_neg (by decide), if_neg (by decide), if_neg (fun z => z h2)]
theorem zx3 (b w : Nat) : nI 2 * nI w + nI b = nI (2 * w + b) := by rw [pk_mul, nI_add]
/-- as the reference counts the ones -/
def zo (a : zF) : Nat → Nat
  | 0 => 0
  | k + 1 => zo a k + (if a (3 + 2 * k) ≤ 8 then 0 else 1)
theorem zo_le (a : zF) : ∀ k, zo a k ≤ k := by
  intro k
  induction k with
  | zero => exact Nat.le_refl 0
  | succ k ih =>
    show zo a k + (if a (3 + 2 * k) ≤ 8 then 0 else 1) ≤ k + 1
    split <;> omega
set_option maxRecDepth 100000 in
theorem zk_z1 : ∀ b, b < 2 → ∀ w, w < 256 → z1 (2 * w + b) = z1 w + b := by decide +kernel
theorem zo_z1 (a : zF) : ∀ k, k ≤ 9 → zo a k = z1 (wF a k) := by
  intro k
  induction k with
  | zero => intro _; show 0 = z1 0; decide
  | succ k ih =>
    intro hk
    have hw : wF a k < 256 := Nat.lt_of_lt_of_le (wF_lt a k) (Nat.pow_le_pow_right (by omega) (show k ≤ 8 by omega))
    show zo a k + (if a (3 + 2 * k) ≤ 8 then 0 else 1) = z1 (2 * wF a k + (if a (3 + 2 * k) ≤ 8 then 0 else 1))
    rw [zk_z1 _ (by split <;> omega) _ hw, ih (by omega)]
theorem zo_9 (a : zF) : zo a 9 % 2 = z1 (wF a 9) % 2 := by rw [zo_z1 a 9 (Nat.le_refl 9)]
theorem zle8 {x : Int32} (h : x ≤ 8) : x < 9 := by
  have h' := Int32.le_iff_toInt_le.mp h
  have e8 : (8 : Int32).toInt = 8 := by decide
  have e9 : (9 : Int32).toInt = 9 := by decide
  exact Int32.lt_iff_toInt_lt.mpr (by omega)
theorem z9le {x : Int32} (h : ¬ 9 ≤ x) : x ≤ 8 := by
  have h' : ¬ (9 : Int32).toInt ≤ x.toInt := fun z => h (Int32.le_iff_toInt_le.mpr z)
  have e8 : (8 : Int32).toInt = 8 := by decide
  have e9 : (9 : Int32).toInt = 9 := by decide
  exact Int32.le_iff_toInt_le.mpr (by omega)
theorem zlt7 {x : Int32} (h : x < 7) : x ≤ 6 := by
  have h' := Int32.lt_iff_toInt_lt.mp h
  have e6 : (6 : Int32).toInt = 6 := by decide
  have e7 : (7 : Int32).toInt = 7 := by decide
  exact Int32.le_iff_toInt_le.mpr (by omega)
theorem z7le {x : Int32} (h : ¬ x < 7) : ¬ x ≤ 6 := by
  intro z
  have h' : ¬ x.toInt < (7 : Int32).toInt := fun y => h (Int32.lt_iff_toInt_lt.mpr y)
  have z' := Int32.le_iff_toInt_le.mp z
  have e6 : (6 : Int32).toInt = 6 := by decide
  have e7 : (7 : Int32).toInt = 7 := by decide
  omega
theorem zno {x : Int32} (h : ¬ (10 ≤ x ∧ x ≤ 20)) : x < 10 ∨ 20 < x := by
  by_cases h1 : 10 ≤ x
  · exact Or.inr (Int32.not_le.mp (fun z => h ⟨h1, z⟩))
  · exact Or.inl (Int32.not_le.mp h1)
theorem acR_new {s : zF} {c9 c : Nat} {t b : Int32} (hn : ¬ (rmR s ∧ s 3 = nI c9 ∧ s 4 = t)) (hb : b = if 0 < (upd (upd (upd (upd (upd s 6 0) 3 (nI c9)) 4 t) 5 0) 7 (s 7 + 1)) (16 + c9) then 1 else 0) :
    ((0 : Int32), upd (upd (upd (upd (upd (upd s 6 0) 3 (nI c9)) 4 t) 5 0) 7 (s 7 + 1)) (32 + c9) ((upd (upd (upd (upd (upd s 6 0) 3 (nI c9)) 4 t) 5 0) 7 (s 7 + 1)) (32 + c9) + b)) = acR s c9 t c := by
  subst hb
  unfold acR
  rw [if_neg hn]
  rfl
theorem geR_of {s u : zF} {c : Nat} {o : Int32 × Int32 × Nat} {v gn : Int32} (hd : (v, u) = deR s o.2.1 o.2.2 c) (hg : gn = gnR o.1 u) : (v, upd (upd u 1 gn) 8 (u 8 + 1)) = geR s c o := by
  unfold geR
  rw [← hd, hg]
theorem paR_p {s : zF} {tk x : Int32} (hx : x = if s 6 < 0 then 0 else tk) (h : rmR (upd s 6 (s 6 + x))) : upd s 6 (s 6 + x) = paR s tk := by
  subst hx
  exact (if_pos h).symm
theorem paR_n {s : zF} {tk x : Int32} (hx : x = if s 6 < 0 then 0 else tk) (h : ¬ rmR (upd s 6 (s 6 + x))) : upd (upd s 6 (s 6 + x)) 5 0 = paR s tk := by
  subst hx
  exact (if_neg h).symm
/-- the saved states as one row -/
def bsv (sv : Nat → zF) : zF := fun j => sv (j / 80) (j % 80)
def shv (sv : Nat → zF) : Nat → zF := fun i => if i < 5 then sv (i + 1) else sv i
def svF (kn : Nat) (sv : Nat → zF) (s : zF) : Nat × (Nat → zF) := if kn = 6 then (6, va_up (shv sv) 5 s) else (kn + 1, va_up sv kn s)
theorem bsv_sh {sv : Nat → zF} {u : zF} (h : ∀ j, j < 480 → u j = if j < 400 then bsv sv (80 + j) else bsv sv j) : ∀ j, j < 480 → u j = bsv (shv sv) j := by
  intro j hj
  rw [h j hj]
  unfold bsv shv
  by_cases hk : j < 400
  · rw [if_pos hk, if_pos (by omega), show (80 + j) / 80 = j / 80 + 1 by omega, show (80 + j) % 80 = j % 80 by omega]
  · rw [if_neg hk, if_neg (by omega)]
theorem bsv_up {sv : Nat → zF} {u s : zF} {kn : Nat} (h : ∀ j, j < 480 → u j = if 80 * kn ≤ j ∧ j < 80 * kn + 80 then s (j - 80 * kn) else bsv sv j) : ∀ j, j < 480 → u j = bsv (va_up sv kn s) j := by
  intro j hj
  rw [h j hj]
  unfold bsv va_up
  by_cases hk : 80 * kn ≤ j ∧ j < 80 * kn + 80
  · rw [if_pos hk, if_pos (show j / 80 = kn by omega), show j % 80 = j - 80 * kn by omega]
  · rw [if_neg hk, if_neg (show ¬ j / 80 = kn by omega)]
theorem zsh1 {sv : Nat → zF} {u : zF} {k : Nat} (hu : ∀ j, j < 480 → u j = if j < k then bsv sv (80 + j) else bsv sv j) (hk : k < 400) : ∀ j, j < 480 → upd u k (u (80 + k)) j = if j < k + 1 then bsv sv (80 + j) else bsv sv j := by
  intro j hj
  by_cases h : j = k
  · subst h
    rw [pk_us, hu (80 + j) (by omega), if_neg (by omega), if_pos (by omega)]
  · rw [pk_un h, hu j hj]
    by_cases h2 : j < k
    · rw [if_pos h2, if_pos (by omega)]
    · rw [if_neg h2, if_neg (by omega)]
theorem zsv1 {sv : Nat → zF} {u s : zF} {kn k : Nat} (hu : ∀ j, j < 480 → u j = if 80 * kn ≤ j ∧ j < 80 * kn + k then s (j - 80 * kn) else bsv sv j) : ∀ j, j < 480 → upd u (80 * kn + k) (s k) j = if 80 * kn ≤ j ∧ j < 80 * kn + (k + 1) then s (j - 80 * kn) else bsv sv j := by
  intro j hj
  by_cases h : j = 80 * kn + k
  · subst h
    rw [pk_us, if_pos (by omega), show 80 * kn + k - 80 * kn = k by omega]
  · rw [pk_un h, hu j hj]
    by_cases h2 : 80 * kn ≤ j ∧ j < 80 * kn + k
    · rw [if_pos h2, if_pos (by omega)]
    · rw [if_neg h2, if_neg (by omega)]
theorem zin {lo hi : Int32} {a l n : Nat} (hl : lo = nI l) (hh : hi = nI n) (h1 : l ≤ a) (h2 : a ≤ n) (hn : n < 2147483648) : lo ≤ nI a ∧ nI a ≤ hi := ⟨(z_le hl rfl (by omega) (by omega)).mpr h1, (z_le rfl hh (by omega) hn).mpr h2⟩
theorem frS_bd (w j : Nat) : 0 ≤ (frS w j).toInt ∧ (frS w j).toInt ≤ 1000 := by
  unfold frS
  split
  · decide
  · split
    · decide
    · split
      · decide
      · split <;> decide
theorem rpS_bd (j : Nat) : 0 ≤ (rpS j).toInt ∧ (rpS j).toInt ≤ 1000 := by
  unfold rpS
  split <;> decide
theorem zun1 {sv : Nat → zF} {u s : zF} {kn k : Nat} (hu : ∀ j, j < 80 → u j = if j < k then bsv sv (80 * kn + j) else s j) : ∀ j, j < 80 → upd u k (bsv sv (80 * kn + k)) j = if j < k + 1 then bsv sv (80 * kn + j) else s j := by
  intro j hj
  by_cases h : j = k
  · subst h
    rw [pk_us, if_pos (by omega)]
  · rw [pk_un h, hu j hj]
    by_cases h2 : j < k
    · rw [if_pos h2, if_pos (by omega)]
    · rw [if_neg h2, if_neg (by omega)]
theorem zun2 {sv : Nat → zF} {u s : zF} {kn : Nat} (hu : ∀ j, j < 80 → u j = if j < 80 then bsv sv (80 * kn + j) else s j) : ∀ j, j < 80 → u j = sv kn j := by
  intro j hj
  rw [hu j hj, if_pos hj]
  unfold bsv
  rw [show (80 * kn + j) / 80 = kn by omega, show (80 * kn + j) % 80 = j by omega]
/-- the times of the row, moved to the light, zeroes left behind -/
theorem zrc1 {s u l : zF} {k : Nat} (hu : ∀ j, j < 80 → u j = if 49 ≤ j ∧ j < 49 + k then 0 else s j) : ∀ j, j < 80 → upd u (49 + k) 0 j = if 49 ≤ j ∧ j < 49 + (k + 1) then 0 else s j := by
  intro j hj
  by_cases h : j = 49 + k
  · subst h
    rw [pk_us, if_pos (by omega)]
  · rw [pk_un h, hu j hj]
    by_cases h2 : 49 ≤ j ∧ j < 49 + k
    · rw [if_pos h2, if_pos (by omega)]
    · rw [if_neg h2, if_neg (by omega)]
theorem zrc2 {s u l : zF} {k : Nat} (hl : ∀ j, j < k → l j = s (49 + j)) {x : Int32} (hx : x = s (49 + k)) : ∀ j, j < k + 1 → upd l k x j = s (49 + j) := by
  intro j hj
  by_cases h : j = k
  · subst h
    rw [pk_us, hx]
  · rw [pk_un h]
    exact hl j (by omega)
def rcS (s : zF) : zF := upd (fun j => if 49 ≤ j ∧ j < 79 then 0 else s j) 48 0
/-- the least k from 1 to 10 with F k no refusal; or -1 -/
def lsP (F : Nat → Int32) (v : Int32) : Prop := (∃ k : Nat, 1 ≤ k ∧ k ≤ 10 ∧ v = nI k ∧ ¬ 0 < F k ∧ ∀ j, 1 ≤ j → j < k → 0 < F j) ∨ (v = -1 ∧ ∀ j, 1 ≤ j → j ≤ 10 → 0 < F j)
/-- frames of the address a, code 0, toggle 0, strength 10, received one after another -/
def tcS (c a : Nat) (s : zF) : Nat → zF
  | 0 => s
  | i + 1 => (geR (tcS c a s i) c (LO (frS (wd a 0 0)) 21 (tcS c a s i 0) (tcS c a s i 1) 10)).2
def tcA (c a : Nat) (s : zF) (i : Nat) : Int32 := (geR (tcS c a s i) c (LO (frS (wd a 0 0)) 21 (tcS c a s i 0) (tcS c a s i 1) 10)).1
def tcP (F : Nat → Int32) (v : Int32) : Prop := (∃ k : Nat, k ≤ 20 ∧ v = nI k ∧ ¬ 0 < F k ∧ ∀ j, j < k → 0 < F j) ∨ (v = -1 ∧ ∀ j, j < 21 → 0 < F j)
def tinv (c a : Nat) (x : zF) : Prop := x 2 = nI a ∧ (0 ≤ (x 0 * x 1 / 20).toInt ∧ (x 0 * x 1 / 20).toInt ≤ 1000) ∧ (0 ≤ x 3 → x 3 = nI c)
theorem tc_step {c a : Nat} {s u : zF} {i : Nat} {r : Int32} (h : (r, u) = geR (tcS c a s i) c (LO (frS (wd a 0 0)) 21 (tcS c a s i 0) (tcS c a s i 1) 10)) : r = tcA c a s i ∧ u = tcS c a s (i + 1) := ⟨congrArg Prod.fst h, congrArg Prod.snd h⟩
def dg1 (h : Int64) (x : Int32) : Int64 := 31 * h + x.toInt64
def dgv (v0 v1 v2 v3 v4 v5 v6 v7 v8 v9 : Int32) : Int64 := dg1 (dg1 (dg1 (dg1 (dg1 (dg1 (dg1 (dg1 (dg1 (dg1 8302 v0) v1) v2) v3) v4) v5) v6) v7) v8) v9
def dga (f0 f1 : zF) (h : Int64) : Nat → Int64
  | 0 => h
  | k + 1 => dg1 (dg1 (dga f0 f1 h k) (f0 k)) (f1 k)
def dgr (f : zF) (h : Int64) : Nat → Int64
  | 0 => h
  | k + 1 => dg1 (dgr f h k) (f (k + 1))
end MODEL3
