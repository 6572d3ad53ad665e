/-! ===== the class's state and the reference's: the same, and kept by what light does ===== -/
section REL
set_option maxRecDepth 100000 in
theorem zk_g0 : ∀ gl, gl < 10 → ∀ gn, gn < 11 → gaF 0 (nI gl) (nI gn) = nI (if 10 - gl < gn + 1 then 10 - gl else gn + 1) := by decide +kernel
set_option maxRecDepth 100000 in
theorem zk_g1 : ∀ gl, gl < 10 → ∀ gn, gn < 11 → 1 ≤ gn → gaF 1 (nI gl) (nI gn) = nI (if gn - 1 < 1 then 1 else gn - 1) := by decide +kernel
set_option maxRecDepth 100000 in
theorem zk_r0 : ∀ gl, gl < 10 → ∀ gn, gn < 11 → (if (nI gn + 1) < (10 - nI gl) then (nI gn + 1) else (10 - nI gl)) = nI (if 10 - gl < gn + 1 then 10 - gl else gn + 1) := by decide +kernel
set_option maxRecDepth 100000 in
theorem zk_r1 : ∀ gn, gn < 11 → 1 ≤ gn → (if 1 < nI gn then (nI gn - 1) else 1) = nI (if gn - 1 < 1 then 1 else gn - 1) := by decide +kernel
theorem gain_rel {ms : Int32} {gl gn : Nat} {g s : zF} (hms : ms = 0 ∨ ms = 1) (h1 : gl ≤ 9) (h2 : 1 ≤ gn) (h3 : gn ≤ 10) (g0 : g 0 = nI gl) (g1 : g 1 = nI gn) (e0 : s 0 = nI gl) (e1 : s 1 = nI gn) :
    ∃ n', 1 ≤ n' ∧ n' ≤ 10 ∧ gaF ms (g 0) (g 1) = nI n' ∧ nI n' = gnR ms s := by
  unfold gnR
  rw [g0, g1, e0, e1]
  rcases hms with rfl | rfl
  · exact ⟨if 10 - gl < gn + 1 then 10 - gl else gn + 1, by split <;> omega, by split <;> omega, zk_g0 gl (by omega) gn (by omega), by rw [if_pos rfl]; exact (zk_r0 gl (by omega) gn (by omega)).symm⟩
  · exact ⟨if gn - 1 < 1 then 1 else gn - 1, by split <;> omega, by split <;> omega, zk_g1 gl (by omega) gn (by omega) h2, ((if_neg (by decide)).trans (zk_r1 gn (by omega) h2)).symm⟩
theorem z_sub1 (x y : Int32) : x + 1 - y = x - y + 1 := by
  rw [Int32.sub_eq_add_neg, Int32.sub_eq_add_neg, Int32.add_assoc, Int32.add_comm 1 (-y), ← Int32.add_assoc]
theorem z_sub4 (x : Int32) : x + 1 - 1 = x := Int32.add_sub_cancel x 1
theorem z_sub2 (x y : Int32) : x - (y + 1) = x - y - 1 := by
  rw [← Int32.sub_sub]
theorem z_sub3 (x y : Int32) : x - 1 - y = x - y - 1 := by
  rw [Int32.sub_sub, Int32.sub_sub, Int32.add_comm]
theorem acN_same {s s' : zF} (h8 : s' 8 = s 8) : ∀ k, (∀ j, 1 ≤ j → j ≤ k → s' (9 + j) = s (9 + j)) → acN s' k = acN s k := by
  intro k
  induction k with
  | zero => intro _; exact h8
  | succ k ih =>
    intro h
    show acN s' k - s' (9 + (k + 1)) = acN s k - s (9 + (k + 1))
    rw [ih (fun j h1 h2 => h j h1 (by omega)), h (k + 1) (by omega) (by omega)]
theorem acN_up {s s' : zF} (h8 : s' 8 = s 8 + 1) : ∀ k, (∀ j, 1 ≤ j → j ≤ k → s' (9 + j) = s (9 + j)) → acN s' k = acN s k + 1 := by
  intro k
  induction k with
  | zero => intro _; exact h8
  | succ k ih =>
    intro h
    show acN s' k - s' (9 + (k + 1)) = acN s k - s (9 + (k + 1)) + 1
    rw [ih (fun j h1 h2 => h j h1 (by omega)), h (k + 1) (by omega) (by omega), z_sub1]
theorem acN_rf {s s' : zF} {r : Nat} (hr : 1 ≤ r) (h8 : s' 8 = s 8 + 1) (hr1 : s' (9 + r) = s (9 + r) + 1) : ∀ k, (∀ j, 1 ≤ j → j ≤ k → ¬ j = r → s' (9 + j) = s (9 + j)) → acN s' k = if r ≤ k then acN s k else acN s k + 1 := by
  intro k
  induction k with
  | zero =>
    intro _
    rw [if_neg (by omega)]
    exact h8
  | succ k ih =>
    intro h
    have h' := ih (fun j h1 h2 h3 => h j h1 (by omega) h3)
    show acN s' k - s' (9 + (k + 1)) = if r ≤ k + 1 then acN s k - s (9 + (k + 1)) else acN s k - s (9 + (k + 1)) + 1
    rw [h']
    by_cases hk : r = k + 1
    · subst hk
      rw [hr1, if_neg (by omega), if_pos (Nat.le_refl _), z_sub2, z_sub1, z_sub4]
    · rw [h (k + 1) (by omega) (by omega) (fun z => hk z.symm)]
      by_cases hl : r ≤ k
      · rw [if_pos hl, if_pos (by omega)]
      · rw [if_neg hl, if_neg (by omega), z_sub1]
/-- the numbers; since: at most B -/
def relN (B : Nat) (g s : zF) : Prop := ∃ gl gn ad : Nat, gl ≤ 9 ∧ 1 ≤ gn ∧ gn ≤ 10 ∧ ad < 8 ∧ g 0 = nI gl ∧ s 0 = nI gl ∧ g 1 = nI gn ∧ s 1 = nI gn ∧ g 2 = nI ad ∧ s 2 = nI ad ∧ okg g ∧
  ((g 6 = -1 ∧ s 6 = -1 ∧ s 3 = -1) ∨ ∃ sn, sn ≤ B ∧ g 6 = nI sn ∧ s 6 = nI sn ∧ s 3 = g 3 ∧ s 4 = g 4) ∧ s 5 = (if rmb g then g 5 else 0) ∧ s 7 = g 7 ∧ s 8 = g 8
/-- with actions, how often done, refusals -/
def relQ (B : Nat) (g f0 f1 f2 s : zF) : Prop := relN B g s ∧ (∀ k, k < 16 → s (16 + k) = f0 k ∧ ∃ x, x ≤ 2 ∧ f0 k = nI x) ∧ (∀ k, k < 16 → s (32 + k) = f1 k) ∧ (∀ k, 1 ≤ k → k ≤ 6 → s (9 + k) = f2 k) ∧ g 9 = acN s 6
theorem m1_ne (n : Nat) (h : n < 2147483648) : ¬ nI n = -1 := by
  intro z
  have e := congrArg Int32.toInt z
  rw [nI_toInt h] at e
  have e1 : (-1 : Int32).toInt = -1 := by decide
  omega
theorem rel_rm {B : Nat} {g s : zF} (h : relN B g s) (hB : B < 100000000) : rmb g ↔ rmR s := by
  obtain ⟨gl, gn, ad, -, -, -, -, -, -, -, -, -, -, ho, h6, -⟩ := h
  rcases h6 with ⟨a1, a2, a3⟩ | ⟨sn, a0, a1, a2, a3, a4⟩
  · constructor
    · intro z; exact absurd a1 z.1
    · intro z
      have := z.1
      rw [a3] at this
      exact absurd this (by decide)
  · have hp : 0 ≤ s 3 := by
      rw [a3, ho.1]
      exact nI_pos' (by have := ho.2; omega)
    have hn : ¬ g 6 = -1 := by rw [a1]; exact m1_ne sn (by omega)
    constructor
    · intro z
      exact ⟨hp, by rw [a2, ← a1]; exact z.2⟩
    · intro z
      exact ⟨hn, by rw [a1, ← a2]; exact z.2⟩
/-- remembered: code, toggle, holds are the same -/
theorem rel_rmd {B : Nat} {g s : zF} (h : relN B g s) (hr : rmb g) : s 3 = g 3 ∧ s 4 = g 4 ∧ s 5 = g 5 := by
  obtain ⟨gl, gn, ad, -, -, -, -, -, -, -, -, -, -, ho, h6, h5, -⟩ := h
  rcases h6 with ⟨a1, a2, a3⟩ | ⟨sn, a0, a1, a2, a3, a4⟩
  · exact absurd a1 hr.1
  · exact ⟨a3, a4, by rw [h5, if_pos hr]⟩
theorem rf_un {s : zF} {r j : Nat} (h : ¬ j = 9 + r) : rfF s r j = s j := pk_un h
theorem rel_ref {B r n' : Nat} {g f0 f1 f2 s : zF} (h : relQ B g f0 f1 f2 s) (hr1 : 1 ≤ r) (hr6 : r ≤ 6) (hn1 : 1 ≤ n') (hn2 : n' ≤ 10) :
    relQ B (upd (upd g 8 (g 8 + 1)) 1 (nI n')) f0 f1 (upd f2 r (f2 r + 1)) (upd (upd (rfF s r) 1 (nI n')) 8 (rfF s r 8 + 1)) := by
  obtain ⟨⟨gl, gn, ad, b1, b2, b3, b4, g0, s0, g1, s1, g2, s2, ho, h6, h5, h7, h8⟩, ha, hd, hf, hc⟩ := h
  have e : ∀ j, j < 9 → rfF s r j = s j := fun j hj => rf_un (by omega)
  have u : ∀ j, 9 ≤ j → (upd (upd (rfF s r) 1 (nI n')) 8 (rfF s r 8 + 1)) j = rfF s r j := fun j hj => by rw [pk_un (by omega), pk_un (by omega)]
  refine ⟨⟨gl, n', ad, b1, hn1, hn2, b4, g0, (e 0 (by omega)).trans s0, rfl, rfl, g2, (e 2 (by omega)).trans s2, ho, ?_, (e 5 (by omega)).trans h5, (e 7 (by omega)).trans h7, ?_⟩, fun k hk => ?_, fun k hk => ?_, fun k h1 h2 => ?_, ?_⟩
  · rcases h6 with ⟨a1, a2, a3⟩ | ⟨sn, a0, a1, a2, a3, a4⟩
    · exact Or.inl ⟨a1, (e 6 (by omega)).trans a2, (e 3 (by omega)).trans a3⟩
    · exact Or.inr ⟨sn, a0, a1, (e 6 (by omega)).trans a2, (e 3 (by omega)).trans a3, (e 4 (by omega)).trans a4⟩
  · show rfF s r 8 + 1 = g 8 + 1
    rw [e 8 (by omega), h8]
  · rw [u _ (by omega), rf_un (by omega)]
    exact ha k hk
  · rw [u _ (by omega), rf_un (by omega)]
    exact hd k hk
  · rw [u _ (by omega)]
    by_cases hk : k = r
    · subst hk
      rw [pk_us, show rfF s k (9 + k) = s (9 + k) + 1 from pk_us, hf k h1 h2]
    · rw [pk_un hk, rf_un (by omega)]
      exact hf k h1 h2
  · show g 9 = _
    rw [acN_rf (s := s) (r := r) hr1 (by show rfF s r 8 + 1 = s 8 + 1; rw [e 8 (by omega)]) (by rw [u _ (by omega)]; exact pk_us) 6 (fun j h1 h2 h3 => by rw [u _ (by omega), rf_un (by omega)]), if_pos hr6]
    exact hc
theorem ho_un {s : zF} {c j : Nat} (h1 : ¬ j = 32 + c) (h2 : ¬ j = 5) (h3 : ¬ j = 6) : hoR s c j = s j := by
  unfold hoR
  rw [pk_un h1, pk_un h2, pk_un h3]
theorem ho_5 {s : zF} {c : Nat} : hoR s c 5 = s 5 + 1 := by
  unfold hoR
  rw [pk_un (by omega)]
  rfl
theorem ho_6 {s : zF} {c : Nat} : hoR s c 6 = 0 := by
  unfold hoR
  rw [pk_un (by omega)]
  rfl
theorem ho_d {s : zF} {c : Nat} (hc : c < 16) : hoR s c (32 + c) = s (32 + c) + (if s (16 + c) = 2 ∧ (s 5 + 1) - (s 5 + 1) / 2 * 2 = 0 then 1 else 0) := by
  unfold hoR
  rw [pk_us, pk_un (j := 32 + c) (by omega), pk_un (j := 32 + c) (by omega), pk_un (j := 16 + c) (by omega), pk_un (j := 16 + c) (by omega)]
theorem rel_hold {B c n' : Nat} {g f0 f1 f2 s : zF} (h : relQ B g f0 f1 f2 s) (hrm : rmb g) (hc9 : g 3 = nI c) (hc : c < 16) (hn1 : 1 ≤ n') (hn2 : n' ≤ 10) :
    relQ B (upd (upd (upd (upd (upd g 8 (g 8 + 1)) 1 (nI n')) 9 (g 9 + 1)) 6 0) 5 (g 5 + 1)) f0 (if f0 c = 2 ∧ (g 5 + 1) - (g 5 + 1) / 2 * 2 = 0 then upd f1 c (f1 c + 1) else f1) f2 (upd (upd (hoR s c) 1 (nI n')) 8 (hoR s c 8 + 1)) := by
  obtain ⟨e3, e4, e5⟩ := rel_rmd h.1 hrm
  obtain ⟨⟨gl, gn, ad, b1, b2, b3, b4, g0, s0, g1, s1, g2, s2, ho, h6, h5, h7, h8⟩, ha, hd, hf, hac⟩ := h
  have e : ∀ j, j < 32 → ¬ j = 5 → ¬ j = 6 → hoR s c j = s j := fun j hj h1 h2 => ho_un (by omega) h1 h2
  have u : ∀ j, 9 ≤ j → (upd (upd (hoR s c) 1 (nI n')) 8 (hoR s c 8 + 1)) j = hoR s c j := fun j hj => by rw [pk_un (by omega), pk_un (by omega)]
  refine ⟨⟨gl, n', ad, b1, hn1, hn2, b4, g0, (e 0 (by omega) (by omega) (by omega)).trans s0, rfl, rfl, g2, (e 2 (by omega) (by omega) (by omega)).trans s2, ho, Or.inr ⟨0, Nat.zero_le _, rfl, ho_6, (e 3 (by omega) (by omega) (by omega)).trans e3, (e 4 (by omega) (by omega) (by omega)).trans e4⟩, ?_, (e 7 (by omega) (by omega) (by omega)).trans h7, ?_⟩, fun k hk => ?_, fun k hk => ?_, fun k h1 h2 => ?_, ?_⟩
  · rw [if_pos (show rmb _ from ⟨by show ¬ (0 : Int32) = -1; decide, by show (0 : Int32) ≤ 60; decide⟩)]
    show hoR s c 5 = g 5 + 1
    rw [ho_5, e5]
  · show hoR s c 8 + 1 = g 8 + 1
    rw [e 8 (by omega) (by omega) (by omega), h8]
  · rw [u _ (by omega), e _ (by omega) (by omega) (by omega)]
    exact ha k hk
  · rw [u _ (by omega)]
    by_cases hk2 : k = c
    · subst hk2
      rw [ho_d hk, (ha k hk).1, hd k hk, e5]
      by_cases hx : f0 k = 2 ∧ (g 5 + 1) - (g 5 + 1) / 2 * 2 = 0
      · rw [if_pos hx, if_pos hx, pk_us]
      · rw [if_neg hx, if_neg hx, Int32.add_zero]
    · rw [ho_un (by omega) (by omega) (by omega), hd k hk]
      by_cases hx : f0 c = 2 ∧ (g 5 + 1) - (g 5 + 1) / 2 * 2 = 0
      · rw [if_pos hx, pk_un hk2]
      · rw [if_neg hx]
  · rw [u _ (by omega), e _ (by omega) (by omega) (by omega)]
    exact hf k h1 h2
  · show g 9 + 1 = _
    rw [acN_up (s := s) (by show hoR s c 8 + 1 = s 8 + 1; rw [e 8 (by omega) (by omega) (by omega)]) 6 (fun j h1 h2 => by rw [u _ (by omega), e _ (by omega) (by omega) (by omega)]), hac]
theorem nw_un {s : zF} {c j : Nat} {t : Int32} (h1 : ¬ j = 32 + c) (h3 : ¬ j = 3) (h4 : ¬ j = 4) (h5 : ¬ j = 5) (h6 : ¬ j = 6) (h7 : ¬ j = 7) : nwR s c t j = s j := by
  unfold nwR
  rw [pk_un h1, pk_un h7, pk_un h5, pk_un h4, pk_un h3, pk_un h6]
theorem nw_lo {s : zF} {c j : Nat} {t : Int32} (h1 : j < 32) : nwR s c t j = (upd (upd (upd (upd (upd s 6 0) 3 (nI c)) 4 t) 5 0) 7 (s 7 + 1)) j := by
  unfold nwR
  rw [pk_un (by omega)]
theorem nw_d {s : zF} {c : Nat} {t : Int32} : nwR s c t (32 + c) = s (32 + c) + (if 0 < s (16 + c) then 1 else 0) := by
  unfold nwR
  rw [pk_us, pk_un (j := 32 + c) (by omega), pk_un (j := 32 + c) (by omega), pk_un (j := 32 + c) (by omega), pk_un (j := 32 + c) (by omega), pk_un (j := 32 + c) (by omega), pk_un (j := 16 + c) (by omega), pk_un (j := 16 + c) (by omega), pk_un (j := 16 + c) (by omega), pk_un (j := 16 + c) (by omega), pk_un (j := 16 + c) (by omega)]
theorem act_pos {x : Nat} (h : x ≤ 2) : (nI x = 0) ↔ ¬ 0 < nI x := by
  rcases (show x = 0 ∨ x = 1 ∨ x = 2 by omega) with rfl | rfl | rfl <;> decide
theorem rel_new {B c n' : Nat} {t : Int32} {g f0 f1 f2 s : zF} (h : relQ B g f0 f1 f2 s) (hc : c < 16) (hn1 : 1 ≤ n') (hn2 : n' ≤ 10) :
    relQ B (upd (upd (upd (upd (upd (upd (upd (upd g 8 (g 8 + 1)) 1 (nI n')) 9 (g 9 + 1)) 6 0) 7 (g 7 + 1)) 5 0) 3 (nI c)) 4 t) f0 (if f0 c = 0 then f1 else upd f1 c (f1 c + 1)) f2 (upd (upd (nwR s c t) 1 (nI n')) 8 (nwR s c t 8 + 1)) := by
  obtain ⟨⟨gl, gn, ad, b1, b2, b3, b4, g0, s0, g1, s1, g2, s2, ho, h6, h5, h7, h8⟩, ha, hd, hf, hac⟩ := h
  have u : ∀ j, 9 ≤ j → (upd (upd (nwR s c t) 1 (nI n')) 8 (nwR s c t 8 + 1)) j = nwR s c t j := fun j hj => by rw [pk_un (by omega), pk_un (by omega)]
  refine ⟨⟨gl, n', ad, b1, hn1, hn2, b4, g0, (nw_lo (by omega)).trans s0, rfl, rfl, g2, (nw_lo (by omega)).trans s2, okg_of rfl hc, Or.inr ⟨0, Nat.zero_le _, rfl, nw_lo (by omega), nw_lo (by omega), nw_lo (by omega)⟩, ?_, ?_, ?_⟩, fun k hk => ?_, fun k hk => ?_, fun k h1 h2 => ?_, ?_⟩
  · rw [if_pos (show rmb _ from ⟨by show ¬ (0 : Int32) = -1; decide, by show (0 : Int32) ≤ 60; decide⟩)]
    exact nw_lo (by omega)
  · show nwR s c t 7 = g 7 + 1
    rw [nw_lo (by omega), ← h7]
    rfl
  · show nwR s c t 8 + 1 = g 8 + 1
    rw [nw_un (by omega) (by omega) (by omega) (by omega) (by omega) (by omega), h8]
  · rw [u _ (by omega), nw_un (by omega) (by omega) (by omega) (by omega) (by omega) (by omega)]
    exact ha k hk
  · rw [u _ (by omega)]
    by_cases hk2 : k = c
    · subst hk2
      obtain ⟨x, hx, hx2⟩ := (ha k hk).2
      rw [nw_d, (ha k hk).1, hd k hk, hx2]
      by_cases hz : nI x = 0
      · rw [if_pos hz, if_neg ((act_pos hx).mp hz), Int32.add_zero]
      · rw [if_neg hz, if_pos (Decidable.byContradiction (fun y => hz ((act_pos hx).mpr y))), pk_us]
    · rw [nw_un (by omega) (by omega) (by omega) (by omega) (by omega) (by omega), hd k hk]
      by_cases hz : f0 c = 0
      · rw [if_pos hz]
      · rw [if_neg hz, pk_un hk2]
  · rw [u _ (by omega), nw_un (by omega) (by omega) (by omega) (by omega) (by omega) (by omega)]
    exact hf k h1 h2
  · show g 9 + 1 = _
    rw [acN_up (s := s) (by show nwR s c t 8 + 1 = s 8 + 1; rw [nw_un (by omega) (by omega) (by omega) (by omega) (by omega) (by omega)]) 6 (fun j h1 h2 => by rw [u _ (by omega), nw_un (by omega) (by omega) (by omega) (by omega) (by omega) (by omega)]), hac]
theorem LO_ms (S : zF) (n : Nat) (gl gn st : Int32) : (LO S n gl gn st).1 = 0 ∨ (LO S n gl gn st).1 = 1 := lis_ms S (gl * gn / 20) (decide (st < 11 - gn)) (fun _ => 0) n
/-- what light must say: was a burst missed; the meaning -/
def okO (o : Int32 × Int32 × Nat) : Prop := (o.1 = 0 ∨ o.1 = 1) ∧ (o.2.1 = 1 ∨ o.2.1 = 2 ∨ o.2.1 = 3 ∨ o.2.1 = 4 ∨ o.2.1 = 8 ∨ o.2.1 = 7)
theorem LO_ok (S : zF) (n : Nat) (gl gn st : Int32) : okO (LO S n gl gn st) := ⟨LO_ms S n gl gn st, LO_cases S n gl gn st⟩
/-- the reference's answer and new numbers; beyond 48 nothing changes -/
def hrP (B : Nat) (f0 s : zF) (x : Int32 × zF × zF × zF) (y : Int32 × zF) : Prop := x.1 = y.1 ∧ relQ B x.2.1 f0 x.2.2.1 x.2.2.2 y.2 ∧ ∀ j, 48 ≤ j → y.2 j = s j
theorem hear_o {B : Nat} {g f0 f1 f2 s : zF} {o : Int32 × Int32 × Nat} (h : relQ B g f0 f1 f2 s) (hB : B < 100000000) (ho : okO o) :
    hrP B f0 s (hearF g f0 f1 f2 (g 3).toNatClampNeg o) (geR s (s 3).toNatClampNeg o) := by
  have hN := h.1
  obtain ⟨gl, gn, ad, b1, b2, b3, b4, g0, s0, g1, s1, g2, s2, hog, h6, h5, h7, h8⟩ := h.1
  -- a refusal
  have REF : ∀ r, 1 ≤ r → r ≤ 6 → ansF g o.2.1 o.2.2 = nI r → deR s o.2.1 o.2.2 (s 3).toNatClampNeg = (nI r, rfF s r) → hrP B f0 s (hearF g f0 f1 f2 (g 3).toNatClampNeg o) (geR s (s 3).toNatClampNeg o) := by
    intro r hr1 hr6 ha hd
    have e : ∀ j, j < 9 → rfF s r j = s j := fun j hj => rf_un (by omega)
    obtain ⟨n', c1, c2, c3, c4⟩ := gain_rel (s := rfF s r) ho.1 b1 b2 b3 g0 g1 ((e 0 (by omega)).trans s0) ((e 1 (by omega)).trans s1)
    have hna : ¬ (nI r = 0 ∨ nI r = -1) := fun z => z.elim (fun y => absurd ((z_eq (a := r) (b := 0) rfl rfl (by omega) (by omega)).mp y) (by omega)) (fun y => m1_ne r (by omega) y)
    rw [← hearF_ref (c := (g 3).toNatClampNeg) ha.symm hna rfl hr6, ← geR_of hd.symm c4, c3]
    exact ⟨rfl, rel_ref h hr1 hr6 c1 c2, fun j hj => by show upd (upd (rfF s r) 1 _) 8 _ j = s j; rw [pk_un (by omega), pk_un (by omega), rf_un (by omega)]⟩
  -- a hold
  have HOLD : rmb g → ansF g o.2.1 o.2.2 = -1 → deR s o.2.1 o.2.2 (s 3).toNatClampNeg = (-1, hoR s (s 3).toNatClampNeg) → hrP B f0 s (hearF g f0 f1 f2 (g 3).toNatClampNeg o) (geR s (s 3).toNatClampNeg o) := by
    intro hrm ha hd
    obtain ⟨e3, e4, e5⟩ := rel_rmd hN hrm
    have hc := hog.2
    rw [e3] at hd ⊢
    obtain ⟨n', c1, c2, c3, c4⟩ := gain_rel (s := hoR s (g 3).toNatClampNeg) ho.1 b1 b2 b3 g0 g1 ((ho_un (by omega) (by omega) (by omega)).trans s0) ((ho_un (by omega) (by omega) (by omega)).trans s1)
    rw [← hearF_acc (c := (g 3).toNatClampNeg) (k3 := nI (o.2.2 / 2 % 2)) ha.symm (Or.inr rfl) (fun _ => rfl), ← geR_of hd.symm c4, c3]
    rw [if_neg (by decide)]
    have hrel := rel_hold h hrm hog.1 hc c1 c2
    refine ⟨rfl, ?_, fun j hj => by show upd (upd (hoR s _) 1 _) 8 _ j = s j; rw [pk_un (by omega), pk_un (by omega), ho_un (by omega) (by omega) (by omega)]⟩
    unfold accF
    rw [if_neg (by decide)]
    exact hrel
  have hrr := rel_rm hN hB
  have R14 : ∀ r, 1 ≤ r → r ≤ 4 → o.2.1 = nI r → hrP B f0 s (hearF g f0 f1 f2 (g 3).toNatClampNeg o) (geR s (s 3).toNatClampNeg o) := by
    intro r h1 h4 hm
    refine REF r h1 (by omega) ?_ (deR_r hm (by omega))
    rw [ansF_r (by rw [hm]; exact mt (z_eq (b := 8) rfl rfl (by omega) (by omega)).mp (by omega)) (by rw [hm]; exact mt (z_eq (b := 7) rfl rfl (by omega) (by omega)).mp (by omega)), hm]
  rcases ho.2 with hm | hm | hm | hm | hm | hm
  · exact R14 1 (by omega) (by omega) hm
  · exact R14 2 (by omega) (by omega) hm
  · exact R14 3 (by omega) (by omega) hm
  · exact R14 4 (by omega) (by omega) hm
  · by_cases hrm : rmb g
    · exact HOLD hrm ((ansF_8 hm).trans (if_pos hrm)) (deR_8p hm (hrr.mp hrm))
    · exact REF 6 (by omega) (by omega) ((ansF_8 hm).trans (if_neg hrm)) (deR_8n hm (fun z => hrm (hrr.mpr z)))
  · by_cases had : nI (o.2.2 / 64) = g 2
    · have had' : nI (o.2.2 / 64) = s 2 := had.trans (g2.trans s2.symm)
      by_cases hsm : rmb g ∧ nI (o.2.2 / 4 % 16) = g 3 ∧ nI (o.2.2 / 2 % 2) = g 4
      · obtain ⟨e3, e4, -⟩ := rel_rmd hN hsm.1
        refine HOLD hsm.1 ((ansF_f hm had).trans (if_pos hsm)) ((deR_f hm had').trans ?_)
        unfold acR
        rw [if_pos ⟨hrr.mp hsm.1, by rw [e3]; exact hsm.2.1.symm, by rw [e4]; exact hsm.2.2.symm⟩]
      · have hns : ¬ (rmR s ∧ s 3 = nI (o.2.2 / 4 % 16) ∧ s 4 = nI (o.2.2 / 2 % 2)) := by
          intro z
          obtain ⟨e3, e4, -⟩ := rel_rmd hN (hrr.mpr z.1)
          exact hsm ⟨hrr.mpr z.1, by rw [← e3]; exact z.2.1.symm, by rw [← e4]; exact z.2.2.symm⟩
        have ha := (ansF_f hm had).trans (if_neg hsm)
        have hd : deR s o.2.1 o.2.2 (s 3).toNatClampNeg = (0, nwR s (o.2.2 / 4 % 16) (nI (o.2.2 / 2 % 2))) := by
          rw [deR_f hm had']
          unfold acR
          rw [if_neg hns]
        have hc : o.2.2 / 4 % 16 < 16 := Nat.mod_lt _ (by decide)
        obtain ⟨n', c1, c2, c3, c4⟩ := gain_rel (s := nwR s (o.2.2 / 4 % 16) (nI (o.2.2 / 2 % 2))) ho.1 b1 b2 b3 g0 g1 ((nw_lo (by omega)).trans s0) ((nw_lo (by omega)).trans s1)
        rw [← hearF_acc (c := (g 3).toNatClampNeg) (k3 := nI (o.2.2 / 2 % 2)) ha.symm (Or.inl rfl) (fun _ => rfl), ← geR_of hd.symm c4, c3]
        rw [if_pos rfl]
        have hrel := rel_new (t := nI (o.2.2 / 2 % 2)) h hc c1 c2
        refine ⟨rfl, ?_, fun j hj => by show upd (upd (nwR s _ _) 1 _) 8 _ j = s j; rw [pk_un (by omega), pk_un (by omega), nw_un (by omega) (by omega) (by omega) (by omega) (by omega) (by omega)]⟩
        unfold accF
        rw [if_pos rfl]
        exact hrel
    · exact REF 5 (by omega) (by omega) (ansF_5 hm had) (deR_5 hm (fun z => had (z.trans (s2.trans g2.symm))))
end REL
