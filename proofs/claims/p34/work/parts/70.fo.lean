section FO
theorem frV_ans {S : zSt} {N : zN} {n a c t st : Nat} (hv : vw S N) (hb : bnd n N) (hn : n ≤ 9000) (ha : a < 8) (hc : c < 16) (ht : t < 2) (hst : st ≤ 10) : ansF S.1 (LO (frS (wd a c t)) 21 (S.1 0) (S.1 1) (nI st)).2.1 (LO (frS (wd a c t)) 21 (S.1 0) (S.1 1) (nI st)).2.2 = (frV N a c t st).1 := by
  obtain ⟨e, ho⟩ := fr_okO hv hb ha hc ht hst
  rw [ansF_N hv hb (by omega) ho, e]
  rfl
/-- a frame of the receiver's own address is accepted if it is heard -/
theorem fr_own {N : zN} {n c t st : Nat} (hb : bnd n N) (hc : c < 16) (ht : t < 2) : (bad N st → ∃ k, 1 ≤ k ∧ k ≤ 5 ∧ (frV N (N 2) c t st).1 = nI k) ∧ (¬ bad N st → ((frV N (N 2) c t st).1 = 0 ∨ (frV N (N 2) c t st).1 = -1)) := by
  have b3 := hb.1.2.2.2.1
  rcases fr_cases (st := st) hb (show N 2 < 8 by omega) hc ht with ⟨k, k1, k2, e, e2⟩ | ⟨e, -, e2, -⟩ | ⟨e, e2, -⟩
  · refine ⟨fun _ => ⟨k, k1, k2, by rw [e]⟩, fun h => ?_⟩
    rcases e2 with z | z
    · exact absurd z h
    · exact absurd rfl z
  · exact ⟨fun h => absurd h e2, fun _ => Or.inr (by rw [e])⟩
  · exact ⟨fun h => absurd h e2, fun _ => Or.inl (by rw [e])⟩
theorem lsC_N {S : zSt} {N : zN} {n : Nat} (hv : vw S N) (hb : bnd n N) (hn : n ≤ 9000) : lsC (N 2) S.1 = if 60 ≤ N 0 * N 1 then -1 else nI (11 - N 1) := by
  have b1 := hb.1.2.1; have b2 := hb.1.2.2.1; have b3 := hb.1.2.2.2.1
  have e1 : (11 : Int32) - S.1 1 = nI (11 - N 1) := by rw [hv.1.2.1]; exact pk_sub (a := 11) (by omega)
  have ea := frV_ans (a := N 2) (c := 0) (t := 0) (st := 11 - N 1) hv hb hn (by omega) (by omega) (by omega) (by omega)
  obtain ⟨o1, o2⟩ := fr_own (c := 0) (t := 0) (st := 11 - N 1) hb (by omega) (by omega)
  have hbad : bad N (11 - N 1) ↔ 60 ≤ N 0 * N 1 := by unfold bad; omega
  unfold lsC
  rw [e1, ea]
  by_cases h : 60 ≤ N 0 * N 1
  · obtain ⟨k, k1, k2, ek⟩ := o1 (hbad.mpr h)
    rw [if_pos h, if_neg]
    rw [ek]
    rintro (z | z)
    · exact absurd ((z_eq (b := 0) rfl rfl (by omega) (by omega)).mp z) (by omega)
    · exact nI_nm1 (by omega) z
  · rw [if_neg h, if_pos (o2 (fun z => h (hbad.mp z)))]
/-- the gains while frames of strength 10 are refused -/
def gnN (N : zN) : Nat → Nat
  | 0 => N 1
  | i + 1 => gaN (decide (60 ≤ N 0 * gnN N i)) (N 0) (gnN N i)
theorem gnN_bd {N : zN} {n : Nat} (hb : bnd n N) : ∀ i, 1 ≤ gnN N i ∧ gnN N i ≤ 10 := by
  intro i
  induction i with
  | zero => exact ⟨hb.1.2.1, hb.1.2.2.1⟩
  | succ i ih =>
    obtain ⟨h1, h2, -⟩ := gaN_bd (ms := decide (60 ≤ N 0 * gnN N i)) hb.1.1 ih.1 ih.2
    exact ⟨h1, h2⟩
theorem LO_gn {N : zN} {n g : Nat} (hb : bnd n N) (h1 : 1 ≤ g) (h2 : g ≤ 10) : LO (frS (wd (N 2) 0 0)) 21 (nI (N 0)) (nI g) 10 = if 60 ≤ N 0 * g then (1, 1, 0) else (0, 7, wd (N 2) 0 0) := by
  have b0 := hb.1.1; have b3 := hb.1.2.2.2.1
  have hz := (zk_wd (N 2) (by omega) 0 (by omega) 0 (by omega)).2.2.2
  have hw := wd_lt (a := N 2) (c := 0) (t := 0) (by omega) (by omega) (by omega)
  have hm : N 0 * g ≤ 9 * 10 := Nat.mul_le_mul b0 h2
  have hN : frN (nI (N 0)) (nI g) 10 ↔ 60 ≤ N 0 * g := by
    unfold frN
    have e11 : (11 : Int32) - nI g = nI (11 - g) := pk_sub (a := 11) (by omega)
    have e20 : nI (N 0) * nI g / 20 = nI (N 0 * g / 20) := by
      rw [pk_mul]
      exact pk_div (d := 20) (by omega) (by omega) (by omega)
    have q3 : (3 : Int32) ≤ nI (N 0 * g / 20) ↔ 3 ≤ N 0 * g / 20 := z_le (a := 3) rfl rfl (by omega) (by omega)
    have q4 : (10 : Int32) < nI (11 - g) ↔ 10 < 11 - g := z_lt (a := 10) rfl rfl (by omega) (by omega)
    rw [e11, e20, q3, q4]
    generalize N 0 * g = y at hm ⊢
    omega
  rw [fr_LO hw hz (by omega) (by omega)]
  by_cases h : 60 ≤ N 0 * g
  · rw [if_pos (hN.mpr h), if_pos h]
  · rw [if_neg (fun z => h (hN.mp z)), if_neg h]
theorem gnC_N {S : zSt} {N : zN} {n : Nat} (hv : vw S N) (hb : bnd n N) : ∀ i, gnC (N 2) S.1 i = nI (gnN N i) := by
  intro i
  induction i with
  | zero => exact hv.1.2.1
  | succ i ih =>
    obtain ⟨g1, g2⟩ := gnN_bd hb i
    show gaF (LO (frS (wd (N 2) 0 0)) 21 (S.1 0) (gnC (N 2) S.1 i) 10).1 (S.1 0) (gnC (N 2) S.1 i) = nI (gaN (decide (60 ≤ N 0 * gnN N i)) (N 0) (gnN N i))
    have e : (LO (frS (wd (N 2) 0 0)) 21 (S.1 0) (gnC (N 2) S.1 i) 10).1 = b2i (decide (60 ≤ N 0 * gnN N i)) := by
      rw [ih, hv.1.1, LO_gn hb g1 g2]
      by_cases h : 60 ≤ N 0 * gnN N i
      · rw [if_pos h, decide_eq_true h]; rfl
      · rw [if_neg h, decide_eq_false h]; rfl
    rw [e, ih]
    exact gaF_b hv.1.1 rfl hb.1.1 g1 g2
theorem tcC_N {S : zSt} {N : zN} {n : Nat} (hv : vw S N) (hb : bnd n N) (hn : n ≤ 9000) (i : Nat) : 0 < tcC (N 2) S.1 i ↔ 60 ≤ N 0 * gnN N i := by
  obtain ⟨g1, g2⟩ := gnN_bd hb i
  have b3 := hb.1.2.2.2.1
  obtain ⟨w1, w2, w3, w4⟩ := zk_wd (N 2) (by omega) 0 (by omega) 0 (by omega)
  have hw := wd_lt (a := N 2) (c := 0) (t := 0) (by omega) (by omega) (by omega)
  unfold tcC
  rw [gnC_N hv hb, hv.1.1, LO_gn hb g1 g2]
  by_cases h : 60 ≤ N 0 * gnN N i
  · rw [if_pos h]
    refine ⟨fun _ => h, fun _ => ?_⟩
    show 0 < ansF S.1 1 0
    rw [ansF_r (by decide) (by decide)]
    decide
  · rw [if_neg h]
    refine ⟨fun z => ?_, fun z => absurd z h⟩
    have z : 0 < ansF S.1 7 (wd (N 2) 0 0) := z
    rw [ansF_f rfl (by rw [w1, hv.1.2.2.1])] at z
    split at z <;> exact absurd z (by decide)
/-- how many frames will be refused, in natural numbers -/
def rtP (N : zN) (v : Int32) : Prop := (∃ k : Nat, k ≤ 20 ∧ v = nI k ∧ ¬ 60 ≤ N 0 * gnN N k ∧ ∀ j, j < k → 60 ≤ N 0 * gnN N j) ∨ (v = -1 ∧ ∀ j, j < 21 → 60 ≤ N 0 * gnN N j)
theorem tcP_N {S : zSt} {N : zN} {n : Nat} {v : Int32} (hv : vw S N) (hb : bnd n N) (hn : n ≤ 9000) (h : tcP (tcC (N 2) S.1) v) : rtP N v := by
  rcases h with ⟨k, k1, k2, k3, k4⟩ | ⟨k1, k2⟩
  · exact Or.inl ⟨k, k1, k2, fun z => k3 ((tcC_N hv hb hn k).mpr z), fun j hj => (tcC_N hv hb hn j).mp (k4 j hj)⟩
  · exact Or.inr ⟨k1, fun j hj => (tcC_N hv hb hn j).mp (k2 j hj)⟩
theorem gn_step {N N1 : zN} {k i : Nat} (h0 : N1 0 = N 0) (h1 : N1 1 = gnN N i) (hb : 60 ≤ N 0 * gnN N i) (hk : 1 ≤ k) : rkN N1 true k 1 = gnN N (i + 1) := by
  rw [rk_at (by omega), hc_1, h0, h1]
  show _ = gaN (decide (60 ≤ N 0 * gnN N i)) (N 0) (gnN N i)
  rw [decide_eq_true hb]
end FO
