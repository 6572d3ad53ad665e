section JN
abbrev bad (N : zN) (st : Nat) : Prop := st + N 1 < 11 ∨ 60 ≤ N 0 * N 1
def frO (N : zN) (a c t st : Nat) : Bool × Nat × Nat := if bad N st then (true, 1, 0) else (false, 7, wd a c t)
def frV (N : zN) (a c t st : Nat) : Int32 × zN := heN N (frO N a c t st).1 (frO N a c t st).2.1 (frO N a c t st).2.2
theorem fr_okO {S : zSt} {N : zN} {n a c t st : Nat} (hv : vw S N) (hb : bnd n N) (ha : a < 8) (hc : c < 16) (ht : t < 2) (hst : st ≤ 10) : LO (frS (wd a c t)) 21 (S.1 0) (S.1 1) (nI st) = (b2i (frO N a c t st).1, nI (frO N a c t st).2.1, (frO N a c t st).2.2) ∧ okN (LO (frS (wd a c t)) 21 (S.1 0) (S.1 1) (nI st)) (frO N a c t st).1 (frO N a c t st).2.1 := by
  obtain ⟨⟨e0, e1, -⟩, -⟩ := hv
  have b0 := hb.1.1; have b1 := hb.1.2.1; have b2 := hb.1.2.2.1
  have hz := (zk_wd a ha c hc t ht).2.2.2
  have hw := wd_lt ha hc ht
  have hN : frN (nI (N 0)) (nI (N 1)) (nI st) ↔ bad N st := by
    unfold frN bad
    have e11 : (11 : Int32) - nI (N 1) = nI (11 - N 1) := pk_sub (a := 11) (by omega)
    have e20 : nI (N 0) * nI (N 1) / 20 = nI (N 0 * N 1 / 20) := by
      rw [pk_mul]
      exact pk_div (d := 20) (by have : N 0 * N 1 ≤ 9 * 10 := Nat.mul_le_mul b0 b2; omega) (by omega) (by omega)
    have hm : N 0 * N 1 ≤ 9 * 10 := Nat.mul_le_mul b0 b2
    have q3 : (3 : Int32) ≤ nI (N 0 * N 1 / 20) ↔ 3 ≤ N 0 * N 1 / 20 := z_le (a := 3) rfl rfl (by omega) (by omega)
    rw [e11, e20, nI_ltI (by omega) (by omega), q3]
    generalize N 0 * N 1 = y at hm ⊢
    omega
  have e : LO (frS (wd a c t)) 21 (S.1 0) (S.1 1) (nI st) = (b2i (frO N a c t st).1, nI (frO N a c t st).2.1, (frO N a c t st).2.2) := by
    rw [e0, e1, fr_LO hw hz (by omega) (by omega)]
    unfold frO
    by_cases h : bad N st
    · rw [if_pos (hN.mpr h), if_pos h]; rfl
    · rw [if_neg (fun z => h (hN.mp z)), if_neg h]; rfl
  refine ⟨e, ?_⟩
  rw [e]
  refine ⟨rfl, rfl, ?_, ?_⟩
  · show (frO N a c t st).2.2 < 512
    unfold frO; split
    · show 0 < 512; omega
    · exact hw
  · unfold frO; split
    · exact Or.inl rfl
    · exact Or.inr (Or.inr (Or.inr (Or.inr (Or.inr rfl))))
/-- a frame, sent now: its answer and the numbers behind it -/
theorem fr_cases {N : zN} {n a c t st : Nat} (hb : bnd n N) (ha : a < 8) (hc : c < 16) (ht : t < 2) :
    (∃ k, 1 ≤ k ∧ k ≤ 5 ∧ frV N a c t st = (nI k, rkN N (frO N a c t st).1 k) ∧ (bad N st ∨ ¬ a = N 2)) ∨ (frV N a c t st = (-1, hoN N (frO N a c t st).1) ∧ rem N ∧ ¬ bad N st ∧ a = N 2 ∧ c = N 3 ∧ t = N 4) ∨ (frV N a c t st = (0, prN N (frO N a c t st).1 c t) ∧ ¬ bad N st ∧ a = N 2) := by
  obtain ⟨w1, w2, w3, w4⟩ := zk_wd a ha c hc t ht
  unfold frV frO
  by_cases h : bad N st
  · rw [if_pos h]
    exact Or.inl ⟨1, by omega, by omega, rfl, Or.inl h⟩
  · rw [if_neg h]
    rcases heN_cases (ms := false) (mn := 7) (w := wd a c t) hb (by omega) with ⟨k, k1, k2, e, e7, -⟩ | ⟨e, er, e7⟩ | ⟨e, -, ea⟩
    · obtain rfl := e7 rfl
      refine Or.inl ⟨5, by omega, by omega, e, Or.inr (fun z => ?_)⟩
      unfold heN at e
      rw [if_neg (by omega), if_neg (fun z => z rfl), if_neg (show ¬ ¬ wd a c t / 64 = N 2 by rw [w1]; exact fun y => y z)] at e
      split at e
      · exact absurd (congrArg Prod.fst e) (fun y => nI_nm1 (k := 5) (by omega) y.symm)
      · exact absurd (congrArg Prod.fst e) (by show ¬ (0 : Int32) = nI 5; decide)
    · obtain ⟨f1, f2, f3⟩ := e7 rfl
      exact Or.inr (Or.inl ⟨e, er, h, by omega, by omega, by omega⟩)
    · rw [w2, w3] at e
      exact Or.inr (Or.inr ⟨e, h, by omega⟩)
theorem fr_ms {N : zN} {a c t st : Nat} : (frO N a c t st).1 = decide (bad N st) := by
  unfold frO
  by_cases h : bad N st
  · rw [if_pos h, decide_eq_true h]
  · rw [if_neg h, decide_eq_false h]
theorem up60 {N : zN} : va_up N 60 (N 60) = N := by
  funext i
  by_cases h : i = 60
  · subst h; exact va_upS
  · exact va_upN h
/-- the class's world: its state in numbers -/
def J (n : Nat) (D : zDc) (N : zN) : Prop := vw D.2.2.1 N ∧ bnd n N ∧ D.2.1.1 ≤ 6 ∧ okE D.2.2.2.1 ∧ n ≤ 9000
/-- what was saved last, k states of it -/
def tp (D : zDc) (k : Nat) (F : Nat → zSt) : Prop := k ≤ D.2.1.1 ∧ ∀ i, i < k → D.2.1.2 (D.2.1.1 - 1 - i) = F i
def psh (S : zSt) (F : Nat → zSt) : Nat → zSt := fun i => if i = 0 then S else F (i - 1)
theorem tp_push {sc sc' k : Nat} {SS SS' : Nat → zSt} {S9 S' : zSt} {F : Nat → zSt} {pp pp' : Nat → Nat → Nat} {E E' : zE} {T T' : Nat × zF} (hs : sc ≤ 6) (h : tp (pp, (sc, SS), S9, E, T) k F) (hk : k ≤ 5) (hu : (sc', SS') = svK sc SS S9) : tp (pp', (sc', SS'), S', E', T') (k + 1) (psh S9 F) ∧ sc' ≤ 6 := by
  obtain ⟨h1, h2⟩ := h
  have h1 : k ≤ sc := h1
  have h2 : ∀ i, i < k → SS (sc - 1 - i) = F i := h2
  unfold svK at hu
  by_cases h6 : sc = 6
  · rw [if_pos h6] at hu
    obtain ⟨rfl, rfl⟩ : sc' = 6 ∧ SS' = va_up (shS SS) 5 S9 := ⟨congrArg Prod.fst hu, congrArg Prod.snd hu⟩
    refine ⟨⟨?_, fun i hi => ?_⟩, Nat.le_refl 6⟩
    · show k + 1 ≤ 6; omega
    · show va_up (shS SS) 5 S9 (6 - 1 - i) = psh S9 F i
      unfold psh
      by_cases h0 : i = 0
      · subst h0; rw [if_pos rfl]; exact va_up_self _ _ _
      · rw [if_neg h0, va_up_ne _ _ (by omega)]
        unfold shS
        rw [if_pos (by omega), show 6 - 1 - i + 1 = sc - 1 - (i - 1) by omega]
        exact h2 (i - 1) (by omega)
  · rw [if_neg h6] at hu
    obtain ⟨rfl, rfl⟩ : sc' = sc + 1 ∧ SS' = va_up SS sc S9 := ⟨congrArg Prod.fst hu, congrArg Prod.snd hu⟩
    refine ⟨⟨?_, fun i hi => ?_⟩, by omega⟩
    · show k + 1 ≤ sc + 1; omega
    · show va_up SS sc S9 (sc + 1 - 1 - i) = psh S9 F i
      unfold psh
      by_cases h0 : i = 0
      · subst h0; rw [if_pos rfl, show sc + 1 - 1 - 0 = sc by omega]; exact va_up_self _ _ _
      · rw [if_neg h0, va_up_ne _ _ (by omega), show sc + 1 - 1 - i = sc - 1 - (i - 1) by omega]
        exact h2 (i - 1) (by omega)
theorem tp_pop {sc k : Nat} {SS : Nat → zSt} {S9 : zSt} {F : Nat → zSt} {pp : Nat → Nat → Nat} {E : zE} {T : Nat × zF} (h : tp (pp, (sc, SS), S9, E, T) (k + 1) F) : 0 < sc ∧ SS (sc - 1) = F 0 ∧ ∀ (S' : zSt) (E' : zE) (pp' : Nat → Nat → Nat) (T' : Nat × zF), tp (pp', (sc - 1, SS), S', E', T') k (fun i => F (i + 1)) := by
  obtain ⟨h1, h2⟩ := h
  have h1 : k + 1 ≤ sc := h1
  have h2 : ∀ i, i < k + 1 → SS (sc - 1 - i) = F i := h2
  refine ⟨by omega, h2 0 (by omega), fun S' E' pp' T' => ⟨?_, fun i hi => ?_⟩⟩
  · show k ≤ sc - 1; omega
  · show SS (sc - 1 - 1 - i) = F (i + 1)
    rw [show sc - 1 - 1 - i = sc - 1 - (i + 1) by omega]
    exact h2 (i + 1) (by omega)
/-- one number changed -/
theorem vw_0 {S : zSt} {N : zN} {n y : Nat} {x : zF} (hv : vw S N) (hb : bnd n N) (hy : y ≤ 9) : vw (mkS (upd S.1 0 (nI y)) (S.2.1 0) (S.2.1 1) (S.2.1 2) x S.2.2) (va_up N 0 y) ∧ bnd (n + 1) (va_up N 0 y) := by
  obtain ⟨⟨e0, e1, e2, e3, e4, e5, e6, e7, e8, e9⟩, ha, hd, hr, hl⟩ := hv
  obtain ⟨⟨b0, b1, b2, b3, b4, b5, b6, b7, b8, b9, b10⟩, ba, bd, bl⟩ := hb
  exact ⟨⟨⟨rfl, e1, e2, e3, e4, e5, e6, e7, e8, e9⟩, fun c hc => by rw [va_upN (by omega)]; exact ha c hc, fun c hc => by rw [va_upN (by omega)]; exact hd c hc, fun k h1 h2 => by rw [va_upN (by omega)]; exact hr k h1 h2, hl⟩, ⟨hy, b1, b2, b3, b4, b5, Nat.le_succ_of_le b6, by show N 6 ≤ _; omega, Nat.le_succ_of_le b8, b9, b10⟩, fun c hc => by rw [va_upN (by omega)]; exact ba c hc, fun c hc => by rw [va_upN (by omega)]; exact Nat.le_succ_of_le (bd c hc), bl⟩
theorem vw_2 {S : zSt} {N : zN} {n y : Nat} {x : zF} (hv : vw S N) (hb : bnd n N) (hy : y ≤ 7) : vw (mkS (upd S.1 2 (nI y)) (S.2.1 0) (S.2.1 1) (S.2.1 2) x S.2.2) (va_up N 2 y) ∧ bnd (n + 1) (va_up N 2 y) := by
  obtain ⟨⟨e0, e1, e2, e3, e4, e5, e6, e7, e8, e9⟩, ha, hd, hr, hl⟩ := hv
  obtain ⟨⟨b0, b1, b2, b3, b4, b5, b6, b7, b8, b9, b10⟩, ba, bd, bl⟩ := hb
  exact ⟨⟨⟨e0, e1, rfl, e3, e4, e5, e6, e7, e8, e9⟩, fun c hc => by rw [va_upN (by omega)]; exact ha c hc, fun c hc => by rw [va_upN (by omega)]; exact hd c hc, fun k h1 h2 => by rw [va_upN (by omega)]; exact hr k h1 h2, hl⟩, ⟨b0, b1, b2, hy, b4, b5, Nat.le_succ_of_le b6, by show N 6 ≤ _; omega, Nat.le_succ_of_le b8, b9, b10⟩, fun c hc => by rw [va_upN (by omega)]; exact ba c hc, fun c hc => by rw [va_upN (by omega)]; exact Nat.le_succ_of_le (bd c hc), bl⟩
theorem vw_a {S : zSt} {N : zN} {n k y : Nat} {x : zF} (hv : vw S N) (hb : bnd n N) (hk : k < 16) (hy : y ≤ 2) : vw (mkS S.1 (upd (S.2.1 0) k (nI y)) (S.2.1 1) (S.2.1 2) x S.2.2) (va_up N (16 + k) y) ∧ bnd (n + 1) (va_up N (16 + k) y) := by
  obtain ⟨⟨e0, e1, e2, e3, e4, e5, e6, e7, e8, e9⟩, ha, hd, hr, hl⟩ := hv
  obtain ⟨⟨b0, b1, b2, b3, b4, b5, b6, b7, b8, b9, b10⟩, ba, bd, bl⟩ := hb
  have lo : ∀ i, i < 16 ∨ 32 ≤ i → va_up N (16 + k) y i = N i := fun i h => va_upN (by omega)
  have hr2 : rfs (va_up N (16 + k) y) = rfs N := by
    unfold rfs
    rw [lo 49 (by omega), lo 50 (by omega), lo 51 (by omega), lo 52 (by omega), lo 53 (by omega), lo 54 (by omega)]
  refine ⟨⟨?_, fun c hc => ?_, fun c hc => by rw [lo _ (by omega)]; exact hd c hc, fun k h1 h2 => by rw [lo _ (by omega)]; exact hr k h1 h2, by rw [lo _ (by omega)]; exact hl⟩, ?_, fun c hc => ?_, fun c hc => by rw [lo _ (by omega)]; exact Nat.le_succ_of_le (bd c hc), by rw [lo _ (by omega)]; exact bl⟩
  · rw [lo 0 (by omega), lo 1 (by omega), lo 2 (by omega), lo 3 (by omega), lo 4 (by omega), lo 5 (by omega), lo 6 (by omega), lo 7 (by omega), lo 8 (by omega), lo 9 (by omega)]
    exact ⟨e0, e1, e2, e3, e4, e5, e6, e7, e8, e9⟩
  · show upd (S.2.1 0) k (nI y) c = _
    by_cases h : c = k
    · subst h; rw [pk_us, va_upS]
    · rw [pk_un h, va_upN (by omega)]; exact ha c hc
  · rw [lo 0 (by omega), lo 1 (by omega), lo 2 (by omega), lo 3 (by omega), lo 4 (by omega), lo 5 (by omega), lo 6 (by omega), lo 7 (by omega), lo 8 (by omega), lo 9 (by omega), hr2]
    exact ⟨b0, b1, b2, b3, b4, b5, by omega, by omega, by omega, b9, b10⟩
  · by_cases h : c = k
    · subst h; rw [va_upS]; exact hy
    · rw [va_upN (by omega)]; exact ba c hc
theorem vw_l {S : zSt} {N : zN} {n y : Nat} {x : zF} (hv : vw S N) (hb : bnd n N) (hy : y ≤ 30) : vw (mkS S.1 (S.2.1 0) (S.2.1 1) (S.2.1 2) x y) (va_up N 60 y) ∧ bnd (n + 1) (va_up N 60 y) := by
  obtain ⟨⟨e0, e1, e2, e3, e4, e5, e6, e7, e8, e9⟩, ha, hd, hr, hl⟩ := hv
  obtain ⟨⟨b0, b1, b2, b3, b4, b5, b6, b7, b8, b9, b10⟩, ba, bd, bl⟩ := hb
  exact ⟨⟨⟨e0, e1, e2, e3, e4, e5, e6, e7, e8, e9⟩, fun c hc => by rw [va_upN (by omega)]; exact ha c hc, fun c hc => by rw [va_upN (by omega)]; exact hd c hc, fun k h1 h2 => by rw [va_upN (by omega)]; exact hr k h1 h2, rfl⟩, ⟨b0, b1, b2, b3, b4, b5, Nat.le_succ_of_le b6, by show N 6 ≤ _; omega, Nat.le_succ_of_le b8, b9, b10⟩, fun c hc => by rw [va_upN (by omega)]; exact ba c hc, fun c hc => by rw [va_upN (by omega)]; exact Nat.le_succ_of_le (bd c hc), hy⟩
/-- ticks pass -/
def paN (N : zN) (x : Nat) : zN := va_up N 6 (if N 6 = 0 then 0 else N 6 + x)
theorem vw_6 {S : zSt} {N : zN} {n x : Nat} {y : zF} {g : zF} (hv : vw S N) (hb : bnd n N) (hn : n ≤ 9000) (hx : x ≤ 99) (hg : g = if S.1 6 = -1 then S.1 else upd S.1 6 (S.1 6 + nI x)) : vw (mkS g (S.2.1 0) (S.2.1 1) (S.2.1 2) y S.2.2) (paN N x) ∧ bnd (n + 1) (paN N x) ∧ g 6 = nI (paN N x 6) - 1 := by
  obtain ⟨⟨e0, e1, e2, e3, e4, e5, e6, e7, e8, e9⟩, ha, hd, hr, hl⟩ := hv
  obtain ⟨⟨b0, b1, b2, b3, b4, b5, b6, b7, b8, b9, b10⟩, ba, bd, bl⟩ := hb
  have g6 : g 6 = nI (if N 6 = 0 then 0 else N 6 + x) - 1 ∧ ∀ i, i ≠ 6 → g i = S.1 i := by
    rcases s6_cases e6 with ⟨h1, h2⟩ | ⟨j, h1, h2⟩
    · rw [if_pos h2] at hg
      rw [hg, if_pos h1]
      exact ⟨h2, fun i _ => rfl⟩
    · rw [if_neg (by rw [h2]; exact nI_nm1 (by omega))] at hg
      rw [hg, if_neg (by omega)]
      refine ⟨?_, fun i hi => pk_un hi⟩
      rw [pk_us, h2, h1, nI_add, show j + 1 + x = j + x + 1 by omega, nI_p1]
  obtain ⟨g6, gi⟩ := g6
  unfold paN
  refine ⟨⟨⟨?_, ?_, ?_, ?_, ?_, ?_, g6, ?_, ?_, ?_⟩, fun c hc => by rw [va_upN (by omega)]; exact ha c hc, fun c hc => by rw [va_upN (by omega)]; exact hd c hc, fun k h1 h2 => by rw [va_upN (by omega)]; exact hr k h1 h2, hl⟩, ⟨⟨b0, b1, b2, b3, b4, b5, Nat.le_succ_of_le b6, ?_, Nat.le_succ_of_le b8, b9, b10⟩, fun c hc => by rw [va_upN (by omega)]; exact ba c hc, fun c hc => by rw [va_upN (by omega)]; exact Nat.le_succ_of_le (bd c hc), bl⟩, g6⟩
  · exact (gi 0 (by omega)).trans e0
  · exact (gi 1 (by omega)).trans e1
  · exact (gi 2 (by omega)).trans e2
  · exact (gi 3 (by omega)).trans e3
  · exact (gi 4 (by omega)).trans e4
  · exact (gi 5 (by omega)).trans e5
  · exact (gi 7 (by omega)).trans e7
  · exact (gi 8 (by omega)).trans e8
  · exact (gi 9 (by omega)).trans e9
  · show (if N 6 = 0 then 0 else N 6 + x) ≤ _
    split <;> omega
end JN
