section HN
theorem va_upN {f : Nat → Nat} {k j v : Nat} (h : j ≠ k) : va_up f k v j = f j := if_neg h
theorem va_upS {f : Nat → Nat} {k v : Nat} : va_up f k v k = v := if_pos rfl
theorem hc_at {N : zN} {ms : Bool} {i : Nat} (h8 : i ≠ 8) (h1 : i ≠ 1) : hcN N ms i = N i := by
  unfold hcN; rw [va_upN h1, va_upN h8]
theorem hc_8 {N : zN} {ms : Bool} : hcN N ms 8 = N 8 + 1 := rfl
theorem hc_1 {N : zN} {ms : Bool} : hcN N ms 1 = gaN ms (N 0) (N 1) := rfl
theorem rk_at {N : zN} {ms : Bool} {k i : Nat} (h : i ≠ 48 + k) : rkN N ms k i = hcN N ms i := va_upN h
theorem rk_k {N : zN} {ms : Bool} {k : Nat} : rkN N ms k (48 + k) = N (48 + k) + 1 := va_upS
theorem ho_at {N : zN} {ms : Bool} {i : Nat} (h : i ≠ 32 + N 3) (h5 : i ≠ 5) (h6 : i ≠ 6) (h9 : i ≠ 9) : hoN N ms i = hcN N ms i := by
  unfold hoN; rw [va_upN h, va_upN h5, va_upN h6, va_upN h9]
theorem hoN_d {N : zN} {ms : Bool} : hoN N ms (32 + N 3) = N (32 + N 3) + (if N (16 + N 3) = 2 ∧ (N 5 + 1) % 2 = 0 then 1 else 0) := va_upS
theorem ho_x {N : zN} {ms : Bool} {i : Nat} (h : i < 32) : hoN N ms i = va_up (va_up (va_up (hcN N ms) 9 (N 9 + 1)) 6 1) 5 (N 5 + 1) i := va_upN (by omega)
theorem pr_x {N : zN} {ms : Bool} {c t i : Nat} (h : i < 32) : prN N ms c t i = va_up (va_up (va_up (va_up (va_up (va_up (hcN N ms) 9 (N 9 + 1)) 6 1) 7 (N 7 + 1)) 5 0) 3 c) 4 t i := va_upN (by omega)
theorem pr_at {N : zN} {ms : Bool} {c t i : Nat} (h : 32 ≤ i) (h2 : i ≠ 32 + c) : prN N ms c t i = N i := by
  unfold prN; rw [va_upN h2, va_upN (by omega), va_upN (by omega), va_upN (by omega), va_upN (by omega), va_upN (by omega), va_upN (by omega), hc_at (by omega) (by omega)]
theorem pr_a {N : zN} {ms : Bool} {c t i : Nat} (h : 10 ≤ i) (h2 : i < 32) : prN N ms c t i = N i := by
  rw [pr_x h2, va_upN (by omega), va_upN (by omega), va_upN (by omega), va_upN (by omega), va_upN (by omega), va_upN (by omega), hc_at (by omega) (by omega)]
theorem pr_d {N : zN} {ms : Bool} {c t : Nat} : prN N ms c t (32 + c) = N (32 + c) + (if N (16 + c) = 0 then 0 else 1) := va_upS
theorem ho_at2 {N : zN} {ms : Bool} {i : Nat} (h : 32 ≤ i) (h2 : i ≠ 32 + N 3) : hoN N ms i = N i := by
  rw [ho_at h2 (by omega) (by omega) (by omega), hc_at (by omega) (by omega)]
theorem ho_a {N : zN} {ms : Bool} {i : Nat} (h : 10 ≤ i) (h2 : i < 32) : hoN N ms i = N i := by
  rw [ho_x h2, va_upN (by omega), va_upN (by omega), va_upN (by omega), hc_at (by omega) (by omega)]
abbrev b2i (b : Bool) : Int32 := if b = true then 1 else 0
theorem gaF_b {ms : Bool} {gl gn : Int32} {a b : Nat} (h0 : gl = nI a) (h1 : gn = nI b) (ha : a ≤ 9) (hb1 : 1 ≤ b) (hb : b ≤ 10) : gaF (b2i ms) gl gn = nI (gaN ms a b) := by
  subst h0; subst h1
  obtain ⟨e1, e2⟩ := gaF_N a (by omega) b (by omega) hb1
  cases ms
  · exact e1
  · exact e2
theorem vw_rk {S : zSt} {N : zN} {n : Nat} {ms : Bool} {k lc : Nat} {x : zF} (hv : vw S N) (hb : bnd n N) (hk1 : 1 ≤ k) (hk : k ≤ 6) : vw (mkS (upd (upd S.1 8 (S.1 8 + 1)) 1 (gaF (b2i ms) (S.1 0) (S.1 1))) (S.2.1 0) (S.2.1 1) (upd (S.2.1 2) k (S.2.1 2 k + 1)) x lc) (va_up (rkN N ms k) 60 lc) := by
  obtain ⟨⟨e0, e1, e2, e3, e4, e5, e6, e7, e8, e9⟩, ha, hd, hr, hl⟩ := hv
  have at_ : ∀ i, i < 48 → i ≠ 8 → i ≠ 1 → va_up (rkN N ms k) 60 lc i = N i := fun i h h1 h2 => by rw [va_upN (by omega), rk_at (by omega), hc_at h1 h2]
  refine ⟨⟨?_, ?_, ?_, ?_, ?_, ?_, ?_, ?_, ?_, ?_⟩, fun c hc => ?_, fun c hc => ?_, fun j h1 h2 => ?_, rfl⟩
  · show S.1 0 = _; rw [at_ 0 (by omega) (by omega) (by omega), e0]
  · show gaF (b2i ms) (S.1 0) (S.1 1) = _; rw [va_upN (by omega), rk_at (by omega), hc_1]; exact gaF_b e0 e1 hb.1.1 hb.1.2.1 hb.1.2.2.1
  · show S.1 2 = _; rw [at_ 2 (by omega) (by omega) (by omega), e2]
  · show S.1 3 = _; rw [at_ 3 (by omega) (by omega) (by omega), e3]
  · show S.1 4 = _; rw [at_ 4 (by omega) (by omega) (by omega), e4]
  · show S.1 5 = _; rw [at_ 5 (by omega) (by omega) (by omega), e5]
  · show S.1 6 = _; rw [at_ 6 (by omega) (by omega) (by omega), e6]
  · show S.1 7 = _; rw [at_ 7 (by omega) (by omega) (by omega), e7]
  · show S.1 8 + 1 = _; rw [va_upN (by omega), rk_at (by omega), hc_8, e8, nI_1]
  · show S.1 9 = _; rw [at_ 9 (by omega) (by omega) (by omega), e9]
  · show S.2.1 0 c = _; rw [at_ (16 + c) (by omega) (by omega) (by omega), ha c hc]
  · show S.2.1 1 c = _; rw [at_ (32 + c) (by omega) (by omega) (by omega), hd c hc]
  · show upd (S.2.1 2) k (S.2.1 2 k + 1) j = _
    rw [va_upN (by omega)]
    by_cases h : j = k
    · subst h; rw [pk_us, rk_k, hr j h1 h2, nI_1]
    · rw [pk_un h, rk_at (by omega), hc_at (by omega) (by omega), hr j h1 h2]
theorem bnd_rk {N : zN} {n : Nat} {ms : Bool} {k lc : Nat} (hb : bnd n N) (hk1 : 1 ≤ k) (hk : k ≤ 6) (hlc : lc ≤ 30) : bnd (n + 1) (va_up (rkN N ms k) 60 lc) ∧ rfs (va_up (rkN N ms k) 60 lc) = rfs N + 1 := by
  obtain ⟨⟨b0, b1, b2, b3, b4, b5, b6, b7, b8, b9, b10⟩, ba, bd, bl⟩ := hb
  have at_ : ∀ i, i < 48 → i ≠ 8 → i ≠ 1 → va_up (rkN N ms k) 60 lc i = N i := fun i h h1 h2 => by rw [va_upN (by omega), rk_at (by omega), hc_at h1 h2]
  have e8 : va_up (rkN N ms k) 60 lc 8 = N 8 + 1 := by rw [va_upN (by omega), rk_at (by omega), hc_8]
  have e1 : va_up (rkN N ms k) 60 lc 1 = gaN ms (N 0) (N 1) := by rw [va_upN (by omega), rk_at (by omega), hc_1]
  have hg := gaN_bd (ms := ms) b0 b1 b2
  have hr : rfs (va_up (rkN N ms k) 60 lc) = rfs N + 1 := by
    unfold rfs
    have at2 : ∀ j, 1 ≤ j → j ≤ 6 → va_up (rkN N ms k) 60 lc (48 + j) = if j = k then N (48 + j) + 1 else N (48 + j) := fun j h1 h2 => by
      rw [va_upN (by omega)]
      by_cases h : j = k
      · subst h; rw [rk_k, if_pos rfl]
      · rw [if_neg h, rk_at (by omega), hc_at (by omega) (by omega)]
    rw [at2 1 (by omega) (by omega), at2 2 (by omega) (by omega), at2 3 (by omega) (by omega), at2 4 (by omega) (by omega), at2 5 (by omega) (by omega), at2 6 (by omega) (by omega)]
    rcases (show k = 1 ∨ k = 2 ∨ k = 3 ∨ k = 4 ∨ k = 5 ∨ k = 6 by omega) with rfl | rfl | rfl | rfl | rfl | rfl <;> simp <;> omega
  refine ⟨⟨⟨?_, ?_, ?_, ?_, ?_, ?_, ?_, ?_, ?_, ?_, ?_⟩, fun c hc => ?_, fun c hc => ?_, ?_⟩, hr⟩
  · rw [at_ 0 (by omega) (by omega) (by omega)]; omega
  · rw [e1]; omega
  · rw [e1]; omega
  · rw [at_ 2 (by omega) (by omega) (by omega)]; omega
  · rw [at_ 3 (by omega) (by omega) (by omega)]; omega
  · rw [at_ 4 (by omega) (by omega) (by omega)]; omega
  · rw [at_ 5 (by omega) (by omega) (by omega)]; omega
  · rw [at_ 6 (by omega) (by omega) (by omega)]; omega
  · rw [e8]; omega
  · rw [e8, at_ 9 (by omega) (by omega) (by omega)]; omega
  · rw [e8, at_ 7 (by omega) (by omega) (by omega), hr]; omega
  · rw [at_ (16 + c) (by omega) (by omega) (by omega)]; exact ba c hc
  · rw [at_ (32 + c) (by omega) (by omega) (by omega)]; exact Nat.le_succ_of_le (bd c hc)
  · exact hlc
theorem vw_pr {S : zSt} {N : zN} {n : Nat} {ms : Bool} {lc c t : Nat} {x : zF} (hv : vw S N) (hb : bnd n N) (hn : n ≤ 10000) (hc : c < 16) :
    vw (mkS (spF (upd (upd (upd (upd S.1 8 (S.1 8 + 1)) 1 (gaF (b2i ms) (S.1 0) (S.1 1))) 9 (S.1 9 + 1)) 6 0) (S.2.1 0) (S.2.1 1) c (nI t)).1 (S.2.1 0) (spF (upd (upd (upd (upd S.1 8 (S.1 8 + 1)) 1 (gaF (b2i ms) (S.1 0) (S.1 1))) 9 (S.1 9 + 1)) 6 0) (S.2.1 0) (S.2.1 1) c (nI t)).2 (S.2.1 2) x lc) (va_up (prN N ms c t) 60 lc) := by
  obtain ⟨⟨e0, e1, e2, e3, e4, e5, e6, e7, e8, e9⟩, ha, hd, hr, hl⟩ := hv
  have lo : ∀ i, i < 32 → va_up (prN N ms c t) 60 lc i = va_up (va_up (va_up (va_up (va_up (va_up (hcN N ms) 9 (N 9 + 1)) 6 1) 7 (N 7 + 1)) 5 0) 3 c) 4 t i := fun i h => by rw [va_upN (by omega), pr_x h]
  refine ⟨⟨?_, ?_, ?_, ?_, ?_, ?_, ?_, ?_, ?_, ?_⟩, fun j hj => ?_, fun j hj => ?_, fun j h1 h2 => ?_, rfl⟩
  · rw [lo 0 (by omega)]; exact e0
  · rw [lo 1 (by omega)]; exact gaF_b e0 e1 hb.1.1 hb.1.2.1 hb.1.2.2.1
  · rw [lo 2 (by omega)]; exact e2
  · rw [lo 3 (by omega)]; rfl
  · rw [lo 4 (by omega)]; rfl
  · rw [lo 5 (by omega)]; rfl
  · rw [lo 6 (by omega)]; show (0 : Int32) = nI 1 - 1; decide
  · rw [lo 7 (by omega)]; show S.1 7 + 1 = nI (N 7 + 1); rw [e7, nI_1]
  · rw [lo 8 (by omega)]; show S.1 8 + 1 = nI (N 8 + 1); rw [e8, nI_1]
  · rw [lo 9 (by omega)]; show S.1 9 + 1 = nI (N 9 + 1); rw [e9, nI_1]
  · rw [va_upN (by omega), pr_a (by omega) (by omega)]; exact ha j hj
  · show (if S.2.1 0 c = 0 then S.2.1 1 else upd (S.2.1 1) c (S.2.1 1 c + 1)) j = _
    rw [va_upN (by omega)]
    have hA : S.2.1 0 c = 0 ↔ N (16 + c) = 0 := by rw [ha c hc]; exact z_eq rfl rfl (by have := hb.2.1 c hc; omega) (by omega)
    by_cases h : j = c
    · subst h
      rw [pr_d]
      by_cases h0 : N (16 + j) = 0
      · rw [if_pos (hA.mpr h0), if_pos h0]; exact hd j hj
      · rw [if_neg (fun z => h0 (hA.mp z)), if_neg h0, pk_us, hd j hj, nI_1]
    · rw [pr_at (by omega) (by omega)]
      by_cases h0 : N (16 + c) = 0
      · rw [if_pos (hA.mpr h0)]; exact hd j hj
      · rw [if_neg (fun z => h0 (hA.mp z)), pk_un h]; exact hd j hj
  · show S.2.1 2 j = _
    rw [va_upN (by omega), pr_at (by omega) (by omega)]; exact hr j h1 h2
theorem bnd_pr {N : zN} {n : Nat} {ms : Bool} {lc c t : Nat} (hb : bnd n N) (hc : c ≤ 15) (ht : t ≤ 1) (hlc : lc ≤ 30) : bnd (n + 1) (va_up (prN N ms c t) 60 lc) ∧ rfs (va_up (prN N ms c t) 60 lc) = rfs N := by
  obtain ⟨⟨b0, b1, b2, b3, b4, b5, b6, b7, b8, b9, b10⟩, ba, bd, bl⟩ := hb
  have lo : ∀ i, i < 32 → va_up (prN N ms c t) 60 lc i = va_up (va_up (va_up (va_up (va_up (va_up (hcN N ms) 9 (N 9 + 1)) 6 1) 7 (N 7 + 1)) 5 0) 3 c) 4 t i := fun i h => by rw [va_upN (by omega), pr_x h]
  have hg := gaN_bd (ms := ms) b0 b1 b2
  have hr : rfs (va_up (prN N ms c t) 60 lc) = rfs N := by
    unfold rfs
    have at2 : ∀ j, 48 ≤ j → j ≤ 54 → va_up (prN N ms c t) 60 lc j = N j := fun j h1 h2 => by rw [va_upN (by omega), pr_at (by omega) (by omega)]
    rw [at2 49 (by omega) (by omega), at2 50 (by omega) (by omega), at2 51 (by omega) (by omega), at2 52 (by omega) (by omega), at2 53 (by omega) (by omega), at2 54 (by omega) (by omega)]
  refine ⟨⟨⟨?_, ?_, ?_, ?_, ?_, ?_, ?_, ?_, ?_, ?_, ?_⟩, fun j hj => ?_, fun j hj => ?_, ?_⟩, hr⟩
  · rw [lo 0 (by omega)]; exact b0
  · rw [lo 1 (by omega)]; exact hg.1
  · rw [lo 1 (by omega)]; exact hg.2.1
  · rw [lo 2 (by omega)]; exact b3
  · rw [lo 3 (by omega)]; exact hc
  · rw [lo 4 (by omega)]; exact ht
  · rw [lo 5 (by omega)]; show 0 ≤ n + 1; omega
  · rw [lo 6 (by omega)]; show 1 ≤ 100 * (n + 1) + 1; omega
  · rw [lo 8 (by omega)]; show N 8 + 1 ≤ n + 1; omega
  · rw [lo 8 (by omega), lo 9 (by omega)]; show N 9 + 1 ≤ N 8 + 1; omega
  · rw [lo 8 (by omega), lo 7 (by omega), hr]; show rfs N + (N 7 + 1) ≤ N 8 + 1; omega
  · rw [va_upN (by omega), pr_a (by omega) (by omega)]; exact ba j hj
  · rw [va_upN (by omega)]
    by_cases h : j = c
    · subst h; rw [pr_d]; have := bd j hj; split <;> omega
    · rw [pr_at (by omega) (by omega)]; exact Nat.le_succ_of_le (bd j hj)
  · exact hlc
theorem nI_even {k : Nat} (hk : k < 100000) : nI k + 1 - (nI k + 1) / 2 * 2 = 0 ↔ (k + 1) % 2 = 0 := by
  rw [nI_1]
  have e : nI (k + 1) - nI (k + 1) / 2 * 2 = nI ((k + 1) % 2) := pk_rem (d := 2) (by omega) (by omega) (by omega)
  rw [e]
  exact z_eq rfl rfl (by omega) (by omega)
theorem vw_ho {S : zSt} {N : zN} {n : Nat} {ms : Bool} {lc : Nat} {x : zF} (hv : vw S N) (hb : bnd n N) (hn : n ≤ 10000) :
    vw (mkS (ghF (upd (upd (upd (upd S.1 8 (S.1 8 + 1)) 1 (gaF (b2i ms) (S.1 0) (S.1 1))) 9 (S.1 9 + 1)) 6 0) (S.2.1 0) (S.2.1 1) (N 3)).1 (S.2.1 0) (ghF (upd (upd (upd (upd S.1 8 (S.1 8 + 1)) 1 (gaF (b2i ms) (S.1 0) (S.1 1))) 9 (S.1 9 + 1)) 6 0) (S.2.1 0) (S.2.1 1) (N 3)).2 (S.2.1 2) x lc) (va_up (hoN N ms) 60 lc) := by
  obtain ⟨⟨e0, e1, e2, e3, e4, e5, e6, e7, e8, e9⟩, ha, hd, hr, hl⟩ := hv
  have hc : N 3 < 16 := by have := hb.1.2.2.2.2.1; omega
  have hh : N 5 ≤ n := hb.1.2.2.2.2.2.2.1
  have lo : ∀ i, i < 32 → va_up (hoN N ms) 60 lc i = va_up (va_up (va_up (hcN N ms) 9 (N 9 + 1)) 6 1) 5 (N 5 + 1) i := fun i h => by rw [va_upN (by omega), ho_x h]
  refine ⟨⟨?_, ?_, ?_, ?_, ?_, ?_, ?_, ?_, ?_, ?_⟩, fun j hj => ?_, fun j hj => ?_, fun j h1 h2 => ?_, rfl⟩
  · rw [lo 0 (by omega)]; exact e0
  · rw [lo 1 (by omega)]; exact gaF_b e0 e1 hb.1.1 hb.1.2.1 hb.1.2.2.1
  · rw [lo 2 (by omega)]; exact e2
  · rw [lo 3 (by omega)]; exact e3
  · rw [lo 4 (by omega)]; exact e4
  · rw [lo 5 (by omega)]; show S.1 5 + 1 = nI (N 5 + 1); rw [e5, nI_1]
  · rw [lo 6 (by omega)]; show (0 : Int32) = nI 1 - 1; decide
  · rw [lo 7 (by omega)]; exact e7
  · rw [lo 8 (by omega)]; show S.1 8 + 1 = nI (N 8 + 1); rw [e8, nI_1]
  · rw [lo 9 (by omega)]; show S.1 9 + 1 = nI (N 9 + 1); rw [e9, nI_1]
  · rw [va_upN (by omega), ho_a (by omega) (by omega)]; exact ha j hj
  · show (if S.2.1 0 (N 3) = 2 ∧ S.1 5 + 1 - (S.1 5 + 1) / 2 * 2 = 0 then upd (S.2.1 1) (N 3) (S.2.1 1 (N 3) + 1) else S.2.1 1) j = _
    rw [va_upN (by omega)]
    have hA : (S.2.1 0 (N 3) = 2 ∧ S.1 5 + 1 - (S.1 5 + 1) / 2 * 2 = 0) ↔ (N (16 + N 3) = 2 ∧ (N 5 + 1) % 2 = 0) := by
      rw [ha _ hc, e5, nI_even (by omega)]
      have h2 : nI (N (16 + N 3)) = 2 ↔ N (16 + N 3) = 2 := z_eq rfl rfl (by have := hb.2.1 _ hc; omega) (by omega)
      rw [h2]
    by_cases h : j = N 3
    · rw [h, hoN_d]
      by_cases h0 : N (16 + N 3) = 2 ∧ (N 5 + 1) % 2 = 0
      · rw [if_pos (hA.mpr h0), if_pos h0, pk_us, hd _ hc, nI_1]
      · rw [if_neg (fun z => h0 (hA.mp z)), if_neg h0]; exact hd _ hc
    · rw [ho_at2 (by omega) (by omega)]
      by_cases h0 : N (16 + N 3) = 2 ∧ (N 5 + 1) % 2 = 0
      · rw [if_pos (hA.mpr h0), pk_un h]; exact hd j hj
      · rw [if_neg (fun z => h0 (hA.mp z))]; exact hd j hj
  · show S.2.1 2 j = _
    rw [va_upN (by omega), ho_at2 (by omega) (by omega)]; exact hr j h1 h2
theorem bnd_ho {N : zN} {n : Nat} {ms : Bool} {lc : Nat} (hb : bnd n N) (hlc : lc ≤ 30) : bnd (n + 1) (va_up (hoN N ms) 60 lc) ∧ rfs (va_up (hoN N ms) 60 lc) = rfs N := by
  obtain ⟨⟨b0, b1, b2, b3, b4, b5, b6, b7, b8, b9, b10⟩, ba, bd, bl⟩ := hb
  have lo : ∀ i, i < 32 → va_up (hoN N ms) 60 lc i = va_up (va_up (va_up (hcN N ms) 9 (N 9 + 1)) 6 1) 5 (N 5 + 1) i := fun i h => by rw [va_upN (by omega), ho_x h]
  have hg := gaN_bd (ms := ms) b0 b1 b2
  have hr : rfs (va_up (hoN N ms) 60 lc) = rfs N := by
    unfold rfs
    have at2 : ∀ j, 48 ≤ j → j ≤ 54 → va_up (hoN N ms) 60 lc j = N j := fun j h1 h2 => by rw [va_upN (by omega), ho_at2 (by omega) (by omega)]
    rw [at2 49 (by omega) (by omega), at2 50 (by omega) (by omega), at2 51 (by omega) (by omega), at2 52 (by omega) (by omega), at2 53 (by omega) (by omega), at2 54 (by omega) (by omega)]
  refine ⟨⟨⟨?_, ?_, ?_, ?_, ?_, ?_, ?_, ?_, ?_, ?_, ?_⟩, fun j hj => ?_, fun j hj => ?_, ?_⟩, hr⟩
  · rw [lo 0 (by omega)]; exact b0
  · rw [lo 1 (by omega)]; exact hg.1
  · rw [lo 1 (by omega)]; exact hg.2.1
  · rw [lo 2 (by omega)]; exact b3
  · rw [lo 3 (by omega)]; exact b4
  · rw [lo 4 (by omega)]; exact b5
  · rw [lo 5 (by omega)]; show N 5 + 1 ≤ n + 1; omega
  · rw [lo 6 (by omega)]; show 1 ≤ 100 * (n + 1) + 1; omega
  · rw [lo 8 (by omega)]; show N 8 + 1 ≤ n + 1; omega
  · rw [lo 8 (by omega), lo 9 (by omega)]; show N 9 + 1 ≤ N 8 + 1; omega
  · rw [lo 8 (by omega), lo 7 (by omega), hr]; show rfs N + N 7 ≤ N 8 + 1; omega
  · rw [va_upN (by omega), ho_a (by omega) (by omega)]; exact ba j hj
  · rw [va_upN (by omega)]
    by_cases h : j = N 3
    · rw [h, hoN_d]; have := bd (N 3) (by omega); split <;> omega
    · rw [ho_at2 (by omega) (by omega)]; exact Nat.le_succ_of_le (bd j hj)
  · exact hlc
/-- what a sequence means, in natural numbers -/
def okN (o : Int32 × Int32 × Nat) (ms : Bool) (mn : Nat) : Prop := o.1 = b2i ms ∧ o.2.1 = nI mn ∧ o.2.2 < 512 ∧ (mn = 1 ∨ mn = 2 ∨ mn = 3 ∨ mn = 4 ∨ mn = 8 ∨ mn = 7)
theorem LO_N (X : zF) (k : Nat) (gl gn st : Int32) : ∃ ms mn, okN (LO X k gl gn st) ms mn := by
  have h1 : (LO X k gl gn st).1 = 0 ∨ (LO X k gl gn st).1 = 1 := lis_ms _ _ _ _ _
  obtain ⟨ms, hm⟩ : ∃ ms : Bool, (LO X k gl gn st).1 = b2i ms := by
    rcases h1 with h | h
    · exact ⟨false, h⟩
    · exact ⟨true, h⟩
  rcases LO_cases X k gl gn st with h | h | h | h | h | h
  · exact ⟨ms, 1, hm, h, LO_lt, by omega⟩
  · exact ⟨ms, 2, hm, h, LO_lt, by omega⟩
  · exact ⟨ms, 3, hm, h, LO_lt, by omega⟩
  · exact ⟨ms, 4, hm, h, LO_lt, by omega⟩
  · exact ⟨ms, 8, hm, h, LO_lt, by omega⟩
  · exact ⟨ms, 7, hm, h, LO_lt, by omega⟩
theorem ansF_N {S : zSt} {N : zN} {n : Nat} {o : Int32 × Int32 × Nat} {ms : Bool} {mn : Nat} (hv : vw S N) (hb : bnd n N) (hn : n ≤ 10000) (ho : okN o ms mn) : ansF S.1 o.2.1 o.2.2 = (heN N ms mn o.2.2).1 := by
  obtain ⟨⟨e0, e1, e2, e3, e4, e5, e6, e7, e8, e9⟩, ha, hd, hr, hl⟩ := hv
  obtain ⟨h1, h2, h3, h4⟩ := ho
  have hm : rmb S.1 ↔ rem N := rmb_N e6 (by have := hb.1.2.2.2.2.2.2.2.1; omega)
  have hmn : mn < 9 := by omega
  have q8 : o.2.1 = 8 ↔ mn = 8 := by rw [h2]; exact z_eq rfl rfl (by omega) (by omega)
  have q7 : o.2.1 = 7 ↔ mn = 7 := by rw [h2]; exact z_eq rfl rfl (by omega) (by omega)
  have b3 := hb.1.2.2.2.1; have b4 := hb.1.2.2.2.2.1; have b5 := hb.1.2.2.2.2.2.1
  have qa : nI (o.2.2 / 64) = S.1 2 ↔ o.2.2 / 64 = N 2 := by rw [e2]; exact nI_eq (by omega) (by omega)
  have qc : nI (o.2.2 / 4 % 16) = S.1 3 ↔ o.2.2 / 4 % 16 = N 3 := by rw [e3]; exact nI_eq (by omega) (by omega)
  have qt : nI (o.2.2 / 2 % 2) = S.1 4 ↔ o.2.2 / 2 % 2 = N 4 := by rw [e4]; exact nI_eq (by omega) (by omega)
  unfold heN
  by_cases c8 : mn = 8
  · rw [ansF_8 (q8.mpr c8), if_pos c8]
    by_cases cr : rem N
    · rw [if_pos (hm.mpr cr), if_pos cr]
    · rw [if_neg (fun z => cr (hm.mp z)), if_neg cr]
  · rw [if_neg c8]
    by_cases c7 : mn = 7
    · rw [if_neg (fun z => z c7)]
      by_cases ca : o.2.2 / 64 = N 2
      · rw [ansF_f (q7.mpr c7) (qa.mpr ca), if_neg (show ¬ ¬ o.2.2 / 64 = N 2 from fun z => z ca)]
        by_cases cr : rem N ∧ o.2.2 / 4 % 16 = N 3 ∧ o.2.2 / 2 % 2 = N 4
        · rw [if_pos cr, if_pos ⟨hm.mpr cr.1, qc.mpr cr.2.1, qt.mpr cr.2.2⟩]
        · rw [if_neg cr, if_neg (fun z => cr ⟨hm.mp z.1, qc.mp z.2.1, qt.mp z.2.2⟩)]
      · rw [ansF_5 (q7.mpr c7) (fun z => ca (qa.mp z)), if_pos ca]
    · rw [ansF_r (fun z => c8 (q8.mp z)) (fun z => c7 (q7.mp z)), if_pos c7, h2]
/-- the answers, one by one -/
theorem heN_cases {N : zN} {n : Nat} {ms : Bool} {mn w : Nat} (hb : bnd n N) (hm : mn = 1 ∨ mn = 2 ∨ mn = 3 ∨ mn = 4 ∨ mn = 8 ∨ mn = 7) :
    (∃ k, 1 ≤ k ∧ k ≤ 6 ∧ heN N ms mn w = (nI k, rkN N ms k) ∧ (mn = 7 → k = 5) ∧ (mn = 1 → k = 1)) ∨ (heN N ms mn w = (-1, hoN N ms) ∧ rem N ∧ (mn = 7 → w / 64 = N 2 ∧ w / 4 % 16 = N 3 ∧ w / 2 % 2 = N 4)) ∨ (heN N ms mn w = (0, prN N ms (w / 4 % 16) (w / 2 % 2)) ∧ mn = 7 ∧ w / 64 = N 2) := by
  unfold heN
  by_cases c8 : mn = 8
  · rw [if_pos c8]
    by_cases cr : rem N
    · rw [if_pos cr]; exact Or.inr (Or.inl ⟨rfl, cr, fun z => by omega⟩)
    · rw [if_neg cr]; exact Or.inl ⟨6, by omega, by omega, rfl, fun z => by omega, fun z => by omega⟩
  · rw [if_neg c8]
    by_cases c7 : mn = 7
    · rw [if_neg (fun z => z c7)]
      by_cases ca : w / 64 = N 2
      · rw [if_neg (fun z => z ca)]
        by_cases cr : rem N ∧ w / 4 % 16 = N 3 ∧ w / 2 % 2 = N 4
        · rw [if_pos cr]; exact Or.inr (Or.inl ⟨rfl, cr.1, fun _ => ⟨ca, cr.2.1, cr.2.2⟩⟩)
        · rw [if_neg cr]; exact Or.inr (Or.inr ⟨rfl, c7, ca⟩)
      · rw [if_pos ca]; exact Or.inl ⟨5, by omega, by omega, rfl, fun _ => rfl, fun z => by omega⟩
    · rw [if_pos c7]; exact Or.inl ⟨mn, by omega, by omega, rfl, fun z => absurd z c7, fun z => z⟩
/-- light, heard -/
theorem hear_N {S : zSt} {N : zN} {n lc : Nat} {o : Int32 × Int32 × Nat} {ms : Bool} {mn : Nat} (hv : vw S N) (hb : bnd n N) (hn : n ≤ 10000) (ho : okN o ms mn) (x : zF) (hlc : lc ≤ 30) :
    (hearF S.1 (S.2.1 0) (S.2.1 1) (S.2.1 2) (N 3) o).1 = (heN N ms mn o.2.2).1 ∧ vw (mkS (hearF S.1 (S.2.1 0) (S.2.1 1) (S.2.1 2) (N 3) o).2.1 (S.2.1 0) (hearF S.1 (S.2.1 0) (S.2.1 1) (S.2.1 2) (N 3) o).2.2.1 (hearF S.1 (S.2.1 0) (S.2.1 1) (S.2.1 2) (N 3) o).2.2.2 x lc) (va_up (heN N ms mn o.2.2).2 60 lc) ∧ bnd (n + 1) (va_up (heN N ms mn o.2.2).2 60 lc) := by
  have hA := ansF_N hv hb hn ho
  have hw := ho.2.2.1
  rcases heN_cases (ms := ms) (w := o.2.2) hb ho.2.2.2 with ⟨k, k1, k2, e, -, -⟩ | ⟨e, -, -⟩ | ⟨e, -, -⟩
  · rw [e] at hA ⊢
    have n0 : ¬ (ansF S.1 o.2.1 o.2.2 = 0 ∨ ansF S.1 o.2.1 o.2.2 = -1) := by
      rw [hA]
      rintro (z | z)
      · exact absurd ((z_eq (b := 0) rfl rfl (by omega) (by omega)).mp z) (by omega)
      · exact nI_nm1 (by omega) z
    have e2 : hearF S.1 (S.2.1 0) (S.2.1 1) (S.2.1 2) (N 3) o = (nI k, upd (upd S.1 8 (S.1 8 + 1)) 1 (gaF (b2i ms) (S.1 0) (S.1 1)), S.2.1 1, upd (S.2.1 2) k (S.2.1 2 k + 1)) := by
      unfold hearF
      rw [if_neg n0, hA]
      show (nI k, upd (upd S.1 8 (S.1 8 + 1)) 1 (gaF o.1 (S.1 0) (S.1 1)), S.2.1 1, upd (S.2.1 2) (nI k).toNatClampNeg (S.2.1 2 (nI k).toNatClampNeg + 1)) = _
      rw [nI_clamp (by omega), ho.1]
    rw [e2]
    exact ⟨rfl, vw_rk hv hb k1 k2, (bnd_rk hb k1 k2 hlc).1⟩
  · rw [e] at hA ⊢
    have e2 : hearF S.1 (S.2.1 0) (S.2.1 1) (S.2.1 2) (N 3) o = (-1, (ghF (upd (upd (upd (upd S.1 8 (S.1 8 + 1)) 1 (gaF (b2i ms) (S.1 0) (S.1 1))) 9 (S.1 9 + 1)) 6 0) (S.2.1 0) (S.2.1 1) (N 3)).1, (ghF (upd (upd (upd (upd S.1 8 (S.1 8 + 1)) 1 (gaF (b2i ms) (S.1 0) (S.1 1))) 9 (S.1 9 + 1)) 6 0) (S.2.1 0) (S.2.1 1) (N 3)).2, S.2.1 2) := by
      unfold hearF
      rw [if_pos (Or.inr hA), hA, ho.1]
      rfl
    rw [e2]
    exact ⟨rfl, vw_ho hv hb hn, (bnd_ho hb hlc).1⟩
  · rw [e] at hA ⊢
    have e2 : hearF S.1 (S.2.1 0) (S.2.1 1) (S.2.1 2) (N 3) o = (0, (spF (upd (upd (upd (upd S.1 8 (S.1 8 + 1)) 1 (gaF (b2i ms) (S.1 0) (S.1 1))) 9 (S.1 9 + 1)) 6 0) (S.2.1 0) (S.2.1 1) (o.2.2 / 4 % 16) (nI (o.2.2 / 2 % 2))).1, (spF (upd (upd (upd (upd S.1 8 (S.1 8 + 1)) 1 (gaF (b2i ms) (S.1 0) (S.1 1))) 9 (S.1 9 + 1)) 6 0) (S.2.1 0) (S.2.1 1) (o.2.2 / 4 % 16) (nI (o.2.2 / 2 % 2))).2, S.2.1 2) := by
      unfold hearF
      rw [if_pos (Or.inl hA), hA, ho.1]
      rfl
    rw [e2]
    exact ⟨rfl, vw_pr hv hb hn (by omega), (bnd_pr hb (by omega) (by omega) hlc).1⟩
end HN
