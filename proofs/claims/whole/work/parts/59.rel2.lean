/-! ===== the relation with the light row, the saved states; forecasts; texts ===== -/
section REL2
def frw (a b c d : zF) : Nat → zF
  | 0 => a
  | 1 => b
  | 2 => c
  | _ => d
def mkS (g a b c d : zF) (n : Nat) : zSt := (g, frw a b c d, n)
def relT (B : Nat) (S : zSt) (s : zF) : Prop := relQ B S.1 (S.2.1 0) (S.2.1 1) (S.2.1 2) s ∧ S.2.2 ≤ 30 ∧ s 48 = nI S.2.2 ∧ ∀ j, j < S.2.2 → s (49 + j) = S.2.1 3 j ∧ ∃ x, x ≤ 40 ∧ S.2.1 3 j = nI x
theorem relN_mono {B B' : Nat} {g s : zF} (h : relN B g s) (hb : B ≤ B') : relN B' g s := by
  obtain ⟨gl, gn, ad, b1, b2, b3, b4, g0, s0, g1, s1, g2, s2, ho, h6, h5, h7, h8⟩ := h
  refine ⟨gl, gn, ad, b1, b2, b3, b4, g0, s0, g1, s1, g2, s2, ho, ?_, h5, h7, h8⟩
  rcases h6 with h | ⟨sn, a0, a⟩
  · exact Or.inl h
  · exact Or.inr ⟨sn, by omega, a⟩
theorem relQ_mono {B B' : Nat} {g f0 f1 f2 s : zF} (h : relQ B g f0 f1 f2 s) (hb : B ≤ B') : relQ B' g f0 f1 f2 s := ⟨relN_mono h.1 hb, h.2⟩
theorem relT_mono {B B' : Nat} {S : zSt} {s : zF} (h : relT B S s) (hb : B ≤ B') : relT B' S s := ⟨relQ_mono h.1 hb, h.2⟩
theorem relQ_same {B : Nat} {g f0 f1 f2 s s' : zF} (h : relQ B g f0 f1 f2 s) (e : ∀ j, j < 48 → s' j = s j) : relQ B g f0 f1 f2 s' := by
  obtain ⟨⟨gl, gn, ad, b1, b2, b3, b4, g0, s0, g1, s1, g2, s2, ho, h6, h5, h7, h8⟩, ha, hd, hf, hac⟩ := h
  refine ⟨⟨gl, gn, ad, b1, b2, b3, b4, g0, (e 0 (by omega)).trans s0, g1, (e 1 (by omega)).trans s1, g2, (e 2 (by omega)).trans s2, ho, ?_, (e 5 (by omega)).trans h5, (e 7 (by omega)).trans h7, (e 8 (by omega)).trans h8⟩, fun k hk => ?_, fun k hk => ?_, fun k h1 h2 => ?_, ?_⟩
  · rw [e 6 (by omega), e 3 (by omega), e 4 (by omega)]
    exact h6
  · rw [e _ (by omega)]; exact ha k hk
  · rw [e _ (by omega)]; exact hd k hk
  · rw [e _ (by omega)]; exact hf k h1 h2
  · rw [hac]
    exact (acN_same (e 8 (by omega)) 6 (fun j h1 h2 => e _ (by omega))).symm
theorem rel_glare {B x : Nat} {g f0 f1 f2 s : zF} (h : relQ B g f0 f1 f2 s) (hx : x ≤ 9) : relQ B (upd g 0 (nI x)) f0 f1 f2 (upd s 0 (nI x)) := by
  obtain ⟨⟨gl, gn, ad, b1, b2, b3, b4, g0, s0, g1, s1, g2, s2, ho, h6, h5, h7, h8⟩, ha, hd, hf, hac⟩ := h
  refine ⟨⟨x, gn, ad, hx, b2, b3, b4, rfl, rfl, g1, s1, g2, s2, ho, h6, h5, h7, h8⟩, fun k hk => ?_, fun k hk => ?_, fun k h1 h2 => ?_, ?_⟩
  · rw [pk_un (by omega)]; exact ha k hk
  · rw [pk_un (by omega)]; exact hd k hk
  · rw [pk_un (by omega)]; exact hf k h1 h2
  · exact hac.trans (acN_same (s := s) (s' := upd s 0 (nI x)) rfl 6 (fun j h1 h2 => pk_un (by omega))).symm
theorem rel_addr {B x : Nat} {g f0 f1 f2 s : zF} (h : relQ B g f0 f1 f2 s) (hx : x < 8) : relQ B (upd g 2 (nI x)) f0 f1 f2 (upd s 2 (nI x)) := by
  obtain ⟨⟨gl, gn, ad, b1, b2, b3, b4, g0, s0, g1, s1, g2, s2, ho, h6, h5, h7, h8⟩, ha, hd, hf, hac⟩ := h
  refine ⟨⟨gl, gn, x, b1, b2, b3, hx, g0, s0, g1, s1, rfl, rfl, ho, h6, h5, h7, h8⟩, fun k hk => ?_, fun k hk => ?_, fun k h1 h2 => ?_, ?_⟩
  · rw [pk_un (by omega)]; exact ha k hk
  · rw [pk_un (by omega)]; exact hd k hk
  · rw [pk_un (by omega)]; exact hf k h1 h2
  · exact hac.trans (acN_same (s := s) (s' := upd s 2 (nI x)) rfl 6 (fun j h1 h2 => pk_un (by omega))).symm
theorem rel_learn {B x k : Nat} {g f0 f1 f2 s : zF} (h : relQ B g f0 f1 f2 s) (hx : x ≤ 2) (hk : k < 16) : relQ B g (upd f0 k (nI x)) f1 f2 (upd s (16 + k) (nI x)) := by
  obtain ⟨⟨gl, gn, ad, b1, b2, b3, b4, g0, s0, g1, s1, g2, s2, ho, h6, h5, h7, h8⟩, ha, hd, hf, hac⟩ := h
  have e : ∀ j, j < 16 → (upd s (16 + k) (nI x)) j = s j := fun j hj => pk_un (by omega)
  refine ⟨⟨gl, gn, ad, b1, b2, b3, b4, g0, (e 0 (by omega)).trans s0, g1, (e 1 (by omega)).trans s1, g2, (e 2 (by omega)).trans s2, ho, ?_, (e 5 (by omega)).trans h5, (e 7 (by omega)).trans h7, (e 8 (by omega)).trans h8⟩, fun j hj => ?_, fun j hj => ?_, fun j h1 h2 => ?_, ?_⟩
  · rw [e 6 (by omega), e 3 (by omega), e 4 (by omega)]
    exact h6
  · by_cases hjk : j = k
    · subst hjk
      rw [pk_us, pk_us]
      exact ⟨rfl, x, hx, rfl⟩
    · rw [pk_un (show 16 + j ≠ 16 + k by omega), pk_un hjk]; exact ha j hj
  · rw [pk_un (by omega)]; exact hd j hj
  · rw [e _ (by omega)]; exact hf j h1 h2
  · exact hac.trans (acN_same (e 8 (by omega)) 6 (fun j h1 h2 => e _ (by omega))).symm
theorem paR_un {s : zF} {tk : Int32} {j : Nat} (h5 : ¬ j = 5) (h6 : ¬ j = 6) : paR s tk j = s j := by
  unfold paR
  by_cases hc : rmR (upd s 6 (s 6 + (if s 6 < 0 then 0 else tk)))
  · rw [if_pos hc]; exact pk_un h6
  · rw [if_neg hc, pk_un h5, pk_un h6]
theorem rel_pass {B tk : Nat} {g f0 f1 f2 s : zF} (h : relQ B g f0 f1 f2 s) (hB : B + tk < 100000000) :
    relQ (B + tk) (if g 6 = -1 then g else upd g 6 (g 6 + nI tk)) f0 f1 f2 (paR s (nI tk)) ∧ (if g 6 = -1 then g else upd g 6 (g 6 + nI tk)) 6 = paR s (nI tk) 6 := by
  obtain ⟨⟨gl, gn, ad, b1, b2, b3, b4, g0, s0, g1, s1, g2, s2, ho, h6, h5, h7, h8⟩, ha, hd, hf, hac⟩ := h
  have hac' : acN (paR s (nI tk)) 6 = acN s 6 := acN_same (paR_un (by decide) (by decide)) 6 (fun j h1 h2 => paR_un (by omega) (by omega))
  rcases h6 with ⟨a1, a2, a3⟩ | ⟨sn, a0, a1, a2, a3, a4⟩
  · rw [if_pos a1]
    have hs6 : s 6 + (if s 6 < 0 then 0 else nI tk) = -1 := by rw [a2, if_pos (by decide)]; decide
    have hnr : ¬ rmR (upd s 6 (s 6 + (if s 6 < 0 then 0 else nI tk))) := by
      intro z
      have z1 : 0 ≤ s 3 := z.1
      rw [a3] at z1
      exact absurd z1 (by decide)
    have e6 : paR s (nI tk) 6 = -1 := by
      unfold paR
      rw [if_neg hnr]
      exact hs6
    have e5 : paR s (nI tk) 5 = 0 := by
      unfold paR
      rw [if_neg hnr]
      rfl
    have hnb : ¬ rmb g := fun z => z.1 a1
    refine ⟨⟨⟨gl, gn, ad, b1, b2, b3, b4, g0, (paR_un (by decide) (by decide)).trans s0, g1, (paR_un (by decide) (by decide)).trans s1, g2, (paR_un (by decide) (by decide)).trans s2, ho, Or.inl ⟨a1, e6, (paR_un (by decide) (by decide)).trans a3⟩, by rw [e5, if_neg hnb], (paR_un (by decide) (by decide)).trans h7, (paR_un (by decide) (by decide)).trans h8⟩, fun k hk => ?_, fun k hk => ?_, fun k h1 h2 => ?_, hac.trans hac'.symm⟩, a1.trans e6.symm⟩
    · rw [paR_un (by omega) (by omega)]; exact ha k hk
    · rw [paR_un (by omega) (by omega)]; exact hd k hk
    · rw [paR_un (by omega) (by omega)]; exact hf k h1 h2
  · have hn1 : ¬ g 6 = -1 := by rw [a1]; exact m1_ne sn (by omega)
    rw [if_neg hn1]
    have hs6 : s 6 + (if s 6 < 0 then 0 else nI tk) = nI (sn + tk) := by rw [a2, if_neg (nI_pos (by omega)), nI_add]
    have hg6 : (upd g 6 (g 6 + nI tk)) 6 = nI (sn + tk) := by show g 6 + nI tk = nI (sn + tk); rw [a1, nI_add]
    have e6 : paR s (nI tk) 6 = nI (sn + tk) := by
      unfold paR
      by_cases hc : rmR (upd s 6 (s 6 + (if s 6 < 0 then 0 else nI tk)))
      · rw [if_pos hc]; exact hs6
      · rw [if_neg hc]; exact hs6
    have h03 : 0 ≤ s 3 := by rw [a3, ho.1]; exact nI_pos' (by have := ho.2; omega)
    have hrr : rmb (upd g 6 (g 6 + nI tk)) ↔ rmR (upd s 6 (s 6 + (if s 6 < 0 then 0 else nI tk))) := by
      constructor
      · intro z
        have z2 := z.2
        rw [hg6] at z2
        exact ⟨h03, by show s 6 + _ ≤ 60; rw [hs6]; exact z2⟩
      · intro z
        have z2 : s 6 + (if s 6 < 0 then 0 else nI tk) ≤ 60 := z.2
        rw [hs6] at z2
        exact ⟨by rw [hg6]; exact m1_ne _ (by omega), by rw [hg6]; exact z2⟩
    have e5 : paR s (nI tk) 5 = if rmb (upd g 6 (g 6 + nI tk)) then (upd g 6 (g 6 + nI tk)) 5 else 0 := by
      by_cases hr : rmb (upd g 6 (g 6 + nI tk))
      · rw [if_pos hr]
        unfold paR
        rw [if_pos (hrr.mp hr)]
        show s 5 = g 5
        rw [h5, if_pos]
        refine ⟨hn1, ?_⟩
        have z2 := hr.2
        rw [hg6] at z2
        have z3 := (z_le (a := sn + tk) (b := 60) rfl rfl (by omega) (by omega)).mp z2
        rw [a1]
        exact (z_le (a := sn) (b := 60) rfl rfl (by omega) (by omega)).mpr (by omega)
      · rw [if_neg hr]
        unfold paR
        rw [if_neg (fun z => hr (hrr.mpr z))]
        rfl
    refine ⟨⟨⟨gl, gn, ad, b1, b2, b3, b4, g0, (paR_un (by decide) (by decide)).trans s0, g1, (paR_un (by decide) (by decide)).trans s1, g2, (paR_un (by decide) (by decide)).trans s2, ho, Or.inr ⟨sn + tk, by omega, hg6, e6, (paR_un (by decide) (by decide)).trans a3, (paR_un (by decide) (by decide)).trans a4⟩, e5, (paR_un (by decide) (by decide)).trans h7, (paR_un (by decide) (by decide)).trans h8⟩, fun k hk => ?_, fun k hk => ?_, fun k h1 h2 => ?_, hac.trans hac'.symm⟩, hg6.trans e6.symm⟩
    · rw [paR_un (by omega) (by omega)]; exact ha k hk
    · rw [paR_un (by omega) (by omega)]; exact hd k hk
    · rw [paR_un (by omega) (by omega)]; exact hf k h1 h2
theorem relQ_okR {B : Nat} {g f0 f1 f2 s : zF} (h : relQ B g f0 f1 f2 s) : okR s := by
  obtain ⟨⟨gl, gn, ad, b1, b2, b3, b4, g0, s0, g1, s1, g2, s2, ho, h6, h5, h7, h8⟩, -⟩ := h
  have hmul : gl * gn ≤ 9 * 10 := Nat.mul_le_mul b1 b3
  have e : s 0 * s 1 / 20 = nI (gl * gn / 20) := by rw [s0, s1, pk_mul]; exact pk_div (d := 20) (by omega) (by omega) (by omega)
  refine ⟨by rw [e, nI_toInt (by omega)]; omega, ?_, ?_⟩
  · intro hp
    rcases h6 with ⟨a1, a2, a3⟩ | ⟨sn, a0, a1, a2, a3, a4⟩
    · rw [a3] at hp; exact absurd hp (by decide)
    · rw [a3]; exact ho.1
  · rcases h6 with ⟨a1, a2, a3⟩ | ⟨sn, a0, a1, a2, a3, a4⟩
    · rw [a3]; decide
    · rw [a3]; exact ho.2
theorem relQ_okg {B : Nat} {g f0 f1 f2 s : zF} (h : relQ B g f0 f1 f2 s) : okg g := by
  obtain ⟨⟨gl, gn, ad, -, -, -, -, -, -, -, -, -, -, ho, -⟩, -⟩ := h
  exact ho
theorem relQ_ad {B : Nat} {g f0 f1 f2 s : zF} (h : relQ B g f0 f1 f2 s) : ∃ ad, ad < 8 ∧ g 2 = nI ad ∧ s 2 = nI ad := by
  obtain ⟨⟨gl, gn, ad, -, -, -, b4, -, -, -, -, g2, s2, -⟩, -⟩ := h
  exact ⟨ad, b4, g2, s2⟩
theorem relQ_01 {B : Nat} {g f0 f1 f2 s : zF} (h : relQ B g f0 f1 f2 s) : s 0 = g 0 ∧ s 1 = g 1 ∧ s 2 = g 2 := by
  obtain ⟨⟨gl, gn, ad, -, -, -, b4, g0, s0, g1, s1, g2, s2, -⟩, -⟩ := h
  exact ⟨s0.trans g0.symm, s1.trans g1.symm, s2.trans g2.symm⟩
/-- light heard, in the system's words -/
theorem T_hear {B : Nat} {S : zSt} {s s' : zF} {o o' : Int32 × Int32 × Nat} (h : relT B S s) (hB : B < 100000000) (ho : okO o) (he : o' = o) (c c' : Nat) (hc : c = (S.1 3).toNatClampNeg) (hc' : c' = (s 3).toNatClampNeg) (v : Int32) (hg : (v, s') = geR s c' o') :
    (hearF S.1 (S.2.1 0) (S.2.1 1) (S.2.1 2) c o).1 = v ∧ relT B (mkS (hearF S.1 (S.2.1 0) (S.2.1 1) (S.2.1 2) c o).2.1 (S.2.1 0) (hearF S.1 (S.2.1 0) (S.2.1 1) (S.2.1 2) c o).2.2.1 (hearF S.1 (S.2.1 0) (S.2.1 1) (S.2.1 2) c o).2.2.2 (S.2.1 3) S.2.2) s' := by
  subst he; subst hc; subst hc'
  obtain ⟨a1, a2, a3⟩ := hear_o h.1 hB ho
  have e1 : v = (geR s (s 3).toNatClampNeg o').1 := congrArg Prod.fst hg
  have e2 : s' = (geR s (s 3).toNatClampNeg o').2 := congrArg Prod.snd hg
  rw [← e1] at a1
  rw [← e2] at a2 a3
  exact ⟨a1, a2, h.2.1, (a3 48 (by omega)).trans h.2.2.1, fun j hj => ⟨(a3 _ (by omega)).trans (h.2.2.2 j hj).1, (h.2.2.2 j hj).2⟩⟩
theorem rc_un {s : zF} {j : Nat} (h : j < 48) : rcS s j = s j := by
  unfold rcS
  rw [pk_un (by omega), if_neg (by omega)]
theorem T_receive {B : Nat} {S : zSt} {s s' : zF} {o o' : Int32 × Int32 × Nat} (h : relT B S s) (hB : B < 100000000) (ho : okO o) (he : o' = o) (c c' : Nat) (hc : c = (S.1 3).toNatClampNeg) (hc' : c' = (s 3).toNatClampNeg) (v : Int32) (hg : (v, s') = geR (rcS s) c' o') :
    (hearF S.1 (S.2.1 0) (S.2.1 1) (S.2.1 2) c o).1 = v ∧ relT B (mkS (hearF S.1 (S.2.1 0) (S.2.1 1) (S.2.1 2) c o).2.1 (S.2.1 0) (hearF S.1 (S.2.1 0) (S.2.1 1) (S.2.1 2) c o).2.2.1 (hearF S.1 (S.2.1 0) (S.2.1 1) (S.2.1 2) c o).2.2.2 (S.2.1 3) 0) s' := by
  have h0 : relT B (mkS S.1 (S.2.1 0) (S.2.1 1) (S.2.1 2) (S.2.1 3) 0) (rcS s) := ⟨relQ_same h.1 (fun j hj => rc_un hj), Nat.zero_le 30, rfl, fun j hj => absurd hj (Nat.not_lt_zero j)⟩
  exact T_hear h0 hB ho he c c' hc (by rw [rc_un (by omega)]; exact hc') v hg
/-- saved states -/
def relV (B n : Nat) (SS : Nat → zSt) (sv : Nat → zF) : Prop := ∀ i, i < n → relT B (SS i) (sv i)
theorem relV_mono {B B' n : Nat} {SS : Nat → zSt} {sv : Nat → zF} (h : relV B n SS sv) (hb : B ≤ B') : relV B' n SS sv := fun i hi => relT_mono (h i hi) hb
theorem va_up_s {α : Type} {f : Nat → α} {k : Nat} {x : α} : va_up f k x k = x := by
  unfold va_up
  rw [if_pos rfl]
theorem va_up_n {α : Type} {f : Nat → α} {k j : Nat} {x : α} (h : ¬ j = k) : va_up f k x j = f j := by
  unfold va_up
  rw [if_neg h]
theorem T_save {B n : Nat} {S : zSt} {s : zF} {SS : Nat → zSt} {sv : Nat → zF} (h : relV B n SS sv) (hT : relT B S s) (hn : n ≤ 6) (u : Nat × (Nat → zSt)) (v : Nat × (Nat → zF)) (hu : u = svK n SS S) (hv : v = svF n sv s) : u.1 = v.1 ∧ v.1 ≤ 6 ∧ relV B v.1 u.2 v.2 := by
  subst hu; subst hv
  unfold svK svF
  by_cases h6 : n = 6
  · subst h6
    rw [if_pos rfl, if_pos rfl]
    refine ⟨rfl, Nat.le_refl 6, fun i hi => ?_⟩
    show relT B (va_up (shS SS) 5 S i) (va_up (shv sv) 5 s i)
    have hi : i < 6 := hi
    by_cases h5 : i = 5
    · subst h5; rw [va_up_s, va_up_s]; exact hT
    · rw [va_up_n h5, va_up_n h5]
      unfold shS shv
      rw [if_pos (by omega), if_pos (by omega)]
      exact h (i + 1) (by omega)
  · rw [if_neg h6, if_neg h6]
    refine ⟨rfl, by show n + 1 ≤ 6; omega, fun i hi => ?_⟩
    show relT B (va_up SS n S i) (va_up sv n s i)
    have hi : i < n + 1 := hi
    by_cases h5 : i = n
    · subst h5; rw [va_up_s, va_up_s]; exact hT
    · rw [va_up_n h5, va_up_n h5]
      exact h i (by omega)
theorem T_shine {B x : Nat} {S : zSt} {s : zF} (h : relT B S s) (hl : S.2.2 < 30) (hx : x ≤ 40) : relT B (mkS S.1 (S.2.1 0) (S.2.1 1) (S.2.1 2) (upd (S.2.1 3) S.2.2 (nI x)) (S.2.2 + 1)) (upd (upd s (49 + S.2.2) (nI x)) 48 (nI (S.2.2 + 1))) := by
  refine ⟨relQ_same h.1 (fun j hj => by rw [pk_un (by omega), pk_un (by omega)]), hl, rfl, fun j hj => ?_⟩
  have hj : j < S.2.2 + 1 := hj
  show upd (upd s (49 + S.2.2) (nI x)) 48 (nI (S.2.2 + 1)) (49 + j) = upd (S.2.1 3) S.2.2 (nI x) j ∧ ∃ y, y ≤ 40 ∧ upd (S.2.1 3) S.2.2 (nI x) j = nI y
  rw [pk_un (by omega)]
  by_cases hk : j = S.2.2
  · subst hk
    rw [pk_us, pk_us]
    exact ⟨rfl, x, hx, rfl⟩
  · rw [pk_un (by omega), pk_un hk]
    exact h.2.2.2 j (by omega)
theorem hearF_1 {g f0 f1 f2 : zF} {c : Nat} {o : Int32 × Int32 × Nat} : (hearF g f0 f1 f2 c o).1 = ansF g o.2.1 o.2.2 := by
  unfold hearF
  split <;> rfl
theorem lis_weak (g : zF) (loss : Int32) (a0 : zF) : ∀ i, (lis g loss true a0 i).2.2.1 = 0 := by
  intro i
  induction i with
  | zero => rfl
  | succ i ih =>
    show (lisS g loss true i (lis g loss true a0 i)).2.2.1 = 0
    by_cases h : i % 2 = 1
    · rw [lisS_odd h]; exact ih
    · rw [lisS_miss (by omega) (Or.inl rfl)]; exact ih
theorem LO_weak {S : zF} {n : Nat} {gl gn st : Int32} (h : st < 11 - gn) : (LO S n gl gn st).2.1 = 1 := by
  show dec _ _ = 1
  rw [show decide (st < 11 - gn) = true from decide_eq_true h, lis_weak]
  exact dec_1 (by decide) (by decide)
theorem LO_st {S : zF} {n : Nat} {gl gn st st' : Int32} (h : ¬ st < 11 - gn) (h' : ¬ st' < 11 - gn) : LO S n gl gn st = LO S n gl gn st' := by
  unfold LO
  rw [show decide (st < 11 - gn) = false from decide_eq_false h, show decide (st' < 11 - gn) = false from decide_eq_false h']
theorem ans_cl {g : zF} {o : Int32 × Int32 × Nat} (ho : okO o) (h : ¬ 0 < ansF g o.2.1 o.2.2) : ansF g o.2.1 o.2.2 = 0 ∨ ansF g o.2.1 o.2.2 = -1 := by
  rcases ansF_cases (g := g) o.2.2 ho.2 with z | z | ⟨k, h1, h2, h3⟩
  · exact Or.inl z.1
  · exact Or.inr z.1
  · exact absurd (by rw [h3]; exact (nI_ltI (a := 0) (by omega) (by omega)).mpr (by omega)) h
theorem least_rel {B ad c : Nat} {g f0 f1 f2 s : zF} {v : Int32} (h : relQ B g f0 f1 f2 s) (hB : B < 100000000) (hc : c = (s 3).toNatClampNeg) (hv : lsP (fun k9 => (geR s c (LO (frS (wd ad 0 0)) 21 (s 0) (s 1) (nI k9))).1) v) : v = lsC ad g := by
  subst hc
  obtain ⟨e0, e1, -⟩ := relQ_01 h
  obtain ⟨⟨gl, gn, ad', b1, b2, b3, b4, g0, s0, g1, s1, -⟩, -⟩ := id h
  have eF : ∀ k, (geR s (s 3).toNatClampNeg (LO (frS (wd ad 0 0)) 21 (s 0) (s 1) (nI k))).1 = ansF g (LO (frS (wd ad 0 0)) 21 (g 0) (g 1) (nI k)).2.1 (LO (frS (wd ad 0 0)) 21 (g 0) (g 1) (nI k)).2.2 := by
    intro k
    rw [e0, e1]
    have := (hear_o h hB (LO_ok (frS (wd ad 0 0)) 21 (g 0) (g 1) (nI k))).1
    rw [hearF_1] at this
    exact this.symm
  have h11 : 11 - g 1 = nI (11 - gn) := by rw [g1]; exact pk_sub (a := 11) (by omega)
  have weak : ∀ k, k < 11 - gn → ansF g (LO (frS (wd ad 0 0)) 21 (g 0) (g 1) (nI k)).2.1 (LO (frS (wd ad 0 0)) 21 (g 0) (g 1) (nI k)).2.2 = 1 := by
    intro k hk
    have hm := LO_weak (S := frS (wd ad 0 0)) (n := 21) (gl := g 0) (gn := g 1) (st := nI k) (by rw [h11]; exact (nI_ltI (by omega) (by omega)).mpr hk)
    rw [ansF_r (by rw [hm]; decide) (by rw [hm]; decide), hm]
  have strong : ∀ k, 11 - gn ≤ k → k ≤ 10 → LO (frS (wd ad 0 0)) 21 (g 0) (g 1) (nI k) = LO (frS (wd ad 0 0)) 21 (g 0) (g 1) (11 - g 1) := by
    intro k hk hk2
    refine LO_st ?_ ?_
    · rw [h11]; exact fun z => absurd ((nI_ltI (by omega) (by omega)).mp z) (by omega)
    · intro z; exact Int32.lt_irrefl z
  have ho := LO_ok (frS (wd ad 0 0)) 21 (g 0) (g 1) (11 - g 1)
  unfold lsC
  rcases hv with ⟨k, k1, k2, k3, k4, k5⟩ | ⟨k3, k5⟩
  · have k4 : ¬ 0 < (geR s (s 3).toNatClampNeg (LO (frS (wd ad 0 0)) 21 (s 0) (s 1) (nI k))).1 := k4
    rw [eF] at k4
    have hge : 11 - gn ≤ k := by
      rcases Nat.lt_or_ge k (11 - gn) with z | z
      · rw [weak k z] at k4; exact absurd (by decide) k4
      · exact z
    have hk : k = 11 - gn := by
      rcases Nat.lt_or_eq_of_le hge with z | z
      · have k6 : 0 < (geR s (s 3).toNatClampNeg (LO (frS (wd ad 0 0)) 21 (s 0) (s 1) (nI (11 - gn)))).1 := k5 (11 - gn) (by omega) z
        rw [eF, strong (11 - gn) (Nat.le_refl _) (by omega)] at k6
        rw [strong k hge k2] at k4
        exact absurd k6 k4
      · exact z.symm
    rw [strong k hge k2] at k4
    rw [if_pos (ans_cl ho k4), k3, h11, hk]
  · have k6 : 0 < (geR s (s 3).toNatClampNeg (LO (frS (wd ad 0 0)) 21 (s 0) (s 1) (nI (11 - gn)))).1 := k5 (11 - gn) (by omega) (by omega)
    rw [eF, strong (11 - gn) (Nat.le_refl _) (by omega)] at k6
    rw [if_neg (fun z => ans_npos z k6), k3]
theorem tcP_one {F F' : Nat → Int32} {v v' : Int32} (h : tcP F v) (h' : tcP F' v') (he : ∀ i, i < 21 → (∀ j, j < i → 0 < F j) → F' i = F i) : v = v' := by
  have up : ∀ i, i ≤ 21 → (∀ j, j < i → 0 < F j) → ∀ j, j < i → 0 < F' j := fun i hi h j hj => by rw [he j (by omega) (fun q hq => h q (by omega))]; exact h j hj
  have dn : ∀ i, i ≤ 21 → (∀ j, j < i → 0 < F' j) → ∀ j, j < i → 0 < F j := by
    intro i
    induction i with
    | zero => intro _ _ j hj; exact absurd hj (Nat.not_lt_zero j)
    | succ i ih =>
      intro hi h' j hj
      have hlow := ih (by omega) (fun q hq => h' q (by omega))
      rcases Nat.lt_or_eq_of_le (Nat.lt_succ_iff.mp hj) with z | z
      · exact hlow j z
      · subst z
        rw [← he j (by omega) hlow]
        exact h' j (by omega)
  rcases h with ⟨k, k1, k2, k3, k4⟩ | ⟨k2, k4⟩
  · rcases h' with ⟨q, q1, q2, q3, q4⟩ | ⟨q2, q4⟩
    · have e : k = q := by
        rcases Nat.lt_trichotomy k q with z | z | z
        · have := q4 k z
          rw [he k (by omega) k4] at this
          exact absurd this k3
        · exact z
        · have hl := dn q (by omega) q4
          have := k4 q z
          rw [← he q (by omega) hl] at this
          exact absurd this q3
      rw [k2, q2, e]
    · have := q4 k (by omega)
      rw [he k (by omega) k4] at this
      exact absurd this k3
  · rcases h' with ⟨q, q1, q2, q3, q4⟩ | ⟨q2, q4⟩
    · have hl := dn q (by omega) q4
      have := k4 q (by omega)
      rw [← he q (by omega) hl] at this
      exact absurd this q3
    · rw [k2, q2]
/-- the answer that the reference's decoding gives, of a state that agrees in what it reads -/
theorem de_ans {g s : zF} {mn : Int32} {w c : Nat} (hrr : rmb g ↔ rmR s) (h3 : rmb g → s 3 = g 3 ∧ s 4 = g 4) (h2 : s 2 = g 2) (ho : mn = 1 ∨ mn = 2 ∨ mn = 3 ∨ mn = 4 ∨ mn = 8 ∨ mn = 7) :
    (deR s mn w c).1 = ansF g mn w ∧ (0 < ansF g mn w → ∃ r, 1 ≤ r ∧ r ≤ 6 ∧ deR s mn w c = (nI r, rfF s r)) := by
  have R14 : ∀ r, 1 ≤ r → r ≤ 4 → mn = nI r → (deR s mn w c).1 = ansF g mn w ∧ (0 < ansF g mn w → ∃ r, 1 ≤ r ∧ r ≤ 6 ∧ deR s mn w c = (nI r, rfF s r)) := by
    intro r h1 h4 hm
    have e := deR_r (s := s) (w := w) (c := c) hm (by omega)
    have ea : ansF g mn w = mn := ansF_r (by rw [hm]; exact mt (z_eq (b := 8) rfl rfl (by omega) (by omega)).mp (by omega)) (by rw [hm]; exact mt (z_eq (b := 7) rfl rfl (by omega) (by omega)).mp (by omega))
    exact ⟨by rw [e, ea]; exact hm.symm, fun _ => ⟨r, h1, by omega, e⟩⟩
  rcases ho with hm | hm | hm | hm | hm | hm
  · exact R14 1 (by omega) (by omega) hm
  · exact R14 2 (by omega) (by omega) hm
  · exact R14 3 (by omega) (by omega) hm
  · exact R14 4 (by omega) (by omega) hm
  · by_cases hr : rmb g
    · rw [deR_8p hm (hrr.mp hr), ansF_8 hm, if_pos hr]
      exact ⟨rfl, fun z => absurd z (by decide)⟩
    · rw [deR_8n hm (fun z => hr (hrr.mpr z)), ansF_8 hm, if_neg hr]
      exact ⟨rfl, fun _ => ⟨6, by omega, by omega, rfl⟩⟩
  · by_cases had : nI (w / 64) = g 2
    · rw [deR_f hm (had.trans h2.symm), ansF_f hm had]
      unfold acR
      by_cases hs : rmb g ∧ nI (w / 4 % 16) = g 3 ∧ nI (w / 2 % 2) = g 4
      · obtain ⟨e3, e4⟩ := h3 hs.1
        rw [if_pos hs, if_pos ⟨hrr.mp hs.1, by rw [e3]; exact hs.2.1.symm, by rw [e4]; exact hs.2.2.symm⟩]
        exact ⟨rfl, fun z => absurd z (by decide)⟩
      · have hns : ¬ (rmR s ∧ s 3 = nI (w / 4 % 16) ∧ s 4 = nI (w / 2 % 2)) := by
          intro z
          obtain ⟨e3, e4⟩ := h3 (hrr.mpr z.1)
          exact hs ⟨hrr.mpr z.1, by rw [← e3]; exact z.2.1.symm, by rw [← e4]; exact z.2.2.symm⟩
        rw [if_neg hs, if_neg hns]
        exact ⟨rfl, fun z => absurd z (by decide)⟩
    · rw [deR_5 hm (fun z => had (z.trans h2)), ansF_5 hm had]
      exact ⟨rfl, fun _ => ⟨5, by omega, by omega, rfl⟩⟩
/-- while frames are refused: what the reference's numbers are -/
theorem tc_inv {B ad c : Nat} {g f0 f1 f2 s : zF} (h : relQ B g f0 f1 f2 s) (hB : B < 100000000) (hg2 : g 2 = nI ad) : ∀ i, (∀ j, j < i → 0 < tcC ad g j) →
    (tcS c ad s i 0 = g 0 ∧ tcS c ad s i 1 = gnC ad g i ∧ tcS c ad s i 2 = g 2 ∧ tcS c ad s i 3 = s 3 ∧ tcS c ad s i 4 = s 4 ∧ tcS c ad s i 6 = s 6) ∧ (∃ n', 1 ≤ n' ∧ n' ≤ 10 ∧ gnC ad g i = nI n') ∧ tcA c ad s i = tcC ad g i := by
  have hN := h.1
  obtain ⟨gl, gn, ad', b1, b2, b3, b4, g0, s0, g1, s1, g2, s2, hog, h6, h5, h7, h8⟩ := id h.1
  have hrr := rel_rm hN hB
  have A : ∀ i, (tcS c ad s i 0 = g 0 ∧ tcS c ad s i 1 = gnC ad g i ∧ tcS c ad s i 2 = g 2 ∧ tcS c ad s i 3 = s 3 ∧ tcS c ad s i 4 = s 4 ∧ tcS c ad s i 6 = s 6) →
      LO (frS (wd ad 0 0)) 21 (tcS c ad s i 0) (tcS c ad s i 1) 10 = LO (frS (wd ad 0 0)) 21 (g 0) (gnC ad g i) 10 ∧
      (deR (tcS c ad s i) (LO (frS (wd ad 0 0)) 21 (g 0) (gnC ad g i) 10).2.1 (LO (frS (wd ad 0 0)) 21 (g 0) (gnC ad g i) 10).2.2 c).1 = tcC ad g i ∧
      (0 < tcC ad g i → ∃ r, 1 ≤ r ∧ r ≤ 6 ∧ deR (tcS c ad s i) (LO (frS (wd ad 0 0)) 21 (g 0) (gnC ad g i) 10).2.1 (LO (frS (wd ad 0 0)) 21 (g 0) (gnC ad g i) 10).2.2 c = (nI r, rfF (tcS c ad s i) r)) := by
    intro i ⟨e0, e1, e2, e3, e4, e6⟩
    have hd := de_ans (g := g) (s := tcS c ad s i) (mn := (LO (frS (wd ad 0 0)) 21 (g 0) (gnC ad g i) 10).2.1) (w := (LO (frS (wd ad 0 0)) 21 (g 0) (gnC ad g i) 10).2.2) (c := c)
      (hrr.trans (by show (0 ≤ s 3 ∧ s 6 ≤ 60) ↔ (0 ≤ tcS c ad s i 3 ∧ tcS c ad s i 6 ≤ 60); rw [e3, e6]))
      (fun hr => ⟨e3.trans (rel_rmd hN hr).1, e4.trans (rel_rmd hN hr).2.1⟩) e2 (LO_cases _ _ _ _ _)
    exact ⟨by rw [e0, e1], hd.1, hd.2⟩
  have K : ∀ i, (∀ j, j < i → 0 < tcC ad g j) → (tcS c ad s i 0 = g 0 ∧ tcS c ad s i 1 = gnC ad g i ∧ tcS c ad s i 2 = g 2 ∧ tcS c ad s i 3 = s 3 ∧ tcS c ad s i 4 = s 4 ∧ tcS c ad s i 6 = s 6) ∧ (∃ n', 1 ≤ n' ∧ n' ≤ 10 ∧ gnC ad g i = nI n') := by
    intro i
    induction i with
    | zero => intro _; exact ⟨⟨s0.trans g0.symm, s1.trans g1.symm, s2.trans g2.symm, rfl, rfl, rfl⟩, gn, b2, b3, g1⟩
    | succ i ih =>
      intro hall
      obtain ⟨e, n1, n2, n3, n4⟩ := ih (fun j hj => hall j (by omega))
      obtain ⟨a1, a2, a3⟩ := A i e
      obtain ⟨r, r1, r2, hd⟩ := a3 (hall i (by omega))
      obtain ⟨e0, e1, e2, e3, e4, e6⟩ := e
      have eS : tcS c ad s (i + 1) = (geR (tcS c ad s i) c (LO (frS (wd ad 0 0)) 21 (g 0) (gnC ad g i) 10)).2 := by
        show (geR (tcS c ad s i) c (LO (frS (wd ad 0 0)) 21 (tcS c ad s i 0) (tcS c ad s i 1) 10)).2 = _
        rw [a1]
      have er : ∀ j, j < 9 → rfF (tcS c ad s i) r j = tcS c ad s i j := fun j hj => rf_un (by omega)
      obtain ⟨n', c1, c2, c3, c4⟩ := gain_rel (g := upd g 1 (gnC ad g i)) (s := rfF (tcS c ad s i) r) (LO_ms (frS (wd ad 0 0)) 21 (g 0) (gnC ad g i) 10) b1 n2 n3 g0 n4 ((er 0 (by omega)).trans (e0.trans g0)) ((er 1 (by omega)).trans (e1.trans n4))
      have c3 : gaF (LO (frS (wd ad 0 0)) 21 (g 0) (gnC ad g i) 10).1 (g 0) (gnC ad g i) = nI n' := c3
      have eG : gnC ad g (i + 1) = nI n' := c3
      rw [eS, ← geR_of hd.symm c4]
      exact ⟨⟨(er 0 (by omega)).trans e0, eG.symm, (er 2 (by omega)).trans e2, (er 3 (by omega)).trans e3, (er 4 (by omega)).trans e4, (er 6 (by omega)).trans e6⟩, n', c1, c2, eG⟩
  intro i hall
  obtain ⟨e, n⟩ := K i hall
  obtain ⟨a1, a2, a3⟩ := A i e
  refine ⟨e, n, ?_⟩
  show (geR (tcS c ad s i) c (LO (frS (wd ad 0 0)) 21 (tcS c ad s i 0) (tcS c ad s i 1) 10)).1 = tcC ad g i
  rw [a1]
  exact a2
theorem tc_up {B ad c : Nat} {g f0 f1 f2 s : zF} (h : relQ B g f0 f1 f2 s) (hB : B < 100000000) (hg2 : g 2 = nI ad) : ∀ i, (∀ j, j < i → 0 < tcA c ad s j) → ∀ j, j < i → 0 < tcC ad g j := by
  intro i
  induction i with
  | zero => intro _ j hj; exact absurd hj (Nat.not_lt_zero j)
  | succ i ih =>
    intro hall j hj
    have hlow := ih (fun q hq => hall q (by omega))
    rcases Nat.lt_or_eq_of_le (Nat.lt_succ_iff.mp hj) with z | z
    · exact hlow j z
    · subst z
      rw [← (tc_inv (c := c) h hB hg2 j hlow).2.2]
      exact hall j (by omega)
theorem tc_tinv {B ad c : Nat} {g f0 f1 f2 s : zF} (h : relQ B g f0 f1 f2 s) (hB : B < 100000000) (hg2 : g 2 = nI ad) (hc : c = (s 3).toNatClampNeg) : ∀ i, i ≤ 20 → (∀ j, j < i → 0 < tcA c ad s j) → tinv c ad (tcS c ad s i) := by
  intro i _ hall
  obtain ⟨⟨e0, e1, e2, e3, e4, e6⟩, ⟨n', n1, n2, n3⟩, -⟩ := tc_inv (c := c) h hB hg2 i (tc_up h hB hg2 i hall)
  obtain ⟨gl, gn, ad', b1, -, -, -, g0, -⟩ := id h.1
  have hmul : gl * n' ≤ 9 * 10 := Nat.mul_le_mul b1 n2
  have e : tcS c ad s i 0 * tcS c ad s i 1 / 20 = nI (gl * n' / 20) := by rw [e0, e1, g0, n3, pk_mul]; exact pk_div (d := 20) (by omega) (by omega) (by omega)
  refine ⟨e2.trans hg2, by rw [e, nI_toInt (by omega)]; omega, fun hp => ?_⟩
  rw [e3] at hp ⊢
  rw [hc]
  exact (relQ_okR h).2.1 hp
theorem tc_rel {B ad c : Nat} {g f0 f1 f2 s : zF} {v v' : Int32} (h : relQ B g f0 f1 f2 s) (hB : B < 100000000) (hg2 : g 2 = nI ad) (hv : tcP (tcC ad g) v) (hv' : tcP (tcA c ad s) v') : v = v' :=
  tcP_one hv hv' (fun i _ hall => (tc_inv (c := c) h hB hg2 i hall).2.2)
theorem dga_same {f0 f1 f0' f1' : zF} {h : Int64} : ∀ n, (∀ k, k < n → f0 k = f0' k ∧ f1 k = f1' k) → dga f0 f1 h n = dga f0' f1' h n := by
  intro n
  induction n with
  | zero => intro _; rfl
  | succ n ih =>
    intro e
    show dg1 (dg1 (dga f0 f1 h n) (f0 n)) (f1 n) = dg1 (dg1 (dga f0' f1' h n) (f0' n)) (f1' n)
    rw [ih (fun k hk => e k (by omega)), (e n (by omega)).1, (e n (by omega)).2]
theorem dgr_same {f f' : zF} {h : Int64} : ∀ n, (∀ k, 1 ≤ k → k ≤ n → f k = f' k) → dgr f h n = dgr f' h n := by
  intro n
  induction n with
  | zero => intro _; rfl
  | succ n ih =>
    intro e
    show dg1 (dgr f h n) (f (n + 1)) = dg1 (dgr f' h n) (f' (n + 1))
    rw [ih (fun k h1 h2 => e k h1 (by omega)), e (n + 1) (by omega) (by omega)]
theorem rel_q {B : Nat} {g f0 f1 f2 s : zF} (h : relQ B g f0 f1 f2 s) (hB : B < 100000000) : (if rmb g then g 3 else -1) = (if rmR s then s 3 else -1) ∧ (if rmb g then g 5 else 0) = s 5 ∧ (if rmb g then 61 - g 6 else -1) = (if rmR s then 61 - s 6 else -1) ∧ g 7 = s 7 ∧ g 8 = s 8 := by
  have hrr := rel_rm h.1 hB
  obtain ⟨gl, gn, ad', b1, b2, b3, b4, g0, s0, g1, s1, g2, s2, hog, h6, h5, h7, h8⟩ := id h.1
  refine ⟨?_, h5.symm, ?_, h7.symm, h8.symm⟩
  · by_cases hr : rmb g
    · rw [if_pos hr, if_pos (hrr.mp hr), (rel_rmd h.1 hr).1]
    · rw [if_neg hr, if_neg (fun z => hr (hrr.mpr z))]
  · by_cases hr : rmb g
    · rw [if_pos hr, if_pos (hrr.mp hr)]
      rcases h6 with ⟨a1, a2, a3⟩ | ⟨sn, a0, a1, a2, a3, a4⟩
      · exact absurd a1 hr.1
      · rw [a1, a2]
    · rw [if_neg hr, if_neg (fun z => hr (hrr.mpr z))]
theorem digest_rel {B ad c lc : Nat} {g f0 f1 f2 s : zF} {x y l2 t2 : Int32} {v v' : Int64} (h : relQ B g f0 f1 f2 s) (hB : B < 100000000) (hg2 : g 2 = nI ad) (hc : c = (s 3).toNatClampNeg) (hl : s 48 = nI lc)
    (hv : v = dgr f2 (dga f0 f1 (dgv (g 0) (g 1) (if rmb g then g 3 else -1) (if rmb g then g 5 else 0) (g 7) (nI lc) (g 8) (lsC ad g) x (if rmb g then 61 - g 6 else -1)) 16) 6) (hx : tcP (tcC ad g) x)
    (hv' : v' = dgr (fun j9 => s (9 + j9)) (dga (fun j9 => s (16 + j9)) (fun j9 => s (32 + j9)) (dgv (s 0) (s 1) (if rmR s then s 3 else -1) (s 5) (s 7) (s 48) (s 8) l2 t2 (if rmR s then 61 - s 6 else -1)) 16) 6)
    (hl2 : lsP (fun k9 => (geR s c (LO (frS (wd ad 0 0)) 21 (s 0) (s 1) (nI k9))).1) l2) (ht2 : tcP (tcA c ad s) t2) : v = v' := by
  obtain ⟨e0, e1, -⟩ := relQ_01 h
  obtain ⟨q1, q2, q3, q4, q5⟩ := rel_q h hB
  have el := least_rel h hB hc hl2
  have et := tc_rel h hB hg2 hx ht2
  rw [hv, hv', q1, q2, q3, q4, q5, hl, el, et, e0, e1]
  rw [dga_same (f0 := f0) (f1 := f1) (f0' := fun j9 => s (16 + j9)) (f1' := fun j9 => s (32 + j9)) 16 (fun k hk => ⟨(h.2.1 k hk).1.symm, (h.2.2.1 k hk).symm⟩)]
  exact dgr_same 6 (fun k h1 h2 => (h.2.2.2.1 k h1 h2).symm)
/-- a part of a text keeps the relation -/
theorem part_rel {B n j e : Nat} {t g f0 f1 f2 s : zF} (h : relQ B g f0 f1 f2 s) (hB : B + 99 < 100000000) (hp : ptK t n j e) (he : e = peT t n j) :
    relQ (B + 99) (ptC t n f0 j (g, f1, f2)).1 f0 (ptC t n f0 j (g, f1, f2)).2.1 (ptC t n f0 j (g, f1, f2)).2.2 (ptR t n j s) ∧ ∀ q, 48 ≤ q → ptR t n j s q = s q := by
  obtain ⟨e0, e1, -⟩ := relQ_01 h
  rcases hp with ⟨hx, he4, d1, d2, d3, k1, k2, k3, c1, c2, c3, c4⟩ | ⟨hx, he1⟩ | ⟨hx, d1, k1, c1, c2, ⟨he2, -⟩ | ⟨he3, -, d2, c3, k2⟩⟩ | ⟨hx, he2, d1, c1, k1⟩
  · rw [ptC_f (q := (g, f1, f2)) hx k1 k2 k3 c1 c2 c4, ptR_f hx k1 k2 k3 c1 c2 c4, e0, e1]
    dsimp only
    obtain ⟨-, a2, a3⟩ := hear_o h (by omega) (LO_ok (frS (wd 0 (10 * d1 + d2) d3)) 21 (g 0) (g 1) 10)
    exact ⟨relQ_mono a2 (by omega), a3⟩
  · rw [ptC_r (q := (g, f1, f2)) hx, ptR_r hx, e0, e1]
    dsimp only
    obtain ⟨-, a2, a3⟩ := hear_o h (by omega) (LO_ok rpS 3 (g 0) (g 1) 10)
    exact ⟨relQ_mono a2 (by omega), a3⟩
  · have ek := tkN_1 (he2.symm.trans he) k1 c2
    rw [ptC_t (q := (g, f1, f2)) hx ek, ptR_t hx ek]
    dsimp only
    exact ⟨relQ_mono (rel_pass (tk := d1) h (by omega)).1 (by omega), fun q hq => paR_un (by omega) (by omega)⟩
  · have ek := tkN_2 (he3.symm.trans he) k1 c2 k2 c3
    rw [ptC_t (q := (g, f1, f2)) hx ek, ptR_t hx ek]
    dsimp only
    exact ⟨relQ_mono (rel_pass (tk := 10 * d1 + d2) h (by omega)).1 (by omega), fun q hq => paR_un (by omega) (by omega)⟩
  · rw [ptC_g (q := (g, f1, f2)) hx k1 c1, ptR_g hx k1 c1]
    dsimp only
    exact ⟨relQ_mono (rel_glare h c1) (by omega), fun q hq => pk_un (by omega)⟩
theorem pj_ge (t : zF) (n : Nat) : ∀ k, k ≤ pjT t n k := by
  intro k
  induction k with
  | zero => exact Nat.le_refl 0
  | succ k ih =>
    show k + 1 ≤ peT t n (pjT t n k) + 1
    have := peT_gt t n (pjT t n k)
    omega
theorem run_rel {B n : Nat} {t g f0 f1 f2 s : zF} (h : relQ B g f0 f1 f2 s) (hB : B + 99 * 70 < 100000000) (hc : cmT t n) (hn : n ≤ 60) : ∀ k, (∀ i, i < k → peT t n (pjT t n i) < n) →
    relQ (B + 99 * k) (stC t n f0 (g, f1, f2) k).1 f0 (stC t n f0 (g, f1, f2) k).2.1 (stC t n f0 (g, f1, f2) k).2.2 (stR t n s k) ∧ ∀ q, 48 ≤ q → stR t n s k q = s q := by
  intro k
  induction k with
  | zero => intro _; exact ⟨h, fun q _ => rfl⟩
  | succ k ih =>
    intro hall
    obtain ⟨a1, a2⟩ := ih (fun i hi => hall i (by omega))
    obtain ⟨p1, p2⟩ := pj_ok hc k (fun i hi => hall i (by omega))
    obtain ⟨e, x1, x2, x3, x4, x5, x6⟩ := cm_part hc p1 p2
    have hk := pj_ge t n k
    obtain ⟨c1, c2⟩ := part_rel a1 (by omega) x6 x1
    exact ⟨by rw [show B + 99 * (k + 1) = B + 99 * k + 99 by omega]; exact c1, fun q hq => (c2 q hq).trans (a2 q hq)⟩
theorem run_last {B n K : Nat} {t g f0 f1 f2 s : zF} (h : relQ B g f0 f1 f2 s) (hB : B + 99 * 70 < 100000000) (hc : cmT t n) (hn : n ≤ 60) (hK : lastP t n K) :
    relQ (B + 6100) (stC t n f0 (g, f1, f2) (K + 1)).1 f0 (stC t n f0 (g, f1, f2) (K + 1)).2.1 (stC t n f0 (g, f1, f2) (K + 1)).2.2 (stR t n s (K + 1)) ∧ ∀ q, 48 ≤ q → stR t n s (K + 1) q = s q := by
  obtain ⟨a1, a2⟩ := run_rel h hB hc hn K hK.2
  obtain ⟨p1, p2⟩ := pj_ok hc K hK.2
  obtain ⟨e, x1, x2, x3, x4, x5, x6⟩ := cm_part hc p1 p2
  have hk := pj_ge t n K
  obtain ⟨c1, c2⟩ := part_rel a1 (by omega) x6 x1
  exact ⟨relQ_mono c1 (by omega), fun q hq => (c2 q hq).trans (a2 q hq)⟩
theorem run_ok {B n : Nat} {t g f0 f1 f2 s : zF} (h : relQ B g f0 f1 f2 s) (hB : B + 99 * 70 < 100000000) (hc : cmT t n) (hn : n ≤ 60) : ∀ k, (∀ i, i < k → peT t n (pjT t n i) < n) → okR (stR t n s k) :=
  fun k hk => relQ_okR (run_rel h hB hc hn k hk).1
end REL2
