section ST
theorem T_low {B B' : Nat} {S : zSt} {s s' g' f0 f1 f2 : zF} (h : relT B S s) (hq : relQ B' g' f0 f1 f2 s') (hs : ∀ j, 48 ≤ j → s' j = s j) : relT B' (mkS g' f0 f1 f2 (S.2.1 3) S.2.2) s' :=
  ⟨hq, h.2.1, (hs 48 (by omega)).trans h.2.2.1, fun j hj => ⟨(hs _ (by omega)).trans (h.2.2.2 j hj).1, (h.2.2.2 j hj).2⟩⟩
set_option maxRecDepth 100000 in
theorem st_frame {l : Launch} (hl0 : l.stackTraces = false) {G : zG} {ad : zAd} {q : Nat} {d : Nat → Nat} {D : zDc} {M : zRd} {ov : Nat → Int64} {B : Nat} (hB : B < 90000000) (h : relA B D M) (p0 p1 p2 p3 : Int32) : crW l G ad q d D M ov B yL_frame wsL_frame yX6_frame wsX6_frame [.ref ad.2.2.1, .int p0, .int p1, .int p2, .int p3, .ref q] [.ref (d 0), .int p0, .int p1, .int p2, .int p3] := by
  obtain ⟨a, b, x, y1, y2, ya, tr, tv⟩ := ad
  obtain ⟨pp, ⟨sc, SS⟩, S9, E, tn, t9⟩ := D
  obtain ⟨⟨kn, sv⟩, ⟨s9, a9⟩, ⟨ln, tt⟩, ⟨tm, l9⟩, ⟨kp, f9⟩, ⟨pl, wr⟩, th⟩ := M
  obtain ⟨rfl, rfl, rfl⟩ := relA_split h
  obtain ⟨hk, hV, hT, hE, h60⟩ := relA_s h
  have hog := relQ_okg hT.1
  have hoR := relQ_okR hT.1
  obtain ⟨e0, e1, e2⟩ := relQ_01 hT.1
  by_cases hv : ((0 ≤ p0 ∧ p0 ≤ 7) ∧ (0 ≤ p1 ∧ p1 ≤ 15) ∧ (0 ≤ p2 ∧ p2 ≤ 1))
  · by_cases hs : 1 ≤ p3 ∧ p3 ≤ 10
    · obtain ⟨k0, q0, rfl⟩ := z_rng (n := 7) rfl (by omega) hv.1.1 hv.1.2
      obtain ⟨k1, q1, rfl⟩ := z_rng (n := 15) rfl (by omega) hv.2.1.1 hv.2.1.2
      obtain ⟨k2, q2, rfl⟩ := z_rng (n := 1) rfl (by omega) hv.2.2.1 hv.2.2.2
      have hC := fun z => kC_frame l G z a b x y1 y2 ya tr tv pp sc SS S9 E tn t9 hk (S9.1 3).toNatClampNeg hog.2 hog.1 hE k0 k1 k2 (by omega) (by omega) (by omega) p3 hs
      have hM := fun z => kM_frame l G z d sc tn tm kp pl th wr s9 a9 l9 f9 t9 sv hk k0 k1 k2 (by omega) (by omega) (by omega) p3 hs hoR.1 (s9 3).toNatClampNeg hoR.2.2 hoR.2.1
      refine ⟨_, _, _, fun z => wk_frame l G z x q _ ov (nI k0) (nI k1) (nI k2) p3 (wCl_0 G _ _) ⟨rfl, rfl, (Nat.le_of_ble_eq_true rfl), (Nat.le_of_ble_eq_true rfl)⟩ hC, ⟨rfl, rfl, (Nat.le_of_ble_eq_true rfl), (Nat.le_of_ble_eq_true rfl)⟩, hM, ?_⟩
      intro v u r M' ⟨hv, r', ⟨u1, h1, h2⟩, h3⟩ ⟨u2, h4, h5⟩
      obtain ⟨D', ow⟩ := u
      have h2 : D' = _ := h2
      subst h2
      subst h5
      have hlo : LO (frS (wd k0 k1 k2)) 21 (s9 0) (s9 1) p3 = LO (frS (wd k0 k1 k2)) 21 (S9.1 0) (S9.1 1) p3 := by rw [e0, e1]
      obtain ⟨t1, t2⟩ := T_hear hT (by omega) (LO_ok _ _ _ _ _) hlo (S9.1 3).toNatClampNeg (s9 3).toNatClampNeg rfl rfl r h4.1
      have e : r' = r := by rw [h1.1, h1.2.1]; exact t1
      have hA := relA_n (E' := u1.2.2) (pp' := u1.1.1) (a' := a9) (tm' := 21) (l' := u2.2.2) (kp' := u2.1.2.2.2.1) (f' := u2.1.2.2.2.2) (pl' := pl) (wr' := wr) (th' := 0) h h1.2.2.2 h4.2 (S' := mkS u1.2.1.2.1 (S9.2.1 0) u1.2.1.2.2.1 u1.2.1.2.2.2 (S9.2.1 3) S9.2.2) (by rw [h1.2.1]; exact t2) (Nat.le_add_right _ _) h1.2.2.1 h60
      exact ⟨hv.symm, fun _ => h3.trans (congrArg Int32.toInt64 e), hA⟩
    · have hX := fun z => kX_frame2 l hl0 G z a b x y1 y2 ya tr tv pp sc SS S9 E tn t9 p0 p1 p2 p3 hv hs
      have hM := fun z => kM_frame_bad l G z d sc tn tm kp pl th wr s9 a9 l9 f9 t9 sv p0 p1 p2 p3 (fun z => hs z.2)
      refine ⟨fun v u => v = 1 ∧ u = ((pp, (sc, SS), S9, E, (tn, t9)), ov), _, _, fun z => zMe_map (wx_frame_1 l G z x q _ ov p0 p1 p2 p3 (wCl_0 G _ _) ⟨rfl, rfl, (Nat.le_of_ble_eq_true rfl), (Nat.le_of_ble_eq_true rfl)⟩ hX) (fun _ => ((pp, (sc, SS), S9, E, (tn, t9)), ov)) (fun v u hv => ⟨hv, rfl⟩) (fun u => rfl), ⟨rfl, rfl, (Nat.le_of_ble_eq_true rfl), (Nat.le_of_ble_eq_true rfl)⟩, hM, ?_⟩
      intro v u r M' ⟨hv, hu⟩ ⟨u2, h4, h5⟩
      subst hu
      subst h5
      exact ⟨hv.symm, fun z => absurd (hv.symm.trans z) (by decide), relA_q h hE⟩
  · have hX := fun z => kX_frame l hl0 G z a b x y1 y2 ya tr tv pp sc SS S9 E tn t9 p0 p1 p2 p3 hv
    have hM := fun z => kM_frame_bad l G z d sc tn tm kp pl th wr s9 a9 l9 f9 t9 sv p0 p1 p2 p3 (fun z => hv z.1)
    refine ⟨fun v u => v = 1 ∧ u = ((pp, (sc, SS), S9, E, (tn, t9)), ov), _, _, fun z => zMe_map (wx_frame_1 l G z x q _ ov p0 p1 p2 p3 (wCl_0 G _ _) ⟨rfl, rfl, (Nat.le_of_ble_eq_true rfl), (Nat.le_of_ble_eq_true rfl)⟩ hX) (fun _ => ((pp, (sc, SS), S9, E, (tn, t9)), ov)) (fun v u hv => ⟨hv, rfl⟩) (fun u => rfl), ⟨rfl, rfl, (Nat.le_of_ble_eq_true rfl), (Nat.le_of_ble_eq_true rfl)⟩, hM, ?_⟩
    intro v u r M' ⟨hv, hu⟩ ⟨u2, h4, h5⟩
    subst hu
    subst h5
    exact ⟨hv.symm, fun z => absurd (hv.symm.trans z) (by decide), relA_q h hE⟩
set_option maxRecDepth 100000 in
theorem st_repeat {l : Launch} (hl0 : l.stackTraces = false) {G : zG} {ad : zAd} {q : Nat} {d : Nat → Nat} {D : zDc} {M : zRd} {ov : Nat → Int64} {B : Nat} (hB : B < 90000000) (h : relA B D M) (p0 : Int32) : crW l G ad q d D M ov B yL_repeat wsL_repeat yX6_repeat wsX6_repeat [.ref ad.2.2.1, .int p0, .ref q] [.ref (d 0), .int p0] := by
  obtain ⟨a, b, x, y1, y2, ya, tr, tv⟩ := ad
  obtain ⟨pp, ⟨sc, SS⟩, S9, E, tn, t9⟩ := D
  obtain ⟨⟨kn, sv⟩, ⟨s9, a9⟩, ⟨ln, tt⟩, ⟨tm, l9⟩, ⟨kp, f9⟩, ⟨pl, wr⟩, th⟩ := M
  obtain ⟨rfl, rfl, rfl⟩ := relA_split h
  obtain ⟨hk, hV, hT, hE, h60⟩ := relA_s h
  have hog := relQ_okg hT.1
  have hoR := relQ_okR hT.1
  obtain ⟨e0, e1, e2⟩ := relQ_01 hT.1
  by_cases hs : 1 ≤ p0 ∧ p0 ≤ 10
  · have hC := fun z => kC_repeat l G z a b x y1 y2 ya tr tv pp sc SS S9 E tn t9 hk (S9.1 3).toNatClampNeg hog.2 hog.1 hE p0 hs
    have hM := fun z => kM_repeat l G z d sc tn tm kp pl th wr s9 a9 l9 f9 t9 sv hk p0 hs hoR.1 (s9 3).toNatClampNeg hoR.2.2 hoR.2.1
    refine ⟨_, _, _, fun z => wk_repeat l G z x q _ ov p0 (wCl_0 G _ _) ⟨rfl, rfl, (Nat.le_of_ble_eq_true rfl), (Nat.le_of_ble_eq_true rfl)⟩ hC, ⟨rfl, rfl, (Nat.le_of_ble_eq_true rfl), (Nat.le_of_ble_eq_true rfl)⟩, hM, ?_⟩
    intro v u r M' ⟨hv, r', ⟨u1, h1, h2⟩, h3⟩ ⟨u2, h4, h5⟩
    obtain ⟨D', ow⟩ := u
    have h2 : D' = _ := h2
    subst h2
    subst h5
    have hlo : LO rpS 3 (s9 0) (s9 1) p0 = LO rpS 3 (S9.1 0) (S9.1 1) p0 := by rw [e0, e1]
    obtain ⟨t1, t2⟩ := T_hear hT (by omega) (LO_ok _ _ _ _ _) hlo (S9.1 3).toNatClampNeg (s9 3).toNatClampNeg rfl rfl r h4.1
    have e : r' = r := by rw [h1.1, h1.2.1]; exact t1
    have hA := relA_n (E' := u1.2.2) (pp' := u1.1.1) (a' := a9) (tm' := 3) (l' := u2.2.2) (kp' := u2.1.2.2.2.1) (f' := u2.1.2.2.2.2) (pl' := pl) (wr' := wr) (th' := 0) h h1.2.2.2 h4.2 (S' := mkS u1.2.1.2.1 (S9.2.1 0) u1.2.1.2.2.1 u1.2.1.2.2.2 (S9.2.1 3) S9.2.2) (by rw [h1.2.1]; exact t2) (Nat.le_add_right _ _) h1.2.2.1 h60
    exact ⟨hv.symm, fun _ => h3.trans (congrArg Int32.toInt64 e), hA⟩
  · have hX := fun z => kX_repeat l hl0 G z a b x y1 y2 ya tr tv pp sc SS S9 E tn t9 p0 hs
    have hM := fun z => kM_repeat_bad l G z d sc tn tm kp pl th wr s9 a9 l9 f9 t9 sv p0 hs
    refine ⟨fun v u => v = 1 ∧ u = ((pp, (sc, SS), S9, E, (tn, t9)), ov), _, _, fun z => zMe_map (wx_repeat_1 l G z x q _ ov p0 (wCl_0 G _ _) ⟨rfl, rfl, (Nat.le_of_ble_eq_true rfl), (Nat.le_of_ble_eq_true rfl)⟩ hX) (fun _ => ((pp, (sc, SS), S9, E, (tn, t9)), ov)) (fun v u hv => ⟨hv, rfl⟩) (fun u => rfl), ⟨rfl, rfl, (Nat.le_of_ble_eq_true rfl), (Nat.le_of_ble_eq_true rfl)⟩, hM, ?_⟩
    intro v u r M' ⟨hv, hu⟩ ⟨u2, h4, h5⟩
    subst hu
    subst h5
    exact ⟨hv.symm, fun z => absurd (hv.symm.trans z) (by decide), relA_q h hE⟩
set_option maxRecDepth 100000 in
theorem st_receive {l : Launch} (hl0 : l.stackTraces = false) {G : zG} {ad : zAd} {q : Nat} {d : Nat → Nat} {D : zDc} {M : zRd} {ov : Nat → Int64} {B : Nat} (hB : B < 90000000) (h : relA B D M) (p0 : Int32) : crW l G ad q d D M ov B yL_receive wsL_receive yX6_receive wsX6_receive [.ref ad.2.2.1, .int p0, .ref q] [.ref (d 0), .int p0] := by
  obtain ⟨a, b, x, y1, y2, ya, tr, tv⟩ := ad
  obtain ⟨pp, ⟨sc, SS⟩, S9, E, tn, t9⟩ := D
  obtain ⟨⟨kn, sv⟩, ⟨s9, a9⟩, ⟨ln, tt⟩, ⟨tm, l9⟩, ⟨kp, f9⟩, ⟨pl, wr⟩, th⟩ := M
  obtain ⟨rfl, rfl, rfl⟩ := relA_split h
  obtain ⟨hk, hV, hT, hE, h60⟩ := relA_s h
  have hog := relQ_okg hT.1
  have hoR := relQ_okR hT.1
  obtain ⟨e0, e1, e2⟩ := relQ_01 hT.1
  by_cases hs : 1 ≤ p0 ∧ p0 ≤ 10
  · by_cases ho : S9.2.2 % 2 = 1
    · have hli : ∀ j, j < S9.2.2 → 0 ≤ (s9 (49 + j)).toInt ∧ (s9 (49 + j)).toInt ≤ 1000 := fun j hj => by
        obtain ⟨z1, k, z2, z3⟩ := hT.2.2.2 j hj
        rw [z1, z3, nI_toInt (by omega)]
        omega
      have hC := fun z => kC_receive l G z a b x y1 y2 ya tr tv pp sc SS S9 E tn t9 hk (S9.1 3).toNatClampNeg hog.2 hog.1 hE hT.2.1 ho p0 hs
      have hM := fun z => kM_receive l G z d sc tn tm kp pl th wr s9 a9 l9 f9 t9 sv hk S9.2.2 hT.2.2.1 hT.2.1 ho hli p0 hs hoR.1 (s9 3).toNatClampNeg hoR.2.2 hoR.2.1
      refine ⟨_, _, _, fun z => wk_receive l G z x q _ ov p0 (wCl_0 G _ _) ⟨rfl, rfl, (Nat.le_of_ble_eq_true rfl), (Nat.le_of_ble_eq_true rfl)⟩ hC, ⟨rfl, rfl, (Nat.le_of_ble_eq_true rfl), (Nat.le_of_ble_eq_true rfl)⟩, hM, ?_⟩
      intro v u r M' ⟨hv, r', ⟨u1, h1, h2⟩, h3⟩ ⟨u2, h4, h5⟩
      obtain ⟨D', ow⟩ := u
      have h2 : D' = _ := h2
      subst h2
      subst h5
      have hlo : LO (fun j => s9 (49 + j)) S9.2.2 (s9 0) (s9 1) p0 = LO (S9.2.1 3) S9.2.2 (S9.1 0) (S9.1 1) p0 := (LO_same (fun j hj => (hT.2.2.2 j hj).1)).trans (by rw [e0, e1])
      obtain ⟨t1, t2⟩ := T_receive hT (by omega) (LO_ok _ _ _ _ _) hlo (S9.1 3).toNatClampNeg (s9 3).toNatClampNeg rfl rfl r h4.1
      have e : r' = r := by rw [h1.1, h1.2.1]; exact t1
      have hA := relA_n (E' := u1.2.2) (pp' := u1.1.1) (a' := a9) (tm' := S9.2.2) (l' := u2.2.2) (kp' := u2.1.2.2.2.1) (f' := u2.1.2.2.2.2) (pl' := pl) (wr' := wr) (th' := 0) h h1.2.2.2 h4.2 (S' := mkS u1.2.1.2.1 (S9.2.1 0) u1.2.1.2.2.1 u1.2.1.2.2.2 (S9.2.1 3) 0) (by rw [h1.2.1]; exact t2) (Nat.le_add_right _ _) h1.2.2.1 h60
      exact ⟨hv.symm, fun _ => h3.trans (congrArg Int32.toInt64 e), hA⟩
    · have hX := fun z => kX_receive2 l hl0 G z a b x y1 y2 ya tr tv pp sc SS S9 E tn t9 hT.2.1 (by omega) p0 hs
      have hM := fun z => kM_receive_bad2 l G z d sc tn tm kp pl th wr s9 a9 l9 f9 t9 sv p0 hs S9.2.2 hT.2.2.1 hT.2.1 (by omega)
      refine ⟨fun v u => v = 2 ∧ u = ((pp, (sc, SS), S9, E, (tn, t9)), ov), _, _, fun z => zMe_map (wx_receive_2 l G z x q _ ov p0 (wCl_0 G _ _) ⟨rfl, rfl, (Nat.le_of_ble_eq_true rfl), (Nat.le_of_ble_eq_true rfl)⟩ hX) (fun _ => ((pp, (sc, SS), S9, E, (tn, t9)), ov)) (fun v u hv => ⟨hv, rfl⟩) (fun u => rfl), ⟨rfl, rfl, (Nat.le_of_ble_eq_true rfl), (Nat.le_of_ble_eq_true rfl)⟩, hM, ?_⟩
      intro v u r M' ⟨hv, hu⟩ ⟨u2, h4, h5⟩
      subst hu
      subst h5
      exact ⟨hv.symm, fun z => absurd (hv.symm.trans z) (by decide), relA_q h hE⟩
  · have hX := fun z => kX_receive l hl0 G z a b x y1 y2 ya tr tv pp sc SS S9 E tn t9 p0 hs
    have hM := fun z => kM_receive_bad l G z d sc tn tm kp pl th wr s9 a9 l9 f9 t9 sv p0 hs
    refine ⟨fun v u => v = 1 ∧ u = ((pp, (sc, SS), S9, E, (tn, t9)), ov), _, _, fun z => zMe_map (wx_receive_1 l G z x q _ ov p0 (wCl_0 G _ _) ⟨rfl, rfl, (Nat.le_of_ble_eq_true rfl), (Nat.le_of_ble_eq_true rfl)⟩ hX) (fun _ => ((pp, (sc, SS), S9, E, (tn, t9)), ov)) (fun v u hv => ⟨hv, rfl⟩) (fun u => rfl), ⟨rfl, rfl, (Nat.le_of_ble_eq_true rfl), (Nat.le_of_ble_eq_true rfl)⟩, hM, ?_⟩
    intro v u r M' ⟨hv, hu⟩ ⟨u2, h4, h5⟩
    subst hu
    subst h5
    exact ⟨hv.symm, fun z => absurd (hv.symm.trans z) (by decide), relA_q h hE⟩
set_option maxRecDepth 100000 in
theorem st_shine {l : Launch} (hl0 : l.stackTraces = false) {G : zG} {ad : zAd} {q : Nat} {d : Nat → Nat} {D : zDc} {M : zRd} {ov : Nat → Int64} {B : Nat} (hB : B < 90000000) (h : relA B D M) (p0 : Int32) : crW l G ad q d D M ov B yL_shine wsL_shine yX6_shine wsX6_shine [.ref ad.2.2.1, .int p0, .ref q] [.ref (d 0), .int p0] := by
  obtain ⟨a, b, x, y1, y2, ya, tr, tv⟩ := ad
  obtain ⟨pp, ⟨sc, SS⟩, S9, E, tn, t9⟩ := D
  obtain ⟨⟨kn, sv⟩, ⟨s9, a9⟩, ⟨ln, tt⟩, ⟨tm, l9⟩, ⟨kp, f9⟩, ⟨pl, wr⟩, th⟩ := M
  obtain ⟨rfl, rfl, rfl⟩ := relA_split h
  obtain ⟨hk, hV, hT, hE, h60⟩ := relA_s h
  by_cases hs : 1 ≤ p0 ∧ p0 ≤ 40
  · by_cases ho : S9.2.2 < 30
    · obtain ⟨k0, q1, rfl⟩ := z_rng (n := 40) rfl (by omega) (Int32.le_trans (by decide) hs.1) hs.2
      have hC := fun z => kC_shine l G z a b x y1 y2 ya tr tv pp sc SS S9 E tn t9 hk ho (nI k0) hs
      have hM := fun z => kM_shine l G z d sc tn tm kp pl th wr s9 a9 l9 f9 t9 sv hk (nI k0) hs S9.2.2 hT.2.2.1 ho
      refine ⟨_, _, _, fun z => wk_shine l G z x q _ ov (nI k0) (wCl_0 G _ _) ⟨rfl, rfl, (Nat.le_of_ble_eq_true rfl), (Nat.le_of_ble_eq_true rfl)⟩ hC, ⟨rfl, rfl, (Nat.le_of_ble_eq_true rfl), (Nat.le_of_ble_eq_true rfl)⟩, hM, ?_⟩
      intro v u r M' ⟨hv, r', ⟨u1, h1, h2⟩, h3⟩ ⟨u2, h4, h5⟩
      obtain ⟨D', ow⟩ := u
      have h2 : D' = _ := h2
      subst h2
      subst h5
      have e : r' = r := h1.1.trans h4.1.symm
      have hA := relA_n (E' := E) (pp' := u1.1) (a' := a9) (tm' := tm) (l' := l9) (kp' := kp) (f' := f9) (pl' := pl) (wr' := wr) (th' := 0) h h1.2 h4.2 (T_shine hT ho q1) (Nat.le_add_right _ _) hE h60
      exact ⟨hv.symm, fun _ => h3.trans (congrArg Int32.toInt64 e), hA⟩
    · have h30 : S9.2.2 = 30 := by have := hT.2.1; omega
      have hX := fun z => kX_shine2 l hl0 G z a b x y1 y2 ya tr tv pp sc SS S9 E tn t9 h30 p0 hs
      have hM := fun z => kM_shine_bad2 l G z d sc tn tm kp pl th wr s9 a9 l9 f9 t9 sv p0 hs (hT.2.2.1.trans (by rw [h30]; rfl))
      refine ⟨fun v u => v = 2 ∧ u = ((pp, (sc, SS), S9, E, (tn, t9)), ov), _, _, fun z => zMe_map (wx_shine_2 l G z x q _ ov p0 (wCl_0 G _ _) ⟨rfl, rfl, (Nat.le_of_ble_eq_true rfl), (Nat.le_of_ble_eq_true rfl)⟩ hX) (fun _ => ((pp, (sc, SS), S9, E, (tn, t9)), ov)) (fun v u hv => ⟨hv, rfl⟩) (fun u => rfl), ⟨rfl, rfl, (Nat.le_of_ble_eq_true rfl), (Nat.le_of_ble_eq_true rfl)⟩, hM, ?_⟩
      intro v u r M' ⟨hv, hu⟩ ⟨u2, h4, h5⟩
      subst hu
      subst h5
      exact ⟨hv.symm, fun z => absurd (hv.symm.trans z) (by decide), relA_q h hE⟩
  · have hX := fun z => kX_shine l hl0 G z a b x y1 y2 ya tr tv pp sc SS S9 E tn t9 p0 hs
    have hM := fun z => kM_shine_bad l G z d sc tn tm kp pl th wr s9 a9 l9 f9 t9 sv p0 hs
    refine ⟨fun v u => v = 1 ∧ u = ((pp, (sc, SS), S9, E, (tn, t9)), ov), _, _, fun z => zMe_map (wx_shine_1 l G z x q _ ov p0 (wCl_0 G _ _) ⟨rfl, rfl, (Nat.le_of_ble_eq_true rfl), (Nat.le_of_ble_eq_true rfl)⟩ hX) (fun _ => ((pp, (sc, SS), S9, E, (tn, t9)), ov)) (fun v u hv => ⟨hv, rfl⟩) (fun u => rfl), ⟨rfl, rfl, (Nat.le_of_ble_eq_true rfl), (Nat.le_of_ble_eq_true rfl)⟩, hM, ?_⟩
    intro v u r M' ⟨hv, hu⟩ ⟨u2, h4, h5⟩
    subst hu
    subst h5
    exact ⟨hv.symm, fun z => absurd (hv.symm.trans z) (by decide), relA_q h hE⟩
set_option maxRecDepth 100000 in
theorem st_pass {l : Launch} (hl0 : l.stackTraces = false) {G : zG} {ad : zAd} {q : Nat} {d : Nat → Nat} {D : zDc} {M : zRd} {ov : Nat → Int64} {B : Nat} (hB : B < 90000000) (h : relA B D M) (p0 : Int32) : crW l G ad q d D M ov B yL_pass wsL_pass yX6_pass wsX6_pass [.ref ad.2.2.1, .int p0, .ref q] [.ref (d 0), .int p0] := by
  obtain ⟨a, b, x, y1, y2, ya, tr, tv⟩ := ad
  obtain ⟨pp, ⟨sc, SS⟩, S9, E, tn, t9⟩ := D
  obtain ⟨⟨kn, sv⟩, ⟨s9, a9⟩, ⟨ln, tt⟩, ⟨tm, l9⟩, ⟨kp, f9⟩, ⟨pl, wr⟩, th⟩ := M
  obtain ⟨rfl, rfl, rfl⟩ := relA_split h
  obtain ⟨hk, hV, hT, hE, h60⟩ := relA_s h
  by_cases hs : 1 ≤ p0 ∧ p0 ≤ 99
  · obtain ⟨k0, q1, rfl⟩ := z_rng (n := 99) rfl (by omega) (Int32.le_trans (by decide) hs.1) hs.2
    have hC := fun z => kC_pass l G z a b x y1 y2 ya tr tv pp sc SS S9 E tn t9 hk (nI k0) hs
    have hM := fun z => kM_pass l G z d sc tn tm kp pl th wr s9 a9 l9 f9 t9 sv hk (nI k0) hs
    refine ⟨_, _, _, fun z => wk_pass l G z x q _ ov (nI k0) (wCl_0 G _ _) ⟨rfl, rfl, (Nat.le_of_ble_eq_true rfl), (Nat.le_of_ble_eq_true rfl)⟩ hC, ⟨rfl, rfl, (Nat.le_of_ble_eq_true rfl), (Nat.le_of_ble_eq_true rfl)⟩, hM, ?_⟩
    intro v u r M' ⟨hv, r', ⟨u1, h1, h2⟩, h3⟩ ⟨u2, h4, h5⟩
    obtain ⟨D', ow⟩ := u
    have h2 : D' = _ := h2
    subst h2
    subst h5
    obtain ⟨t1, t2⟩ := rel_pass (tk := k0) hT.1 (by omega)
    have e : r' = r := by rw [h1.1, h1.2.1, h4.1]; exact t2
    have hA := relA_n (E' := E) (pp' := u1.1.1) (a' := a9) (tm' := tm) (l' := l9) (kp' := kp) (f' := f9) (pl' := pl) (wr' := wr) (th' := 0) h h1.2.2 h4.2 (S' := mkS u1.2 (S9.2.1 0) (S9.2.1 1) (S9.2.1 2) (S9.2.1 3) S9.2.2) (by rw [h1.2.1]; exact T_low hT t1 (fun j hj => paR_un (by omega) (by omega))) (by omega) hE h60
    exact ⟨hv.symm, fun _ => h3.trans (congrArg Int32.toInt64 e), hA⟩
  · have hX := fun z => kX_pass l hl0 G z a b x y1 y2 ya tr tv pp sc SS S9 E tn t9 p0 hs
    have hM := fun z => kM_pass_bad l G z d sc tn tm kp pl th wr s9 a9 l9 f9 t9 sv p0 hs
    refine ⟨fun v u => v = 1 ∧ u = ((pp, (sc, SS), S9, E, (tn, t9)), ov), _, _, fun z => zMe_map (wx_pass_1 l G z x q _ ov p0 (wCl_0 G _ _) ⟨rfl, rfl, (Nat.le_of_ble_eq_true rfl), (Nat.le_of_ble_eq_true rfl)⟩ hX) (fun _ => ((pp, (sc, SS), S9, E, (tn, t9)), ov)) (fun v u hv => ⟨hv, rfl⟩) (fun u => rfl), ⟨rfl, rfl, (Nat.le_of_ble_eq_true rfl), (Nat.le_of_ble_eq_true rfl)⟩, hM, ?_⟩
    intro v u r M' ⟨hv, hu⟩ ⟨u2, h4, h5⟩
    subst hu
    subst h5
    exact ⟨hv.symm, fun z => absurd (hv.symm.trans z) (by decide), relA_q h hE⟩
set_option maxRecDepth 100000 in
theorem st_setGlare {l : Launch} (hl0 : l.stackTraces = false) {G : zG} {ad : zAd} {q : Nat} {d : Nat → Nat} {D : zDc} {M : zRd} {ov : Nat → Int64} {B : Nat} (hB : B < 90000000) (h : relA B D M) (p0 : Int32) : crW l G ad q d D M ov B yL_setGlare wsL_setGlare yX6_setGlare wsX6_setGlare [.ref ad.2.2.1, .int p0, .ref q] [.ref (d 0), .int p0] := by
  obtain ⟨a, b, x, y1, y2, ya, tr, tv⟩ := ad
  obtain ⟨pp, ⟨sc, SS⟩, S9, E, tn, t9⟩ := D
  obtain ⟨⟨kn, sv⟩, ⟨s9, a9⟩, ⟨ln, tt⟩, ⟨tm, l9⟩, ⟨kp, f9⟩, ⟨pl, wr⟩, th⟩ := M
  obtain ⟨rfl, rfl, rfl⟩ := relA_split h
  obtain ⟨hk, hV, hT, hE, h60⟩ := relA_s h
  obtain ⟨e0, e1, e2⟩ := relQ_01 hT.1
  by_cases hs : 0 ≤ p0 ∧ p0 ≤ 9
  · obtain ⟨k0, q1, rfl⟩ := z_rng (n := 9) rfl (by omega) hs.1 hs.2
    have hC := fun z => kC_setGlare l G z a b x y1 y2 ya tr tv pp sc SS S9 E tn t9 hk (nI k0) hs
    have hM := fun z => kM_setGlare l G z d sc tn tm kp pl th wr s9 a9 l9 f9 t9 sv hk (nI k0) hs
    refine ⟨_, _, _, fun z => wk_setGlare l G z x q _ ov (nI k0) (wCl_0 G _ _) ⟨rfl, rfl, (Nat.le_of_ble_eq_true rfl), (Nat.le_of_ble_eq_true rfl)⟩ hC, ⟨rfl, rfl, (Nat.le_of_ble_eq_true rfl), (Nat.le_of_ble_eq_true rfl)⟩, hM, ?_⟩
    intro v u r M' ⟨hv, r', ⟨u1, h1, h2⟩, h3⟩ ⟨u2, h4, h5⟩
    obtain ⟨D', ow⟩ := u
    have h2 : D' = _ := h2
    subst h2
    subst h5
    have e : r' = r := by rw [h1.1, h4.1, e0]
    have hA := relA_n (E' := E) (pp' := u1.1) (a' := a9) (tm' := tm) (l' := l9) (kp' := kp) (f' := f9) (pl' := pl) (wr' := wr) (th' := 0) h h1.2 h4.2 (T_low hT (rel_glare (x := k0) hT.1 q1) (fun j hj => pk_un (by omega))) (Nat.le_add_right _ _) hE h60
    exact ⟨hv.symm, fun _ => h3.trans (congrArg Int32.toInt64 e), hA⟩
  · have hX := fun z => kX_setGlare l hl0 G z a b x y1 y2 ya tr tv pp sc SS S9 E tn t9 p0 hs
    have hM := fun z => kM_setGlare_bad l G z d sc tn tm kp pl th wr s9 a9 l9 f9 t9 sv p0 hs
    refine ⟨fun v u => v = 1 ∧ u = ((pp, (sc, SS), S9, E, (tn, t9)), ov), _, _, fun z => zMe_map (wx_setGlare_1 l G z x q _ ov p0 (wCl_0 G _ _) ⟨rfl, rfl, (Nat.le_of_ble_eq_true rfl), (Nat.le_of_ble_eq_true rfl)⟩ hX) (fun _ => ((pp, (sc, SS), S9, E, (tn, t9)), ov)) (fun v u hv => ⟨hv, rfl⟩) (fun u => rfl), ⟨rfl, rfl, (Nat.le_of_ble_eq_true rfl), (Nat.le_of_ble_eq_true rfl)⟩, hM, ?_⟩
    intro v u r M' ⟨hv, hu⟩ ⟨u2, h4, h5⟩
    subst hu
    subst h5
    exact ⟨hv.symm, fun z => absurd (hv.symm.trans z) (by decide), relA_q h hE⟩
set_option maxRecDepth 100000 in
theorem st_setAddress {l : Launch} (hl0 : l.stackTraces = false) {G : zG} {ad : zAd} {q : Nat} {d : Nat → Nat} {D : zDc} {M : zRd} {ov : Nat → Int64} {B : Nat} (hB : B < 90000000) (h : relA B D M) (p0 : Int32) : crW l G ad q d D M ov B yL_setAddress wsL_setAddress yX6_setAddress wsX6_setAddress [.ref ad.2.2.1, .int p0, .ref q] [.ref (d 0), .int p0] := by
  obtain ⟨a, b, x, y1, y2, ya, tr, tv⟩ := ad
  obtain ⟨pp, ⟨sc, SS⟩, S9, E, tn, t9⟩ := D
  obtain ⟨⟨kn, sv⟩, ⟨s9, a9⟩, ⟨ln, tt⟩, ⟨tm, l9⟩, ⟨kp, f9⟩, ⟨pl, wr⟩, th⟩ := M
  obtain ⟨rfl, rfl, rfl⟩ := relA_split h
  obtain ⟨hk, hV, hT, hE, h60⟩ := relA_s h
  obtain ⟨e0, e1, e2⟩ := relQ_01 hT.1
  by_cases hs : 0 ≤ p0 ∧ p0 ≤ 7
  · obtain ⟨k0, q1, rfl⟩ := z_rng (n := 7) rfl (by omega) hs.1 hs.2
    have hC := fun z => kC_setAddress l G z a b x y1 y2 ya tr tv pp sc SS S9 E tn t9 hk (nI k0) hs
    have hM := fun z => kM_setAddress l G z d sc tn tm kp pl th wr s9 a9 l9 f9 t9 sv hk (nI k0) hs
    refine ⟨_, _, _, fun z => wk_setAddress l G z x q _ ov (nI k0) (wCl_0 G _ _) ⟨rfl, rfl, (Nat.le_of_ble_eq_true rfl), (Nat.le_of_ble_eq_true rfl)⟩ hC, ⟨rfl, rfl, (Nat.le_of_ble_eq_true rfl), (Nat.le_of_ble_eq_true rfl)⟩, hM, ?_⟩
    intro v u r M' ⟨hv, r', ⟨u1, h1, h2⟩, h3⟩ ⟨u2, h4, h5⟩
    obtain ⟨D', ow⟩ := u
    have h2 : D' = _ := h2
    subst h2
    subst h5
    have e : r' = r := by rw [h1.1, h4.1, e2]
    have hA := relA_n (E' := E) (pp' := u1.1) (a' := a9) (tm' := tm) (l' := l9) (kp' := kp) (f' := f9) (pl' := pl) (wr' := wr) (th' := 0) h h1.2 h4.2 (T_low hT (rel_addr (x := k0) hT.1 (by omega)) (fun j hj => pk_un (by omega))) (Nat.le_add_right _ _) hE h60
    exact ⟨hv.symm, fun _ => h3.trans (congrArg Int32.toInt64 e), hA⟩
  · have hX := fun z => kX_setAddress l hl0 G z a b x y1 y2 ya tr tv pp sc SS S9 E tn t9 p0 hs
    have hM := fun z => kM_setAddress_bad l G z d sc tn tm kp pl th wr s9 a9 l9 f9 t9 sv p0 hs
    refine ⟨fun v u => v = 1 ∧ u = ((pp, (sc, SS), S9, E, (tn, t9)), ov), _, _, fun z => zMe_map (wx_setAddress_1 l G z x q _ ov p0 (wCl_0 G _ _) ⟨rfl, rfl, (Nat.le_of_ble_eq_true rfl), (Nat.le_of_ble_eq_true rfl)⟩ hX) (fun _ => ((pp, (sc, SS), S9, E, (tn, t9)), ov)) (fun v u hv => ⟨hv, rfl⟩) (fun u => rfl), ⟨rfl, rfl, (Nat.le_of_ble_eq_true rfl), (Nat.le_of_ble_eq_true rfl)⟩, hM, ?_⟩
    intro v u r M' ⟨hv, hu⟩ ⟨u2, h4, h5⟩
    subst hu
    subst h5
    exact ⟨hv.symm, fun z => absurd (hv.symm.trans z) (by decide), relA_q h hE⟩
set_option maxRecDepth 100000 in
theorem st_learn {l : Launch} (hl0 : l.stackTraces = false) {G : zG} {ad : zAd} {q : Nat} {d : Nat → Nat} {D : zDc} {M : zRd} {ov : Nat → Int64} {B : Nat} (hB : B < 90000000) (h : relA B D M) (p0 p1 : Int32) : crW l G ad q d D M ov B yL_learn wsL_learn yX6_learn wsX6_learn [.ref ad.2.2.1, .int p0, .int p1, .ref q] [.ref (d 0), .int p0, .int p1] := by
  obtain ⟨a, b, x, y1, y2, ya, tr, tv⟩ := ad
  obtain ⟨pp, ⟨sc, SS⟩, S9, E, tn, t9⟩ := D
  obtain ⟨⟨kn, sv⟩, ⟨s9, a9⟩, ⟨ln, tt⟩, ⟨tm, l9⟩, ⟨kp, f9⟩, ⟨pl, wr⟩, th⟩ := M
  obtain ⟨rfl, rfl, rfl⟩ := relA_split h
  obtain ⟨hk, hV, hT, hE, h60⟩ := relA_s h
  by_cases hv : 0 ≤ p0 ∧ p0 ≤ 15
  · by_cases hs : 0 ≤ p1 ∧ p1 ≤ 2
    · obtain ⟨k0, q1, rfl⟩ := z_rng (n := 15) rfl (by omega) hv.1 hv.2
      obtain ⟨k1, q2, rfl⟩ := z_rng (n := 2) rfl (by omega) hs.1 hs.2
      have hC := fun z => kC_learn l G z a b x y1 y2 ya tr tv pp sc SS S9 E tn t9 hk k0 (by omega) (nI k1) hs
      have hM := fun z => kM_learn l G z d sc tn tm kp pl th wr s9 a9 l9 f9 t9 sv hk k0 (by omega) (nI k1) hs
      refine ⟨_, _, _, fun z => wk_learn l G z x q _ ov (nI k0) (nI k1) (wCl_0 G _ _) ⟨rfl, rfl, (Nat.le_of_ble_eq_true rfl), (Nat.le_of_ble_eq_true rfl)⟩ hC, ⟨rfl, rfl, (Nat.le_of_ble_eq_true rfl), (Nat.le_of_ble_eq_true rfl)⟩, hM, ?_⟩
      intro v u r M' ⟨hv, r', ⟨u1, h1, h2⟩, h3⟩ ⟨u2, h4, h5⟩
      obtain ⟨D', ow⟩ := u
      have h2 : D' = _ := h2
      subst h2
      subst h5
      have e : r' = r := by rw [h1.1, h4.1]; exact (hT.1.2.1 k0 (by omega)).1.symm
      have hA := relA_n (E' := E) (pp' := u1.1) (a' := a9) (tm' := tm) (l' := l9) (kp' := kp) (f' := f9) (pl' := pl) (wr' := wr) (th' := 0) h h1.2 h4.2 (T_low hT (rel_learn (x := k1) (k := k0) hT.1 q2 (by omega)) (fun j hj => pk_un (by omega))) (Nat.le_add_right _ _) hE h60
      exact ⟨hv.symm, fun _ => h3.trans (congrArg Int32.toInt64 e), hA⟩
    · have hX := fun z => kX_learn2 l hl0 G z a b x y1 y2 ya tr tv pp sc SS S9 E tn t9 p0 p1 hv hs
      have hM := fun z => kM_learn_bad2 l G z d sc tn tm kp pl th wr s9 a9 l9 f9 t9 sv p0 p1 hv hs
      refine ⟨fun v u => v = 2 ∧ u = ((pp, (sc, SS), S9, E, (tn, t9)), ov), _, _, fun z => zMe_map (wx_learn_2 l G z x q _ ov p0 p1 (wCl_0 G _ _) ⟨rfl, rfl, (Nat.le_of_ble_eq_true rfl), (Nat.le_of_ble_eq_true rfl)⟩ hX) (fun _ => ((pp, (sc, SS), S9, E, (tn, t9)), ov)) (fun v u hv => ⟨hv, rfl⟩) (fun u => rfl), ⟨rfl, rfl, (Nat.le_of_ble_eq_true rfl), (Nat.le_of_ble_eq_true rfl)⟩, hM, ?_⟩
      intro v u r M' ⟨hv, hu⟩ ⟨u2, h4, h5⟩
      subst hu
      subst h5
      exact ⟨hv.symm, fun z => absurd (hv.symm.trans z) (by decide), relA_q h hE⟩
  · have hX := fun z => kX_learn l hl0 G z a b x y1 y2 ya tr tv pp sc SS S9 E tn t9 p0 p1 hv
    have hM := fun z => kM_learn_bad l G z d sc tn tm kp pl th wr s9 a9 l9 f9 t9 sv p0 p1 hv
    refine ⟨fun v u => v = 1 ∧ u = ((pp, (sc, SS), S9, E, (tn, t9)), ov), _, _, fun z => zMe_map (wx_learn_1 l G z x q _ ov p0 p1 (wCl_0 G _ _) ⟨rfl, rfl, (Nat.le_of_ble_eq_true rfl), (Nat.le_of_ble_eq_true rfl)⟩ hX) (fun _ => ((pp, (sc, SS), S9, E, (tn, t9)), ov)) (fun v u hv => ⟨hv, rfl⟩) (fun u => rfl), ⟨rfl, rfl, (Nat.le_of_ble_eq_true rfl), (Nat.le_of_ble_eq_true rfl)⟩, hM, ?_⟩
    intro v u r M' ⟨hv, hu⟩ ⟨u2, h4, h5⟩
    subst hu
    subst h5
    exact ⟨hv.symm, fun z => absurd (hv.symm.trans z) (by decide), relA_q h hE⟩
set_option maxRecDepth 100000 in
theorem st_action {l : Launch} (hl0 : l.stackTraces = false) {G : zG} {ad : zAd} {q : Nat} {d : Nat → Nat} {D : zDc} {M : zRd} {ov : Nat → Int64} {B : Nat} (hB : B < 90000000) (h : relA B D M) (p0 : Int32) : crW l G ad q d D M ov B yL_action wsL_action yX6_action wsX6_action [.ref ad.2.2.1, .int p0, .ref q] [.ref (d 0), .int p0] := by
  obtain ⟨a, b, x, y1, y2, ya, tr, tv⟩ := ad
  obtain ⟨pp, ⟨sc, SS⟩, S9, E, tn, t9⟩ := D
  obtain ⟨⟨kn, sv⟩, ⟨s9, a9⟩, ⟨ln, tt⟩, ⟨tm, l9⟩, ⟨kp, f9⟩, ⟨pl, wr⟩, th⟩ := M
  obtain ⟨rfl, rfl, rfl⟩ := relA_split h
  obtain ⟨hk, hV, hT, hE, h60⟩ := relA_s h
  by_cases hs : 0 ≤ p0 ∧ p0 ≤ 15
  · obtain ⟨k0, q0, q1, rfl⟩ := z_rng1 (a := 0) (n := 15) rfl rfl (by omega) (by omega) hs.1 hs.2
    have hC := fun z => kC_action l G z a b x y1 y2 ya tr tv pp sc SS S9 E tn t9 k0 (by omega)
    have hM := fun z => kM_action l G z d sc tn tm kp pl th wr s9 a9 l9 f9 t9 sv k0 q0 q1
    refine ⟨_, _, _, fun z => wk_action l G z x q _ ov (nI k0) (wCl_0 G _ _) ⟨rfl, rfl, (Nat.le_of_ble_eq_true rfl), (Nat.le_of_ble_eq_true rfl)⟩ hC, ⟨rfl, rfl, (Nat.le_of_ble_eq_true rfl), (Nat.le_of_ble_eq_true rfl)⟩, hM, ?_⟩
    intro v u r M' ⟨hv, r', ⟨u1, h1, h2⟩, h3⟩ ⟨u2, h4, h5⟩
    obtain ⟨D', ow⟩ := u
    have h2 : D' = _ := h2
    subst h2
    subst h5
    have e : r' = r := by rw [h1, h4]; exact (hT.1.2.1 k0 (by omega)).1.symm
    have hA := relA_q (pp' := pp) (E' := E) (a' := a9) (tm' := tm) (l' := l9) (kp' := kp) (f' := f9) (pl' := pl) (wr' := wr) (th' := 0) h hE
    exact ⟨hv.symm, fun _ => h3.trans (congrArg Int32.toInt64 e), hA⟩
  · have hX := fun z => kX_action l hl0 G z a b x y1 y2 ya tr tv pp sc SS S9 E tn t9 p0 hs
    have hM := fun z => kM_action_bad l G z d sc tn tm kp pl th wr s9 a9 l9 f9 t9 sv p0 hs
    refine ⟨fun v u => v = 1 ∧ u = ((pp, (sc, SS), S9, E, (tn, t9)), ov), _, _, fun z => zMe_map (wx_action_1 l G z x q _ ov p0 (wCl_0 G _ _) ⟨rfl, rfl, (Nat.le_of_ble_eq_true rfl), (Nat.le_of_ble_eq_true rfl)⟩ hX) (fun _ => ((pp, (sc, SS), S9, E, (tn, t9)), ov)) (fun v u hv => ⟨hv, rfl⟩) (fun u => rfl), ⟨rfl, rfl, (Nat.le_of_ble_eq_true rfl), (Nat.le_of_ble_eq_true rfl)⟩, hM, ?_⟩
    intro v u r M' ⟨hv, hu⟩ ⟨u2, h4, h5⟩
    subst hu
    subst h5
    exact ⟨hv.symm, fun z => absurd (hv.symm.trans z) (by decide), relA_q h hE⟩
set_option maxRecDepth 100000 in
theorem st_done {l : Launch} (hl0 : l.stackTraces = false) {G : zG} {ad : zAd} {q : Nat} {d : Nat → Nat} {D : zDc} {M : zRd} {ov : Nat → Int64} {B : Nat} (hB : B < 90000000) (h : relA B D M) (p0 : Int32) : crW l G ad q d D M ov B yL_done wsL_done yX6_done wsX6_done [.ref ad.2.2.1, .int p0, .ref q] [.ref (d 0), .int p0] := by
  obtain ⟨a, b, x, y1, y2, ya, tr, tv⟩ := ad
  obtain ⟨pp, ⟨sc, SS⟩, S9, E, tn, t9⟩ := D
  obtain ⟨⟨kn, sv⟩, ⟨s9, a9⟩, ⟨ln, tt⟩, ⟨tm, l9⟩, ⟨kp, f9⟩, ⟨pl, wr⟩, th⟩ := M
  obtain ⟨rfl, rfl, rfl⟩ := relA_split h
  obtain ⟨hk, hV, hT, hE, h60⟩ := relA_s h
  by_cases hs : 0 ≤ p0 ∧ p0 ≤ 15
  · obtain ⟨k0, q0, q1, rfl⟩ := z_rng1 (a := 0) (n := 15) rfl rfl (by omega) (by omega) hs.1 hs.2
    have hC := fun z => kC_done l G z a b x y1 y2 ya tr tv pp sc SS S9 E tn t9 k0 (by omega)
    have hM := fun z => kM_done l G z d sc tn tm kp pl th wr s9 a9 l9 f9 t9 sv k0 q0 q1
    refine ⟨_, _, _, fun z => wk_done l G z x q _ ov (nI k0) (wCl_0 G _ _) ⟨rfl, rfl, (Nat.le_of_ble_eq_true rfl), (Nat.le_of_ble_eq_true rfl)⟩ hC, ⟨rfl, rfl, (Nat.le_of_ble_eq_true rfl), (Nat.le_of_ble_eq_true rfl)⟩, hM, ?_⟩
    intro v u r M' ⟨hv, r', ⟨u1, h1, h2⟩, h3⟩ ⟨u2, h4, h5⟩
    obtain ⟨D', ow⟩ := u
    have h2 : D' = _ := h2
    subst h2
    subst h5
    have e : r' = r := by rw [h1, h4]; exact (hT.1.2.2.1 k0 (by omega)).symm
    have hA := relA_q (pp' := pp) (E' := E) (a' := a9) (tm' := tm) (l' := l9) (kp' := kp) (f' := f9) (pl' := pl) (wr' := wr) (th' := 0) h hE
    exact ⟨hv.symm, fun _ => h3.trans (congrArg Int32.toInt64 e), hA⟩
  · have hX := fun z => kX_done l hl0 G z a b x y1 y2 ya tr tv pp sc SS S9 E tn t9 p0 hs
    have hM := fun z => kM_done_bad l G z d sc tn tm kp pl th wr s9 a9 l9 f9 t9 sv p0 hs
    refine ⟨fun v u => v = 1 ∧ u = ((pp, (sc, SS), S9, E, (tn, t9)), ov), _, _, fun z => zMe_map (wx_done_1 l G z x q _ ov p0 (wCl_0 G _ _) ⟨rfl, rfl, (Nat.le_of_ble_eq_true rfl), (Nat.le_of_ble_eq_true rfl)⟩ hX) (fun _ => ((pp, (sc, SS), S9, E, (tn, t9)), ov)) (fun v u hv => ⟨hv, rfl⟩) (fun u => rfl), ⟨rfl, rfl, (Nat.le_of_ble_eq_true rfl), (Nat.le_of_ble_eq_true rfl)⟩, hM, ?_⟩
    intro v u r M' ⟨hv, hu⟩ ⟨u2, h4, h5⟩
    subst hu
    subst h5
    exact ⟨hv.symm, fun z => absurd (hv.symm.trans z) (by decide), relA_q h hE⟩
set_option maxRecDepth 100000 in
theorem st_refused {l : Launch} (hl0 : l.stackTraces = false) {G : zG} {ad : zAd} {q : Nat} {d : Nat → Nat} {D : zDc} {M : zRd} {ov : Nat → Int64} {B : Nat} (hB : B < 90000000) (h : relA B D M) (p0 : Int32) : crW l G ad q d D M ov B yL_refused wsL_refused yX6_refused wsX6_refused [.ref ad.2.2.1, .int p0, .ref q] [.ref (d 0), .int p0] := by
  obtain ⟨a, b, x, y1, y2, ya, tr, tv⟩ := ad
  obtain ⟨pp, ⟨sc, SS⟩, S9, E, tn, t9⟩ := D
  obtain ⟨⟨kn, sv⟩, ⟨s9, a9⟩, ⟨ln, tt⟩, ⟨tm, l9⟩, ⟨kp, f9⟩, ⟨pl, wr⟩, th⟩ := M
  obtain ⟨rfl, rfl, rfl⟩ := relA_split h
  obtain ⟨hk, hV, hT, hE, h60⟩ := relA_s h
  by_cases hs : 1 ≤ p0 ∧ p0 ≤ 6
  · obtain ⟨k0, q0, q1, rfl⟩ := z_rng1 (a := 1) (n := 6) rfl rfl (by omega) (by omega) hs.1 hs.2
    have hC := fun z => kC_refused l G z a b x y1 y2 ya tr tv pp sc SS S9 E tn t9 k0 q0 q1
    have hM := fun z => kM_refused l G z d sc tn tm kp pl th wr s9 a9 l9 f9 t9 sv k0 q0 q1
    refine ⟨_, _, _, fun z => wk_refused l G z x q _ ov (nI k0) (wCl_0 G _ _) ⟨rfl, rfl, (Nat.le_of_ble_eq_true rfl), (Nat.le_of_ble_eq_true rfl)⟩ hC, ⟨rfl, rfl, (Nat.le_of_ble_eq_true rfl), (Nat.le_of_ble_eq_true rfl)⟩, hM, ?_⟩
    intro v u r M' ⟨hv, r', ⟨u1, h1, h2⟩, h3⟩ ⟨u2, h4, h5⟩
    obtain ⟨D', ow⟩ := u
    have h2 : D' = _ := h2
    subst h2
    subst h5
    have e : r' = r := by rw [h1, h4]; exact (hT.1.2.2.2.1 k0 q0 q1).symm
    have hA := relA_q (pp' := pp) (E' := E) (a' := a9) (tm' := tm) (l' := l9) (kp' := kp) (f' := f9) (pl' := pl) (wr' := wr) (th' := 0) h hE
    exact ⟨hv.symm, fun _ => h3.trans (congrArg Int32.toInt64 e), hA⟩
  · have hX := fun z => kX_refused l hl0 G z a b x y1 y2 ya tr tv pp sc SS S9 E tn t9 p0 hs
    have hM := fun z => kM_refused_bad l G z d sc tn tm kp pl th wr s9 a9 l9 f9 t9 sv p0 hs
    refine ⟨fun v u => v = 1 ∧ u = ((pp, (sc, SS), S9, E, (tn, t9)), ov), _, _, fun z => zMe_map (wx_refused_1 l G z x q _ ov p0 (wCl_0 G _ _) ⟨rfl, rfl, (Nat.le_of_ble_eq_true rfl), (Nat.le_of_ble_eq_true rfl)⟩ hX) (fun _ => ((pp, (sc, SS), S9, E, (tn, t9)), ov)) (fun v u hv => ⟨hv, rfl⟩) (fun u => rfl), ⟨rfl, rfl, (Nat.le_of_ble_eq_true rfl), (Nat.le_of_ble_eq_true rfl)⟩, hM, ?_⟩
    intro v u r M' ⟨hv, hu⟩ ⟨u2, h4, h5⟩
    subst hu
    subst h5
    exact ⟨hv.symm, fun z => absurd (hv.symm.trans z) (by decide), relA_q h hE⟩
set_option maxRecDepth 100000 in
theorem st_bit {l : Launch} (hl0 : l.stackTraces = false) {G : zG} {ad : zAd} {q : Nat} {d : Nat → Nat} {D : zDc} {M : zRd} {ov : Nat → Int64} {B : Nat} (hB : B < 90000000) (h : relA B D M) (p0 p1 p2 p3 : Int32) : crW l G ad q d D M ov B yL_bit wsL_bit yX6_bit wsX6_bit [.ref ad.2.2.1, .int p0, .int p1, .int p2, .int p3, .ref q] [.ref (d 0), .int p0, .int p1, .int p2, .int p3] := by
  obtain ⟨a, b, x, y1, y2, ya, tr, tv⟩ := ad
  obtain ⟨pp, ⟨sc, SS⟩, S9, E, tn, t9⟩ := D
  obtain ⟨⟨kn, sv⟩, ⟨s9, a9⟩, ⟨ln, tt⟩, ⟨tm, l9⟩, ⟨kp, f9⟩, ⟨pl, wr⟩, th⟩ := M
  obtain ⟨rfl, rfl, rfl⟩ := relA_split h
  obtain ⟨hk, hV, hT, hE, h60⟩ := relA_s h
  by_cases hv : ((0 ≤ p0 ∧ p0 ≤ 7) ∧ (0 ≤ p1 ∧ p1 ≤ 15) ∧ (0 ≤ p2 ∧ p2 ≤ 1))
  · by_cases hs : 0 ≤ p3 ∧ p3 ≤ 8
    · obtain ⟨k0, q0, rfl⟩ := z_rng (n := 7) rfl (by omega) hv.1.1 hv.1.2
      obtain ⟨k1, q1, rfl⟩ := z_rng (n := 15) rfl (by omega) hv.2.1.1 hv.2.1.2
      obtain ⟨k2, q2, rfl⟩ := z_rng (n := 1) rfl (by omega) hv.2.2.1 hv.2.2.2
      obtain ⟨k3, q3, rfl⟩ := z_rng (n := 8) rfl (by omega) hs.1 hs.2
      have hC := fun z => kC_bit l G z a b x y1 y2 ya tr tv pp sc SS S9 E tn t9 k0 k1 k2 k3 (by omega) (by omega) (by omega) (by omega)
      have hM := fun z => kM_bit l G z d sc tn tm kp pl th wr s9 a9 l9 f9 t9 sv k0 k1 k2 k3 (by omega) (by omega) (by omega) (by omega)
      refine ⟨_, _, _, fun z => wk_bit l G z x q _ ov (nI k0) (nI k1) (nI k2) (nI k3) (wCl_0 G _ _) ⟨rfl, rfl, (Nat.le_of_ble_eq_true rfl), (Nat.le_of_ble_eq_true rfl)⟩ hC, ⟨rfl, rfl, (Nat.le_of_ble_eq_true rfl), (Nat.le_of_ble_eq_true rfl)⟩, hM, ?_⟩
      intro v u r M' ⟨hv, r', ⟨u1, h1, h2⟩, h3⟩ ⟨u2, h4, h5⟩
      obtain ⟨D', ow⟩ := u
      have h2 : D' = _ := h2
      subst h2
      subst h5
      have e : r' = r := h1.trans h4.symm
      have hA := relA_q (pp' := pp) (E' := E) (a' := a9) (tm' := tm) (l' := l9) (kp' := kp) (f' := f9) (pl' := pl) (wr' := wr) (th' := 0) h hE
      exact ⟨hv.symm, fun _ => h3.trans (congrArg Int32.toInt64 e), hA⟩
    · have hX := fun z => kX_bit2 l hl0 G z a b x y1 y2 ya tr tv pp sc SS S9 E tn t9 p0 p1 p2 p3 hv hs
      have hM := fun z => kM_bit_bad l G z d sc tn tm kp pl th wr s9 a9 l9 f9 t9 sv p0 p1 p2 p3 (fun z => hs z.2)
      refine ⟨fun v u => v = 1 ∧ u = ((pp, (sc, SS), S9, E, (tn, t9)), ov), _, _, fun z => zMe_map (wx_bit_1 l G z x q _ ov p0 p1 p2 p3 (wCl_0 G _ _) ⟨rfl, rfl, (Nat.le_of_ble_eq_true rfl), (Nat.le_of_ble_eq_true rfl)⟩ hX) (fun _ => ((pp, (sc, SS), S9, E, (tn, t9)), ov)) (fun v u hv => ⟨hv, rfl⟩) (fun u => rfl), ⟨rfl, rfl, (Nat.le_of_ble_eq_true rfl), (Nat.le_of_ble_eq_true rfl)⟩, hM, ?_⟩
      intro v u r M' ⟨hv, hu⟩ ⟨u2, h4, h5⟩
      subst hu
      subst h5
      exact ⟨hv.symm, fun z => absurd (hv.symm.trans z) (by decide), relA_q h hE⟩
  · have hX := fun z => kX_bit l hl0 G z a b x y1 y2 ya tr tv pp sc SS S9 E tn t9 p0 p1 p2 p3 hv
    have hM := fun z => kM_bit_bad l G z d sc tn tm kp pl th wr s9 a9 l9 f9 t9 sv p0 p1 p2 p3 (fun z => hv z.1)
    refine ⟨fun v u => v = 1 ∧ u = ((pp, (sc, SS), S9, E, (tn, t9)), ov), _, _, fun z => zMe_map (wx_bit_1 l G z x q _ ov p0 p1 p2 p3 (wCl_0 G _ _) ⟨rfl, rfl, (Nat.le_of_ble_eq_true rfl), (Nat.le_of_ble_eq_true rfl)⟩ hX) (fun _ => ((pp, (sc, SS), S9, E, (tn, t9)), ov)) (fun v u hv => ⟨hv, rfl⟩) (fun u => rfl), ⟨rfl, rfl, (Nat.le_of_ble_eq_true rfl), (Nat.le_of_ble_eq_true rfl)⟩, hM, ?_⟩
    intro v u r M' ⟨hv, hu⟩ ⟨u2, h4, h5⟩
    subst hu
    subst h5
    exact ⟨hv.symm, fun z => absurd (hv.symm.trans z) (by decide), relA_q h hE⟩
set_option maxRecDepth 100000 in
theorem st_ifFrame {l : Launch} (hl0 : l.stackTraces = false) {G : zG} {ad : zAd} {q : Nat} {d : Nat → Nat} {D : zDc} {M : zRd} {ov : Nat → Int64} {B : Nat} (hB : B < 90000000) (h : relA B D M) (p0 p1 p2 p3 : Int32) : crW l G ad q d D M ov B yL_ifFrame wsL_ifFrame yX6_ifFrame wsX6_ifFrame [.ref ad.2.2.1, .int p0, .int p1, .int p2, .int p3, .ref q] [.ref (d 0), .int p0, .int p1, .int p2, .int p3] := by
  obtain ⟨a, b, x, y1, y2, ya, tr, tv⟩ := ad
  obtain ⟨pp, ⟨sc, SS⟩, S9, E, tn, t9⟩ := D
  obtain ⟨⟨kn, sv⟩, ⟨s9, a9⟩, ⟨ln, tt⟩, ⟨tm, l9⟩, ⟨kp, f9⟩, ⟨pl, wr⟩, th⟩ := M
  obtain ⟨rfl, rfl, rfl⟩ := relA_split h
  obtain ⟨hk, hV, hT, hE, h60⟩ := relA_s h
  have hog := relQ_okg hT.1
  have hoR := relQ_okR hT.1
  obtain ⟨e0, e1, e2⟩ := relQ_01 hT.1
  by_cases hv : ((0 ≤ p0 ∧ p0 ≤ 7) ∧ (0 ≤ p1 ∧ p1 ≤ 15) ∧ (0 ≤ p2 ∧ p2 ≤ 1))
  · by_cases hs : 1 ≤ p3 ∧ p3 ≤ 10
    · obtain ⟨k0, q0, rfl⟩ := z_rng (n := 7) rfl (by omega) hv.1.1 hv.1.2
      obtain ⟨k1, q1, rfl⟩ := z_rng (n := 15) rfl (by omega) hv.2.1.1 hv.2.1.2
      obtain ⟨k2, q2, rfl⟩ := z_rng (n := 1) rfl (by omega) hv.2.2.1 hv.2.2.2
      have hC := fun z => kC_ifFrame l G z a b x y1 y2 ya tr tv pp sc SS S9 E tn t9 hE k0 k1 k2 (by omega) (by omega) (by omega) p3 hs
      have hM := fun z => kM_ifFrame l G z d sc tn tm kp pl th wr s9 a9 l9 f9 t9 sv k0 k1 k2 (by omega) (by omega) (by omega) p3 hs hoR.1 (s9 3).toNatClampNeg hoR.2.2 hoR.2.1
      refine ⟨_, _, _, fun z => wk_ifFrame l G z x q _ ov (nI k0) (nI k1) (nI k2) p3 (wCl_0 G _ _) ⟨rfl, rfl, (Nat.le_of_ble_eq_true rfl), (Nat.le_of_ble_eq_true rfl)⟩ hC, ⟨rfl, rfl, (Nat.le_of_ble_eq_true rfl), (Nat.le_of_ble_eq_true rfl)⟩, hM, ?_⟩
      intro v u r M' ⟨hv, r', ⟨u1, h1, h2⟩, h3⟩ ⟨u2, h4, h5⟩
      obtain ⟨D', ow⟩ := u
      have h2 : D' = _ := h2
      subst h2
      subst h5
      have hlo : LO (frS (wd k0 k1 k2)) 21 (s9 0) (s9 1) p3 = LO (frS (wd k0 k1 k2)) 21 (S9.1 0) (S9.1 1) p3 := by rw [e0, e1]
      obtain ⟨t1, t2, t3⟩ := hear_o hT.1 (by omega) (LO_ok (frS (wd k0 k1 k2)) 21 (S9.1 0) (S9.1 1) p3)
      have e : r' = r := by rw [h1.1, h4, hlo, ← t1, hearF_1]
      have hA := relA_q (pp' := pp) (E' := u1) (a' := s9) (tm' := 21) (l' := u2.2) (kp' := u2.1.2.2.1) (f' := u2.1.2.2.2) (pl' := pl) (wr' := wr) (th' := 0) h h1.2
      exact ⟨hv.symm, fun _ => h3.trans (congrArg Int32.toInt64 e), hA⟩
    · have hX := fun z => kX_ifFrame2 l hl0 G z a b x y1 y2 ya tr tv pp sc SS S9 E tn t9 p0 p1 p2 p3 hv hs
      have hM := fun z => kM_ifFrame_bad l G z d sc tn tm kp pl th wr s9 a9 l9 f9 t9 sv p0 p1 p2 p3 (fun z => hs z.2)
      refine ⟨fun v u => v = 1 ∧ u = ((pp, (sc, SS), S9, E, (tn, t9)), ov), _, _, fun z => zMe_map (wx_ifFrame_1 l G z x q _ ov p0 p1 p2 p3 (wCl_0 G _ _) ⟨rfl, rfl, (Nat.le_of_ble_eq_true rfl), (Nat.le_of_ble_eq_true rfl)⟩ hX) (fun _ => ((pp, (sc, SS), S9, E, (tn, t9)), ov)) (fun v u hv => ⟨hv, rfl⟩) (fun u => rfl), ⟨rfl, rfl, (Nat.le_of_ble_eq_true rfl), (Nat.le_of_ble_eq_true rfl)⟩, hM, ?_⟩
      intro v u r M' ⟨hv, hu⟩ ⟨u2, h4, h5⟩
      subst hu
      subst h5
      exact ⟨hv.symm, fun z => absurd (hv.symm.trans z) (by decide), relA_q h hE⟩
  · have hX := fun z => kX_ifFrame l hl0 G z a b x y1 y2 ya tr tv pp sc SS S9 E tn t9 p0 p1 p2 p3 hv
    have hM := fun z => kM_ifFrame_bad l G z d sc tn tm kp pl th wr s9 a9 l9 f9 t9 sv p0 p1 p2 p3 (fun z => hv z.1)
    refine ⟨fun v u => v = 1 ∧ u = ((pp, (sc, SS), S9, E, (tn, t9)), ov), _, _, fun z => zMe_map (wx_ifFrame_1 l G z x q _ ov p0 p1 p2 p3 (wCl_0 G _ _) ⟨rfl, rfl, (Nat.le_of_ble_eq_true rfl), (Nat.le_of_ble_eq_true rfl)⟩ hX) (fun _ => ((pp, (sc, SS), S9, E, (tn, t9)), ov)) (fun v u hv => ⟨hv, rfl⟩) (fun u => rfl), ⟨rfl, rfl, (Nat.le_of_ble_eq_true rfl), (Nat.le_of_ble_eq_true rfl)⟩, hM, ?_⟩
    intro v u r M' ⟨hv, hu⟩ ⟨u2, h4, h5⟩
    subst hu
    subst h5
    exact ⟨hv.symm, fun z => absurd (hv.symm.trans z) (by decide), relA_q h hE⟩
set_option maxRecDepth 100000 in
theorem st_append {l : Launch} (hl0 : l.stackTraces = false) {G : zG} {ad : zAd} {q : Nat} {d : Nat → Nat} {D : zDc} {M : zRd} {ov : Nat → Int64} {B : Nat} (hB : B < 90000000) (h : relA B D M) (p0 : Int32) : crW l G ad q d D M ov B yL_append wsL_append yX6_append wsX6_append [.ref ad.2.2.1, .int p0, .ref q] [.ref (d 0), .int p0] := by
  obtain ⟨a, b, x, y1, y2, ya, tr, tv⟩ := ad
  obtain ⟨pp, ⟨sc, SS⟩, S9, E, tn, t9⟩ := D
  obtain ⟨⟨kn, sv⟩, ⟨s9, a9⟩, ⟨ln, tt⟩, ⟨tm, l9⟩, ⟨kp, f9⟩, ⟨pl, wr⟩, th⟩ := M
  obtain ⟨rfl, rfl, rfl⟩ := relA_split h
  obtain ⟨hk, hV, hT, hE, h60⟩ := relA_s h
  by_cases hs : 33 ≤ p0 ∧ p0 ≤ 126
  · by_cases hn : tn < 60
    · have hC := fun z => kC_append l G z a b x y1 y2 ya tr tv pp sc SS S9 E tn t9 hn p0 hs
      have hM := fun z => kM_append l G z d sc tn tm kp pl th wr s9 a9 l9 f9 t9 sv p0 hs hn
      refine ⟨_, _, _, fun z => wk_append l G z x q _ ov p0 (wCl_0 G _ _) ⟨rfl, rfl, (Nat.le_of_ble_eq_true rfl), (Nat.le_of_ble_eq_true rfl)⟩ hC, ⟨rfl, rfl, (Nat.le_of_ble_eq_true rfl), (Nat.le_of_ble_eq_true rfl)⟩, hM, ?_⟩
      intro v u r M' ⟨hv, r', ⟨u1, h1, h2⟩, h3⟩ ⟨u2, h4, h5⟩
      obtain ⟨D', ow⟩ := u
      have h2 : D' = _ := h2
      subst h2
      subst h5
      have e : r' = r := h1.trans h4.symm
      have hA : relA (B + 6200) (pp, (sc, SS), S9, E, (tn + 1, upd t9 tn p0)) ((sc, sv), (s9, a9), (tn + 1, upd t9 tn p0), (tm, l9), (kp, f9), (pl, wr), 0) := ⟨rfl, hk, relV_mono hV (Nat.le_add_right _ _), relT_mono hT (Nat.le_add_right _ _), hE, rfl, hn⟩
      exact ⟨hv.symm, fun _ => h3.trans (congrArg Int32.toInt64 e), hA⟩
    · have h6 : tn = 60 := by omega
      have hX := fun z => kX_append2 l hl0 G z a b x y1 y2 ya tr tv pp sc SS S9 E tn t9 h6 p0 hs
      have hM := fun z => kM_append_bad2 l G z d sc tn tm kp pl th wr s9 a9 l9 f9 t9 sv p0 hs h6
      refine ⟨fun v u => v = 2 ∧ u = ((pp, (sc, SS), S9, E, (tn, t9)), ov), _, _, fun z => zMe_map (wx_append_2 l G z x q _ ov p0 (wCl_0 G _ _) ⟨rfl, rfl, (Nat.le_of_ble_eq_true rfl), (Nat.le_of_ble_eq_true rfl)⟩ hX) (fun _ => ((pp, (sc, SS), S9, E, (tn, t9)), ov)) (fun v u hv => ⟨hv, rfl⟩) (fun u => rfl), ⟨rfl, rfl, (Nat.le_of_ble_eq_true rfl), (Nat.le_of_ble_eq_true rfl)⟩, hM, ?_⟩
      intro v u r M' ⟨hv, hu⟩ ⟨u2, h4, h5⟩
      subst hu
      subst h5
      exact ⟨hv.symm, fun z => absurd (hv.symm.trans z) (by decide), relA_q h hE⟩
  · have hX := fun z => kX_append l hl0 G z a b x y1 y2 ya tr tv pp sc SS S9 E tn t9 p0 hs
    have hM := fun z => kM_append_bad l G z d sc tn tm kp pl th wr s9 a9 l9 f9 t9 sv p0 hs
    refine ⟨fun v u => v = 1 ∧ u = ((pp, (sc, SS), S9, E, (tn, t9)), ov), _, _, fun z => zMe_map (wx_append_1 l G z x q _ ov p0 (wCl_0 G _ _) ⟨rfl, rfl, (Nat.le_of_ble_eq_true rfl), (Nat.le_of_ble_eq_true rfl)⟩ hX) (fun _ => ((pp, (sc, SS), S9, E, (tn, t9)), ov)) (fun v u hv => ⟨hv, rfl⟩) (fun u => rfl), ⟨rfl, rfl, (Nat.le_of_ble_eq_true rfl), (Nat.le_of_ble_eq_true rfl)⟩, hM, ?_⟩
    intro v u r M' ⟨hv, hu⟩ ⟨u2, h4, h5⟩
    subst hu
    subst h5
    exact ⟨hv.symm, fun z => absurd (hv.symm.trans z) (by decide), relA_q h hE⟩
set_option maxRecDepth 100000 in
theorem st_run {l : Launch} (hl0 : l.stackTraces = false) {G : zG} {ad : zAd} {q : Nat} {d : Nat → Nat} {D : zDc} {M : zRd} {ov : Nat → Int64} {B : Nat} (hB : B < 90000000) (h : relA B D M) : crW l G ad q d D M ov B yL_run wsL_run yX6_run wsX6_run [.ref ad.2.2.1, .ref q] [.ref (d 0)] := by
  obtain ⟨a, b, x, y1, y2, ya, tr, tv⟩ := ad
  obtain ⟨pp, ⟨sc, SS⟩, S9, E, tn, t9⟩ := D
  obtain ⟨⟨kn, sv⟩, ⟨s9, a9⟩, ⟨ln, tt⟩, ⟨tm, l9⟩, ⟨kp, f9⟩, ⟨pl, wr⟩, th⟩ := M
  obtain ⟨rfl, rfl, rfl⟩ := relA_split h
  obtain ⟨hk, hV, hT, hE, h60⟩ := relA_s h
  by_cases hc : cmT t9 tn
  · have hC := fun z => kC_run l G z a b x y1 y2 ya tr tv pp sc SS S9 E tn t9 hk (relQ_okg hT.1) hE h60 hc
    have hM := fun z => kM_run l G z d sc tn tm kp pl th wr s9 a9 l9 f9 t9 sv h60 trivial hk hc (run_ok hT.1 (by omega) hc h60)
    refine ⟨_, _, _, fun z => wk_run l G z x q _ ov (wCl_0 G _ _) ⟨rfl, rfl, (Nat.le_of_ble_eq_true rfl), (Nat.le_of_ble_eq_true rfl)⟩ hC, ⟨rfl, rfl, (Nat.le_of_ble_eq_true rfl), (Nat.le_of_ble_eq_true rfl)⟩, hM, ?_⟩
    intro v u r M' ⟨hv, r', ⟨u1, h1, h2⟩, h3⟩ ⟨u2, h4, h5⟩
    obtain ⟨D', ow⟩ := u
    have h2 : D' = _ := h2
    subst h2
    subst h5
    obtain ⟨g1, g2, g3, g4, g5⟩ := h1
    obtain ⟨m1, m2, m3, m4, m5⟩ := h4
    have hK := lastP_one g2 m2
    rw [← hK] at m3
    obtain ⟨t1, t2⟩ := run_last hT.1 (by omega) hc h60 g2
    rw [← m3] at t1 t2
    rw [← g3] at t1
    have e : r' = r := by rw [g1, m1, (rel_q t1 (by omega)).2.2.2.1, (rel_q hT.1 (by omega)).2.2.2.1]
    have hA := relA_n (E' := u1.2.2) (pp' := u1.1.1) (a' := a9) (tm' := u2.2.2.1.2.1.1) (l' := u2.2.2.1.2.1.2) (kp' := u2.2.2.1.2.2.1) (f' := u2.2.2.1.2.2.2) (pl' := u2.2.2.2) (wr' := 0) (th' := 0) (ln' := 0) h g5 m5 (T_low hT t1 t2) (by omega) g4 (Nat.zero_le _)
    exact ⟨hv.symm, fun _ => h3.trans (congrArg Int32.toInt64 e), hA⟩
  · have hX := fun z => kX_run l hl0 G z a b x y1 y2 ya tr tv pp sc SS S9 E tn t9 h60 hc
    have hM := fun z => kM_run_bad l G z d sc tn tm kp pl th wr s9 a9 l9 f9 t9 sv h60 trivial hc
    refine ⟨fun v u => v = 1 ∧ u = ((pp, (sc, SS), S9, E, (tn, t9)), ov), _, _, fun z => zMe_map (wx_run_1 l G z x q _ ov (wCl_0 G _ _) ⟨rfl, rfl, (Nat.le_of_ble_eq_true rfl), (Nat.le_of_ble_eq_true rfl)⟩ hX) (fun _ => ((pp, (sc, SS), S9, E, (tn, t9)), ov)) (fun v u hv => ⟨hv, rfl⟩) (fun u => rfl), ⟨rfl, rfl, (Nat.le_of_ble_eq_true rfl), (Nat.le_of_ble_eq_true rfl)⟩, hM, ?_⟩
    intro v u r M' ⟨hv, hu⟩ ⟨u2, h4, h5⟩
    subst hu
    subst h5
    exact ⟨hv.symm, fun z => absurd (hv.symm.trans z) (by decide), relA_q h hE⟩
set_option maxRecDepth 100000 in
theorem st_undo {l : Launch} (hl0 : l.stackTraces = false) {G : zG} {ad : zAd} {q : Nat} {d : Nat → Nat} {D : zDc} {M : zRd} {ov : Nat → Int64} {B : Nat} (hB : B < 90000000) (h : relA B D M) : crW l G ad q d D M ov B yL_undo wsL_undo yX6_undo wsX6_undo [.ref ad.2.2.1, .ref q] [.ref (d 0)] := by
  obtain ⟨a, b, x, y1, y2, ya, tr, tv⟩ := ad
  obtain ⟨pp, ⟨sc, SS⟩, S9, E, tn, t9⟩ := D
  obtain ⟨⟨kn, sv⟩, ⟨s9, a9⟩, ⟨ln, tt⟩, ⟨tm, l9⟩, ⟨kp, f9⟩, ⟨pl, wr⟩, th⟩ := M
  obtain ⟨rfl, rfl, rfl⟩ := relA_split h
  obtain ⟨hk, hV, hT, hE, h60⟩ := relA_s h
  by_cases h1s : 0 < sc
  · have hC := fun z => kC_undo l G z a b x y1 y2 ya tr tv pp sc SS S9 E tn t9 hk h1s
    have hM := fun z => kM_undo l G z d sc tn tm kp pl th wr s9 a9 l9 f9 t9 sv h1s hk
    refine ⟨_, _, _, fun z => wk_undo l G z x q _ ov (wCl_0 G _ _) ⟨rfl, rfl, (Nat.le_of_ble_eq_true rfl), (Nat.le_of_ble_eq_true rfl)⟩ hC, ⟨rfl, rfl, (Nat.le_of_ble_eq_true rfl), (Nat.le_of_ble_eq_true rfl)⟩, hM, ?_⟩
    intro v u r M' ⟨hv, r', ⟨u1, h1, h2⟩, h3⟩ ⟨u2, h4, h5⟩
    obtain ⟨D', ow⟩ := u
    have h2 : D' = _ := h2
    subst h2
    subst h5
    have e : r' = r := h1.trans h4.symm
    have hA : relA (B + 6200) (pp, (sc - 1, SS), SS (sc - 1), E, (tn, t9)) ((sc - 1, sv), (sv (sc - 1), a9), (tn, t9), (tm, l9), (kp, f9), (pl, wr), 0) := ⟨rfl, by show sc - 1 ≤ 6; omega, fun i hi => relT_mono (hV i (by have : i < sc - 1 := hi; omega)) (Nat.le_add_right _ _), relT_mono (hV (sc - 1) (by omega)) (Nat.le_add_right _ _), hE, rfl, h60⟩
    exact ⟨hv.symm, fun _ => h3.trans (congrArg Int32.toInt64 e), hA⟩
  · have h0 : sc = 0 := by omega
    have hX := fun z => kX_undo l hl0 G z a b x y1 y2 ya tr tv pp sc SS S9 E tn t9 h0
    have hM := fun z => kM_undo_bad l G z d sc tn tm kp pl th wr s9 a9 l9 f9 t9 sv h0
    refine ⟨fun v u => v = 1 ∧ u = ((pp, (sc, SS), S9, E, (tn, t9)), ov), _, _, fun z => zMe_map (wx_undo_1 l G z x q _ ov (wCl_0 G _ _) ⟨rfl, rfl, (Nat.le_of_ble_eq_true rfl), (Nat.le_of_ble_eq_true rfl)⟩ hX) (fun _ => ((pp, (sc, SS), S9, E, (tn, t9)), ov)) (fun v u hv => ⟨hv, rfl⟩) (fun u => rfl), ⟨rfl, rfl, (Nat.le_of_ble_eq_true rfl), (Nat.le_of_ble_eq_true rfl)⟩, hM, ?_⟩
    intro v u r M' ⟨hv, hu⟩ ⟨u2, h4, h5⟩
    subst hu
    subst h5
    exact ⟨hv.symm, fun z => absurd (hv.symm.trans z) (by decide), relA_q h hE⟩
set_option maxRecDepth 100000 in
theorem st_glare {l : Launch} {G : zG} {ad : zAd} {d : Nat → Nat} {D : zDc} {M : zRd} {B : Nat} (hB : B < 90000000) (h : relA B D M) : crG l G ad d D M B yX5_glare wsX5_glare yX6_glare wsX6_glare := by
  obtain ⟨a, b, x, y1, y2, ya, tr, tv⟩ := ad
  obtain ⟨pp, ⟨sc, SS⟩, S9, E, tn, t9⟩ := D
  obtain ⟨⟨kn, sv⟩, ⟨s9, a9⟩, ⟨ln, tt⟩, ⟨tm, l9⟩, ⟨kp, f9⟩, ⟨pl, wr⟩, th⟩ := M
  obtain ⟨rfl, rfl, rfl⟩ := relA_split h
  obtain ⟨hk, hV, hT, hE, h60⟩ := relA_s h
  obtain ⟨e0, e1, e2⟩ := relQ_01 hT.1
  have hC := fun z => kC_glare l G z a b x y1 y2 ya tr tv pp sc SS S9 E tn t9
  have hM := fun z => kM_glare l G z d sc tn tm kp pl th wr s9 a9 l9 f9 t9 sv
  refine ⟨_, _, _, _, hC, ⟨rfl, rfl, (Nat.le_of_ble_eq_true rfl), (Nat.le_of_ble_eq_true rfl)⟩, hM, ⟨rfl, rfl, (Nat.le_of_ble_eq_true rfl), (Nat.le_of_ble_eq_true rfl)⟩, ?_⟩
  intro v D' r M' ⟨u1, h1, h2⟩ ⟨u2, h4, h5⟩
  subst h2
  subst h5
  exact ⟨by rw [h1, h4, e0], relA_q (pp' := pp) (E' := E) (a' := a9) (tm' := tm) (l' := l9) (kp' := kp) (f' := f9) (pl' := pl) (wr' := wr) (th' := 0) h hE⟩
set_option maxRecDepth 100000 in
theorem st_gain {l : Launch} {G : zG} {ad : zAd} {d : Nat → Nat} {D : zDc} {M : zRd} {B : Nat} (hB : B < 90000000) (h : relA B D M) : crG l G ad d D M B yX5_gain wsX5_gain yX6_gain wsX6_gain := by
  obtain ⟨a, b, x, y1, y2, ya, tr, tv⟩ := ad
  obtain ⟨pp, ⟨sc, SS⟩, S9, E, tn, t9⟩ := D
  obtain ⟨⟨kn, sv⟩, ⟨s9, a9⟩, ⟨ln, tt⟩, ⟨tm, l9⟩, ⟨kp, f9⟩, ⟨pl, wr⟩, th⟩ := M
  obtain ⟨rfl, rfl, rfl⟩ := relA_split h
  obtain ⟨hk, hV, hT, hE, h60⟩ := relA_s h
  obtain ⟨e0, e1, e2⟩ := relQ_01 hT.1
  have hC := fun z => kC_gain l G z a b x y1 y2 ya tr tv pp sc SS S9 E tn t9
  have hM := fun z => kM_gain l G z d sc tn tm kp pl th wr s9 a9 l9 f9 t9 sv
  refine ⟨_, _, _, _, hC, ⟨rfl, rfl, (Nat.le_of_ble_eq_true rfl), (Nat.le_of_ble_eq_true rfl)⟩, hM, ⟨rfl, rfl, (Nat.le_of_ble_eq_true rfl), (Nat.le_of_ble_eq_true rfl)⟩, ?_⟩
  intro v D' r M' ⟨u1, h1, h2⟩ ⟨u2, h4, h5⟩
  subst h2
  subst h5
  exact ⟨by rw [h1, h4, e1], relA_q (pp' := pp) (E' := E) (a' := a9) (tm' := tm) (l' := l9) (kp' := kp) (f' := f9) (pl' := pl) (wr' := wr) (th' := 0) h hE⟩
set_option maxRecDepth 100000 in
theorem st_remembered {l : Launch} {G : zG} {ad : zAd} {d : Nat → Nat} {D : zDc} {M : zRd} {B : Nat} (hB : B < 90000000) (h : relA B D M) : crG l G ad d D M B yX5_remembered wsX5_remembered yX6_remembered wsX6_remembered := by
  obtain ⟨a, b, x, y1, y2, ya, tr, tv⟩ := ad
  obtain ⟨pp, ⟨sc, SS⟩, S9, E, tn, t9⟩ := D
  obtain ⟨⟨kn, sv⟩, ⟨s9, a9⟩, ⟨ln, tt⟩, ⟨tm, l9⟩, ⟨kp, f9⟩, ⟨pl, wr⟩, th⟩ := M
  obtain ⟨rfl, rfl, rfl⟩ := relA_split h
  obtain ⟨hk, hV, hT, hE, h60⟩ := relA_s h
  obtain ⟨r1, r2, r3, r4, r5⟩ := rel_q hT.1 (by omega)
  have hC := fun z => kC_remembered l G z a b x y1 y2 ya tr tv pp sc SS S9 E tn t9
  have hM := fun z => kM_remembered l G z d sc tn tm kp pl th wr s9 a9 l9 f9 t9 sv
  refine ⟨_, _, _, _, hC, ⟨rfl, rfl, (Nat.le_of_ble_eq_true rfl), (Nat.le_of_ble_eq_true rfl)⟩, hM, ⟨rfl, rfl, (Nat.le_of_ble_eq_true rfl), (Nat.le_of_ble_eq_true rfl)⟩, ?_⟩
  intro v D' r M' ⟨u1, h1, h2⟩ ⟨u2, h4, h5⟩
  subst h2
  subst h5
  exact ⟨h1.trans (r1.trans h4.symm), relA_q (pp' := pp) (E' := E) (a' := a9) (tm' := tm) (l' := l9) (kp' := kp) (f' := f9) (pl' := pl) (wr' := wr) (th' := 0) h hE⟩
set_option maxRecDepth 100000 in
theorem st_holds {l : Launch} {G : zG} {ad : zAd} {d : Nat → Nat} {D : zDc} {M : zRd} {B : Nat} (hB : B < 90000000) (h : relA B D M) : crG l G ad d D M B yX5_holds wsX5_holds yX6_holds wsX6_holds := by
  obtain ⟨a, b, x, y1, y2, ya, tr, tv⟩ := ad
  obtain ⟨pp, ⟨sc, SS⟩, S9, E, tn, t9⟩ := D
  obtain ⟨⟨kn, sv⟩, ⟨s9, a9⟩, ⟨ln, tt⟩, ⟨tm, l9⟩, ⟨kp, f9⟩, ⟨pl, wr⟩, th⟩ := M
  obtain ⟨rfl, rfl, rfl⟩ := relA_split h
  obtain ⟨hk, hV, hT, hE, h60⟩ := relA_s h
  obtain ⟨r1, r2, r3, r4, r5⟩ := rel_q hT.1 (by omega)
  have hC := fun z => kC_holds l G z a b x y1 y2 ya tr tv pp sc SS S9 E tn t9
  have hM := fun z => kM_holds l G z d sc tn tm kp pl th wr s9 a9 l9 f9 t9 sv
  refine ⟨_, _, _, _, hC, ⟨rfl, rfl, (Nat.le_of_ble_eq_true rfl), (Nat.le_of_ble_eq_true rfl)⟩, hM, ⟨rfl, rfl, (Nat.le_of_ble_eq_true rfl), (Nat.le_of_ble_eq_true rfl)⟩, ?_⟩
  intro v D' r M' ⟨u1, h1, h2⟩ ⟨u2, h4, h5⟩
  subst h2
  subst h5
  exact ⟨h1.trans (r2.trans h4.symm), relA_q (pp' := pp) (E' := E) (a' := a9) (tm' := tm) (l' := l9) (kp' := kp) (f' := f9) (pl' := pl) (wr' := wr) (th' := 0) h hE⟩
set_option maxRecDepth 100000 in
theorem st_ticksToForget {l : Launch} {G : zG} {ad : zAd} {d : Nat → Nat} {D : zDc} {M : zRd} {B : Nat} (hB : B < 90000000) (h : relA B D M) : crG l G ad d D M B yX5_ticksToForget wsX5_ticksToForget yX6_ticksToForget wsX6_ticksToForget := by
  obtain ⟨a, b, x, y1, y2, ya, tr, tv⟩ := ad
  obtain ⟨pp, ⟨sc, SS⟩, S9, E, tn, t9⟩ := D
  obtain ⟨⟨kn, sv⟩, ⟨s9, a9⟩, ⟨ln, tt⟩, ⟨tm, l9⟩, ⟨kp, f9⟩, ⟨pl, wr⟩, th⟩ := M
  obtain ⟨rfl, rfl, rfl⟩ := relA_split h
  obtain ⟨hk, hV, hT, hE, h60⟩ := relA_s h
  obtain ⟨r1, r2, r3, r4, r5⟩ := rel_q hT.1 (by omega)
  have hC := fun z => kC_ticksToForget l G z a b x y1 y2 ya tr tv pp sc SS S9 E tn t9
  have hM := fun z => kM_ticksToForget l G z d sc tn tm kp pl th wr s9 a9 l9 f9 t9 sv
  refine ⟨_, _, _, _, hC, ⟨rfl, rfl, (Nat.le_of_ble_eq_true rfl), (Nat.le_of_ble_eq_true rfl)⟩, hM, ⟨rfl, rfl, (Nat.le_of_ble_eq_true rfl), (Nat.le_of_ble_eq_true rfl)⟩, ?_⟩
  intro v D' r M' ⟨u1, h1, h2⟩ ⟨u2, h4, h5⟩
  subst h2
  subst h5
  exact ⟨h1.trans (r3.trans h4.symm), relA_q (pp' := pp) (E' := E) (a' := a9) (tm' := tm) (l' := l9) (kp' := kp) (f' := f9) (pl' := pl) (wr' := wr) (th' := 0) h hE⟩
set_option maxRecDepth 100000 in
theorem st_presses {l : Launch} {G : zG} {ad : zAd} {d : Nat → Nat} {D : zDc} {M : zRd} {B : Nat} (hB : B < 90000000) (h : relA B D M) : crG l G ad d D M B yX5_presses wsX5_presses yX6_presses wsX6_presses := by
  obtain ⟨a, b, x, y1, y2, ya, tr, tv⟩ := ad
  obtain ⟨pp, ⟨sc, SS⟩, S9, E, tn, t9⟩ := D
  obtain ⟨⟨kn, sv⟩, ⟨s9, a9⟩, ⟨ln, tt⟩, ⟨tm, l9⟩, ⟨kp, f9⟩, ⟨pl, wr⟩, th⟩ := M
  obtain ⟨rfl, rfl, rfl⟩ := relA_split h
  obtain ⟨hk, hV, hT, hE, h60⟩ := relA_s h
  obtain ⟨r1, r2, r3, r4, r5⟩ := rel_q hT.1 (by omega)
  have hC := fun z => kC_presses l G z a b x y1 y2 ya tr tv pp sc SS S9 E tn t9
  have hM := fun z => kM_presses l G z d sc tn tm kp pl th wr s9 a9 l9 f9 t9 sv
  refine ⟨_, _, _, _, hC, ⟨rfl, rfl, (Nat.le_of_ble_eq_true rfl), (Nat.le_of_ble_eq_true rfl)⟩, hM, ⟨rfl, rfl, (Nat.le_of_ble_eq_true rfl), (Nat.le_of_ble_eq_true rfl)⟩, ?_⟩
  intro v D' r M' ⟨u1, h1, h2⟩ ⟨u2, h4, h5⟩
  subst h2
  subst h5
  exact ⟨h1.trans (r4.trans h4.symm), relA_q (pp' := pp) (E' := E) (a' := a9) (tm' := tm) (l' := l9) (kp' := kp) (f' := f9) (pl' := pl) (wr' := wr) (th' := 0) h hE⟩
set_option maxRecDepth 100000 in
theorem st_received {l : Launch} {G : zG} {ad : zAd} {d : Nat → Nat} {D : zDc} {M : zRd} {B : Nat} (hB : B < 90000000) (h : relA B D M) : crG l G ad d D M B yX5_received wsX5_received yX6_received wsX6_received := by
  obtain ⟨a, b, x, y1, y2, ya, tr, tv⟩ := ad
  obtain ⟨pp, ⟨sc, SS⟩, S9, E, tn, t9⟩ := D
  obtain ⟨⟨kn, sv⟩, ⟨s9, a9⟩, ⟨ln, tt⟩, ⟨tm, l9⟩, ⟨kp, f9⟩, ⟨pl, wr⟩, th⟩ := M
  obtain ⟨rfl, rfl, rfl⟩ := relA_split h
  obtain ⟨hk, hV, hT, hE, h60⟩ := relA_s h
  obtain ⟨r1, r2, r3, r4, r5⟩ := rel_q hT.1 (by omega)
  have hC := fun z => kC_received l G z a b x y1 y2 ya tr tv pp sc SS S9 E tn t9
  have hM := fun z => kM_received l G z d sc tn tm kp pl th wr s9 a9 l9 f9 t9 sv
  refine ⟨_, _, _, _, hC, ⟨rfl, rfl, (Nat.le_of_ble_eq_true rfl), (Nat.le_of_ble_eq_true rfl)⟩, hM, ⟨rfl, rfl, (Nat.le_of_ble_eq_true rfl), (Nat.le_of_ble_eq_true rfl)⟩, ?_⟩
  intro v D' r M' ⟨u1, h1, h2⟩ ⟨u2, h4, h5⟩
  subst h2
  subst h5
  exact ⟨h1.trans (r5.trans h4.symm), relA_q (pp' := pp) (E' := E) (a' := a9) (tm' := tm) (l' := l9) (kp' := kp) (f' := f9) (pl' := pl) (wr' := wr) (th' := 0) h hE⟩
set_option maxRecDepth 100000 in
theorem st_row {l : Launch} {G : zG} {ad : zAd} {d : Nat → Nat} {D : zDc} {M : zRd} {B : Nat} (hB : B < 90000000) (h : relA B D M) : crG l G ad d D M B yX5_row wsX5_row yX6_row wsX6_row := by
  obtain ⟨a, b, x, y1, y2, ya, tr, tv⟩ := ad
  obtain ⟨pp, ⟨sc, SS⟩, S9, E, tn, t9⟩ := D
  obtain ⟨⟨kn, sv⟩, ⟨s9, a9⟩, ⟨ln, tt⟩, ⟨tm, l9⟩, ⟨kp, f9⟩, ⟨pl, wr⟩, th⟩ := M
  obtain ⟨rfl, rfl, rfl⟩ := relA_split h
  obtain ⟨hk, hV, hT, hE, h60⟩ := relA_s h
  have hC := fun z => kC_row l G z a b x y1 y2 ya tr tv pp sc SS S9 E tn t9
  have hM := fun z => kM_row l G z d sc tn tm kp pl th wr s9 a9 l9 f9 t9 sv
  refine ⟨_, _, _, _, hC, ⟨rfl, rfl, (Nat.le_of_ble_eq_true rfl), (Nat.le_of_ble_eq_true rfl)⟩, hM, ⟨rfl, rfl, (Nat.le_of_ble_eq_true rfl), (Nat.le_of_ble_eq_true rfl)⟩, ?_⟩
  intro v D' r M' ⟨u1, h1, h2⟩ ⟨u2, h4, h5⟩
  subst h2
  subst h5
  exact ⟨h1.trans (hT.2.2.1.symm.trans h4.symm), relA_q (pp' := pp) (E' := E) (a' := a9) (tm' := tm) (l' := l9) (kp' := kp) (f' := f9) (pl' := pl) (wr' := wr) (th' := 0) h hE⟩
set_option maxRecDepth 100000 in
theorem st_savedStates {l : Launch} {G : zG} {ad : zAd} {d : Nat → Nat} {D : zDc} {M : zRd} {B : Nat} (hB : B < 90000000) (h : relA B D M) : crG l G ad d D M B yX5_savedStates wsX5_savedStates yX6_savedStates wsX6_savedStates := by
  obtain ⟨a, b, x, y1, y2, ya, tr, tv⟩ := ad
  obtain ⟨pp, ⟨sc, SS⟩, S9, E, tn, t9⟩ := D
  obtain ⟨⟨kn, sv⟩, ⟨s9, a9⟩, ⟨ln, tt⟩, ⟨tm, l9⟩, ⟨kp, f9⟩, ⟨pl, wr⟩, th⟩ := M
  obtain ⟨rfl, rfl, rfl⟩ := relA_split h
  obtain ⟨hk, hV, hT, hE, h60⟩ := relA_s h
  have hC := fun z => kC_savedStates l G z a b x y1 y2 ya tr tv pp sc SS S9 E tn t9
  have hM := fun z => kM_savedStates l G z d sc tn tm kp pl th wr s9 a9 l9 f9 t9 sv
  refine ⟨_, _, _, _, hC, ⟨rfl, rfl, (Nat.le_of_ble_eq_true rfl), (Nat.le_of_ble_eq_true rfl)⟩, hM, ⟨rfl, rfl, (Nat.le_of_ble_eq_true rfl), (Nat.le_of_ble_eq_true rfl)⟩, ?_⟩
  intro v D' r M' ⟨u1, h1, h2⟩ ⟨u2, h4, h5⟩
  subst h2
  subst h5
  exact ⟨h1.trans h4.symm, relA_q (pp' := pp) (E' := E) (a' := a9) (tm' := tm) (l' := l9) (kp' := kp) (f' := f9) (pl' := pl) (wr' := wr) (th' := 0) h hE⟩
set_option maxRecDepth 100000 in
theorem st_clearText {l : Launch} {G : zG} {ad : zAd} {d : Nat → Nat} {D : zDc} {M : zRd} {B : Nat} (hB : B < 90000000) (h : relA B D M) : crG l G ad d D M B yX5_clearText wsX5_clearText yX6_clearText wsX6_clearText := by
  obtain ⟨a, b, x, y1, y2, ya, tr, tv⟩ := ad
  obtain ⟨pp, ⟨sc, SS⟩, S9, E, tn, t9⟩ := D
  obtain ⟨⟨kn, sv⟩, ⟨s9, a9⟩, ⟨ln, tt⟩, ⟨tm, l9⟩, ⟨kp, f9⟩, ⟨pl, wr⟩, th⟩ := M
  obtain ⟨rfl, rfl, rfl⟩ := relA_split h
  obtain ⟨hk, hV, hT, hE, h60⟩ := relA_s h
  have hC := fun z => kC_clearText l G z a b x y1 y2 ya tr tv pp sc SS S9 E tn t9
  have hM := fun z => kM_clearText l G z d sc tn tm kp pl th wr s9 a9 l9 f9 t9 sv
  refine ⟨_, _, _, _, hC, ⟨rfl, rfl, (Nat.le_of_ble_eq_true rfl), (Nat.le_of_ble_eq_true rfl)⟩, hM, ⟨rfl, rfl, (Nat.le_of_ble_eq_true rfl), (Nat.le_of_ble_eq_true rfl)⟩, ?_⟩
  intro v D' r M' ⟨u1, h1, h2⟩ ⟨u2, h4, h5⟩
  subst h2
  subst h5
  exact ⟨h1.trans h4.symm, ⟨rfl, hk, relV_mono hV (Nat.le_add_right _ _), relT_mono hT (Nat.le_add_right _ _), hE, rfl, Nat.zero_le _⟩⟩
set_option maxRecDepth 100000 in
theorem st_firstError {l : Launch} {G : zG} {ad : zAd} {d : Nat → Nat} {D : zDc} {M : zRd} {B : Nat} (hB : B < 90000000) (h : relA B D M) : crG l G ad d D M B yX5_firstError wsX5_firstError yX6_firstError wsX6_firstError := by
  obtain ⟨a, b, x, y1, y2, ya, tr, tv⟩ := ad
  obtain ⟨pp, ⟨sc, SS⟩, S9, E, tn, t9⟩ := D
  obtain ⟨⟨kn, sv⟩, ⟨s9, a9⟩, ⟨ln, tt⟩, ⟨tm, l9⟩, ⟨kp, f9⟩, ⟨pl, wr⟩, th⟩ := M
  obtain ⟨rfl, rfl, rfl⟩ := relA_split h
  obtain ⟨hk, hV, hT, hE, h60⟩ := relA_s h
  have hC := fun z => kC_firstError l G z a b x y1 y2 ya tr tv pp sc SS S9 E tn t9 h60
  have hM := fun z => kM_firstError l G z d sc tn tm kp pl th wr s9 a9 l9 f9 t9 sv h60 trivial
  refine ⟨_, _, _, _, hC, ⟨rfl, rfl, (Nat.le_of_ble_eq_true rfl), (Nat.le_of_ble_eq_true rfl)⟩, hM, ⟨rfl, rfl, (Nat.le_of_ble_eq_true rfl), (Nat.le_of_ble_eq_true rfl)⟩, ?_⟩
  intro v D' r M' ⟨u1, h1, h2⟩ ⟨u2, h4, h5⟩
  subst h2
  subst h5
  have e := feP_one h1.2 h4.2.1
  exact ⟨by rw [h1.1, h4.1, e], relA_q (pp' := pp) (E' := E) (a' := a9) (tm' := u2.2.2.1) (l' := u2.2.2.2) (kp' := kp) (f' := f9) (pl' := u2.2.1.1) (wr' := u2.2.1.2) (th' := 0) h hE⟩
set_option maxRecDepth 100000 in
theorem st_leastStrength {l : Launch} {G : zG} {ad : zAd} {d : Nat → Nat} {D : zDc} {M : zRd} {B : Nat} (hB : B < 90000000) (h : relA B D M) : crG l G ad d D M B yX5_leastStrength wsX5_leastStrength yX6_leastStrength wsX6_leastStrength := by
  obtain ⟨a, b, x, y1, y2, ya, tr, tv⟩ := ad
  obtain ⟨pp, ⟨sc, SS⟩, S9, E, tn, t9⟩ := D
  obtain ⟨⟨kn, sv⟩, ⟨s9, a9⟩, ⟨ln, tt⟩, ⟨tm, l9⟩, ⟨kp, f9⟩, ⟨pl, wr⟩, th⟩ := M
  obtain ⟨rfl, rfl, rfl⟩ := relA_split h
  obtain ⟨hk, hV, hT, hE, h60⟩ := relA_s h
  have hoR := relQ_okR hT.1
  obtain ⟨ad, ha, hg2, hs2⟩ := relQ_ad hT.1
  have hC := fun z => kC_leastStrength l G z a b x y1 y2 ya tr tv pp sc SS S9 E tn t9 hE ad ha hg2
  have hM := fun z => kM_leastStrength l G z d sc tn tm kp pl th wr s9 a9 l9 f9 t9 sv ad ha hs2 hoR.1 (s9 3).toNatClampNeg hoR.2.2 hoR.2.1
  refine ⟨_, _, _, _, hC, ⟨rfl, rfl, (Nat.le_of_ble_eq_true rfl), (Nat.le_of_ble_eq_true rfl)⟩, hM, ⟨rfl, rfl, (Nat.le_of_ble_eq_true rfl), (Nat.le_of_ble_eq_true rfl)⟩, ?_⟩
  intro v D' r M' ⟨u1, h1, h2⟩ ⟨u2, h4, h5⟩
  subst h2
  subst h5
  exact ⟨h1.1.trans (least_rel hT.1 (by omega) rfl h4).symm, relA_q (pp' := pp) (E' := u1) (a' := u2.2.2) (tm' := u2.2.1) (l' := u2.1.2) (kp' := u2.1.1.2.2.1) (f' := u2.1.1.2.2.2) (pl' := pl) (wr' := wr) (th' := 0) h h1.2⟩
set_option maxRecDepth 100000 in
theorem st_refusalsToCome {l : Launch} {G : zG} {ad : zAd} {d : Nat → Nat} {D : zDc} {M : zRd} {B : Nat} (hB : B < 90000000) (h : relA B D M) : crG l G ad d D M B yX5_refusalsToCome wsX5_refusalsToCome yX6_refusalsToCome wsX6_refusalsToCome := by
  obtain ⟨a, b, x, y1, y2, ya, tr, tv⟩ := ad
  obtain ⟨pp, ⟨sc, SS⟩, S9, E, tn, t9⟩ := D
  obtain ⟨⟨kn, sv⟩, ⟨s9, a9⟩, ⟨ln, tt⟩, ⟨tm, l9⟩, ⟨kp, f9⟩, ⟨pl, wr⟩, th⟩ := M
  obtain ⟨rfl, rfl, rfl⟩ := relA_split h
  obtain ⟨hk, hV, hT, hE, h60⟩ := relA_s h
  have hoR := relQ_okR hT.1
  obtain ⟨ad, ha, hg2, hs2⟩ := relQ_ad hT.1
  have hC := fun z => kC_refusalsToCome l G z a b x y1 y2 ya tr tv pp sc SS S9 E tn t9 hE ad ha hg2
  have hM := fun z => kM_refusalsToCome l G z d sc tn tm kp pl th wr s9 a9 l9 f9 t9 sv ad ha (s9 3).toNatClampNeg hoR.2.2 (tc_tinv hT.1 (by omega) hg2 rfl)
  refine ⟨_, _, _, _, hC, ⟨rfl, rfl, (Nat.le_of_ble_eq_true rfl), (Nat.le_of_ble_eq_true rfl)⟩, hM, ⟨rfl, rfl, (Nat.le_of_ble_eq_true rfl), (Nat.le_of_ble_eq_true rfl)⟩, ?_⟩
  intro v D' r M' ⟨u1, h1, h2⟩ ⟨u2, h4, h5⟩
  subst h2
  subst h5
  exact ⟨tc_rel hT.1 (by omega) hg2 h1.1 h4, relA_q (pp' := pp) (E' := u1) (a' := u2.2.2) (tm' := u2.2.1) (l' := u2.1.2) (kp' := u2.1.1.2.2.1) (f' := u2.1.1.2.2.2) (pl' := pl) (wr' := wr) (th' := 0) h h1.2⟩
set_option maxRecDepth 100000 in
theorem st_digest {l : Launch} {G : zG} {ad : zAd} {d : Nat → Nat} {D : zDc} {M : zRd} {B : Nat} (hB : B < 90000000) (h : relA B D M) : crL l G ad d D M B yX5_digest wsX5_digest yX6_digest wsX6_digest := by
  obtain ⟨a, b, x, y1, y2, ya, tr, tv⟩ := ad
  obtain ⟨pp, ⟨sc, SS⟩, S9, E, tn, t9⟩ := D
  obtain ⟨⟨kn, sv⟩, ⟨s9, a9⟩, ⟨ln, tt⟩, ⟨tm, l9⟩, ⟨kp, f9⟩, ⟨pl, wr⟩, th⟩ := M
  obtain ⟨rfl, rfl, rfl⟩ := relA_split h
  obtain ⟨hk, hV, hT, hE, h60⟩ := relA_s h
  have hoR := relQ_okR hT.1
  obtain ⟨ad, ha, hg2, hs2⟩ := relQ_ad hT.1
  have hC := fun z => kC_digest l G z a b x y1 y2 ya tr tv pp sc SS S9 E tn t9 hE ad ha hg2
  have hM := fun z => kM_digest l G z d sc tn tm kp pl th wr s9 a9 l9 f9 t9 sv ad ha hs2 hoR.1 (s9 3).toNatClampNeg hoR.2.2 hoR.2.1 (tc_tinv hT.1 (by omega) hg2 rfl)
  refine ⟨_, _, _, _, hC, ⟨rfl, rfl, (Nat.le_of_ble_eq_true rfl), (Nat.le_of_ble_eq_true rfl)⟩, hM, ⟨rfl, rfl, (Nat.le_of_ble_eq_true rfl), (Nat.le_of_ble_eq_true rfl)⟩, ?_⟩
  intro v D' r M' ⟨u1, h1, h2⟩ ⟨u2, h4, h5⟩
  subst h2
  subst h5
  exact ⟨digest_rel (y := 0) (c := (s9 3).toNatClampNeg) hT.1 (by omega) hg2 rfl hT.2.2.1 h1.1 h1.2.1 h4.1 h4.2.1 h4.2.2, relA_q (pp' := pp) (E' := u1.2) (a' := u2.2.2.2) (tm' := u2.2.2.1) (l' := u2.2.1.2) (kp' := u2.2.1.1.2.2.1) (f' := u2.2.1.1.2.2.2) (pl' := pl) (wr' := wr) (th' := 0) h h1.2.2⟩
set_option maxRecDepth 100000 in
theorem st_hitShare {l : Launch} {G : zG} {ad : zAd} {d : Nat → Nat} {D : zDc} {M : zRd} {B : Nat} (hB : B < 90000000) (h : relA B D M) : crD l G ad d D M B yX5_hitShare wsX5_hitShare yX6_hitShare wsX6_hitShare := by
  obtain ⟨a, b, x, y1, y2, ya, tr, tv⟩ := ad
  obtain ⟨pp, ⟨sc, SS⟩, S9, E, tn, t9⟩ := D
  obtain ⟨⟨kn, sv⟩, ⟨s9, a9⟩, ⟨ln, tt⟩, ⟨tm, l9⟩, ⟨kp, f9⟩, ⟨pl, wr⟩, th⟩ := M
  obtain ⟨rfl, rfl, rfl⟩ := relA_split h
  obtain ⟨hk, hV, hT, hE, h60⟩ := relA_s h
  obtain ⟨r1, r2, r3, r4, r5⟩ := rel_q hT.1 (by omega)
  have hC := fun z => kC_hitShare l G z a b x y1 y2 ya tr tv pp sc SS S9 E tn t9
  have hM := fun z => kM_hitShare l G z d sc tn tm kp pl th wr s9 a9 l9 f9 t9 sv
  refine ⟨_, _, _, _, hC, ⟨rfl, rfl, (Nat.le_of_ble_eq_true rfl), (Nat.le_of_ble_eq_true rfl)⟩, hM, ⟨rfl, rfl, (Nat.le_of_ble_eq_true rfl), (Nat.le_of_ble_eq_true rfl)⟩, ?_⟩
  intro v D' r M' ⟨u1, h1, h2⟩ ⟨u2, h4, h5⟩
  subst h2
  subst h5
  refine ⟨⟨S9.1 8, S9.1 9, h1, ?_⟩, relA_q (pp' := pp) (E' := E) (a' := a9) (tm' := tm) (l' := l9) (kp' := kp) (f' := f9) (pl' := pl) (wr' := wr) (th' := 0) h hE⟩
  rw [r5, hT.1.2.2.2.2]
  exact h4
end ST
