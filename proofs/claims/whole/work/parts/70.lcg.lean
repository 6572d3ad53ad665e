section LCG
set_option maxRecDepth 100000 in
theorem lc_glare {p : Program} {l : Launch} {e : Env} {s : State} {m : MethodId} {below : List Frame} {meth : Method} {c : Code} {bs L : Nat} {xs : Nat → Int32} {G : zG} {A : Nat → Prop} {H : Heap} {locs : List Loc} {ls : Array Slot} {cells slots : Nat} {Q : State → Prop} (C0 : lwX p s m c bs L xs G A) {i : Nat} {ad : zAd} {q : Nat} {d : Nat → Nat} {D : zDc} {M : zRd} {ov : Nat → Int64} {B : Nat}
    (h : crG l G ad d D M B yX5_glare wsX5_glare yX6_glare wsX6_glare)
    (hl : lv_has ls 9 [(4, .int (nI i)), (3, .ref q), (2, .ref (d 0)), (1, .ref ad.2.2.1), (0, .ref bs)]) (hP : va_P G.1 vwCl ((wO G q ov ++ wCl G ad D) ++ wMd G d M) H) (hD : va_D A ((wO G q ov ++ wCl G ad D) ++ wMd G d M)) (hS : va_S A s.heap H locs) (hcl : cells + 1 ≤ 601024) (hsl : slots + 6 ≤ 7293034)
    (kk : ∀ (D' : zDc) (ov' : Nat → Int64) (M' : zRd) (H : Heap) (locs : List Loc) (ls : Array Slot), relA (B + 6200) D' M' → va_P G.1 vwCl ((wO G q ov' ++ wCl G ad D') ++ wMd G d M') H → va_D A ((wO G q ov' ++ wCl G ad D') ++ wMd G d M') → va_S A s.heap H locs → lv_has ls 9 [(4, .int (nI i)), (3, .ref q), (2, .ref (d 0)), (1, .ref ad.2.2.1), (0, .ref bs)] → W p l e room_1 s m #[Value.ref bs] below meth c H locs (cells + 1) (slots + 6) Q (F0 m 1392 ls [])) : W p l e room_1 s m #[Value.ref bs] below meth c H locs cells slots Q (F0 m 672 ls []) := by
  obtain ⟨hx, hb, hml, hown, hts, hX, hbl, hbA, hK, hZ, hN, hA, hL⟩ := C0
  obtain ⟨postc, postm, rc, rm, h1, hq, h2, hr, key⟩ := h
  refine lv_aload_n hx hb dL_law_672 rfl (lv_at hl 3 rfl) ?_
  refine z_calliL (va_runV (As := []) (rest := []) ⟨hx, hb, hml, hown, hts⟩ (zMi_up (wr := wO G q ov) (h1 H.size)) (cwV 0 hts gL_law_X5_glare rfl hq.1 hq.2.1 (by decide +kernel) ⟨hq.2.2.1, by have := hq.2.2.2; show 8 + (1 + 11) + rc.locals ≤ 434; omega⟩) (zV (ci := 5) (q0 := 1) hK (zP_left hP) (zD_left hD) rfl (show (wO G q ov ++ wCl G ad D)[1]? = some _ from wCl_0 G ad D)) rfl rfl hl.1 rfl (lv_room (Nat.le_of_ble_eq_true rfl)) dL_law_673 ⟨by show cells + 0 ≤ 601024; omega, by show slots + 0 ≤ 7293034; omega⟩) hP hD hS hA (fun v D1 H locs hw hP hD hS => ?_)
  refine lv_aload_n hx hb dL_law_676 rfl (lv_at hl 2 rfl) ?_
  refine z_calliR (va_runV (As := []) (rest := [.int v]) ⟨hx, hb, hml, hown, hts⟩ (h2 H.size) (cwV 0 hts gL_law_X6_glare rfl hr.1 hr.2.1 (by decide +kernel) ⟨hr.2.2.1, by have := hr.2.2.2; show 8 + (1 + 11) + rm.locals ≤ 434; omega⟩) (zV (ci := 6) (q0 := 0) hK (zP_right hP) (zD_right hD) rfl (wMd_0 G d M)) rfl rfl hl.1 rfl (lv_room (Nat.le_of_ble_eq_true rfl)) dL_law_677 ⟨by show cells + 0 ≤ 601024; omega, by show slots + 0 ≤ 7293034; omega⟩) hP hD hS hA (fun r M1 H locs hw2 hP hD hS => ?_)
  obtain ⟨k1, k3⟩ := key v D1 r M1 hw hw2
  refine lv_icmp_eq (tgt := 1392) hx hb dL_law_680 (by decide) (fun c1 => ?_) (fun c1 => absurd k1 c1)
  exact W.widen (by omega) (by omega) (kk D1 ov M1 _ _ _ k3 hP hD hS hl)
set_option maxRecDepth 100000 in
theorem lc_gain {p : Program} {l : Launch} {e : Env} {s : State} {m : MethodId} {below : List Frame} {meth : Method} {c : Code} {bs L : Nat} {xs : Nat → Int32} {G : zG} {A : Nat → Prop} {H : Heap} {locs : List Loc} {ls : Array Slot} {cells slots : Nat} {Q : State → Prop} (C0 : lwX p s m c bs L xs G A) {i : Nat} {ad : zAd} {q : Nat} {d : Nat → Nat} {D : zDc} {M : zRd} {ov : Nat → Int64} {B : Nat}
    (h : crG l G ad d D M B yX5_gain wsX5_gain yX6_gain wsX6_gain)
    (hl : lv_has ls 9 [(4, .int (nI i)), (3, .ref q), (2, .ref (d 0)), (1, .ref ad.2.2.1), (0, .ref bs)]) (hP : va_P G.1 vwCl ((wO G q ov ++ wCl G ad D) ++ wMd G d M) H) (hD : va_D A ((wO G q ov ++ wCl G ad D) ++ wMd G d M)) (hS : va_S A s.heap H locs) (hcl : cells + 1 ≤ 601024) (hsl : slots + 6 ≤ 7293034)
    (kk : ∀ (D' : zDc) (ov' : Nat → Int64) (M' : zRd) (H : Heap) (locs : List Loc) (ls : Array Slot), relA (B + 6200) D' M' → va_P G.1 vwCl ((wO G q ov' ++ wCl G ad D') ++ wMd G d M') H → va_D A ((wO G q ov' ++ wCl G ad D') ++ wMd G d M') → va_S A s.heap H locs → lv_has ls 9 [(4, .int (nI i)), (3, .ref q), (2, .ref (d 0)), (1, .ref ad.2.2.1), (0, .ref bs)] → W p l e room_1 s m #[Value.ref bs] below meth c H locs (cells + 1) (slots + 6) Q (F0 m 1392 ls [])) : W p l e room_1 s m #[Value.ref bs] below meth c H locs cells slots Q (F0 m 685 ls []) := by
  obtain ⟨hx, hb, hml, hown, hts, hX, hbl, hbA, hK, hZ, hN, hA, hL⟩ := C0
  obtain ⟨postc, postm, rc, rm, h1, hq, h2, hr, key⟩ := h
  refine lv_aload_n hx hb dL_law_685 rfl (lv_at hl 3 rfl) ?_
  refine z_calliL (va_runV (As := []) (rest := []) ⟨hx, hb, hml, hown, hts⟩ (zMi_up (wr := wO G q ov) (h1 H.size)) (cwV 0 hts gL_law_X5_gain rfl hq.1 hq.2.1 (by decide +kernel) ⟨hq.2.2.1, by have := hq.2.2.2; show 8 + (1 + 11) + rc.locals ≤ 434; omega⟩) (zV (ci := 5) (q0 := 1) hK (zP_left hP) (zD_left hD) rfl (show (wO G q ov ++ wCl G ad D)[1]? = some _ from wCl_0 G ad D)) rfl rfl hl.1 rfl (lv_room (Nat.le_of_ble_eq_true rfl)) dL_law_686 ⟨by show cells + 0 ≤ 601024; omega, by show slots + 0 ≤ 7293034; omega⟩) hP hD hS hA (fun v D1 H locs hw hP hD hS => ?_)
  refine lv_aload_n hx hb dL_law_689 rfl (lv_at hl 2 rfl) ?_
  refine z_calliR (va_runV (As := []) (rest := [.int v]) ⟨hx, hb, hml, hown, hts⟩ (h2 H.size) (cwV 0 hts gL_law_X6_gain rfl hr.1 hr.2.1 (by decide +kernel) ⟨hr.2.2.1, by have := hr.2.2.2; show 8 + (1 + 11) + rm.locals ≤ 434; omega⟩) (zV (ci := 6) (q0 := 0) hK (zP_right hP) (zD_right hD) rfl (wMd_0 G d M)) rfl rfl hl.1 rfl (lv_room (Nat.le_of_ble_eq_true rfl)) dL_law_690 ⟨by show cells + 0 ≤ 601024; omega, by show slots + 0 ≤ 7293034; omega⟩) hP hD hS hA (fun r M1 H locs hw2 hP hD hS => ?_)
  obtain ⟨k1, k3⟩ := key v D1 r M1 hw hw2
  refine lv_icmp_eq (tgt := 1392) hx hb dL_law_693 (by decide) (fun c1 => ?_) (fun c1 => absurd k1 c1)
  exact W.widen (by omega) (by omega) (kk D1 ov M1 _ _ _ k3 hP hD hS hl)
set_option maxRecDepth 100000 in
theorem lc_remembered {p : Program} {l : Launch} {e : Env} {s : State} {m : MethodId} {below : List Frame} {meth : Method} {c : Code} {bs L : Nat} {xs : Nat → Int32} {G : zG} {A : Nat → Prop} {H : Heap} {locs : List Loc} {ls : Array Slot} {cells slots : Nat} {Q : State → Prop} (C0 : lwX p s m c bs L xs G A) {i : Nat} {ad : zAd} {q : Nat} {d : Nat → Nat} {D : zDc} {M : zRd} {ov : Nat → Int64} {B : Nat}
    (h : crG l G ad d D M B yX5_remembered wsX5_remembered yX6_remembered wsX6_remembered)
    (hl : lv_has ls 9 [(4, .int (nI i)), (3, .ref q), (2, .ref (d 0)), (1, .ref ad.2.2.1), (0, .ref bs)]) (hP : va_P G.1 vwCl ((wO G q ov ++ wCl G ad D) ++ wMd G d M) H) (hD : va_D A ((wO G q ov ++ wCl G ad D) ++ wMd G d M)) (hS : va_S A s.heap H locs) (hcl : cells + 1 ≤ 601024) (hsl : slots + 6 ≤ 7293034)
    (kk : ∀ (D' : zDc) (ov' : Nat → Int64) (M' : zRd) (H : Heap) (locs : List Loc) (ls : Array Slot), relA (B + 6200) D' M' → va_P G.1 vwCl ((wO G q ov' ++ wCl G ad D') ++ wMd G d M') H → va_D A ((wO G q ov' ++ wCl G ad D') ++ wMd G d M') → va_S A s.heap H locs → lv_has ls 9 [(4, .int (nI i)), (3, .ref q), (2, .ref (d 0)), (1, .ref ad.2.2.1), (0, .ref bs)] → W p l e room_1 s m #[Value.ref bs] below meth c H locs (cells + 1) (slots + 6) Q (F0 m 1392 ls [])) : W p l e room_1 s m #[Value.ref bs] below meth c H locs cells slots Q (F0 m 810 ls []) := by
  obtain ⟨hx, hb, hml, hown, hts, hX, hbl, hbA, hK, hZ, hN, hA, hL⟩ := C0
  obtain ⟨postc, postm, rc, rm, h1, hq, h2, hr, key⟩ := h
  refine lv_aload_n hx hb dL_law_810 rfl (lv_at hl 3 rfl) ?_
  refine z_calliL (va_runV (As := []) (rest := []) ⟨hx, hb, hml, hown, hts⟩ (zMi_up (wr := wO G q ov) (h1 H.size)) (cwV 0 hts gL_law_X5_remembered rfl hq.1 hq.2.1 (by decide +kernel) ⟨hq.2.2.1, by have := hq.2.2.2; show 8 + (1 + 11) + rc.locals ≤ 434; omega⟩) (zV (ci := 5) (q0 := 1) hK (zP_left hP) (zD_left hD) rfl (show (wO G q ov ++ wCl G ad D)[1]? = some _ from wCl_0 G ad D)) rfl rfl hl.1 rfl (lv_room (Nat.le_of_ble_eq_true rfl)) dL_law_811 ⟨by show cells + 0 ≤ 601024; omega, by show slots + 0 ≤ 7293034; omega⟩) hP hD hS hA (fun v D1 H locs hw hP hD hS => ?_)
  refine lv_aload_n hx hb dL_law_814 rfl (lv_at hl 2 rfl) ?_
  refine z_calliR (va_runV (As := []) (rest := [.int v]) ⟨hx, hb, hml, hown, hts⟩ (h2 H.size) (cwV 0 hts gL_law_X6_remembered rfl hr.1 hr.2.1 (by decide +kernel) ⟨hr.2.2.1, by have := hr.2.2.2; show 8 + (1 + 11) + rm.locals ≤ 434; omega⟩) (zV (ci := 6) (q0 := 0) hK (zP_right hP) (zD_right hD) rfl (wMd_0 G d M)) rfl rfl hl.1 rfl (lv_room (Nat.le_of_ble_eq_true rfl)) dL_law_815 ⟨by show cells + 0 ≤ 601024; omega, by show slots + 0 ≤ 7293034; omega⟩) hP hD hS hA (fun r M1 H locs hw2 hP hD hS => ?_)
  obtain ⟨k1, k3⟩ := key v D1 r M1 hw hw2
  refine lv_icmp_eq (tgt := 1392) hx hb dL_law_818 (by decide) (fun c1 => ?_) (fun c1 => absurd k1 c1)
  exact W.widen (by omega) (by omega) (kk D1 ov M1 _ _ _ k3 hP hD hS hl)
set_option maxRecDepth 100000 in
theorem lc_holds {p : Program} {l : Launch} {e : Env} {s : State} {m : MethodId} {below : List Frame} {meth : Method} {c : Code} {bs L : Nat} {xs : Nat → Int32} {G : zG} {A : Nat → Prop} {H : Heap} {locs : List Loc} {ls : Array Slot} {cells slots : Nat} {Q : State → Prop} (C0 : lwX p s m c bs L xs G A) {i : Nat} {ad : zAd} {q : Nat} {d : Nat → Nat} {D : zDc} {M : zRd} {ov : Nat → Int64} {B : Nat}
    (h : crG l G ad d D M B yX5_holds wsX5_holds yX6_holds wsX6_holds)
    (hl : lv_has ls 9 [(4, .int (nI i)), (3, .ref q), (2, .ref (d 0)), (1, .ref ad.2.2.1), (0, .ref bs)]) (hP : va_P G.1 vwCl ((wO G q ov ++ wCl G ad D) ++ wMd G d M) H) (hD : va_D A ((wO G q ov ++ wCl G ad D) ++ wMd G d M)) (hS : va_S A s.heap H locs) (hcl : cells + 1 ≤ 601024) (hsl : slots + 6 ≤ 7293034)
    (kk : ∀ (D' : zDc) (ov' : Nat → Int64) (M' : zRd) (H : Heap) (locs : List Loc) (ls : Array Slot), relA (B + 6200) D' M' → va_P G.1 vwCl ((wO G q ov' ++ wCl G ad D') ++ wMd G d M') H → va_D A ((wO G q ov' ++ wCl G ad D') ++ wMd G d M') → va_S A s.heap H locs → lv_has ls 9 [(4, .int (nI i)), (3, .ref q), (2, .ref (d 0)), (1, .ref ad.2.2.1), (0, .ref bs)] → W p l e room_1 s m #[Value.ref bs] below meth c H locs (cells + 1) (slots + 6) Q (F0 m 1392 ls [])) : W p l e room_1 s m #[Value.ref bs] below meth c H locs cells slots Q (F0 m 823 ls []) := by
  obtain ⟨hx, hb, hml, hown, hts, hX, hbl, hbA, hK, hZ, hN, hA, hL⟩ := C0
  obtain ⟨postc, postm, rc, rm, h1, hq, h2, hr, key⟩ := h
  refine lv_aload_n hx hb dL_law_823 rfl (lv_at hl 3 rfl) ?_
  refine z_calliL (va_runV (As := []) (rest := []) ⟨hx, hb, hml, hown, hts⟩ (zMi_up (wr := wO G q ov) (h1 H.size)) (cwV 0 hts gL_law_X5_holds rfl hq.1 hq.2.1 (by decide +kernel) ⟨hq.2.2.1, by have := hq.2.2.2; show 8 + (1 + 11) + rc.locals ≤ 434; omega⟩) (zV (ci := 5) (q0 := 1) hK (zP_left hP) (zD_left hD) rfl (show (wO G q ov ++ wCl G ad D)[1]? = some _ from wCl_0 G ad D)) rfl rfl hl.1 rfl (lv_room (Nat.le_of_ble_eq_true rfl)) dL_law_824 ⟨by show cells + 0 ≤ 601024; omega, by show slots + 0 ≤ 7293034; omega⟩) hP hD hS hA (fun v D1 H locs hw hP hD hS => ?_)
  refine lv_aload_n hx hb dL_law_827 rfl (lv_at hl 2 rfl) ?_
  refine z_calliR (va_runV (As := []) (rest := [.int v]) ⟨hx, hb, hml, hown, hts⟩ (h2 H.size) (cwV 0 hts gL_law_X6_holds rfl hr.1 hr.2.1 (by decide +kernel) ⟨hr.2.2.1, by have := hr.2.2.2; show 8 + (1 + 11) + rm.locals ≤ 434; omega⟩) (zV (ci := 6) (q0 := 0) hK (zP_right hP) (zD_right hD) rfl (wMd_0 G d M)) rfl rfl hl.1 rfl (lv_room (Nat.le_of_ble_eq_true rfl)) dL_law_828 ⟨by show cells + 0 ≤ 601024; omega, by show slots + 0 ≤ 7293034; omega⟩) hP hD hS hA (fun r M1 H locs hw2 hP hD hS => ?_)
  obtain ⟨k1, k3⟩ := key v D1 r M1 hw hw2
  refine lv_icmp_eq (tgt := 1392) hx hb dL_law_831 (by decide) (fun c1 => ?_) (fun c1 => absurd k1 c1)
  exact W.widen (by omega) (by omega) (kk D1 ov M1 _ _ _ k3 hP hD hS hl)
set_option maxRecDepth 100000 in
theorem lc_presses {p : Program} {l : Launch} {e : Env} {s : State} {m : MethodId} {below : List Frame} {meth : Method} {c : Code} {bs L : Nat} {xs : Nat → Int32} {G : zG} {A : Nat → Prop} {H : Heap} {locs : List Loc} {ls : Array Slot} {cells slots : Nat} {Q : State → Prop} (C0 : lwX p s m c bs L xs G A) {i : Nat} {ad : zAd} {q : Nat} {d : Nat → Nat} {D : zDc} {M : zRd} {ov : Nat → Int64} {B : Nat}
    (h : crG l G ad d D M B yX5_presses wsX5_presses yX6_presses wsX6_presses)
    (hl : lv_has ls 9 [(4, .int (nI i)), (3, .ref q), (2, .ref (d 0)), (1, .ref ad.2.2.1), (0, .ref bs)]) (hP : va_P G.1 vwCl ((wO G q ov ++ wCl G ad D) ++ wMd G d M) H) (hD : va_D A ((wO G q ov ++ wCl G ad D) ++ wMd G d M)) (hS : va_S A s.heap H locs) (hcl : cells + 1 ≤ 601024) (hsl : slots + 6 ≤ 7293034)
    (kk : ∀ (D' : zDc) (ov' : Nat → Int64) (M' : zRd) (H : Heap) (locs : List Loc) (ls : Array Slot), relA (B + 6200) D' M' → va_P G.1 vwCl ((wO G q ov' ++ wCl G ad D') ++ wMd G d M') H → va_D A ((wO G q ov' ++ wCl G ad D') ++ wMd G d M') → va_S A s.heap H locs → lv_has ls 9 [(4, .int (nI i)), (3, .ref q), (2, .ref (d 0)), (1, .ref ad.2.2.1), (0, .ref bs)] → W p l e room_1 s m #[Value.ref bs] below meth c H locs (cells + 1) (slots + 6) Q (F0 m 1392 ls [])) : W p l e room_1 s m #[Value.ref bs] below meth c H locs cells slots Q (F0 m 836 ls []) := by
  obtain ⟨hx, hb, hml, hown, hts, hX, hbl, hbA, hK, hZ, hN, hA, hL⟩ := C0
  obtain ⟨postc, postm, rc, rm, h1, hq, h2, hr, key⟩ := h
  refine lv_aload_n hx hb dL_law_836 rfl (lv_at hl 3 rfl) ?_
  refine z_calliL (va_runV (As := []) (rest := []) ⟨hx, hb, hml, hown, hts⟩ (zMi_up (wr := wO G q ov) (h1 H.size)) (cwV 0 hts gL_law_X5_presses rfl hq.1 hq.2.1 (by decide +kernel) ⟨hq.2.2.1, by have := hq.2.2.2; show 8 + (1 + 11) + rc.locals ≤ 434; omega⟩) (zV (ci := 5) (q0 := 1) hK (zP_left hP) (zD_left hD) rfl (show (wO G q ov ++ wCl G ad D)[1]? = some _ from wCl_0 G ad D)) rfl rfl hl.1 rfl (lv_room (Nat.le_of_ble_eq_true rfl)) dL_law_837 ⟨by show cells + 0 ≤ 601024; omega, by show slots + 0 ≤ 7293034; omega⟩) hP hD hS hA (fun v D1 H locs hw hP hD hS => ?_)
  refine lv_aload_n hx hb dL_law_840 rfl (lv_at hl 2 rfl) ?_
  refine z_calliR (va_runV (As := []) (rest := [.int v]) ⟨hx, hb, hml, hown, hts⟩ (h2 H.size) (cwV 0 hts gL_law_X6_presses rfl hr.1 hr.2.1 (by decide +kernel) ⟨hr.2.2.1, by have := hr.2.2.2; show 8 + (1 + 11) + rm.locals ≤ 434; omega⟩) (zV (ci := 6) (q0 := 0) hK (zP_right hP) (zD_right hD) rfl (wMd_0 G d M)) rfl rfl hl.1 rfl (lv_room (Nat.le_of_ble_eq_true rfl)) dL_law_841 ⟨by show cells + 0 ≤ 601024; omega, by show slots + 0 ≤ 7293034; omega⟩) hP hD hS hA (fun r M1 H locs hw2 hP hD hS => ?_)
  obtain ⟨k1, k3⟩ := key v D1 r M1 hw hw2
  refine lv_icmp_eq (tgt := 1392) hx hb dL_law_844 (by decide) (fun c1 => ?_) (fun c1 => absurd k1 c1)
  exact W.widen (by omega) (by omega) (kk D1 ov M1 _ _ _ k3 hP hD hS hl)
set_option maxRecDepth 100000 in
theorem lc_row {p : Program} {l : Launch} {e : Env} {s : State} {m : MethodId} {below : List Frame} {meth : Method} {c : Code} {bs L : Nat} {xs : Nat → Int32} {G : zG} {A : Nat → Prop} {H : Heap} {locs : List Loc} {ls : Array Slot} {cells slots : Nat} {Q : State → Prop} (C0 : lwX p s m c bs L xs G A) {i : Nat} {ad : zAd} {q : Nat} {d : Nat → Nat} {D : zDc} {M : zRd} {ov : Nat → Int64} {B : Nat}
    (h : crG l G ad d D M B yX5_row wsX5_row yX6_row wsX6_row)
    (hl : lv_has ls 9 [(4, .int (nI i)), (3, .ref q), (2, .ref (d 0)), (1, .ref ad.2.2.1), (0, .ref bs)]) (hP : va_P G.1 vwCl ((wO G q ov ++ wCl G ad D) ++ wMd G d M) H) (hD : va_D A ((wO G q ov ++ wCl G ad D) ++ wMd G d M)) (hS : va_S A s.heap H locs) (hcl : cells + 1 ≤ 601024) (hsl : slots + 6 ≤ 7293034)
    (kk : ∀ (D' : zDc) (ov' : Nat → Int64) (M' : zRd) (H : Heap) (locs : List Loc) (ls : Array Slot), relA (B + 6200) D' M' → va_P G.1 vwCl ((wO G q ov' ++ wCl G ad D') ++ wMd G d M') H → va_D A ((wO G q ov' ++ wCl G ad D') ++ wMd G d M') → va_S A s.heap H locs → lv_has ls 9 [(4, .int (nI i)), (3, .ref q), (2, .ref (d 0)), (1, .ref ad.2.2.1), (0, .ref bs)] → W p l e room_1 s m #[Value.ref bs] below meth c H locs (cells + 1) (slots + 6) Q (F0 m 1392 ls [])) : W p l e room_1 s m #[Value.ref bs] below meth c H locs cells slots Q (F0 m 905 ls []) := by
  obtain ⟨hx, hb, hml, hown, hts, hX, hbl, hbA, hK, hZ, hN, hA, hL⟩ := C0
  obtain ⟨postc, postm, rc, rm, h1, hq, h2, hr, key⟩ := h
  refine lv_aload_n hx hb dL_law_905 rfl (lv_at hl 3 rfl) ?_
  refine z_calliL (va_runV (As := []) (rest := []) ⟨hx, hb, hml, hown, hts⟩ (zMi_up (wr := wO G q ov) (h1 H.size)) (cwV 0 hts gL_law_X5_row rfl hq.1 hq.2.1 (by decide +kernel) ⟨hq.2.2.1, by have := hq.2.2.2; show 8 + (1 + 11) + rc.locals ≤ 434; omega⟩) (zV (ci := 5) (q0 := 1) hK (zP_left hP) (zD_left hD) rfl (show (wO G q ov ++ wCl G ad D)[1]? = some _ from wCl_0 G ad D)) rfl rfl hl.1 rfl (lv_room (Nat.le_of_ble_eq_true rfl)) dL_law_906 ⟨by show cells + 0 ≤ 601024; omega, by show slots + 0 ≤ 7293034; omega⟩) hP hD hS hA (fun v D1 H locs hw hP hD hS => ?_)
  refine lv_aload_n hx hb dL_law_909 rfl (lv_at hl 2 rfl) ?_
  refine z_calliR (va_runV (As := []) (rest := [.int v]) ⟨hx, hb, hml, hown, hts⟩ (h2 H.size) (cwV 0 hts gL_law_X6_row rfl hr.1 hr.2.1 (by decide +kernel) ⟨hr.2.2.1, by have := hr.2.2.2; show 8 + (1 + 11) + rm.locals ≤ 434; omega⟩) (zV (ci := 6) (q0 := 0) hK (zP_right hP) (zD_right hD) rfl (wMd_0 G d M)) rfl rfl hl.1 rfl (lv_room (Nat.le_of_ble_eq_true rfl)) dL_law_910 ⟨by show cells + 0 ≤ 601024; omega, by show slots + 0 ≤ 7293034; omega⟩) hP hD hS hA (fun r M1 H locs hw2 hP hD hS => ?_)
  obtain ⟨k1, k3⟩ := key v D1 r M1 hw hw2
  refine lv_icmp_eq (tgt := 1392) hx hb dL_law_913 (by decide) (fun c1 => ?_) (fun c1 => absurd k1 c1)
  exact W.widen (by omega) (by omega) (kk D1 ov M1 _ _ _ k3 hP hD hS hl)
set_option maxRecDepth 100000 in
theorem lc_received {p : Program} {l : Launch} {e : Env} {s : State} {m : MethodId} {below : List Frame} {meth : Method} {c : Code} {bs L : Nat} {xs : Nat → Int32} {G : zG} {A : Nat → Prop} {H : Heap} {locs : List Loc} {ls : Array Slot} {cells slots : Nat} {Q : State → Prop} (C0 : lwX p s m c bs L xs G A) {i : Nat} {ad : zAd} {q : Nat} {d : Nat → Nat} {D : zDc} {M : zRd} {ov : Nat → Int64} {B : Nat}
    (h : crG l G ad d D M B yX5_received wsX5_received yX6_received wsX6_received)
    (hl : lv_has ls 9 [(4, .int (nI i)), (3, .ref q), (2, .ref (d 0)), (1, .ref ad.2.2.1), (0, .ref bs)]) (hP : va_P G.1 vwCl ((wO G q ov ++ wCl G ad D) ++ wMd G d M) H) (hD : va_D A ((wO G q ov ++ wCl G ad D) ++ wMd G d M)) (hS : va_S A s.heap H locs) (hcl : cells + 1 ≤ 601024) (hsl : slots + 6 ≤ 7293034)
    (kk : ∀ (D' : zDc) (ov' : Nat → Int64) (M' : zRd) (H : Heap) (locs : List Loc) (ls : Array Slot), relA (B + 6200) D' M' → va_P G.1 vwCl ((wO G q ov' ++ wCl G ad D') ++ wMd G d M') H → va_D A ((wO G q ov' ++ wCl G ad D') ++ wMd G d M') → va_S A s.heap H locs → lv_has ls 9 [(4, .int (nI i)), (3, .ref q), (2, .ref (d 0)), (1, .ref ad.2.2.1), (0, .ref bs)] → W p l e room_1 s m #[Value.ref bs] below meth c H locs (cells + 1) (slots + 6) Q (F0 m 1392 ls [])) : W p l e room_1 s m #[Value.ref bs] below meth c H locs cells slots Q (F0 m 918 ls []) := by
  obtain ⟨hx, hb, hml, hown, hts, hX, hbl, hbA, hK, hZ, hN, hA, hL⟩ := C0
  obtain ⟨postc, postm, rc, rm, h1, hq, h2, hr, key⟩ := h
  refine lv_aload_n hx hb dL_law_918 rfl (lv_at hl 3 rfl) ?_
  refine z_calliL (va_runV (As := []) (rest := []) ⟨hx, hb, hml, hown, hts⟩ (zMi_up (wr := wO G q ov) (h1 H.size)) (cwV 0 hts gL_law_X5_received rfl hq.1 hq.2.1 (by decide +kernel) ⟨hq.2.2.1, by have := hq.2.2.2; show 8 + (1 + 11) + rc.locals ≤ 434; omega⟩) (zV (ci := 5) (q0 := 1) hK (zP_left hP) (zD_left hD) rfl (show (wO G q ov ++ wCl G ad D)[1]? = some _ from wCl_0 G ad D)) rfl rfl hl.1 rfl (lv_room (Nat.le_of_ble_eq_true rfl)) dL_law_919 ⟨by show cells + 0 ≤ 601024; omega, by show slots + 0 ≤ 7293034; omega⟩) hP hD hS hA (fun v D1 H locs hw hP hD hS => ?_)
  refine lv_aload_n hx hb dL_law_922 rfl (lv_at hl 2 rfl) ?_
  refine z_calliR (va_runV (As := []) (rest := [.int v]) ⟨hx, hb, hml, hown, hts⟩ (h2 H.size) (cwV 0 hts gL_law_X6_received rfl hr.1 hr.2.1 (by decide +kernel) ⟨hr.2.2.1, by have := hr.2.2.2; show 8 + (1 + 11) + rm.locals ≤ 434; omega⟩) (zV (ci := 6) (q0 := 0) hK (zP_right hP) (zD_right hD) rfl (wMd_0 G d M)) rfl rfl hl.1 rfl (lv_room (Nat.le_of_ble_eq_true rfl)) dL_law_923 ⟨by show cells + 0 ≤ 601024; omega, by show slots + 0 ≤ 7293034; omega⟩) hP hD hS hA (fun r M1 H locs hw2 hP hD hS => ?_)
  obtain ⟨k1, k3⟩ := key v D1 r M1 hw hw2
  refine lv_icmp_eq (tgt := 1392) hx hb dL_law_926 (by decide) (fun c1 => ?_) (fun c1 => absurd k1 c1)
  exact W.widen (by omega) (by omega) (kk D1 ov M1 _ _ _ k3 hP hD hS hl)
set_option maxRecDepth 100000 in
theorem lc_leastStrength {p : Program} {l : Launch} {e : Env} {s : State} {m : MethodId} {below : List Frame} {meth : Method} {c : Code} {bs L : Nat} {xs : Nat → Int32} {G : zG} {A : Nat → Prop} {H : Heap} {locs : List Loc} {ls : Array Slot} {cells slots : Nat} {Q : State → Prop} (C0 : lwX p s m c bs L xs G A) {i : Nat} {ad : zAd} {q : Nat} {d : Nat → Nat} {D : zDc} {M : zRd} {ov : Nat → Int64} {B : Nat}
    (h : crG l G ad d D M B yX5_leastStrength wsX5_leastStrength yX6_leastStrength wsX6_leastStrength)
    (hl : lv_has ls 9 [(4, .int (nI i)), (3, .ref q), (2, .ref (d 0)), (1, .ref ad.2.2.1), (0, .ref bs)]) (hP : va_P G.1 vwCl ((wO G q ov ++ wCl G ad D) ++ wMd G d M) H) (hD : va_D A ((wO G q ov ++ wCl G ad D) ++ wMd G d M)) (hS : va_S A s.heap H locs) (hcl : cells + 1 ≤ 601024) (hsl : slots + 6 ≤ 7293034)
    (kk : ∀ (D' : zDc) (ov' : Nat → Int64) (M' : zRd) (H : Heap) (locs : List Loc) (ls : Array Slot), relA (B + 6200) D' M' → va_P G.1 vwCl ((wO G q ov' ++ wCl G ad D') ++ wMd G d M') H → va_D A ((wO G q ov' ++ wCl G ad D') ++ wMd G d M') → va_S A s.heap H locs → lv_has ls 9 [(4, .int (nI i)), (3, .ref q), (2, .ref (d 0)), (1, .ref ad.2.2.1), (0, .ref bs)] → W p l e room_1 s m #[Value.ref bs] below meth c H locs (cells + 1) (slots + 6) Q (F0 m 1392 ls [])) : W p l e room_1 s m #[Value.ref bs] below meth c H locs cells slots Q (F0 m 1156 ls []) := by
  obtain ⟨hx, hb, hml, hown, hts, hX, hbl, hbA, hK, hZ, hN, hA, hL⟩ := C0
  obtain ⟨postc, postm, rc, rm, h1, hq, h2, hr, key⟩ := h
  refine lv_aload_n hx hb dL_law_1156 rfl (lv_at hl 3 rfl) ?_
  refine z_calliL (va_runV (As := []) (rest := []) ⟨hx, hb, hml, hown, hts⟩ (zMi_up (wr := wO G q ov) (h1 H.size)) (cwV 0 hts gL_law_X5_leastStrength rfl hq.1 hq.2.1 (by decide +kernel) ⟨hq.2.2.1, by have := hq.2.2.2; show 8 + (2 + 11) + rc.locals ≤ 434; omega⟩) (zV (ci := 5) (q0 := 1) hK (zP_left hP) (zD_left hD) rfl (show (wO G q ov ++ wCl G ad D)[1]? = some _ from wCl_0 G ad D)) rfl rfl hl.1 rfl (lv_room (Nat.le_of_ble_eq_true rfl)) dL_law_1157 ⟨by show cells + 0 ≤ 601024; omega, by show slots + 0 ≤ 7293034; omega⟩) hP hD hS hA (fun v D1 H locs hw hP hD hS => ?_)
  refine lv_aload_n hx hb dL_law_1160 rfl (lv_at hl 2 rfl) ?_
  refine z_calliR (va_runV (As := []) (rest := [.int v]) ⟨hx, hb, hml, hown, hts⟩ (h2 H.size) (cwV 0 hts gL_law_X6_leastStrength rfl hr.1 hr.2.1 (by decide +kernel) ⟨hr.2.2.1, by have := hr.2.2.2; show 8 + (1 + 11) + rm.locals ≤ 434; omega⟩) (zV (ci := 6) (q0 := 0) hK (zP_right hP) (zD_right hD) rfl (wMd_0 G d M)) rfl rfl hl.1 rfl (lv_room (Nat.le_of_ble_eq_true rfl)) dL_law_1161 ⟨by show cells + 0 ≤ 601024; omega, by show slots + 0 ≤ 7293034; omega⟩) hP hD hS hA (fun r M1 H locs hw2 hP hD hS => ?_)
  obtain ⟨k1, k3⟩ := key v D1 r M1 hw hw2
  refine lv_icmp_eq (tgt := 1392) hx hb dL_law_1164 (by decide) (fun c1 => ?_) (fun c1 => absurd k1 c1)
  exact W.widen (by omega) (by omega) (kk D1 ov M1 _ _ _ k3 hP hD hS hl)
set_option maxRecDepth 100000 in
theorem lc_refusalsToCome {p : Program} {l : Launch} {e : Env} {s : State} {m : MethodId} {below : List Frame} {meth : Method} {c : Code} {bs L : Nat} {xs : Nat → Int32} {G : zG} {A : Nat → Prop} {H : Heap} {locs : List Loc} {ls : Array Slot} {cells slots : Nat} {Q : State → Prop} (C0 : lwX p s m c bs L xs G A) {i : Nat} {ad : zAd} {q : Nat} {d : Nat → Nat} {D : zDc} {M : zRd} {ov : Nat → Int64} {B : Nat}
    (h : crG l G ad d D M B yX5_refusalsToCome wsX5_refusalsToCome yX6_refusalsToCome wsX6_refusalsToCome)
    (hl : lv_has ls 9 [(4, .int (nI i)), (3, .ref q), (2, .ref (d 0)), (1, .ref ad.2.2.1), (0, .ref bs)]) (hP : va_P G.1 vwCl ((wO G q ov ++ wCl G ad D) ++ wMd G d M) H) (hD : va_D A ((wO G q ov ++ wCl G ad D) ++ wMd G d M)) (hS : va_S A s.heap H locs) (hcl : cells + 1 ≤ 601024) (hsl : slots + 6 ≤ 7293034)
    (kk : ∀ (D' : zDc) (ov' : Nat → Int64) (M' : zRd) (H : Heap) (locs : List Loc) (ls : Array Slot), relA (B + 6200) D' M' → va_P G.1 vwCl ((wO G q ov' ++ wCl G ad D') ++ wMd G d M') H → va_D A ((wO G q ov' ++ wCl G ad D') ++ wMd G d M') → va_S A s.heap H locs → lv_has ls 9 [(4, .int (nI i)), (3, .ref q), (2, .ref (d 0)), (1, .ref ad.2.2.1), (0, .ref bs)] → W p l e room_1 s m #[Value.ref bs] below meth c H locs (cells + 1) (slots + 6) Q (F0 m 1392 ls [])) : W p l e room_1 s m #[Value.ref bs] below meth c H locs cells slots Q (F0 m 1169 ls []) := by
  obtain ⟨hx, hb, hml, hown, hts, hX, hbl, hbA, hK, hZ, hN, hA, hL⟩ := C0
  obtain ⟨postc, postm, rc, rm, h1, hq, h2, hr, key⟩ := h
  refine lv_aload_n hx hb dL_law_1169 rfl (lv_at hl 3 rfl) ?_
  refine z_calliL (va_runV (As := []) (rest := []) ⟨hx, hb, hml, hown, hts⟩ (zMi_up (wr := wO G q ov) (h1 H.size)) (cwV 0 hts gL_law_X5_refusalsToCome rfl hq.1 hq.2.1 (by decide +kernel) ⟨hq.2.2.1, by have := hq.2.2.2; show 8 + (3 + 11) + rc.locals ≤ 434; omega⟩) (zV (ci := 5) (q0 := 1) hK (zP_left hP) (zD_left hD) rfl (show (wO G q ov ++ wCl G ad D)[1]? = some _ from wCl_0 G ad D)) rfl rfl hl.1 rfl (lv_room (Nat.le_of_ble_eq_true rfl)) dL_law_1170 ⟨by show cells + 0 ≤ 601024; omega, by show slots + 0 ≤ 7293034; omega⟩) hP hD hS hA (fun v D1 H locs hw hP hD hS => ?_)
  refine lv_aload_n hx hb dL_law_1173 rfl (lv_at hl 2 rfl) ?_
  refine z_calliR (va_runV (As := []) (rest := [.int v]) ⟨hx, hb, hml, hown, hts⟩ (h2 H.size) (cwV 0 hts gL_law_X6_refusalsToCome rfl hr.1 hr.2.1 (by decide +kernel) ⟨hr.2.2.1, by have := hr.2.2.2; show 8 + (1 + 11) + rm.locals ≤ 434; omega⟩) (zV (ci := 6) (q0 := 0) hK (zP_right hP) (zD_right hD) rfl (wMd_0 G d M)) rfl rfl hl.1 rfl (lv_room (Nat.le_of_ble_eq_true rfl)) dL_law_1174 ⟨by show cells + 0 ≤ 601024; omega, by show slots + 0 ≤ 7293034; omega⟩) hP hD hS hA (fun r M1 H locs hw2 hP hD hS => ?_)
  obtain ⟨k1, k3⟩ := key v D1 r M1 hw hw2
  refine lv_icmp_eq (tgt := 1392) hx hb dL_law_1177 (by decide) (fun c1 => ?_) (fun c1 => absurd k1 c1)
  exact W.widen (by omega) (by omega) (kk D1 ov M1 _ _ _ k3 hP hD hS hl)
set_option maxRecDepth 100000 in
theorem lc_ticksToForget {p : Program} {l : Launch} {e : Env} {s : State} {m : MethodId} {below : List Frame} {meth : Method} {c : Code} {bs L : Nat} {xs : Nat → Int32} {G : zG} {A : Nat → Prop} {H : Heap} {locs : List Loc} {ls : Array Slot} {cells slots : Nat} {Q : State → Prop} (C0 : lwX p s m c bs L xs G A) {i : Nat} {ad : zAd} {q : Nat} {d : Nat → Nat} {D : zDc} {M : zRd} {ov : Nat → Int64} {B : Nat}
    (h : crG l G ad d D M B yX5_ticksToForget wsX5_ticksToForget yX6_ticksToForget wsX6_ticksToForget)
    (hl : lv_has ls 9 [(4, .int (nI i)), (3, .ref q), (2, .ref (d 0)), (1, .ref ad.2.2.1), (0, .ref bs)]) (hP : va_P G.1 vwCl ((wO G q ov ++ wCl G ad D) ++ wMd G d M) H) (hD : va_D A ((wO G q ov ++ wCl G ad D) ++ wMd G d M)) (hS : va_S A s.heap H locs) (hcl : cells + 1 ≤ 601024) (hsl : slots + 6 ≤ 7293034)
    (kk : ∀ (D' : zDc) (ov' : Nat → Int64) (M' : zRd) (H : Heap) (locs : List Loc) (ls : Array Slot), relA (B + 6200) D' M' → va_P G.1 vwCl ((wO G q ov' ++ wCl G ad D') ++ wMd G d M') H → va_D A ((wO G q ov' ++ wCl G ad D') ++ wMd G d M') → va_S A s.heap H locs → lv_has ls 9 [(4, .int (nI i)), (3, .ref q), (2, .ref (d 0)), (1, .ref ad.2.2.1), (0, .ref bs)] → W p l e room_1 s m #[Value.ref bs] below meth c H locs (cells + 1) (slots + 6) Q (F0 m 1392 ls [])) : W p l e room_1 s m #[Value.ref bs] below meth c H locs cells slots Q (F0 m 1182 ls []) := by
  obtain ⟨hx, hb, hml, hown, hts, hX, hbl, hbA, hK, hZ, hN, hA, hL⟩ := C0
  obtain ⟨postc, postm, rc, rm, h1, hq, h2, hr, key⟩ := h
  refine lv_aload_n hx hb dL_law_1182 rfl (lv_at hl 3 rfl) ?_
  refine z_calliL (va_runV (As := []) (rest := []) ⟨hx, hb, hml, hown, hts⟩ (zMi_up (wr := wO G q ov) (h1 H.size)) (cwV 0 hts gL_law_X5_ticksToForget rfl hq.1 hq.2.1 (by decide +kernel) ⟨hq.2.2.1, by have := hq.2.2.2; show 8 + (1 + 11) + rc.locals ≤ 434; omega⟩) (zV (ci := 5) (q0 := 1) hK (zP_left hP) (zD_left hD) rfl (show (wO G q ov ++ wCl G ad D)[1]? = some _ from wCl_0 G ad D)) rfl rfl hl.1 rfl (lv_room (Nat.le_of_ble_eq_true rfl)) dL_law_1183 ⟨by show cells + 0 ≤ 601024; omega, by show slots + 0 ≤ 7293034; omega⟩) hP hD hS hA (fun v D1 H locs hw hP hD hS => ?_)
  refine lv_aload_n hx hb dL_law_1186 rfl (lv_at hl 2 rfl) ?_
  refine z_calliR (va_runV (As := []) (rest := [.int v]) ⟨hx, hb, hml, hown, hts⟩ (h2 H.size) (cwV 0 hts gL_law_X6_ticksToForget rfl hr.1 hr.2.1 (by decide +kernel) ⟨hr.2.2.1, by have := hr.2.2.2; show 8 + (1 + 11) + rm.locals ≤ 434; omega⟩) (zV (ci := 6) (q0 := 0) hK (zP_right hP) (zD_right hD) rfl (wMd_0 G d M)) rfl rfl hl.1 rfl (lv_room (Nat.le_of_ble_eq_true rfl)) dL_law_1187 ⟨by show cells + 0 ≤ 601024; omega, by show slots + 0 ≤ 7293034; omega⟩) hP hD hS hA (fun r M1 H locs hw2 hP hD hS => ?_)
  obtain ⟨k1, k3⟩ := key v D1 r M1 hw hw2
  refine lv_icmp_eq (tgt := 1392) hx hb dL_law_1190 (by decide) (fun c1 => ?_) (fun c1 => absurd k1 c1)
  exact W.widen (by omega) (by omega) (kk D1 ov M1 _ _ _ k3 hP hD hS hl)
set_option maxRecDepth 100000 in
theorem lc_clearText {p : Program} {l : Launch} {e : Env} {s : State} {m : MethodId} {below : List Frame} {meth : Method} {c : Code} {bs L : Nat} {xs : Nat → Int32} {G : zG} {A : Nat → Prop} {H : Heap} {locs : List Loc} {ls : Array Slot} {cells slots : Nat} {Q : State → Prop} (C0 : lwX p s m c bs L xs G A) {i : Nat} {ad : zAd} {q : Nat} {d : Nat → Nat} {D : zDc} {M : zRd} {ov : Nat → Int64} {B : Nat}
    (h : crG l G ad d D M B yX5_clearText wsX5_clearText yX6_clearText wsX6_clearText)
    (hl : lv_has ls 9 [(4, .int (nI i)), (3, .ref q), (2, .ref (d 0)), (1, .ref ad.2.2.1), (0, .ref bs)]) (hP : va_P G.1 vwCl ((wO G q ov ++ wCl G ad D) ++ wMd G d M) H) (hD : va_D A ((wO G q ov ++ wCl G ad D) ++ wMd G d M)) (hS : va_S A s.heap H locs) (hcl : cells + 1 ≤ 601024) (hsl : slots + 6 ≤ 7293034)
    (kk : ∀ (D' : zDc) (ov' : Nat → Int64) (M' : zRd) (H : Heap) (locs : List Loc) (ls : Array Slot), relA (B + 6200) D' M' → va_P G.1 vwCl ((wO G q ov' ++ wCl G ad D') ++ wMd G d M') H → va_D A ((wO G q ov' ++ wCl G ad D') ++ wMd G d M') → va_S A s.heap H locs → lv_has ls 9 [(4, .int (nI i)), (3, .ref q), (2, .ref (d 0)), (1, .ref ad.2.2.1), (0, .ref bs)] → W p l e room_1 s m #[Value.ref bs] below meth c H locs (cells + 1) (slots + 6) Q (F0 m 1392 ls [])) : W p l e room_1 s m #[Value.ref bs] below meth c H locs cells slots Q (F0 m 1251 ls []) := by
  obtain ⟨hx, hb, hml, hown, hts, hX, hbl, hbA, hK, hZ, hN, hA, hL⟩ := C0
  obtain ⟨postc, postm, rc, rm, h1, hq, h2, hr, key⟩ := h
  refine lv_aload_n hx hb dL_law_1251 rfl (lv_at hl 3 rfl) ?_
  refine z_calliL (va_runV (As := []) (rest := []) ⟨hx, hb, hml, hown, hts⟩ (zMi_up (wr := wO G q ov) (h1 H.size)) (cwV 0 hts gL_law_X5_clearText rfl hq.1 hq.2.1 (by decide +kernel) ⟨hq.2.2.1, by have := hq.2.2.2; show 8 + (2 + 11) + rc.locals ≤ 434; omega⟩) (zV (ci := 5) (q0 := 1) hK (zP_left hP) (zD_left hD) rfl (show (wO G q ov ++ wCl G ad D)[1]? = some _ from wCl_0 G ad D)) rfl rfl hl.1 rfl (lv_room (Nat.le_of_ble_eq_true rfl)) dL_law_1252 ⟨by show cells + 0 ≤ 601024; omega, by show slots + 0 ≤ 7293034; omega⟩) hP hD hS hA (fun v D1 H locs hw hP hD hS => ?_)
  refine lv_aload_n hx hb dL_law_1255 rfl (lv_at hl 2 rfl) ?_
  refine z_calliR (va_runV (As := []) (rest := [.int v]) ⟨hx, hb, hml, hown, hts⟩ (h2 H.size) (cwV 0 hts gL_law_X6_clearText rfl hr.1 hr.2.1 (by decide +kernel) ⟨hr.2.2.1, by have := hr.2.2.2; show 8 + (2 + 11) + rm.locals ≤ 434; omega⟩) (zV (ci := 6) (q0 := 0) hK (zP_right hP) (zD_right hD) rfl (wMd_0 G d M)) rfl rfl hl.1 rfl (lv_room (Nat.le_of_ble_eq_true rfl)) dL_law_1256 ⟨by show cells + 0 ≤ 601024; omega, by show slots + 0 ≤ 7293034; omega⟩) hP hD hS hA (fun r M1 H locs hw2 hP hD hS => ?_)
  obtain ⟨k1, k3⟩ := key v D1 r M1 hw hw2
  refine lv_icmp_eq (tgt := 1392) hx hb dL_law_1259 (by decide) (fun c1 => ?_) (fun c1 => absurd k1 c1)
  exact W.widen (by omega) (by omega) (kk D1 ov M1 _ _ _ k3 hP hD hS hl)
set_option maxRecDepth 100000 in
theorem lc_firstError {p : Program} {l : Launch} {e : Env} {s : State} {m : MethodId} {below : List Frame} {meth : Method} {c : Code} {bs L : Nat} {xs : Nat → Int32} {G : zG} {A : Nat → Prop} {H : Heap} {locs : List Loc} {ls : Array Slot} {cells slots : Nat} {Q : State → Prop} (C0 : lwX p s m c bs L xs G A) {i : Nat} {ad : zAd} {q : Nat} {d : Nat → Nat} {D : zDc} {M : zRd} {ov : Nat → Int64} {B : Nat}
    (h : crG l G ad d D M B yX5_firstError wsX5_firstError yX6_firstError wsX6_firstError)
    (hl : lv_has ls 9 [(4, .int (nI i)), (3, .ref q), (2, .ref (d 0)), (1, .ref ad.2.2.1), (0, .ref bs)]) (hP : va_P G.1 vwCl ((wO G q ov ++ wCl G ad D) ++ wMd G d M) H) (hD : va_D A ((wO G q ov ++ wCl G ad D) ++ wMd G d M)) (hS : va_S A s.heap H locs) (hcl : cells + 1 ≤ 601024) (hsl : slots + 6 ≤ 7293034)
    (kk : ∀ (D' : zDc) (ov' : Nat → Int64) (M' : zRd) (H : Heap) (locs : List Loc) (ls : Array Slot), relA (B + 6200) D' M' → va_P G.1 vwCl ((wO G q ov' ++ wCl G ad D') ++ wMd G d M') H → va_D A ((wO G q ov' ++ wCl G ad D') ++ wMd G d M') → va_S A s.heap H locs → lv_has ls 9 [(4, .int (nI i)), (3, .ref q), (2, .ref (d 0)), (1, .ref ad.2.2.1), (0, .ref bs)] → W p l e room_1 s m #[Value.ref bs] below meth c H locs (cells + 1) (slots + 6) Q (F0 m 1392 ls [])) : W p l e room_1 s m #[Value.ref bs] below meth c H locs cells slots Q (F0 m 1264 ls []) := by
  obtain ⟨hx, hb, hml, hown, hts, hX, hbl, hbA, hK, hZ, hN, hA, hL⟩ := C0
  obtain ⟨postc, postm, rc, rm, h1, hq, h2, hr, key⟩ := h
  refine lv_aload_n hx hb dL_law_1264 rfl (lv_at hl 3 rfl) ?_
  refine z_calliL (va_runV (As := []) (rest := []) ⟨hx, hb, hml, hown, hts⟩ (zMi_up (wr := wO G q ov) (h1 H.size)) (cwV 0 hts gL_law_X5_firstError rfl hq.1 hq.2.1 (by decide +kernel) ⟨hq.2.2.1, by have := hq.2.2.2; show 8 + (1 + 11) + rc.locals ≤ 434; omega⟩) (zV (ci := 5) (q0 := 1) hK (zP_left hP) (zD_left hD) rfl (show (wO G q ov ++ wCl G ad D)[1]? = some _ from wCl_0 G ad D)) rfl rfl hl.1 rfl (lv_room (Nat.le_of_ble_eq_true rfl)) dL_law_1265 ⟨by show cells + 0 ≤ 601024; omega, by show slots + 0 ≤ 7293034; omega⟩) hP hD hS hA (fun v D1 H locs hw hP hD hS => ?_)
  refine lv_aload_n hx hb dL_law_1268 rfl (lv_at hl 2 rfl) ?_
  refine z_calliR (va_runV (As := []) (rest := [.int v]) ⟨hx, hb, hml, hown, hts⟩ (h2 H.size) (cwV 0 hts gL_law_X6_firstError rfl hr.1 hr.2.1 (by decide +kernel) ⟨hr.2.2.1, by have := hr.2.2.2; show 8 + (1 + 11) + rm.locals ≤ 434; omega⟩) (zV (ci := 6) (q0 := 0) hK (zP_right hP) (zD_right hD) rfl (wMd_0 G d M)) rfl rfl hl.1 rfl (lv_room (Nat.le_of_ble_eq_true rfl)) dL_law_1269 ⟨by show cells + 0 ≤ 601024; omega, by show slots + 0 ≤ 7293034; omega⟩) hP hD hS hA (fun r M1 H locs hw2 hP hD hS => ?_)
  obtain ⟨k1, k3⟩ := key v D1 r M1 hw hw2
  refine lv_icmp_eq (tgt := 1392) hx hb dL_law_1272 (by decide) (fun c1 => ?_) (fun c1 => absurd k1 c1)
  exact W.widen (by omega) (by omega) (kk D1 ov M1 _ _ _ k3 hP hD hS hl)
set_option maxRecDepth 100000 in
theorem lc_savedStates {p : Program} {l : Launch} {e : Env} {s : State} {m : MethodId} {below : List Frame} {meth : Method} {c : Code} {bs L : Nat} {xs : Nat → Int32} {G : zG} {A : Nat → Prop} {H : Heap} {locs : List Loc} {ls : Array Slot} {cells slots : Nat} {Q : State → Prop} (C0 : lwX p s m c bs L xs G A) {i : Nat} {ad : zAd} {q : Nat} {d : Nat → Nat} {D : zDc} {M : zRd} {ov : Nat → Int64} {B : Nat}
    (h : crG l G ad d D M B yX5_savedStates wsX5_savedStates yX6_savedStates wsX6_savedStates)
    (hl : lv_has ls 9 [(4, .int (nI i)), (3, .ref q), (2, .ref (d 0)), (1, .ref ad.2.2.1), (0, .ref bs)]) (hP : va_P G.1 vwCl ((wO G q ov ++ wCl G ad D) ++ wMd G d M) H) (hD : va_D A ((wO G q ov ++ wCl G ad D) ++ wMd G d M)) (hS : va_S A s.heap H locs) (hcl : cells + 1 ≤ 601024) (hsl : slots + 6 ≤ 7293034)
    (kk : ∀ (D' : zDc) (ov' : Nat → Int64) (M' : zRd) (H : Heap) (locs : List Loc) (ls : Array Slot), relA (B + 6200) D' M' → va_P G.1 vwCl ((wO G q ov' ++ wCl G ad D') ++ wMd G d M') H → va_D A ((wO G q ov' ++ wCl G ad D') ++ wMd G d M') → va_S A s.heap H locs → lv_has ls 9 [(4, .int (nI i)), (3, .ref q), (2, .ref (d 0)), (1, .ref ad.2.2.1), (0, .ref bs)] → W p l e room_1 s m #[Value.ref bs] below meth c H locs (cells + 1) (slots + 6) Q (F0 m 1392 ls [])) : W p l e room_1 s m #[Value.ref bs] below meth c H locs cells slots Q (F0 m 1365 ls []) := by
  obtain ⟨hx, hb, hml, hown, hts, hX, hbl, hbA, hK, hZ, hN, hA, hL⟩ := C0
  obtain ⟨postc, postm, rc, rm, h1, hq, h2, hr, key⟩ := h
  refine lv_aload_n hx hb dL_law_1365 rfl (lv_at hl 3 rfl) ?_
  refine z_calliL (va_runV (As := []) (rest := []) ⟨hx, hb, hml, hown, hts⟩ (zMi_up (wr := wO G q ov) (h1 H.size)) (cwV 0 hts gL_law_X5_savedStates rfl hq.1 hq.2.1 (by decide +kernel) ⟨hq.2.2.1, by have := hq.2.2.2; show 8 + (1 + 11) + rc.locals ≤ 434; omega⟩) (zV (ci := 5) (q0 := 1) hK (zP_left hP) (zD_left hD) rfl (show (wO G q ov ++ wCl G ad D)[1]? = some _ from wCl_0 G ad D)) rfl rfl hl.1 rfl (lv_room (Nat.le_of_ble_eq_true rfl)) dL_law_1366 ⟨by show cells + 0 ≤ 601024; omega, by show slots + 0 ≤ 7293034; omega⟩) hP hD hS hA (fun v D1 H locs hw hP hD hS => ?_)
  refine lv_aload_n hx hb dL_law_1369 rfl (lv_at hl 2 rfl) ?_
  refine z_calliR (va_runV (As := []) (rest := [.int v]) ⟨hx, hb, hml, hown, hts⟩ (h2 H.size) (cwV 0 hts gL_law_X6_savedStates rfl hr.1 hr.2.1 (by decide +kernel) ⟨hr.2.2.1, by have := hr.2.2.2; show 8 + (1 + 11) + rm.locals ≤ 434; omega⟩) (zV (ci := 6) (q0 := 0) hK (zP_right hP) (zD_right hD) rfl (wMd_0 G d M)) rfl rfl hl.1 rfl (lv_room (Nat.le_of_ble_eq_true rfl)) dL_law_1370 ⟨by show cells + 0 ≤ 601024; omega, by show slots + 0 ≤ 7293034; omega⟩) hP hD hS hA (fun r M1 H locs hw2 hP hD hS => ?_)
  obtain ⟨k1, k3⟩ := key v D1 r M1 hw hw2
  refine lv_icmp_eq (tgt := 1392) hx hb dL_law_1373 (by decide) (fun c1 => ?_) (fun c1 => absurd k1 c1)
  exact W.widen (by omega) (by omega) (kk D1 ov M1 _ _ _ k3 hP hD hS hl)
set_option maxRecDepth 100000 in
theorem lc_digest {p : Program} {l : Launch} {e : Env} {s : State} {m : MethodId} {below : List Frame} {meth : Method} {c : Code} {bs L : Nat} {xs : Nat → Int32} {G : zG} {A : Nat → Prop} {H : Heap} {locs : List Loc} {ls : Array Slot} {cells slots : Nat} {Q : State → Prop} (C0 : lwX p s m c bs L xs G A) {i : Nat} {ad : zAd} {q : Nat} {d : Nat → Nat} {D : zDc} {M : zRd} {ov : Nat → Int64} {B : Nat}
    (h : crL l G ad d D M B yX5_digest wsX5_digest yX6_digest wsX6_digest)
    (hl : lv_has ls 9 [(4, .int (nI i)), (3, .ref q), (2, .ref (d 0)), (1, .ref ad.2.2.1), (0, .ref bs)]) (hP : va_P G.1 vwCl ((wO G q ov ++ wCl G ad D) ++ wMd G d M) H) (hD : va_D A ((wO G q ov ++ wCl G ad D) ++ wMd G d M)) (hS : va_S A s.heap H locs) (hcl : cells + 1 ≤ 601024) (hsl : slots + 6 ≤ 7293034)
    (kk : ∀ (D' : zDc) (ov' : Nat → Int64) (M' : zRd) (H : Heap) (locs : List Loc) (ls : Array Slot), relA (B + 6200) D' M' → va_P G.1 vwCl ((wO G q ov' ++ wCl G ad D') ++ wMd G d M') H → va_D A ((wO G q ov' ++ wCl G ad D') ++ wMd G d M') → va_S A s.heap H locs → lv_has ls 9 [(4, .int (nI i)), (3, .ref q), (2, .ref (d 0)), (1, .ref ad.2.2.1), (0, .ref bs)] → W p l e room_1 s m #[Value.ref bs] below meth c H locs (cells + 1) (slots + 6) Q (F0 m 1392 ls [])) : W p l e room_1 s m #[Value.ref bs] below meth c H locs cells slots Q (F0 m 1378 ls []) := by
  obtain ⟨hx, hb, hml, hown, hts, hX, hbl, hbA, hK, hZ, hN, hA, hL⟩ := C0
  obtain ⟨postc, postm, rc, rm, h1, hq, h2, hr, key⟩ := h
  refine lv_aload_n hx hb dL_law_1378 rfl (lv_at hl 3 rfl) ?_
  refine z_calllL (va_runV (As := []) (rest := []) ⟨hx, hb, hml, hown, hts⟩ (zMl_up (wr := wO G q ov) (h1 H.size)) (cwV 0 hts gL_law_X5_digest rfl hq.1 hq.2.1 (by decide +kernel) ⟨hq.2.2.1, by have := hq.2.2.2; show 8 + (4 + 11) + rc.locals ≤ 434; omega⟩) (zV (ci := 5) (q0 := 1) hK (zP_left hP) (zD_left hD) rfl (show (wO G q ov ++ wCl G ad D)[1]? = some _ from wCl_0 G ad D)) rfl rfl hl.1 rfl (lv_room (Nat.le_of_ble_eq_true rfl)) dL_law_1379 ⟨by show cells + 0 ≤ 601024; omega, by show slots + 0 ≤ 7293034; omega⟩) hP hD hS hA (fun v D1 H locs hw hP hD hS => ?_)
  refine lv_aload_n hx hb dL_law_1382 rfl (lv_at hl 2 rfl) ?_
  refine z_calllR (va_runV (As := []) (rest := [.long v]) ⟨hx, hb, hml, hown, hts⟩ (h2 H.size) (cwV 0 hts gL_law_X6_digest rfl hr.1 hr.2.1 (by decide +kernel) ⟨hr.2.2.1, by have := hr.2.2.2; show 8 + (4 + 11) + rm.locals ≤ 434; omega⟩) (zV (ci := 6) (q0 := 0) hK (zP_right hP) (zD_right hD) rfl (wMd_0 G d M)) rfl rfl hl.1 rfl (lv_room (Nat.le_of_ble_eq_true rfl)) dL_law_1383 ⟨by show cells + 0 ≤ 601024; omega, by show slots + 0 ≤ 7293034; omega⟩) hP hD hS hA (fun r M1 H locs hw2 hP hD hS => ?_)
  obtain ⟨k1, k3⟩ := key v D1 r M1 hw hw2
  refine W.lcmp hx hb dL_law_1386 ?_
  refine lv_if_eq (tgt := 1392) hx hb dL_law_1387 (by decide) (fun c3 => ?_) (fun c3 => absurd (z_cmp0 k1) c3)
  exact W.widen (by omega) (by omega) (kk D1 ov M1 _ _ _ k3 hP hD hS hl)
set_option maxRecDepth 100000 in
theorem lc_hitShare {p : Program} {l : Launch} {e : Env} {s : State} {m : MethodId} {below : List Frame} {meth : Method} {c : Code} {bs L : Nat} {xs : Nat → Int32} {G : zG} {A : Nat → Prop} {H : Heap} {locs : List Loc} {ls : Array Slot} {cells slots : Nat} {Q : State → Prop} {d0 : Drawn} (hd0 : s.drawn.sameBut d0 lw_cs) (C0 : lwX p s m c bs L xs G A) {i : Nat} {ad : zAd} {q : Nat} {d : Nat → Nat} {D : zDc} {M : zRd} {ov : Nat → Int64} {B : Nat}
    (h : crD l G ad d D M B yX5_hitShare wsX5_hitShare yX6_hitShare wsX6_hitShare)
    (hl : lv_has ls 9 [(4, .int (nI i)), (3, .ref q), (2, .ref (d 0)), (1, .ref ad.2.2.1), (0, .ref bs)]) (hP : va_P G.1 vwCl ((wO G q ov ++ wCl G ad D) ++ wMd G d M) H) (hD : va_D A ((wO G q ov ++ wCl G ad D) ++ wMd G d M)) (hS : va_S A s.heap H locs) (hcl : cells + 1 ≤ 601024) (hsl : slots + 6 ≤ 7293034)
    (kk : ∀ (D' : zDc) (ov' : Nat → Int64) (M' : zRd) (H : Heap) (locs : List Loc) (ls : Array Slot) (d1 : Drawn), s.drawn.sameBut d1 lw_cs → relA (B + 6200) D' M' → va_P G.1 vwCl ((wO G q ov' ++ wCl G ad D') ++ wMd G d M') H → va_D A ((wO G q ov' ++ wCl G ad D') ++ wMd G d M') → va_S A s.heap H locs → lv_has ls 9 [(4, .int (nI i)), (3, .ref q), (2, .ref (d 0)), (1, .ref ad.2.2.1), (0, .ref bs)] → W p l e room_1 (s.setDrawn d1) m #[Value.ref bs] below meth c H locs (cells + 1) (slots + 6) Q (F0 m 1392 ls [])) : W p l e room_1 (s.setDrawn d0) m #[Value.ref bs] below meth c H locs cells slots Q (F0 m 931 ls []) := by
  obtain ⟨hx, hb, hml, hown, hts, hX, hbl, hbA, hK, hZ, hN, hA, hL⟩ := C0
  obtain ⟨postc, postm, rc, rm, h1, hq, h2, hr, key⟩ := h
  refine lv_aload_n hx hb dL_law_931 rfl (lv_at hl 3 rfl) ?_
  refine z_calldL hd0 (va_runV_D (As := []) (rest := []) ⟨hx, hb, hml, hown, dr_words hts d0⟩ (zMd_up (wr := wO G q ov) (h1 H.size)) (cwV 0 (dr_words hts d0) gL_law_X5_hitShare rfl hq.1 hq.2.1 (by decide +kernel) ⟨hq.2.2.1, by have := hq.2.2.2; show 8 + (1 + 11) + rc.locals ≤ 434; omega⟩) (zV (s := s.setDrawn d0) (ci := 5) (q0 := 1) hK (zP_left hP) (zD_left hD) rfl (show (wO G q ov ++ wCl G ad D)[1]? = some _ from wCl_0 G ad D)) rfl rfl hl.1 rfl (lv_room (Nat.le_of_ble_eq_true rfl)) dL_law_932 ⟨by show cells + 0 ≤ 601024; omega, by show slots + 0 ≤ 7293034; omega⟩) hP hD hS hA (fun v D1 H locs d2 hd2 hw hP hD hS => ?_)
  refine lv_dstore (lv' := [(5, .double v), (4, .int (nI i)), (3, .ref q), (2, .ref (d 0)), (1, .ref ad.2.2.1), (0, .ref bs)]) hx hb dL_law_935 hl (by decide) rfl (fun ls hl => ?_)
  refine lv_aload_n hx hb dL_law_937 rfl (lv_at hl 3 rfl) ?_
  refine z_calldR hd2 (va_runV_D (As := []) (rest := []) ⟨hx, hb, hml, hown, dr_words hts d2⟩ (h2 H.size) (cwV 0 (dr_words hts d2) gL_law_X6_hitShare rfl hr.1 hr.2.1 (by decide +kernel) ⟨hr.2.2.1, by have := hr.2.2.2; show 8 + (3 + 11) + rm.locals ≤ 434; omega⟩) (zV (s := s.setDrawn d2) (ci := 6) (q0 := 0) hK (zP_right hP) (zD_right hD) rfl (wMd_0 G d M)) rfl rfl hl.1 rfl (lv_room (Nat.le_of_ble_eq_true rfl)) dL_law_938 ⟨by show cells + 0 ≤ 601024; omega, by show slots + 0 ≤ 7293034; omega⟩) hP hD hS hA (fun r M1 H locs d3 hd3 hw2 hP hD hS => ?_)
  refine lv_dstore (lv' := [(7, .double r), (5, .double v), (4, .int (nI i)), (3, .ref q), (2, .ref (d 0)), (1, .ref ad.2.2.1), (0, .ref bs)]) hx hb dL_law_941 hl (by decide) rfl (fun ls hl => ?_)
  obtain ⟨k1, k3⟩ := key v D1 r M1 hw hw2
  obtain ⟨n9, k9, s1, s2⟩ := k1
  refine lv_dload hx hb dL_law_943 (lv_at hl 1 rfl) ?_
  refine lv_dload hx hb dL_law_945 (lv_at hl 0 rfl) ?_
  refine lv_dcmp hx hb dL_law_947 ?_
  refine lv_if_eq (tgt := 969) hx hb dL_law_948 (by decide) (fun c1 => ?_) (fun c1 => ?_)
  · refine lv_goto (tgt := 1392) hx hb dL_law_969 (by decide) ?_
    exact W.widen (by omega) (by omega) (kk D1 ov M1 _ _ _ d3 hd3 k3 hP hD hS (lv_sub hl [2, 3, 4, 5, 6] rfl))
  · obtain ⟨n1, n2⟩ := sh_nan s1 s2 c1
    refine lv_dload hx hb dL_law_951 (lv_at hl 1 rfl) ?_
    refine lv_dload hx hb dL_law_953 (lv_at hl 1 rfl) ?_
    refine lv_dcmp hx hb dL_law_955 ?_
    refine lv_if_eq (tgt := 967) hx hb dL_law_956 (by decide) (fun c2 => absurd c2 (nan_ne n1)) (fun c2 => ?_)
    refine lv_dload hx hb dL_law_959 (lv_at hl 0 rfl) ?_
    refine lv_dload hx hb dL_law_961 (lv_at hl 0 rfl) ?_
    refine lv_dcmp hx hb dL_law_963 ?_
    refine lv_if_ne (tgt := 969) hx hb dL_law_964 (by decide) (fun c4 => ?_) (fun c4 => absurd c4 (nan_ne n2))
    refine lv_goto (tgt := 1392) hx hb dL_law_969 (by decide) ?_
    exact W.widen (by omega) (by omega) (kk D1 ov M1 _ _ _ d3 hd3 k3 hP hD hS (lv_sub hl [2, 3, 4, 5, 6] rfl))
end LCG
