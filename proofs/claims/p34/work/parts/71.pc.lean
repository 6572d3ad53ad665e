section PC
/-- nothing but the ear has changed -/
def sm (D D' : zDc) : Prop := D'.2.1 = D.2.1 ∧ D'.2.2.1 = D.2.2.1 ∧ okE D'.2.2.2.1
theorem sm_J {n : Nat} {D D' : zDc} {N : zN} (h : J n D N) (hs : sm D D') : J n D' N := by
  obtain ⟨h1, h2, h3, h4, h5⟩ := h
  obtain ⟨s1, s2, s3⟩ := hs
  exact ⟨by rw [s2]; exact h1, h2, by rw [s1]; exact h3, s3, h5⟩
theorem sm_tp {k : Nat} {D D' : zDc} {F : Nat → zSt} (h : tp D k F) (hs : sm D D') : tp D' k F := by
  obtain ⟨s1, s2, s3⟩ := hs
  unfold tp
  rw [s1]
  exact h
theorem sm_now {D D' : zDc} (hs : sm D D') : D'.2.2.1 = D.2.2.1 := hs.2.1
/-- the state was saved -/
def pu (D D' : zDc) : Prop := ∀ k F, k ≤ 5 → tp D k F → tp D' (k + 1) (psh D.2.2.1 F)
/-- the state that was saved last is back -/
def po (D D' : zDc) (k : Nat) (F : Nat → zSt) : Prop := D'.2.2.1 = F 0 ∧ tp D' k (fun i => F (i + 1)) ∧ D'.2.1.1 ≤ 6 ∧ okE D'.2.2.2.1
theorem po_J {n n' k : Nat} {D D' : zDc} {N N' : zN} {F : Nat → zSt} (h : po D D' k F) (hv : vw (F 0) N) (hb : bnd n N) (hn : n ≤ 9000) : J n D' N := ⟨by rw [h.1]; exact hv, hb, h.2.2.1, h.2.2.2, hn⟩
theorem rem_if {S : zSt} {N : zN} {n : Nat} {α : Type} {x y : α} (hv : vw S N) (hb : bnd n N) (hn : n ≤ 9000) : (if rmb S.1 then x else y) = if rem N then x else y := by
  have hm : rmb S.1 ↔ rem N := rmb_N hv.1.2.2.2.2.2.2.1 (by have := hb.1.2.2.2.2.2.2.2.1; omega)
  by_cases h : rem N
  · rw [if_pos h, if_pos (hm.mpr h)]
  · rw [if_neg h, if_neg (fun z => h (hm.mp z))]
theorem ttf_N {x : Int32} {k : Nat} (h : x = nI k - 1) (h1 : 1 ≤ k) (h2 : k ≤ 61) : 61 - x = nI (62 - k) := by
  rcases s6_cases h with ⟨z, -⟩ | ⟨j, z, e⟩
  · omega
  · rw [e, z]
    have : (61 : Int32) - nI j = nI (61 - j) := pk_sub (a := 61) (by omega)
    rw [this, show 62 - (j + 1) = 61 - j by omega]
theorem svK_le {sc sc' : Nat} {SS SS' : Nat → zSt} {S9 : zSt} (hs : sc ≤ 6) (hu : (sc', SS') = svK sc SS S9) : sc' ≤ 6 := by
  unfold svK at hu
  by_cases h : sc = 6
  · rw [if_pos h] at hu
    have : sc' = 6 := congrArg Prod.fst hu
    omega
  · rw [if_neg h] at hu
    have : sc' = sc + 1 := congrArg Prod.fst hu
    omega
theorem fr60 {N : zN} {n a c t st : Nat} (hb : bnd n N) (ha : a < 8) (hc : c < 16) (ht : t < 2) : va_up (frV N a c t st).2 60 (N 60) = (frV N a c t st).2 := by
  have h60 : (frV N a c t st).2 60 = N 60 := by
    have b4 := hb.1.2.2.2.2.1
    rcases fr_cases (st := st) hb ha hc ht with ⟨k, k1, k2, e, -⟩ | ⟨e, -⟩ | ⟨e, -⟩
    · rw [e]; show rkN _ _ _ 60 = _; rw [rk_at (by omega), hc_at (by omega) (by omega)]
    · rw [e]; exact ho_at2 (by omega) (by omega)
    · rw [e]; exact pr_at (by omega) (by omega)
  have := up60 (N := (frV N a c t st).2)
  rw [h60] at this
  exact this
theorem he_ge {N : zN} {n : Nat} {ms : Bool} {mn w : Nat} (hb : bnd n N) (hm : mn = 1 ∨ mn = 2 ∨ mn = 3 ∨ mn = 4 ∨ mn = 8 ∨ mn = 7) : -1 ≤ (heN N ms mn w).1 ∧ (heN N ms mn w).2 2 = N 2 ∧ (heN N ms mn w).2 8 = N 8 + 1 ∧ (heN N ms mn w).2 0 = N 0 := by
  rcases heN_cases (ms := ms) (w := w) hb hm with ⟨k, k1, k2, e, -⟩ | ⟨e, -⟩ | ⟨e, -⟩
  · rw [e]
    refine ⟨?_, ?_, ?_, ?_⟩
    · show -1 ≤ nI k
      rcases (show k = 1 ∨ k = 2 ∨ k = 3 ∨ k = 4 ∨ k = 5 ∨ k = 6 by omega) with rfl | rfl | rfl | rfl | rfl | rfl <;> decide
    · show rkN _ _ _ 2 = _; rw [rk_at (by omega)]; rfl
    · show rkN _ _ _ 8 = _; rw [rk_at (by omega)]; rfl
    · show rkN _ _ _ 0 = _; rw [rk_at (by omega)]; rfl
  · rw [e]; exact ⟨by show (-1 : Int32) ≤ -1; decide, by show hoN _ _ 2 = _; rw [ho_x (by omega)]; rfl, by show hoN _ _ 8 = _; rw [ho_x (by omega)]; rfl, by show hoN _ _ 0 = _; rw [ho_x (by omega)]; rfl⟩
  · rw [e]; exact ⟨by show (-1 : Int32) ≤ 0; decide, by show prN _ _ _ _ 2 = _; rw [pr_x (by omega)]; rfl, by show prN _ _ _ _ 8 = _; rw [pr_x (by omega)]; rfl, by show prN _ _ _ _ 0 = _; rw [pr_x (by omega)]; rfl⟩
set_option maxRecDepth 100000 in
theorem pC_glare (l : Launch) (G : zG) (sz : Nat) (ad : zAd) {D : zDc} {N : zN} {n : Nat} (h : J n D N) : zMi l yX5_glare wsX5_glare ({ frames := 0, cells := 0, slots := 0, locals := 0 } : Room) [.ref ad.2.2.1] G (wCl G ad D) (fun (v : Int32) (D' : zDc) => v = nI (N 0) ∧ D' = D) (fun D' => wCl G ad D') sz 0 0 := by
  obtain ⟨a, b, x, y1, y2, ya, tr, tv⟩ := ad
  obtain ⟨pp, ⟨sc, SS⟩, S9, E, tn, t9⟩ := D
  obtain ⟨hv, hb, hs, hE, hn9⟩ := h
  have hv : vw S9 N := hv
  have hs : sc ≤ 6 := hs
  have hE : okE E := hE
  have hv0 := hv
  obtain ⟨⟨e0, e1, e2, e3, e4, e5, e6, e7, e8, e9⟩, ha, hd, hr, hl⟩ := hv0
  have hb0 := hb
  obtain ⟨⟨b0, b1, b2, b3, b4, b5, b6, b7, b8, b9, b10⟩, ba, bd, bl⟩ := hb0
  refine zMi_post (kC_glare l G sz a b x y1 y2 ya tr tv pp sc SS S9 E tn t9) (fun v D' hD => ?_)
  obtain ⟨u, h1, rfl⟩ := hD
  exact ⟨h1.trans e0, rfl⟩
set_option maxRecDepth 100000 in
theorem pC_gain (l : Launch) (G : zG) (sz : Nat) (ad : zAd) {D : zDc} {N : zN} {n : Nat} (h : J n D N) : zMi l yX5_gain wsX5_gain ({ frames := 0, cells := 0, slots := 0, locals := 0 } : Room) [.ref ad.2.2.1] G (wCl G ad D) (fun (v : Int32) (D' : zDc) => v = nI (N 1) ∧ D' = D) (fun D' => wCl G ad D') sz 0 0 := by
  obtain ⟨a, b, x, y1, y2, ya, tr, tv⟩ := ad
  obtain ⟨pp, ⟨sc, SS⟩, S9, E, tn, t9⟩ := D
  obtain ⟨hv, hb, hs, hE, hn9⟩ := h
  have hv : vw S9 N := hv
  have hs : sc ≤ 6 := hs
  have hE : okE E := hE
  have hv0 := hv
  obtain ⟨⟨e0, e1, e2, e3, e4, e5, e6, e7, e8, e9⟩, ha, hd, hr, hl⟩ := hv0
  have hb0 := hb
  obtain ⟨⟨b0, b1, b2, b3, b4, b5, b6, b7, b8, b9, b10⟩, ba, bd, bl⟩ := hb0
  refine zMi_post (kC_gain l G sz a b x y1 y2 ya tr tv pp sc SS S9 E tn t9) (fun v D' hD => ?_)
  obtain ⟨u, h1, rfl⟩ := hD
  exact ⟨h1.trans e1, rfl⟩
set_option maxRecDepth 100000 in
theorem pC_presses (l : Launch) (G : zG) (sz : Nat) (ad : zAd) {D : zDc} {N : zN} {n : Nat} (h : J n D N) : zMi l yX5_presses wsX5_presses ({ frames := 0, cells := 0, slots := 0, locals := 0 } : Room) [.ref ad.2.2.1] G (wCl G ad D) (fun (v : Int32) (D' : zDc) => v = nI (N 7) ∧ D' = D) (fun D' => wCl G ad D') sz 0 0 := by
  obtain ⟨a, b, x, y1, y2, ya, tr, tv⟩ := ad
  obtain ⟨pp, ⟨sc, SS⟩, S9, E, tn, t9⟩ := D
  obtain ⟨hv, hb, hs, hE, hn9⟩ := h
  have hv : vw S9 N := hv
  have hs : sc ≤ 6 := hs
  have hE : okE E := hE
  have hv0 := hv
  obtain ⟨⟨e0, e1, e2, e3, e4, e5, e6, e7, e8, e9⟩, ha, hd, hr, hl⟩ := hv0
  have hb0 := hb
  obtain ⟨⟨b0, b1, b2, b3, b4, b5, b6, b7, b8, b9, b10⟩, ba, bd, bl⟩ := hb0
  refine zMi_post (kC_presses l G sz a b x y1 y2 ya tr tv pp sc SS S9 E tn t9) (fun v D' hD => ?_)
  obtain ⟨u, h1, rfl⟩ := hD
  exact ⟨h1.trans e7, rfl⟩
set_option maxRecDepth 100000 in
theorem pC_received (l : Launch) (G : zG) (sz : Nat) (ad : zAd) {D : zDc} {N : zN} {n : Nat} (h : J n D N) : zMi l yX5_received wsX5_received ({ frames := 0, cells := 0, slots := 0, locals := 0 } : Room) [.ref ad.2.2.1] G (wCl G ad D) (fun (v : Int32) (D' : zDc) => v = nI (N 8) ∧ D' = D) (fun D' => wCl G ad D') sz 0 0 := by
  obtain ⟨a, b, x, y1, y2, ya, tr, tv⟩ := ad
  obtain ⟨pp, ⟨sc, SS⟩, S9, E, tn, t9⟩ := D
  obtain ⟨hv, hb, hs, hE, hn9⟩ := h
  have hv : vw S9 N := hv
  have hs : sc ≤ 6 := hs
  have hE : okE E := hE
  have hv0 := hv
  obtain ⟨⟨e0, e1, e2, e3, e4, e5, e6, e7, e8, e9⟩, ha, hd, hr, hl⟩ := hv0
  have hb0 := hb
  obtain ⟨⟨b0, b1, b2, b3, b4, b5, b6, b7, b8, b9, b10⟩, ba, bd, bl⟩ := hb0
  refine zMi_post (kC_received l G sz a b x y1 y2 ya tr tv pp sc SS S9 E tn t9) (fun v D' hD => ?_)
  obtain ⟨u, h1, rfl⟩ := hD
  exact ⟨h1.trans e8, rfl⟩
set_option maxRecDepth 100000 in
theorem pC_row (l : Launch) (G : zG) (sz : Nat) (ad : zAd) {D : zDc} {N : zN} {n : Nat} (h : J n D N) : zMi l yX5_row wsX5_row ({ frames := 0, cells := 0, slots := 0, locals := 0 } : Room) [.ref ad.2.2.1] G (wCl G ad D) (fun (v : Int32) (D' : zDc) => v = nI (N 60) ∧ D' = D) (fun D' => wCl G ad D') sz 0 0 := by
  obtain ⟨a, b, x, y1, y2, ya, tr, tv⟩ := ad
  obtain ⟨pp, ⟨sc, SS⟩, S9, E, tn, t9⟩ := D
  obtain ⟨hv, hb, hs, hE, hn9⟩ := h
  have hv : vw S9 N := hv
  have hs : sc ≤ 6 := hs
  have hE : okE E := hE
  have hv0 := hv
  obtain ⟨⟨e0, e1, e2, e3, e4, e5, e6, e7, e8, e9⟩, ha, hd, hr, hl⟩ := hv0
  have hb0 := hb
  obtain ⟨⟨b0, b1, b2, b3, b4, b5, b6, b7, b8, b9, b10⟩, ba, bd, bl⟩ := hb0
  refine zMi_post (kC_row l G sz a b x y1 y2 ya tr tv pp sc SS S9 E tn t9) (fun v D' hD => ?_)
  obtain ⟨u, h1, rfl⟩ := hD
  exact ⟨by rw [h1, hl], rfl⟩
set_option maxRecDepth 100000 in
theorem pC_remembered (l : Launch) (G : zG) (sz : Nat) (ad : zAd) {D : zDc} {N : zN} {n : Nat} (h : J n D N) : zMi l yX5_remembered wsX5_remembered ({ frames := 1, cells := 0, slots := 0, locals := 20 } : Room) [.ref ad.2.2.1] G (wCl G ad D) (fun (v : Int32) (D' : zDc) => v = (if rem N then nI (N 3) else -1) ∧ D' = D) (fun D' => wCl G ad D') sz 0 0 := by
  obtain ⟨a, b, x, y1, y2, ya, tr, tv⟩ := ad
  obtain ⟨pp, ⟨sc, SS⟩, S9, E, tn, t9⟩ := D
  obtain ⟨hv, hb, hs, hE, hn9⟩ := h
  have hv : vw S9 N := hv
  have hs : sc ≤ 6 := hs
  have hE : okE E := hE
  have hv0 := hv
  obtain ⟨⟨e0, e1, e2, e3, e4, e5, e6, e7, e8, e9⟩, ha, hd, hr, hl⟩ := hv0
  have hb0 := hb
  obtain ⟨⟨b0, b1, b2, b3, b4, b5, b6, b7, b8, b9, b10⟩, ba, bd, bl⟩ := hb0
  refine zMi_post (kC_remembered l G sz a b x y1 y2 ya tr tv pp sc SS S9 E tn t9) (fun v D' hD => ?_)
  obtain ⟨u, h1, rfl⟩ := hD
  exact ⟨by rw [h1, rem_if hv hb hn9, e3], rfl⟩
set_option maxRecDepth 100000 in
theorem pC_holds (l : Launch) (G : zG) (sz : Nat) (ad : zAd) {D : zDc} {N : zN} {n : Nat} (h : J n D N) : zMi l yX5_holds wsX5_holds ({ frames := 1, cells := 0, slots := 0, locals := 20 } : Room) [.ref ad.2.2.1] G (wCl G ad D) (fun (v : Int32) (D' : zDc) => v = (if rem N then nI (N 5) else 0) ∧ D' = D) (fun D' => wCl G ad D') sz 0 0 := by
  obtain ⟨a, b, x, y1, y2, ya, tr, tv⟩ := ad
  obtain ⟨pp, ⟨sc, SS⟩, S9, E, tn, t9⟩ := D
  obtain ⟨hv, hb, hs, hE, hn9⟩ := h
  have hv : vw S9 N := hv
  have hs : sc ≤ 6 := hs
  have hE : okE E := hE
  have hv0 := hv
  obtain ⟨⟨e0, e1, e2, e3, e4, e5, e6, e7, e8, e9⟩, ha, hd, hr, hl⟩ := hv0
  have hb0 := hb
  obtain ⟨⟨b0, b1, b2, b3, b4, b5, b6, b7, b8, b9, b10⟩, ba, bd, bl⟩ := hb0
  refine zMi_post (kC_holds l G sz a b x y1 y2 ya tr tv pp sc SS S9 E tn t9) (fun v D' hD => ?_)
  obtain ⟨u, h1, rfl⟩ := hD
  exact ⟨by rw [h1, rem_if hv hb hn9, e5], rfl⟩
set_option maxRecDepth 100000 in
theorem pC_ticksToForget (l : Launch) (G : zG) (sz : Nat) (ad : zAd) {D : zDc} {N : zN} {n : Nat} (h : J n D N) : zMi l yX5_ticksToForget wsX5_ticksToForget ({ frames := 1, cells := 0, slots := 0, locals := 20 } : Room) [.ref ad.2.2.1] G (wCl G ad D) (fun (v : Int32) (D' : zDc) => v = (if rem N then nI (62 - N 6) else -1) ∧ D' = D) (fun D' => wCl G ad D') sz 0 0 := by
  obtain ⟨a, b, x, y1, y2, ya, tr, tv⟩ := ad
  obtain ⟨pp, ⟨sc, SS⟩, S9, E, tn, t9⟩ := D
  obtain ⟨hv, hb, hs, hE, hn9⟩ := h
  have hv : vw S9 N := hv
  have hs : sc ≤ 6 := hs
  have hE : okE E := hE
  have hv0 := hv
  obtain ⟨⟨e0, e1, e2, e3, e4, e5, e6, e7, e8, e9⟩, ha, hd, hr, hl⟩ := hv0
  have hb0 := hb
  obtain ⟨⟨b0, b1, b2, b3, b4, b5, b6, b7, b8, b9, b10⟩, ba, bd, bl⟩ := hb0
  refine zMi_post (kC_ticksToForget l G sz a b x y1 y2 ya tr tv pp sc SS S9 E tn t9) (fun v D' hD => ?_)
  obtain ⟨u, h1, rfl⟩ := hD
  exact ⟨by
    rw [h1, rem_if hv hb hn9]
    by_cases h : rem N
    · rw [if_pos h, if_pos h, ttf_N e6 h.1 h.2]
    · rw [if_neg h, if_neg h], rfl⟩
set_option maxRecDepth 100000 in
theorem pC_action (l : Launch) (G : zG) (sz : Nat) (ad : zAd) {D : zDc} {N : zN} {n : Nat} (h : J n D N) {k9 : Nat} (hk9 : k9 < 16) : zMi l yX5_action wsX5_action ({ frames := 1, cells := 0, slots := 0, locals := 22 } : Room) [.ref ad.2.2.1, .int (nI k9)] G (wCl G ad D) (fun (v : Int32) (D' : zDc) => v = nI (N (16 + k9)) ∧ D' = D) (fun D' => wCl G ad D') sz 0 0 := by
  obtain ⟨a, b, x, y1, y2, ya, tr, tv⟩ := ad
  obtain ⟨pp, ⟨sc, SS⟩, S9, E, tn, t9⟩ := D
  obtain ⟨hv, hb, hs, hE, hn9⟩ := h
  have hv : vw S9 N := hv
  have hs : sc ≤ 6 := hs
  have hE : okE E := hE
  have hv0 := hv
  obtain ⟨⟨e0, e1, e2, e3, e4, e5, e6, e7, e8, e9⟩, ha, hd, hr, hl⟩ := hv0
  have hb0 := hb
  obtain ⟨⟨b0, b1, b2, b3, b4, b5, b6, b7, b8, b9, b10⟩, ba, bd, bl⟩ := hb0
  refine zMi_post (kC_action l G sz a b x y1 y2 ya tr tv pp sc SS S9 E tn t9 k9 hk9) (fun v D' hD => ?_)
  obtain ⟨u, h1, rfl⟩ := hD
  exact ⟨h1.trans (ha k9 hk9), rfl⟩
set_option maxRecDepth 100000 in
theorem pC_done (l : Launch) (G : zG) (sz : Nat) (ad : zAd) {D : zDc} {N : zN} {n : Nat} (h : J n D N) {k9 : Nat} (hk9 : k9 < 16) : zMi l yX5_done wsX5_done ({ frames := 1, cells := 0, slots := 0, locals := 22 } : Room) [.ref ad.2.2.1, .int (nI k9)] G (wCl G ad D) (fun (v : Int32) (D' : zDc) => v = nI (N (32 + k9)) ∧ D' = D) (fun D' => wCl G ad D') sz 0 0 := by
  obtain ⟨a, b, x, y1, y2, ya, tr, tv⟩ := ad
  obtain ⟨pp, ⟨sc, SS⟩, S9, E, tn, t9⟩ := D
  obtain ⟨hv, hb, hs, hE, hn9⟩ := h
  have hv : vw S9 N := hv
  have hs : sc ≤ 6 := hs
  have hE : okE E := hE
  have hv0 := hv
  obtain ⟨⟨e0, e1, e2, e3, e4, e5, e6, e7, e8, e9⟩, ha, hd, hr, hl⟩ := hv0
  have hb0 := hb
  obtain ⟨⟨b0, b1, b2, b3, b4, b5, b6, b7, b8, b9, b10⟩, ba, bd, bl⟩ := hb0
  refine zMi_post (kC_done l G sz a b x y1 y2 ya tr tv pp sc SS S9 E tn t9 k9 hk9) (fun v D' hD => ?_)
  obtain ⟨u, h1, rfl⟩ := hD
  exact ⟨h1.trans (hd k9 hk9), rfl⟩
set_option maxRecDepth 100000 in
theorem pC_refused (l : Launch) (G : zG) (sz : Nat) (ad : zAd) {D : zDc} {N : zN} {n : Nat} (h : J n D N) {k9 : Nat} (hk1 : 1 ≤ k9) (hk9 : k9 ≤ 6) : zMi l yX5_refused wsX5_refused ({ frames := 1, cells := 0, slots := 0, locals := 22 } : Room) [.ref ad.2.2.1, .int (nI k9)] G (wCl G ad D) (fun (v : Int32) (D' : zDc) => v = nI (N (48 + k9)) ∧ D' = D) (fun D' => wCl G ad D') sz 0 0 := by
  obtain ⟨a, b, x, y1, y2, ya, tr, tv⟩ := ad
  obtain ⟨pp, ⟨sc, SS⟩, S9, E, tn, t9⟩ := D
  obtain ⟨hv, hb, hs, hE, hn9⟩ := h
  have hv : vw S9 N := hv
  have hs : sc ≤ 6 := hs
  have hE : okE E := hE
  have hv0 := hv
  obtain ⟨⟨e0, e1, e2, e3, e4, e5, e6, e7, e8, e9⟩, ha, hd, hr, hl⟩ := hv0
  have hb0 := hb
  obtain ⟨⟨b0, b1, b2, b3, b4, b5, b6, b7, b8, b9, b10⟩, ba, bd, bl⟩ := hb0
  refine zMi_post (kC_refused l G sz a b x y1 y2 ya tr tv pp sc SS S9 E tn t9 k9 hk1 hk9) (fun v D' hD => ?_)
  obtain ⟨u, h1, rfl⟩ := hD
  exact ⟨h1.trans (hr k9 hk1 hk9), rfl⟩
set_option maxRecDepth 100000 in
theorem pC_bit (l : Launch) (G : zG) (sz : Nat) (ad : zAd) {D : zDc} {N : zN} {n : Nat} (h : J n D N) {a9 c9 g9 i9 : Nat} (hx9 : a9 < 8) (hy9 : c9 < 16) (ht9 : g9 < 2) (hb9 : i9 < 9) : zMi l yX5_bit wsX5_bit ({ frames := 2, cells := 0, slots := 0, locals := 44 } : Room) [.ref ad.2.2.1, .int (nI a9), .int (nI c9), .int (nI g9), .int (nI i9)] G (wCl G ad D) (fun (v : Int32) (D' : zDc) => v = nI (wd a9 c9 g9 / 2 ^ (8 - i9) % 2) ∧ D' = D) (fun D' => wCl G ad D') sz 0 0 := by
  obtain ⟨a, b, x, y1, y2, ya, tr, tv⟩ := ad
  obtain ⟨pp, ⟨sc, SS⟩, S9, E, tn, t9⟩ := D
  obtain ⟨hv, hb, hs, hE, hn9⟩ := h
  have hv : vw S9 N := hv
  have hs : sc ≤ 6 := hs
  have hE : okE E := hE
  have hv0 := hv
  obtain ⟨⟨e0, e1, e2, e3, e4, e5, e6, e7, e8, e9⟩, ha, hd, hr, hl⟩ := hv0
  have hb0 := hb
  obtain ⟨⟨b0, b1, b2, b3, b4, b5, b6, b7, b8, b9, b10⟩, ba, bd, bl⟩ := hb0
  refine zMi_post (kC_bit l G sz a b x y1 y2 ya tr tv pp sc SS S9 E tn t9 a9 c9 g9 i9 hx9 hy9 ht9 hb9) (fun v D' hD => ?_)
  obtain ⟨u, h1, rfl⟩ := hD
  exact ⟨h1, rfl⟩
set_option maxRecDepth 100000 in
theorem pC_ifFrame (l : Launch) (G : zG) (sz : Nat) (ad : zAd) {D : zDc} {N : zN} {n : Nat} (h : J n D N) {a9 c9 g9 st : Nat} (hx9 : a9 < 8) (hy9 : c9 < 16) (ht9 : g9 < 2) (hs1 : 1 ≤ st) (hs9 : st ≤ 10) : zMi l yX5_ifFrame wsX5_ifFrame ({ frames := 3, cells := 0, slots := 0, locals := 73 } : Room) [.ref ad.2.2.1, .int (nI a9), .int (nI c9), .int (nI g9), .int (nI st)] G (wCl G ad D) (fun (v : Int32) (D' : zDc) => v = (frV N a9 c9 g9 st).1 ∧ sm D D') (fun D' => wCl G ad D') sz 0 0 := by
  obtain ⟨a, b, x, y1, y2, ya, tr, tv⟩ := ad
  obtain ⟨pp, ⟨sc, SS⟩, S9, E, tn, t9⟩ := D
  obtain ⟨hv, hb, hs, hE, hn9⟩ := h
  have hv : vw S9 N := hv
  have hs : sc ≤ 6 := hs
  have hE : okE E := hE
  have hv0 := hv
  obtain ⟨⟨e0, e1, e2, e3, e4, e5, e6, e7, e8, e9⟩, ha, hd, hr, hl⟩ := hv0
  have hb0 := hb
  obtain ⟨⟨b0, b1, b2, b3, b4, b5, b6, b7, b8, b9, b10⟩, ba, bd, bl⟩ := hb0
  refine zMi_post (kC_ifFrame l G sz a b x y1 y2 ya tr tv pp sc SS S9 E tn t9 hE a9 c9 g9 hx9 hy9 ht9 (nI st) ⟨(z_le (a := 1) rfl rfl (by omega) (by omega)).mpr hs1, (z_le (b := 10) rfl rfl (by omega) (by omega)).mpr hs9⟩) (fun v D' hD => ?_)
  obtain ⟨u, h1, rfl⟩ := hD
  exact ⟨h1.1.trans (frV_ans hv hb hn9 hx9 hy9 ht9 hs9), rfl, rfl, h1.2⟩
set_option maxRecDepth 100000 in
theorem pC_leastStrength (l : Launch) (G : zG) (sz : Nat) (ad : zAd) {D : zDc} {N : zN} {n : Nat} (h : J n D N) : zMi l yX5_leastStrength wsX5_leastStrength ({ frames := 3, cells := 0, slots := 0, locals := 73 } : Room) [.ref ad.2.2.1] G (wCl G ad D) (fun (v : Int32) (D' : zDc) => v = (if 60 ≤ N 0 * N 1 then -1 else nI (11 - N 1)) ∧ sm D D') (fun D' => wCl G ad D') sz 0 0 := by
  obtain ⟨a, b, x, y1, y2, ya, tr, tv⟩ := ad
  obtain ⟨pp, ⟨sc, SS⟩, S9, E, tn, t9⟩ := D
  obtain ⟨hv, hb, hs, hE, hn9⟩ := h
  have hv : vw S9 N := hv
  have hs : sc ≤ 6 := hs
  have hE : okE E := hE
  have hv0 := hv
  obtain ⟨⟨e0, e1, e2, e3, e4, e5, e6, e7, e8, e9⟩, ha, hd, hr, hl⟩ := hv0
  have hb0 := hb
  obtain ⟨⟨b0, b1, b2, b3, b4, b5, b6, b7, b8, b9, b10⟩, ba, bd, bl⟩ := hb0
  refine zMi_post (kC_leastStrength l G sz a b x y1 y2 ya tr tv pp sc SS S9 E tn t9 hE (N 2) (by omega) e2) (fun v D' hD => ?_)
  obtain ⟨u, h1, rfl⟩ := hD
  exact ⟨h1.1.trans (lsC_N hv hb hn9), rfl, rfl, h1.2⟩
set_option maxRecDepth 100000 in
theorem pC_refusalsToCome (l : Launch) (G : zG) (sz : Nat) (ad : zAd) {D : zDc} {N : zN} {n : Nat} (h : J n D N) : zMi l yX5_refusalsToCome wsX5_refusalsToCome ({ frames := 3, cells := 0, slots := 0, locals := 73 } : Room) [.ref ad.2.2.1] G (wCl G ad D) (fun (v : Int32) (D' : zDc) => rtP N v ∧ sm D D') (fun D' => wCl G ad D') sz 0 0 := by
  obtain ⟨a, b, x, y1, y2, ya, tr, tv⟩ := ad
  obtain ⟨pp, ⟨sc, SS⟩, S9, E, tn, t9⟩ := D
  obtain ⟨hv, hb, hs, hE, hn9⟩ := h
  have hv : vw S9 N := hv
  have hs : sc ≤ 6 := hs
  have hE : okE E := hE
  have hv0 := hv
  obtain ⟨⟨e0, e1, e2, e3, e4, e5, e6, e7, e8, e9⟩, ha, hd, hr, hl⟩ := hv0
  have hb0 := hb
  obtain ⟨⟨b0, b1, b2, b3, b4, b5, b6, b7, b8, b9, b10⟩, ba, bd, bl⟩ := hb0
  refine zMi_post (kC_refusalsToCome l G sz a b x y1 y2 ya tr tv pp sc SS S9 E tn t9 hE (N 2) (by omega) e2) (fun v D' hD => ?_)
  obtain ⟨u, h1, rfl⟩ := hD
  exact ⟨tcP_N hv hb hn9 h1.1, rfl, rfl, h1.2⟩
set_option maxRecDepth 100000 in
theorem pC_frame (l : Launch) (G : zG) (sz : Nat) (ad : zAd) {D : zDc} {N : zN} {n : Nat} (h : J n D N) (hn : n < 9000) {a9 c9 g9 st : Nat} (hx9 : a9 < 8) (hy9 : c9 < 16) (ht9 : g9 < 2) (hs1 : 1 ≤ st) (hs9 : st ≤ 10) : zMi l yX5_frame wsX5_frame ({ frames := 5, cells := 0, slots := 0, locals := 123 } : Room) [.ref ad.2.2.1, .int (nI a9), .int (nI c9), .int (nI g9), .int (nI st)] G (wCl G ad D) (fun (v : Int32) (D' : zDc) => v = (frV N a9 c9 g9 st).1 ∧ J (n + 1) D' (frV N a9 c9 g9 st).2 ∧ pu D D') (fun D' => wCl G ad D') sz 0 0 := by
  obtain ⟨a, b, x, y1, y2, ya, tr, tv⟩ := ad
  obtain ⟨pp, ⟨sc, SS⟩, S9, E, tn, t9⟩ := D
  obtain ⟨hv, hb, hs, hE, hn9⟩ := h
  have hv : vw S9 N := hv
  have hs : sc ≤ 6 := hs
  have hE : okE E := hE
  have hv0 := hv
  obtain ⟨⟨e0, e1, e2, e3, e4, e5, e6, e7, e8, e9⟩, ha, hd, hr, hl⟩ := hv0
  have hb0 := hb
  obtain ⟨⟨b0, b1, b2, b3, b4, b5, b6, b7, b8, b9, b10⟩, ba, bd, bl⟩ := hb0
  refine zMi_post (kC_frame l G sz a b x y1 y2 ya tr tv pp sc SS S9 E tn t9 hs (N 3) (by omega) e3 hE a9 c9 g9 hx9 hy9 ht9 (nI st) ⟨(z_le (a := 1) rfl rfl (by omega) (by omega)).mpr hs1, (z_le (b := 10) rfl rfl (by omega) (by omega)).mpr hs9⟩) (fun v D' hD => ?_)
  obtain ⟨u, h1, rfl⟩ := hD
  obtain ⟨h1, h2, h3, h4⟩ := h1
  obtain ⟨eo, ho⟩ := fr_okO hv hb hx9 hy9 ht9 hs9
  obtain ⟨q1, q2, q3⟩ := hear_N (lc := S9.2.2) hv hb (by omega) ho (S9.2.1 3) (by omega)
  rw [← h2, eo, hl] at q2
  rw [← h2, eo] at q1
  rw [eo, hl] at q3
  refine ⟨h1.trans q1, ⟨?_, ?_, svK_le hs h4, h3, hn⟩, fun k F hk ht => (tp_push hs ht hk h4).1⟩
  · show vw (mkS u.2.1.2.1 (S9.2.1 0) u.2.1.2.2.1 u.2.1.2.2.2 (S9.2.1 3) S9.2.2) (frV N a9 c9 g9 st).2
    rw [hl]
    rw [← fr60 hb hx9 hy9 ht9]
    exact q2
  · rw [← fr60 hb hx9 hy9 ht9]
    exact q3
set_option maxRecDepth 100000 in
theorem pC_repeat (l : Launch) (G : zG) (sz : Nat) (ad : zAd) {D : zDc} {N : zN} {n : Nat} (h : J n D N) (hn : n < 9000) {st : Nat} (hs1 : 1 ≤ st) (hs9 : st ≤ 10) : zMi l yX5_repeat wsX5_repeat ({ frames := 5, cells := 0, slots := 0, locals := 123 } : Room) [.ref ad.2.2.1, .int (nI st)] G (wCl G ad D) (fun (v : Int32) (D' : zDc) => -1 ≤ v ∧ ∃ N', J (n + 1) D' N' ∧ N' 2 = N 2 ∧ N' 8 = N 8 + 1 ∧ N' 60 = N 60) (fun D' => wCl G ad D') sz 0 0 := by
  obtain ⟨a, b, x, y1, y2, ya, tr, tv⟩ := ad
  obtain ⟨pp, ⟨sc, SS⟩, S9, E, tn, t9⟩ := D
  obtain ⟨hv, hb, hs, hE, hn9⟩ := h
  have hv : vw S9 N := hv
  have hs : sc ≤ 6 := hs
  have hE : okE E := hE
  have hv0 := hv
  obtain ⟨⟨e0, e1, e2, e3, e4, e5, e6, e7, e8, e9⟩, ha, hd, hr, hl⟩ := hv0
  have hb0 := hb
  obtain ⟨⟨b0, b1, b2, b3, b4, b5, b6, b7, b8, b9, b10⟩, ba, bd, bl⟩ := hb0
  refine zMi_post (kC_repeat l G sz a b x y1 y2 ya tr tv pp sc SS S9 E tn t9 hs (N 3) (by omega) e3 hE (nI st) ⟨(z_le (a := 1) rfl rfl (by omega) (by omega)).mpr hs1, (z_le (b := 10) rfl rfl (by omega) (by omega)).mpr hs9⟩) (fun v D' hD => ?_)
  obtain ⟨u, h1, rfl⟩ := hD
  obtain ⟨h1, h2, h3, h4⟩ := h1
  obtain ⟨ms, mn, ho⟩ := LO_N rpS 3 (S9.1 0) (S9.1 1) (nI st)
  obtain ⟨q1, q2, q3⟩ := hear_N (lc := S9.2.2) hv hb (by omega) ho (S9.2.1 3) (by omega)
  obtain ⟨g1, g2, g3, -⟩ := he_ge (ms := ms) (w := (LO rpS 3 (S9.1 0) (S9.1 1) (nI st)).2.2) hb ho.2.2.2
  rw [← h2] at q1 q2
  refine ⟨by rw [h1, q1]; exact g1, _, ⟨q2, q3, svK_le hs h4, h3, hn⟩, ?_, ?_, hl⟩
  · rw [va_upN (by omega), g2]
  · rw [va_upN (by omega), g3]
set_option maxRecDepth 100000 in
theorem pC_receive (l : Launch) (G : zG) (sz : Nat) (ad : zAd) {D : zDc} {N : zN} {n : Nat} (h : J n D N) (hn : n < 9000) (hlc : N 60 % 2 = 1) {st : Nat} (hs1 : 1 ≤ st) (hs9 : st ≤ 10) : zMi l yX5_receive wsX5_receive ({ frames := 4, cells := 0, slots := 0, locals := 123 } : Room) [.ref ad.2.2.1, .int (nI st)] G (wCl G ad D) (fun (v : Int32) (D' : zDc) => -1 ≤ v ∧ ∃ N', J (n + 1) D' N' ∧ N' 2 = N 2 ∧ N' 8 = N 8 + 1 ∧ N' 60 = 0) (fun D' => wCl G ad D') sz 0 0 := by
  obtain ⟨a, b, x, y1, y2, ya, tr, tv⟩ := ad
  obtain ⟨pp, ⟨sc, SS⟩, S9, E, tn, t9⟩ := D
  obtain ⟨hv, hb, hs, hE, hn9⟩ := h
  have hv : vw S9 N := hv
  have hs : sc ≤ 6 := hs
  have hE : okE E := hE
  have hv0 := hv
  obtain ⟨⟨e0, e1, e2, e3, e4, e5, e6, e7, e8, e9⟩, ha, hd, hr, hl⟩ := hv0
  have hb0 := hb
  obtain ⟨⟨b0, b1, b2, b3, b4, b5, b6, b7, b8, b9, b10⟩, ba, bd, bl⟩ := hb0
  refine zMi_post (kC_receive l G sz a b x y1 y2 ya tr tv pp sc SS S9 E tn t9 hs (N 3) (by omega) e3 hE (by omega) (by omega) (nI st) ⟨(z_le (a := 1) rfl rfl (by omega) (by omega)).mpr hs1, (z_le (b := 10) rfl rfl (by omega) (by omega)).mpr hs9⟩) (fun v D' hD => ?_)
  obtain ⟨u, h1, rfl⟩ := hD
  obtain ⟨h1, h2, h3, h4⟩ := h1
  obtain ⟨ms, mn, ho⟩ := LO_N (S9.2.1 3) S9.2.2 (S9.1 0) (S9.1 1) (nI st)
  obtain ⟨q1, q2, q3⟩ := hear_N (lc := 0) hv hb (by omega) ho (S9.2.1 3) (by omega)
  obtain ⟨g1, g2, g3, -⟩ := he_ge (ms := ms) (w := (LO (S9.2.1 3) S9.2.2 (S9.1 0) (S9.1 1) (nI st)).2.2) hb ho.2.2.2
  rw [← h2] at q1 q2
  refine ⟨by rw [h1, q1]; exact g1, _, ⟨q2, q3, svK_le hs h4, h3, hn⟩, ?_, ?_, rfl⟩
  · rw [va_upN (by omega), g2]
  · rw [va_upN (by omega), g3]
set_option maxRecDepth 100000 in
theorem pC_setGlare (l : Launch) (G : zG) (sz : Nat) (ad : zAd) {D : zDc} {N : zN} {n : Nat} (h : J n D N) (hn : n < 9000) {y9 : Nat} (hy9 : y9 ≤ 9) : zMi l yX5_setGlare wsX5_setGlare ({ frames := 4, cells := 0, slots := 0, locals := 123 } : Room) [.ref ad.2.2.1, .int (nI y9)] G (wCl G ad D) (fun (v : Int32) (D' : zDc) => v = nI (N 0) ∧ J (n + 1) D' (va_up N 0 y9)) (fun D' => wCl G ad D') sz 0 0 := by
  obtain ⟨a, b, x, y1, y2, ya, tr, tv⟩ := ad
  obtain ⟨pp, ⟨sc, SS⟩, S9, E, tn, t9⟩ := D
  obtain ⟨hv, hb, hs, hE, hn9⟩ := h
  have hv : vw S9 N := hv
  have hs : sc ≤ 6 := hs
  have hE : okE E := hE
  have hv0 := hv
  obtain ⟨⟨e0, e1, e2, e3, e4, e5, e6, e7, e8, e9⟩, ha, hd, hr, hl⟩ := hv0
  have hb0 := hb
  obtain ⟨⟨b0, b1, b2, b3, b4, b5, b6, b7, b8, b9, b10⟩, ba, bd, bl⟩ := hb0
  refine zMi_post (kC_setGlare l G sz a b x y1 y2 ya tr tv pp sc SS S9 E tn t9 hs (nI y9) ⟨(z_le (a := 0) rfl rfl (by omega) (by omega)).mpr (by omega), (z_le (b := 9) rfl rfl (by omega) (by omega)).mpr (by omega)⟩) (fun v D' hD => ?_)
  obtain ⟨u, h1, rfl⟩ := hD
  obtain ⟨q1, q2⟩ := vw_0 (x := S9.2.1 3) hv hb hy9
  exact ⟨h1.1.trans e0, q1, q2, svK_le hs h1.2, hE, hn⟩
set_option maxRecDepth 100000 in
theorem pC_setAddress (l : Launch) (G : zG) (sz : Nat) (ad : zAd) {D : zDc} {N : zN} {n : Nat} (h : J n D N) (hn : n < 9000) {y9 : Nat} (hy9 : y9 ≤ 7) : zMi l yX5_setAddress wsX5_setAddress ({ frames := 4, cells := 0, slots := 0, locals := 123 } : Room) [.ref ad.2.2.1, .int (nI y9)] G (wCl G ad D) (fun (v : Int32) (D' : zDc) => v = nI (N 2) ∧ J (n + 1) D' (va_up N 2 y9)) (fun D' => wCl G ad D') sz 0 0 := by
  obtain ⟨a, b, x, y1, y2, ya, tr, tv⟩ := ad
  obtain ⟨pp, ⟨sc, SS⟩, S9, E, tn, t9⟩ := D
  obtain ⟨hv, hb, hs, hE, hn9⟩ := h
  have hv : vw S9 N := hv
  have hs : sc ≤ 6 := hs
  have hE : okE E := hE
  have hv0 := hv
  obtain ⟨⟨e0, e1, e2, e3, e4, e5, e6, e7, e8, e9⟩, ha, hd, hr, hl⟩ := hv0
  have hb0 := hb
  obtain ⟨⟨b0, b1, b2, b3, b4, b5, b6, b7, b8, b9, b10⟩, ba, bd, bl⟩ := hb0
  refine zMi_post (kC_setAddress l G sz a b x y1 y2 ya tr tv pp sc SS S9 E tn t9 hs (nI y9) ⟨(z_le (a := 0) rfl rfl (by omega) (by omega)).mpr (by omega), (z_le (b := 7) rfl rfl (by omega) (by omega)).mpr (by omega)⟩) (fun v D' hD => ?_)
  obtain ⟨u, h1, rfl⟩ := hD
  obtain ⟨q1, q2⟩ := vw_2 (x := S9.2.1 3) hv hb hy9
  exact ⟨h1.1.trans e2, q1, q2, svK_le hs h1.2, hE, hn⟩
set_option maxRecDepth 100000 in
theorem pC_learn (l : Launch) (G : zG) (sz : Nat) (ad : zAd) {D : zDc} {N : zN} {n : Nat} (h : J n D N) (hn : n < 9000) {k9 y9 : Nat} (hk9 : k9 < 16) (hy9 : y9 ≤ 2) : zMi l yX5_learn wsX5_learn ({ frames := 4, cells := 0, slots := 0, locals := 123 } : Room) [.ref ad.2.2.1, .int (nI k9), .int (nI y9)] G (wCl G ad D) (fun (v : Int32) (D' : zDc) => v = nI (N (16 + k9)) ∧ J (n + 1) D' (va_up N (16 + k9) y9)) (fun D' => wCl G ad D') sz 0 0 := by
  obtain ⟨a, b, x, y1, y2, ya, tr, tv⟩ := ad
  obtain ⟨pp, ⟨sc, SS⟩, S9, E, tn, t9⟩ := D
  obtain ⟨hv, hb, hs, hE, hn9⟩ := h
  have hv : vw S9 N := hv
  have hs : sc ≤ 6 := hs
  have hE : okE E := hE
  have hv0 := hv
  obtain ⟨⟨e0, e1, e2, e3, e4, e5, e6, e7, e8, e9⟩, ha, hd, hr, hl⟩ := hv0
  have hb0 := hb
  obtain ⟨⟨b0, b1, b2, b3, b4, b5, b6, b7, b8, b9, b10⟩, ba, bd, bl⟩ := hb0
  refine zMi_post (kC_learn l G sz a b x y1 y2 ya tr tv pp sc SS S9 E tn t9 hs k9 hk9 (nI y9) ⟨(z_le (a := 0) rfl rfl (by omega) (by omega)).mpr (by omega), (z_le (b := 2) rfl rfl (by omega) (by omega)).mpr (by omega)⟩) (fun v D' hD => ?_)
  obtain ⟨u, h1, rfl⟩ := hD
  obtain ⟨q1, q2⟩ := vw_a (x := S9.2.1 3) hv hb hk9 hy9
  exact ⟨h1.1.trans (ha k9 hk9), q1, q2, svK_le hs h1.2, hE, hn⟩
set_option maxRecDepth 100000 in
theorem pC_shine (l : Launch) (G : zG) (sz : Nat) (ad : zAd) {D : zDc} {N : zN} {n : Nat} (h : J n D N) (hn : n < 9000) {y9 : Nat} (hy1 : 1 ≤ y9) (hy9 : y9 ≤ 40) (hlc : N 60 < 30) : zMi l yX5_shine wsX5_shine ({ frames := 4, cells := 0, slots := 0, locals := 123 } : Room) [.ref ad.2.2.1, .int (nI y9)] G (wCl G ad D) (fun (v : Int32) (D' : zDc) => v = nI (N 60 + 1) ∧ J (n + 1) D' (va_up N 60 (N 60 + 1))) (fun D' => wCl G ad D') sz 0 0 := by
  obtain ⟨a, b, x, y1, y2, ya, tr, tv⟩ := ad
  obtain ⟨pp, ⟨sc, SS⟩, S9, E, tn, t9⟩ := D
  obtain ⟨hv, hb, hs, hE, hn9⟩ := h
  have hv : vw S9 N := hv
  have hs : sc ≤ 6 := hs
  have hE : okE E := hE
  have hv0 := hv
  obtain ⟨⟨e0, e1, e2, e3, e4, e5, e6, e7, e8, e9⟩, ha, hd, hr, hl⟩ := hv0
  have hb0 := hb
  obtain ⟨⟨b0, b1, b2, b3, b4, b5, b6, b7, b8, b9, b10⟩, ba, bd, bl⟩ := hb0
  refine zMi_post (kC_shine l G sz a b x y1 y2 ya tr tv pp sc SS S9 E tn t9 hs (by omega) (nI y9) ⟨(z_le (a := 1) rfl rfl (by omega) (by omega)).mpr (by omega), (z_le (b := 40) rfl rfl (by omega) (by omega)).mpr (by omega)⟩) (fun v D' hD => ?_)
  obtain ⟨u, h1, rfl⟩ := hD
  obtain ⟨q1, q2⟩ := vw_l (x := upd (S9.2.1 3) S9.2.2 (nI y9)) (y := N 60 + 1) hv hb (by omega)
  refine ⟨by rw [h1.1, hl], ?_, q2, svK_le hs h1.2, hE, hn⟩
  rw [← hl] at q1 ⊢
  exact q1
set_option maxRecDepth 100000 in
theorem pC_pass (l : Launch) (G : zG) (sz : Nat) (ad : zAd) {D : zDc} {N : zN} {n : Nat} (h : J n D N) (hn : n < 9000) {y9 : Nat} (hy1 : 1 ≤ y9) (hy9 : y9 ≤ 99) : zMi l yX5_pass wsX5_pass ({ frames := 4, cells := 0, slots := 0, locals := 123 } : Room) [.ref ad.2.2.1, .int (nI y9)] G (wCl G ad D) (fun (v : Int32) (D' : zDc) => v = nI (paN N y9 6) - 1 ∧ J (n + 1) D' (paN N y9) ∧ pu D D') (fun D' => wCl G ad D') sz 0 0 := by
  obtain ⟨a, b, x, y1, y2, ya, tr, tv⟩ := ad
  obtain ⟨pp, ⟨sc, SS⟩, S9, E, tn, t9⟩ := D
  obtain ⟨hv, hb, hs, hE, hn9⟩ := h
  have hv : vw S9 N := hv
  have hs : sc ≤ 6 := hs
  have hE : okE E := hE
  have hv0 := hv
  obtain ⟨⟨e0, e1, e2, e3, e4, e5, e6, e7, e8, e9⟩, ha, hd, hr, hl⟩ := hv0
  have hb0 := hb
  obtain ⟨⟨b0, b1, b2, b3, b4, b5, b6, b7, b8, b9, b10⟩, ba, bd, bl⟩ := hb0
  refine zMi_post (kC_pass l G sz a b x y1 y2 ya tr tv pp sc SS S9 E tn t9 hs (nI y9) ⟨(z_le (a := 1) rfl rfl (by omega) (by omega)).mpr (by omega), (z_le (b := 99) rfl rfl (by omega) (by omega)).mpr (by omega)⟩) (fun v D' hD => ?_)
  obtain ⟨u, h1, rfl⟩ := hD
  obtain ⟨h1, h2, h3⟩ := h1
  obtain ⟨q1, q2, q3⟩ := vw_6 (y := S9.2.1 3) hv hb hn9 hy9 h2
  exact ⟨h1.trans q3, ⟨q1, q2, svK_le hs h3, hE, hn⟩, fun k F hk ht => (tp_push hs ht hk h3).1⟩
set_option maxRecDepth 100000 in
theorem pC_undo (l : Launch) (G : zG) (sz : Nat) (ad : zAd) {D : zDc} {N : zN} {n : Nat} (h : J n D N) {k : Nat} {F : Nat → zSt} (ht : tp D (k + 1) F) : zMi l yX5_undo wsX5_undo ({ frames := 4, cells := 0, slots := 0, locals := 123 } : Room) [.ref ad.2.2.1] G (wCl G ad D) (fun (v : Int32) (D' : zDc) => (∃ j, j ≤ 5 ∧ v = nI j) ∧ po D D' k F) (fun D' => wCl G ad D') sz 0 0 := by
  obtain ⟨a, b, x, y1, y2, ya, tr, tv⟩ := ad
  obtain ⟨pp, ⟨sc, SS⟩, S9, E, tn, t9⟩ := D
  obtain ⟨hv, hb, hs, hE, hn9⟩ := h
  have hv : vw S9 N := hv
  have hs : sc ≤ 6 := hs
  have hE : okE E := hE
  have hv0 := hv
  obtain ⟨⟨e0, e1, e2, e3, e4, e5, e6, e7, e8, e9⟩, ha, hd, hr, hl⟩ := hv0
  have hb0 := hb
  obtain ⟨⟨b0, b1, b2, b3, b4, b5, b6, b7, b8, b9, b10⟩, ba, bd, bl⟩ := hb0
  refine zMi_post (kC_undo l G sz a b x y1 y2 ya tr tv pp sc SS S9 E tn t9 hs (tp_pop ht).1) (fun v D' hD => ?_)
  obtain ⟨u, h1, rfl⟩ := hD
  obtain ⟨p1, p2, p3⟩ := tp_pop ht
  exact ⟨⟨sc - 1, by omega, h1⟩, p2, p3 _ _ _ _, by show sc - 1 ≤ 6; omega, hE⟩
set_option maxRecDepth 100000 in
theorem pC_hitShare (l : Launch) (G : zG) (sz : Nat) (ad : zAd) {D : zDc} {N : zN} {n : Nat} (h : J n D N) : zMd l yX5_hitShare wsX5_hitShare ({ frames := 0, cells := 0, slots := 0, locals := 0 } : Room) [.ref ad.2.2.1] G (wCl G ad D) (fun (v : UInt64) (D' : zDc) => shP (nI (N 8)) (nI (N 9)) v ∧ D' = D) (fun D' => wCl G ad D') sz 0 0 := by
  obtain ⟨a, b, x, y1, y2, ya, tr, tv⟩ := ad
  obtain ⟨pp, ⟨sc, SS⟩, S9, E, tn, t9⟩ := D
  obtain ⟨hv, hb, hs, hE, hn9⟩ := h
  have hv : vw S9 N := hv
  have hs : sc ≤ 6 := hs
  have hE : okE E := hE
  have hv0 := hv
  obtain ⟨⟨e0, e1, e2, e3, e4, e5, e6, e7, e8, e9⟩, ha, hd, hr, hl⟩ := hv0
  have hb0 := hb
  obtain ⟨⟨b0, b1, b2, b3, b4, b5, b6, b7, b8, b9, b10⟩, ba, bd, bl⟩ := hb0
  refine zMd_post (kC_hitShare l G sz a b x y1 y2 ya tr tv pp sc SS S9 E tn t9) (fun v D' hD => ?_)
  obtain ⟨u, h1, rfl⟩ := hD
  rw [e8, e9] at h1
  exact ⟨h1, rfl⟩
end PC
