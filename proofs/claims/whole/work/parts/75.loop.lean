section LOOP
set_option maxRecDepth 100000 in
set_option maxHeartbeats 4000000 in
/-- the law's loop: k iterations are behind; some n are ahead -/
theorem law_loop {p : Program} {l : Launch} {e : Env} {s : State} {m : MethodId} {below : List Frame} {meth : Method} {c : Code} {bs L : Nat} {xs : Nat → Int32} {G : zG} (hl0 : l.stackTraces = false) (C0 : lwX p s m c bs L xs G (fun z : Nat => s.heap.size ≤ z)) (hr : meth.sig.returnType = ret) (hlocks : meth.locks = false) {ad : zAd} {q : Nat} {d : Nat → Nat} :
    ∀ (n k : Nat), 5 * k ≤ L + 4 → L + 5 ≤ 5 * (k + n) → ∀ (D : zDc) (M : zRd) (ov : Nat → Int64) (d0 : Drawn) (H : Heap) (locs : List Loc) (ls : Array Slot), s.drawn.sameBut d0 lw_cs → relA (6200 * k) D M → va_P G.1 vwCl ((wO G q ov ++ wCl G ad D) ++ wMd G d M) H → va_D (fun z : Nat => s.heap.size ≤ z) ((wO G q ov ++ wCl G ad D) ++ wMd G d M) → va_S (fun z : Nat => s.heap.size ≤ z) s.heap H locs → lv_has ls 9 [(4, .int (nI (5 * k))), (3, .ref q), (2, .ref (d 0)), (1, .ref ad.2.2.1), (0, .ref bs)] →
      W p l e room_1 (s.setDrawn d0) m #[Value.ref bs] below meth c H locs (100 + k) (2000 + 6 * k) (lw_Z below #[Value.ref bs] s) (F0 m 23 ls []) := by
  intro n
  induction n with
  | zero =>
    intro k h1 h2
    exact absurd h2 (by omega)
  | succ n ih =>
    intro k h1 h2 D M ov d0 H locs ls hd0 hR hP hD hS hl
    have C1 := C0.drawn d0
    obtain ⟨hx, hb, hml, hown, hts, hX, hbl, hbA, hK, hZ, hN, hA, hL⟩ := id C1
    refine lv_iload hx hb dL_law_23 (lv_at hl 0 rfl) ?_
    refine lv_aload_n hx hb dL_law_25 rfl (lv_at hl 4 rfl) ?_
    refine va_slen hx hb hX hbl hbA hS dL_law_26 ?_
    refine lv_iconst (v := 5) hx hb dL_law_27 (by decide) ?_
    refine lv_isub hx hb dL_law_28 ?_
    have e5 : (Int32.ofNat L - 5).toInt = (L : Int) - 5 := by
      have a : (Int32.ofNat L).toInt = (L : Int) := nI_toInt (n := L) (by omega)
      have b : (5 : Int32).toInt = 5 := by decide
      rw [z_toInt_sub (by omega) (by omega) (by omega) (by omega), a, b]
    have ek : (nI (5 * k)).toInt = ((5 * k : Nat) : Int) := nI_toInt (by omega)
    refine lv_icmp_gt (tgt := 1398) hx hb dL_law_29 (by decide) (fun c1 => ?_) (fun c1 => ?_)
    · refine lv_iconst (v := 1) hx hb dL_law_1398 (by decide) ?_
      refine va_forget (fun z hz => hS.2.2 z hz) ?_
      refine W.widen (k := 601024) (n := 7293034) (by omega) (by omega) ?_
      exact lw_ret hd0 hx hb hr hlocks dL_law_1399
    · have hi : 5 * k + 4 < L := by
        have z : ¬ (Int32.ofNat L - 5).toInt < (nI (5 * k)).toInt := fun y => c1 (Int32.lt_iff_toInt_lt.mpr y)
        rw [e5, ek] at z
        omega
      refine lv_aload_n hx hb dL_law_32 rfl (lv_at hl 4 rfl) ?_
      refine lv_iload hx hb dL_law_33 (lv_at hl 0 rfl) ?_
      refine z_sld hx hb hX hbl hbA hS (5 * k) rfl (by omega) hL dL_law_35 ?_
      refine lv_bipush (v := 31) hx hb dL_law_36 (by decide) ?_
      refine lv_iand hx hb dL_law_38 ?_
      obtain ⟨j, hj, ej⟩ := z_m31 (xs (5 * k))
      refine z_top ej ?_
      have hk : k ≤ 512 := by omega
      have NEXT : ∀ (D' : zDc) (ov' : Nat → Int64) (M' : zRd) (H : Heap) (locs : List Loc) (ls : Array Slot) (d1 : Drawn), s.drawn.sameBut d1 lw_cs → relA (6200 * k + 6200) D' M' → va_P G.1 vwCl ((wO G q ov' ++ wCl G ad D') ++ wMd G d M') H → va_D (fun z : Nat => s.heap.size ≤ z) ((wO G q ov' ++ wCl G ad D') ++ wMd G d M') → va_S (fun z : Nat => s.heap.size ≤ z) s.heap H locs → lv_has ls 9 [(4, .int (nI (5 * k))), (3, .ref q), (2, .ref (d 0)), (1, .ref ad.2.2.1), (0, .ref bs)] →
          W p l e room_1 (s.setDrawn d1) m #[Value.ref bs] below meth c H locs (100 + k + 1) (2000 + 6 * k + 6) (lw_Z below #[Value.ref bs] s) (F0 m 1392 ls []) := by
        intro D' ov' M' H locs ls d1 hd1 hR hP hD hS hl
        refine lv_iinc (v := nI (5 * (k + 1))) (lv' := [(4, .int (nI (5 * (k + 1)))), (3, .ref q), (2, .ref (d 0)), (1, .ref ad.2.2.1), (0, .ref bs)]) hx hb dL_law_1392 hl (k := 0) rfl (by rw [Nat.mul_add]; exact nI_add (5 * k) 5) (by decide) rfl (fun ls hl => ?_)
        refine lv_goto (tgt := 23) hx hb dL_law_1395 (by decide) ?_
        refine W.widen (k := 100 + (k + 1)) (n := 2000 + 6 * (k + 1)) (by omega) (by omega) ?_
        exact ih (k + 1) (by omega) (by omega) D' M' ov' d1 H locs ls hd1 (by rw [Nat.mul_add]; exact hR) hP hD hS hl
      have hB : 6200 * k < 90000000 := by omega
      have hc : 100 + k + 1 ≤ 601024 := by omega
      have hs : 2000 + 6 * k + 6 ≤ 7293034 := by omega
      rcases (show j = 0 ∨ j = 1 ∨ j = 2 ∨ j = 3 ∨ j = 4 ∨ j = 5 ∨ j = 6 ∨ j = 7 ∨ j = 8 ∨ j = 9 ∨ j = 10 ∨ j = 11 ∨ j = 12 ∨ j = 13 ∨ j = 14 ∨ j = 15 ∨ j = 16 ∨ j = 17 ∨ j = 18 ∨ j = 19 ∨ j = 20 ∨ j = 21 ∨ j = 22 ∨ j = 23 ∨ j = 24 ∨ j = 25 ∨ j = 26 ∨ j = 27 ∨ j = 28 ∨ j = 29 ∨ j = 30 ∨ j = 31 by omega) with rfl | rfl | rfl | rfl | rfl | rfl | rfl | rfl | rfl | rfl | rfl | rfl | rfl | rfl | rfl | rfl | rfl | rfl | rfl | rfl | rfl | rfl | rfl | rfl | rfl | rfl | rfl | rfl | rfl | rfl | rfl | rfl
      · refine lv_tableIn (x := nI 0) (off := 137) (tgt := 176) hx hb dL_law_39 (by decide) (by decide) (by decide) (by decide) ?_
        exact lc_frame C1 hi (st_frame hl0 hB hR (xs (5 * k + 1)) (xs (5 * k + 2)) (xs (5 * k + 3)) (xs (5 * k + 4))) hl hP hD hS hc hs (fun D' ov' M' H locs ls a1 a2 a3 a4 a5 => NEXT D' ov' M' H locs ls d0 hd0 a1 a2 a3 a4 a5)
      · refine lv_tableIn (x := nI 1) (off := 229) (tgt := 268) hx hb dL_law_39 (by decide) (by decide) (by decide) (by decide) ?_
        exact lc_repeat C1 hi (st_repeat hl0 hB hR (xs (5 * k + 1))) hl hP hD hS hc hs (fun D' ov' M' H locs ls a1 a2 a3 a4 a5 => NEXT D' ov' M' H locs ls d0 hd0 a1 a2 a3 a4 a5)
      · refine lv_tableIn (x := nI 2) (off := 285) (tgt := 324) hx hb dL_law_39 (by decide) (by decide) (by decide) (by decide) ?_
        exact lc_receive C1 hi (st_receive hl0 hB hR (xs (5 * k + 1))) hl hP hD hS hc hs (fun D' ov' M' H locs ls a1 a2 a3 a4 a5 => NEXT D' ov' M' H locs ls d0 hd0 a1 a2 a3 a4 a5)
      · refine lv_tableIn (x := nI 3) (off := 341) (tgt := 380) hx hb dL_law_39 (by decide) (by decide) (by decide) (by decide) ?_
        exact lc_shine C1 hi (st_shine hl0 hB hR (xs (5 * k + 1))) hl hP hD hS hc hs (fun D' ov' M' H locs ls a1 a2 a3 a4 a5 => NEXT D' ov' M' H locs ls d0 hd0 a1 a2 a3 a4 a5)
      · refine lv_tableIn (x := nI 4) (off := 397) (tgt := 436) hx hb dL_law_39 (by decide) (by decide) (by decide) (by decide) ?_
        exact lc_pass C1 hi (st_pass hl0 hB hR (xs (5 * k + 1))) hl hP hD hS hc hs (fun D' ov' M' H locs ls a1 a2 a3 a4 a5 => NEXT D' ov' M' H locs ls d0 hd0 a1 a2 a3 a4 a5)
      · refine lv_tableIn (x := nI 5) (off := 453) (tgt := 492) hx hb dL_law_39 (by decide) (by decide) (by decide) (by decide) ?_
        exact lc_setGlare C1 hi (st_setGlare hl0 hB hR (xs (5 * k + 1))) hl hP hD hS hc hs (fun D' ov' M' H locs ls a1 a2 a3 a4 a5 => NEXT D' ov' M' H locs ls d0 hd0 a1 a2 a3 a4 a5)
      · refine lv_tableIn (x := nI 6) (off := 509) (tgt := 548) hx hb dL_law_39 (by decide) (by decide) (by decide) (by decide) ?_
        exact lc_setAddress C1 hi (st_setAddress hl0 hB hR (xs (5 * k + 1))) hl hP hD hS hc hs (fun D' ov' M' H locs ls a1 a2 a3 a4 a5 => NEXT D' ov' M' H locs ls d0 hd0 a1 a2 a3 a4 a5)
      · refine lv_tableIn (x := nI 7) (off := 565) (tgt := 604) hx hb dL_law_39 (by decide) (by decide) (by decide) (by decide) ?_
        exact lc_learn C1 hi (st_learn hl0 hB hR (xs (5 * k + 1)) (xs (5 * k + 2))) hl hP hD hS hc hs (fun D' ov' M' H locs ls a1 a2 a3 a4 a5 => NEXT D' ov' M' H locs ls d0 hd0 a1 a2 a3 a4 a5)
      · refine lv_tableIn (x := nI 8) (off := 633) (tgt := 672) hx hb dL_law_39 (by decide) (by decide) (by decide) (by decide) ?_
        exact lc_glare C1 (st_glare hB hR) hl hP hD hS hc hs (fun D' ov' M' H locs ls a1 a2 a3 a4 a5 => NEXT D' ov' M' H locs ls d0 hd0 a1 a2 a3 a4 a5)
      · refine lv_tableIn (x := nI 9) (off := 646) (tgt := 685) hx hb dL_law_39 (by decide) (by decide) (by decide) (by decide) ?_
        exact lc_gain C1 (st_gain hB hR) hl hP hD hS hc hs (fun D' ov' M' H locs ls a1 a2 a3 a4 a5 => NEXT D' ov' M' H locs ls d0 hd0 a1 a2 a3 a4 a5)
      · refine lv_tableIn (x := nI 10) (off := 659) (tgt := 698) hx hb dL_law_39 (by decide) (by decide) (by decide) (by decide) ?_
        exact lc_action C1 hi (st_action hl0 hB hR (xs (5 * k + 1))) hl hP hD hS hc hs (fun D' ov' M' H locs ls a1 a2 a3 a4 a5 => NEXT D' ov' M' H locs ls d0 hd0 a1 a2 a3 a4 a5)
      · refine lv_tableIn (x := nI 11) (off := 715) (tgt := 754) hx hb dL_law_39 (by decide) (by decide) (by decide) (by decide) ?_
        exact lc_done C1 hi (st_done hl0 hB hR (xs (5 * k + 1))) hl hP hD hS hc hs (fun D' ov' M' H locs ls a1 a2 a3 a4 a5 => NEXT D' ov' M' H locs ls d0 hd0 a1 a2 a3 a4 a5)
      · refine lv_tableIn (x := nI 12) (off := 771) (tgt := 810) hx hb dL_law_39 (by decide) (by decide) (by decide) (by decide) ?_
        exact lc_remembered C1 (st_remembered hB hR) hl hP hD hS hc hs (fun D' ov' M' H locs ls a1 a2 a3 a4 a5 => NEXT D' ov' M' H locs ls d0 hd0 a1 a2 a3 a4 a5)
      · refine lv_tableIn (x := nI 13) (off := 784) (tgt := 823) hx hb dL_law_39 (by decide) (by decide) (by decide) (by decide) ?_
        exact lc_holds C1 (st_holds hB hR) hl hP hD hS hc hs (fun D' ov' M' H locs ls a1 a2 a3 a4 a5 => NEXT D' ov' M' H locs ls d0 hd0 a1 a2 a3 a4 a5)
      · refine lv_tableIn (x := nI 14) (off := 797) (tgt := 836) hx hb dL_law_39 (by decide) (by decide) (by decide) (by decide) ?_
        exact lc_presses C1 (st_presses hB hR) hl hP hD hS hc hs (fun D' ov' M' H locs ls a1 a2 a3 a4 a5 => NEXT D' ov' M' H locs ls d0 hd0 a1 a2 a3 a4 a5)
      · refine lv_tableIn (x := nI 15) (off := 810) (tgt := 849) hx hb dL_law_39 (by decide) (by decide) (by decide) (by decide) ?_
        exact lc_refused C1 hi (st_refused hl0 hB hR (xs (5 * k + 1))) hl hP hD hS hc hs (fun D' ov' M' H locs ls a1 a2 a3 a4 a5 => NEXT D' ov' M' H locs ls d0 hd0 a1 a2 a3 a4 a5)
      · refine lv_tableIn (x := nI 16) (off := 866) (tgt := 905) hx hb dL_law_39 (by decide) (by decide) (by decide) (by decide) ?_
        exact lc_row C1 (st_row hB hR) hl hP hD hS hc hs (fun D' ov' M' H locs ls a1 a2 a3 a4 a5 => NEXT D' ov' M' H locs ls d0 hd0 a1 a2 a3 a4 a5)
      · refine lv_tableIn (x := nI 17) (off := 879) (tgt := 918) hx hb dL_law_39 (by decide) (by decide) (by decide) (by decide) ?_
        exact lc_received C1 (st_received hB hR) hl hP hD hS hc hs (fun D' ov' M' H locs ls a1 a2 a3 a4 a5 => NEXT D' ov' M' H locs ls d0 hd0 a1 a2 a3 a4 a5)
      · refine lv_tableIn (x := nI 18) (off := 892) (tgt := 931) hx hb dL_law_39 (by decide) (by decide) (by decide) (by decide) ?_
        exact lc_hitShare hd0 C0 (st_hitShare hB hR) hl hP hD hS hc hs (fun D' ov' M' H locs ls d1 hd1 a1 a2 a3 a4 a5 => NEXT D' ov' M' H locs ls d1 hd1 a1 a2 a3 a4 a5)
      · refine lv_tableIn (x := nI 19) (off := 933) (tgt := 972) hx hb dL_law_39 (by decide) (by decide) (by decide) (by decide) ?_
        exact lc_bit C1 hi (st_bit hl0 hB hR (xs (5 * k + 1)) (xs (5 * k + 2)) (xs (5 * k + 3)) (xs (5 * k + 4))) hl hP hD hS hc hs (fun D' ov' M' H locs ls a1 a2 a3 a4 a5 => NEXT D' ov' M' H locs ls d0 hd0 a1 a2 a3 a4 a5)
      · refine lv_tableIn (x := nI 20) (off := 1025) (tgt := 1064) hx hb dL_law_39 (by decide) (by decide) (by decide) (by decide) ?_
        exact lc_ifFrame C1 hi (st_ifFrame hl0 hB hR (xs (5 * k + 1)) (xs (5 * k + 2)) (xs (5 * k + 3)) (xs (5 * k + 4))) hl hP hD hS hc hs (fun D' ov' M' H locs ls a1 a2 a3 a4 a5 => NEXT D' ov' M' H locs ls d0 hd0 a1 a2 a3 a4 a5)
      · refine lv_tableIn (x := nI 21) (off := 1117) (tgt := 1156) hx hb dL_law_39 (by decide) (by decide) (by decide) (by decide) ?_
        exact lc_leastStrength C1 (st_leastStrength hB hR) hl hP hD hS hc hs (fun D' ov' M' H locs ls a1 a2 a3 a4 a5 => NEXT D' ov' M' H locs ls d0 hd0 a1 a2 a3 a4 a5)
      · refine lv_tableIn (x := nI 22) (off := 1130) (tgt := 1169) hx hb dL_law_39 (by decide) (by decide) (by decide) (by decide) ?_
        exact lc_refusalsToCome C1 (st_refusalsToCome hB hR) hl hP hD hS hc hs (fun D' ov' M' H locs ls a1 a2 a3 a4 a5 => NEXT D' ov' M' H locs ls d0 hd0 a1 a2 a3 a4 a5)
      · refine lv_tableIn (x := nI 23) (off := 1143) (tgt := 1182) hx hb dL_law_39 (by decide) (by decide) (by decide) (by decide) ?_
        exact lc_ticksToForget C1 (st_ticksToForget hB hR) hl hP hD hS hc hs (fun D' ov' M' H locs ls a1 a2 a3 a4 a5 => NEXT D' ov' M' H locs ls d0 hd0 a1 a2 a3 a4 a5)
      · refine lv_tableIn (x := nI 24) (off := 1156) (tgt := 1195) hx hb dL_law_39 (by decide) (by decide) (by decide) (by decide) ?_
        exact lc_append C1 hi (st_append hl0 hB hR (xs (5 * k + 1))) hl hP hD hS hc hs (fun D' ov' M' H locs ls a1 a2 a3 a4 a5 => NEXT D' ov' M' H locs ls d0 hd0 a1 a2 a3 a4 a5)
      · refine lv_tableIn (x := nI 25) (off := 1212) (tgt := 1251) hx hb dL_law_39 (by decide) (by decide) (by decide) (by decide) ?_
        exact lc_clearText C1 (st_clearText hB hR) hl hP hD hS hc hs (fun D' ov' M' H locs ls a1 a2 a3 a4 a5 => NEXT D' ov' M' H locs ls d0 hd0 a1 a2 a3 a4 a5)
      · refine lv_tableIn (x := nI 26) (off := 1225) (tgt := 1264) hx hb dL_law_39 (by decide) (by decide) (by decide) (by decide) ?_
        exact lc_firstError C1 (st_firstError hB hR) hl hP hD hS hc hs (fun D' ov' M' H locs ls a1 a2 a3 a4 a5 => NEXT D' ov' M' H locs ls d0 hd0 a1 a2 a3 a4 a5)
      · refine lv_tableIn (x := nI 27) (off := 1238) (tgt := 1277) hx hb dL_law_39 (by decide) (by decide) (by decide) (by decide) ?_
        exact lc_run C1 hi (st_run hl0 hB hR) hl hP hD hS hc hs (fun D' ov' M' H locs ls a1 a2 a3 a4 a5 => NEXT D' ov' M' H locs ls d0 hd0 a1 a2 a3 a4 a5)
      · refine lv_tableIn (x := nI 28) (off := 1282) (tgt := 1321) hx hb dL_law_39 (by decide) (by decide) (by decide) (by decide) ?_
        exact lc_undo C1 hi (st_undo hl0 hB hR) hl hP hD hS hc hs (fun D' ov' M' H locs ls a1 a2 a3 a4 a5 => NEXT D' ov' M' H locs ls d0 hd0 a1 a2 a3 a4 a5)
      · refine lv_tableIn (x := nI 29) (off := 1326) (tgt := 1365) hx hb dL_law_39 (by decide) (by decide) (by decide) (by decide) ?_
        exact lc_savedStates C1 (st_savedStates hB hR) hl hP hD hS hc hs (fun D' ov' M' H locs ls a1 a2 a3 a4 a5 => NEXT D' ov' M' H locs ls d0 hd0 a1 a2 a3 a4 a5)
      · refine lv_tableIn (x := nI 30) (off := 1339) (tgt := 1378) hx hb dL_law_39 (by decide) (by decide) (by decide) (by decide) ?_
        exact lc_digest C1 (st_digest hB hR) hl hP hD hS hc hs (fun D' ov' M' H locs ls a1 a2 a3 a4 a5 => NEXT D' ov' M' H locs ls d0 hd0 a1 a2 a3 a4 a5)
      · refine lv_tableOut (x := nI 31) (tgt := 1392) hx hb dL_law_39 (by decide) (by decide) ?_
        refine W.widen (k := 100 + k + 1) (n := 2000 + 6 * k + 6) (by omega) (by omega) ?_
        exact NEXT D ov M _ _ _ d0 hd0 (relA_mono hR) hP hD hS hl
end LOOP
