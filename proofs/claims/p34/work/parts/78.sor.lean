section PL4
set_option maxHeartbeats 4000000 in
set_option maxRecDepth 100000 in
theorem pL_isFrameSo_r (l : Launch) (G : zG) (sz : Nat) (ad : zAd) {D : zDc} {N M : zN} {n : Nat} (h : J n D N) (hn : n < 8800) {a9 c9 g9 st : Nat} (hx9 : a9 < 8) (hy9 : c9 < 16) (ht9 : g9 < 2) (hs1 : 1 ≤ st) (hs9 : st ≤ 10) {k9 : Nat} (k91 : 1 ≤ k9) (k92 : k9 ≤ 5) (hf : frV N a9 c9 g9 st = ((nI k9), M)) (hC : frC N M) (hR : frR N M c9 (nI k9)) : zMi l yL_isFrameSo wsL_isFrameSo ({ frames := 6, cells := 0, slots := 0, locals := 147 } : Room) [.ref ad.2.2.1, .int (nI a9), .int (nI c9), .int (nI g9), .int (nI st)] G (wCl G ad D) (fun (v : Int32) (D' : zDc) => v = 1 ∧ J n D' N) (fun D' => wCl G ad D') sz 0 0 := by
  refine zMi_of (cc := cL_isFrameSo) (maxL := 19) (ret := (some .boolean)) (by decide) rfl (Nat.le_of_ble_eq_true rfl) ?_
  intro p e s m args below meth c A ls hx hb hr hml hts hown hlocks hnm hK hP hD hAe hS hA hl hsz
  have hown : s.vm.findClass RL = some m.cls := hown
  have hl : lv_has ls 19 [(0, .ref ad.2.2.1), (1, .int (nI a9)), (2, .int (nI c9)), (3, .int (nI g9)), (4, .int (nI st))] := hl
  obtain ⟨⟨b0, b1, b2, b3, b4, b5, b6, b7, b8, b9, b10⟩, ba, bd, bl⟩ := id h.2.1
  have hU := Ud_0 h
  obtain ⟨f8, f0, f2, f1, f10, fg⟩ := hC
  have hba := ba c9 hy9
  have hbd := bd c9 hy9
  obtain ⟨kz, -, -, -, r1, r7, r6, r3, r5, rd⟩ := hR
  have rS : reV M = reV N := reV_same r6 r3
  have hS5 : hoV M = hoV N := hoV_same r6 r5
  have hhb : hoV N ≤ n := by
    unfold hoV
    split <;> omega
  refine lv_aload_n hx hb dL_isFrameSo_0 rfl (lv_at hl 0 rfl) ?_
  refine lv_iload_n hx hb dL_isFrameSo_1 rfl (lv_at hl 1 rfl) ?_
  refine lv_iload_n hx hb dL_isFrameSo_2 rfl (lv_at hl 2 rfl) ?_
  refine lv_iload_n hx hb dL_isFrameSo_3 rfl (lv_at hl 3 rfl) ?_
  refine lv_iload hx hb dL_isFrameSo_4 (lv_at hl 4 rfl) ?_
  refine z_callM (val := (nI k9)) (va_runV (As := [.int (nI a9), .int (nI c9), .int (nI g9), .int (nI st)]) (rest := []) ⟨hx, hb, hml, hown, hts⟩ (pC_ifFrame' l G s.heap.size ad h hU (a9 := a9) (c9 := c9) (g9 := g9) (st := st) hx9 hy9 ht9 hs1 hs9 (V := (nI k9)) (congrArg Prod.fst hf)) (cwV 4 hts gL_isFrameSo_X5_ifFrame rfl rfl rfl (by decide +kernel) ⟨(Nat.le_of_ble_eq_true rfl), (Nat.le_of_ble_eq_true rfl)⟩) (zV (ci := 5) (q0 := 0) hK hP hD rfl (wCl_0 G ad D)) rfl rfl hl.1 rfl (lv_room (Nat.le_of_ble_eq_true rfl)) dL_isFrameSo_6 ⟨(Nat.le_of_ble_eq_true rfl), (Nat.le_of_ble_eq_true rfl)⟩) hP hD hS hA (fun D_1 H locs k_1 hP hD hS => ?_)
  refine lv_istore (lv' := [(5, .int (nI k9)), (0, .ref ad.2.2.1), (1, .int (nI a9)), (2, .int (nI c9)), (3, .int (nI g9)), (4, .int (nI st))]) hx hb dL_isFrameSo_9 hl (by decide) rfl (fun ls hl => ?_)
  refine lv_aload_n hx hb dL_isFrameSo_11 rfl (lv_at hl 1 rfl) ?_
  refine z_callG (val := nI (N 1)) (va_runV (As := []) (rest := []) ⟨hx, hb, hml, hown, hts⟩ (pC_gain l G H.size ad k_1.1) (cwV 0 hts gL_isFrameSo_X5_gain rfl rfl rfl (by decide +kernel) ⟨(Nat.le_of_ble_eq_true rfl), (Nat.le_of_ble_eq_true rfl)⟩) (zV (ci := 5) (q0 := 0) hK hP hD rfl (wCl_0 G ad D_1)) rfl rfl hl.1 rfl (lv_room (Nat.le_of_ble_eq_true rfl)) dL_isFrameSo_12 ⟨(Nat.le_of_ble_eq_true rfl), (Nat.le_of_ble_eq_true rfl)⟩) hP hD hS hA (fun H locs hP hD hS => ?_)
  refine lv_istore (lv' := [(6, .int (nI (N 1))), (5, .int (nI k9)), (0, .ref ad.2.2.1), (1, .int (nI a9)), (2, .int (nI c9)), (3, .int (nI g9)), (4, .int (nI st))]) hx hb dL_isFrameSo_15 hl (by decide) rfl (fun ls hl => ?_)
  refine lv_aload_n hx hb dL_isFrameSo_17 rfl (lv_at hl 2 rfl) ?_
  refine z_callG (val := nI (N 8)) (va_runV (As := []) (rest := []) ⟨hx, hb, hml, hown, hts⟩ (pC_received l G H.size ad k_1.1) (cwV 0 hts gL_isFrameSo_X5_received rfl rfl rfl (by decide +kernel) ⟨(Nat.le_of_ble_eq_true rfl), (Nat.le_of_ble_eq_true rfl)⟩) (zV (ci := 5) (q0 := 0) hK hP hD rfl (wCl_0 G ad D_1)) rfl rfl hl.1 rfl (lv_room (Nat.le_of_ble_eq_true rfl)) dL_isFrameSo_18 ⟨(Nat.le_of_ble_eq_true rfl), (Nat.le_of_ble_eq_true rfl)⟩) hP hD hS hA (fun H locs hP hD hS => ?_)
  refine lv_istore (lv' := [(7, .int (nI (N 8))), (6, .int (nI (N 1))), (5, .int (nI k9)), (0, .ref ad.2.2.1), (1, .int (nI a9)), (2, .int (nI c9)), (3, .int (nI g9)), (4, .int (nI st))]) hx hb dL_isFrameSo_21 hl (by decide) rfl (fun ls hl => ?_)
  refine lv_aload_n hx hb dL_isFrameSo_23 rfl (lv_at hl 3 rfl) ?_
  refine z_callG (val := nI (N 7)) (va_runV (As := []) (rest := []) ⟨hx, hb, hml, hown, hts⟩ (pC_presses l G H.size ad k_1.1) (cwV 0 hts gL_isFrameSo_X5_presses rfl rfl rfl (by decide +kernel) ⟨(Nat.le_of_ble_eq_true rfl), (Nat.le_of_ble_eq_true rfl)⟩) (zV (ci := 5) (q0 := 0) hK hP hD rfl (wCl_0 G ad D_1)) rfl rfl hl.1 rfl (lv_room (Nat.le_of_ble_eq_true rfl)) dL_isFrameSo_24 ⟨(Nat.le_of_ble_eq_true rfl), (Nat.le_of_ble_eq_true rfl)⟩) hP hD hS hA (fun H locs hP hD hS => ?_)
  refine lv_istore (lv' := [(8, .int (nI (N 7))), (7, .int (nI (N 8))), (6, .int (nI (N 1))), (5, .int (nI k9)), (0, .ref ad.2.2.1), (1, .int (nI a9)), (2, .int (nI c9)), (3, .int (nI g9)), (4, .int (nI st))]) hx hb dL_isFrameSo_27 hl (by decide) rfl (fun ls hl => ?_)
  refine lv_aload_n hx hb dL_isFrameSo_29 rfl (lv_at hl 4 rfl) ?_
  refine lv_iload_n hx hb dL_isFrameSo_30 rfl (lv_at hl 6 rfl) ?_
  refine z_callG (val := nI (N (32 + c9))) (va_runV (As := [.int (nI c9)]) (rest := []) ⟨hx, hb, hml, hown, hts⟩ (pC_done l G H.size ad k_1.1 (k9 := c9) hy9) (cwV 1 hts gL_isFrameSo_X5_done rfl rfl rfl (by decide +kernel) ⟨(Nat.le_of_ble_eq_true rfl), (Nat.le_of_ble_eq_true rfl)⟩) (zV (ci := 5) (q0 := 0) hK hP hD rfl (wCl_0 G ad D_1)) rfl rfl hl.1 rfl (lv_room (Nat.le_of_ble_eq_true rfl)) dL_isFrameSo_31 ⟨(Nat.le_of_ble_eq_true rfl), (Nat.le_of_ble_eq_true rfl)⟩) hP hD hS hA (fun H locs hP hD hS => ?_)
  refine lv_istore (lv' := [(9, .int (nI (N (32 + c9)))), (8, .int (nI (N 7))), (7, .int (nI (N 8))), (6, .int (nI (N 1))), (5, .int (nI k9)), (0, .ref ad.2.2.1), (1, .int (nI a9)), (2, .int (nI c9)), (3, .int (nI g9)), (4, .int (nI st))]) hx hb dL_isFrameSo_34 hl (by decide) rfl (fun ls hl => ?_)
  refine lv_aload_n hx hb dL_isFrameSo_36 rfl (lv_at hl 5 rfl) ?_
  refine lv_iload_n hx hb dL_isFrameSo_37 rfl (lv_at hl 7 rfl) ?_
  refine z_callG (val := nI (N (16 + c9))) (va_runV (As := [.int (nI c9)]) (rest := []) ⟨hx, hb, hml, hown, hts⟩ (pC_action l G H.size ad k_1.1 (k9 := c9) hy9) (cwV 1 hts gL_isFrameSo_X5_action rfl rfl rfl (by decide +kernel) ⟨(Nat.le_of_ble_eq_true rfl), (Nat.le_of_ble_eq_true rfl)⟩) (zV (ci := 5) (q0 := 0) hK hP hD rfl (wCl_0 G ad D_1)) rfl rfl hl.1 rfl (lv_room (Nat.le_of_ble_eq_true rfl)) dL_isFrameSo_38 ⟨(Nat.le_of_ble_eq_true rfl), (Nat.le_of_ble_eq_true rfl)⟩) hP hD hS hA (fun H locs hP hD hS => ?_)
  refine lv_istore (lv' := [(10, .int (nI (N (16 + c9)))), (9, .int (nI (N (32 + c9)))), (8, .int (nI (N 7))), (7, .int (nI (N 8))), (6, .int (nI (N 1))), (5, .int (nI k9)), (0, .ref ad.2.2.1), (1, .int (nI a9)), (2, .int (nI c9)), (3, .int (nI g9)), (4, .int (nI st))]) hx hb dL_isFrameSo_41 hl (by decide) rfl (fun ls hl => ?_)
  refine lv_aload_n hx hb dL_isFrameSo_43 rfl (lv_at hl 6 rfl) ?_
  refine z_callG (val := nI (hoV N)) (va_runV (As := []) (rest := []) ⟨hx, hb, hml, hown, hts⟩ (pC_holds' l G H.size ad k_1.1 (show (if rem N then nI (N 5) else 0) = nI (hoV N) by unfold hoV; split <;> rfl)) (cwV 0 hts gL_isFrameSo_X5_holds rfl rfl rfl (by decide +kernel) ⟨(Nat.le_of_ble_eq_true rfl), (Nat.le_of_ble_eq_true rfl)⟩) (zV (ci := 5) (q0 := 0) hK hP hD rfl (wCl_0 G ad D_1)) rfl rfl hl.1 rfl (lv_room (Nat.le_of_ble_eq_true rfl)) dL_isFrameSo_44 ⟨(Nat.le_of_ble_eq_true rfl), (Nat.le_of_ble_eq_true rfl)⟩) hP hD hS hA (fun H locs hP hD hS => ?_)
  refine lv_istore (lv' := [(11, .int (nI (hoV N))), (10, .int (nI (N (16 + c9)))), (9, .int (nI (N (32 + c9)))), (8, .int (nI (N 7))), (7, .int (nI (N 8))), (6, .int (nI (N 1))), (5, .int (nI k9)), (0, .ref ad.2.2.1), (1, .int (nI a9)), (2, .int (nI c9)), (3, .int (nI g9)), (4, .int (nI st))]) hx hb dL_isFrameSo_47 hl (by decide) rfl (fun ls hl => ?_)
  refine lv_aload_n hx hb dL_isFrameSo_49 rfl (lv_at hl 7 rfl) ?_
  refine z_callG (val := (reV N)) (va_runV (As := []) (rest := []) ⟨hx, hb, hml, hown, hts⟩ (pC_remembered' l G H.size ad k_1.1 (V := reV N) rfl) (cwV 0 hts gL_isFrameSo_X5_remembered rfl rfl rfl (by decide +kernel) ⟨(Nat.le_of_ble_eq_true rfl), (Nat.le_of_ble_eq_true rfl)⟩) (zV (ci := 5) (q0 := 0) hK hP hD rfl (wCl_0 G ad D_1)) rfl rfl hl.1 rfl (lv_room (Nat.le_of_ble_eq_true rfl)) dL_isFrameSo_50 ⟨(Nat.le_of_ble_eq_true rfl), (Nat.le_of_ble_eq_true rfl)⟩) hP hD hS hA (fun H locs hP hD hS => ?_)
  refine lv_istore (lv' := [(12, .int (reV N)), (11, .int (nI (hoV N))), (10, .int (nI (N (16 + c9)))), (9, .int (nI (N (32 + c9)))), (8, .int (nI (N 7))), (7, .int (nI (N 8))), (6, .int (nI (N 1))), (5, .int (nI k9)), (0, .ref ad.2.2.1), (1, .int (nI a9)), (2, .int (nI c9)), (3, .int (nI g9)), (4, .int (nI st))]) hx hb dL_isFrameSo_53 hl (by decide) rfl (fun ls hl => ?_)
  refine lv_aload_n hx hb dL_isFrameSo_55 rfl (lv_at hl 8 rfl) ?_
  refine z_callG (val := nI (rfs N)) (va_runS (As := [.ref ad.2.2.1]) (rest := []) ⟨hx, hb, hml, hown, hts⟩ (pL_refusals l G H.size ad k_1.1) (va_cwS 1 hts gL_isFrameSo_L_refusals rfl rfl rfl (by decide +kernel) ⟨(Nat.le_of_ble_eq_true rfl), (Nat.le_of_ble_eq_true rfl)⟩) (zS hK hP hD) rfl rfl hl.1 rfl (lv_room (Nat.le_of_ble_eq_true rfl)) dL_isFrameSo_56 ⟨(Nat.le_of_ble_eq_true rfl), (Nat.le_of_ble_eq_true rfl)⟩) hP hD hS hA (fun H locs hP hD hS => ?_)
  refine lv_istore (lv' := [(13, .int (nI (rfs N))), (12, .int (reV N)), (11, .int (nI (hoV N))), (10, .int (nI (N (16 + c9)))), (9, .int (nI (N (32 + c9)))), (8, .int (nI (N 7))), (7, .int (nI (N 8))), (6, .int (nI (N 1))), (5, .int (nI k9)), (0, .ref ad.2.2.1), (1, .int (nI a9)), (2, .int (nI c9)), (3, .int (nI g9)), (4, .int (nI st))]) hx hb dL_isFrameSo_59 hl (by decide) rfl (fun ls hl => ?_)
  refine lv_aload_n hx hb dL_isFrameSo_61 rfl (lv_at hl 9 rfl) ?_
  refine lv_iload_n hx hb dL_isFrameSo_62 rfl (lv_at hl 10 rfl) ?_
  refine lv_iload_n hx hb dL_isFrameSo_63 rfl (lv_at hl 11 rfl) ?_
  refine lv_iload_n hx hb dL_isFrameSo_64 rfl (lv_at hl 12 rfl) ?_
  refine lv_iload hx hb dL_isFrameSo_65 (lv_at hl 13 rfl) ?_
  refine z_callM (val := (nI k9)) (va_runV (As := [.int (nI a9), .int (nI c9), .int (nI g9), .int (nI st)]) (rest := []) ⟨hx, hb, hml, hown, hts⟩ (pC_frame' l G H.size ad k_1.1 (by omega) k_1.2 (by omega) hx9 hy9 ht9 hs1 hs9 (V := (nI k9)) (M := M) hf) (cwV 4 hts gL_isFrameSo_X5_frame rfl rfl rfl (by decide +kernel) ⟨(Nat.le_of_ble_eq_true rfl), (Nat.le_of_ble_eq_true rfl)⟩) (zV (ci := 5) (q0 := 0) hK hP hD rfl (wCl_0 G ad D_1)) rfl rfl hl.1 rfl (lv_room (Nat.le_of_ble_eq_true rfl)) dL_isFrameSo_67 ⟨(Nat.le_of_ble_eq_true rfl), (Nat.le_of_ble_eq_true rfl)⟩) hP hD hS hA (fun D_10 H locs k_10 hP hD hS => ?_)
  refine lv_istore (lv' := [(14, .int (nI k9)), (13, .int (nI (rfs N))), (12, .int (reV N)), (11, .int (nI (hoV N))), (10, .int (nI (N (16 + c9)))), (9, .int (nI (N (32 + c9)))), (8, .int (nI (N 7))), (7, .int (nI (N 8))), (6, .int (nI (N 1))), (5, .int (nI k9)), (0, .ref ad.2.2.1), (1, .int (nI a9)), (2, .int (nI c9)), (3, .int (nI g9)), (4, .int (nI st))]) hx hb dL_isFrameSo_70 hl (by decide) rfl (fun ls hl => ?_)
  refine lv_aload_n hx hb dL_isFrameSo_72 rfl (lv_at hl 10 rfl) ?_
  refine z_callG (val := nI (M 1)) (va_runV (As := []) (rest := []) ⟨hx, hb, hml, hown, hts⟩ (pC_gain l G H.size ad k_10.1) (cwV 0 hts gL_isFrameSo_X5_gain rfl rfl rfl (by decide +kernel) ⟨(Nat.le_of_ble_eq_true rfl), (Nat.le_of_ble_eq_true rfl)⟩) (zV (ci := 5) (q0 := 0) hK hP hD rfl (wCl_0 G ad D_10)) rfl rfl hl.1 rfl (lv_room (Nat.le_of_ble_eq_true rfl)) dL_isFrameSo_73 ⟨(Nat.le_of_ble_eq_true rfl), (Nat.le_of_ble_eq_true rfl)⟩) hP hD hS hA (fun H locs hP hD hS => ?_)
  refine lv_iload hx hb dL_isFrameSo_76 (lv_at hl 8 rfl) ?_
  refine lv_isub hx hb dL_isFrameSo_78 ?_
  refine lv_istore (lv' := [(15, .int (nI (M 1) - nI (N 1))), (14, .int (nI k9)), (13, .int (nI (rfs N))), (12, .int (reV N)), (11, .int (nI (hoV N))), (10, .int (nI (N (16 + c9)))), (9, .int (nI (N (32 + c9)))), (8, .int (nI (N 7))), (7, .int (nI (N 8))), (6, .int (nI (N 1))), (5, .int (nI k9)), (0, .ref ad.2.2.1), (1, .int (nI a9)), (2, .int (nI c9)), (3, .int (nI g9)), (4, .int (nI st))]) hx hb dL_isFrameSo_79 hl (by decide) rfl (fun ls hl => ?_)
  refine lv_iload hx hb dL_isFrameSo_81 (lv_at hl 9 rfl) ?_
  refine lv_bipush (v := 10) hx hb dL_isFrameSo_83 (by decide) ?_
  refine lv_aload_n hx hb dL_isFrameSo_85 rfl (lv_at hl 11 rfl) ?_
  refine z_callG (val := nI (M 0)) (va_runV (As := []) (rest := [.int 10, .int (nI (N 1))]) ⟨hx, hb, hml, hown, hts⟩ (pC_glare l G H.size ad k_10.1) (cwV 0 hts gL_isFrameSo_X5_glare rfl rfl rfl (by decide +kernel) ⟨(Nat.le_of_ble_eq_true rfl), (Nat.le_of_ble_eq_true rfl)⟩) (zV (ci := 5) (q0 := 0) hK hP hD rfl (wCl_0 G ad D_10)) rfl rfl hl.1 rfl (lv_room (Nat.le_of_ble_eq_true rfl)) dL_isFrameSo_86 ⟨(Nat.le_of_ble_eq_true rfl), (Nat.le_of_ble_eq_true rfl)⟩) hP hD hS hA (fun H locs hP hD hS => ?_)
  refine lv_isub hx hb dL_isFrameSo_89 ?_
  refine z_top (show (10 : Int32) - nI (M 0) = nI (10 - (M 0)) from pk_sub (a := 10) (b := (M 0)) (by omega)) ?_
  refine lv_icmp_le (tgt := 97) hx hb dL_isFrameSo_90 (by decide) (fun c_13 => ?_) (fun c_13 => ?_)
  · have hle : N 1 ≤ 10 - N 0 := by
      have := (z_le (a := N 1) (b := 10 - M 0) rfl rfl (by omega) (by omega)).mp c_13
      omega
    have hfg := fg hle
    refine lv_iconst (v := 0) hx hb dL_isFrameSo_97 (by decide) ?_
    refine lv_istore (lv' := [(16, .int 0), (15, .int (nI (M 1) - nI (N 1))), (14, .int (nI k9)), (13, .int (nI (rfs N))), (12, .int (reV N)), (11, .int (nI (hoV N))), (10, .int (nI (N (16 + c9)))), (9, .int (nI (N (32 + c9)))), (8, .int (nI (N 7))), (7, .int (nI (N 8))), (6, .int (nI (N 1))), (5, .int (nI k9)), (0, .ref ad.2.2.1), (1, .int (nI a9)), (2, .int (nI c9)), (3, .int (nI g9)), (4, .int (nI st))]) hx hb dL_isFrameSo_98 hl (by decide) rfl (fun ls hl => ?_)
    refine lv_iload hx hb dL_isFrameSo_100 (lv_at hl 2 rfl) ?_
    refine lv_iload hx hb dL_isFrameSo_102 (lv_at hl 11 rfl) ?_
    refine lv_icmp_ne (tgt := 197) hx hb dL_isFrameSo_104 (by decide) (fun c_14 => absurd ((t_eq (nI_toInt (n := k9) (by omega)) (nI_toInt (n := k9) (by omega))).mpr (by omega)) c_14) (fun c_14 => ?_)
    refine lv_aload_n hx hb dL_isFrameSo_107 rfl (lv_at hl 12 rfl) ?_
    refine z_callG (val := nI (M 8)) (va_runV (As := []) (rest := []) ⟨hx, hb, hml, hown, hts⟩ (pC_received l G H.size ad k_10.1) (cwV 0 hts gL_isFrameSo_X5_received rfl rfl rfl (by decide +kernel) ⟨(Nat.le_of_ble_eq_true rfl), (Nat.le_of_ble_eq_true rfl)⟩) (zV (ci := 5) (q0 := 0) hK hP hD rfl (wCl_0 G ad D_10)) rfl rfl hl.1 rfl (lv_room (Nat.le_of_ble_eq_true rfl)) dL_isFrameSo_108 ⟨(Nat.le_of_ble_eq_true rfl), (Nat.le_of_ble_eq_true rfl)⟩) hP hD hS hA (fun H locs hP hD hS => ?_)
    refine lv_iload hx hb dL_isFrameSo_111 (lv_at hl 9 rfl) ?_
    refine lv_iconst (v := 1) hx hb dL_isFrameSo_113 (by decide) ?_
    refine lv_iadd hx hb dL_isFrameSo_114 ?_
    refine z_top (show nI (N 8) + (1 : Int32) = nI ((N 8) + 1) from nI_add (N 8) 1) ?_
    refine lv_icmp_ne (tgt := 197) hx hb dL_isFrameSo_115 (by decide) (fun c_16 => absurd ((t_eq (nI_toInt (n := (M 8)) (by omega)) (nI_toInt (n := ((N 8) + 1)) (by omega))).mpr (by omega)) c_16) (fun c_16 => ?_)
    refine lv_aload_n hx hb dL_isFrameSo_118 rfl (lv_at hl 12 rfl) ?_
    refine z_callG (val := nI (M 7)) (va_runV (As := []) (rest := []) ⟨hx, hb, hml, hown, hts⟩ (pC_presses l G H.size ad k_10.1) (cwV 0 hts gL_isFrameSo_X5_presses rfl rfl rfl (by decide +kernel) ⟨(Nat.le_of_ble_eq_true rfl), (Nat.le_of_ble_eq_true rfl)⟩) (zV (ci := 5) (q0 := 0) hK hP hD rfl (wCl_0 G ad D_10)) rfl rfl hl.1 rfl (lv_room (Nat.le_of_ble_eq_true rfl)) dL_isFrameSo_119 ⟨(Nat.le_of_ble_eq_true rfl), (Nat.le_of_ble_eq_true rfl)⟩) hP hD hS hA (fun H locs hP hD hS => ?_)
    refine lv_iload hx hb dL_isFrameSo_122 (lv_at hl 8 rfl) ?_
    refine lv_iload hx hb dL_isFrameSo_124 (lv_at hl 2 rfl) ?_
    refine lv_if_ne (tgt := 133) hx hb dL_isFrameSo_126 (by decide) (fun c_18 => ?_) (fun c_18 => absurd ((t_eq (nI_toInt (n := k9) (by omega)) (show (0 : Int32).toInt = 0 by decide)).mp c_18) (by omega))
    refine lv_iconst (v := 0) hx hb dL_isFrameSo_133 (by decide) ?_
    refine lv_iadd hx hb dL_isFrameSo_134 ?_
    refine z_top (show nI (N 7) + (0 : Int32) = nI ((N 7) + 0) from nI_add (N 7) 0) ?_
    refine lv_icmp_ne (tgt := 197) hx hb dL_isFrameSo_135 (by decide) (fun c_19 => absurd ((t_eq (nI_toInt (n := (M 7)) (by omega)) (nI_toInt (n := ((N 7) + 0)) (by omega))).mpr (by omega)) c_19) (fun c_19 => ?_)
    refine lv_aload_n hx hb dL_isFrameSo_138 rfl (lv_at hl 12 rfl) ?_
    refine z_callG (val := nI (rfs M)) (va_runS (As := [.ref ad.2.2.1]) (rest := []) ⟨hx, hb, hml, hown, hts⟩ (pL_refusals l G H.size ad k_10.1) (va_cwS 1 hts gL_isFrameSo_L_refusals rfl rfl rfl (by decide +kernel) ⟨(Nat.le_of_ble_eq_true rfl), (Nat.le_of_ble_eq_true rfl)⟩) (zS hK hP hD) rfl rfl hl.1 rfl (lv_room (Nat.le_of_ble_eq_true rfl)) dL_isFrameSo_139 ⟨(Nat.le_of_ble_eq_true rfl), (Nat.le_of_ble_eq_true rfl)⟩) hP hD hS hA (fun H locs hP hD hS => ?_)
    refine lv_iload hx hb dL_isFrameSo_142 (lv_at hl 3 rfl) ?_
    refine lv_iload hx hb dL_isFrameSo_144 (lv_at hl 2 rfl) ?_
    refine lv_if_le (tgt := 153) hx hb dL_isFrameSo_146 (by decide) (fun c_21 => absurd ((t_le (nI_toInt (n := k9) (by omega)) (show (0 : Int32).toInt = 0 by decide)).mp c_21) (by omega)) (fun c_21 => ?_)
    refine lv_iconst (v := 1) hx hb dL_isFrameSo_149 (by decide) ?_
    refine lv_goto (tgt := 154) hx hb dL_isFrameSo_150 (by decide) ?_
    refine lv_iadd hx hb dL_isFrameSo_154 ?_
    refine z_top (show nI (rfs N) + (1 : Int32) = nI ((rfs N) + 1) from nI_add (rfs N) 1) ?_
    refine lv_icmp_ne (tgt := 197) hx hb dL_isFrameSo_155 (by decide) (fun c_22 => absurd ((t_eq (nI_toInt (n := (rfs M)) (by omega)) (nI_toInt (n := ((rfs N) + 1)) (by omega))).mpr (by omega)) c_22) (fun c_22 => ?_)
    refine lv_aload_n hx hb dL_isFrameSo_158 rfl (lv_at hl 12 rfl) ?_
    refine z_callG (val := nI (M 1)) (va_runV (As := []) (rest := []) ⟨hx, hb, hml, hown, hts⟩ (pC_gain l G H.size ad k_10.1) (cwV 0 hts gL_isFrameSo_X5_gain rfl rfl rfl (by decide +kernel) ⟨(Nat.le_of_ble_eq_true rfl), (Nat.le_of_ble_eq_true rfl)⟩) (zV (ci := 5) (q0 := 0) hK hP hD rfl (wCl_0 G ad D_10)) rfl rfl hl.1 rfl (lv_room (Nat.le_of_ble_eq_true rfl)) dL_isFrameSo_159 ⟨(Nat.le_of_ble_eq_true rfl), (Nat.le_of_ble_eq_true rfl)⟩) hP hD hS hA (fun H locs hP hD hS => ?_)
    refine lv_iconst (v := 1) hx hb dL_isFrameSo_162 (by decide) ?_
    refine lv_icmp_lt (tgt := 197) hx hb dL_isFrameSo_163 (by decide) (fun c_24 => absurd ((t_lt (nI_toInt (n := (M 1)) (by omega)) (show (1 : Int32).toInt = 1 by decide)).mp c_24) (by omega)) (fun c_24 => ?_)
    refine lv_aload_n hx hb dL_isFrameSo_166 rfl (lv_at hl 12 rfl) ?_
    refine z_callG (val := nI (M 1)) (va_runV (As := []) (rest := []) ⟨hx, hb, hml, hown, hts⟩ (pC_gain l G H.size ad k_10.1) (cwV 0 hts gL_isFrameSo_X5_gain rfl rfl rfl (by decide +kernel) ⟨(Nat.le_of_ble_eq_true rfl), (Nat.le_of_ble_eq_true rfl)⟩) (zV (ci := 5) (q0 := 0) hK hP hD rfl (wCl_0 G ad D_10)) rfl rfl hl.1 rfl (lv_room (Nat.le_of_ble_eq_true rfl)) dL_isFrameSo_167 ⟨(Nat.le_of_ble_eq_true rfl), (Nat.le_of_ble_eq_true rfl)⟩) hP hD hS hA (fun H locs hP hD hS => ?_)
    refine lv_bipush (v := 10) hx hb dL_isFrameSo_170 (by decide) ?_
    refine lv_icmp_gt (tgt := 197) hx hb dL_isFrameSo_172 (by decide) (fun c_26 => absurd ((t_lt (show (10 : Int32).toInt = 10 by decide) (nI_toInt (n := (M 1)) (by omega))).mp c_26) (by omega)) (fun c_26 => ?_)
    refine lv_iload hx hb dL_isFrameSo_175 (lv_at hl 0 rfl) ?_
    refine lv_if_ne (tgt := 193) hx hb dL_isFrameSo_177 (by decide) (fun c_27 => absurd ((t_eq (show (0 : Int32).toInt = 0 by decide) (show (0 : Int32).toInt = 0 by decide)).mpr (by omega)) c_27) (fun c_27 => ?_)
    refine lv_iload hx hb dL_isFrameSo_180 (lv_at hl 1 rfl) ?_
    refine lv_iconst (v := 2) hx hb dL_isFrameSo_182 (by decide) ?_
    refine lv_icmp_ge (tgt := 197) hx hb dL_isFrameSo_183 (by decide) (fun c_28 => absurd c_28 (by_ok (M 1) (by omega) (N 1) (by omega) (by omega) (by omega)).1) (fun c_28 => ?_)
    refine lv_iload hx hb dL_isFrameSo_186 (lv_at hl 1 rfl) ?_
    refine lv_bipush (v := -2) hx hb dL_isFrameSo_188 (by decide) ?_
    refine lv_icmp_le (tgt := 197) hx hb dL_isFrameSo_190 (by decide) (fun c_29 => absurd c_29 (by_ok (M 1) (by omega) (N 1) (by omega) (by omega) (by omega)).2) (fun c_29 => ?_)
    refine lv_iconst (v := 1) hx hb dL_isFrameSo_193 (by decide) ?_
    refine lv_goto (tgt := 198) hx hb dL_isFrameSo_194 (by decide) ?_
    refine lv_istore (lv' := [(17, .int 1), (16, .int 0), (15, .int (nI (M 1) - nI (N 1))), (14, .int (nI k9)), (13, .int (nI (rfs N))), (12, .int (reV N)), (11, .int (nI (hoV N))), (10, .int (nI (N (16 + c9)))), (9, .int (nI (N (32 + c9)))), (8, .int (nI (N 7))), (7, .int (nI (N 8))), (6, .int (nI (N 1))), (5, .int (nI k9)), (0, .ref ad.2.2.1), (1, .int (nI a9)), (2, .int (nI c9)), (3, .int (nI g9)), (4, .int (nI st))]) hx hb dL_isFrameSo_198 hl (by decide) rfl (fun ls hl => ?_)
    refine lv_iload hx hb dL_isFrameSo_200 (lv_at hl 3 rfl) ?_
    refine lv_if_ne (tgt := 262) hx hb dL_isFrameSo_202 (by decide) (fun c_30 => ?_) (fun c_30 => absurd ((t_eq (nI_toInt (n := k9) (by omega)) (show (0 : Int32).toInt = 0 by decide)).mp c_30) (by omega))
    refine lv_iload hx hb dL_isFrameSo_262 (lv_at hl 3 rfl) ?_
    refine lv_iconst (v := -1) hx hb dL_isFrameSo_264 (by decide) ?_
    refine lv_icmp_ne (tgt := 345) hx hb dL_isFrameSo_265 (by decide) (fun c_31 => ?_) (fun c_31 => absurd ((t_eq (nI_toInt (n := k9) (by omega)) (show (-1 : Int32).toInt = -1 by decide)).mp c_31) (by omega))
    refine lv_iload hx hb dL_isFrameSo_345 (lv_at hl 3 rfl) ?_
    refine lv_if_le (tgt := 397) hx hb dL_isFrameSo_347 (by decide) (fun c_32 => absurd ((t_le (nI_toInt (n := k9) (by omega)) (show (0 : Int32).toInt = 0 by decide)).mp c_32) (by omega)) (fun c_32 => ?_)
    refine lv_iload hx hb dL_isFrameSo_350 (lv_at hl 0 rfl) ?_
    refine lv_if_eq (tgt := 394) hx hb dL_isFrameSo_352 (by decide) (fun c_33 => absurd ((t_eq (show (1 : Int32).toInt = 1 by decide) (show (0 : Int32).toInt = 0 by decide)).mp c_33) (by omega)) (fun c_33 => ?_)
    refine lv_iload hx hb dL_isFrameSo_355 (lv_at hl 3 rfl) ?_
    refine lv_bipush (v := 6) hx hb dL_isFrameSo_357 (by decide) ?_
    refine lv_icmp_ge (tgt := 394) hx hb dL_isFrameSo_359 (by decide) (fun c_34 => absurd ((t_le (show (6 : Int32).toInt = 6 by decide) (nI_toInt (n := k9) (by omega))).mp c_34) (by omega)) (fun c_34 => ?_)
    refine lv_aload_n hx hb dL_isFrameSo_362 rfl (lv_at hl 13 rfl) ?_
    refine z_callG (val := (reV M)) (va_runV (As := []) (rest := []) ⟨hx, hb, hml, hown, hts⟩ (pC_remembered' l G H.size ad k_10.1 (V := reV M) rfl) (cwV 0 hts gL_isFrameSo_X5_remembered rfl rfl rfl (by decide +kernel) ⟨(Nat.le_of_ble_eq_true rfl), (Nat.le_of_ble_eq_true rfl)⟩) (zV (ci := 5) (q0 := 0) hK hP hD rfl (wCl_0 G ad D_10)) rfl rfl hl.1 rfl (lv_room (Nat.le_of_ble_eq_true rfl)) dL_isFrameSo_363 ⟨(Nat.le_of_ble_eq_true rfl), (Nat.le_of_ble_eq_true rfl)⟩) hP hD hS hA (fun H locs hP hD hS => ?_)
    refine lv_iload hx hb dL_isFrameSo_366 (lv_at hl 5 rfl) ?_
    refine lv_icmp_ne (tgt := 394) hx hb dL_isFrameSo_368 (by decide) (fun c_36 => absurd rS c_36) (fun c_36 => ?_)
    refine lv_aload_n hx hb dL_isFrameSo_371 rfl (lv_at hl 13 rfl) ?_
    refine z_callG (val := nI (hoV M)) (va_runV (As := []) (rest := []) ⟨hx, hb, hml, hown, hts⟩ (pC_holds' l G H.size ad k_10.1 (show (if rem M then nI (M 5) else 0) = nI (hoV M) by unfold hoV; split <;> rfl)) (cwV 0 hts gL_isFrameSo_X5_holds rfl rfl rfl (by decide +kernel) ⟨(Nat.le_of_ble_eq_true rfl), (Nat.le_of_ble_eq_true rfl)⟩) (zV (ci := 5) (q0 := 0) hK hP hD rfl (wCl_0 G ad D_10)) rfl rfl hl.1 rfl (lv_room (Nat.le_of_ble_eq_true rfl)) dL_isFrameSo_372 ⟨(Nat.le_of_ble_eq_true rfl), (Nat.le_of_ble_eq_true rfl)⟩) hP hD hS hA (fun H locs hP hD hS => ?_)
    refine lv_iload hx hb dL_isFrameSo_375 (lv_at hl 6 rfl) ?_
    refine lv_icmp_ne (tgt := 394) hx hb dL_isFrameSo_377 (by decide) (fun c_38 => absurd ((t_eq (nI_toInt (n := (hoV M)) (by omega)) (nI_toInt (n := (hoV N)) (by omega))).mpr (by omega)) c_38) (fun c_38 => ?_)
    refine lv_aload_n hx hb dL_isFrameSo_380 rfl (lv_at hl 13 rfl) ?_
    refine lv_iload_n hx hb dL_isFrameSo_381 rfl (lv_at hl 15 rfl) ?_
    refine z_callG (val := nI (M (32 + c9))) (va_runV (As := [.int (nI c9)]) (rest := []) ⟨hx, hb, hml, hown, hts⟩ (pC_done l G H.size ad k_10.1 (k9 := c9) hy9) (cwV 1 hts gL_isFrameSo_X5_done rfl rfl rfl (by decide +kernel) ⟨(Nat.le_of_ble_eq_true rfl), (Nat.le_of_ble_eq_true rfl)⟩) (zV (ci := 5) (q0 := 0) hK hP hD rfl (wCl_0 G ad D_10)) rfl rfl hl.1 rfl (lv_room (Nat.le_of_ble_eq_true rfl)) dL_isFrameSo_382 ⟨(Nat.le_of_ble_eq_true rfl), (Nat.le_of_ble_eq_true rfl)⟩) hP hD hS hA (fun H locs hP hD hS => ?_)
    refine lv_iload hx hb dL_isFrameSo_385 (lv_at hl 8 rfl) ?_
    refine lv_icmp_ne (tgt := 394) hx hb dL_isFrameSo_387 (by decide) (fun c_40 => absurd ((t_eq (nI_toInt (n := (M (32 + c9))) (by omega)) (nI_toInt (n := (N (32 + c9))) (by omega))).mpr (by omega)) c_40) (fun c_40 => ?_)
    refine lv_iconst (v := 1) hx hb dL_isFrameSo_390 (by decide) ?_
    refine lv_goto (tgt := 395) hx hb dL_isFrameSo_391 (by decide) ?_
    refine lv_istore (lv' := [(17, .int 1), (16, .int 0), (15, .int (nI (M 1) - nI (N 1))), (14, .int (nI k9)), (13, .int (nI (rfs N))), (12, .int (reV N)), (11, .int (nI (hoV N))), (10, .int (nI (N (16 + c9)))), (9, .int (nI (N (32 + c9)))), (8, .int (nI (N 7))), (7, .int (nI (N 8))), (6, .int (nI (N 1))), (5, .int (nI k9)), (0, .ref ad.2.2.1), (1, .int (nI a9)), (2, .int (nI c9)), (3, .int (nI g9)), (4, .int (nI st))]) hx hb dL_isFrameSo_395 hl (by decide) rfl (fun ls hl => ?_)
    refine lv_iload hx hb dL_isFrameSo_397 (lv_at hl 3 rfl) ?_
    refine lv_if_gt (tgt := 457) hx hb dL_isFrameSo_399 (by decide) (fun c_41 => ?_) (fun c_41 => absurd ((t_lt (show (0 : Int32).toInt = 0 by decide) (nI_toInt (n := k9) (by omega))).mpr (by omega)) c_41)
    refine lv_aload_n hx hb dL_isFrameSo_457 rfl (lv_at hl 13 rfl) ?_
    refine z_callA (va_runV (As := []) (rest := []) ⟨hx, hb, hml, hown, hts⟩ (pC_undo' l G H.size ad k_10.1 k_10.2) (cwV 0 hts gL_isFrameSo_X5_undo rfl rfl rfl (by decide +kernel) ⟨(Nat.le_of_ble_eq_true rfl), (Nat.le_of_ble_eq_true rfl)⟩) (zV (ci := 5) (q0 := 0) hK hP hD rfl (wCl_0 G ad D_10)) rfl rfl hl.1 rfl (lv_room (Nat.le_of_ble_eq_true rfl)) dL_isFrameSo_458 ⟨(Nat.le_of_ble_eq_true rfl), (Nat.le_of_ble_eq_true rfl)⟩) hP hD hS hA (fun v_42 D_42 H locs k_42 hP hD hS => ?_)
    obtain ⟨⟨j9, j1, rfl⟩, ⟨m9, M9, k9J⟩, k9U⟩ := k_42
    have hJ9 := Ud_J k9U k9J
    refine lv_istore (lv' := [(18, .int (nI j9)), (17, .int 1), (16, .int 0), (15, .int (nI (M 1) - nI (N 1))), (14, .int (nI k9)), (13, .int (nI (rfs N))), (12, .int (reV N)), (11, .int (nI (hoV N))), (10, .int (nI (N (16 + c9)))), (9, .int (nI (N (32 + c9)))), (8, .int (nI (N 7))), (7, .int (nI (N 8))), (6, .int (nI (N 1))), (5, .int (nI k9)), (0, .ref ad.2.2.1), (1, .int (nI a9)), (2, .int (nI c9)), (3, .int (nI g9)), (4, .int (nI st))]) hx hb dL_isFrameSo_461 hl (by decide) rfl (fun ls hl => ?_)
    refine lv_iload hx hb dL_isFrameSo_463 (lv_at hl 1 rfl) ?_
    refine lv_if_eq (tgt := 504) hx hb dL_isFrameSo_465 (by decide) (fun c_43 => absurd ((t_eq (show (1 : Int32).toInt = 1 by decide) (show (0 : Int32).toInt = 0 by decide)).mp c_43) (by omega)) (fun c_43 => ?_)
    refine lv_iload hx hb dL_isFrameSo_468 (lv_at hl 0 rfl) ?_
    refine lv_if_lt (tgt := 504) hx hb dL_isFrameSo_470 (by decide) (fun c_44 => absurd ((t_lt (nI_toInt (n := j9) (by omega)) (show (0 : Int32).toInt = 0 by decide)).mp c_44) (by omega)) (fun c_44 => ?_)
    refine lv_aload_n hx hb dL_isFrameSo_473 rfl (lv_at hl 14 rfl) ?_
    refine z_callG (val := nI (N 8)) (va_runV (As := []) (rest := []) ⟨hx, hb, hml, hown, hts⟩ (pC_received l G H.size ad hJ9) (cwV 0 hts gL_isFrameSo_X5_received rfl rfl rfl (by decide +kernel) ⟨(Nat.le_of_ble_eq_true rfl), (Nat.le_of_ble_eq_true rfl)⟩) (zV (ci := 5) (q0 := 0) hK hP hD rfl (wCl_0 G ad D_42)) rfl rfl hl.1 rfl (lv_room (Nat.le_of_ble_eq_true rfl)) dL_isFrameSo_474 ⟨(Nat.le_of_ble_eq_true rfl), (Nat.le_of_ble_eq_true rfl)⟩) hP hD hS hA (fun H locs hP hD hS => ?_)
    refine lv_iload hx hb dL_isFrameSo_477 (lv_at hl 11 rfl) ?_
    refine lv_icmp_ne (tgt := 504) hx hb dL_isFrameSo_479 (by decide) (fun c_46 => absurd ((t_eq (nI_toInt (n := (N 8)) (by omega)) (nI_toInt (n := (N 8)) (by omega))).mpr (by omega)) c_46) (fun c_46 => ?_)
    refine lv_aload_n hx hb dL_isFrameSo_482 rfl (lv_at hl 14 rfl) ?_
    refine z_callG (val := nI (N 1)) (va_runV (As := []) (rest := []) ⟨hx, hb, hml, hown, hts⟩ (pC_gain l G H.size ad hJ9) (cwV 0 hts gL_isFrameSo_X5_gain rfl rfl rfl (by decide +kernel) ⟨(Nat.le_of_ble_eq_true rfl), (Nat.le_of_ble_eq_true rfl)⟩) (zV (ci := 5) (q0 := 0) hK hP hD rfl (wCl_0 G ad D_42)) rfl rfl hl.1 rfl (lv_room (Nat.le_of_ble_eq_true rfl)) dL_isFrameSo_483 ⟨(Nat.le_of_ble_eq_true rfl), (Nat.le_of_ble_eq_true rfl)⟩) hP hD hS hA (fun H locs hP hD hS => ?_)
    refine lv_iload hx hb dL_isFrameSo_486 (lv_at hl 12 rfl) ?_
    refine lv_icmp_ne (tgt := 504) hx hb dL_isFrameSo_488 (by decide) (fun c_48 => absurd ((t_eq (nI_toInt (n := (N 1)) (by omega)) (nI_toInt (n := (N 1)) (by omega))).mpr (by omega)) c_48) (fun c_48 => ?_)
    refine lv_aload_n hx hb dL_isFrameSo_491 rfl (lv_at hl 14 rfl) ?_
    refine z_callG (val := nI (hoV N)) (va_runV (As := []) (rest := []) ⟨hx, hb, hml, hown, hts⟩ (pC_holds' l G H.size ad hJ9 (show (if rem N then nI (N 5) else 0) = nI (hoV N) by unfold hoV; split <;> rfl)) (cwV 0 hts gL_isFrameSo_X5_holds rfl rfl rfl (by decide +kernel) ⟨(Nat.le_of_ble_eq_true rfl), (Nat.le_of_ble_eq_true rfl)⟩) (zV (ci := 5) (q0 := 0) hK hP hD rfl (wCl_0 G ad D_42)) rfl rfl hl.1 rfl (lv_room (Nat.le_of_ble_eq_true rfl)) dL_isFrameSo_492 ⟨(Nat.le_of_ble_eq_true rfl), (Nat.le_of_ble_eq_true rfl)⟩) hP hD hS hA (fun H locs hP hD hS => ?_)
    refine lv_iload hx hb dL_isFrameSo_495 (lv_at hl 7 rfl) ?_
    refine lv_icmp_ne (tgt := 504) hx hb dL_isFrameSo_497 (by decide) (fun c_50 => absurd ((t_eq (nI_toInt (n := (hoV N)) (by omega)) (nI_toInt (n := (hoV N)) (by omega))).mpr (by omega)) c_50) (fun c_50 => ?_)
    refine lv_iconst (v := 1) hx hb dL_isFrameSo_500 (by decide) ?_
    refine lv_goto (tgt := 505) hx hb dL_isFrameSo_501 (by decide) ?_
    exact z_iret hx hb hr rfl hlocks D_42 hP hD hS (Nat.le_of_ble_eq_true rfl) (Nat.le_of_ble_eq_true rfl) dL_isFrameSo_505 ⟨rfl, hJ9⟩
  · refine lv_iconst (v := 1) hx hb dL_isFrameSo_93 (by decide) ?_
    refine lv_goto (tgt := 98) hx hb dL_isFrameSo_94 (by decide) ?_
    refine lv_istore (lv' := [(16, .int 1), (15, .int (nI (M 1) - nI (N 1))), (14, .int (nI k9)), (13, .int (nI (rfs N))), (12, .int (reV N)), (11, .int (nI (hoV N))), (10, .int (nI (N (16 + c9)))), (9, .int (nI (N (32 + c9)))), (8, .int (nI (N 7))), (7, .int (nI (N 8))), (6, .int (nI (N 1))), (5, .int (nI k9)), (0, .ref ad.2.2.1), (1, .int (nI a9)), (2, .int (nI c9)), (3, .int (nI g9)), (4, .int (nI st))]) hx hb dL_isFrameSo_98 hl (by decide) rfl (fun ls hl => ?_)
    refine lv_iload hx hb dL_isFrameSo_100 (lv_at hl 2 rfl) ?_
    refine lv_iload hx hb dL_isFrameSo_102 (lv_at hl 11 rfl) ?_
    refine lv_icmp_ne (tgt := 197) hx hb dL_isFrameSo_104 (by decide) (fun c_51 => absurd ((t_eq (nI_toInt (n := k9) (by omega)) (nI_toInt (n := k9) (by omega))).mpr (by omega)) c_51) (fun c_51 => ?_)
    refine lv_aload_n hx hb dL_isFrameSo_107 rfl (lv_at hl 12 rfl) ?_
    refine z_callG (val := nI (M 8)) (va_runV (As := []) (rest := []) ⟨hx, hb, hml, hown, hts⟩ (pC_received l G H.size ad k_10.1) (cwV 0 hts gL_isFrameSo_X5_received rfl rfl rfl (by decide +kernel) ⟨(Nat.le_of_ble_eq_true rfl), (Nat.le_of_ble_eq_true rfl)⟩) (zV (ci := 5) (q0 := 0) hK hP hD rfl (wCl_0 G ad D_10)) rfl rfl hl.1 rfl (lv_room (Nat.le_of_ble_eq_true rfl)) dL_isFrameSo_108 ⟨(Nat.le_of_ble_eq_true rfl), (Nat.le_of_ble_eq_true rfl)⟩) hP hD hS hA (fun H locs hP hD hS => ?_)
    refine lv_iload hx hb dL_isFrameSo_111 (lv_at hl 9 rfl) ?_
    refine lv_iconst (v := 1) hx hb dL_isFrameSo_113 (by decide) ?_
    refine lv_iadd hx hb dL_isFrameSo_114 ?_
    refine z_top (show nI (N 8) + (1 : Int32) = nI ((N 8) + 1) from nI_add (N 8) 1) ?_
    refine lv_icmp_ne (tgt := 197) hx hb dL_isFrameSo_115 (by decide) (fun c_53 => absurd ((t_eq (nI_toInt (n := (M 8)) (by omega)) (nI_toInt (n := ((N 8) + 1)) (by omega))).mpr (by omega)) c_53) (fun c_53 => ?_)
    refine lv_aload_n hx hb dL_isFrameSo_118 rfl (lv_at hl 12 rfl) ?_
    refine z_callG (val := nI (M 7)) (va_runV (As := []) (rest := []) ⟨hx, hb, hml, hown, hts⟩ (pC_presses l G H.size ad k_10.1) (cwV 0 hts gL_isFrameSo_X5_presses rfl rfl rfl (by decide +kernel) ⟨(Nat.le_of_ble_eq_true rfl), (Nat.le_of_ble_eq_true rfl)⟩) (zV (ci := 5) (q0 := 0) hK hP hD rfl (wCl_0 G ad D_10)) rfl rfl hl.1 rfl (lv_room (Nat.le_of_ble_eq_true rfl)) dL_isFrameSo_119 ⟨(Nat.le_of_ble_eq_true rfl), (Nat.le_of_ble_eq_true rfl)⟩) hP hD hS hA (fun H locs hP hD hS => ?_)
    refine lv_iload hx hb dL_isFrameSo_122 (lv_at hl 8 rfl) ?_
    refine lv_iload hx hb dL_isFrameSo_124 (lv_at hl 2 rfl) ?_
    refine lv_if_ne (tgt := 133) hx hb dL_isFrameSo_126 (by decide) (fun c_55 => ?_) (fun c_55 => absurd ((t_eq (nI_toInt (n := k9) (by omega)) (show (0 : Int32).toInt = 0 by decide)).mp c_55) (by omega))
    refine lv_iconst (v := 0) hx hb dL_isFrameSo_133 (by decide) ?_
    refine lv_iadd hx hb dL_isFrameSo_134 ?_
    refine z_top (show nI (N 7) + (0 : Int32) = nI ((N 7) + 0) from nI_add (N 7) 0) ?_
    refine lv_icmp_ne (tgt := 197) hx hb dL_isFrameSo_135 (by decide) (fun c_56 => absurd ((t_eq (nI_toInt (n := (M 7)) (by omega)) (nI_toInt (n := ((N 7) + 0)) (by omega))).mpr (by omega)) c_56) (fun c_56 => ?_)
    refine lv_aload_n hx hb dL_isFrameSo_138 rfl (lv_at hl 12 rfl) ?_
    refine z_callG (val := nI (rfs M)) (va_runS (As := [.ref ad.2.2.1]) (rest := []) ⟨hx, hb, hml, hown, hts⟩ (pL_refusals l G H.size ad k_10.1) (va_cwS 1 hts gL_isFrameSo_L_refusals rfl rfl rfl (by decide +kernel) ⟨(Nat.le_of_ble_eq_true rfl), (Nat.le_of_ble_eq_true rfl)⟩) (zS hK hP hD) rfl rfl hl.1 rfl (lv_room (Nat.le_of_ble_eq_true rfl)) dL_isFrameSo_139 ⟨(Nat.le_of_ble_eq_true rfl), (Nat.le_of_ble_eq_true rfl)⟩) hP hD hS hA (fun H locs hP hD hS => ?_)
    refine lv_iload hx hb dL_isFrameSo_142 (lv_at hl 3 rfl) ?_
    refine lv_iload hx hb dL_isFrameSo_144 (lv_at hl 2 rfl) ?_
    refine lv_if_le (tgt := 153) hx hb dL_isFrameSo_146 (by decide) (fun c_58 => absurd ((t_le (nI_toInt (n := k9) (by omega)) (show (0 : Int32).toInt = 0 by decide)).mp c_58) (by omega)) (fun c_58 => ?_)
    refine lv_iconst (v := 1) hx hb dL_isFrameSo_149 (by decide) ?_
    refine lv_goto (tgt := 154) hx hb dL_isFrameSo_150 (by decide) ?_
    refine lv_iadd hx hb dL_isFrameSo_154 ?_
    refine z_top (show nI (rfs N) + (1 : Int32) = nI ((rfs N) + 1) from nI_add (rfs N) 1) ?_
    refine lv_icmp_ne (tgt := 197) hx hb dL_isFrameSo_155 (by decide) (fun c_59 => absurd ((t_eq (nI_toInt (n := (rfs M)) (by omega)) (nI_toInt (n := ((rfs N) + 1)) (by omega))).mpr (by omega)) c_59) (fun c_59 => ?_)
    refine lv_aload_n hx hb dL_isFrameSo_158 rfl (lv_at hl 12 rfl) ?_
    refine z_callG (val := nI (M 1)) (va_runV (As := []) (rest := []) ⟨hx, hb, hml, hown, hts⟩ (pC_gain l G H.size ad k_10.1) (cwV 0 hts gL_isFrameSo_X5_gain rfl rfl rfl (by decide +kernel) ⟨(Nat.le_of_ble_eq_true rfl), (Nat.le_of_ble_eq_true rfl)⟩) (zV (ci := 5) (q0 := 0) hK hP hD rfl (wCl_0 G ad D_10)) rfl rfl hl.1 rfl (lv_room (Nat.le_of_ble_eq_true rfl)) dL_isFrameSo_159 ⟨(Nat.le_of_ble_eq_true rfl), (Nat.le_of_ble_eq_true rfl)⟩) hP hD hS hA (fun H locs hP hD hS => ?_)
    refine lv_iconst (v := 1) hx hb dL_isFrameSo_162 (by decide) ?_
    refine lv_icmp_lt (tgt := 197) hx hb dL_isFrameSo_163 (by decide) (fun c_61 => absurd ((t_lt (nI_toInt (n := (M 1)) (by omega)) (show (1 : Int32).toInt = 1 by decide)).mp c_61) (by omega)) (fun c_61 => ?_)
    refine lv_aload_n hx hb dL_isFrameSo_166 rfl (lv_at hl 12 rfl) ?_
    refine z_callG (val := nI (M 1)) (va_runV (As := []) (rest := []) ⟨hx, hb, hml, hown, hts⟩ (pC_gain l G H.size ad k_10.1) (cwV 0 hts gL_isFrameSo_X5_gain rfl rfl rfl (by decide +kernel) ⟨(Nat.le_of_ble_eq_true rfl), (Nat.le_of_ble_eq_true rfl)⟩) (zV (ci := 5) (q0 := 0) hK hP hD rfl (wCl_0 G ad D_10)) rfl rfl hl.1 rfl (lv_room (Nat.le_of_ble_eq_true rfl)) dL_isFrameSo_167 ⟨(Nat.le_of_ble_eq_true rfl), (Nat.le_of_ble_eq_true rfl)⟩) hP hD hS hA (fun H locs hP hD hS => ?_)
    refine lv_bipush (v := 10) hx hb dL_isFrameSo_170 (by decide) ?_
    refine lv_icmp_gt (tgt := 197) hx hb dL_isFrameSo_172 (by decide) (fun c_63 => absurd ((t_lt (show (10 : Int32).toInt = 10 by decide) (nI_toInt (n := (M 1)) (by omega))).mp c_63) (by omega)) (fun c_63 => ?_)
    refine lv_iload hx hb dL_isFrameSo_175 (lv_at hl 0 rfl) ?_
    refine lv_if_ne (tgt := 193) hx hb dL_isFrameSo_177 (by decide) (fun c_64 => ?_) (fun c_64 => absurd ((t_eq (show (1 : Int32).toInt = 1 by decide) (show (0 : Int32).toInt = 0 by decide)).mp c_64) (by omega))
    refine lv_iconst (v := 1) hx hb dL_isFrameSo_193 (by decide) ?_
    refine lv_goto (tgt := 198) hx hb dL_isFrameSo_194 (by decide) ?_
    refine lv_istore (lv' := [(17, .int 1), (16, .int 1), (15, .int (nI (M 1) - nI (N 1))), (14, .int (nI k9)), (13, .int (nI (rfs N))), (12, .int (reV N)), (11, .int (nI (hoV N))), (10, .int (nI (N (16 + c9)))), (9, .int (nI (N (32 + c9)))), (8, .int (nI (N 7))), (7, .int (nI (N 8))), (6, .int (nI (N 1))), (5, .int (nI k9)), (0, .ref ad.2.2.1), (1, .int (nI a9)), (2, .int (nI c9)), (3, .int (nI g9)), (4, .int (nI st))]) hx hb dL_isFrameSo_198 hl (by decide) rfl (fun ls hl => ?_)
    refine lv_iload hx hb dL_isFrameSo_200 (lv_at hl 3 rfl) ?_
    refine lv_if_ne (tgt := 262) hx hb dL_isFrameSo_202 (by decide) (fun c_65 => ?_) (fun c_65 => absurd ((t_eq (nI_toInt (n := k9) (by omega)) (show (0 : Int32).toInt = 0 by decide)).mp c_65) (by omega))
    refine lv_iload hx hb dL_isFrameSo_262 (lv_at hl 3 rfl) ?_
    refine lv_iconst (v := -1) hx hb dL_isFrameSo_264 (by decide) ?_
    refine lv_icmp_ne (tgt := 345) hx hb dL_isFrameSo_265 (by decide) (fun c_66 => ?_) (fun c_66 => absurd ((t_eq (nI_toInt (n := k9) (by omega)) (show (-1 : Int32).toInt = -1 by decide)).mp c_66) (by omega))
    refine lv_iload hx hb dL_isFrameSo_345 (lv_at hl 3 rfl) ?_
    refine lv_if_le (tgt := 397) hx hb dL_isFrameSo_347 (by decide) (fun c_67 => absurd ((t_le (nI_toInt (n := k9) (by omega)) (show (0 : Int32).toInt = 0 by decide)).mp c_67) (by omega)) (fun c_67 => ?_)
    refine lv_iload hx hb dL_isFrameSo_350 (lv_at hl 0 rfl) ?_
    refine lv_if_eq (tgt := 394) hx hb dL_isFrameSo_352 (by decide) (fun c_68 => absurd ((t_eq (show (1 : Int32).toInt = 1 by decide) (show (0 : Int32).toInt = 0 by decide)).mp c_68) (by omega)) (fun c_68 => ?_)
    refine lv_iload hx hb dL_isFrameSo_355 (lv_at hl 3 rfl) ?_
    refine lv_bipush (v := 6) hx hb dL_isFrameSo_357 (by decide) ?_
    refine lv_icmp_ge (tgt := 394) hx hb dL_isFrameSo_359 (by decide) (fun c_69 => absurd ((t_le (show (6 : Int32).toInt = 6 by decide) (nI_toInt (n := k9) (by omega))).mp c_69) (by omega)) (fun c_69 => ?_)
    refine lv_aload_n hx hb dL_isFrameSo_362 rfl (lv_at hl 13 rfl) ?_
    refine z_callG (val := (reV M)) (va_runV (As := []) (rest := []) ⟨hx, hb, hml, hown, hts⟩ (pC_remembered' l G H.size ad k_10.1 (V := reV M) rfl) (cwV 0 hts gL_isFrameSo_X5_remembered rfl rfl rfl (by decide +kernel) ⟨(Nat.le_of_ble_eq_true rfl), (Nat.le_of_ble_eq_true rfl)⟩) (zV (ci := 5) (q0 := 0) hK hP hD rfl (wCl_0 G ad D_10)) rfl rfl hl.1 rfl (lv_room (Nat.le_of_ble_eq_true rfl)) dL_isFrameSo_363 ⟨(Nat.le_of_ble_eq_true rfl), (Nat.le_of_ble_eq_true rfl)⟩) hP hD hS hA (fun H locs hP hD hS => ?_)
    refine lv_iload hx hb dL_isFrameSo_366 (lv_at hl 5 rfl) ?_
    refine lv_icmp_ne (tgt := 394) hx hb dL_isFrameSo_368 (by decide) (fun c_71 => absurd rS c_71) (fun c_71 => ?_)
    refine lv_aload_n hx hb dL_isFrameSo_371 rfl (lv_at hl 13 rfl) ?_
    refine z_callG (val := nI (hoV M)) (va_runV (As := []) (rest := []) ⟨hx, hb, hml, hown, hts⟩ (pC_holds' l G H.size ad k_10.1 (show (if rem M then nI (M 5) else 0) = nI (hoV M) by unfold hoV; split <;> rfl)) (cwV 0 hts gL_isFrameSo_X5_holds rfl rfl rfl (by decide +kernel) ⟨(Nat.le_of_ble_eq_true rfl), (Nat.le_of_ble_eq_true rfl)⟩) (zV (ci := 5) (q0 := 0) hK hP hD rfl (wCl_0 G ad D_10)) rfl rfl hl.1 rfl (lv_room (Nat.le_of_ble_eq_true rfl)) dL_isFrameSo_372 ⟨(Nat.le_of_ble_eq_true rfl), (Nat.le_of_ble_eq_true rfl)⟩) hP hD hS hA (fun H locs hP hD hS => ?_)
    refine lv_iload hx hb dL_isFrameSo_375 (lv_at hl 6 rfl) ?_
    refine lv_icmp_ne (tgt := 394) hx hb dL_isFrameSo_377 (by decide) (fun c_73 => absurd ((t_eq (nI_toInt (n := (hoV M)) (by omega)) (nI_toInt (n := (hoV N)) (by omega))).mpr (by omega)) c_73) (fun c_73 => ?_)
    refine lv_aload_n hx hb dL_isFrameSo_380 rfl (lv_at hl 13 rfl) ?_
    refine lv_iload_n hx hb dL_isFrameSo_381 rfl (lv_at hl 15 rfl) ?_
    refine z_callG (val := nI (M (32 + c9))) (va_runV (As := [.int (nI c9)]) (rest := []) ⟨hx, hb, hml, hown, hts⟩ (pC_done l G H.size ad k_10.1 (k9 := c9) hy9) (cwV 1 hts gL_isFrameSo_X5_done rfl rfl rfl (by decide +kernel) ⟨(Nat.le_of_ble_eq_true rfl), (Nat.le_of_ble_eq_true rfl)⟩) (zV (ci := 5) (q0 := 0) hK hP hD rfl (wCl_0 G ad D_10)) rfl rfl hl.1 rfl (lv_room (Nat.le_of_ble_eq_true rfl)) dL_isFrameSo_382 ⟨(Nat.le_of_ble_eq_true rfl), (Nat.le_of_ble_eq_true rfl)⟩) hP hD hS hA (fun H locs hP hD hS => ?_)
    refine lv_iload hx hb dL_isFrameSo_385 (lv_at hl 8 rfl) ?_
    refine lv_icmp_ne (tgt := 394) hx hb dL_isFrameSo_387 (by decide) (fun c_75 => absurd ((t_eq (nI_toInt (n := (M (32 + c9))) (by omega)) (nI_toInt (n := (N (32 + c9))) (by omega))).mpr (by omega)) c_75) (fun c_75 => ?_)
    refine lv_iconst (v := 1) hx hb dL_isFrameSo_390 (by decide) ?_
    refine lv_goto (tgt := 395) hx hb dL_isFrameSo_391 (by decide) ?_
    refine lv_istore (lv' := [(17, .int 1), (16, .int 1), (15, .int (nI (M 1) - nI (N 1))), (14, .int (nI k9)), (13, .int (nI (rfs N))), (12, .int (reV N)), (11, .int (nI (hoV N))), (10, .int (nI (N (16 + c9)))), (9, .int (nI (N (32 + c9)))), (8, .int (nI (N 7))), (7, .int (nI (N 8))), (6, .int (nI (N 1))), (5, .int (nI k9)), (0, .ref ad.2.2.1), (1, .int (nI a9)), (2, .int (nI c9)), (3, .int (nI g9)), (4, .int (nI st))]) hx hb dL_isFrameSo_395 hl (by decide) rfl (fun ls hl => ?_)
    refine lv_iload hx hb dL_isFrameSo_397 (lv_at hl 3 rfl) ?_
    refine lv_if_gt (tgt := 457) hx hb dL_isFrameSo_399 (by decide) (fun c_76 => ?_) (fun c_76 => absurd ((t_lt (show (0 : Int32).toInt = 0 by decide) (nI_toInt (n := k9) (by omega))).mpr (by omega)) c_76)
    refine lv_aload_n hx hb dL_isFrameSo_457 rfl (lv_at hl 13 rfl) ?_
    refine z_callA (va_runV (As := []) (rest := []) ⟨hx, hb, hml, hown, hts⟩ (pC_undo' l G H.size ad k_10.1 k_10.2) (cwV 0 hts gL_isFrameSo_X5_undo rfl rfl rfl (by decide +kernel) ⟨(Nat.le_of_ble_eq_true rfl), (Nat.le_of_ble_eq_true rfl)⟩) (zV (ci := 5) (q0 := 0) hK hP hD rfl (wCl_0 G ad D_10)) rfl rfl hl.1 rfl (lv_room (Nat.le_of_ble_eq_true rfl)) dL_isFrameSo_458 ⟨(Nat.le_of_ble_eq_true rfl), (Nat.le_of_ble_eq_true rfl)⟩) hP hD hS hA (fun v_77 D_77 H locs k_77 hP hD hS => ?_)
    obtain ⟨⟨j9, j1, rfl⟩, ⟨m9, M9, k9J⟩, k9U⟩ := k_77
    have hJ9 := Ud_J k9U k9J
    refine lv_istore (lv' := [(18, .int (nI j9)), (17, .int 1), (16, .int 1), (15, .int (nI (M 1) - nI (N 1))), (14, .int (nI k9)), (13, .int (nI (rfs N))), (12, .int (reV N)), (11, .int (nI (hoV N))), (10, .int (nI (N (16 + c9)))), (9, .int (nI (N (32 + c9)))), (8, .int (nI (N 7))), (7, .int (nI (N 8))), (6, .int (nI (N 1))), (5, .int (nI k9)), (0, .ref ad.2.2.1), (1, .int (nI a9)), (2, .int (nI c9)), (3, .int (nI g9)), (4, .int (nI st))]) hx hb dL_isFrameSo_461 hl (by decide) rfl (fun ls hl => ?_)
    refine lv_iload hx hb dL_isFrameSo_463 (lv_at hl 1 rfl) ?_
    refine lv_if_eq (tgt := 504) hx hb dL_isFrameSo_465 (by decide) (fun c_78 => absurd ((t_eq (show (1 : Int32).toInt = 1 by decide) (show (0 : Int32).toInt = 0 by decide)).mp c_78) (by omega)) (fun c_78 => ?_)
    refine lv_iload hx hb dL_isFrameSo_468 (lv_at hl 0 rfl) ?_
    refine lv_if_lt (tgt := 504) hx hb dL_isFrameSo_470 (by decide) (fun c_79 => absurd ((t_lt (nI_toInt (n := j9) (by omega)) (show (0 : Int32).toInt = 0 by decide)).mp c_79) (by omega)) (fun c_79 => ?_)
    refine lv_aload_n hx hb dL_isFrameSo_473 rfl (lv_at hl 14 rfl) ?_
    refine z_callG (val := nI (N 8)) (va_runV (As := []) (rest := []) ⟨hx, hb, hml, hown, hts⟩ (pC_received l G H.size ad hJ9) (cwV 0 hts gL_isFrameSo_X5_received rfl rfl rfl (by decide +kernel) ⟨(Nat.le_of_ble_eq_true rfl), (Nat.le_of_ble_eq_true rfl)⟩) (zV (ci := 5) (q0 := 0) hK hP hD rfl (wCl_0 G ad D_77)) rfl rfl hl.1 rfl (lv_room (Nat.le_of_ble_eq_true rfl)) dL_isFrameSo_474 ⟨(Nat.le_of_ble_eq_true rfl), (Nat.le_of_ble_eq_true rfl)⟩) hP hD hS hA (fun H locs hP hD hS => ?_)
    refine lv_iload hx hb dL_isFrameSo_477 (lv_at hl 11 rfl) ?_
    refine lv_icmp_ne (tgt := 504) hx hb dL_isFrameSo_479 (by decide) (fun c_81 => absurd ((t_eq (nI_toInt (n := (N 8)) (by omega)) (nI_toInt (n := (N 8)) (by omega))).mpr (by omega)) c_81) (fun c_81 => ?_)
    refine lv_aload_n hx hb dL_isFrameSo_482 rfl (lv_at hl 14 rfl) ?_
    refine z_callG (val := nI (N 1)) (va_runV (As := []) (rest := []) ⟨hx, hb, hml, hown, hts⟩ (pC_gain l G H.size ad hJ9) (cwV 0 hts gL_isFrameSo_X5_gain rfl rfl rfl (by decide +kernel) ⟨(Nat.le_of_ble_eq_true rfl), (Nat.le_of_ble_eq_true rfl)⟩) (zV (ci := 5) (q0 := 0) hK hP hD rfl (wCl_0 G ad D_77)) rfl rfl hl.1 rfl (lv_room (Nat.le_of_ble_eq_true rfl)) dL_isFrameSo_483 ⟨(Nat.le_of_ble_eq_true rfl), (Nat.le_of_ble_eq_true rfl)⟩) hP hD hS hA (fun H locs hP hD hS => ?_)
    refine lv_iload hx hb dL_isFrameSo_486 (lv_at hl 12 rfl) ?_
    refine lv_icmp_ne (tgt := 504) hx hb dL_isFrameSo_488 (by decide) (fun c_83 => absurd ((t_eq (nI_toInt (n := (N 1)) (by omega)) (nI_toInt (n := (N 1)) (by omega))).mpr (by omega)) c_83) (fun c_83 => ?_)
    refine lv_aload_n hx hb dL_isFrameSo_491 rfl (lv_at hl 14 rfl) ?_
    refine z_callG (val := nI (hoV N)) (va_runV (As := []) (rest := []) ⟨hx, hb, hml, hown, hts⟩ (pC_holds' l G H.size ad hJ9 (show (if rem N then nI (N 5) else 0) = nI (hoV N) by unfold hoV; split <;> rfl)) (cwV 0 hts gL_isFrameSo_X5_holds rfl rfl rfl (by decide +kernel) ⟨(Nat.le_of_ble_eq_true rfl), (Nat.le_of_ble_eq_true rfl)⟩) (zV (ci := 5) (q0 := 0) hK hP hD rfl (wCl_0 G ad D_77)) rfl rfl hl.1 rfl (lv_room (Nat.le_of_ble_eq_true rfl)) dL_isFrameSo_492 ⟨(Nat.le_of_ble_eq_true rfl), (Nat.le_of_ble_eq_true rfl)⟩) hP hD hS hA (fun H locs hP hD hS => ?_)
    refine lv_iload hx hb dL_isFrameSo_495 (lv_at hl 7 rfl) ?_
    refine lv_icmp_ne (tgt := 504) hx hb dL_isFrameSo_497 (by decide) (fun c_85 => absurd ((t_eq (nI_toInt (n := (hoV N)) (by omega)) (nI_toInt (n := (hoV N)) (by omega))).mpr (by omega)) c_85) (fun c_85 => ?_)
    refine lv_iconst (v := 1) hx hb dL_isFrameSo_500 (by decide) ?_
    refine lv_goto (tgt := 505) hx hb dL_isFrameSo_501 (by decide) ?_
    exact z_iret hx hb hr rfl hlocks D_77 hP hD hS (Nat.le_of_ble_eq_true rfl) (Nat.le_of_ble_eq_true rfl) dL_isFrameSo_505 ⟨rfl, hJ9⟩
end PL4
