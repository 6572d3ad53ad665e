section PL4
set_option maxHeartbeats 4000000 in
set_option maxRecDepth 100000 in
theorem pL_isFrameSo_h (l : Launch) (G : zG) (sz : Nat) (ad : zAd) {D : zDc} {N M : zN} {n : Nat} (h : J n D N) (hn : n < 8800) {a9 c9 g9 st : Nat} (hx9 : a9 < 8) (hy9 : c9 < 16) (ht9 : g9 < 2) (hs1 : 1 ≤ st) (hs9 : st ≤ 10)  (hf : frV N a9 c9 g9 st = ((-1), M)) (hC : frC N M) (hR : frH N M a9 c9 g9 (-1)) : zMi l yL_isFrameSo wsL_isFrameSo ({ frames := 6, cells := 0, slots := 0, locals := 147 } : Room) [.ref ad.2.2.1, .int (nI a9), .int (nI c9), .int (nI g9), .int (nI st)] G (wCl G ad D) (fun (v : Int32) (D' : zDc) => v = 1 ∧ J n D' N) (fun D' => wCl G ad D') sz 0 0 := by
  refine zMi_of (cc := cL_isFrameSo) (maxL := 19) (ret := (some .boolean)) (by decide) rfl (Nat.le_of_ble_eq_true rfl) ?_
  intro p e s m args below meth c A ls hx hb hr hml hts hown hlocks hnm hK hP hD hAe hS hA hl hsz
  have hown : s.vm.findClass RL = some m.cls := hown
  have hl : lv_has ls 19 [(0, .ref ad.2.2.1), (1, .int (nI a9)), (2, .int (nI c9)), (3, .int (nI g9)), (4, .int (nI st))] := hl
  obtain ⟨⟨b0, b1, b2, b3, b4, b5, b6, b7, b8, b9, b10⟩, ba, bd, bl⟩ := id h.2.1
  have hU := Ud_0 h
  obtain ⟨f8, f0, f2, f1, f10, fg⟩ := hC
  have hba := ba c9 hy9
  have hbd := bd c9 hy9
  obtain ⟨-, er, ec, ea, r1, r7, r6, r3, r4, r5, rd⟩ := hR
  have rM1 : rem M := rem_1 r6
  have rM : reV M = nI c9 := (reV_r rM1).trans (congrArg nI r3)
  have rN : reV N = nI c9 := (reV_r er).trans (congrArg nI ec.symm)
  have hM5 : hoV M = N 5 + 1 := (hoV_r rM1).trans r5
  have hN5 : hoV N = N 5 := hoV_r er
  have tM : tkV M = nI 61 := (tkV_r rM1).trans (congrArg nI (by omega))
  refine lv_aload_n hx hb dL_isFrameSo_0 rfl (lv_at hl 0 rfl) ?_
  refine lv_iload_n hx hb dL_isFrameSo_1 rfl (lv_at hl 1 rfl) ?_
  refine lv_iload_n hx hb dL_isFrameSo_2 rfl (lv_at hl 2 rfl) ?_
  refine lv_iload_n hx hb dL_isFrameSo_3 rfl (lv_at hl 3 rfl) ?_
  refine lv_iload hx hb dL_isFrameSo_4 (lv_at hl 4 rfl) ?_
  refine z_callM (val := (-1)) (va_runV (As := [.int (nI a9), .int (nI c9), .int (nI g9), .int (nI st)]) (rest := []) ⟨hx, hb, hml, hown, hts⟩ (pC_ifFrame' l G s.heap.size ad h hU (a9 := a9) (c9 := c9) (g9 := g9) (st := st) hx9 hy9 ht9 hs1 hs9 (V := (-1)) (congrArg Prod.fst hf)) (cwV 4 hts gL_isFrameSo_X5_ifFrame rfl rfl rfl (by decide +kernel) ⟨(Nat.le_of_ble_eq_true rfl), (Nat.le_of_ble_eq_true rfl)⟩) (zV (ci := 5) (q0 := 0) hK hP hD rfl (wCl_0 G ad D)) rfl rfl hl.1 rfl (lv_room (Nat.le_of_ble_eq_true rfl)) dL_isFrameSo_6 ⟨(Nat.le_of_ble_eq_true rfl), (Nat.le_of_ble_eq_true rfl)⟩) hP hD hS hA (fun D_1 H locs k_1 hP hD hS => ?_)
  refine lv_istore (lv' := [(5, .int (-1)), (0, .ref ad.2.2.1), (1, .int (nI a9)), (2, .int (nI c9)), (3, .int (nI g9)), (4, .int (nI st))]) hx hb dL_isFrameSo_9 hl (by decide) rfl (fun ls hl => ?_)
  refine lv_aload_n hx hb dL_isFrameSo_11 rfl (lv_at hl 1 rfl) ?_
  refine z_callG (val := nI (N 1)) (va_runV (As := []) (rest := []) ⟨hx, hb, hml, hown, hts⟩ (pC_gain l G H.size ad k_1.1) (cwV 0 hts gL_isFrameSo_X5_gain rfl rfl rfl (by decide +kernel) ⟨(Nat.le_of_ble_eq_true rfl), (Nat.le_of_ble_eq_true rfl)⟩) (zV (ci := 5) (q0 := 0) hK hP hD rfl (wCl_0 G ad D_1)) rfl rfl hl.1 rfl (lv_room (Nat.le_of_ble_eq_true rfl)) dL_isFrameSo_12 ⟨(Nat.le_of_ble_eq_true rfl), (Nat.le_of_ble_eq_true rfl)⟩) hP hD hS hA (fun H locs hP hD hS => ?_)
  refine lv_istore (lv' := [(6, .int (nI (N 1))), (5, .int (-1)), (0, .ref ad.2.2.1), (1, .int (nI a9)), (2, .int (nI c9)), (3, .int (nI g9)), (4, .int (nI st))]) hx hb dL_isFrameSo_15 hl (by decide) rfl (fun ls hl => ?_)
  refine lv_aload_n hx hb dL_isFrameSo_17 rfl (lv_at hl 2 rfl) ?_
  refine z_callG (val := nI (N 8)) (va_runV (As := []) (rest := []) ⟨hx, hb, hml, hown, hts⟩ (pC_received l G H.size ad k_1.1) (cwV 0 hts gL_isFrameSo_X5_received rfl rfl rfl (by decide +kernel) ⟨(Nat.le_of_ble_eq_true rfl), (Nat.le_of_ble_eq_true rfl)⟩) (zV (ci := 5) (q0 := 0) hK hP hD rfl (wCl_0 G ad D_1)) rfl rfl hl.1 rfl (lv_room (Nat.le_of_ble_eq_true rfl)) dL_isFrameSo_18 ⟨(Nat.le_of_ble_eq_true rfl), (Nat.le_of_ble_eq_true rfl)⟩) hP hD hS hA (fun H locs hP hD hS => ?_)
  refine lv_istore (lv' := [(7, .int (nI (N 8))), (6, .int (nI (N 1))), (5, .int (-1)), (0, .ref ad.2.2.1), (1, .int (nI a9)), (2, .int (nI c9)), (3, .int (nI g9)), (4, .int (nI st))]) hx hb dL_isFrameSo_21 hl (by decide) rfl (fun ls hl => ?_)
  refine lv_aload_n hx hb dL_isFrameSo_23 rfl (lv_at hl 3 rfl) ?_
  refine z_callG (val := nI (N 7)) (va_runV (As := []) (rest := []) ⟨hx, hb, hml, hown, hts⟩ (pC_presses l G H.size ad k_1.1) (cwV 0 hts gL_isFrameSo_X5_presses rfl rfl rfl (by decide +kernel) ⟨(Nat.le_of_ble_eq_true rfl), (Nat.le_of_ble_eq_true rfl)⟩) (zV (ci := 5) (q0 := 0) hK hP hD rfl (wCl_0 G ad D_1)) rfl rfl hl.1 rfl (lv_room (Nat.le_of_ble_eq_true rfl)) dL_isFrameSo_24 ⟨(Nat.le_of_ble_eq_true rfl), (Nat.le_of_ble_eq_true rfl)⟩) hP hD hS hA (fun H locs hP hD hS => ?_)
  refine lv_istore (lv' := [(8, .int (nI (N 7))), (7, .int (nI (N 8))), (6, .int (nI (N 1))), (5, .int (-1)), (0, .ref ad.2.2.1), (1, .int (nI a9)), (2, .int (nI c9)), (3, .int (nI g9)), (4, .int (nI st))]) hx hb dL_isFrameSo_27 hl (by decide) rfl (fun ls hl => ?_)
  refine lv_aload_n hx hb dL_isFrameSo_29 rfl (lv_at hl 4 rfl) ?_
  refine lv_iload_n hx hb dL_isFrameSo_30 rfl (lv_at hl 6 rfl) ?_
  refine z_callG (val := nI (N (32 + c9))) (va_runV (As := [.int (nI c9)]) (rest := []) ⟨hx, hb, hml, hown, hts⟩ (pC_done l G H.size ad k_1.1 (k9 := c9) hy9) (cwV 1 hts gL_isFrameSo_X5_done rfl rfl rfl (by decide +kernel) ⟨(Nat.le_of_ble_eq_true rfl), (Nat.le_of_ble_eq_true rfl)⟩) (zV (ci := 5) (q0 := 0) hK hP hD rfl (wCl_0 G ad D_1)) rfl rfl hl.1 rfl (lv_room (Nat.le_of_ble_eq_true rfl)) dL_isFrameSo_31 ⟨(Nat.le_of_ble_eq_true rfl), (Nat.le_of_ble_eq_true rfl)⟩) hP hD hS hA (fun H locs hP hD hS => ?_)
  refine lv_istore (lv' := [(9, .int (nI (N (32 + c9)))), (8, .int (nI (N 7))), (7, .int (nI (N 8))), (6, .int (nI (N 1))), (5, .int (-1)), (0, .ref ad.2.2.1), (1, .int (nI a9)), (2, .int (nI c9)), (3, .int (nI g9)), (4, .int (nI st))]) hx hb dL_isFrameSo_34 hl (by decide) rfl (fun ls hl => ?_)
  refine lv_aload_n hx hb dL_isFrameSo_36 rfl (lv_at hl 5 rfl) ?_
  refine lv_iload_n hx hb dL_isFrameSo_37 rfl (lv_at hl 7 rfl) ?_
  refine z_callG (val := nI (N (16 + c9))) (va_runV (As := [.int (nI c9)]) (rest := []) ⟨hx, hb, hml, hown, hts⟩ (pC_action l G H.size ad k_1.1 (k9 := c9) hy9) (cwV 1 hts gL_isFrameSo_X5_action rfl rfl rfl (by decide +kernel) ⟨(Nat.le_of_ble_eq_true rfl), (Nat.le_of_ble_eq_true rfl)⟩) (zV (ci := 5) (q0 := 0) hK hP hD rfl (wCl_0 G ad D_1)) rfl rfl hl.1 rfl (lv_room (Nat.le_of_ble_eq_true rfl)) dL_isFrameSo_38 ⟨(Nat.le_of_ble_eq_true rfl), (Nat.le_of_ble_eq_true rfl)⟩) hP hD hS hA (fun H locs hP hD hS => ?_)
  refine lv_istore (lv' := [(10, .int (nI (N (16 + c9)))), (9, .int (nI (N (32 + c9)))), (8, .int (nI (N 7))), (7, .int (nI (N 8))), (6, .int (nI (N 1))), (5, .int (-1)), (0, .ref ad.2.2.1), (1, .int (nI a9)), (2, .int (nI c9)), (3, .int (nI g9)), (4, .int (nI st))]) hx hb dL_isFrameSo_41 hl (by decide) rfl (fun ls hl => ?_)
  refine lv_aload_n hx hb dL_isFrameSo_43 rfl (lv_at hl 6 rfl) ?_
  refine z_callG (val := nI (hoV N)) (va_runV (As := []) (rest := []) ⟨hx, hb, hml, hown, hts⟩ (pC_holds' l G H.size ad k_1.1 (show (if rem N then nI (N 5) else 0) = nI (hoV N) by unfold hoV; split <;> rfl)) (cwV 0 hts gL_isFrameSo_X5_holds rfl rfl rfl (by decide +kernel) ⟨(Nat.le_of_ble_eq_true rfl), (Nat.le_of_ble_eq_true rfl)⟩) (zV (ci := 5) (q0 := 0) hK hP hD rfl (wCl_0 G ad D_1)) rfl rfl hl.1 rfl (lv_room (Nat.le_of_ble_eq_true rfl)) dL_isFrameSo_44 ⟨(Nat.le_of_ble_eq_true rfl), (Nat.le_of_ble_eq_true rfl)⟩) hP hD hS hA (fun H locs hP hD hS => ?_)
  refine lv_istore (lv' := [(11, .int (nI (hoV N))), (10, .int (nI (N (16 + c9)))), (9, .int (nI (N (32 + c9)))), (8, .int (nI (N 7))), (7, .int (nI (N 8))), (6, .int (nI (N 1))), (5, .int (-1)), (0, .ref ad.2.2.1), (1, .int (nI a9)), (2, .int (nI c9)), (3, .int (nI g9)), (4, .int (nI st))]) hx hb dL_isFrameSo_47 hl (by decide) rfl (fun ls hl => ?_)
  refine lv_aload_n hx hb dL_isFrameSo_49 rfl (lv_at hl 7 rfl) ?_
  refine z_callG (val := (reV N)) (va_runV (As := []) (rest := []) ⟨hx, hb, hml, hown, hts⟩ (pC_remembered' l G H.size ad k_1.1 (V := reV N) rfl) (cwV 0 hts gL_isFrameSo_X5_remembered rfl rfl rfl (by decide +kernel) ⟨(Nat.le_of_ble_eq_true rfl), (Nat.le_of_ble_eq_true rfl)⟩) (zV (ci := 5) (q0 := 0) hK hP hD rfl (wCl_0 G ad D_1)) rfl rfl hl.1 rfl (lv_room (Nat.le_of_ble_eq_true rfl)) dL_isFrameSo_50 ⟨(Nat.le_of_ble_eq_true rfl), (Nat.le_of_ble_eq_true rfl)⟩) hP hD hS hA (fun H locs hP hD hS => ?_)
  refine lv_istore (lv' := [(12, .int (reV N)), (11, .int (nI (hoV N))), (10, .int (nI (N (16 + c9)))), (9, .int (nI (N (32 + c9)))), (8, .int (nI (N 7))), (7, .int (nI (N 8))), (6, .int (nI (N 1))), (5, .int (-1)), (0, .ref ad.2.2.1), (1, .int (nI a9)), (2, .int (nI c9)), (3, .int (nI g9)), (4, .int (nI st))]) hx hb dL_isFrameSo_53 hl (by decide) rfl (fun ls hl => ?_)
  refine lv_aload_n hx hb dL_isFrameSo_55 rfl (lv_at hl 8 rfl) ?_
  refine z_callG (val := nI (rfs N)) (va_runS (As := [.ref ad.2.2.1]) (rest := []) ⟨hx, hb, hml, hown, hts⟩ (pL_refusals l G H.size ad k_1.1) (va_cwS 1 hts gL_isFrameSo_L_refusals rfl rfl rfl (by decide +kernel) ⟨(Nat.le_of_ble_eq_true rfl), (Nat.le_of_ble_eq_true rfl)⟩) (zS hK hP hD) rfl rfl hl.1 rfl (lv_room (Nat.le_of_ble_eq_true rfl)) dL_isFrameSo_56 ⟨(Nat.le_of_ble_eq_true rfl), (Nat.le_of_ble_eq_true rfl)⟩) hP hD hS hA (fun H locs hP hD hS => ?_)
  refine lv_istore (lv' := [(13, .int (nI (rfs N))), (12, .int (reV N)), (11, .int (nI (hoV N))), (10, .int (nI (N (16 + c9)))), (9, .int (nI (N (32 + c9)))), (8, .int (nI (N 7))), (7, .int (nI (N 8))), (6, .int (nI (N 1))), (5, .int (-1)), (0, .ref ad.2.2.1), (1, .int (nI a9)), (2, .int (nI c9)), (3, .int (nI g9)), (4, .int (nI st))]) hx hb dL_isFrameSo_59 hl (by decide) rfl (fun ls hl => ?_)
  refine lv_aload_n hx hb dL_isFrameSo_61 rfl (lv_at hl 9 rfl) ?_
  refine lv_iload_n hx hb dL_isFrameSo_62 rfl (lv_at hl 10 rfl) ?_
  refine lv_iload_n hx hb dL_isFrameSo_63 rfl (lv_at hl 11 rfl) ?_
  refine lv_iload_n hx hb dL_isFrameSo_64 rfl (lv_at hl 12 rfl) ?_
  refine lv_iload hx hb dL_isFrameSo_65 (lv_at hl 13 rfl) ?_
  refine z_callM (val := (-1)) (va_runV (As := [.int (nI a9), .int (nI c9), .int (nI g9), .int (nI st)]) (rest := []) ⟨hx, hb, hml, hown, hts⟩ (pC_frame' l G H.size ad k_1.1 (by omega) k_1.2 (by omega) hx9 hy9 ht9 hs1 hs9 (V := (-1)) (M := M) hf) (cwV 4 hts gL_isFrameSo_X5_frame rfl rfl rfl (by decide +kernel) ⟨(Nat.le_of_ble_eq_true rfl), (Nat.le_of_ble_eq_true rfl)⟩) (zV (ci := 5) (q0 := 0) hK hP hD rfl (wCl_0 G ad D_1)) rfl rfl hl.1 rfl (lv_room (Nat.le_of_ble_eq_true rfl)) dL_isFrameSo_67 ⟨(Nat.le_of_ble_eq_true rfl), (Nat.le_of_ble_eq_true rfl)⟩) hP hD hS hA (fun D_10 H locs k_10 hP hD hS => ?_)
  refine lv_istore (lv' := [(14, .int (-1)), (13, .int (nI (rfs N))), (12, .int (reV N)), (11, .int (nI (hoV N))), (10, .int (nI (N (16 + c9)))), (9, .int (nI (N (32 + c9)))), (8, .int (nI (N 7))), (7, .int (nI (N 8))), (6, .int (nI (N 1))), (5, .int (-1)), (0, .ref ad.2.2.1), (1, .int (nI a9)), (2, .int (nI c9)), (3, .int (nI g9)), (4, .int (nI st))]) hx hb dL_isFrameSo_70 hl (by decide) rfl (fun ls hl => ?_)
  refine lv_aload_n hx hb dL_isFrameSo_72 rfl (lv_at hl 10 rfl) ?_
  refine z_callG (val := nI (M 1)) (va_runV (As := []) (rest := []) ⟨hx, hb, hml, hown, hts⟩ (pC_gain l G H.size ad k_10.1) (cwV 0 hts gL_isFrameSo_X5_gain rfl rfl rfl (by decide +kernel) ⟨(Nat.le_of_ble_eq_true rfl), (Nat.le_of_ble_eq_true rfl)⟩) (zV (ci := 5) (q0 := 0) hK hP hD rfl (wCl_0 G ad D_10)) rfl rfl hl.1 rfl (lv_room (Nat.le_of_ble_eq_true rfl)) dL_isFrameSo_73 ⟨(Nat.le_of_ble_eq_true rfl), (Nat.le_of_ble_eq_true rfl)⟩) hP hD hS hA (fun H locs hP hD hS => ?_)
  refine lv_iload hx hb dL_isFrameSo_76 (lv_at hl 8 rfl) ?_
  refine lv_isub hx hb dL_isFrameSo_78 ?_
  refine lv_istore (lv' := [(15, .int (nI (M 1) - nI (N 1))), (14, .int (-1)), (13, .int (nI (rfs N))), (12, .int (reV N)), (11, .int (nI (hoV N))), (10, .int (nI (N (16 + c9)))), (9, .int (nI (N (32 + c9)))), (8, .int (nI (N 7))), (7, .int (nI (N 8))), (6, .int (nI (N 1))), (5, .int (-1)), (0, .ref ad.2.2.1), (1, .int (nI a9)), (2, .int (nI c9)), (3, .int (nI g9)), (4, .int (nI st))]) hx hb dL_isFrameSo_79 hl (by decide) rfl (fun ls hl => ?_)
  refine lv_iload hx hb dL_isFrameSo_81 (lv_at hl 9 rfl) ?_
  refine lv_bipush (v := 10) hx hb dL_isFrameSo_83 (by decide) ?_
  refine lv_aload_n hx hb dL_isFrameSo_85 rfl (lv_at hl 11 rfl) ?_
  refine z_callG (val := nI (M 0)) (va_runV (As := []) (rest := [.int 10, .int (nI (N 1))]) ⟨hx, hb, hml, hown, hts⟩ (pC_glare l G H.size ad k_10.1) (cwV 0 hts gL_isFrameSo_X5_glare rfl rfl rfl (by decide +kernel) ⟨(Nat.le_of_ble_eq_true rfl), (Nat.le_of_ble_eq_true rfl)⟩) (zV (ci := 5) (q0 := 0) hK hP hD rfl (wCl_0 G ad D_10)) rfl rfl hl.1 rfl (lv_room (Nat.le_of_ble_eq_true rfl)) dL_isFrameSo_86 ⟨(Nat.le_of_ble_eq_true rfl), (Nat.le_of_ble_eq_true rfl)⟩) hP hD hS hA (fun H locs hP hD hS => ?_)
  refine lv_isub hx hb dL_isFrameSo_89 ?_
  refine z_top (show (10 : Int32) - nI (M 0) = nI (10 - (M 0)) from pk_sub (a := 10) (b := (M 0)) (by omega)) ?_
  refine lv_icmp_le (tgt := 97) hx hb dL_isFrameSo_90 (by decide) (fun c_13 => ?_) (fun c_13 => ?_)
  · have hle : N 1 ≤ 10 - N 0 := by
      have := (z_le (a := N 1) (b := 10 - M 0) rfl rfl (by omega) (by omega)).mp c_13
      omega
    have hfg := fg hle
    refine lv_iconst (v := 0) hx hb dL_isFrameSo_97 (by decide) ?_
    refine lv_istore (lv' := [(16, .int 0), (15, .int (nI (M 1) - nI (N 1))), (14, .int (-1)), (13, .int (nI (rfs N))), (12, .int (reV N)), (11, .int (nI (hoV N))), (10, .int (nI (N (16 + c9)))), (9, .int (nI (N (32 + c9)))), (8, .int (nI (N 7))), (7, .int (nI (N 8))), (6, .int (nI (N 1))), (5, .int (-1)), (0, .ref ad.2.2.1), (1, .int (nI a9)), (2, .int (nI c9)), (3, .int (nI g9)), (4, .int (nI st))]) hx hb dL_isFrameSo_98 hl (by decide) rfl (fun ls hl => ?_)
    refine lv_iload hx hb dL_isFrameSo_100 (lv_at hl 2 rfl) ?_
    refine lv_iload hx hb dL_isFrameSo_102 (lv_at hl 11 rfl) ?_
    refine lv_icmp_ne (tgt := 197) hx hb dL_isFrameSo_104 (by decide) (fun c_14 => absurd ((t_eq (show (-1 : Int32).toInt = -1 by decide) (show (-1 : Int32).toInt = -1 by decide)).mpr (by omega)) c_14) (fun c_14 => ?_)
    refine lv_aload_n hx hb dL_isFrameSo_107 rfl (lv_at hl 12 rfl) ?_
    refine z_callG (val := nI (M 8)) (va_runV (As := []) (rest := []) ⟨hx, hb, hml, hown, hts⟩ (pC_received l G H.size ad k_10.1) (cwV 0 hts gL_isFrameSo_X5_received rfl rfl rfl (by decide +kernel) ⟨(Nat.le_of_ble_eq_true rfl), (Nat.le_of_ble_eq_true rfl)⟩) (zV (ci := 5) (q0 := 0) hK hP hD rfl (wCl_0 G ad D_10)) rfl rfl hl.1 rfl (lv_room (Nat.le_of_ble_eq_true rfl)) dL_isFrameSo_108 ⟨(Nat.le_of_ble_eq_true rfl), (Nat.le_of_ble_eq_true rfl)⟩) hP hD hS hA (fun H locs hP hD hS => ?_)
    refine lv_iload hx hb dL_isFrameSo_111 (lv_at hl 9 rfl) ?_
    refine lv_iconst (v := 1) hx hb dL_isFrameSo_113 (by decide) ?_
    refine lv_iadd hx hb dL_isFrameSo_114 ?_
    refine z_top (show nI (N 8) + (1 : Int32) = nI ((N 8) + 1) from nI_add (N 8) 1) ?_
    refine lv_icmp_ne (tgt := 197) hx hb dL_isFrameSo_115 (by decide) (fun c_16 => absurd ((t_eq (nI_toInt (n := (M 8)) (by omega)) (nI_toInt (n := ((N 8) + 1)) (by omega))).mpr (by omega)) c_16) (fun c_16 => ?_)
    refine lv_aload_n hx hb dL_isFrameSo_118 rfl (lv_at hl 12 rfl) ?_
    refine z_callG (val := nI (M 7)) (va_runV (As := []) (rest := []) ⟨hx, hb, hml, hown, hts⟩ (pC_presses l G H.size ad k_10.1) (cwV 0 hts gL_isFrameSo_X5_presses rfl rfl rfl (by decide +kernel) ⟨(Nat.le_of_ble_eq_true rfl), (Nat.le_of_ble_eq_true rfl)⟩) (zV (ci := 5) (q0 := 0) hK hP hD rfl (wCl_0 G ad D_10)) rfl rfl hl.1 rfl (lv_room (Nat.le_of_ble_eq_true rfl)) dL_isFrameSo_119 ⟨(Nat.le_of_ble_eq_true rfl), (Nat.le_of_ble_eq_true rfl)⟩) hP hD hS hA (fun H locs hP hD hS => ?_)
    refine lv_iload hx hb dL_isFrameSo_122 (lv_at hl 8 rfl) ?_
    refine lv_iload hx hb dL_isFrameSo_124 (lv_at hl 2 rfl) ?_
    refine lv_if_ne (tgt := 133) hx hb dL_isFrameSo_126 (by decide) (fun c_18 => ?_) (fun c_18 => absurd ((t_eq (show (-1 : Int32).toInt = -1 by decide) (show (0 : Int32).toInt = 0 by decide)).mp c_18) (by omega))
    refine lv_iconst (v := 0) hx hb dL_isFrameSo_133 (by decide) ?_
    refine lv_iadd hx hb dL_isFrameSo_134 ?_
    refine z_top (show nI (N 7) + (0 : Int32) = nI ((N 7) + 0) from nI_add (N 7) 0) ?_
    refine lv_icmp_ne (tgt := 197) hx hb dL_isFrameSo_135 (by decide) (fun c_19 => absurd ((t_eq (nI_toInt (n := (M 7)) (by omega)) (nI_toInt (n := ((N 7) + 0)) (by omega))).mpr (by omega)) c_19) (fun c_19 => ?_)
    refine lv_aload_n hx hb dL_isFrameSo_138 rfl (lv_at hl 12 rfl) ?_
    refine z_callG (val := nI (rfs M)) (va_runS (As := [.ref ad.2.2.1]) (rest := []) ⟨hx, hb, hml, hown, hts⟩ (pL_refusals l G H.size ad k_10.1) (va_cwS 1 hts gL_isFrameSo_L_refusals rfl rfl rfl (by decide +kernel) ⟨(Nat.le_of_ble_eq_true rfl), (Nat.le_of_ble_eq_true rfl)⟩) (zS hK hP hD) rfl rfl hl.1 rfl (lv_room (Nat.le_of_ble_eq_true rfl)) dL_isFrameSo_139 ⟨(Nat.le_of_ble_eq_true rfl), (Nat.le_of_ble_eq_true rfl)⟩) hP hD hS hA (fun H locs hP hD hS => ?_)
    refine lv_iload hx hb dL_isFrameSo_142 (lv_at hl 3 rfl) ?_
    refine lv_iload hx hb dL_isFrameSo_144 (lv_at hl 2 rfl) ?_
    refine lv_if_le (tgt := 153) hx hb dL_isFrameSo_146 (by decide) (fun c_21 => ?_) (fun c_21 => absurd ((t_le (show (-1 : Int32).toInt = -1 by decide) (show (0 : Int32).toInt = 0 by decide)).mpr (by omega)) c_21)
    refine lv_iconst (v := 0) hx hb dL_isFrameSo_153 (by decide) ?_
    refine lv_iadd hx hb dL_isFrameSo_154 ?_
    refine z_top (show nI (rfs N) + (0 : Int32) = nI ((rfs N) + 0) from nI_add (rfs N) 0) ?_
    refine lv_icmp_ne (tgt := 197) hx hb dL_isFrameSo_155 (by decide) (fun c_22 => absurd ((t_eq (nI_toInt (n := (rfs M)) (by omega)) (nI_toInt (n := ((rfs N) + 0)) (by omega))).mpr (by omega)) c_22) (fun c_22 => ?_)
    refine lv_aload_n hx hb dL_isFrameSo_158 rfl (lv_at hl 12 rfl) ?_
    refine z_callG (val := nI (M 1)) (va_runV (As := []) (rest := []) ⟨hx, hb, hml, hown, hts⟩ (pC_gain l G H.size ad k_10.1) (cwV 0 hts gL_isFrameSo_X5_gain rfl rfl rfl (by decide +kernel) ⟨(Nat.le_of_ble_eq_true rfl), (Nat.le_of_ble_eq_true rfl)⟩) (zV (ci := 5) (q0 := 0) hK hP hD rfl (wCl_0 G ad D_10)) rfl rfl hl.1 rfl (lv_room (Nat.le_of_ble_eq_true rfl)) dL_isFrameSo_159 ⟨(Nat.le_of_ble_eq_true rfl), (Nat.le_of_ble_eq_true rfl)⟩) hP hD hS hA (fun H locs hP hD hS => ?_)
    refine lv_iconst (v := 1) hx hb dL_isFrameSo_162 (by decide) ?_
    refine lv_icmp_lt (tgt := 197) hx hb dL_isFrameSo_163 (by decide) (fun c_24 => absurd ((t_lt (nI_toInt (n := (M 1)) (by omega)) (show (1 : Int32).toInt = 1 by decide)).mp c_24) (by omega)) (fun c_24 => ?_)
    refine lv_aload_n hx hb dL_isFrameSo_166 rfl (lv_at hl 12 rfl) ?_
    refine z_callG (val := nI (M 1)) (va_runV (As := []) (rest := []) ⟨hx, hb, hml, hown, hts⟩ (pC_gain l G H.size ad k_10.1) (cwV 0 hts gL_isFrameSo_X5_gain rfl rfl rfl (by decide +kernel) ⟨(Nat.le_of_ble_eq_true rfl), (Nat.le_of_ble_eq_true rfl)⟩) (zV (ci := 5) (q0 := 0) hK hP hD rfl (wCl_0 G ad D_10)) rfl rfl hl.1 rfl (lv_room (Nat.le_of_ble_eq_true rfl)) dL_isFrameSo_167 ⟨(Nat.le_of_ble_eq_true rfl), (Nat.le_of_ble_eq_true rfl)⟩) hP hD hS hA (fun H locs hP hD hS => ?_)
    refine lv_bipush (v := 10) hx hb dL_isFrameSo_170 (by decide) ?_
    refine lv_icmp_gt (tgt := 197) hx hb dL_isFrameSo_172 (by decide) (fun c_26 => absurd ((t_lt (show (10 : Int32).toInt = 10 by decide) (nI_toInt (n := (M 1)) (by omega))).mp c_26) (by omega)) (fun c_26 => ?_)
    refine lv_iload hx hb dL_isFrameSo_175 (lv_at hl 0 rfl) ?_
    refine lv_if_ne (tgt := 193) hx hb dL_isFrameSo_177 (by decide) (fun c_27 => absurd ((t_eq (show (0 : Int32).toInt = 0 by decide) (show (0 : Int32).toInt = 0 by decide)).mpr (by omega)) c_27) (fun c_27 => ?_)
    refine lv_iload hx hb dL_isFrameSo_180 (lv_at hl 1 rfl) ?_
    refine lv_iconst (v := 2) hx hb dL_isFrameSo_182 (by decide) ?_
    refine lv_icmp_ge (tgt := 197) hx hb dL_isFrameSo_183 (by decide) (fun c_28 => absurd c_28 (by_ok (M 1) (by omega) (N 1) (by omega) (by omega) (by omega)).1) (fun c_28 => ?_)
    refine lv_iload hx hb dL_isFrameSo_186 (lv_at hl 1 rfl) ?_
    refine lv_bipush (v := -2) hx hb dL_isFrameSo_188 (by decide) ?_
    refine lv_icmp_le (tgt := 197) hx hb dL_isFrameSo_190 (by decide) (fun c_29 => absurd c_29 (by_ok (M 1) (by omega) (N 1) (by omega) (by omega) (by omega)).2) (fun c_29 => ?_)
    refine lv_iconst (v := 1) hx hb dL_isFrameSo_193 (by decide) ?_
    refine lv_goto (tgt := 198) hx hb dL_isFrameSo_194 (by decide) ?_
    refine lv_istore (lv' := [(17, .int 1), (16, .int 0), (15, .int (nI (M 1) - nI (N 1))), (14, .int (-1)), (13, .int (nI (rfs N))), (12, .int (reV N)), (11, .int (nI (hoV N))), (10, .int (nI (N (16 + c9)))), (9, .int (nI (N (32 + c9)))), (8, .int (nI (N 7))), (7, .int (nI (N 8))), (6, .int (nI (N 1))), (5, .int (-1)), (0, .ref ad.2.2.1), (1, .int (nI a9)), (2, .int (nI c9)), (3, .int (nI g9)), (4, .int (nI st))]) hx hb dL_isFrameSo_198 hl (by decide) rfl (fun ls hl => ?_)
    refine lv_iload hx hb dL_isFrameSo_200 (lv_at hl 3 rfl) ?_
    refine lv_if_ne (tgt := 262) hx hb dL_isFrameSo_202 (by decide) (fun c_30 => ?_) (fun c_30 => absurd ((t_eq (show (-1 : Int32).toInt = -1 by decide) (show (0 : Int32).toInt = 0 by decide)).mp c_30) (by omega))
    refine lv_iload hx hb dL_isFrameSo_262 (lv_at hl 3 rfl) ?_
    refine lv_iconst (v := -1) hx hb dL_isFrameSo_264 (by decide) ?_
    refine lv_icmp_ne (tgt := 345) hx hb dL_isFrameSo_265 (by decide) (fun c_31 => absurd ((t_eq (show (-1 : Int32).toInt = -1 by decide) (show (-1 : Int32).toInt = -1 by decide)).mpr (by omega)) c_31) (fun c_31 => ?_)
    refine lv_iload hx hb dL_isFrameSo_268 (lv_at hl 0 rfl) ?_
    refine lv_if_eq (tgt := 342) hx hb dL_isFrameSo_270 (by decide) (fun c_32 => absurd ((t_eq (show (1 : Int32).toInt = 1 by decide) (show (0 : Int32).toInt = 0 by decide)).mp c_32) (by omega)) (fun c_32 => ?_)
    refine lv_iload hx hb dL_isFrameSo_273 (lv_at hl 5 rfl) ?_
    refine lv_iload_n hx hb dL_isFrameSo_275 rfl (lv_at hl 15 rfl) ?_
    refine lv_icmp_ne (tgt := 342) hx hb dL_isFrameSo_276 (by decide) (fun c_33 => absurd rN c_33) (fun c_33 => ?_)
    refine lv_aload_n hx hb dL_isFrameSo_279 rfl (lv_at hl 13 rfl) ?_
    refine z_callG (val := (reV M)) (va_runV (As := []) (rest := []) ⟨hx, hb, hml, hown, hts⟩ (pC_remembered' l G H.size ad k_10.1 (V := reV M) rfl) (cwV 0 hts gL_isFrameSo_X5_remembered rfl rfl rfl (by decide +kernel) ⟨(Nat.le_of_ble_eq_true rfl), (Nat.le_of_ble_eq_true rfl)⟩) (zV (ci := 5) (q0 := 0) hK hP hD rfl (wCl_0 G ad D_10)) rfl rfl hl.1 rfl (lv_room (Nat.le_of_ble_eq_true rfl)) dL_isFrameSo_280 ⟨(Nat.le_of_ble_eq_true rfl), (Nat.le_of_ble_eq_true rfl)⟩) hP hD hS hA (fun H locs hP hD hS => ?_)
    refine lv_iload_n hx hb dL_isFrameSo_283 rfl (lv_at hl 15 rfl) ?_
    refine lv_icmp_ne (tgt := 342) hx hb dL_isFrameSo_284 (by decide) (fun c_35 => absurd rM c_35) (fun c_35 => ?_)
    refine lv_aload_n hx hb dL_isFrameSo_287 rfl (lv_at hl 13 rfl) ?_
    refine z_callG (val := nI (hoV M)) (va_runV (As := []) (rest := []) ⟨hx, hb, hml, hown, hts⟩ (pC_holds' l G H.size ad k_10.1 (show (if rem M then nI (M 5) else 0) = nI (hoV M) by unfold hoV; split <;> rfl)) (cwV 0 hts gL_isFrameSo_X5_holds rfl rfl rfl (by decide +kernel) ⟨(Nat.le_of_ble_eq_true rfl), (Nat.le_of_ble_eq_true rfl)⟩) (zV (ci := 5) (q0 := 0) hK hP hD rfl (wCl_0 G ad D_10)) rfl rfl hl.1 rfl (lv_room (Nat.le_of_ble_eq_true rfl)) dL_isFrameSo_288 ⟨(Nat.le_of_ble_eq_true rfl), (Nat.le_of_ble_eq_true rfl)⟩) hP hD hS hA (fun H locs hP hD hS => ?_)
    refine lv_iload hx hb dL_isFrameSo_291 (lv_at hl 6 rfl) ?_
    refine lv_iconst (v := 1) hx hb dL_isFrameSo_293 (by decide) ?_
    refine lv_iadd hx hb dL_isFrameSo_294 ?_
    refine z_top (show nI (hoV N) + (1 : Int32) = nI ((hoV N) + 1) from nI_add (hoV N) 1) ?_
    refine lv_icmp_ne (tgt := 342) hx hb dL_isFrameSo_295 (by decide) (fun c_37 => absurd ((t_eq (nI_toInt (n := (hoV M)) (by omega)) (nI_toInt (n := ((hoV N) + 1)) (by omega))).mpr (by omega)) c_37) (fun c_37 => ?_)
    refine lv_aload_n hx hb dL_isFrameSo_298 rfl (lv_at hl 13 rfl) ?_
    refine z_callG (val := nI 61) (va_runV (As := []) (rest := []) ⟨hx, hb, hml, hown, hts⟩ (pC_ticksToForget' l G H.size ad k_10.1 (V := nI 61) tM) (cwV 0 hts gL_isFrameSo_X5_ticksToForget rfl rfl rfl (by decide +kernel) ⟨(Nat.le_of_ble_eq_true rfl), (Nat.le_of_ble_eq_true rfl)⟩) (zV (ci := 5) (q0 := 0) hK hP hD rfl (wCl_0 G ad D_10)) rfl rfl hl.1 rfl (lv_room (Nat.le_of_ble_eq_true rfl)) dL_isFrameSo_299 ⟨(Nat.le_of_ble_eq_true rfl), (Nat.le_of_ble_eq_true rfl)⟩) hP hD hS hA (fun H locs hP hD hS => ?_)
    refine lv_bipush (v := 61) hx hb dL_isFrameSo_302 (by decide) ?_
    refine lv_icmp_ne (tgt := 342) hx hb dL_isFrameSo_304 (by decide) (fun c_39 => absurd ((t_eq (show (61 : Int32).toInt = 61 by decide) (show (61 : Int32).toInt = 61 by decide)).mpr (by omega)) c_39) (fun c_39 => ?_)
    refine lv_aload_n hx hb dL_isFrameSo_307 rfl (lv_at hl 13 rfl) ?_
    refine lv_iload_n hx hb dL_isFrameSo_308 rfl (lv_at hl 15 rfl) ?_
    refine z_callG (val := nI (M (32 + c9))) (va_runV (As := [.int (nI c9)]) (rest := []) ⟨hx, hb, hml, hown, hts⟩ (pC_done l G H.size ad k_10.1 (k9 := c9) hy9) (cwV 1 hts gL_isFrameSo_X5_done rfl rfl rfl (by decide +kernel) ⟨(Nat.le_of_ble_eq_true rfl), (Nat.le_of_ble_eq_true rfl)⟩) (zV (ci := 5) (q0 := 0) hK hP hD rfl (wCl_0 G ad D_10)) rfl rfl hl.1 rfl (lv_room (Nat.le_of_ble_eq_true rfl)) dL_isFrameSo_309 ⟨(Nat.le_of_ble_eq_true rfl), (Nat.le_of_ble_eq_true rfl)⟩) hP hD hS hA (fun H locs hP hD hS => ?_)
    refine lv_iload hx hb dL_isFrameSo_312 (lv_at hl 8 rfl) ?_
    refine lv_iload hx hb dL_isFrameSo_314 (lv_at hl 7 rfl) ?_
    refine lv_iconst (v := 2) hx hb dL_isFrameSo_316 (by decide) ?_
    refine lv_icmp_ne (tgt := 333) hx hb dL_isFrameSo_317 (by decide) (fun c_41 => ?_) (fun c_41 => ?_)
    · have zz : ¬ N (16 + c9) = 2 := fun y => c_41 (congrArg nI y)
      rw [if_neg (fun y => zz y.1)] at rd
      refine lv_iconst (v := 0) hx hb dL_isFrameSo_333 (by decide) ?_
      refine lv_iadd hx hb dL_isFrameSo_334 ?_
      refine z_top (show nI (N (32 + c9)) + (0 : Int32) = nI ((N (32 + c9)) + 0) from nI_add (N (32 + c9)) 0) ?_
      refine lv_icmp_ne (tgt := 342) hx hb dL_isFrameSo_335 (by decide) (fun c_42 => absurd ((t_eq (nI_toInt (n := (M (32 + c9))) (by omega)) (nI_toInt (n := ((N (32 + c9)) + 0)) (by omega))).mpr (by omega)) c_42) (fun c_42 => ?_)
      refine lv_iconst (v := 1) hx hb dL_isFrameSo_338 (by decide) ?_
      refine lv_goto (tgt := 343) hx hb dL_isFrameSo_339 (by decide) ?_
      refine lv_istore (lv' := [(17, .int 1), (16, .int 0), (15, .int (nI (M 1) - nI (N 1))), (14, .int (-1)), (13, .int (nI (rfs N))), (12, .int (reV N)), (11, .int (nI (hoV N))), (10, .int (nI (N (16 + c9)))), (9, .int (nI (N (32 + c9)))), (8, .int (nI (N 7))), (7, .int (nI (N 8))), (6, .int (nI (N 1))), (5, .int (-1)), (0, .ref ad.2.2.1), (1, .int (nI a9)), (2, .int (nI c9)), (3, .int (nI g9)), (4, .int (nI st))]) hx hb dL_isFrameSo_343 hl (by decide) rfl (fun ls hl => ?_)
      refine lv_iload hx hb dL_isFrameSo_345 (lv_at hl 3 rfl) ?_
      refine lv_if_le (tgt := 397) hx hb dL_isFrameSo_347 (by decide) (fun c_43 => ?_) (fun c_43 => absurd ((t_le (show (-1 : Int32).toInt = -1 by decide) (show (0 : Int32).toInt = 0 by decide)).mpr (by omega)) c_43)
      refine lv_iload hx hb dL_isFrameSo_397 (lv_at hl 3 rfl) ?_
      refine lv_if_gt (tgt := 457) hx hb dL_isFrameSo_399 (by decide) (fun c_44 => absurd ((t_lt (show (0 : Int32).toInt = 0 by decide) (show (-1 : Int32).toInt = -1 by decide)).mp c_44) (by omega)) (fun c_44 => ?_)
      refine lv_aload_n hx hb dL_isFrameSo_402 rfl (lv_at hl 13 rfl) ?_
      refine z_callG (val := nI (M 0)) (va_runV (As := []) (rest := []) ⟨hx, hb, hml, hown, hts⟩ (pC_glare l G H.size ad k_10.1) (cwV 0 hts gL_isFrameSo_X5_glare rfl rfl rfl (by decide +kernel) ⟨(Nat.le_of_ble_eq_true rfl), (Nat.le_of_ble_eq_true rfl)⟩) (zV (ci := 5) (q0 := 0) hK hP hD rfl (wCl_0 G ad D_10)) rfl rfl hl.1 rfl (lv_room (Nat.le_of_ble_eq_true rfl)) dL_isFrameSo_403 ⟨(Nat.le_of_ble_eq_true rfl), (Nat.le_of_ble_eq_true rfl)⟩) hP hD hS hA (fun H locs hP hD hS => ?_)
      refine lv_if_ne (tgt := 457) hx hb dL_isFrameSo_406 (by decide) (fun c_46 => ?_) (fun c_46 => ?_)
      · refine lv_aload_n hx hb dL_isFrameSo_457 rfl (lv_at hl 13 rfl) ?_
        refine z_callA (va_runV (As := []) (rest := []) ⟨hx, hb, hml, hown, hts⟩ (pC_undo' l G H.size ad k_10.1 k_10.2) (cwV 0 hts gL_isFrameSo_X5_undo rfl rfl rfl (by decide +kernel) ⟨(Nat.le_of_ble_eq_true rfl), (Nat.le_of_ble_eq_true rfl)⟩) (zV (ci := 5) (q0 := 0) hK hP hD rfl (wCl_0 G ad D_10)) rfl rfl hl.1 rfl (lv_room (Nat.le_of_ble_eq_true rfl)) dL_isFrameSo_458 ⟨(Nat.le_of_ble_eq_true rfl), (Nat.le_of_ble_eq_true rfl)⟩) hP hD hS hA (fun v_47 D_47 H locs k_47 hP hD hS => ?_)
        obtain ⟨⟨j9, j1, rfl⟩, ⟨m9, M9, k9J⟩, k9U⟩ := k_47
        have hJ9 := Ud_J k9U k9J
        refine lv_istore (lv' := [(18, .int (nI j9)), (17, .int 1), (16, .int 0), (15, .int (nI (M 1) - nI (N 1))), (14, .int (-1)), (13, .int (nI (rfs N))), (12, .int (reV N)), (11, .int (nI (hoV N))), (10, .int (nI (N (16 + c9)))), (9, .int (nI (N (32 + c9)))), (8, .int (nI (N 7))), (7, .int (nI (N 8))), (6, .int (nI (N 1))), (5, .int (-1)), (0, .ref ad.2.2.1), (1, .int (nI a9)), (2, .int (nI c9)), (3, .int (nI g9)), (4, .int (nI st))]) hx hb dL_isFrameSo_461 hl (by decide) rfl (fun ls hl => ?_)
        refine lv_iload hx hb dL_isFrameSo_463 (lv_at hl 1 rfl) ?_
        refine lv_if_eq (tgt := 504) hx hb dL_isFrameSo_465 (by decide) (fun c_48 => absurd ((t_eq (show (1 : Int32).toInt = 1 by decide) (show (0 : Int32).toInt = 0 by decide)).mp c_48) (by omega)) (fun c_48 => ?_)
        refine lv_iload hx hb dL_isFrameSo_468 (lv_at hl 0 rfl) ?_
        refine lv_if_lt (tgt := 504) hx hb dL_isFrameSo_470 (by decide) (fun c_49 => absurd ((t_lt (nI_toInt (n := j9) (by omega)) (show (0 : Int32).toInt = 0 by decide)).mp c_49) (by omega)) (fun c_49 => ?_)
        refine lv_aload_n hx hb dL_isFrameSo_473 rfl (lv_at hl 14 rfl) ?_
        refine z_callG (val := nI (N 8)) (va_runV (As := []) (rest := []) ⟨hx, hb, hml, hown, hts⟩ (pC_received l G H.size ad hJ9) (cwV 0 hts gL_isFrameSo_X5_received rfl rfl rfl (by decide +kernel) ⟨(Nat.le_of_ble_eq_true rfl), (Nat.le_of_ble_eq_true rfl)⟩) (zV (ci := 5) (q0 := 0) hK hP hD rfl (wCl_0 G ad D_47)) rfl rfl hl.1 rfl (lv_room (Nat.le_of_ble_eq_true rfl)) dL_isFrameSo_474 ⟨(Nat.le_of_ble_eq_true rfl), (Nat.le_of_ble_eq_true rfl)⟩) hP hD hS hA (fun H locs hP hD hS => ?_)
        refine lv_iload hx hb dL_isFrameSo_477 (lv_at hl 11 rfl) ?_
        refine lv_icmp_ne (tgt := 504) hx hb dL_isFrameSo_479 (by decide) (fun c_51 => absurd ((t_eq (nI_toInt (n := (N 8)) (by omega)) (nI_toInt (n := (N 8)) (by omega))).mpr (by omega)) c_51) (fun c_51 => ?_)
        refine lv_aload_n hx hb dL_isFrameSo_482 rfl (lv_at hl 14 rfl) ?_
        refine z_callG (val := nI (N 1)) (va_runV (As := []) (rest := []) ⟨hx, hb, hml, hown, hts⟩ (pC_gain l G H.size ad hJ9) (cwV 0 hts gL_isFrameSo_X5_gain rfl rfl rfl (by decide +kernel) ⟨(Nat.le_of_ble_eq_true rfl), (Nat.le_of_ble_eq_true rfl)⟩) (zV (ci := 5) (q0 := 0) hK hP hD rfl (wCl_0 G ad D_47)) rfl rfl hl.1 rfl (lv_room (Nat.le_of_ble_eq_true rfl)) dL_isFrameSo_483 ⟨(Nat.le_of_ble_eq_true rfl), (Nat.le_of_ble_eq_true rfl)⟩) hP hD hS hA (fun H locs hP hD hS => ?_)
        refine lv_iload hx hb dL_isFrameSo_486 (lv_at hl 12 rfl) ?_
        refine lv_icmp_ne (tgt := 504) hx hb dL_isFrameSo_488 (by decide) (fun c_53 => absurd ((t_eq (nI_toInt (n := (N 1)) (by omega)) (nI_toInt (n := (N 1)) (by omega))).mpr (by omega)) c_53) (fun c_53 => ?_)
        refine lv_aload_n hx hb dL_isFrameSo_491 rfl (lv_at hl 14 rfl) ?_
        refine z_callG (val := nI (hoV N)) (va_runV (As := []) (rest := []) ⟨hx, hb, hml, hown, hts⟩ (pC_holds' l G H.size ad hJ9 (show (if rem N then nI (N 5) else 0) = nI (hoV N) by unfold hoV; split <;> rfl)) (cwV 0 hts gL_isFrameSo_X5_holds rfl rfl rfl (by decide +kernel) ⟨(Nat.le_of_ble_eq_true rfl), (Nat.le_of_ble_eq_true rfl)⟩) (zV (ci := 5) (q0 := 0) hK hP hD rfl (wCl_0 G ad D_47)) rfl rfl hl.1 rfl (lv_room (Nat.le_of_ble_eq_true rfl)) dL_isFrameSo_492 ⟨(Nat.le_of_ble_eq_true rfl), (Nat.le_of_ble_eq_true rfl)⟩) hP hD hS hA (fun H locs hP hD hS => ?_)
        refine lv_iload hx hb dL_isFrameSo_495 (lv_at hl 7 rfl) ?_
        refine lv_icmp_ne (tgt := 504) hx hb dL_isFrameSo_497 (by decide) (fun c_55 => absurd ((t_eq (nI_toInt (n := (hoV N)) (by omega)) (nI_toInt (n := (hoV N)) (by omega))).mpr (by omega)) c_55) (fun c_55 => ?_)
        refine lv_iconst (v := 1) hx hb dL_isFrameSo_500 (by decide) ?_
        refine lv_goto (tgt := 505) hx hb dL_isFrameSo_501 (by decide) ?_
        exact z_iret hx hb hr rfl hlocks D_47 hP hD hS (Nat.le_of_ble_eq_true rfl) (Nat.le_of_ble_eq_true rfl) dL_isFrameSo_505 ⟨rfl, hJ9⟩
      · refine lv_aload_n hx hb dL_isFrameSo_409 rfl (lv_at hl 13 rfl) ?_
        refine z_callG (val := nI (M 1)) (va_runV (As := []) (rest := []) ⟨hx, hb, hml, hown, hts⟩ (pC_gain l G H.size ad k_10.1) (cwV 0 hts gL_isFrameSo_X5_gain rfl rfl rfl (by decide +kernel) ⟨(Nat.le_of_ble_eq_true rfl), (Nat.le_of_ble_eq_true rfl)⟩) (zV (ci := 5) (q0 := 0) hK hP hD rfl (wCl_0 G ad D_10)) rfl rfl hl.1 rfl (lv_room (Nat.le_of_ble_eq_true rfl)) dL_isFrameSo_410 ⟨(Nat.le_of_ble_eq_true rfl), (Nat.le_of_ble_eq_true rfl)⟩) hP hD hS hA (fun H locs hP hD hS => ?_)
        refine lv_bipush (v := 10) hx hb dL_isFrameSo_413 (by decide) ?_
        refine lv_icmp_ne (tgt := 457) hx hb dL_isFrameSo_415 (by decide) (fun c_57 => ?_) (fun c_57 => ?_)
        · refine lv_aload_n hx hb dL_isFrameSo_457 rfl (lv_at hl 13 rfl) ?_
          refine z_callA (va_runV (As := []) (rest := []) ⟨hx, hb, hml, hown, hts⟩ (pC_undo' l G H.size ad k_10.1 k_10.2) (cwV 0 hts gL_isFrameSo_X5_undo rfl rfl rfl (by decide +kernel) ⟨(Nat.le_of_ble_eq_true rfl), (Nat.le_of_ble_eq_true rfl)⟩) (zV (ci := 5) (q0 := 0) hK hP hD rfl (wCl_0 G ad D_10)) rfl rfl hl.1 rfl (lv_room (Nat.le_of_ble_eq_true rfl)) dL_isFrameSo_458 ⟨(Nat.le_of_ble_eq_true rfl), (Nat.le_of_ble_eq_true rfl)⟩) hP hD hS hA (fun v_58 D_58 H locs k_58 hP hD hS => ?_)
          obtain ⟨⟨j9, j1, rfl⟩, ⟨m9, M9, k9J⟩, k9U⟩ := k_58
          have hJ9 := Ud_J k9U k9J
          refine lv_istore (lv' := [(18, .int (nI j9)), (17, .int 1), (16, .int 0), (15, .int (nI (M 1) - nI (N 1))), (14, .int (-1)), (13, .int (nI (rfs N))), (12, .int (reV N)), (11, .int (nI (hoV N))), (10, .int (nI (N (16 + c9)))), (9, .int (nI (N (32 + c9)))), (8, .int (nI (N 7))), (7, .int (nI (N 8))), (6, .int (nI (N 1))), (5, .int (-1)), (0, .ref ad.2.2.1), (1, .int (nI a9)), (2, .int (nI c9)), (3, .int (nI g9)), (4, .int (nI st))]) hx hb dL_isFrameSo_461 hl (by decide) rfl (fun ls hl => ?_)
          refine lv_iload hx hb dL_isFrameSo_463 (lv_at hl 1 rfl) ?_
          refine lv_if_eq (tgt := 504) hx hb dL_isFrameSo_465 (by decide) (fun c_59 => absurd ((t_eq (show (1 : Int32).toInt = 1 by decide) (show (0 : Int32).toInt = 0 by decide)).mp c_59) (by omega)) (fun c_59 => ?_)
          refine lv_iload hx hb dL_isFrameSo_468 (lv_at hl 0 rfl) ?_
          refine lv_if_lt (tgt := 504) hx hb dL_isFrameSo_470 (by decide) (fun c_60 => absurd ((t_lt (nI_toInt (n := j9) (by omega)) (show (0 : Int32).toInt = 0 by decide)).mp c_60) (by omega)) (fun c_60 => ?_)
          refine lv_aload_n hx hb dL_isFrameSo_473 rfl (lv_at hl 14 rfl) ?_
          refine z_callG (val := nI (N 8)) (va_runV (As := []) (rest := []) ⟨hx, hb, hml, hown, hts⟩ (pC_received l G H.size ad hJ9) (cwV 0 hts gL_isFrameSo_X5_received rfl rfl rfl (by decide +kernel) ⟨(Nat.le_of_ble_eq_true rfl), (Nat.le_of_ble_eq_true rfl)⟩) (zV (ci := 5) (q0 := 0) hK hP hD rfl (wCl_0 G ad D_58)) rfl rfl hl.1 rfl (lv_room (Nat.le_of_ble_eq_true rfl)) dL_isFrameSo_474 ⟨(Nat.le_of_ble_eq_true rfl), (Nat.le_of_ble_eq_true rfl)⟩) hP hD hS hA (fun H locs hP hD hS => ?_)
          refine lv_iload hx hb dL_isFrameSo_477 (lv_at hl 11 rfl) ?_
          refine lv_icmp_ne (tgt := 504) hx hb dL_isFrameSo_479 (by decide) (fun c_62 => absurd ((t_eq (nI_toInt (n := (N 8)) (by omega)) (nI_toInt (n := (N 8)) (by omega))).mpr (by omega)) c_62) (fun c_62 => ?_)
          refine lv_aload_n hx hb dL_isFrameSo_482 rfl (lv_at hl 14 rfl) ?_
          refine z_callG (val := nI (N 1)) (va_runV (As := []) (rest := []) ⟨hx, hb, hml, hown, hts⟩ (pC_gain l G H.size ad hJ9) (cwV 0 hts gL_isFrameSo_X5_gain rfl rfl rfl (by decide +kernel) ⟨(Nat.le_of_ble_eq_true rfl), (Nat.le_of_ble_eq_true rfl)⟩) (zV (ci := 5) (q0 := 0) hK hP hD rfl (wCl_0 G ad D_58)) rfl rfl hl.1 rfl (lv_room (Nat.le_of_ble_eq_true rfl)) dL_isFrameSo_483 ⟨(Nat.le_of_ble_eq_true rfl), (Nat.le_of_ble_eq_true rfl)⟩) hP hD hS hA (fun H locs hP hD hS => ?_)
          refine lv_iload hx hb dL_isFrameSo_486 (lv_at hl 12 rfl) ?_
          refine lv_icmp_ne (tgt := 504) hx hb dL_isFrameSo_488 (by decide) (fun c_64 => absurd ((t_eq (nI_toInt (n := (N 1)) (by omega)) (nI_toInt (n := (N 1)) (by omega))).mpr (by omega)) c_64) (fun c_64 => ?_)
          refine lv_aload_n hx hb dL_isFrameSo_491 rfl (lv_at hl 14 rfl) ?_
          refine z_callG (val := nI (hoV N)) (va_runV (As := []) (rest := []) ⟨hx, hb, hml, hown, hts⟩ (pC_holds' l G H.size ad hJ9 (show (if rem N then nI (N 5) else 0) = nI (hoV N) by unfold hoV; split <;> rfl)) (cwV 0 hts gL_isFrameSo_X5_holds rfl rfl rfl (by decide +kernel) ⟨(Nat.le_of_ble_eq_true rfl), (Nat.le_of_ble_eq_true rfl)⟩) (zV (ci := 5) (q0 := 0) hK hP hD rfl (wCl_0 G ad D_58)) rfl rfl hl.1 rfl (lv_room (Nat.le_of_ble_eq_true rfl)) dL_isFrameSo_492 ⟨(Nat.le_of_ble_eq_true rfl), (Nat.le_of_ble_eq_true rfl)⟩) hP hD hS hA (fun H locs hP hD hS => ?_)
          refine lv_iload hx hb dL_isFrameSo_495 (lv_at hl 7 rfl) ?_
          refine lv_icmp_ne (tgt := 504) hx hb dL_isFrameSo_497 (by decide) (fun c_66 => absurd ((t_eq (nI_toInt (n := (hoV N)) (by omega)) (nI_toInt (n := (hoV N)) (by omega))).mpr (by omega)) c_66) (fun c_66 => ?_)
          refine lv_iconst (v := 1) hx hb dL_isFrameSo_500 (by decide) ?_
          refine lv_goto (tgt := 505) hx hb dL_isFrameSo_501 (by decide) ?_
          exact z_iret hx hb hr rfl hlocks D_58 hP hD hS (Nat.le_of_ble_eq_true rfl) (Nat.le_of_ble_eq_true rfl) dL_isFrameSo_505 ⟨rfl, hJ9⟩
        · refine lv_iload hx hb dL_isFrameSo_418 (lv_at hl 0 rfl) ?_
          refine lv_if_eq (tgt := 454) hx hb dL_isFrameSo_420 (by decide) (fun c_67 => absurd ((t_eq (show (1 : Int32).toInt = 1 by decide) (show (0 : Int32).toInt = 0 by decide)).mp c_67) (by omega)) (fun c_67 => ?_)
          have z0 : M 0 = 0 := (z_eq (b := 0) rfl rfl (by omega) (by omega)).mp c_46
          have z1 : M 1 = 10 := (z_eq (b := 10) rfl rfl (by omega) (by omega)).mp c_57
          have nb : ¬ bad M 10 := by
            unfold bad
            rw [z0, z1]
            omega
          have i1 : (frV M a9 c9 g9 10).1 = -1 := by rw [fr_two hx9 hy9 ht9 nb (by omega), if_pos ⟨rM1, by omega, by omega⟩]
          have i2 : (frV M a9 c9 (1 - g9) 10).1 = 0 := by rw [fr_two hx9 hy9 (show 1 - g9 < 2 by omega) nb (by omega), if_neg (fun z => absurd z.2.2 (by omega))]
          refine lv_aload_n hx hb dL_isFrameSo_423 rfl (lv_at hl 13 rfl) ?_
          refine lv_iload_n hx hb dL_isFrameSo_424 rfl (lv_at hl 14 rfl) ?_
          refine lv_iload_n hx hb dL_isFrameSo_425 rfl (lv_at hl 15 rfl) ?_
          refine lv_iload_n hx hb dL_isFrameSo_426 rfl (lv_at hl 16 rfl) ?_
          refine lv_bipush (v := 10) hx hb dL_isFrameSo_427 (by decide) ?_
          refine z_callM (val := (-1)) (va_runV (As := [.int (nI a9), .int (nI c9), .int (nI g9), .int 10]) (rest := []) ⟨hx, hb, hml, hown, hts⟩ (pC_ifFrame' l G H.size ad k_10.1 k_10.2 (a9 := a9) (c9 := c9) (g9 := g9) (st := 10) hx9 hy9 ht9 (Nat.le_of_ble_eq_true rfl) (Nat.le_of_ble_eq_true rfl) (V := -1) i1) (cwV 4 hts gL_isFrameSo_X5_ifFrame rfl rfl rfl (by decide +kernel) ⟨(Nat.le_of_ble_eq_true rfl), (Nat.le_of_ble_eq_true rfl)⟩) (zV (ci := 5) (q0 := 0) hK hP hD rfl (wCl_0 G ad D_10)) rfl rfl hl.1 rfl (lv_room (Nat.le_of_ble_eq_true rfl)) dL_isFrameSo_429 ⟨(Nat.le_of_ble_eq_true rfl), (Nat.le_of_ble_eq_true rfl)⟩) hP hD hS hA (fun D_68 H locs k_68 hP hD hS => ?_)
          refine lv_iconst (v := -1) hx hb dL_isFrameSo_432 (by decide) ?_
          refine lv_icmp_ne (tgt := 454) hx hb dL_isFrameSo_433 (by decide) (fun c_69 => absurd ((t_eq (show (-1 : Int32).toInt = -1 by decide) (show (-1 : Int32).toInt = -1 by decide)).mpr (by omega)) c_69) (fun c_69 => ?_)
          refine lv_aload_n hx hb dL_isFrameSo_436 rfl (lv_at hl 13 rfl) ?_
          refine lv_iload_n hx hb dL_isFrameSo_437 rfl (lv_at hl 14 rfl) ?_
          refine lv_iload_n hx hb dL_isFrameSo_438 rfl (lv_at hl 15 rfl) ?_
          refine lv_iconst (v := 1) hx hb dL_isFrameSo_439 (by decide) ?_
          refine lv_iload_n hx hb dL_isFrameSo_440 rfl (lv_at hl 16 rfl) ?_
          refine lv_isub hx hb dL_isFrameSo_441 ?_
          refine z_top (show (1 : Int32) - (nI g9) = nI (1 - g9) from pk_sub (a := 1) (b := g9) (by omega)) ?_
          refine lv_bipush (v := 10) hx hb dL_isFrameSo_442 (by decide) ?_
          refine z_callM (val := 0) (va_runV (As := [.int (nI a9), .int (nI c9), .int (nI (1 - g9)), .int 10]) (rest := []) ⟨hx, hb, hml, hown, hts⟩ (pC_ifFrame' l G H.size ad k_68.1 k_68.2 (a9 := a9) (c9 := c9) (g9 := (1 - g9)) (st := 10) hx9 hy9 (show 1 - g9 < 2 by omega) (Nat.le_of_ble_eq_true rfl) (Nat.le_of_ble_eq_true rfl) (V := 0) i2) (cwV 4 hts gL_isFrameSo_X5_ifFrame rfl rfl rfl (by decide +kernel) ⟨(Nat.le_of_ble_eq_true rfl), (Nat.le_of_ble_eq_true rfl)⟩) (zV (ci := 5) (q0 := 0) hK hP hD rfl (wCl_0 G ad D_68)) rfl rfl hl.1 rfl (lv_room (Nat.le_of_ble_eq_true rfl)) dL_isFrameSo_444 ⟨(Nat.le_of_ble_eq_true rfl), (Nat.le_of_ble_eq_true rfl)⟩) hP hD hS hA (fun D_70 H locs k_70 hP hD hS => ?_)
          refine lv_if_ne (tgt := 454) hx hb dL_isFrameSo_447 (by decide) (fun c_71 => absurd ((t_eq (show (0 : Int32).toInt = 0 by decide) (show (0 : Int32).toInt = 0 by decide)).mpr (by omega)) c_71) (fun c_71 => ?_)
          refine lv_iconst (v := 1) hx hb dL_isFrameSo_450 (by decide) ?_
          refine lv_goto (tgt := 455) hx hb dL_isFrameSo_451 (by decide) ?_
          refine lv_istore (lv' := [(17, .int 1), (16, .int 0), (15, .int (nI (M 1) - nI (N 1))), (14, .int (-1)), (13, .int (nI (rfs N))), (12, .int (reV N)), (11, .int (nI (hoV N))), (10, .int (nI (N (16 + c9)))), (9, .int (nI (N (32 + c9)))), (8, .int (nI (N 7))), (7, .int (nI (N 8))), (6, .int (nI (N 1))), (5, .int (-1)), (0, .ref ad.2.2.1), (1, .int (nI a9)), (2, .int (nI c9)), (3, .int (nI g9)), (4, .int (nI st))]) hx hb dL_isFrameSo_455 hl (by decide) rfl (fun ls hl => ?_)
          refine lv_aload_n hx hb dL_isFrameSo_457 rfl (lv_at hl 13 rfl) ?_
          refine z_callA (va_runV (As := []) (rest := []) ⟨hx, hb, hml, hown, hts⟩ (pC_undo' l G H.size ad k_70.1 k_70.2) (cwV 0 hts gL_isFrameSo_X5_undo rfl rfl rfl (by decide +kernel) ⟨(Nat.le_of_ble_eq_true rfl), (Nat.le_of_ble_eq_true rfl)⟩) (zV (ci := 5) (q0 := 0) hK hP hD rfl (wCl_0 G ad D_70)) rfl rfl hl.1 rfl (lv_room (Nat.le_of_ble_eq_true rfl)) dL_isFrameSo_458 ⟨(Nat.le_of_ble_eq_true rfl), (Nat.le_of_ble_eq_true rfl)⟩) hP hD hS hA (fun v_72 D_72 H locs k_72 hP hD hS => ?_)
          obtain ⟨⟨j9, j1, rfl⟩, ⟨m9, M9, k9J⟩, k9U⟩ := k_72
          have hJ9 := Ud_J k9U k9J
          refine lv_istore (lv' := [(18, .int (nI j9)), (17, .int 1), (16, .int 0), (15, .int (nI (M 1) - nI (N 1))), (14, .int (-1)), (13, .int (nI (rfs N))), (12, .int (reV N)), (11, .int (nI (hoV N))), (10, .int (nI (N (16 + c9)))), (9, .int (nI (N (32 + c9)))), (8, .int (nI (N 7))), (7, .int (nI (N 8))), (6, .int (nI (N 1))), (5, .int (-1)), (0, .ref ad.2.2.1), (1, .int (nI a9)), (2, .int (nI c9)), (3, .int (nI g9)), (4, .int (nI st))]) hx hb dL_isFrameSo_461 hl (by decide) rfl (fun ls hl => ?_)
          refine lv_iload hx hb dL_isFrameSo_463 (lv_at hl 1 rfl) ?_
          refine lv_if_eq (tgt := 504) hx hb dL_isFrameSo_465 (by decide) (fun c_73 => absurd ((t_eq (show (1 : Int32).toInt = 1 by decide) (show (0 : Int32).toInt = 0 by decide)).mp c_73) (by omega)) (fun c_73 => ?_)
          refine lv_iload hx hb dL_isFrameSo_468 (lv_at hl 0 rfl) ?_
          refine lv_if_lt (tgt := 504) hx hb dL_isFrameSo_470 (by decide) (fun c_74 => absurd ((t_lt (nI_toInt (n := j9) (by omega)) (show (0 : Int32).toInt = 0 by decide)).mp c_74) (by omega)) (fun c_74 => ?_)
          refine lv_aload_n hx hb dL_isFrameSo_473 rfl (lv_at hl 14 rfl) ?_
          refine z_callG (val := nI (N 8)) (va_runV (As := []) (rest := []) ⟨hx, hb, hml, hown, hts⟩ (pC_received l G H.size ad hJ9) (cwV 0 hts gL_isFrameSo_X5_received rfl rfl rfl (by decide +kernel) ⟨(Nat.le_of_ble_eq_true rfl), (Nat.le_of_ble_eq_true rfl)⟩) (zV (ci := 5) (q0 := 0) hK hP hD rfl (wCl_0 G ad D_72)) rfl rfl hl.1 rfl (lv_room (Nat.le_of_ble_eq_true rfl)) dL_isFrameSo_474 ⟨(Nat.le_of_ble_eq_true rfl), (Nat.le_of_ble_eq_true rfl)⟩) hP hD hS hA (fun H locs hP hD hS => ?_)
          refine lv_iload hx hb dL_isFrameSo_477 (lv_at hl 11 rfl) ?_
          refine lv_icmp_ne (tgt := 504) hx hb dL_isFrameSo_479 (by decide) (fun c_76 => absurd ((t_eq (nI_toInt (n := (N 8)) (by omega)) (nI_toInt (n := (N 8)) (by omega))).mpr (by omega)) c_76) (fun c_76 => ?_)
          refine lv_aload_n hx hb dL_isFrameSo_482 rfl (lv_at hl 14 rfl) ?_
          refine z_callG (val := nI (N 1)) (va_runV (As := []) (rest := []) ⟨hx, hb, hml, hown, hts⟩ (pC_gain l G H.size ad hJ9) (cwV 0 hts gL_isFrameSo_X5_gain rfl rfl rfl (by decide +kernel) ⟨(Nat.le_of_ble_eq_true rfl), (Nat.le_of_ble_eq_true rfl)⟩) (zV (ci := 5) (q0 := 0) hK hP hD rfl (wCl_0 G ad D_72)) rfl rfl hl.1 rfl (lv_room (Nat.le_of_ble_eq_true rfl)) dL_isFrameSo_483 ⟨(Nat.le_of_ble_eq_true rfl), (Nat.le_of_ble_eq_true rfl)⟩) hP hD hS hA (fun H locs hP hD hS => ?_)
          refine lv_iload hx hb dL_isFrameSo_486 (lv_at hl 12 rfl) ?_
          refine lv_icmp_ne (tgt := 504) hx hb dL_isFrameSo_488 (by decide) (fun c_78 => absurd ((t_eq (nI_toInt (n := (N 1)) (by omega)) (nI_toInt (n := (N 1)) (by omega))).mpr (by omega)) c_78) (fun c_78 => ?_)
          refine lv_aload_n hx hb dL_isFrameSo_491 rfl (lv_at hl 14 rfl) ?_
          refine z_callG (val := nI (hoV N)) (va_runV (As := []) (rest := []) ⟨hx, hb, hml, hown, hts⟩ (pC_holds' l G H.size ad hJ9 (show (if rem N then nI (N 5) else 0) = nI (hoV N) by unfold hoV; split <;> rfl)) (cwV 0 hts gL_isFrameSo_X5_holds rfl rfl rfl (by decide +kernel) ⟨(Nat.le_of_ble_eq_true rfl), (Nat.le_of_ble_eq_true rfl)⟩) (zV (ci := 5) (q0 := 0) hK hP hD rfl (wCl_0 G ad D_72)) rfl rfl hl.1 rfl (lv_room (Nat.le_of_ble_eq_true rfl)) dL_isFrameSo_492 ⟨(Nat.le_of_ble_eq_true rfl), (Nat.le_of_ble_eq_true rfl)⟩) hP hD hS hA (fun H locs hP hD hS => ?_)
          refine lv_iload hx hb dL_isFrameSo_495 (lv_at hl 7 rfl) ?_
          refine lv_icmp_ne (tgt := 504) hx hb dL_isFrameSo_497 (by decide) (fun c_80 => absurd ((t_eq (nI_toInt (n := (hoV N)) (by omega)) (nI_toInt (n := (hoV N)) (by omega))).mpr (by omega)) c_80) (fun c_80 => ?_)
          refine lv_iconst (v := 1) hx hb dL_isFrameSo_500 (by decide) ?_
          refine lv_goto (tgt := 505) hx hb dL_isFrameSo_501 (by decide) ?_
          exact z_iret hx hb hr rfl hlocks D_72 hP hD hS (Nat.le_of_ble_eq_true rfl) (Nat.le_of_ble_eq_true rfl) dL_isFrameSo_505 ⟨rfl, hJ9⟩
    · refine lv_iload hx hb dL_isFrameSo_320 (lv_at hl 6 rfl) ?_
      refine lv_iconst (v := 1) hx hb dL_isFrameSo_322 (by decide) ?_
      refine lv_iadd hx hb dL_isFrameSo_323 ?_
      refine z_top (show nI (hoV N) + (1 : Int32) = nI ((hoV N) + 1) from nI_add (hoV N) 1) ?_
      refine lv_iconst (v := 2) hx hb dL_isFrameSo_324 (by decide) ?_
      refine lv_irem hx hb dL_isFrameSo_325 (by decide) ?_
      refine z_top (show nI ((hoV N) + 1) - nI ((hoV N) + 1) / (2 : Int32) * (2 : Int32) = nI (((hoV N) + 1) % 2) from pk_rem (a := ((hoV N) + 1)) (d := 2) (by omega) (by decide) (by decide)) ?_
      refine lv_if_ne (tgt := 333) hx hb dL_isFrameSo_326 (by decide) (fun c_81 => ?_) (fun c_81 => ?_)
      · have zz : ¬ (N 5 + 1) % 2 = 0 := fun y => c_81 (congrArg nI (show (hoV N + 1) % 2 = 0 by rw [hN5]; exact y))
        rw [if_neg (fun y => zz y.2)] at rd
        refine lv_iconst (v := 0) hx hb dL_isFrameSo_333 (by decide) ?_
        refine lv_iadd hx hb dL_isFrameSo_334 ?_
        refine z_top (show nI (N (32 + c9)) + (0 : Int32) = nI ((N (32 + c9)) + 0) from nI_add (N (32 + c9)) 0) ?_
        refine lv_icmp_ne (tgt := 342) hx hb dL_isFrameSo_335 (by decide) (fun c_82 => absurd ((t_eq (nI_toInt (n := (M (32 + c9))) (by omega)) (nI_toInt (n := ((N (32 + c9)) + 0)) (by omega))).mpr (by omega)) c_82) (fun c_82 => ?_)
        refine lv_iconst (v := 1) hx hb dL_isFrameSo_338 (by decide) ?_
        refine lv_goto (tgt := 343) hx hb dL_isFrameSo_339 (by decide) ?_
        refine lv_istore (lv' := [(17, .int 1), (16, .int 0), (15, .int (nI (M 1) - nI (N 1))), (14, .int (-1)), (13, .int (nI (rfs N))), (12, .int (reV N)), (11, .int (nI (hoV N))), (10, .int (nI (N (16 + c9)))), (9, .int (nI (N (32 + c9)))), (8, .int (nI (N 7))), (7, .int (nI (N 8))), (6, .int (nI (N 1))), (5, .int (-1)), (0, .ref ad.2.2.1), (1, .int (nI a9)), (2, .int (nI c9)), (3, .int (nI g9)), (4, .int (nI st))]) hx hb dL_isFrameSo_343 hl (by decide) rfl (fun ls hl => ?_)
        refine lv_iload hx hb dL_isFrameSo_345 (lv_at hl 3 rfl) ?_
        refine lv_if_le (tgt := 397) hx hb dL_isFrameSo_347 (by decide) (fun c_83 => ?_) (fun c_83 => absurd ((t_le (show (-1 : Int32).toInt = -1 by decide) (show (0 : Int32).toInt = 0 by decide)).mpr (by omega)) c_83)
        refine lv_iload hx hb dL_isFrameSo_397 (lv_at hl 3 rfl) ?_
        refine lv_if_gt (tgt := 457) hx hb dL_isFrameSo_399 (by decide) (fun c_84 => absurd ((t_lt (show (0 : Int32).toInt = 0 by decide) (show (-1 : Int32).toInt = -1 by decide)).mp c_84) (by omega)) (fun c_84 => ?_)
        refine lv_aload_n hx hb dL_isFrameSo_402 rfl (lv_at hl 13 rfl) ?_
        refine z_callG (val := nI (M 0)) (va_runV (As := []) (rest := []) ⟨hx, hb, hml, hown, hts⟩ (pC_glare l G H.size ad k_10.1) (cwV 0 hts gL_isFrameSo_X5_glare rfl rfl rfl (by decide +kernel) ⟨(Nat.le_of_ble_eq_true rfl), (Nat.le_of_ble_eq_true rfl)⟩) (zV (ci := 5) (q0 := 0) hK hP hD rfl (wCl_0 G ad D_10)) rfl rfl hl.1 rfl (lv_room (Nat.le_of_ble_eq_true rfl)) dL_isFrameSo_403 ⟨(Nat.le_of_ble_eq_true rfl), (Nat.le_of_ble_eq_true rfl)⟩) hP hD hS hA (fun H locs hP hD hS => ?_)
        refine lv_if_ne (tgt := 457) hx hb dL_isFrameSo_406 (by decide) (fun c_86 => ?_) (fun c_86 => ?_)
        · refine lv_aload_n hx hb dL_isFrameSo_457 rfl (lv_at hl 13 rfl) ?_
          refine z_callA (va_runV (As := []) (rest := []) ⟨hx, hb, hml, hown, hts⟩ (pC_undo' l G H.size ad k_10.1 k_10.2) (cwV 0 hts gL_isFrameSo_X5_undo rfl rfl rfl (by decide +kernel) ⟨(Nat.le_of_ble_eq_true rfl), (Nat.le_of_ble_eq_true rfl)⟩) (zV (ci := 5) (q0 := 0) hK hP hD rfl (wCl_0 G ad D_10)) rfl rfl hl.1 rfl (lv_room (Nat.le_of_ble_eq_true rfl)) dL_isFrameSo_458 ⟨(Nat.le_of_ble_eq_true rfl), (Nat.le_of_ble_eq_true rfl)⟩) hP hD hS hA (fun v_87 D_87 H locs k_87 hP hD hS => ?_)
          obtain ⟨⟨j9, j1, rfl⟩, ⟨m9, M9, k9J⟩, k9U⟩ := k_87
          have hJ9 := Ud_J k9U k9J
          refine lv_istore (lv' := [(18, .int (nI j9)), (17, .int 1), (16, .int 0), (15, .int (nI (M 1) - nI (N 1))), (14, .int (-1)), (13, .int (nI (rfs N))), (12, .int (reV N)), (11, .int (nI (hoV N))), (10, .int (nI (N (16 + c9)))), (9, .int (nI (N (32 + c9)))), (8, .int (nI (N 7))), (7, .int (nI (N 8))), (6, .int (nI (N 1))), (5, .int (-1)), (0, .ref ad.2.2.1), (1, .int (nI a9)), (2, .int (nI c9)), (3, .int (nI g9)), (4, .int (nI st))]) hx hb dL_isFrameSo_461 hl (by decide) rfl (fun ls hl => ?_)
          refine lv_iload hx hb dL_isFrameSo_463 (lv_at hl 1 rfl) ?_
          refine lv_if_eq (tgt := 504) hx hb dL_isFrameSo_465 (by decide) (fun c_88 => absurd ((t_eq (show (1 : Int32).toInt = 1 by decide) (show (0 : Int32).toInt = 0 by decide)).mp c_88) (by omega)) (fun c_88 => ?_)
          refine lv_iload hx hb dL_isFrameSo_468 (lv_at hl 0 rfl) ?_
          refine lv_if_lt (tgt := 504) hx hb dL_isFrameSo_470 (by decide) (fun c_89 => absurd ((t_lt (nI_toInt (n := j9) (by omega)) (show (0 : Int32).toInt = 0 by decide)).mp c_89) (by omega)) (fun c_89 => ?_)
          refine lv_aload_n hx hb dL_isFrameSo_473 rfl (lv_at hl 14 rfl) ?_
          refine z_callG (val := nI (N 8)) (va_runV (As := []) (rest := []) ⟨hx, hb, hml, hown, hts⟩ (pC_received l G H.size ad hJ9) (cwV 0 hts gL_isFrameSo_X5_received rfl rfl rfl (by decide +kernel) ⟨(Nat.le_of_ble_eq_true rfl), (Nat.le_of_ble_eq_true rfl)⟩) (zV (ci := 5) (q0 := 0) hK hP hD rfl (wCl_0 G ad D_87)) rfl rfl hl.1 rfl (lv_room (Nat.le_of_ble_eq_true rfl)) dL_isFrameSo_474 ⟨(Nat.le_of_ble_eq_true rfl), (Nat.le_of_ble_eq_true rfl)⟩) hP hD hS hA (fun H locs hP hD hS => ?_)
          refine lv_iload hx hb dL_isFrameSo_477 (lv_at hl 11 rfl) ?_
          refine lv_icmp_ne (tgt := 504) hx hb dL_isFrameSo_479 (by decide) (fun c_91 => absurd ((t_eq (nI_toInt (n := (N 8)) (by omega)) (nI_toInt (n := (N 8)) (by omega))).mpr (by omega)) c_91) (fun c_91 => ?_)
          refine lv_aload_n hx hb dL_isFrameSo_482 rfl (lv_at hl 14 rfl) ?_
          refine z_callG (val := nI (N 1)) (va_runV (As := []) (rest := []) ⟨hx, hb, hml, hown, hts⟩ (pC_gain l G H.size ad hJ9) (cwV 0 hts gL_isFrameSo_X5_gain rfl rfl rfl (by decide +kernel) ⟨(Nat.le_of_ble_eq_true rfl), (Nat.le_of_ble_eq_true rfl)⟩) (zV (ci := 5) (q0 := 0) hK hP hD rfl (wCl_0 G ad D_87)) rfl rfl hl.1 rfl (lv_room (Nat.le_of_ble_eq_true rfl)) dL_isFrameSo_483 ⟨(Nat.le_of_ble_eq_true rfl), (Nat.le_of_ble_eq_true rfl)⟩) hP hD hS hA (fun H locs hP hD hS => ?_)
          refine lv_iload hx hb dL_isFrameSo_486 (lv_at hl 12 rfl) ?_
          refine lv_icmp_ne (tgt := 504) hx hb dL_isFrameSo_488 (by decide) (fun c_93 => absurd ((t_eq (nI_toInt (n := (N 1)) (by omega)) (nI_toInt (n := (N 1)) (by omega))).mpr (by omega)) c_93) (fun c_93 => ?_)
          refine lv_aload_n hx hb dL_isFrameSo_491 rfl (lv_at hl 14 rfl) ?_
          refine z_callG (val := nI (hoV N)) (va_runV (As := []) (rest := []) ⟨hx, hb, hml, hown, hts⟩ (pC_holds' l G H.size ad hJ9 (show (if rem N then nI (N 5) else 0) = nI (hoV N) by unfold hoV; split <;> rfl)) (cwV 0 hts gL_isFrameSo_X5_holds rfl rfl rfl (by decide +kernel) ⟨(Nat.le_of_ble_eq_true rfl), (Nat.le_of_ble_eq_true rfl)⟩) (zV (ci := 5) (q0 := 0) hK hP hD rfl (wCl_0 G ad D_87)) rfl rfl hl.1 rfl (lv_room (Nat.le_of_ble_eq_true rfl)) dL_isFrameSo_492 ⟨(Nat.le_of_ble_eq_true rfl), (Nat.le_of_ble_eq_true rfl)⟩) hP hD hS hA (fun H locs hP hD hS => ?_)
          refine lv_iload hx hb dL_isFrameSo_495 (lv_at hl 7 rfl) ?_
          refine lv_icmp_ne (tgt := 504) hx hb dL_isFrameSo_497 (by decide) (fun c_95 => absurd ((t_eq (nI_toInt (n := (hoV N)) (by omega)) (nI_toInt (n := (hoV N)) (by omega))).mpr (by omega)) c_95) (fun c_95 => ?_)
          refine lv_iconst (v := 1) hx hb dL_isFrameSo_500 (by decide) ?_
          refine lv_goto (tgt := 505) hx hb dL_isFrameSo_501 (by decide) ?_
          exact z_iret hx hb hr rfl hlocks D_87 hP hD hS (Nat.le_of_ble_eq_true rfl) (Nat.le_of_ble_eq_true rfl) dL_isFrameSo_505 ⟨rfl, hJ9⟩
        · refine lv_aload_n hx hb dL_isFrameSo_409 rfl (lv_at hl 13 rfl) ?_
          refine z_callG (val := nI (M 1)) (va_runV (As := []) (rest := []) ⟨hx, hb, hml, hown, hts⟩ (pC_gain l G H.size ad k_10.1) (cwV 0 hts gL_isFrameSo_X5_gain rfl rfl rfl (by decide +kernel) ⟨(Nat.le_of_ble_eq_true rfl), (Nat.le_of_ble_eq_true rfl)⟩) (zV (ci := 5) (q0 := 0) hK hP hD rfl (wCl_0 G ad D_10)) rfl rfl hl.1 rfl (lv_room (Nat.le_of_ble_eq_true rfl)) dL_isFrameSo_410 ⟨(Nat.le_of_ble_eq_true rfl), (Nat.le_of_ble_eq_true rfl)⟩) hP hD hS hA (fun H locs hP hD hS => ?_)
          refine lv_bipush (v := 10) hx hb dL_isFrameSo_413 (by decide) ?_
          refine lv_icmp_ne (tgt := 457) hx hb dL_isFrameSo_415 (by decide) (fun c_97 => ?_) (fun c_97 => ?_)
          · refine lv_aload_n hx hb dL_isFrameSo_457 rfl (lv_at hl 13 rfl) ?_
            refine z_callA (va_runV (As := []) (rest := []) ⟨hx, hb, hml, hown, hts⟩ (pC_undo' l G H.size ad k_10.1 k_10.2) (cwV 0 hts gL_isFrameSo_X5_undo rfl rfl rfl (by decide +kernel) ⟨(Nat.le_of_ble_eq_true rfl), (Nat.le_of_ble_eq_true rfl)⟩) (zV (ci := 5) (q0 := 0) hK hP hD rfl (wCl_0 G ad D_10)) rfl rfl hl.1 rfl (lv_room (Nat.le_of_ble_eq_true rfl)) dL_isFrameSo_458 ⟨(Nat.le_of_ble_eq_true rfl), (Nat.le_of_ble_eq_true rfl)⟩) hP hD hS hA (fun v_98 D_98 H locs k_98 hP hD hS => ?_)
            obtain ⟨⟨j9, j1, rfl⟩, ⟨m9, M9, k9J⟩, k9U⟩ := k_98
            have hJ9 := Ud_J k9U k9J
            refine lv_istore (lv' := [(18, .int (nI j9)), (17, .int 1), (16, .int 0), (15, .int (nI (M 1) - nI (N 1))), (14, .int (-1)), (13, .int (nI (rfs N))), (12, .int (reV N)), (11, .int (nI (hoV N))), (10, .int (nI (N (16 + c9)))), (9, .int (nI (N (32 + c9)))), (8, .int (nI (N 7))), (7, .int (nI (N 8))), (6, .int (nI (N 1))), (5, .int (-1)), (0, .ref ad.2.2.1), (1, .int (nI a9)), (2, .int (nI c9)), (3, .int (nI g9)), (4, .int (nI st))]) hx hb dL_isFrameSo_461 hl (by decide) rfl (fun ls hl => ?_)
            refine lv_iload hx hb dL_isFrameSo_463 (lv_at hl 1 rfl) ?_
            refine lv_if_eq (tgt := 504) hx hb dL_isFrameSo_465 (by decide) (fun c_99 => absurd ((t_eq (show (1 : Int32).toInt = 1 by decide) (show (0 : Int32).toInt = 0 by decide)).mp c_99) (by omega)) (fun c_99 => ?_)
            refine lv_iload hx hb dL_isFrameSo_468 (lv_at hl 0 rfl) ?_
            refine lv_if_lt (tgt := 504) hx hb dL_isFrameSo_470 (by decide) (fun c_100 => absurd ((t_lt (nI_toInt (n := j9) (by omega)) (show (0 : Int32).toInt = 0 by decide)).mp c_100) (by omega)) (fun c_100 => ?_)
            refine lv_aload_n hx hb dL_isFrameSo_473 rfl (lv_at hl 14 rfl) ?_
            refine z_callG (val := nI (N 8)) (va_runV (As := []) (rest := []) ⟨hx, hb, hml, hown, hts⟩ (pC_received l G H.size ad hJ9) (cwV 0 hts gL_isFrameSo_X5_received rfl rfl rfl (by decide +kernel) ⟨(Nat.le_of_ble_eq_true rfl), (Nat.le_of_ble_eq_true rfl)⟩) (zV (ci := 5) (q0 := 0) hK hP hD rfl (wCl_0 G ad D_98)) rfl rfl hl.1 rfl (lv_room (Nat.le_of_ble_eq_true rfl)) dL_isFrameSo_474 ⟨(Nat.le_of_ble_eq_true rfl), (Nat.le_of_ble_eq_true rfl)⟩) hP hD hS hA (fun H locs hP hD hS => ?_)
            refine lv_iload hx hb dL_isFrameSo_477 (lv_at hl 11 rfl) ?_
            refine lv_icmp_ne (tgt := 504) hx hb dL_isFrameSo_479 (by decide) (fun c_102 => absurd ((t_eq (nI_toInt (n := (N 8)) (by omega)) (nI_toInt (n := (N 8)) (by omega))).mpr (by omega)) c_102) (fun c_102 => ?_)
            refine lv_aload_n hx hb dL_isFrameSo_482 rfl (lv_at hl 14 rfl) ?_
            refine z_callG (val := nI (N 1)) (va_runV (As := []) (rest := []) ⟨hx, hb, hml, hown, hts⟩ (pC_gain l G H.size ad hJ9) (cwV 0 hts gL_isFrameSo_X5_gain rfl rfl rfl (by decide +kernel) ⟨(Nat.le_of_ble_eq_true rfl), (Nat.le_of_ble_eq_true rfl)⟩) (zV (ci := 5) (q0 := 0) hK hP hD rfl (wCl_0 G ad D_98)) rfl rfl hl.1 rfl (lv_room (Nat.le_of_ble_eq_true rfl)) dL_isFrameSo_483 ⟨(Nat.le_of_ble_eq_true rfl), (Nat.le_of_ble_eq_true rfl)⟩) hP hD hS hA (fun H locs hP hD hS => ?_)
            refine lv_iload hx hb dL_isFrameSo_486 (lv_at hl 12 rfl) ?_
            refine lv_icmp_ne (tgt := 504) hx hb dL_isFrameSo_488 (by decide) (fun c_104 => absurd ((t_eq (nI_toInt (n := (N 1)) (by omega)) (nI_toInt (n := (N 1)) (by omega))).mpr (by omega)) c_104) (fun c_104 => ?_)
            refine lv_aload_n hx hb dL_isFrameSo_491 rfl (lv_at hl 14 rfl) ?_
            refine z_callG (val := nI (hoV N)) (va_runV (As := []) (rest := []) ⟨hx, hb, hml, hown, hts⟩ (pC_holds' l G H.size ad hJ9 (show (if rem N then nI (N 5) else 0) = nI (hoV N) by unfold hoV; split <;> rfl)) (cwV 0 hts gL_isFrameSo_X5_holds rfl rfl rfl (by decide +kernel) ⟨(Nat.le_of_ble_eq_true rfl), (Nat.le_of_ble_eq_true rfl)⟩) (zV (ci := 5) (q0 := 0) hK hP hD rfl (wCl_0 G ad D_98)) rfl rfl hl.1 rfl (lv_room (Nat.le_of_ble_eq_true rfl)) dL_isFrameSo_492 ⟨(Nat.le_of_ble_eq_true rfl), (Nat.le_of_ble_eq_true rfl)⟩) hP hD hS hA (fun H locs hP hD hS => ?_)
            refine lv_iload hx hb dL_isFrameSo_495 (lv_at hl 7 rfl) ?_
            refine lv_icmp_ne (tgt := 504) hx hb dL_isFrameSo_497 (by decide) (fun c_106 => absurd ((t_eq (nI_toInt (n := (hoV N)) (by omega)) (nI_toInt (n := (hoV N)) (by omega))).mpr (by omega)) c_106) (fun c_106 => ?_)
            refine lv_iconst (v := 1) hx hb dL_isFrameSo_500 (by decide) ?_
            refine lv_goto (tgt := 505) hx hb dL_isFrameSo_501 (by decide) ?_
            exact z_iret hx hb hr rfl hlocks D_98 hP hD hS (Nat.le_of_ble_eq_true rfl) (Nat.le_of_ble_eq_true rfl) dL_isFrameSo_505 ⟨rfl, hJ9⟩
          · refine lv_iload hx hb dL_isFrameSo_418 (lv_at hl 0 rfl) ?_
            refine lv_if_eq (tgt := 454) hx hb dL_isFrameSo_420 (by decide) (fun c_107 => absurd ((t_eq (show (1 : Int32).toInt = 1 by decide) (show (0 : Int32).toInt = 0 by decide)).mp c_107) (by omega)) (fun c_107 => ?_)
            have z0 : M 0 = 0 := (z_eq (b := 0) rfl rfl (by omega) (by omega)).mp c_86
            have z1 : M 1 = 10 := (z_eq (b := 10) rfl rfl (by omega) (by omega)).mp c_97
            have nb : ¬ bad M 10 := by
              unfold bad
              rw [z0, z1]
              omega
            have i1 : (frV M a9 c9 g9 10).1 = -1 := by rw [fr_two hx9 hy9 ht9 nb (by omega), if_pos ⟨rM1, by omega, by omega⟩]
            have i2 : (frV M a9 c9 (1 - g9) 10).1 = 0 := by rw [fr_two hx9 hy9 (show 1 - g9 < 2 by omega) nb (by omega), if_neg (fun z => absurd z.2.2 (by omega))]
            refine lv_aload_n hx hb dL_isFrameSo_423 rfl (lv_at hl 13 rfl) ?_
            refine lv_iload_n hx hb dL_isFrameSo_424 rfl (lv_at hl 14 rfl) ?_
            refine lv_iload_n hx hb dL_isFrameSo_425 rfl (lv_at hl 15 rfl) ?_
            refine lv_iload_n hx hb dL_isFrameSo_426 rfl (lv_at hl 16 rfl) ?_
            refine lv_bipush (v := 10) hx hb dL_isFrameSo_427 (by decide) ?_
            refine z_callM (val := (-1)) (va_runV (As := [.int (nI a9), .int (nI c9), .int (nI g9), .int 10]) (rest := []) ⟨hx, hb, hml, hown, hts⟩ (pC_ifFrame' l G H.size ad k_10.1 k_10.2 (a9 := a9) (c9 := c9) (g9 := g9) (st := 10) hx9 hy9 ht9 (Nat.le_of_ble_eq_true rfl) (Nat.le_of_ble_eq_true rfl) (V := -1) i1) (cwV 4 hts gL_isFrameSo_X5_ifFrame rfl rfl rfl (by decide +kernel) ⟨(Nat.le_of_ble_eq_true rfl), (Nat.le_of_ble_eq_true rfl)⟩) (zV (ci := 5) (q0 := 0) hK hP hD rfl (wCl_0 G ad D_10)) rfl rfl hl.1 rfl (lv_room (Nat.le_of_ble_eq_true rfl)) dL_isFrameSo_429 ⟨(Nat.le_of_ble_eq_true rfl), (Nat.le_of_ble_eq_true rfl)⟩) hP hD hS hA (fun D_108 H locs k_108 hP hD hS => ?_)
            refine lv_iconst (v := -1) hx hb dL_isFrameSo_432 (by decide) ?_
            refine lv_icmp_ne (tgt := 454) hx hb dL_isFrameSo_433 (by decide) (fun c_109 => absurd ((t_eq (show (-1 : Int32).toInt = -1 by decide) (show (-1 : Int32).toInt = -1 by decide)).mpr (by omega)) c_109) (fun c_109 => ?_)
            refine lv_aload_n hx hb dL_isFrameSo_436 rfl (lv_at hl 13 rfl) ?_
            refine lv_iload_n hx hb dL_isFrameSo_437 rfl (lv_at hl 14 rfl) ?_
            refine lv_iload_n hx hb dL_isFrameSo_438 rfl (lv_at hl 15 rfl) ?_
            refine lv_iconst (v := 1) hx hb dL_isFrameSo_439 (by decide) ?_
            refine lv_iload_n hx hb dL_isFrameSo_440 rfl (lv_at hl 16 rfl) ?_
            refine lv_isub hx hb dL_isFrameSo_441 ?_
            refine z_top (show (1 : Int32) - (nI g9) = nI (1 - g9) from pk_sub (a := 1) (b := g9) (by omega)) ?_
            refine lv_bipush (v := 10) hx hb dL_isFrameSo_442 (by decide) ?_
            refine z_callM (val := 0) (va_runV (As := [.int (nI a9), .int (nI c9), .int (nI (1 - g9)), .int 10]) (rest := []) ⟨hx, hb, hml, hown, hts⟩ (pC_ifFrame' l G H.size ad k_108.1 k_108.2 (a9 := a9) (c9 := c9) (g9 := (1 - g9)) (st := 10) hx9 hy9 (show 1 - g9 < 2 by omega) (Nat.le_of_ble_eq_true rfl) (Nat.le_of_ble_eq_true rfl) (V := 0) i2) (cwV 4 hts gL_isFrameSo_X5_ifFrame rfl rfl rfl (by decide +kernel) ⟨(Nat.le_of_ble_eq_true rfl), (Nat.le_of_ble_eq_true rfl)⟩) (zV (ci := 5) (q0 := 0) hK hP hD rfl (wCl_0 G ad D_108)) rfl rfl hl.1 rfl (lv_room (Nat.le_of_ble_eq_true rfl)) dL_isFrameSo_444 ⟨(Nat.le_of_ble_eq_true rfl), (Nat.le_of_ble_eq_true rfl)⟩) hP hD hS hA (fun D_110 H locs k_110 hP hD hS => ?_)
            refine lv_if_ne (tgt := 454) hx hb dL_isFrameSo_447 (by decide) (fun c_111 => absurd ((t_eq (show (0 : Int32).toInt = 0 by decide) (show (0 : Int32).toInt = 0 by decide)).mpr (by omega)) c_111) (fun c_111 => ?_)
            refine lv_iconst (v := 1) hx hb dL_isFrameSo_450 (by decide) ?_
            refine lv_goto (tgt := 455) hx hb dL_isFrameSo_451 (by decide) ?_
            refine lv_istore (lv' := [(17, .int 1), (16, .int 0), (15, .int (nI (M 1) - nI (N 1))), (14, .int (-1)), (13, .int (nI (rfs N))), (12, .int (reV N)), (11, .int (nI (hoV N))), (10, .int (nI (N (16 + c9)))), (9, .int (nI (N (32 + c9)))), (8, .int (nI (N 7))), (7, .int (nI (N 8))), (6, .int (nI (N 1))), (5, .int (-1)), (0, .ref ad.2.2.1), (1, .int (nI a9)), (2, .int (nI c9)), (3, .int (nI g9)), (4, .int (nI st))]) hx hb dL_isFrameSo_455 hl (by decide) rfl (fun ls hl => ?_)
            refine lv_aload_n hx hb dL_isFrameSo_457 rfl (lv_at hl 13 rfl) ?_
            refine z_callA (va_runV (As := []) (rest := []) ⟨hx, hb, hml, hown, hts⟩ (pC_undo' l G H.size ad k_110.1 k_110.2) (cwV 0 hts gL_isFrameSo_X5_undo rfl rfl rfl (by decide +kernel) ⟨(Nat.le_of_ble_eq_true rfl), (Nat.le_of_ble_eq_true rfl)⟩) (zV (ci := 5) (q0 := 0) hK hP hD rfl (wCl_0 G ad D_110)) rfl rfl hl.1 rfl (lv_room (Nat.le_of_ble_eq_true rfl)) dL_isFrameSo_458 ⟨(Nat.le_of_ble_eq_true rfl), (Nat.le_of_ble_eq_true rfl)⟩) hP hD hS hA (fun v_112 D_112 H locs k_112 hP hD hS => ?_)
            obtain ⟨⟨j9, j1, rfl⟩, ⟨m9, M9, k9J⟩, k9U⟩ := k_112
            have hJ9 := Ud_J k9U k9J
            refine lv_istore (lv' := [(18, .int (nI j9)), (17, .int 1), (16, .int 0), (15, .int (nI (M 1) - nI (N 1))), (14, .int (-1)), (13, .int (nI (rfs N))), (12, .int (reV N)), (11, .int (nI (hoV N))), (10, .int (nI (N (16 + c9)))), (9, .int (nI (N (32 + c9)))), (8, .int (nI (N 7))), (7, .int (nI (N 8))), (6, .int (nI (N 1))), (5, .int (-1)), (0, .ref ad.2.2.1), (1, .int (nI a9)), (2, .int (nI c9)), (3, .int (nI g9)), (4, .int (nI st))]) hx hb dL_isFrameSo_461 hl (by decide) rfl (fun ls hl => ?_)
            refine lv_iload hx hb dL_isFrameSo_463 (lv_at hl 1 rfl) ?_
            refine lv_if_eq (tgt := 504) hx hb dL_isFrameSo_465 (by decide) (fun c_113 => absurd ((t_eq (show (1 : Int32).toInt = 1 by decide) (show (0 : Int32).toInt = 0 by decide)).mp c_113) (by omega)) (fun c_113 => ?_)
            refine lv_iload hx hb dL_isFrameSo_468 (lv_at hl 0 rfl) ?_
            refine lv_if_lt (tgt := 504) hx hb dL_isFrameSo_470 (by decide) (fun c_114 => absurd ((t_lt (nI_toInt (n := j9) (by omega)) (show (0 : Int32).toInt = 0 by decide)).mp c_114) (by omega)) (fun c_114 => ?_)
            refine lv_aload_n hx hb dL_isFrameSo_473 rfl (lv_at hl 14 rfl) ?_
            refine z_callG (val := nI (N 8)) (va_runV (As := []) (rest := []) ⟨hx, hb, hml, hown, hts⟩ (pC_received l G H.size ad hJ9) (cwV 0 hts gL_isFrameSo_X5_received rfl rfl rfl (by decide +kernel) ⟨(Nat.le_of_ble_eq_true rfl), (Nat.le_of_ble_eq_true rfl)⟩) (zV (ci := 5) (q0 := 0) hK hP hD rfl (wCl_0 G ad D_112)) rfl rfl hl.1 rfl (lv_room (Nat.le_of_ble_eq_true rfl)) dL_isFrameSo_474 ⟨(Nat.le_of_ble_eq_true rfl), (Nat.le_of_ble_eq_true rfl)⟩) hP hD hS hA (fun H locs hP hD hS => ?_)
            refine lv_iload hx hb dL_isFrameSo_477 (lv_at hl 11 rfl) ?_
            refine lv_icmp_ne (tgt := 504) hx hb dL_isFrameSo_479 (by decide) (fun c_116 => absurd ((t_eq (nI_toInt (n := (N 8)) (by omega)) (nI_toInt (n := (N 8)) (by omega))).mpr (by omega)) c_116) (fun c_116 => ?_)
            refine lv_aload_n hx hb dL_isFrameSo_482 rfl (lv_at hl 14 rfl) ?_
            refine z_callG (val := nI (N 1)) (va_runV (As := []) (rest := []) ⟨hx, hb, hml, hown, hts⟩ (pC_gain l G H.size ad hJ9) (cwV 0 hts gL_isFrameSo_X5_gain rfl rfl rfl (by decide +kernel) ⟨(Nat.le_of_ble_eq_true rfl), (Nat.le_of_ble_eq_true rfl)⟩) (zV (ci := 5) (q0 := 0) hK hP hD rfl (wCl_0 G ad D_112)) rfl rfl hl.1 rfl (lv_room (Nat.le_of_ble_eq_true rfl)) dL_isFrameSo_483 ⟨(Nat.le_of_ble_eq_true rfl), (Nat.le_of_ble_eq_true rfl)⟩) hP hD hS hA (fun H locs hP hD hS => ?_)
            refine lv_iload hx hb dL_isFrameSo_486 (lv_at hl 12 rfl) ?_
            refine lv_icmp_ne (tgt := 504) hx hb dL_isFrameSo_488 (by decide) (fun c_118 => absurd ((t_eq (nI_toInt (n := (N 1)) (by omega)) (nI_toInt (n := (N 1)) (by omega))).mpr (by omega)) c_118) (fun c_118 => ?_)
            refine lv_aload_n hx hb dL_isFrameSo_491 rfl (lv_at hl 14 rfl) ?_
            refine z_callG (val := nI (hoV N)) (va_runV (As := []) (rest := []) ⟨hx, hb, hml, hown, hts⟩ (pC_holds' l G H.size ad hJ9 (show (if rem N then nI (N 5) else 0) = nI (hoV N) by unfold hoV; split <;> rfl)) (cwV 0 hts gL_isFrameSo_X5_holds rfl rfl rfl (by decide +kernel) ⟨(Nat.le_of_ble_eq_true rfl), (Nat.le_of_ble_eq_true rfl)⟩) (zV (ci := 5) (q0 := 0) hK hP hD rfl (wCl_0 G ad D_112)) rfl rfl hl.1 rfl (lv_room (Nat.le_of_ble_eq_true rfl)) dL_isFrameSo_492 ⟨(Nat.le_of_ble_eq_true rfl), (Nat.le_of_ble_eq_true rfl)⟩) hP hD hS hA (fun H locs hP hD hS => ?_)
            refine lv_iload hx hb dL_isFrameSo_495 (lv_at hl 7 rfl) ?_
            refine lv_icmp_ne (tgt := 504) hx hb dL_isFrameSo_497 (by decide) (fun c_120 => absurd ((t_eq (nI_toInt (n := (hoV N)) (by omega)) (nI_toInt (n := (hoV N)) (by omega))).mpr (by omega)) c_120) (fun c_120 => ?_)
            refine lv_iconst (v := 1) hx hb dL_isFrameSo_500 (by decide) ?_
            refine lv_goto (tgt := 505) hx hb dL_isFrameSo_501 (by decide) ?_
            exact z_iret hx hb hr rfl hlocks D_112 hP hD hS (Nat.le_of_ble_eq_true rfl) (Nat.le_of_ble_eq_true rfl) dL_isFrameSo_505 ⟨rfl, hJ9⟩
      · have z1 : N (16 + c9) = 2 := (z_eq (b := 2) rfl rfl (by omega) (by omega)).mp c_41
        have z2 : (N 5 + 1) % 2 = 0 := by
          have := (z_eq (b := 0) rfl rfl (by omega) (by omega)).mp c_81
          rw [hN5] at this
          exact this
        rw [if_pos ⟨z1, z2⟩] at rd
        refine lv_iconst (v := 1) hx hb dL_isFrameSo_329 (by decide) ?_
        refine lv_goto (tgt := 334) hx hb dL_isFrameSo_330 (by decide) ?_
        refine lv_iadd hx hb dL_isFrameSo_334 ?_
        refine z_top (show nI (N (32 + c9)) + (1 : Int32) = nI ((N (32 + c9)) + 1) from nI_add (N (32 + c9)) 1) ?_
        refine lv_icmp_ne (tgt := 342) hx hb dL_isFrameSo_335 (by decide) (fun c_121 => absurd ((t_eq (nI_toInt (n := (M (32 + c9))) (by omega)) (nI_toInt (n := ((N (32 + c9)) + 1)) (by omega))).mpr (by omega)) c_121) (fun c_121 => ?_)
        refine lv_iconst (v := 1) hx hb dL_isFrameSo_338 (by decide) ?_
        refine lv_goto (tgt := 343) hx hb dL_isFrameSo_339 (by decide) ?_
        refine lv_istore (lv' := [(17, .int 1), (16, .int 0), (15, .int (nI (M 1) - nI (N 1))), (14, .int (-1)), (13, .int (nI (rfs N))), (12, .int (reV N)), (11, .int (nI (hoV N))), (10, .int (nI (N (16 + c9)))), (9, .int (nI (N (32 + c9)))), (8, .int (nI (N 7))), (7, .int (nI (N 8))), (6, .int (nI (N 1))), (5, .int (-1)), (0, .ref ad.2.2.1), (1, .int (nI a9)), (2, .int (nI c9)), (3, .int (nI g9)), (4, .int (nI st))]) hx hb dL_isFrameSo_343 hl (by decide) rfl (fun ls hl => ?_)
        refine lv_iload hx hb dL_isFrameSo_345 (lv_at hl 3 rfl) ?_
        refine lv_if_le (tgt := 397) hx hb dL_isFrameSo_347 (by decide) (fun c_122 => ?_) (fun c_122 => absurd ((t_le (show (-1 : Int32).toInt = -1 by decide) (show (0 : Int32).toInt = 0 by decide)).mpr (by omega)) c_122)
        refine lv_iload hx hb dL_isFrameSo_397 (lv_at hl 3 rfl) ?_
        refine lv_if_gt (tgt := 457) hx hb dL_isFrameSo_399 (by decide) (fun c_123 => absurd ((t_lt (show (0 : Int32).toInt = 0 by decide) (show (-1 : Int32).toInt = -1 by decide)).mp c_123) (by omega)) (fun c_123 => ?_)
        refine lv_aload_n hx hb dL_isFrameSo_402 rfl (lv_at hl 13 rfl) ?_
        refine z_callG (val := nI (M 0)) (va_runV (As := []) (rest := []) ⟨hx, hb, hml, hown, hts⟩ (pC_glare l G H.size ad k_10.1) (cwV 0 hts gL_isFrameSo_X5_glare rfl rfl rfl (by decide +kernel) ⟨(Nat.le_of_ble_eq_true rfl), (Nat.le_of_ble_eq_true rfl)⟩) (zV (ci := 5) (q0 := 0) hK hP hD rfl (wCl_0 G ad D_10)) rfl rfl hl.1 rfl (lv_room (Nat.le_of_ble_eq_true rfl)) dL_isFrameSo_403 ⟨(Nat.le_of_ble_eq_true rfl), (Nat.le_of_ble_eq_true rfl)⟩) hP hD hS hA (fun H locs hP hD hS => ?_)
        refine lv_if_ne (tgt := 457) hx hb dL_isFrameSo_406 (by decide) (fun c_125 => ?_) (fun c_125 => ?_)
        · refine lv_aload_n hx hb dL_isFrameSo_457 rfl (lv_at hl 13 rfl) ?_
          refine z_callA (va_runV (As := []) (rest := []) ⟨hx, hb, hml, hown, hts⟩ (pC_undo' l G H.size ad k_10.1 k_10.2) (cwV 0 hts gL_isFrameSo_X5_undo rfl rfl rfl (by decide +kernel) ⟨(Nat.le_of_ble_eq_true rfl), (Nat.le_of_ble_eq_true rfl)⟩) (zV (ci := 5) (q0 := 0) hK hP hD rfl (wCl_0 G ad D_10)) rfl rfl hl.1 rfl (lv_room (Nat.le_of_ble_eq_true rfl)) dL_isFrameSo_458 ⟨(Nat.le_of_ble_eq_true rfl), (Nat.le_of_ble_eq_true rfl)⟩) hP hD hS hA (fun v_126 D_126 H locs k_126 hP hD hS => ?_)
          obtain ⟨⟨j9, j1, rfl⟩, ⟨m9, M9, k9J⟩, k9U⟩ := k_126
          have hJ9 := Ud_J k9U k9J
          refine lv_istore (lv' := [(18, .int (nI j9)), (17, .int 1), (16, .int 0), (15, .int (nI (M 1) - nI (N 1))), (14, .int (-1)), (13, .int (nI (rfs N))), (12, .int (reV N)), (11, .int (nI (hoV N))), (10, .int (nI (N (16 + c9)))), (9, .int (nI (N (32 + c9)))), (8, .int (nI (N 7))), (7, .int (nI (N 8))), (6, .int (nI (N 1))), (5, .int (-1)), (0, .ref ad.2.2.1), (1, .int (nI a9)), (2, .int (nI c9)), (3, .int (nI g9)), (4, .int (nI st))]) hx hb dL_isFrameSo_461 hl (by decide) rfl (fun ls hl => ?_)
          refine lv_iload hx hb dL_isFrameSo_463 (lv_at hl 1 rfl) ?_
          refine lv_if_eq (tgt := 504) hx hb dL_isFrameSo_465 (by decide) (fun c_127 => absurd ((t_eq (show (1 : Int32).toInt = 1 by decide) (show (0 : Int32).toInt = 0 by decide)).mp c_127) (by omega)) (fun c_127 => ?_)
          refine lv_iload hx hb dL_isFrameSo_468 (lv_at hl 0 rfl) ?_
          refine lv_if_lt (tgt := 504) hx hb dL_isFrameSo_470 (by decide) (fun c_128 => absurd ((t_lt (nI_toInt (n := j9) (by omega)) (show (0 : Int32).toInt = 0 by decide)).mp c_128) (by omega)) (fun c_128 => ?_)
          refine lv_aload_n hx hb dL_isFrameSo_473 rfl (lv_at hl 14 rfl) ?_
          refine z_callG (val := nI (N 8)) (va_runV (As := []) (rest := []) ⟨hx, hb, hml, hown, hts⟩ (pC_received l G H.size ad hJ9) (cwV 0 hts gL_isFrameSo_X5_received rfl rfl rfl (by decide +kernel) ⟨(Nat.le_of_ble_eq_true rfl), (Nat.le_of_ble_eq_true rfl)⟩) (zV (ci := 5) (q0 := 0) hK hP hD rfl (wCl_0 G ad D_126)) rfl rfl hl.1 rfl (lv_room (Nat.le_of_ble_eq_true rfl)) dL_isFrameSo_474 ⟨(Nat.le_of_ble_eq_true rfl), (Nat.le_of_ble_eq_true rfl)⟩) hP hD hS hA (fun H locs hP hD hS => ?_)
          refine lv_iload hx hb dL_isFrameSo_477 (lv_at hl 11 rfl) ?_
          refine lv_icmp_ne (tgt := 504) hx hb dL_isFrameSo_479 (by decide) (fun c_130 => absurd ((t_eq (nI_toInt (n := (N 8)) (by omega)) (nI_toInt (n := (N 8)) (by omega))).mpr (by omega)) c_130) (fun c_130 => ?_)
          refine lv_aload_n hx hb dL_isFrameSo_482 rfl (lv_at hl 14 rfl) ?_
          refine z_callG (val := nI (N 1)) (va_runV (As := []) (rest := []) ⟨hx, hb, hml, hown, hts⟩ (pC_gain l G H.size ad hJ9) (cwV 0 hts gL_isFrameSo_X5_gain rfl rfl rfl (by decide +kernel) ⟨(Nat.le_of_ble_eq_true rfl), (Nat.le_of_ble_eq_true rfl)⟩) (zV (ci := 5) (q0 := 0) hK hP hD rfl (wCl_0 G ad D_126)) rfl rfl hl.1 rfl (lv_room (Nat.le_of_ble_eq_true rfl)) dL_isFrameSo_483 ⟨(Nat.le_of_ble_eq_true rfl), (Nat.le_of_ble_eq_true rfl)⟩) hP hD hS hA (fun H locs hP hD hS => ?_)
          refine lv_iload hx hb dL_isFrameSo_486 (lv_at hl 12 rfl) ?_
          refine lv_icmp_ne (tgt := 504) hx hb dL_isFrameSo_488 (by decide) (fun c_132 => absurd ((t_eq (nI_toInt (n := (N 1)) (by omega)) (nI_toInt (n := (N 1)) (by omega))).mpr (by omega)) c_132) (fun c_132 => ?_)
          refine lv_aload_n hx hb dL_isFrameSo_491 rfl (lv_at hl 14 rfl) ?_
          refine z_callG (val := nI (hoV N)) (va_runV (As := []) (rest := []) ⟨hx, hb, hml, hown, hts⟩ (pC_holds' l G H.size ad hJ9 (show (if rem N then nI (N 5) else 0) = nI (hoV N) by unfold hoV; split <;> rfl)) (cwV 0 hts gL_isFrameSo_X5_holds rfl rfl rfl (by decide +kernel) ⟨(Nat.le_of_ble_eq_true rfl), (Nat.le_of_ble_eq_true rfl)⟩) (zV (ci := 5) (q0 := 0) hK hP hD rfl (wCl_0 G ad D_126)) rfl rfl hl.1 rfl (lv_room (Nat.le_of_ble_eq_true rfl)) dL_isFrameSo_492 ⟨(Nat.le_of_ble_eq_true rfl), (Nat.le_of_ble_eq_true rfl)⟩) hP hD hS hA (fun H locs hP hD hS => ?_)
          refine lv_iload hx hb dL_isFrameSo_495 (lv_at hl 7 rfl) ?_
          refine lv_icmp_ne (tgt := 504) hx hb dL_isFrameSo_497 (by decide) (fun c_134 => absurd ((t_eq (nI_toInt (n := (hoV N)) (by omega)) (nI_toInt (n := (hoV N)) (by omega))).mpr (by omega)) c_134) (fun c_134 => ?_)
          refine lv_iconst (v := 1) hx hb dL_isFrameSo_500 (by decide) ?_
          refine lv_goto (tgt := 505) hx hb dL_isFrameSo_501 (by decide) ?_
          exact z_iret hx hb hr rfl hlocks D_126 hP hD hS (Nat.le_of_ble_eq_true rfl) (Nat.le_of_ble_eq_true rfl) dL_isFrameSo_505 ⟨rfl, hJ9⟩
        · refine lv_aload_n hx hb dL_isFrameSo_409 rfl (lv_at hl 13 rfl) ?_
          refine z_callG (val := nI (M 1)) (va_runV (As := []) (rest := []) ⟨hx, hb, hml, hown, hts⟩ (pC_gain l G H.size ad k_10.1) (cwV 0 hts gL_isFrameSo_X5_gain rfl rfl rfl (by decide +kernel) ⟨(Nat.le_of_ble_eq_true rfl), (Nat.le_of_ble_eq_true rfl)⟩) (zV (ci := 5) (q0 := 0) hK hP hD rfl (wCl_0 G ad D_10)) rfl rfl hl.1 rfl (lv_room (Nat.le_of_ble_eq_true rfl)) dL_isFrameSo_410 ⟨(Nat.le_of_ble_eq_true rfl), (Nat.le_of_ble_eq_true rfl)⟩) hP hD hS hA (fun H locs hP hD hS => ?_)
          refine lv_bipush (v := 10) hx hb dL_isFrameSo_413 (by decide) ?_
          refine lv_icmp_ne (tgt := 457) hx hb dL_isFrameSo_415 (by decide) (fun c_136 => ?_) (fun c_136 => ?_)
          · refine lv_aload_n hx hb dL_isFrameSo_457 rfl (lv_at hl 13 rfl) ?_
            refine z_callA (va_runV (As := []) (rest := []) ⟨hx, hb, hml, hown, hts⟩ (pC_undo' l G H.size ad k_10.1 k_10.2) (cwV 0 hts gL_isFrameSo_X5_undo rfl rfl rfl (by decide +kernel) ⟨(Nat.le_of_ble_eq_true rfl), (Nat.le_of_ble_eq_true rfl)⟩) (zV (ci := 5) (q0 := 0) hK hP hD rfl (wCl_0 G ad D_10)) rfl rfl hl.1 rfl (lv_room (Nat.le_of_ble_eq_true rfl)) dL_isFrameSo_458 ⟨(Nat.le_of_ble_eq_true rfl), (Nat.le_of_ble_eq_true rfl)⟩) hP hD hS hA (fun v_137 D_137 H locs k_137 hP hD hS => ?_)
            obtain ⟨⟨j9, j1, rfl⟩, ⟨m9, M9, k9J⟩, k9U⟩ := k_137
            have hJ9 := Ud_J k9U k9J
            refine lv_istore (lv' := [(18, .int (nI j9)), (17, .int 1), (16, .int 0), (15, .int (nI (M 1) - nI (N 1))), (14, .int (-1)), (13, .int (nI (rfs N))), (12, .int (reV N)), (11, .int (nI (hoV N))), (10, .int (nI (N (16 + c9)))), (9, .int (nI (N (32 + c9)))), (8, .int (nI (N 7))), (7, .int (nI (N 8))), (6, .int (nI (N 1))), (5, .int (-1)), (0, .ref ad.2.2.1), (1, .int (nI a9)), (2, .int (nI c9)), (3, .int (nI g9)), (4, .int (nI st))]) hx hb dL_isFrameSo_461 hl (by decide) rfl (fun ls hl => ?_)
            refine lv_iload hx hb dL_isFrameSo_463 (lv_at hl 1 rfl) ?_
            refine lv_if_eq (tgt := 504) hx hb dL_isFrameSo_465 (by decide) (fun c_138 => absurd ((t_eq (show (1 : Int32).toInt = 1 by decide) (show (0 : Int32).toInt = 0 by decide)).mp c_138) (by omega)) (fun c_138 => ?_)
            refine lv_iload hx hb dL_isFrameSo_468 (lv_at hl 0 rfl) ?_
            refine lv_if_lt (tgt := 504) hx hb dL_isFrameSo_470 (by decide) (fun c_139 => absurd ((t_lt (nI_toInt (n := j9) (by omega)) (show (0 : Int32).toInt = 0 by decide)).mp c_139) (by omega)) (fun c_139 => ?_)
            refine lv_aload_n hx hb dL_isFrameSo_473 rfl (lv_at hl 14 rfl) ?_
            refine z_callG (val := nI (N 8)) (va_runV (As := []) (rest := []) ⟨hx, hb, hml, hown, hts⟩ (pC_received l G H.size ad hJ9) (cwV 0 hts gL_isFrameSo_X5_received rfl rfl rfl (by decide +kernel) ⟨(Nat.le_of_ble_eq_true rfl), (Nat.le_of_ble_eq_true rfl)⟩) (zV (ci := 5) (q0 := 0) hK hP hD rfl (wCl_0 G ad D_137)) rfl rfl hl.1 rfl (lv_room (Nat.le_of_ble_eq_true rfl)) dL_isFrameSo_474 ⟨(Nat.le_of_ble_eq_true rfl), (Nat.le_of_ble_eq_true rfl)⟩) hP hD hS hA (fun H locs hP hD hS => ?_)
            refine lv_iload hx hb dL_isFrameSo_477 (lv_at hl 11 rfl) ?_
            refine lv_icmp_ne (tgt := 504) hx hb dL_isFrameSo_479 (by decide) (fun c_141 => absurd ((t_eq (nI_toInt (n := (N 8)) (by omega)) (nI_toInt (n := (N 8)) (by omega))).mpr (by omega)) c_141) (fun c_141 => ?_)
            refine lv_aload_n hx hb dL_isFrameSo_482 rfl (lv_at hl 14 rfl) ?_
            refine z_callG (val := nI (N 1)) (va_runV (As := []) (rest := []) ⟨hx, hb, hml, hown, hts⟩ (pC_gain l G H.size ad hJ9) (cwV 0 hts gL_isFrameSo_X5_gain rfl rfl rfl (by decide +kernel) ⟨(Nat.le_of_ble_eq_true rfl), (Nat.le_of_ble_eq_true rfl)⟩) (zV (ci := 5) (q0 := 0) hK hP hD rfl (wCl_0 G ad D_137)) rfl rfl hl.1 rfl (lv_room (Nat.le_of_ble_eq_true rfl)) dL_isFrameSo_483 ⟨(Nat.le_of_ble_eq_true rfl), (Nat.le_of_ble_eq_true rfl)⟩) hP hD hS hA (fun H locs hP hD hS => ?_)
            refine lv_iload hx hb dL_isFrameSo_486 (lv_at hl 12 rfl) ?_
            refine lv_icmp_ne (tgt := 504) hx hb dL_isFrameSo_488 (by decide) (fun c_143 => absurd ((t_eq (nI_toInt (n := (N 1)) (by omega)) (nI_toInt (n := (N 1)) (by omega))).mpr (by omega)) c_143) (fun c_143 => ?_)
            refine lv_aload_n hx hb dL_isFrameSo_491 rfl (lv_at hl 14 rfl) ?_
            refine z_callG (val := nI (hoV N)) (va_runV (As := []) (rest := []) ⟨hx, hb, hml, hown, hts⟩ (pC_holds' l G H.size ad hJ9 (show (if rem N then nI (N 5) else 0) = nI (hoV N) by unfold hoV; split <;> rfl)) (cwV 0 hts gL_isFrameSo_X5_holds rfl rfl rfl (by decide +kernel) ⟨(Nat.le_of_ble_eq_true rfl), (Nat.le_of_ble_eq_true rfl)⟩) (zV (ci := 5) (q0 := 0) hK hP hD rfl (wCl_0 G ad D_137)) rfl rfl hl.1 rfl (lv_room (Nat.le_of_ble_eq_true rfl)) dL_isFrameSo_492 ⟨(Nat.le_of_ble_eq_true rfl), (Nat.le_of_ble_eq_true rfl)⟩) hP hD hS hA (fun H locs hP hD hS => ?_)
            refine lv_iload hx hb dL_isFrameSo_495 (lv_at hl 7 rfl) ?_
            refine lv_icmp_ne (tgt := 504) hx hb dL_isFrameSo_497 (by decide) (fun c_145 => absurd ((t_eq (nI_toInt (n := (hoV N)) (by omega)) (nI_toInt (n := (hoV N)) (by omega))).mpr (by omega)) c_145) (fun c_145 => ?_)
            refine lv_iconst (v := 1) hx hb dL_isFrameSo_500 (by decide) ?_
            refine lv_goto (tgt := 505) hx hb dL_isFrameSo_501 (by decide) ?_
            exact z_iret hx hb hr rfl hlocks D_137 hP hD hS (Nat.le_of_ble_eq_true rfl) (Nat.le_of_ble_eq_true rfl) dL_isFrameSo_505 ⟨rfl, hJ9⟩
          · refine lv_iload hx hb dL_isFrameSo_418 (lv_at hl 0 rfl) ?_
            refine lv_if_eq (tgt := 454) hx hb dL_isFrameSo_420 (by decide) (fun c_146 => absurd ((t_eq (show (1 : Int32).toInt = 1 by decide) (show (0 : Int32).toInt = 0 by decide)).mp c_146) (by omega)) (fun c_146 => ?_)
            have z0 : M 0 = 0 := (z_eq (b := 0) rfl rfl (by omega) (by omega)).mp c_125
            have z1 : M 1 = 10 := (z_eq (b := 10) rfl rfl (by omega) (by omega)).mp c_136
            have nb : ¬ bad M 10 := by
              unfold bad
              rw [z0, z1]
              omega
            have i1 : (frV M a9 c9 g9 10).1 = -1 := by rw [fr_two hx9 hy9 ht9 nb (by omega), if_pos ⟨rM1, by omega, by omega⟩]
            have i2 : (frV M a9 c9 (1 - g9) 10).1 = 0 := by rw [fr_two hx9 hy9 (show 1 - g9 < 2 by omega) nb (by omega), if_neg (fun z => absurd z.2.2 (by omega))]
            refine lv_aload_n hx hb dL_isFrameSo_423 rfl (lv_at hl 13 rfl) ?_
            refine lv_iload_n hx hb dL_isFrameSo_424 rfl (lv_at hl 14 rfl) ?_
            refine lv_iload_n hx hb dL_isFrameSo_425 rfl (lv_at hl 15 rfl) ?_
            refine lv_iload_n hx hb dL_isFrameSo_426 rfl (lv_at hl 16 rfl) ?_
            refine lv_bipush (v := 10) hx hb dL_isFrameSo_427 (by decide) ?_
            refine z_callM (val := (-1)) (va_runV (As := [.int (nI a9), .int (nI c9), .int (nI g9), .int 10]) (rest := []) ⟨hx, hb, hml, hown, hts⟩ (pC_ifFrame' l G H.size ad k_10.1 k_10.2 (a9 := a9) (c9 := c9) (g9 := g9) (st := 10) hx9 hy9 ht9 (Nat.le_of_ble_eq_true rfl) (Nat.le_of_ble_eq_true rfl) (V := -1) i1) (cwV 4 hts gL_isFrameSo_X5_ifFrame rfl rfl rfl (by decide +kernel) ⟨(Nat.le_of_ble_eq_true rfl), (Nat.le_of_ble_eq_true rfl)⟩) (zV (ci := 5) (q0 := 0) hK hP hD rfl (wCl_0 G ad D_10)) rfl rfl hl.1 rfl (lv_room (Nat.le_of_ble_eq_true rfl)) dL_isFrameSo_429 ⟨(Nat.le_of_ble_eq_true rfl), (Nat.le_of_ble_eq_true rfl)⟩) hP hD hS hA (fun D_147 H locs k_147 hP hD hS => ?_)
            refine lv_iconst (v := -1) hx hb dL_isFrameSo_432 (by decide) ?_
            refine lv_icmp_ne (tgt := 454) hx hb dL_isFrameSo_433 (by decide) (fun c_148 => absurd ((t_eq (show (-1 : Int32).toInt = -1 by decide) (show (-1 : Int32).toInt = -1 by decide)).mpr (by omega)) c_148) (fun c_148 => ?_)
            refine lv_aload_n hx hb dL_isFrameSo_436 rfl (lv_at hl 13 rfl) ?_
            refine lv_iload_n hx hb dL_isFrameSo_437 rfl (lv_at hl 14 rfl) ?_
            refine lv_iload_n hx hb dL_isFrameSo_438 rfl (lv_at hl 15 rfl) ?_
            refine lv_iconst (v := 1) hx hb dL_isFrameSo_439 (by decide) ?_
            refine lv_iload_n hx hb dL_isFrameSo_440 rfl (lv_at hl 16 rfl) ?_
            refine lv_isub hx hb dL_isFrameSo_441 ?_
            refine z_top (show (1 : Int32) - (nI g9) = nI (1 - g9) from pk_sub (a := 1) (b := g9) (by omega)) ?_
            refine lv_bipush (v := 10) hx hb dL_isFrameSo_442 (by decide) ?_
            refine z_callM (val := 0) (va_runV (As := [.int (nI a9), .int (nI c9), .int (nI (1 - g9)), .int 10]) (rest := []) ⟨hx, hb, hml, hown, hts⟩ (pC_ifFrame' l G H.size ad k_147.1 k_147.2 (a9 := a9) (c9 := c9) (g9 := (1 - g9)) (st := 10) hx9 hy9 (show 1 - g9 < 2 by omega) (Nat.le_of_ble_eq_true rfl) (Nat.le_of_ble_eq_true rfl) (V := 0) i2) (cwV 4 hts gL_isFrameSo_X5_ifFrame rfl rfl rfl (by decide +kernel) ⟨(Nat.le_of_ble_eq_true rfl), (Nat.le_of_ble_eq_true rfl)⟩) (zV (ci := 5) (q0 := 0) hK hP hD rfl (wCl_0 G ad D_147)) rfl rfl hl.1 rfl (lv_room (Nat.le_of_ble_eq_true rfl)) dL_isFrameSo_444 ⟨(Nat.le_of_ble_eq_true rfl), (Nat.le_of_ble_eq_true rfl)⟩) hP hD hS hA (fun D_149 H locs k_149 hP hD hS => ?_)
            refine lv_if_ne (tgt := 454) hx hb dL_isFrameSo_447 (by decide) (fun c_150 => absurd ((t_eq (show (0 : Int32).toInt = 0 by decide) (show (0 : Int32).toInt = 0 by decide)).mpr (by omega)) c_150) (fun c_150 => ?_)
            refine lv_iconst (v := 1) hx hb dL_isFrameSo_450 (by decide) ?_
            refine lv_goto (tgt := 455) hx hb dL_isFrameSo_451 (by decide) ?_
            refine lv_istore (lv' := [(17, .int 1), (16, .int 0), (15, .int (nI (M 1) - nI (N 1))), (14, .int (-1)), (13, .int (nI (rfs N))), (12, .int (reV N)), (11, .int (nI (hoV N))), (10, .int (nI (N (16 + c9)))), (9, .int (nI (N (32 + c9)))), (8, .int (nI (N 7))), (7, .int (nI (N 8))), (6, .int (nI (N 1))), (5, .int (-1)), (0, .ref ad.2.2.1), (1, .int (nI a9)), (2, .int (nI c9)), (3, .int (nI g9)), (4, .int (nI st))]) hx hb dL_isFrameSo_455 hl (by decide) rfl (fun ls hl => ?_)
            refine lv_aload_n hx hb dL_isFrameSo_457 rfl (lv_at hl 13 rfl) ?_
            refine z_callA (va_runV (As := []) (rest := []) ⟨hx, hb, hml, hown, hts⟩ (pC_undo' l G H.size ad k_149.1 k_149.2) (cwV 0 hts gL_isFrameSo_X5_undo rfl rfl rfl (by decide +kernel) ⟨(Nat.le_of_ble_eq_true rfl), (Nat.le_of_ble_eq_true rfl)⟩) (zV (ci := 5) (q0 := 0) hK hP hD rfl (wCl_0 G ad D_149)) rfl rfl hl.1 rfl (lv_room (Nat.le_of_ble_eq_true rfl)) dL_isFrameSo_458 ⟨(Nat.le_of_ble_eq_true rfl), (Nat.le_of_ble_eq_true rfl)⟩) hP hD hS hA (fun v_151 D_151 H locs k_151 hP hD hS => ?_)
            obtain ⟨⟨j9, j1, rfl⟩, ⟨m9, M9, k9J⟩, k9U⟩ := k_151
            have hJ9 := Ud_J k9U k9J
            refine lv_istore (lv' := [(18, .int (nI j9)), (17, .int 1), (16, .int 0), (15, .int (nI (M 1) - nI (N 1))), (14, .int (-1)), (13, .int (nI (rfs N))), (12, .int (reV N)), (11, .int (nI (hoV N))), (10, .int (nI (N (16 + c9)))), (9, .int (nI (N (32 + c9)))), (8, .int (nI (N 7))), (7, .int (nI (N 8))), (6, .int (nI (N 1))), (5, .int (-1)), (0, .ref ad.2.2.1), (1, .int (nI a9)), (2, .int (nI c9)), (3, .int (nI g9)), (4, .int (nI st))]) hx hb dL_isFrameSo_461 hl (by decide) rfl (fun ls hl => ?_)
            refine lv_iload hx hb dL_isFrameSo_463 (lv_at hl 1 rfl) ?_
            refine lv_if_eq (tgt := 504) hx hb dL_isFrameSo_465 (by decide) (fun c_152 => absurd ((t_eq (show (1 : Int32).toInt = 1 by decide) (show (0 : Int32).toInt = 0 by decide)).mp c_152) (by omega)) (fun c_152 => ?_)
            refine lv_iload hx hb dL_isFrameSo_468 (lv_at hl 0 rfl) ?_
            refine lv_if_lt (tgt := 504) hx hb dL_isFrameSo_470 (by decide) (fun c_153 => absurd ((t_lt (nI_toInt (n := j9) (by omega)) (show (0 : Int32).toInt = 0 by decide)).mp c_153) (by omega)) (fun c_153 => ?_)
            refine lv_aload_n hx hb dL_isFrameSo_473 rfl (lv_at hl 14 rfl) ?_
            refine z_callG (val := nI (N 8)) (va_runV (As := []) (rest := []) ⟨hx, hb, hml, hown, hts⟩ (pC_received l G H.size ad hJ9) (cwV 0 hts gL_isFrameSo_X5_received rfl rfl rfl (by decide +kernel) ⟨(Nat.le_of_ble_eq_true rfl), (Nat.le_of_ble_eq_true rfl)⟩) (zV (ci := 5) (q0 := 0) hK hP hD rfl (wCl_0 G ad D_151)) rfl rfl hl.1 rfl (lv_room (Nat.le_of_ble_eq_true rfl)) dL_isFrameSo_474 ⟨(Nat.le_of_ble_eq_true rfl), (Nat.le_of_ble_eq_true rfl)⟩) hP hD hS hA (fun H locs hP hD hS => ?_)
            refine lv_iload hx hb dL_isFrameSo_477 (lv_at hl 11 rfl) ?_
            refine lv_icmp_ne (tgt := 504) hx hb dL_isFrameSo_479 (by decide) (fun c_155 => absurd ((t_eq (nI_toInt (n := (N 8)) (by omega)) (nI_toInt (n := (N 8)) (by omega))).mpr (by omega)) c_155) (fun c_155 => ?_)
            refine lv_aload_n hx hb dL_isFrameSo_482 rfl (lv_at hl 14 rfl) ?_
            refine z_callG (val := nI (N 1)) (va_runV (As := []) (rest := []) ⟨hx, hb, hml, hown, hts⟩ (pC_gain l G H.size ad hJ9) (cwV 0 hts gL_isFrameSo_X5_gain rfl rfl rfl (by decide +kernel) ⟨(Nat.le_of_ble_eq_true rfl), (Nat.le_of_ble_eq_true rfl)⟩) (zV (ci := 5) (q0 := 0) hK hP hD rfl (wCl_0 G ad D_151)) rfl rfl hl.1 rfl (lv_room (Nat.le_of_ble_eq_true rfl)) dL_isFrameSo_483 ⟨(Nat.le_of_ble_eq_true rfl), (Nat.le_of_ble_eq_true rfl)⟩) hP hD hS hA (fun H locs hP hD hS => ?_)
            refine lv_iload hx hb dL_isFrameSo_486 (lv_at hl 12 rfl) ?_
            refine lv_icmp_ne (tgt := 504) hx hb dL_isFrameSo_488 (by decide) (fun c_157 => absurd ((t_eq (nI_toInt (n := (N 1)) (by omega)) (nI_toInt (n := (N 1)) (by omega))).mpr (by omega)) c_157) (fun c_157 => ?_)
            refine lv_aload_n hx hb dL_isFrameSo_491 rfl (lv_at hl 14 rfl) ?_
            refine z_callG (val := nI (hoV N)) (va_runV (As := []) (rest := []) ⟨hx, hb, hml, hown, hts⟩ (pC_holds' l G H.size ad hJ9 (show (if rem N then nI (N 5) else 0) = nI (hoV N) by unfold hoV; split <;> rfl)) (cwV 0 hts gL_isFrameSo_X5_holds rfl rfl rfl (by decide +kernel) ⟨(Nat.le_of_ble_eq_true rfl), (Nat.le_of_ble_eq_true rfl)⟩) (zV (ci := 5) (q0 := 0) hK hP hD rfl (wCl_0 G ad D_151)) rfl rfl hl.1 rfl (lv_room (Nat.le_of_ble_eq_true rfl)) dL_isFrameSo_492 ⟨(Nat.le_of_ble_eq_true rfl), (Nat.le_of_ble_eq_true rfl)⟩) hP hD hS hA (fun H locs hP hD hS => ?_)
            refine lv_iload hx hb dL_isFrameSo_495 (lv_at hl 7 rfl) ?_
            refine lv_icmp_ne (tgt := 504) hx hb dL_isFrameSo_497 (by decide) (fun c_159 => absurd ((t_eq (nI_toInt (n := (hoV N)) (by omega)) (nI_toInt (n := (hoV N)) (by omega))).mpr (by omega)) c_159) (fun c_159 => ?_)
            refine lv_iconst (v := 1) hx hb dL_isFrameSo_500 (by decide) ?_
            refine lv_goto (tgt := 505) hx hb dL_isFrameSo_501 (by decide) ?_
            exact z_iret hx hb hr rfl hlocks D_151 hP hD hS (Nat.le_of_ble_eq_true rfl) (Nat.le_of_ble_eq_true rfl) dL_isFrameSo_505 ⟨rfl, hJ9⟩
  · refine lv_iconst (v := 1) hx hb dL_isFrameSo_93 (by decide) ?_
    refine lv_goto (tgt := 98) hx hb dL_isFrameSo_94 (by decide) ?_
    refine lv_istore (lv' := [(16, .int 1), (15, .int (nI (M 1) - nI (N 1))), (14, .int (-1)), (13, .int (nI (rfs N))), (12, .int (reV N)), (11, .int (nI (hoV N))), (10, .int (nI (N (16 + c9)))), (9, .int (nI (N (32 + c9)))), (8, .int (nI (N 7))), (7, .int (nI (N 8))), (6, .int (nI (N 1))), (5, .int (-1)), (0, .ref ad.2.2.1), (1, .int (nI a9)), (2, .int (nI c9)), (3, .int (nI g9)), (4, .int (nI st))]) hx hb dL_isFrameSo_98 hl (by decide) rfl (fun ls hl => ?_)
    refine lv_iload hx hb dL_isFrameSo_100 (lv_at hl 2 rfl) ?_
    refine lv_iload hx hb dL_isFrameSo_102 (lv_at hl 11 rfl) ?_
    refine lv_icmp_ne (tgt := 197) hx hb dL_isFrameSo_104 (by decide) (fun c_160 => absurd ((t_eq (show (-1 : Int32).toInt = -1 by decide) (show (-1 : Int32).toInt = -1 by decide)).mpr (by omega)) c_160) (fun c_160 => ?_)
    refine lv_aload_n hx hb dL_isFrameSo_107 rfl (lv_at hl 12 rfl) ?_
    refine z_callG (val := nI (M 8)) (va_runV (As := []) (rest := []) ⟨hx, hb, hml, hown, hts⟩ (pC_received l G H.size ad k_10.1) (cwV 0 hts gL_isFrameSo_X5_received rfl rfl rfl (by decide +kernel) ⟨(Nat.le_of_ble_eq_true rfl), (Nat.le_of_ble_eq_true rfl)⟩) (zV (ci := 5) (q0 := 0) hK hP hD rfl (wCl_0 G ad D_10)) rfl rfl hl.1 rfl (lv_room (Nat.le_of_ble_eq_true rfl)) dL_isFrameSo_108 ⟨(Nat.le_of_ble_eq_true rfl), (Nat.le_of_ble_eq_true rfl)⟩) hP hD hS hA (fun H locs hP hD hS => ?_)
    refine lv_iload hx hb dL_isFrameSo_111 (lv_at hl 9 rfl) ?_
    refine lv_iconst (v := 1) hx hb dL_isFrameSo_113 (by decide) ?_
    refine lv_iadd hx hb dL_isFrameSo_114 ?_
    refine z_top (show nI (N 8) + (1 : Int32) = nI ((N 8) + 1) from nI_add (N 8) 1) ?_
    refine lv_icmp_ne (tgt := 197) hx hb dL_isFrameSo_115 (by decide) (fun c_162 => absurd ((t_eq (nI_toInt (n := (M 8)) (by omega)) (nI_toInt (n := ((N 8) + 1)) (by omega))).mpr (by omega)) c_162) (fun c_162 => ?_)
    refine lv_aload_n hx hb dL_isFrameSo_118 rfl (lv_at hl 12 rfl) ?_
    refine z_callG (val := nI (M 7)) (va_runV (As := []) (rest := []) ⟨hx, hb, hml, hown, hts⟩ (pC_presses l G H.size ad k_10.1) (cwV 0 hts gL_isFrameSo_X5_presses rfl rfl rfl (by decide +kernel) ⟨(Nat.le_of_ble_eq_true rfl), (Nat.le_of_ble_eq_true rfl)⟩) (zV (ci := 5) (q0 := 0) hK hP hD rfl (wCl_0 G ad D_10)) rfl rfl hl.1 rfl (lv_room (Nat.le_of_ble_eq_true rfl)) dL_isFrameSo_119 ⟨(Nat.le_of_ble_eq_true rfl), (Nat.le_of_ble_eq_true rfl)⟩) hP hD hS hA (fun H locs hP hD hS => ?_)
    refine lv_iload hx hb dL_isFrameSo_122 (lv_at hl 8 rfl) ?_
    refine lv_iload hx hb dL_isFrameSo_124 (lv_at hl 2 rfl) ?_
    refine lv_if_ne (tgt := 133) hx hb dL_isFrameSo_126 (by decide) (fun c_164 => ?_) (fun c_164 => absurd ((t_eq (show (-1 : Int32).toInt = -1 by decide) (show (0 : Int32).toInt = 0 by decide)).mp c_164) (by omega))
    refine lv_iconst (v := 0) hx hb dL_isFrameSo_133 (by decide) ?_
    refine lv_iadd hx hb dL_isFrameSo_134 ?_
    refine z_top (show nI (N 7) + (0 : Int32) = nI ((N 7) + 0) from nI_add (N 7) 0) ?_
    refine lv_icmp_ne (tgt := 197) hx hb dL_isFrameSo_135 (by decide) (fun c_165 => absurd ((t_eq (nI_toInt (n := (M 7)) (by omega)) (nI_toInt (n := ((N 7) + 0)) (by omega))).mpr (by omega)) c_165) (fun c_165 => ?_)
    refine lv_aload_n hx hb dL_isFrameSo_138 rfl (lv_at hl 12 rfl) ?_
    refine z_callG (val := nI (rfs M)) (va_runS (As := [.ref ad.2.2.1]) (rest := []) ⟨hx, hb, hml, hown, hts⟩ (pL_refusals l G H.size ad k_10.1) (va_cwS 1 hts gL_isFrameSo_L_refusals rfl rfl rfl (by decide +kernel) ⟨(Nat.le_of_ble_eq_true rfl), (Nat.le_of_ble_eq_true rfl)⟩) (zS hK hP hD) rfl rfl hl.1 rfl (lv_room (Nat.le_of_ble_eq_true rfl)) dL_isFrameSo_139 ⟨(Nat.le_of_ble_eq_true rfl), (Nat.le_of_ble_eq_true rfl)⟩) hP hD hS hA (fun H locs hP hD hS => ?_)
    refine lv_iload hx hb dL_isFrameSo_142 (lv_at hl 3 rfl) ?_
    refine lv_iload hx hb dL_isFrameSo_144 (lv_at hl 2 rfl) ?_
    refine lv_if_le (tgt := 153) hx hb dL_isFrameSo_146 (by decide) (fun c_167 => ?_) (fun c_167 => absurd ((t_le (show (-1 : Int32).toInt = -1 by decide) (show (0 : Int32).toInt = 0 by decide)).mpr (by omega)) c_167)
    refine lv_iconst (v := 0) hx hb dL_isFrameSo_153 (by decide) ?_
    refine lv_iadd hx hb dL_isFrameSo_154 ?_
    refine z_top (show nI (rfs N) + (0 : Int32) = nI ((rfs N) + 0) from nI_add (rfs N) 0) ?_
    refine lv_icmp_ne (tgt := 197) hx hb dL_isFrameSo_155 (by decide) (fun c_168 => absurd ((t_eq (nI_toInt (n := (rfs M)) (by omega)) (nI_toInt (n := ((rfs N) + 0)) (by omega))).mpr (by omega)) c_168) (fun c_168 => ?_)
    refine lv_aload_n hx hb dL_isFrameSo_158 rfl (lv_at hl 12 rfl) ?_
    refine z_callG (val := nI (M 1)) (va_runV (As := []) (rest := []) ⟨hx, hb, hml, hown, hts⟩ (pC_gain l G H.size ad k_10.1) (cwV 0 hts gL_isFrameSo_X5_gain rfl rfl rfl (by decide +kernel) ⟨(Nat.le_of_ble_eq_true rfl), (Nat.le_of_ble_eq_true rfl)⟩) (zV (ci := 5) (q0 := 0) hK hP hD rfl (wCl_0 G ad D_10)) rfl rfl hl.1 rfl (lv_room (Nat.le_of_ble_eq_true rfl)) dL_isFrameSo_159 ⟨(Nat.le_of_ble_eq_true rfl), (Nat.le_of_ble_eq_true rfl)⟩) hP hD hS hA (fun H locs hP hD hS => ?_)
    refine lv_iconst (v := 1) hx hb dL_isFrameSo_162 (by decide) ?_
    refine lv_icmp_lt (tgt := 197) hx hb dL_isFrameSo_163 (by decide) (fun c_170 => absurd ((t_lt (nI_toInt (n := (M 1)) (by omega)) (show (1 : Int32).toInt = 1 by decide)).mp c_170) (by omega)) (fun c_170 => ?_)
    refine lv_aload_n hx hb dL_isFrameSo_166 rfl (lv_at hl 12 rfl) ?_
    refine z_callG (val := nI (M 1)) (va_runV (As := []) (rest := []) ⟨hx, hb, hml, hown, hts⟩ (pC_gain l G H.size ad k_10.1) (cwV 0 hts gL_isFrameSo_X5_gain rfl rfl rfl (by decide +kernel) ⟨(Nat.le_of_ble_eq_true rfl), (Nat.le_of_ble_eq_true rfl)⟩) (zV (ci := 5) (q0 := 0) hK hP hD rfl (wCl_0 G ad D_10)) rfl rfl hl.1 rfl (lv_room (Nat.le_of_ble_eq_true rfl)) dL_isFrameSo_167 ⟨(Nat.le_of_ble_eq_true rfl), (Nat.le_of_ble_eq_true rfl)⟩) hP hD hS hA (fun H locs hP hD hS => ?_)
    refine lv_bipush (v := 10) hx hb dL_isFrameSo_170 (by decide) ?_
    refine lv_icmp_gt (tgt := 197) hx hb dL_isFrameSo_172 (by decide) (fun c_172 => absurd ((t_lt (show (10 : Int32).toInt = 10 by decide) (nI_toInt (n := (M 1)) (by omega))).mp c_172) (by omega)) (fun c_172 => ?_)
    refine lv_iload hx hb dL_isFrameSo_175 (lv_at hl 0 rfl) ?_
    refine lv_if_ne (tgt := 193) hx hb dL_isFrameSo_177 (by decide) (fun c_173 => ?_) (fun c_173 => absurd ((t_eq (show (1 : Int32).toInt = 1 by decide) (show (0 : Int32).toInt = 0 by decide)).mp c_173) (by omega))
    refine lv_iconst (v := 1) hx hb dL_isFrameSo_193 (by decide) ?_
    refine lv_goto (tgt := 198) hx hb dL_isFrameSo_194 (by decide) ?_
    refine lv_istore (lv' := [(17, .int 1), (16, .int 1), (15, .int (nI (M 1) - nI (N 1))), (14, .int (-1)), (13, .int (nI (rfs N))), (12, .int (reV N)), (11, .int (nI (hoV N))), (10, .int (nI (N (16 + c9)))), (9, .int (nI (N (32 + c9)))), (8, .int (nI (N 7))), (7, .int (nI (N 8))), (6, .int (nI (N 1))), (5, .int (-1)), (0, .ref ad.2.2.1), (1, .int (nI a9)), (2, .int (nI c9)), (3, .int (nI g9)), (4, .int (nI st))]) hx hb dL_isFrameSo_198 hl (by decide) rfl (fun ls hl => ?_)
    refine lv_iload hx hb dL_isFrameSo_200 (lv_at hl 3 rfl) ?_
    refine lv_if_ne (tgt := 262) hx hb dL_isFrameSo_202 (by decide) (fun c_174 => ?_) (fun c_174 => absurd ((t_eq (show (-1 : Int32).toInt = -1 by decide) (show (0 : Int32).toInt = 0 by decide)).mp c_174) (by omega))
    refine lv_iload hx hb dL_isFrameSo_262 (lv_at hl 3 rfl) ?_
    refine lv_iconst (v := -1) hx hb dL_isFrameSo_264 (by decide) ?_
    refine lv_icmp_ne (tgt := 345) hx hb dL_isFrameSo_265 (by decide) (fun c_175 => absurd ((t_eq (show (-1 : Int32).toInt = -1 by decide) (show (-1 : Int32).toInt = -1 by decide)).mpr (by omega)) c_175) (fun c_175 => ?_)
    refine lv_iload hx hb dL_isFrameSo_268 (lv_at hl 0 rfl) ?_
    refine lv_if_eq (tgt := 342) hx hb dL_isFrameSo_270 (by decide) (fun c_176 => absurd ((t_eq (show (1 : Int32).toInt = 1 by decide) (show (0 : Int32).toInt = 0 by decide)).mp c_176) (by omega)) (fun c_176 => ?_)
    refine lv_iload hx hb dL_isFrameSo_273 (lv_at hl 5 rfl) ?_
    refine lv_iload_n hx hb dL_isFrameSo_275 rfl (lv_at hl 15 rfl) ?_
    refine lv_icmp_ne (tgt := 342) hx hb dL_isFrameSo_276 (by decide) (fun c_177 => absurd rN c_177) (fun c_177 => ?_)
    refine lv_aload_n hx hb dL_isFrameSo_279 rfl (lv_at hl 13 rfl) ?_
    refine z_callG (val := (reV M)) (va_runV (As := []) (rest := []) ⟨hx, hb, hml, hown, hts⟩ (pC_remembered' l G H.size ad k_10.1 (V := reV M) rfl) (cwV 0 hts gL_isFrameSo_X5_remembered rfl rfl rfl (by decide +kernel) ⟨(Nat.le_of_ble_eq_true rfl), (Nat.le_of_ble_eq_true rfl)⟩) (zV (ci := 5) (q0 := 0) hK hP hD rfl (wCl_0 G ad D_10)) rfl rfl hl.1 rfl (lv_room (Nat.le_of_ble_eq_true rfl)) dL_isFrameSo_280 ⟨(Nat.le_of_ble_eq_true rfl), (Nat.le_of_ble_eq_true rfl)⟩) hP hD hS hA (fun H locs hP hD hS => ?_)
    refine lv_iload_n hx hb dL_isFrameSo_283 rfl (lv_at hl 15 rfl) ?_
    refine lv_icmp_ne (tgt := 342) hx hb dL_isFrameSo_284 (by decide) (fun c_179 => absurd rM c_179) (fun c_179 => ?_)
    refine lv_aload_n hx hb dL_isFrameSo_287 rfl (lv_at hl 13 rfl) ?_
    refine z_callG (val := nI (hoV M)) (va_runV (As := []) (rest := []) ⟨hx, hb, hml, hown, hts⟩ (pC_holds' l G H.size ad k_10.1 (show (if rem M then nI (M 5) else 0) = nI (hoV M) by unfold hoV; split <;> rfl)) (cwV 0 hts gL_isFrameSo_X5_holds rfl rfl rfl (by decide +kernel) ⟨(Nat.le_of_ble_eq_true rfl), (Nat.le_of_ble_eq_true rfl)⟩) (zV (ci := 5) (q0 := 0) hK hP hD rfl (wCl_0 G ad D_10)) rfl rfl hl.1 rfl (lv_room (Nat.le_of_ble_eq_true rfl)) dL_isFrameSo_288 ⟨(Nat.le_of_ble_eq_true rfl), (Nat.le_of_ble_eq_true rfl)⟩) hP hD hS hA (fun H locs hP hD hS => ?_)
    refine lv_iload hx hb dL_isFrameSo_291 (lv_at hl 6 rfl) ?_
    refine lv_iconst (v := 1) hx hb dL_isFrameSo_293 (by decide) ?_
    refine lv_iadd hx hb dL_isFrameSo_294 ?_
    refine z_top (show nI (hoV N) + (1 : Int32) = nI ((hoV N) + 1) from nI_add (hoV N) 1) ?_
    refine lv_icmp_ne (tgt := 342) hx hb dL_isFrameSo_295 (by decide) (fun c_181 => absurd ((t_eq (nI_toInt (n := (hoV M)) (by omega)) (nI_toInt (n := ((hoV N) + 1)) (by omega))).mpr (by omega)) c_181) (fun c_181 => ?_)
    refine lv_aload_n hx hb dL_isFrameSo_298 rfl (lv_at hl 13 rfl) ?_
    refine z_callG (val := nI 61) (va_runV (As := []) (rest := []) ⟨hx, hb, hml, hown, hts⟩ (pC_ticksToForget' l G H.size ad k_10.1 (V := nI 61) tM) (cwV 0 hts gL_isFrameSo_X5_ticksToForget rfl rfl rfl (by decide +kernel) ⟨(Nat.le_of_ble_eq_true rfl), (Nat.le_of_ble_eq_true rfl)⟩) (zV (ci := 5) (q0 := 0) hK hP hD rfl (wCl_0 G ad D_10)) rfl rfl hl.1 rfl (lv_room (Nat.le_of_ble_eq_true rfl)) dL_isFrameSo_299 ⟨(Nat.le_of_ble_eq_true rfl), (Nat.le_of_ble_eq_true rfl)⟩) hP hD hS hA (fun H locs hP hD hS => ?_)
    refine lv_bipush (v := 61) hx hb dL_isFrameSo_302 (by decide) ?_
    refine lv_icmp_ne (tgt := 342) hx hb dL_isFrameSo_304 (by decide) (fun c_183 => absurd ((t_eq (show (61 : Int32).toInt = 61 by decide) (show (61 : Int32).toInt = 61 by decide)).mpr (by omega)) c_183) (fun c_183 => ?_)
    refine lv_aload_n hx hb dL_isFrameSo_307 rfl (lv_at hl 13 rfl) ?_
    refine lv_iload_n hx hb dL_isFrameSo_308 rfl (lv_at hl 15 rfl) ?_
    refine z_callG (val := nI (M (32 + c9))) (va_runV (As := [.int (nI c9)]) (rest := []) ⟨hx, hb, hml, hown, hts⟩ (pC_done l G H.size ad k_10.1 (k9 := c9) hy9) (cwV 1 hts gL_isFrameSo_X5_done rfl rfl rfl (by decide +kernel) ⟨(Nat.le_of_ble_eq_true rfl), (Nat.le_of_ble_eq_true rfl)⟩) (zV (ci := 5) (q0 := 0) hK hP hD rfl (wCl_0 G ad D_10)) rfl rfl hl.1 rfl (lv_room (Nat.le_of_ble_eq_true rfl)) dL_isFrameSo_309 ⟨(Nat.le_of_ble_eq_true rfl), (Nat.le_of_ble_eq_true rfl)⟩) hP hD hS hA (fun H locs hP hD hS => ?_)
    refine lv_iload hx hb dL_isFrameSo_312 (lv_at hl 8 rfl) ?_
    refine lv_iload hx hb dL_isFrameSo_314 (lv_at hl 7 rfl) ?_
    refine lv_iconst (v := 2) hx hb dL_isFrameSo_316 (by decide) ?_
    refine lv_icmp_ne (tgt := 333) hx hb dL_isFrameSo_317 (by decide) (fun c_185 => ?_) (fun c_185 => ?_)
    · have zz : ¬ N (16 + c9) = 2 := fun y => c_185 (congrArg nI y)
      rw [if_neg (fun y => zz y.1)] at rd
      refine lv_iconst (v := 0) hx hb dL_isFrameSo_333 (by decide) ?_
      refine lv_iadd hx hb dL_isFrameSo_334 ?_
      refine z_top (show nI (N (32 + c9)) + (0 : Int32) = nI ((N (32 + c9)) + 0) from nI_add (N (32 + c9)) 0) ?_
      refine lv_icmp_ne (tgt := 342) hx hb dL_isFrameSo_335 (by decide) (fun c_186 => absurd ((t_eq (nI_toInt (n := (M (32 + c9))) (by omega)) (nI_toInt (n := ((N (32 + c9)) + 0)) (by omega))).mpr (by omega)) c_186) (fun c_186 => ?_)
      refine lv_iconst (v := 1) hx hb dL_isFrameSo_338 (by decide) ?_
      refine lv_goto (tgt := 343) hx hb dL_isFrameSo_339 (by decide) ?_
      refine lv_istore (lv' := [(17, .int 1), (16, .int 1), (15, .int (nI (M 1) - nI (N 1))), (14, .int (-1)), (13, .int (nI (rfs N))), (12, .int (reV N)), (11, .int (nI (hoV N))), (10, .int (nI (N (16 + c9)))), (9, .int (nI (N (32 + c9)))), (8, .int (nI (N 7))), (7, .int (nI (N 8))), (6, .int (nI (N 1))), (5, .int (-1)), (0, .ref ad.2.2.1), (1, .int (nI a9)), (2, .int (nI c9)), (3, .int (nI g9)), (4, .int (nI st))]) hx hb dL_isFrameSo_343 hl (by decide) rfl (fun ls hl => ?_)
      refine lv_iload hx hb dL_isFrameSo_345 (lv_at hl 3 rfl) ?_
      refine lv_if_le (tgt := 397) hx hb dL_isFrameSo_347 (by decide) (fun c_187 => ?_) (fun c_187 => absurd ((t_le (show (-1 : Int32).toInt = -1 by decide) (show (0 : Int32).toInt = 0 by decide)).mpr (by omega)) c_187)
      refine lv_iload hx hb dL_isFrameSo_397 (lv_at hl 3 rfl) ?_
      refine lv_if_gt (tgt := 457) hx hb dL_isFrameSo_399 (by decide) (fun c_188 => absurd ((t_lt (show (0 : Int32).toInt = 0 by decide) (show (-1 : Int32).toInt = -1 by decide)).mp c_188) (by omega)) (fun c_188 => ?_)
      refine lv_aload_n hx hb dL_isFrameSo_402 rfl (lv_at hl 13 rfl) ?_
      refine z_callG (val := nI (M 0)) (va_runV (As := []) (rest := []) ⟨hx, hb, hml, hown, hts⟩ (pC_glare l G H.size ad k_10.1) (cwV 0 hts gL_isFrameSo_X5_glare rfl rfl rfl (by decide +kernel) ⟨(Nat.le_of_ble_eq_true rfl), (Nat.le_of_ble_eq_true rfl)⟩) (zV (ci := 5) (q0 := 0) hK hP hD rfl (wCl_0 G ad D_10)) rfl rfl hl.1 rfl (lv_room (Nat.le_of_ble_eq_true rfl)) dL_isFrameSo_403 ⟨(Nat.le_of_ble_eq_true rfl), (Nat.le_of_ble_eq_true rfl)⟩) hP hD hS hA (fun H locs hP hD hS => ?_)
      refine lv_if_ne (tgt := 457) hx hb dL_isFrameSo_406 (by decide) (fun c_190 => ?_) (fun c_190 => ?_)
      · refine lv_aload_n hx hb dL_isFrameSo_457 rfl (lv_at hl 13 rfl) ?_
        refine z_callA (va_runV (As := []) (rest := []) ⟨hx, hb, hml, hown, hts⟩ (pC_undo' l G H.size ad k_10.1 k_10.2) (cwV 0 hts gL_isFrameSo_X5_undo rfl rfl rfl (by decide +kernel) ⟨(Nat.le_of_ble_eq_true rfl), (Nat.le_of_ble_eq_true rfl)⟩) (zV (ci := 5) (q0 := 0) hK hP hD rfl (wCl_0 G ad D_10)) rfl rfl hl.1 rfl (lv_room (Nat.le_of_ble_eq_true rfl)) dL_isFrameSo_458 ⟨(Nat.le_of_ble_eq_true rfl), (Nat.le_of_ble_eq_true rfl)⟩) hP hD hS hA (fun v_191 D_191 H locs k_191 hP hD hS => ?_)
        obtain ⟨⟨j9, j1, rfl⟩, ⟨m9, M9, k9J⟩, k9U⟩ := k_191
        have hJ9 := Ud_J k9U k9J
        refine lv_istore (lv' := [(18, .int (nI j9)), (17, .int 1), (16, .int 1), (15, .int (nI (M 1) - nI (N 1))), (14, .int (-1)), (13, .int (nI (rfs N))), (12, .int (reV N)), (11, .int (nI (hoV N))), (10, .int (nI (N (16 + c9)))), (9, .int (nI (N (32 + c9)))), (8, .int (nI (N 7))), (7, .int (nI (N 8))), (6, .int (nI (N 1))), (5, .int (-1)), (0, .ref ad.2.2.1), (1, .int (nI a9)), (2, .int (nI c9)), (3, .int (nI g9)), (4, .int (nI st))]) hx hb dL_isFrameSo_461 hl (by decide) rfl (fun ls hl => ?_)
        refine lv_iload hx hb dL_isFrameSo_463 (lv_at hl 1 rfl) ?_
        refine lv_if_eq (tgt := 504) hx hb dL_isFrameSo_465 (by decide) (fun c_192 => absurd ((t_eq (show (1 : Int32).toInt = 1 by decide) (show (0 : Int32).toInt = 0 by decide)).mp c_192) (by omega)) (fun c_192 => ?_)
        refine lv_iload hx hb dL_isFrameSo_468 (lv_at hl 0 rfl) ?_
        refine lv_if_lt (tgt := 504) hx hb dL_isFrameSo_470 (by decide) (fun c_193 => absurd ((t_lt (nI_toInt (n := j9) (by omega)) (show (0 : Int32).toInt = 0 by decide)).mp c_193) (by omega)) (fun c_193 => ?_)
        refine lv_aload_n hx hb dL_isFrameSo_473 rfl (lv_at hl 14 rfl) ?_
        refine z_callG (val := nI (N 8)) (va_runV (As := []) (rest := []) ⟨hx, hb, hml, hown, hts⟩ (pC_received l G H.size ad hJ9) (cwV 0 hts gL_isFrameSo_X5_received rfl rfl rfl (by decide +kernel) ⟨(Nat.le_of_ble_eq_true rfl), (Nat.le_of_ble_eq_true rfl)⟩) (zV (ci := 5) (q0 := 0) hK hP hD rfl (wCl_0 G ad D_191)) rfl rfl hl.1 rfl (lv_room (Nat.le_of_ble_eq_true rfl)) dL_isFrameSo_474 ⟨(Nat.le_of_ble_eq_true rfl), (Nat.le_of_ble_eq_true rfl)⟩) hP hD hS hA (fun H locs hP hD hS => ?_)
        refine lv_iload hx hb dL_isFrameSo_477 (lv_at hl 11 rfl) ?_
        refine lv_icmp_ne (tgt := 504) hx hb dL_isFrameSo_479 (by decide) (fun c_195 => absurd ((t_eq (nI_toInt (n := (N 8)) (by omega)) (nI_toInt (n := (N 8)) (by omega))).mpr (by omega)) c_195) (fun c_195 => ?_)
        refine lv_aload_n hx hb dL_isFrameSo_482 rfl (lv_at hl 14 rfl) ?_
        refine z_callG (val := nI (N 1)) (va_runV (As := []) (rest := []) ⟨hx, hb, hml, hown, hts⟩ (pC_gain l G H.size ad hJ9) (cwV 0 hts gL_isFrameSo_X5_gain rfl rfl rfl (by decide +kernel) ⟨(Nat.le_of_ble_eq_true rfl), (Nat.le_of_ble_eq_true rfl)⟩) (zV (ci := 5) (q0 := 0) hK hP hD rfl (wCl_0 G ad D_191)) rfl rfl hl.1 rfl (lv_room (Nat.le_of_ble_eq_true rfl)) dL_isFrameSo_483 ⟨(Nat.le_of_ble_eq_true rfl), (Nat.le_of_ble_eq_true rfl)⟩) hP hD hS hA (fun H locs hP hD hS => ?_)
        refine lv_iload hx hb dL_isFrameSo_486 (lv_at hl 12 rfl) ?_
        refine lv_icmp_ne (tgt := 504) hx hb dL_isFrameSo_488 (by decide) (fun c_197 => absurd ((t_eq (nI_toInt (n := (N 1)) (by omega)) (nI_toInt (n := (N 1)) (by omega))).mpr (by omega)) c_197) (fun c_197 => ?_)
        refine lv_aload_n hx hb dL_isFrameSo_491 rfl (lv_at hl 14 rfl) ?_
        refine z_callG (val := nI (hoV N)) (va_runV (As := []) (rest := []) ⟨hx, hb, hml, hown, hts⟩ (pC_holds' l G H.size ad hJ9 (show (if rem N then nI (N 5) else 0) = nI (hoV N) by unfold hoV; split <;> rfl)) (cwV 0 hts gL_isFrameSo_X5_holds rfl rfl rfl (by decide +kernel) ⟨(Nat.le_of_ble_eq_true rfl), (Nat.le_of_ble_eq_true rfl)⟩) (zV (ci := 5) (q0 := 0) hK hP hD rfl (wCl_0 G ad D_191)) rfl rfl hl.1 rfl (lv_room (Nat.le_of_ble_eq_true rfl)) dL_isFrameSo_492 ⟨(Nat.le_of_ble_eq_true rfl), (Nat.le_of_ble_eq_true rfl)⟩) hP hD hS hA (fun H locs hP hD hS => ?_)
        refine lv_iload hx hb dL_isFrameSo_495 (lv_at hl 7 rfl) ?_
        refine lv_icmp_ne (tgt := 504) hx hb dL_isFrameSo_497 (by decide) (fun c_199 => absurd ((t_eq (nI_toInt (n := (hoV N)) (by omega)) (nI_toInt (n := (hoV N)) (by omega))).mpr (by omega)) c_199) (fun c_199 => ?_)
        refine lv_iconst (v := 1) hx hb dL_isFrameSo_500 (by decide) ?_
        refine lv_goto (tgt := 505) hx hb dL_isFrameSo_501 (by decide) ?_
        exact z_iret hx hb hr rfl hlocks D_191 hP hD hS (Nat.le_of_ble_eq_true rfl) (Nat.le_of_ble_eq_true rfl) dL_isFrameSo_505 ⟨rfl, hJ9⟩
      · refine lv_aload_n hx hb dL_isFrameSo_409 rfl (lv_at hl 13 rfl) ?_
        refine z_callG (val := nI (M 1)) (va_runV (As := []) (rest := []) ⟨hx, hb, hml, hown, hts⟩ (pC_gain l G H.size ad k_10.1) (cwV 0 hts gL_isFrameSo_X5_gain rfl rfl rfl (by decide +kernel) ⟨(Nat.le_of_ble_eq_true rfl), (Nat.le_of_ble_eq_true rfl)⟩) (zV (ci := 5) (q0 := 0) hK hP hD rfl (wCl_0 G ad D_10)) rfl rfl hl.1 rfl (lv_room (Nat.le_of_ble_eq_true rfl)) dL_isFrameSo_410 ⟨(Nat.le_of_ble_eq_true rfl), (Nat.le_of_ble_eq_true rfl)⟩) hP hD hS hA (fun H locs hP hD hS => ?_)
        refine lv_bipush (v := 10) hx hb dL_isFrameSo_413 (by decide) ?_
        refine lv_icmp_ne (tgt := 457) hx hb dL_isFrameSo_415 (by decide) (fun c_201 => ?_) (fun c_201 => ?_)
        · refine lv_aload_n hx hb dL_isFrameSo_457 rfl (lv_at hl 13 rfl) ?_
          refine z_callA (va_runV (As := []) (rest := []) ⟨hx, hb, hml, hown, hts⟩ (pC_undo' l G H.size ad k_10.1 k_10.2) (cwV 0 hts gL_isFrameSo_X5_undo rfl rfl rfl (by decide +kernel) ⟨(Nat.le_of_ble_eq_true rfl), (Nat.le_of_ble_eq_true rfl)⟩) (zV (ci := 5) (q0 := 0) hK hP hD rfl (wCl_0 G ad D_10)) rfl rfl hl.1 rfl (lv_room (Nat.le_of_ble_eq_true rfl)) dL_isFrameSo_458 ⟨(Nat.le_of_ble_eq_true rfl), (Nat.le_of_ble_eq_true rfl)⟩) hP hD hS hA (fun v_202 D_202 H locs k_202 hP hD hS => ?_)
          obtain ⟨⟨j9, j1, rfl⟩, ⟨m9, M9, k9J⟩, k9U⟩ := k_202
          have hJ9 := Ud_J k9U k9J
          refine lv_istore (lv' := [(18, .int (nI j9)), (17, .int 1), (16, .int 1), (15, .int (nI (M 1) - nI (N 1))), (14, .int (-1)), (13, .int (nI (rfs N))), (12, .int (reV N)), (11, .int (nI (hoV N))), (10, .int (nI (N (16 + c9)))), (9, .int (nI (N (32 + c9)))), (8, .int (nI (N 7))), (7, .int (nI (N 8))), (6, .int (nI (N 1))), (5, .int (-1)), (0, .ref ad.2.2.1), (1, .int (nI a9)), (2, .int (nI c9)), (3, .int (nI g9)), (4, .int (nI st))]) hx hb dL_isFrameSo_461 hl (by decide) rfl (fun ls hl => ?_)
          refine lv_iload hx hb dL_isFrameSo_463 (lv_at hl 1 rfl) ?_
          refine lv_if_eq (tgt := 504) hx hb dL_isFrameSo_465 (by decide) (fun c_203 => absurd ((t_eq (show (1 : Int32).toInt = 1 by decide) (show (0 : Int32).toInt = 0 by decide)).mp c_203) (by omega)) (fun c_203 => ?_)
          refine lv_iload hx hb dL_isFrameSo_468 (lv_at hl 0 rfl) ?_
          refine lv_if_lt (tgt := 504) hx hb dL_isFrameSo_470 (by decide) (fun c_204 => absurd ((t_lt (nI_toInt (n := j9) (by omega)) (show (0 : Int32).toInt = 0 by decide)).mp c_204) (by omega)) (fun c_204 => ?_)
          refine lv_aload_n hx hb dL_isFrameSo_473 rfl (lv_at hl 14 rfl) ?_
          refine z_callG (val := nI (N 8)) (va_runV (As := []) (rest := []) ⟨hx, hb, hml, hown, hts⟩ (pC_received l G H.size ad hJ9) (cwV 0 hts gL_isFrameSo_X5_received rfl rfl rfl (by decide +kernel) ⟨(Nat.le_of_ble_eq_true rfl), (Nat.le_of_ble_eq_true rfl)⟩) (zV (ci := 5) (q0 := 0) hK hP hD rfl (wCl_0 G ad D_202)) rfl rfl hl.1 rfl (lv_room (Nat.le_of_ble_eq_true rfl)) dL_isFrameSo_474 ⟨(Nat.le_of_ble_eq_true rfl), (Nat.le_of_ble_eq_true rfl)⟩) hP hD hS hA (fun H locs hP hD hS => ?_)
          refine lv_iload hx hb dL_isFrameSo_477 (lv_at hl 11 rfl) ?_
          refine lv_icmp_ne (tgt := 504) hx hb dL_isFrameSo_479 (by decide) (fun c_206 => absurd ((t_eq (nI_toInt (n := (N 8)) (by omega)) (nI_toInt (n := (N 8)) (by omega))).mpr (by omega)) c_206) (fun c_206 => ?_)
          refine lv_aload_n hx hb dL_isFrameSo_482 rfl (lv_at hl 14 rfl) ?_
          refine z_callG (val := nI (N 1)) (va_runV (As := []) (rest := []) ⟨hx, hb, hml, hown, hts⟩ (pC_gain l G H.size ad hJ9) (cwV 0 hts gL_isFrameSo_X5_gain rfl rfl rfl (by decide +kernel) ⟨(Nat.le_of_ble_eq_true rfl), (Nat.le_of_ble_eq_true rfl)⟩) (zV (ci := 5) (q0 := 0) hK hP hD rfl (wCl_0 G ad D_202)) rfl rfl hl.1 rfl (lv_room (Nat.le_of_ble_eq_true rfl)) dL_isFrameSo_483 ⟨(Nat.le_of_ble_eq_true rfl), (Nat.le_of_ble_eq_true rfl)⟩) hP hD hS hA (fun H locs hP hD hS => ?_)
          refine lv_iload hx hb dL_isFrameSo_486 (lv_at hl 12 rfl) ?_
          refine lv_icmp_ne (tgt := 504) hx hb dL_isFrameSo_488 (by decide) (fun c_208 => absurd ((t_eq (nI_toInt (n := (N 1)) (by omega)) (nI_toInt (n := (N 1)) (by omega))).mpr (by omega)) c_208) (fun c_208 => ?_)
          refine lv_aload_n hx hb dL_isFrameSo_491 rfl (lv_at hl 14 rfl) ?_
          refine z_callG (val := nI (hoV N)) (va_runV (As := []) (rest := []) ⟨hx, hb, hml, hown, hts⟩ (pC_holds' l G H.size ad hJ9 (show (if rem N then nI (N 5) else 0) = nI (hoV N) by unfold hoV; split <;> rfl)) (cwV 0 hts gL_isFrameSo_X5_holds rfl rfl rfl (by decide +kernel) ⟨(Nat.le_of_ble_eq_true rfl), (Nat.le_of_ble_eq_true rfl)⟩) (zV (ci := 5) (q0 := 0) hK hP hD rfl (wCl_0 G ad D_202)) rfl rfl hl.1 rfl (lv_room (Nat.le_of_ble_eq_true rfl)) dL_isFrameSo_492 ⟨(Nat.le_of_ble_eq_true rfl), (Nat.le_of_ble_eq_true rfl)⟩) hP hD hS hA (fun H locs hP hD hS => ?_)
          refine lv_iload hx hb dL_isFrameSo_495 (lv_at hl 7 rfl) ?_
          refine lv_icmp_ne (tgt := 504) hx hb dL_isFrameSo_497 (by decide) (fun c_210 => absurd ((t_eq (nI_toInt (n := (hoV N)) (by omega)) (nI_toInt (n := (hoV N)) (by omega))).mpr (by omega)) c_210) (fun c_210 => ?_)
          refine lv_iconst (v := 1) hx hb dL_isFrameSo_500 (by decide) ?_
          refine lv_goto (tgt := 505) hx hb dL_isFrameSo_501 (by decide) ?_
          exact z_iret hx hb hr rfl hlocks D_202 hP hD hS (Nat.le_of_ble_eq_true rfl) (Nat.le_of_ble_eq_true rfl) dL_isFrameSo_505 ⟨rfl, hJ9⟩
        · refine lv_iload hx hb dL_isFrameSo_418 (lv_at hl 0 rfl) ?_
          refine lv_if_eq (tgt := 454) hx hb dL_isFrameSo_420 (by decide) (fun c_211 => absurd ((t_eq (show (1 : Int32).toInt = 1 by decide) (show (0 : Int32).toInt = 0 by decide)).mp c_211) (by omega)) (fun c_211 => ?_)
          have z0 : M 0 = 0 := (z_eq (b := 0) rfl rfl (by omega) (by omega)).mp c_190
          have z1 : M 1 = 10 := (z_eq (b := 10) rfl rfl (by omega) (by omega)).mp c_201
          have nb : ¬ bad M 10 := by
            unfold bad
            rw [z0, z1]
            omega
          have i1 : (frV M a9 c9 g9 10).1 = -1 := by rw [fr_two hx9 hy9 ht9 nb (by omega), if_pos ⟨rM1, by omega, by omega⟩]
          have i2 : (frV M a9 c9 (1 - g9) 10).1 = 0 := by rw [fr_two hx9 hy9 (show 1 - g9 < 2 by omega) nb (by omega), if_neg (fun z => absurd z.2.2 (by omega))]
          refine lv_aload_n hx hb dL_isFrameSo_423 rfl (lv_at hl 13 rfl) ?_
          refine lv_iload_n hx hb dL_isFrameSo_424 rfl (lv_at hl 14 rfl) ?_
          refine lv_iload_n hx hb dL_isFrameSo_425 rfl (lv_at hl 15 rfl) ?_
          refine lv_iload_n hx hb dL_isFrameSo_426 rfl (lv_at hl 16 rfl) ?_
          refine lv_bipush (v := 10) hx hb dL_isFrameSo_427 (by decide) ?_
          refine z_callM (val := (-1)) (va_runV (As := [.int (nI a9), .int (nI c9), .int (nI g9), .int 10]) (rest := []) ⟨hx, hb, hml, hown, hts⟩ (pC_ifFrame' l G H.size ad k_10.1 k_10.2 (a9 := a9) (c9 := c9) (g9 := g9) (st := 10) hx9 hy9 ht9 (Nat.le_of_ble_eq_true rfl) (Nat.le_of_ble_eq_true rfl) (V := -1) i1) (cwV 4 hts gL_isFrameSo_X5_ifFrame rfl rfl rfl (by decide +kernel) ⟨(Nat.le_of_ble_eq_true rfl), (Nat.le_of_ble_eq_true rfl)⟩) (zV (ci := 5) (q0 := 0) hK hP hD rfl (wCl_0 G ad D_10)) rfl rfl hl.1 rfl (lv_room (Nat.le_of_ble_eq_true rfl)) dL_isFrameSo_429 ⟨(Nat.le_of_ble_eq_true rfl), (Nat.le_of_ble_eq_true rfl)⟩) hP hD hS hA (fun D_212 H locs k_212 hP hD hS => ?_)
          refine lv_iconst (v := -1) hx hb dL_isFrameSo_432 (by decide) ?_
          refine lv_icmp_ne (tgt := 454) hx hb dL_isFrameSo_433 (by decide) (fun c_213 => absurd ((t_eq (show (-1 : Int32).toInt = -1 by decide) (show (-1 : Int32).toInt = -1 by decide)).mpr (by omega)) c_213) (fun c_213 => ?_)
          refine lv_aload_n hx hb dL_isFrameSo_436 rfl (lv_at hl 13 rfl) ?_
          refine lv_iload_n hx hb dL_isFrameSo_437 rfl (lv_at hl 14 rfl) ?_
          refine lv_iload_n hx hb dL_isFrameSo_438 rfl (lv_at hl 15 rfl) ?_
          refine lv_iconst (v := 1) hx hb dL_isFrameSo_439 (by decide) ?_
          refine lv_iload_n hx hb dL_isFrameSo_440 rfl (lv_at hl 16 rfl) ?_
          refine lv_isub hx hb dL_isFrameSo_441 ?_
          refine z_top (show (1 : Int32) - (nI g9) = nI (1 - g9) from pk_sub (a := 1) (b := g9) (by omega)) ?_
          refine lv_bipush (v := 10) hx hb dL_isFrameSo_442 (by decide) ?_
          refine z_callM (val := 0) (va_runV (As := [.int (nI a9), .int (nI c9), .int (nI (1 - g9)), .int 10]) (rest := []) ⟨hx, hb, hml, hown, hts⟩ (pC_ifFrame' l G H.size ad k_212.1 k_212.2 (a9 := a9) (c9 := c9) (g9 := (1 - g9)) (st := 10) hx9 hy9 (show 1 - g9 < 2 by omega) (Nat.le_of_ble_eq_true rfl) (Nat.le_of_ble_eq_true rfl) (V := 0) i2) (cwV 4 hts gL_isFrameSo_X5_ifFrame rfl rfl rfl (by decide +kernel) ⟨(Nat.le_of_ble_eq_true rfl), (Nat.le_of_ble_eq_true rfl)⟩) (zV (ci := 5) (q0 := 0) hK hP hD rfl (wCl_0 G ad D_212)) rfl rfl hl.1 rfl (lv_room (Nat.le_of_ble_eq_true rfl)) dL_isFrameSo_444 ⟨(Nat.le_of_ble_eq_true rfl), (Nat.le_of_ble_eq_true rfl)⟩) hP hD hS hA (fun D_214 H locs k_214 hP hD hS => ?_)
          refine lv_if_ne (tgt := 454) hx hb dL_isFrameSo_447 (by decide) (fun c_215 => absurd ((t_eq (show (0 : Int32).toInt = 0 by decide) (show (0 : Int32).toInt = 0 by decide)).mpr (by omega)) c_215) (fun c_215 => ?_)
          refine lv_iconst (v := 1) hx hb dL_isFrameSo_450 (by decide) ?_
          refine lv_goto (tgt := 455) hx hb dL_isFrameSo_451 (by decide) ?_
          refine lv_istore (lv' := [(17, .int 1), (16, .int 1), (15, .int (nI (M 1) - nI (N 1))), (14, .int (-1)), (13, .int (nI (rfs N))), (12, .int (reV N)), (11, .int (nI (hoV N))), (10, .int (nI (N (16 + c9)))), (9, .int (nI (N (32 + c9)))), (8, .int (nI (N 7))), (7, .int (nI (N 8))), (6, .int (nI (N 1))), (5, .int (-1)), (0, .ref ad.2.2.1), (1, .int (nI a9)), (2, .int (nI c9)), (3, .int (nI g9)), (4, .int (nI st))]) hx hb dL_isFrameSo_455 hl (by decide) rfl (fun ls hl => ?_)
          refine lv_aload_n hx hb dL_isFrameSo_457 rfl (lv_at hl 13 rfl) ?_
          refine z_callA (va_runV (As := []) (rest := []) ⟨hx, hb, hml, hown, hts⟩ (pC_undo' l G H.size ad k_214.1 k_214.2) (cwV 0 hts gL_isFrameSo_X5_undo rfl rfl rfl (by decide +kernel) ⟨(Nat.le_of_ble_eq_true rfl), (Nat.le_of_ble_eq_true rfl)⟩) (zV (ci := 5) (q0 := 0) hK hP hD rfl (wCl_0 G ad D_214)) rfl rfl hl.1 rfl (lv_room (Nat.le_of_ble_eq_true rfl)) dL_isFrameSo_458 ⟨(Nat.le_of_ble_eq_true rfl), (Nat.le_of_ble_eq_true rfl)⟩) hP hD hS hA (fun v_216 D_216 H locs k_216 hP hD hS => ?_)
          obtain ⟨⟨j9, j1, rfl⟩, ⟨m9, M9, k9J⟩, k9U⟩ := k_216
          have hJ9 := Ud_J k9U k9J
          refine lv_istore (lv' := [(18, .int (nI j9)), (17, .int 1), (16, .int 1), (15, .int (nI (M 1) - nI (N 1))), (14, .int (-1)), (13, .int (nI (rfs N))), (12, .int (reV N)), (11, .int (nI (hoV N))), (10, .int (nI (N (16 + c9)))), (9, .int (nI (N (32 + c9)))), (8, .int (nI (N 7))), (7, .int (nI (N 8))), (6, .int (nI (N 1))), (5, .int (-1)), (0, .ref ad.2.2.1), (1, .int (nI a9)), (2, .int (nI c9)), (3, .int (nI g9)), (4, .int (nI st))]) hx hb dL_isFrameSo_461 hl (by decide) rfl (fun ls hl => ?_)
          refine lv_iload hx hb dL_isFrameSo_463 (lv_at hl 1 rfl) ?_
          refine lv_if_eq (tgt := 504) hx hb dL_isFrameSo_465 (by decide) (fun c_217 => absurd ((t_eq (show (1 : Int32).toInt = 1 by decide) (show (0 : Int32).toInt = 0 by decide)).mp c_217) (by omega)) (fun c_217 => ?_)
          refine lv_iload hx hb dL_isFrameSo_468 (lv_at hl 0 rfl) ?_
          refine lv_if_lt (tgt := 504) hx hb dL_isFrameSo_470 (by decide) (fun c_218 => absurd ((t_lt (nI_toInt (n := j9) (by omega)) (show (0 : Int32).toInt = 0 by decide)).mp c_218) (by omega)) (fun c_218 => ?_)
          refine lv_aload_n hx hb dL_isFrameSo_473 rfl (lv_at hl 14 rfl) ?_
          refine z_callG (val := nI (N 8)) (va_runV (As := []) (rest := []) ⟨hx, hb, hml, hown, hts⟩ (pC_received l G H.size ad hJ9) (cwV 0 hts gL_isFrameSo_X5_received rfl rfl rfl (by decide +kernel) ⟨(Nat.le_of_ble_eq_true rfl), (Nat.le_of_ble_eq_true rfl)⟩) (zV (ci := 5) (q0 := 0) hK hP hD rfl (wCl_0 G ad D_216)) rfl rfl hl.1 rfl (lv_room (Nat.le_of_ble_eq_true rfl)) dL_isFrameSo_474 ⟨(Nat.le_of_ble_eq_true rfl), (Nat.le_of_ble_eq_true rfl)⟩) hP hD hS hA (fun H locs hP hD hS => ?_)
          refine lv_iload hx hb dL_isFrameSo_477 (lv_at hl 11 rfl) ?_
          refine lv_icmp_ne (tgt := 504) hx hb dL_isFrameSo_479 (by decide) (fun c_220 => absurd ((t_eq (nI_toInt (n := (N 8)) (by omega)) (nI_toInt (n := (N 8)) (by omega))).mpr (by omega)) c_220) (fun c_220 => ?_)
          refine lv_aload_n hx hb dL_isFrameSo_482 rfl (lv_at hl 14 rfl) ?_
          refine z_callG (val := nI (N 1)) (va_runV (As := []) (rest := []) ⟨hx, hb, hml, hown, hts⟩ (pC_gain l G H.size ad hJ9) (cwV 0 hts gL_isFrameSo_X5_gain rfl rfl rfl (by decide +kernel) ⟨(Nat.le_of_ble_eq_true rfl), (Nat.le_of_ble_eq_true rfl)⟩) (zV (ci := 5) (q0 := 0) hK hP hD rfl (wCl_0 G ad D_216)) rfl rfl hl.1 rfl (lv_room (Nat.le_of_ble_eq_true rfl)) dL_isFrameSo_483 ⟨(Nat.le_of_ble_eq_true rfl), (Nat.le_of_ble_eq_true rfl)⟩) hP hD hS hA (fun H locs hP hD hS => ?_)
          refine lv_iload hx hb dL_isFrameSo_486 (lv_at hl 12 rfl) ?_
          refine lv_icmp_ne (tgt := 504) hx hb dL_isFrameSo_488 (by decide) (fun c_222 => absurd ((t_eq (nI_toInt (n := (N 1)) (by omega)) (nI_toInt (n := (N 1)) (by omega))).mpr (by omega)) c_222) (fun c_222 => ?_)
          refine lv_aload_n hx hb dL_isFrameSo_491 rfl (lv_at hl 14 rfl) ?_
          refine z_callG (val := nI (hoV N)) (va_runV (As := []) (rest := []) ⟨hx, hb, hml, hown, hts⟩ (pC_holds' l G H.size ad hJ9 (show (if rem N then nI (N 5) else 0) = nI (hoV N) by unfold hoV; split <;> rfl)) (cwV 0 hts gL_isFrameSo_X5_holds rfl rfl rfl (by decide +kernel) ⟨(Nat.le_of_ble_eq_true rfl), (Nat.le_of_ble_eq_true rfl)⟩) (zV (ci := 5) (q0 := 0) hK hP hD rfl (wCl_0 G ad D_216)) rfl rfl hl.1 rfl (lv_room (Nat.le_of_ble_eq_true rfl)) dL_isFrameSo_492 ⟨(Nat.le_of_ble_eq_true rfl), (Nat.le_of_ble_eq_true rfl)⟩) hP hD hS hA (fun H locs hP hD hS => ?_)
          refine lv_iload hx hb dL_isFrameSo_495 (lv_at hl 7 rfl) ?_
          refine lv_icmp_ne (tgt := 504) hx hb dL_isFrameSo_497 (by decide) (fun c_224 => absurd ((t_eq (nI_toInt (n := (hoV N)) (by omega)) (nI_toInt (n := (hoV N)) (by omega))).mpr (by omega)) c_224) (fun c_224 => ?_)
          refine lv_iconst (v := 1) hx hb dL_isFrameSo_500 (by decide) ?_
          refine lv_goto (tgt := 505) hx hb dL_isFrameSo_501 (by decide) ?_
          exact z_iret hx hb hr rfl hlocks D_216 hP hD hS (Nat.le_of_ble_eq_true rfl) (Nat.le_of_ble_eq_true rfl) dL_isFrameSo_505 ⟨rfl, hJ9⟩
    · refine lv_iload hx hb dL_isFrameSo_320 (lv_at hl 6 rfl) ?_
      refine lv_iconst (v := 1) hx hb dL_isFrameSo_322 (by decide) ?_
      refine lv_iadd hx hb dL_isFrameSo_323 ?_
      refine z_top (show nI (hoV N) + (1 : Int32) = nI ((hoV N) + 1) from nI_add (hoV N) 1) ?_
      refine lv_iconst (v := 2) hx hb dL_isFrameSo_324 (by decide) ?_
      refine lv_irem hx hb dL_isFrameSo_325 (by decide) ?_
      refine z_top (show nI ((hoV N) + 1) - nI ((hoV N) + 1) / (2 : Int32) * (2 : Int32) = nI (((hoV N) + 1) % 2) from pk_rem (a := ((hoV N) + 1)) (d := 2) (by omega) (by decide) (by decide)) ?_
      refine lv_if_ne (tgt := 333) hx hb dL_isFrameSo_326 (by decide) (fun c_225 => ?_) (fun c_225 => ?_)
      · have zz : ¬ (N 5 + 1) % 2 = 0 := fun y => c_225 (congrArg nI (show (hoV N + 1) % 2 = 0 by rw [hN5]; exact y))
        rw [if_neg (fun y => zz y.2)] at rd
        refine lv_iconst (v := 0) hx hb dL_isFrameSo_333 (by decide) ?_
        refine lv_iadd hx hb dL_isFrameSo_334 ?_
        refine z_top (show nI (N (32 + c9)) + (0 : Int32) = nI ((N (32 + c9)) + 0) from nI_add (N (32 + c9)) 0) ?_
        refine lv_icmp_ne (tgt := 342) hx hb dL_isFrameSo_335 (by decide) (fun c_226 => absurd ((t_eq (nI_toInt (n := (M (32 + c9))) (by omega)) (nI_toInt (n := ((N (32 + c9)) + 0)) (by omega))).mpr (by omega)) c_226) (fun c_226 => ?_)
        refine lv_iconst (v := 1) hx hb dL_isFrameSo_338 (by decide) ?_
        refine lv_goto (tgt := 343) hx hb dL_isFrameSo_339 (by decide) ?_
        refine lv_istore (lv' := [(17, .int 1), (16, .int 1), (15, .int (nI (M 1) - nI (N 1))), (14, .int (-1)), (13, .int (nI (rfs N))), (12, .int (reV N)), (11, .int (nI (hoV N))), (10, .int (nI (N (16 + c9)))), (9, .int (nI (N (32 + c9)))), (8, .int (nI (N 7))), (7, .int (nI (N 8))), (6, .int (nI (N 1))), (5, .int (-1)), (0, .ref ad.2.2.1), (1, .int (nI a9)), (2, .int (nI c9)), (3, .int (nI g9)), (4, .int (nI st))]) hx hb dL_isFrameSo_343 hl (by decide) rfl (fun ls hl => ?_)
        refine lv_iload hx hb dL_isFrameSo_345 (lv_at hl 3 rfl) ?_
        refine lv_if_le (tgt := 397) hx hb dL_isFrameSo_347 (by decide) (fun c_227 => ?_) (fun c_227 => absurd ((t_le (show (-1 : Int32).toInt = -1 by decide) (show (0 : Int32).toInt = 0 by decide)).mpr (by omega)) c_227)
        refine lv_iload hx hb dL_isFrameSo_397 (lv_at hl 3 rfl) ?_
        refine lv_if_gt (tgt := 457) hx hb dL_isFrameSo_399 (by decide) (fun c_228 => absurd ((t_lt (show (0 : Int32).toInt = 0 by decide) (show (-1 : Int32).toInt = -1 by decide)).mp c_228) (by omega)) (fun c_228 => ?_)
        refine lv_aload_n hx hb dL_isFrameSo_402 rfl (lv_at hl 13 rfl) ?_
        refine z_callG (val := nI (M 0)) (va_runV (As := []) (rest := []) ⟨hx, hb, hml, hown, hts⟩ (pC_glare l G H.size ad k_10.1) (cwV 0 hts gL_isFrameSo_X5_glare rfl rfl rfl (by decide +kernel) ⟨(Nat.le_of_ble_eq_true rfl), (Nat.le_of_ble_eq_true rfl)⟩) (zV (ci := 5) (q0 := 0) hK hP hD rfl (wCl_0 G ad D_10)) rfl rfl hl.1 rfl (lv_room (Nat.le_of_ble_eq_true rfl)) dL_isFrameSo_403 ⟨(Nat.le_of_ble_eq_true rfl), (Nat.le_of_ble_eq_true rfl)⟩) hP hD hS hA (fun H locs hP hD hS => ?_)
        refine lv_if_ne (tgt := 457) hx hb dL_isFrameSo_406 (by decide) (fun c_230 => ?_) (fun c_230 => ?_)
        · refine lv_aload_n hx hb dL_isFrameSo_457 rfl (lv_at hl 13 rfl) ?_
          refine z_callA (va_runV (As := []) (rest := []) ⟨hx, hb, hml, hown, hts⟩ (pC_undo' l G H.size ad k_10.1 k_10.2) (cwV 0 hts gL_isFrameSo_X5_undo rfl rfl rfl (by decide +kernel) ⟨(Nat.le_of_ble_eq_true rfl), (Nat.le_of_ble_eq_true rfl)⟩) (zV (ci := 5) (q0 := 0) hK hP hD rfl (wCl_0 G ad D_10)) rfl rfl hl.1 rfl (lv_room (Nat.le_of_ble_eq_true rfl)) dL_isFrameSo_458 ⟨(Nat.le_of_ble_eq_true rfl), (Nat.le_of_ble_eq_true rfl)⟩) hP hD hS hA (fun v_231 D_231 H locs k_231 hP hD hS => ?_)
          obtain ⟨⟨j9, j1, rfl⟩, ⟨m9, M9, k9J⟩, k9U⟩ := k_231
          have hJ9 := Ud_J k9U k9J
          refine lv_istore (lv' := [(18, .int (nI j9)), (17, .int 1), (16, .int 1), (15, .int (nI (M 1) - nI (N 1))), (14, .int (-1)), (13, .int (nI (rfs N))), (12, .int (reV N)), (11, .int (nI (hoV N))), (10, .int (nI (N (16 + c9)))), (9, .int (nI (N (32 + c9)))), (8, .int (nI (N 7))), (7, .int (nI (N 8))), (6, .int (nI (N 1))), (5, .int (-1)), (0, .ref ad.2.2.1), (1, .int (nI a9)), (2, .int (nI c9)), (3, .int (nI g9)), (4, .int (nI st))]) hx hb dL_isFrameSo_461 hl (by decide) rfl (fun ls hl => ?_)
          refine lv_iload hx hb dL_isFrameSo_463 (lv_at hl 1 rfl) ?_
          refine lv_if_eq (tgt := 504) hx hb dL_isFrameSo_465 (by decide) (fun c_232 => absurd ((t_eq (show (1 : Int32).toInt = 1 by decide) (show (0 : Int32).toInt = 0 by decide)).mp c_232) (by omega)) (fun c_232 => ?_)
          refine lv_iload hx hb dL_isFrameSo_468 (lv_at hl 0 rfl) ?_
          refine lv_if_lt (tgt := 504) hx hb dL_isFrameSo_470 (by decide) (fun c_233 => absurd ((t_lt (nI_toInt (n := j9) (by omega)) (show (0 : Int32).toInt = 0 by decide)).mp c_233) (by omega)) (fun c_233 => ?_)
          refine lv_aload_n hx hb dL_isFrameSo_473 rfl (lv_at hl 14 rfl) ?_
          refine z_callG (val := nI (N 8)) (va_runV (As := []) (rest := []) ⟨hx, hb, hml, hown, hts⟩ (pC_received l G H.size ad hJ9) (cwV 0 hts gL_isFrameSo_X5_received rfl rfl rfl (by decide +kernel) ⟨(Nat.le_of_ble_eq_true rfl), (Nat.le_of_ble_eq_true rfl)⟩) (zV (ci := 5) (q0 := 0) hK hP hD rfl (wCl_0 G ad D_231)) rfl rfl hl.1 rfl (lv_room (Nat.le_of_ble_eq_true rfl)) dL_isFrameSo_474 ⟨(Nat.le_of_ble_eq_true rfl), (Nat.le_of_ble_eq_true rfl)⟩) hP hD hS hA (fun H locs hP hD hS => ?_)
          refine lv_iload hx hb dL_isFrameSo_477 (lv_at hl 11 rfl) ?_
          refine lv_icmp_ne (tgt := 504) hx hb dL_isFrameSo_479 (by decide) (fun c_235 => absurd ((t_eq (nI_toInt (n := (N 8)) (by omega)) (nI_toInt (n := (N 8)) (by omega))).mpr (by omega)) c_235) (fun c_235 => ?_)
          refine lv_aload_n hx hb dL_isFrameSo_482 rfl (lv_at hl 14 rfl) ?_
          refine z_callG (val := nI (N 1)) (va_runV (As := []) (rest := []) ⟨hx, hb, hml, hown, hts⟩ (pC_gain l G H.size ad hJ9) (cwV 0 hts gL_isFrameSo_X5_gain rfl rfl rfl (by decide +kernel) ⟨(Nat.le_of_ble_eq_true rfl), (Nat.le_of_ble_eq_true rfl)⟩) (zV (ci := 5) (q0 := 0) hK hP hD rfl (wCl_0 G ad D_231)) rfl rfl hl.1 rfl (lv_room (Nat.le_of_ble_eq_true rfl)) dL_isFrameSo_483 ⟨(Nat.le_of_ble_eq_true rfl), (Nat.le_of_ble_eq_true rfl)⟩) hP hD hS hA (fun H locs hP hD hS => ?_)
          refine lv_iload hx hb dL_isFrameSo_486 (lv_at hl 12 rfl) ?_
          refine lv_icmp_ne (tgt := 504) hx hb dL_isFrameSo_488 (by decide) (fun c_237 => absurd ((t_eq (nI_toInt (n := (N 1)) (by omega)) (nI_toInt (n := (N 1)) (by omega))).mpr (by omega)) c_237) (fun c_237 => ?_)
          refine lv_aload_n hx hb dL_isFrameSo_491 rfl (lv_at hl 14 rfl) ?_
          refine z_callG (val := nI (hoV N)) (va_runV (As := []) (rest := []) ⟨hx, hb, hml, hown, hts⟩ (pC_holds' l G H.size ad hJ9 (show (if rem N then nI (N 5) else 0) = nI (hoV N) by unfold hoV; split <;> rfl)) (cwV 0 hts gL_isFrameSo_X5_holds rfl rfl rfl (by decide +kernel) ⟨(Nat.le_of_ble_eq_true rfl), (Nat.le_of_ble_eq_true rfl)⟩) (zV (ci := 5) (q0 := 0) hK hP hD rfl (wCl_0 G ad D_231)) rfl rfl hl.1 rfl (lv_room (Nat.le_of_ble_eq_true rfl)) dL_isFrameSo_492 ⟨(Nat.le_of_ble_eq_true rfl), (Nat.le_of_ble_eq_true rfl)⟩) hP hD hS hA (fun H locs hP hD hS => ?_)
          refine lv_iload hx hb dL_isFrameSo_495 (lv_at hl 7 rfl) ?_
          refine lv_icmp_ne (tgt := 504) hx hb dL_isFrameSo_497 (by decide) (fun c_239 => absurd ((t_eq (nI_toInt (n := (hoV N)) (by omega)) (nI_toInt (n := (hoV N)) (by omega))).mpr (by omega)) c_239) (fun c_239 => ?_)
          refine lv_iconst (v := 1) hx hb dL_isFrameSo_500 (by decide) ?_
          refine lv_goto (tgt := 505) hx hb dL_isFrameSo_501 (by decide) ?_
          exact z_iret hx hb hr rfl hlocks D_231 hP hD hS (Nat.le_of_ble_eq_true rfl) (Nat.le_of_ble_eq_true rfl) dL_isFrameSo_505 ⟨rfl, hJ9⟩
        · refine lv_aload_n hx hb dL_isFrameSo_409 rfl (lv_at hl 13 rfl) ?_
          refine z_callG (val := nI (M 1)) (va_runV (As := []) (rest := []) ⟨hx, hb, hml, hown, hts⟩ (pC_gain l G H.size ad k_10.1) (cwV 0 hts gL_isFrameSo_X5_gain rfl rfl rfl (by decide +kernel) ⟨(Nat.le_of_ble_eq_true rfl), (Nat.le_of_ble_eq_true rfl)⟩) (zV (ci := 5) (q0 := 0) hK hP hD rfl (wCl_0 G ad D_10)) rfl rfl hl.1 rfl (lv_room (Nat.le_of_ble_eq_true rfl)) dL_isFrameSo_410 ⟨(Nat.le_of_ble_eq_true rfl), (Nat.le_of_ble_eq_true rfl)⟩) hP hD hS hA (fun H locs hP hD hS => ?_)
          refine lv_bipush (v := 10) hx hb dL_isFrameSo_413 (by decide) ?_
          refine lv_icmp_ne (tgt := 457) hx hb dL_isFrameSo_415 (by decide) (fun c_241 => ?_) (fun c_241 => ?_)
          · refine lv_aload_n hx hb dL_isFrameSo_457 rfl (lv_at hl 13 rfl) ?_
            refine z_callA (va_runV (As := []) (rest := []) ⟨hx, hb, hml, hown, hts⟩ (pC_undo' l G H.size ad k_10.1 k_10.2) (cwV 0 hts gL_isFrameSo_X5_undo rfl rfl rfl (by decide +kernel) ⟨(Nat.le_of_ble_eq_true rfl), (Nat.le_of_ble_eq_true rfl)⟩) (zV (ci := 5) (q0 := 0) hK hP hD rfl (wCl_0 G ad D_10)) rfl rfl hl.1 rfl (lv_room (Nat.le_of_ble_eq_true rfl)) dL_isFrameSo_458 ⟨(Nat.le_of_ble_eq_true rfl), (Nat.le_of_ble_eq_true rfl)⟩) hP hD hS hA (fun v_242 D_242 H locs k_242 hP hD hS => ?_)
            obtain ⟨⟨j9, j1, rfl⟩, ⟨m9, M9, k9J⟩, k9U⟩ := k_242
            have hJ9 := Ud_J k9U k9J
            refine lv_istore (lv' := [(18, .int (nI j9)), (17, .int 1), (16, .int 1), (15, .int (nI (M 1) - nI (N 1))), (14, .int (-1)), (13, .int (nI (rfs N))), (12, .int (reV N)), (11, .int (nI (hoV N))), (10, .int (nI (N (16 + c9)))), (9, .int (nI (N (32 + c9)))), (8, .int (nI (N 7))), (7, .int (nI (N 8))), (6, .int (nI (N 1))), (5, .int (-1)), (0, .ref ad.2.2.1), (1, .int (nI a9)), (2, .int (nI c9)), (3, .int (nI g9)), (4, .int (nI st))]) hx hb dL_isFrameSo_461 hl (by decide) rfl (fun ls hl => ?_)
            refine lv_iload hx hb dL_isFrameSo_463 (lv_at hl 1 rfl) ?_
            refine lv_if_eq (tgt := 504) hx hb dL_isFrameSo_465 (by decide) (fun c_243 => absurd ((t_eq (show (1 : Int32).toInt = 1 by decide) (show (0 : Int32).toInt = 0 by decide)).mp c_243) (by omega)) (fun c_243 => ?_)
            refine lv_iload hx hb dL_isFrameSo_468 (lv_at hl 0 rfl) ?_
            refine lv_if_lt (tgt := 504) hx hb dL_isFrameSo_470 (by decide) (fun c_244 => absurd ((t_lt (nI_toInt (n := j9) (by omega)) (show (0 : Int32).toInt = 0 by decide)).mp c_244) (by omega)) (fun c_244 => ?_)
            refine lv_aload_n hx hb dL_isFrameSo_473 rfl (lv_at hl 14 rfl) ?_
            refine z_callG (val := nI (N 8)) (va_runV (As := []) (rest := []) ⟨hx, hb, hml, hown, hts⟩ (pC_received l G H.size ad hJ9) (cwV 0 hts gL_isFrameSo_X5_received rfl rfl rfl (by decide +kernel) ⟨(Nat.le_of_ble_eq_true rfl), (Nat.le_of_ble_eq_true rfl)⟩) (zV (ci := 5) (q0 := 0) hK hP hD rfl (wCl_0 G ad D_242)) rfl rfl hl.1 rfl (lv_room (Nat.le_of_ble_eq_true rfl)) dL_isFrameSo_474 ⟨(Nat.le_of_ble_eq_true rfl), (Nat.le_of_ble_eq_true rfl)⟩) hP hD hS hA (fun H locs hP hD hS => ?_)
            refine lv_iload hx hb dL_isFrameSo_477 (lv_at hl 11 rfl) ?_
            refine lv_icmp_ne (tgt := 504) hx hb dL_isFrameSo_479 (by decide) (fun c_246 => absurd ((t_eq (nI_toInt (n := (N 8)) (by omega)) (nI_toInt (n := (N 8)) (by omega))).mpr (by omega)) c_246) (fun c_246 => ?_)
            refine lv_aload_n hx hb dL_isFrameSo_482 rfl (lv_at hl 14 rfl) ?_
            refine z_callG (val := nI (N 1)) (va_runV (As := []) (rest := []) ⟨hx, hb, hml, hown, hts⟩ (pC_gain l G H.size ad hJ9) (cwV 0 hts gL_isFrameSo_X5_gain rfl rfl rfl (by decide +kernel) ⟨(Nat.le_of_ble_eq_true rfl), (Nat.le_of_ble_eq_true rfl)⟩) (zV (ci := 5) (q0 := 0) hK hP hD rfl (wCl_0 G ad D_242)) rfl rfl hl.1 rfl (lv_room (Nat.le_of_ble_eq_true rfl)) dL_isFrameSo_483 ⟨(Nat.le_of_ble_eq_true rfl), (Nat.le_of_ble_eq_true rfl)⟩) hP hD hS hA (fun H locs hP hD hS => ?_)
            refine lv_iload hx hb dL_isFrameSo_486 (lv_at hl 12 rfl) ?_
            refine lv_icmp_ne (tgt := 504) hx hb dL_isFrameSo_488 (by decide) (fun c_248 => absurd ((t_eq (nI_toInt (n := (N 1)) (by omega)) (nI_toInt (n := (N 1)) (by omega))).mpr (by omega)) c_248) (fun c_248 => ?_)
            refine lv_aload_n hx hb dL_isFrameSo_491 rfl (lv_at hl 14 rfl) ?_
            refine z_callG (val := nI (hoV N)) (va_runV (As := []) (rest := []) ⟨hx, hb, hml, hown, hts⟩ (pC_holds' l G H.size ad hJ9 (show (if rem N then nI (N 5) else 0) = nI (hoV N) by unfold hoV; split <;> rfl)) (cwV 0 hts gL_isFrameSo_X5_holds rfl rfl rfl (by decide +kernel) ⟨(Nat.le_of_ble_eq_true rfl), (Nat.le_of_ble_eq_true rfl)⟩) (zV (ci := 5) (q0 := 0) hK hP hD rfl (wCl_0 G ad D_242)) rfl rfl hl.1 rfl (lv_room (Nat.le_of_ble_eq_true rfl)) dL_isFrameSo_492 ⟨(Nat.le_of_ble_eq_true rfl), (Nat.le_of_ble_eq_true rfl)⟩) hP hD hS hA (fun H locs hP hD hS => ?_)
            refine lv_iload hx hb dL_isFrameSo_495 (lv_at hl 7 rfl) ?_
            refine lv_icmp_ne (tgt := 504) hx hb dL_isFrameSo_497 (by decide) (fun c_250 => absurd ((t_eq (nI_toInt (n := (hoV N)) (by omega)) (nI_toInt (n := (hoV N)) (by omega))).mpr (by omega)) c_250) (fun c_250 => ?_)
            refine lv_iconst (v := 1) hx hb dL_isFrameSo_500 (by decide) ?_
            refine lv_goto (tgt := 505) hx hb dL_isFrameSo_501 (by decide) ?_
            exact z_iret hx hb hr rfl hlocks D_242 hP hD hS (Nat.le_of_ble_eq_true rfl) (Nat.le_of_ble_eq_true rfl) dL_isFrameSo_505 ⟨rfl, hJ9⟩
          · refine lv_iload hx hb dL_isFrameSo_418 (lv_at hl 0 rfl) ?_
            refine lv_if_eq (tgt := 454) hx hb dL_isFrameSo_420 (by decide) (fun c_251 => absurd ((t_eq (show (1 : Int32).toInt = 1 by decide) (show (0 : Int32).toInt = 0 by decide)).mp c_251) (by omega)) (fun c_251 => ?_)
            have z0 : M 0 = 0 := (z_eq (b := 0) rfl rfl (by omega) (by omega)).mp c_230
            have z1 : M 1 = 10 := (z_eq (b := 10) rfl rfl (by omega) (by omega)).mp c_241
            have nb : ¬ bad M 10 := by
              unfold bad
              rw [z0, z1]
              omega
            have i1 : (frV M a9 c9 g9 10).1 = -1 := by rw [fr_two hx9 hy9 ht9 nb (by omega), if_pos ⟨rM1, by omega, by omega⟩]
            have i2 : (frV M a9 c9 (1 - g9) 10).1 = 0 := by rw [fr_two hx9 hy9 (show 1 - g9 < 2 by omega) nb (by omega), if_neg (fun z => absurd z.2.2 (by omega))]
            refine lv_aload_n hx hb dL_isFrameSo_423 rfl (lv_at hl 13 rfl) ?_
            refine lv_iload_n hx hb dL_isFrameSo_424 rfl (lv_at hl 14 rfl) ?_
            refine lv_iload_n hx hb dL_isFrameSo_425 rfl (lv_at hl 15 rfl) ?_
            refine lv_iload_n hx hb dL_isFrameSo_426 rfl (lv_at hl 16 rfl) ?_
            refine lv_bipush (v := 10) hx hb dL_isFrameSo_427 (by decide) ?_
            refine z_callM (val := (-1)) (va_runV (As := [.int (nI a9), .int (nI c9), .int (nI g9), .int 10]) (rest := []) ⟨hx, hb, hml, hown, hts⟩ (pC_ifFrame' l G H.size ad k_10.1 k_10.2 (a9 := a9) (c9 := c9) (g9 := g9) (st := 10) hx9 hy9 ht9 (Nat.le_of_ble_eq_true rfl) (Nat.le_of_ble_eq_true rfl) (V := -1) i1) (cwV 4 hts gL_isFrameSo_X5_ifFrame rfl rfl rfl (by decide +kernel) ⟨(Nat.le_of_ble_eq_true rfl), (Nat.le_of_ble_eq_true rfl)⟩) (zV (ci := 5) (q0 := 0) hK hP hD rfl (wCl_0 G ad D_10)) rfl rfl hl.1 rfl (lv_room (Nat.le_of_ble_eq_true rfl)) dL_isFrameSo_429 ⟨(Nat.le_of_ble_eq_true rfl), (Nat.le_of_ble_eq_true rfl)⟩) hP hD hS hA (fun D_252 H locs k_252 hP hD hS => ?_)
            refine lv_iconst (v := -1) hx hb dL_isFrameSo_432 (by decide) ?_
            refine lv_icmp_ne (tgt := 454) hx hb dL_isFrameSo_433 (by decide) (fun c_253 => absurd ((t_eq (show (-1 : Int32).toInt = -1 by decide) (show (-1 : Int32).toInt = -1 by decide)).mpr (by omega)) c_253) (fun c_253 => ?_)
            refine lv_aload_n hx hb dL_isFrameSo_436 rfl (lv_at hl 13 rfl) ?_
            refine lv_iload_n hx hb dL_isFrameSo_437 rfl (lv_at hl 14 rfl) ?_
            refine lv_iload_n hx hb dL_isFrameSo_438 rfl (lv_at hl 15 rfl) ?_
            refine lv_iconst (v := 1) hx hb dL_isFrameSo_439 (by decide) ?_
            refine lv_iload_n hx hb dL_isFrameSo_440 rfl (lv_at hl 16 rfl) ?_
            refine lv_isub hx hb dL_isFrameSo_441 ?_
            refine z_top (show (1 : Int32) - (nI g9) = nI (1 - g9) from pk_sub (a := 1) (b := g9) (by omega)) ?_
            refine lv_bipush (v := 10) hx hb dL_isFrameSo_442 (by decide) ?_
            refine z_callM (val := 0) (va_runV (As := [.int (nI a9), .int (nI c9), .int (nI (1 - g9)), .int 10]) (rest := []) ⟨hx, hb, hml, hown, hts⟩ (pC_ifFrame' l G H.size ad k_252.1 k_252.2 (a9 := a9) (c9 := c9) (g9 := (1 - g9)) (st := 10) hx9 hy9 (show 1 - g9 < 2 by omega) (Nat.le_of_ble_eq_true rfl) (Nat.le_of_ble_eq_true rfl) (V := 0) i2) (cwV 4 hts gL_isFrameSo_X5_ifFrame rfl rfl rfl (by decide +kernel) ⟨(Nat.le_of_ble_eq_true rfl), (Nat.le_of_ble_eq_true rfl)⟩) (zV (ci := 5) (q0 := 0) hK hP hD rfl (wCl_0 G ad D_252)) rfl rfl hl.1 rfl (lv_room (Nat.le_of_ble_eq_true rfl)) dL_isFrameSo_444 ⟨(Nat.le_of_ble_eq_true rfl), (Nat.le_of_ble_eq_true rfl)⟩) hP hD hS hA (fun D_254 H locs k_254 hP hD hS => ?_)
            refine lv_if_ne (tgt := 454) hx hb dL_isFrameSo_447 (by decide) (fun c_255 => absurd ((t_eq (show (0 : Int32).toInt = 0 by decide) (show (0 : Int32).toInt = 0 by decide)).mpr (by omega)) c_255) (fun c_255 => ?_)
            refine lv_iconst (v := 1) hx hb dL_isFrameSo_450 (by decide) ?_
            refine lv_goto (tgt := 455) hx hb dL_isFrameSo_451 (by decide) ?_
            refine lv_istore (lv' := [(17, .int 1), (16, .int 1), (15, .int (nI (M 1) - nI (N 1))), (14, .int (-1)), (13, .int (nI (rfs N))), (12, .int (reV N)), (11, .int (nI (hoV N))), (10, .int (nI (N (16 + c9)))), (9, .int (nI (N (32 + c9)))), (8, .int (nI (N 7))), (7, .int (nI (N 8))), (6, .int (nI (N 1))), (5, .int (-1)), (0, .ref ad.2.2.1), (1, .int (nI a9)), (2, .int (nI c9)), (3, .int (nI g9)), (4, .int (nI st))]) hx hb dL_isFrameSo_455 hl (by decide) rfl (fun ls hl => ?_)
            refine lv_aload_n hx hb dL_isFrameSo_457 rfl (lv_at hl 13 rfl) ?_
            refine z_callA (va_runV (As := []) (rest := []) ⟨hx, hb, hml, hown, hts⟩ (pC_undo' l G H.size ad k_254.1 k_254.2) (cwV 0 hts gL_isFrameSo_X5_undo rfl rfl rfl (by decide +kernel) ⟨(Nat.le_of_ble_eq_true rfl), (Nat.le_of_ble_eq_true rfl)⟩) (zV (ci := 5) (q0 := 0) hK hP hD rfl (wCl_0 G ad D_254)) rfl rfl hl.1 rfl (lv_room (Nat.le_of_ble_eq_true rfl)) dL_isFrameSo_458 ⟨(Nat.le_of_ble_eq_true rfl), (Nat.le_of_ble_eq_true rfl)⟩) hP hD hS hA (fun v_256 D_256 H locs k_256 hP hD hS => ?_)
            obtain ⟨⟨j9, j1, rfl⟩, ⟨m9, M9, k9J⟩, k9U⟩ := k_256
            have hJ9 := Ud_J k9U k9J
            refine lv_istore (lv' := [(18, .int (nI j9)), (17, .int 1), (16, .int 1), (15, .int (nI (M 1) - nI (N 1))), (14, .int (-1)), (13, .int (nI (rfs N))), (12, .int (reV N)), (11, .int (nI (hoV N))), (10, .int (nI (N (16 + c9)))), (9, .int (nI (N (32 + c9)))), (8, .int (nI (N 7))), (7, .int (nI (N 8))), (6, .int (nI (N 1))), (5, .int (-1)), (0, .ref ad.2.2.1), (1, .int (nI a9)), (2, .int (nI c9)), (3, .int (nI g9)), (4, .int (nI st))]) hx hb dL_isFrameSo_461 hl (by decide) rfl (fun ls hl => ?_)
            refine lv_iload hx hb dL_isFrameSo_463 (lv_at hl 1 rfl) ?_
            refine lv_if_eq (tgt := 504) hx hb dL_isFrameSo_465 (by decide) (fun c_257 => absurd ((t_eq (show (1 : Int32).toInt = 1 by decide) (show (0 : Int32).toInt = 0 by decide)).mp c_257) (by omega)) (fun c_257 => ?_)
            refine lv_iload hx hb dL_isFrameSo_468 (lv_at hl 0 rfl) ?_
            refine lv_if_lt (tgt := 504) hx hb dL_isFrameSo_470 (by decide) (fun c_258 => absurd ((t_lt (nI_toInt (n := j9) (by omega)) (show (0 : Int32).toInt = 0 by decide)).mp c_258) (by omega)) (fun c_258 => ?_)
            refine lv_aload_n hx hb dL_isFrameSo_473 rfl (lv_at hl 14 rfl) ?_
            refine z_callG (val := nI (N 8)) (va_runV (As := []) (rest := []) ⟨hx, hb, hml, hown, hts⟩ (pC_received l G H.size ad hJ9) (cwV 0 hts gL_isFrameSo_X5_received rfl rfl rfl (by decide +kernel) ⟨(Nat.le_of_ble_eq_true rfl), (Nat.le_of_ble_eq_true rfl)⟩) (zV (ci := 5) (q0 := 0) hK hP hD rfl (wCl_0 G ad D_256)) rfl rfl hl.1 rfl (lv_room (Nat.le_of_ble_eq_true rfl)) dL_isFrameSo_474 ⟨(Nat.le_of_ble_eq_true rfl), (Nat.le_of_ble_eq_true rfl)⟩) hP hD hS hA (fun H locs hP hD hS => ?_)
            refine lv_iload hx hb dL_isFrameSo_477 (lv_at hl 11 rfl) ?_
            refine lv_icmp_ne (tgt := 504) hx hb dL_isFrameSo_479 (by decide) (fun c_260 => absurd ((t_eq (nI_toInt (n := (N 8)) (by omega)) (nI_toInt (n := (N 8)) (by omega))).mpr (by omega)) c_260) (fun c_260 => ?_)
            refine lv_aload_n hx hb dL_isFrameSo_482 rfl (lv_at hl 14 rfl) ?_
            refine z_callG (val := nI (N 1)) (va_runV (As := []) (rest := []) ⟨hx, hb, hml, hown, hts⟩ (pC_gain l G H.size ad hJ9) (cwV 0 hts gL_isFrameSo_X5_gain rfl rfl rfl (by decide +kernel) ⟨(Nat.le_of_ble_eq_true rfl), (Nat.le_of_ble_eq_true rfl)⟩) (zV (ci := 5) (q0 := 0) hK hP hD rfl (wCl_0 G ad D_256)) rfl rfl hl.1 rfl (lv_room (Nat.le_of_ble_eq_true rfl)) dL_isFrameSo_483 ⟨(Nat.le_of_ble_eq_true rfl), (Nat.le_of_ble_eq_true rfl)⟩) hP hD hS hA (fun H locs hP hD hS => ?_)
            refine lv_iload hx hb dL_isFrameSo_486 (lv_at hl 12 rfl) ?_
            refine lv_icmp_ne (tgt := 504) hx hb dL_isFrameSo_488 (by decide) (fun c_262 => absurd ((t_eq (nI_toInt (n := (N 1)) (by omega)) (nI_toInt (n := (N 1)) (by omega))).mpr (by omega)) c_262) (fun c_262 => ?_)
            refine lv_aload_n hx hb dL_isFrameSo_491 rfl (lv_at hl 14 rfl) ?_
            refine z_callG (val := nI (hoV N)) (va_runV (As := []) (rest := []) ⟨hx, hb, hml, hown, hts⟩ (pC_holds' l G H.size ad hJ9 (show (if rem N then nI (N 5) else 0) = nI (hoV N) by unfold hoV; split <;> rfl)) (cwV 0 hts gL_isFrameSo_X5_holds rfl rfl rfl (by decide +kernel) ⟨(Nat.le_of_ble_eq_true rfl), (Nat.le_of_ble_eq_true rfl)⟩) (zV (ci := 5) (q0 := 0) hK hP hD rfl (wCl_0 G ad D_256)) rfl rfl hl.1 rfl (lv_room (Nat.le_of_ble_eq_true rfl)) dL_isFrameSo_492 ⟨(Nat.le_of_ble_eq_true rfl), (Nat.le_of_ble_eq_true rfl)⟩) hP hD hS hA (fun H locs hP hD hS => ?_)
            refine lv_iload hx hb dL_isFrameSo_495 (lv_at hl 7 rfl) ?_
            refine lv_icmp_ne (tgt := 504) hx hb dL_isFrameSo_497 (by decide) (fun c_264 => absurd ((t_eq (nI_toInt (n := (hoV N)) (by omega)) (nI_toInt (n := (hoV N)) (by omega))).mpr (by omega)) c_264) (fun c_264 => ?_)
            refine lv_iconst (v := 1) hx hb dL_isFrameSo_500 (by decide) ?_
            refine lv_goto (tgt := 505) hx hb dL_isFrameSo_501 (by decide) ?_
            exact z_iret hx hb hr rfl hlocks D_256 hP hD hS (Nat.le_of_ble_eq_true rfl) (Nat.le_of_ble_eq_true rfl) dL_isFrameSo_505 ⟨rfl, hJ9⟩
      · have z1 : N (16 + c9) = 2 := (z_eq (b := 2) rfl rfl (by omega) (by omega)).mp c_185
        have z2 : (N 5 + 1) % 2 = 0 := by
          have := (z_eq (b := 0) rfl rfl (by omega) (by omega)).mp c_225
          rw [hN5] at this
          exact this
        rw [if_pos ⟨z1, z2⟩] at rd
        refine lv_iconst (v := 1) hx hb dL_isFrameSo_329 (by decide) ?_
        refine lv_goto (tgt := 334) hx hb dL_isFrameSo_330 (by decide) ?_
        refine lv_iadd hx hb dL_isFrameSo_334 ?_
        refine z_top (show nI (N (32 + c9)) + (1 : Int32) = nI ((N (32 + c9)) + 1) from nI_add (N (32 + c9)) 1) ?_
        refine lv_icmp_ne (tgt := 342) hx hb dL_isFrameSo_335 (by decide) (fun c_265 => absurd ((t_eq (nI_toInt (n := (M (32 + c9))) (by omega)) (nI_toInt (n := ((N (32 + c9)) + 1)) (by omega))).mpr (by omega)) c_265) (fun c_265 => ?_)
        refine lv_iconst (v := 1) hx hb dL_isFrameSo_338 (by decide) ?_
        refine lv_goto (tgt := 343) hx hb dL_isFrameSo_339 (by decide) ?_
        refine lv_istore (lv' := [(17, .int 1), (16, .int 1), (15, .int (nI (M 1) - nI (N 1))), (14, .int (-1)), (13, .int (nI (rfs N))), (12, .int (reV N)), (11, .int (nI (hoV N))), (10, .int (nI (N (16 + c9)))), (9, .int (nI (N (32 + c9)))), (8, .int (nI (N 7))), (7, .int (nI (N 8))), (6, .int (nI (N 1))), (5, .int (-1)), (0, .ref ad.2.2.1), (1, .int (nI a9)), (2, .int (nI c9)), (3, .int (nI g9)), (4, .int (nI st))]) hx hb dL_isFrameSo_343 hl (by decide) rfl (fun ls hl => ?_)
        refine lv_iload hx hb dL_isFrameSo_345 (lv_at hl 3 rfl) ?_
        refine lv_if_le (tgt := 397) hx hb dL_isFrameSo_347 (by decide) (fun c_266 => ?_) (fun c_266 => absurd ((t_le (show (-1 : Int32).toInt = -1 by decide) (show (0 : Int32).toInt = 0 by decide)).mpr (by omega)) c_266)
        refine lv_iload hx hb dL_isFrameSo_397 (lv_at hl 3 rfl) ?_
        refine lv_if_gt (tgt := 457) hx hb dL_isFrameSo_399 (by decide) (fun c_267 => absurd ((t_lt (show (0 : Int32).toInt = 0 by decide) (show (-1 : Int32).toInt = -1 by decide)).mp c_267) (by omega)) (fun c_267 => ?_)
        refine lv_aload_n hx hb dL_isFrameSo_402 rfl (lv_at hl 13 rfl) ?_
        refine z_callG (val := nI (M 0)) (va_runV (As := []) (rest := []) ⟨hx, hb, hml, hown, hts⟩ (pC_glare l G H.size ad k_10.1) (cwV 0 hts gL_isFrameSo_X5_glare rfl rfl rfl (by decide +kernel) ⟨(Nat.le_of_ble_eq_true rfl), (Nat.le_of_ble_eq_true rfl)⟩) (zV (ci := 5) (q0 := 0) hK hP hD rfl (wCl_0 G ad D_10)) rfl rfl hl.1 rfl (lv_room (Nat.le_of_ble_eq_true rfl)) dL_isFrameSo_403 ⟨(Nat.le_of_ble_eq_true rfl), (Nat.le_of_ble_eq_true rfl)⟩) hP hD hS hA (fun H locs hP hD hS => ?_)
        refine lv_if_ne (tgt := 457) hx hb dL_isFrameSo_406 (by decide) (fun c_269 => ?_) (fun c_269 => ?_)
        · refine lv_aload_n hx hb dL_isFrameSo_457 rfl (lv_at hl 13 rfl) ?_
          refine z_callA (va_runV (As := []) (rest := []) ⟨hx, hb, hml, hown, hts⟩ (pC_undo' l G H.size ad k_10.1 k_10.2) (cwV 0 hts gL_isFrameSo_X5_undo rfl rfl rfl (by decide +kernel) ⟨(Nat.le_of_ble_eq_true rfl), (Nat.le_of_ble_eq_true rfl)⟩) (zV (ci := 5) (q0 := 0) hK hP hD rfl (wCl_0 G ad D_10)) rfl rfl hl.1 rfl (lv_room (Nat.le_of_ble_eq_true rfl)) dL_isFrameSo_458 ⟨(Nat.le_of_ble_eq_true rfl), (Nat.le_of_ble_eq_true rfl)⟩) hP hD hS hA (fun v_270 D_270 H locs k_270 hP hD hS => ?_)
          obtain ⟨⟨j9, j1, rfl⟩, ⟨m9, M9, k9J⟩, k9U⟩ := k_270
          have hJ9 := Ud_J k9U k9J
          refine lv_istore (lv' := [(18, .int (nI j9)), (17, .int 1), (16, .int 1), (15, .int (nI (M 1) - nI (N 1))), (14, .int (-1)), (13, .int (nI (rfs N))), (12, .int (reV N)), (11, .int (nI (hoV N))), (10, .int (nI (N (16 + c9)))), (9, .int (nI (N (32 + c9)))), (8, .int (nI (N 7))), (7, .int (nI (N 8))), (6, .int (nI (N 1))), (5, .int (-1)), (0, .ref ad.2.2.1), (1, .int (nI a9)), (2, .int (nI c9)), (3, .int (nI g9)), (4, .int (nI st))]) hx hb dL_isFrameSo_461 hl (by decide) rfl (fun ls hl => ?_)
          refine lv_iload hx hb dL_isFrameSo_463 (lv_at hl 1 rfl) ?_
          refine lv_if_eq (tgt := 504) hx hb dL_isFrameSo_465 (by decide) (fun c_271 => absurd ((t_eq (show (1 : Int32).toInt = 1 by decide) (show (0 : Int32).toInt = 0 by decide)).mp c_271) (by omega)) (fun c_271 => ?_)
          refine lv_iload hx hb dL_isFrameSo_468 (lv_at hl 0 rfl) ?_
          refine lv_if_lt (tgt := 504) hx hb dL_isFrameSo_470 (by decide) (fun c_272 => absurd ((t_lt (nI_toInt (n := j9) (by omega)) (show (0 : Int32).toInt = 0 by decide)).mp c_272) (by omega)) (fun c_272 => ?_)
          refine lv_aload_n hx hb dL_isFrameSo_473 rfl (lv_at hl 14 rfl) ?_
          refine z_callG (val := nI (N 8)) (va_runV (As := []) (rest := []) ⟨hx, hb, hml, hown, hts⟩ (pC_received l G H.size ad hJ9) (cwV 0 hts gL_isFrameSo_X5_received rfl rfl rfl (by decide +kernel) ⟨(Nat.le_of_ble_eq_true rfl), (Nat.le_of_ble_eq_true rfl)⟩) (zV (ci := 5) (q0 := 0) hK hP hD rfl (wCl_0 G ad D_270)) rfl rfl hl.1 rfl (lv_room (Nat.le_of_ble_eq_true rfl)) dL_isFrameSo_474 ⟨(Nat.le_of_ble_eq_true rfl), (Nat.le_of_ble_eq_true rfl)⟩) hP hD hS hA (fun H locs hP hD hS => ?_)
          refine lv_iload hx hb dL_isFrameSo_477 (lv_at hl 11 rfl) ?_
          refine lv_icmp_ne (tgt := 504) hx hb dL_isFrameSo_479 (by decide) (fun c_274 => absurd ((t_eq (nI_toInt (n := (N 8)) (by omega)) (nI_toInt (n := (N 8)) (by omega))).mpr (by omega)) c_274) (fun c_274 => ?_)
          refine lv_aload_n hx hb dL_isFrameSo_482 rfl (lv_at hl 14 rfl) ?_
          refine z_callG (val := nI (N 1)) (va_runV (As := []) (rest := []) ⟨hx, hb, hml, hown, hts⟩ (pC_gain l G H.size ad hJ9) (cwV 0 hts gL_isFrameSo_X5_gain rfl rfl rfl (by decide +kernel) ⟨(Nat.le_of_ble_eq_true rfl), (Nat.le_of_ble_eq_true rfl)⟩) (zV (ci := 5) (q0 := 0) hK hP hD rfl (wCl_0 G ad D_270)) rfl rfl hl.1 rfl (lv_room (Nat.le_of_ble_eq_true rfl)) dL_isFrameSo_483 ⟨(Nat.le_of_ble_eq_true rfl), (Nat.le_of_ble_eq_true rfl)⟩) hP hD hS hA (fun H locs hP hD hS => ?_)
          refine lv_iload hx hb dL_isFrameSo_486 (lv_at hl 12 rfl) ?_
          refine lv_icmp_ne (tgt := 504) hx hb dL_isFrameSo_488 (by decide) (fun c_276 => absurd ((t_eq (nI_toInt (n := (N 1)) (by omega)) (nI_toInt (n := (N 1)) (by omega))).mpr (by omega)) c_276) (fun c_276 => ?_)
          refine lv_aload_n hx hb dL_isFrameSo_491 rfl (lv_at hl 14 rfl) ?_
          refine z_callG (val := nI (hoV N)) (va_runV (As := []) (rest := []) ⟨hx, hb, hml, hown, hts⟩ (pC_holds' l G H.size ad hJ9 (show (if rem N then nI (N 5) else 0) = nI (hoV N) by unfold hoV; split <;> rfl)) (cwV 0 hts gL_isFrameSo_X5_holds rfl rfl rfl (by decide +kernel) ⟨(Nat.le_of_ble_eq_true rfl), (Nat.le_of_ble_eq_true rfl)⟩) (zV (ci := 5) (q0 := 0) hK hP hD rfl (wCl_0 G ad D_270)) rfl rfl hl.1 rfl (lv_room (Nat.le_of_ble_eq_true rfl)) dL_isFrameSo_492 ⟨(Nat.le_of_ble_eq_true rfl), (Nat.le_of_ble_eq_true rfl)⟩) hP hD hS hA (fun H locs hP hD hS => ?_)
          refine lv_iload hx hb dL_isFrameSo_495 (lv_at hl 7 rfl) ?_
          refine lv_icmp_ne (tgt := 504) hx hb dL_isFrameSo_497 (by decide) (fun c_278 => absurd ((t_eq (nI_toInt (n := (hoV N)) (by omega)) (nI_toInt (n := (hoV N)) (by omega))).mpr (by omega)) c_278) (fun c_278 => ?_)
          refine lv_iconst (v := 1) hx hb dL_isFrameSo_500 (by decide) ?_
          refine lv_goto (tgt := 505) hx hb dL_isFrameSo_501 (by decide) ?_
          exact z_iret hx hb hr rfl hlocks D_270 hP hD hS (Nat.le_of_ble_eq_true rfl) (Nat.le_of_ble_eq_true rfl) dL_isFrameSo_505 ⟨rfl, hJ9⟩
        · refine lv_aload_n hx hb dL_isFrameSo_409 rfl (lv_at hl 13 rfl) ?_
          refine z_callG (val := nI (M 1)) (va_runV (As := []) (rest := []) ⟨hx, hb, hml, hown, hts⟩ (pC_gain l G H.size ad k_10.1) (cwV 0 hts gL_isFrameSo_X5_gain rfl rfl rfl (by decide +kernel) ⟨(Nat.le_of_ble_eq_true rfl), (Nat.le_of_ble_eq_true rfl)⟩) (zV (ci := 5) (q0 := 0) hK hP hD rfl (wCl_0 G ad D_10)) rfl rfl hl.1 rfl (lv_room (Nat.le_of_ble_eq_true rfl)) dL_isFrameSo_410 ⟨(Nat.le_of_ble_eq_true rfl), (Nat.le_of_ble_eq_true rfl)⟩) hP hD hS hA (fun H locs hP hD hS => ?_)
          refine lv_bipush (v := 10) hx hb dL_isFrameSo_413 (by decide) ?_
          refine lv_icmp_ne (tgt := 457) hx hb dL_isFrameSo_415 (by decide) (fun c_280 => ?_) (fun c_280 => ?_)
          · refine lv_aload_n hx hb dL_isFrameSo_457 rfl (lv_at hl 13 rfl) ?_
            refine z_callA (va_runV (As := []) (rest := []) ⟨hx, hb, hml, hown, hts⟩ (pC_undo' l G H.size ad k_10.1 k_10.2) (cwV 0 hts gL_isFrameSo_X5_undo rfl rfl rfl (by decide +kernel) ⟨(Nat.le_of_ble_eq_true rfl), (Nat.le_of_ble_eq_true rfl)⟩) (zV (ci := 5) (q0 := 0) hK hP hD rfl (wCl_0 G ad D_10)) rfl rfl hl.1 rfl (lv_room (Nat.le_of_ble_eq_true rfl)) dL_isFrameSo_458 ⟨(Nat.le_of_ble_eq_true rfl), (Nat.le_of_ble_eq_true rfl)⟩) hP hD hS hA (fun v_281 D_281 H locs k_281 hP hD hS => ?_)
            obtain ⟨⟨j9, j1, rfl⟩, ⟨m9, M9, k9J⟩, k9U⟩ := k_281
            have hJ9 := Ud_J k9U k9J
            refine lv_istore (lv' := [(18, .int (nI j9)), (17, .int 1), (16, .int 1), (15, .int (nI (M 1) - nI (N 1))), (14, .int (-1)), (13, .int (nI (rfs N))), (12, .int (reV N)), (11, .int (nI (hoV N))), (10, .int (nI (N (16 + c9)))), (9, .int (nI (N (32 + c9)))), (8, .int (nI (N 7))), (7, .int (nI (N 8))), (6, .int (nI (N 1))), (5, .int (-1)), (0, .ref ad.2.2.1), (1, .int (nI a9)), (2, .int (nI c9)), (3, .int (nI g9)), (4, .int (nI st))]) hx hb dL_isFrameSo_461 hl (by decide) rfl (fun ls hl => ?_)
            refine lv_iload hx hb dL_isFrameSo_463 (lv_at hl 1 rfl) ?_
            refine lv_if_eq (tgt := 504) hx hb dL_isFrameSo_465 (by decide) (fun c_282 => absurd ((t_eq (show (1 : Int32).toInt = 1 by decide) (show (0 : Int32).toInt = 0 by decide)).mp c_282) (by omega)) (fun c_282 => ?_)
            refine lv_iload hx hb dL_isFrameSo_468 (lv_at hl 0 rfl) ?_
            refine lv_if_lt (tgt := 504) hx hb dL_isFrameSo_470 (by decide) (fun c_283 => absurd ((t_lt (nI_toInt (n := j9) (by omega)) (show (0 : Int32).toInt = 0 by decide)).mp c_283) (by omega)) (fun c_283 => ?_)
            refine lv_aload_n hx hb dL_isFrameSo_473 rfl (lv_at hl 14 rfl) ?_
            refine z_callG (val := nI (N 8)) (va_runV (As := []) (rest := []) ⟨hx, hb, hml, hown, hts⟩ (pC_received l G H.size ad hJ9) (cwV 0 hts gL_isFrameSo_X5_received rfl rfl rfl (by decide +kernel) ⟨(Nat.le_of_ble_eq_true rfl), (Nat.le_of_ble_eq_true rfl)⟩) (zV (ci := 5) (q0 := 0) hK hP hD rfl (wCl_0 G ad D_281)) rfl rfl hl.1 rfl (lv_room (Nat.le_of_ble_eq_true rfl)) dL_isFrameSo_474 ⟨(Nat.le_of_ble_eq_true rfl), (Nat.le_of_ble_eq_true rfl)⟩) hP hD hS hA (fun H locs hP hD hS => ?_)
            refine lv_iload hx hb dL_isFrameSo_477 (lv_at hl 11 rfl) ?_
            refine lv_icmp_ne (tgt := 504) hx hb dL_isFrameSo_479 (by decide) (fun c_285 => absurd ((t_eq (nI_toInt (n := (N 8)) (by omega)) (nI_toInt (n := (N 8)) (by omega))).mpr (by omega)) c_285) (fun c_285 => ?_)
            refine lv_aload_n hx hb dL_isFrameSo_482 rfl (lv_at hl 14 rfl) ?_
            refine z_callG (val := nI (N 1)) (va_runV (As := []) (rest := []) ⟨hx, hb, hml, hown, hts⟩ (pC_gain l G H.size ad hJ9) (cwV 0 hts gL_isFrameSo_X5_gain rfl rfl rfl (by decide +kernel) ⟨(Nat.le_of_ble_eq_true rfl), (Nat.le_of_ble_eq_true rfl)⟩) (zV (ci := 5) (q0 := 0) hK hP hD rfl (wCl_0 G ad D_281)) rfl rfl hl.1 rfl (lv_room (Nat.le_of_ble_eq_true rfl)) dL_isFrameSo_483 ⟨(Nat.le_of_ble_eq_true rfl), (Nat.le_of_ble_eq_true rfl)⟩) hP hD hS hA (fun H locs hP hD hS => ?_)
            refine lv_iload hx hb dL_isFrameSo_486 (lv_at hl 12 rfl) ?_
            refine lv_icmp_ne (tgt := 504) hx hb dL_isFrameSo_488 (by decide) (fun c_287 => absurd ((t_eq (nI_toInt (n := (N 1)) (by omega)) (nI_toInt (n := (N 1)) (by omega))).mpr (by omega)) c_287) (fun c_287 => ?_)
            refine lv_aload_n hx hb dL_isFrameSo_491 rfl (lv_at hl 14 rfl) ?_
            refine z_callG (val := nI (hoV N)) (va_runV (As := []) (rest := []) ⟨hx, hb, hml, hown, hts⟩ (pC_holds' l G H.size ad hJ9 (show (if rem N then nI (N 5) else 0) = nI (hoV N) by unfold hoV; split <;> rfl)) (cwV 0 hts gL_isFrameSo_X5_holds rfl rfl rfl (by decide +kernel) ⟨(Nat.le_of_ble_eq_true rfl), (Nat.le_of_ble_eq_true rfl)⟩) (zV (ci := 5) (q0 := 0) hK hP hD rfl (wCl_0 G ad D_281)) rfl rfl hl.1 rfl (lv_room (Nat.le_of_ble_eq_true rfl)) dL_isFrameSo_492 ⟨(Nat.le_of_ble_eq_true rfl), (Nat.le_of_ble_eq_true rfl)⟩) hP hD hS hA (fun H locs hP hD hS => ?_)
            refine lv_iload hx hb dL_isFrameSo_495 (lv_at hl 7 rfl) ?_
            refine lv_icmp_ne (tgt := 504) hx hb dL_isFrameSo_497 (by decide) (fun c_289 => absurd ((t_eq (nI_toInt (n := (hoV N)) (by omega)) (nI_toInt (n := (hoV N)) (by omega))).mpr (by omega)) c_289) (fun c_289 => ?_)
            refine lv_iconst (v := 1) hx hb dL_isFrameSo_500 (by decide) ?_
            refine lv_goto (tgt := 505) hx hb dL_isFrameSo_501 (by decide) ?_
            exact z_iret hx hb hr rfl hlocks D_281 hP hD hS (Nat.le_of_ble_eq_true rfl) (Nat.le_of_ble_eq_true rfl) dL_isFrameSo_505 ⟨rfl, hJ9⟩
          · refine lv_iload hx hb dL_isFrameSo_418 (lv_at hl 0 rfl) ?_
            refine lv_if_eq (tgt := 454) hx hb dL_isFrameSo_420 (by decide) (fun c_290 => absurd ((t_eq (show (1 : Int32).toInt = 1 by decide) (show (0 : Int32).toInt = 0 by decide)).mp c_290) (by omega)) (fun c_290 => ?_)
            have z0 : M 0 = 0 := (z_eq (b := 0) rfl rfl (by omega) (by omega)).mp c_269
            have z1 : M 1 = 10 := (z_eq (b := 10) rfl rfl (by omega) (by omega)).mp c_280
            have nb : ¬ bad M 10 := by
              unfold bad
              rw [z0, z1]
              omega
            have i1 : (frV M a9 c9 g9 10).1 = -1 := by rw [fr_two hx9 hy9 ht9 nb (by omega), if_pos ⟨rM1, by omega, by omega⟩]
            have i2 : (frV M a9 c9 (1 - g9) 10).1 = 0 := by rw [fr_two hx9 hy9 (show 1 - g9 < 2 by omega) nb (by omega), if_neg (fun z => absurd z.2.2 (by omega))]
            refine lv_aload_n hx hb dL_isFrameSo_423 rfl (lv_at hl 13 rfl) ?_
            refine lv_iload_n hx hb dL_isFrameSo_424 rfl (lv_at hl 14 rfl) ?_
            refine lv_iload_n hx hb dL_isFrameSo_425 rfl (lv_at hl 15 rfl) ?_
            refine lv_iload_n hx hb dL_isFrameSo_426 rfl (lv_at hl 16 rfl) ?_
            refine lv_bipush (v := 10) hx hb dL_isFrameSo_427 (by decide) ?_
            refine z_callM (val := (-1)) (va_runV (As := [.int (nI a9), .int (nI c9), .int (nI g9), .int 10]) (rest := []) ⟨hx, hb, hml, hown, hts⟩ (pC_ifFrame' l G H.size ad k_10.1 k_10.2 (a9 := a9) (c9 := c9) (g9 := g9) (st := 10) hx9 hy9 ht9 (Nat.le_of_ble_eq_true rfl) (Nat.le_of_ble_eq_true rfl) (V := -1) i1) (cwV 4 hts gL_isFrameSo_X5_ifFrame rfl rfl rfl (by decide +kernel) ⟨(Nat.le_of_ble_eq_true rfl), (Nat.le_of_ble_eq_true rfl)⟩) (zV (ci := 5) (q0 := 0) hK hP hD rfl (wCl_0 G ad D_10)) rfl rfl hl.1 rfl (lv_room (Nat.le_of_ble_eq_true rfl)) dL_isFrameSo_429 ⟨(Nat.le_of_ble_eq_true rfl), (Nat.le_of_ble_eq_true rfl)⟩) hP hD hS hA (fun D_291 H locs k_291 hP hD hS => ?_)
            refine lv_iconst (v := -1) hx hb dL_isFrameSo_432 (by decide) ?_
            refine lv_icmp_ne (tgt := 454) hx hb dL_isFrameSo_433 (by decide) (fun c_292 => absurd ((t_eq (show (-1 : Int32).toInt = -1 by decide) (show (-1 : Int32).toInt = -1 by decide)).mpr (by omega)) c_292) (fun c_292 => ?_)
            refine lv_aload_n hx hb dL_isFrameSo_436 rfl (lv_at hl 13 rfl) ?_
            refine lv_iload_n hx hb dL_isFrameSo_437 rfl (lv_at hl 14 rfl) ?_
            refine lv_iload_n hx hb dL_isFrameSo_438 rfl (lv_at hl 15 rfl) ?_
            refine lv_iconst (v := 1) hx hb dL_isFrameSo_439 (by decide) ?_
            refine lv_iload_n hx hb dL_isFrameSo_440 rfl (lv_at hl 16 rfl) ?_
            refine lv_isub hx hb dL_isFrameSo_441 ?_
            refine z_top (show (1 : Int32) - (nI g9) = nI (1 - g9) from pk_sub (a := 1) (b := g9) (by omega)) ?_
            refine lv_bipush (v := 10) hx hb dL_isFrameSo_442 (by decide) ?_
            refine z_callM (val := 0) (va_runV (As := [.int (nI a9), .int (nI c9), .int (nI (1 - g9)), .int 10]) (rest := []) ⟨hx, hb, hml, hown, hts⟩ (pC_ifFrame' l G H.size ad k_291.1 k_291.2 (a9 := a9) (c9 := c9) (g9 := (1 - g9)) (st := 10) hx9 hy9 (show 1 - g9 < 2 by omega) (Nat.le_of_ble_eq_true rfl) (Nat.le_of_ble_eq_true rfl) (V := 0) i2) (cwV 4 hts gL_isFrameSo_X5_ifFrame rfl rfl rfl (by decide +kernel) ⟨(Nat.le_of_ble_eq_true rfl), (Nat.le_of_ble_eq_true rfl)⟩) (zV (ci := 5) (q0 := 0) hK hP hD rfl (wCl_0 G ad D_291)) rfl rfl hl.1 rfl (lv_room (Nat.le_of_ble_eq_true rfl)) dL_isFrameSo_444 ⟨(Nat.le_of_ble_eq_true rfl), (Nat.le_of_ble_eq_true rfl)⟩) hP hD hS hA (fun D_293 H locs k_293 hP hD hS => ?_)
            refine lv_if_ne (tgt := 454) hx hb dL_isFrameSo_447 (by decide) (fun c_294 => absurd ((t_eq (show (0 : Int32).toInt = 0 by decide) (show (0 : Int32).toInt = 0 by decide)).mpr (by omega)) c_294) (fun c_294 => ?_)
            refine lv_iconst (v := 1) hx hb dL_isFrameSo_450 (by decide) ?_
            refine lv_goto (tgt := 455) hx hb dL_isFrameSo_451 (by decide) ?_
            refine lv_istore (lv' := [(17, .int 1), (16, .int 1), (15, .int (nI (M 1) - nI (N 1))), (14, .int (-1)), (13, .int (nI (rfs N))), (12, .int (reV N)), (11, .int (nI (hoV N))), (10, .int (nI (N (16 + c9)))), (9, .int (nI (N (32 + c9)))), (8, .int (nI (N 7))), (7, .int (nI (N 8))), (6, .int (nI (N 1))), (5, .int (-1)), (0, .ref ad.2.2.1), (1, .int (nI a9)), (2, .int (nI c9)), (3, .int (nI g9)), (4, .int (nI st))]) hx hb dL_isFrameSo_455 hl (by decide) rfl (fun ls hl => ?_)
            refine lv_aload_n hx hb dL_isFrameSo_457 rfl (lv_at hl 13 rfl) ?_
            refine z_callA (va_runV (As := []) (rest := []) ⟨hx, hb, hml, hown, hts⟩ (pC_undo' l G H.size ad k_293.1 k_293.2) (cwV 0 hts gL_isFrameSo_X5_undo rfl rfl rfl (by decide +kernel) ⟨(Nat.le_of_ble_eq_true rfl), (Nat.le_of_ble_eq_true rfl)⟩) (zV (ci := 5) (q0 := 0) hK hP hD rfl (wCl_0 G ad D_293)) rfl rfl hl.1 rfl (lv_room (Nat.le_of_ble_eq_true rfl)) dL_isFrameSo_458 ⟨(Nat.le_of_ble_eq_true rfl), (Nat.le_of_ble_eq_true rfl)⟩) hP hD hS hA (fun v_295 D_295 H locs k_295 hP hD hS => ?_)
            obtain ⟨⟨j9, j1, rfl⟩, ⟨m9, M9, k9J⟩, k9U⟩ := k_295
            have hJ9 := Ud_J k9U k9J
            refine lv_istore (lv' := [(18, .int (nI j9)), (17, .int 1), (16, .int 1), (15, .int (nI (M 1) - nI (N 1))), (14, .int (-1)), (13, .int (nI (rfs N))), (12, .int (reV N)), (11, .int (nI (hoV N))), (10, .int (nI (N (16 + c9)))), (9, .int (nI (N (32 + c9)))), (8, .int (nI (N 7))), (7, .int (nI (N 8))), (6, .int (nI (N 1))), (5, .int (-1)), (0, .ref ad.2.2.1), (1, .int (nI a9)), (2, .int (nI c9)), (3, .int (nI g9)), (4, .int (nI st))]) hx hb dL_isFrameSo_461 hl (by decide) rfl (fun ls hl => ?_)
            refine lv_iload hx hb dL_isFrameSo_463 (lv_at hl 1 rfl) ?_
            refine lv_if_eq (tgt := 504) hx hb dL_isFrameSo_465 (by decide) (fun c_296 => absurd ((t_eq (show (1 : Int32).toInt = 1 by decide) (show (0 : Int32).toInt = 0 by decide)).mp c_296) (by omega)) (fun c_296 => ?_)
            refine lv_iload hx hb dL_isFrameSo_468 (lv_at hl 0 rfl) ?_
            refine lv_if_lt (tgt := 504) hx hb dL_isFrameSo_470 (by decide) (fun c_297 => absurd ((t_lt (nI_toInt (n := j9) (by omega)) (show (0 : Int32).toInt = 0 by decide)).mp c_297) (by omega)) (fun c_297 => ?_)
            refine lv_aload_n hx hb dL_isFrameSo_473 rfl (lv_at hl 14 rfl) ?_
            refine z_callG (val := nI (N 8)) (va_runV (As := []) (rest := []) ⟨hx, hb, hml, hown, hts⟩ (pC_received l G H.size ad hJ9) (cwV 0 hts gL_isFrameSo_X5_received rfl rfl rfl (by decide +kernel) ⟨(Nat.le_of_ble_eq_true rfl), (Nat.le_of_ble_eq_true rfl)⟩) (zV (ci := 5) (q0 := 0) hK hP hD rfl (wCl_0 G ad D_295)) rfl rfl hl.1 rfl (lv_room (Nat.le_of_ble_eq_true rfl)) dL_isFrameSo_474 ⟨(Nat.le_of_ble_eq_true rfl), (Nat.le_of_ble_eq_true rfl)⟩) hP hD hS hA (fun H locs hP hD hS => ?_)
            refine lv_iload hx hb dL_isFrameSo_477 (lv_at hl 11 rfl) ?_
            refine lv_icmp_ne (tgt := 504) hx hb dL_isFrameSo_479 (by decide) (fun c_299 => absurd ((t_eq (nI_toInt (n := (N 8)) (by omega)) (nI_toInt (n := (N 8)) (by omega))).mpr (by omega)) c_299) (fun c_299 => ?_)
            refine lv_aload_n hx hb dL_isFrameSo_482 rfl (lv_at hl 14 rfl) ?_
            refine z_callG (val := nI (N 1)) (va_runV (As := []) (rest := []) ⟨hx, hb, hml, hown, hts⟩ (pC_gain l G H.size ad hJ9) (cwV 0 hts gL_isFrameSo_X5_gain rfl rfl rfl (by decide +kernel) ⟨(Nat.le_of_ble_eq_true rfl), (Nat.le_of_ble_eq_true rfl)⟩) (zV (ci := 5) (q0 := 0) hK hP hD rfl (wCl_0 G ad D_295)) rfl rfl hl.1 rfl (lv_room (Nat.le_of_ble_eq_true rfl)) dL_isFrameSo_483 ⟨(Nat.le_of_ble_eq_true rfl), (Nat.le_of_ble_eq_true rfl)⟩) hP hD hS hA (fun H locs hP hD hS => ?_)
            refine lv_iload hx hb dL_isFrameSo_486 (lv_at hl 12 rfl) ?_
            refine lv_icmp_ne (tgt := 504) hx hb dL_isFrameSo_488 (by decide) (fun c_301 => absurd ((t_eq (nI_toInt (n := (N 1)) (by omega)) (nI_toInt (n := (N 1)) (by omega))).mpr (by omega)) c_301) (fun c_301 => ?_)
            refine lv_aload_n hx hb dL_isFrameSo_491 rfl (lv_at hl 14 rfl) ?_
            refine z_callG (val := nI (hoV N)) (va_runV (As := []) (rest := []) ⟨hx, hb, hml, hown, hts⟩ (pC_holds' l G H.size ad hJ9 (show (if rem N then nI (N 5) else 0) = nI (hoV N) by unfold hoV; split <;> rfl)) (cwV 0 hts gL_isFrameSo_X5_holds rfl rfl rfl (by decide +kernel) ⟨(Nat.le_of_ble_eq_true rfl), (Nat.le_of_ble_eq_true rfl)⟩) (zV (ci := 5) (q0 := 0) hK hP hD rfl (wCl_0 G ad D_295)) rfl rfl hl.1 rfl (lv_room (Nat.le_of_ble_eq_true rfl)) dL_isFrameSo_492 ⟨(Nat.le_of_ble_eq_true rfl), (Nat.le_of_ble_eq_true rfl)⟩) hP hD hS hA (fun H locs hP hD hS => ?_)
            refine lv_iload hx hb dL_isFrameSo_495 (lv_at hl 7 rfl) ?_
            refine lv_icmp_ne (tgt := 504) hx hb dL_isFrameSo_497 (by decide) (fun c_303 => absurd ((t_eq (nI_toInt (n := (hoV N)) (by omega)) (nI_toInt (n := (hoV N)) (by omega))).mpr (by omega)) c_303) (fun c_303 => ?_)
            refine lv_iconst (v := 1) hx hb dL_isFrameSo_500 (by decide) ?_
            refine lv_goto (tgt := 505) hx hb dL_isFrameSo_501 (by decide) ?_
            exact z_iret hx hb hr rfl hlocks D_295 hP hD hS (Nat.le_of_ble_eq_true rfl) (Nat.le_of_ble_eq_true rfl) dL_isFrameSo_505 ⟨rfl, hJ9⟩
end PL4
